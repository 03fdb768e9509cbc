set_option maxHeartbeats 4000000 in
set_option maxRecDepth 100000 in
theorem xk_X8_keep_8 (l : Launch) (D : va_G) (q : Nat → Nat) (cA : Nat → ClassId) (F : Nat → Nat → Int32) (I R : Nat → Nat → Int32) (J : Nat → Nat → Int64) (hI : xInv F (I, R, J)) (pa1 : Int32) (hpa1 : zR 0 1 pa1) : zMv l D vwCl (zXtys cA) 81 q (zXd q cA) yX8_keep cX8_keep 5 none ({ frames := 4, cells := 0, slots := 0, locals := 90 } : Room) [.ref (q 39), .int (nI 3), .int (pa1)] (I, R, J) (fun u => xInv F u) := by
  intro sz
  refine z_body (by decide +kernel) (Nat.le_of_ble_eq_true rfl) (fun p e s m below meth c ls hx hb hml hr ht hown hlocks hsz hK hP hD hS hl => ?_)
  have hA : ∀ a, s.heap.size ≤ a → zA 81 q sz a := fun a h => Or.inr (hsz ▸ h)
  have hl : lv_has ls 5 [(0, .ref (q 39)), (1, .int (nI 3)), (2, .int (pa1))] := hl
  refine lv_iload_n hx hb dX8_keep_0 rfl (lv_at hl 1 rfl) ?_
  refine lv_iconst (v := nI 5) hx hb dX8_keep_1 (by decide +kernel) ?_
  refine lv_icmp_lt (tgt := 19) hx hb dX8_keep_2 (by decide) (fun _ => ?_) (fun c_0 => absurd (zD_lt zk_3 zk_5 (by decide)) c_0)
  refine lv_iload_n hx hb dX8_keep_19 rfl (lv_at hl 2 rfl) ?_
  refine z_callSi (As := [.int (pa1)]) (rest := []) hx hb hml hown ht (xk_J6_bitCount_0f7a4_1 l D q cA F _ _ _ hI (pa1) hpa1) hw_4_98 hmJ6_bitCount_0f7a4 ⟨rfl, rfl⟩ (na := 1) rfl (by decide +kernel) (by decide) hK hP hD hS hA hl.1 rfl (Nat.le_of_ble_eq_true rfl) ⟨Nat.zero_le _, Nat.zero_le _⟩ dX8_keep_20 (fun r_1 I_1 R_1 J_1 H locs hp_1 hP hD hS _ _ => ?_)
  obtain ⟨hr_1, hu_1⟩ := hp_1
  cases hu_1
  refine lv_iconst (v := nI 5) hx hb dX8_keep_23 (by decide +kernel) ?_
  refine lv_iadd hx hb dX8_keep_24 ?_
  refine z_addc 5 68 hr_1 zk_5 (by decide) (fun v_2 hv_2 mv_2 => ?_)
  refine lv_iload_n hx hb dX8_keep_25 rfl (lv_at hl 1 rfl) ?_
  refine lv_isub hx hb dX8_keep_26 ?_
  refine z_subc 2 65 (-3) hv_2 zk_3 (by decide) (fun v_3 hv_3 mv_3 => ?_)
  refine lv_aload_n hx hb dX8_keep_27 rfl (lv_at hl 0 rfl) ?_
  refine z_get hx hb ht hown hK hP ziX8 rfl 39 (by decide) 5 (by decide) hw_1_234 rfl (v := .int (I 39 5)) rfl dX8_keep_28 ?_
  refine z_callSi (As := [.int (I 39 5)]) (rest := [.int (v_3)]) hx hb hml hown ht (xk_J6_bitCount_0f7a4 l D q cA F _ _ _ hI (I 39 5)) hw_4_98 hmJ6_bitCount_0f7a4 ⟨rfl, rfl⟩ (na := 1) rfl (by decide +kernel) (by decide) hK hP hD hS hA hl.1 rfl (Nat.le_of_ble_eq_true rfl) ⟨Nat.zero_le _, Nat.zero_le _⟩ dX8_keep_31 (fun r_4 I_4 R_4 J_4 H locs hp_4 hP hD hS _ _ => ?_)
  obtain ⟨hr_4, hu_4⟩ := hp_4
  cases hu_4
  refine lv_icmp_ge (tgt := 38) hx hb dX8_keep_34 (by decide) (fun c_5 => ?_) (fun c_5 => ?_)
  · have t_c_5 := z_leT c_5
    refine lv_iconst (v := nI 0) hx hb dX8_keep_38 (by decide +kernel) ?_
    refine lv_istore_n (lv' := [(3, .int (nI 0)), (0, .ref (q 39)), (1, .int (nI 3)), (2, .int (pa1))]) hx hb dX8_keep_39 rfl hl (by decide) rfl (fun ls hl => ?_)
    have loop_70 : ∀ N : Nat, ∀ x_68 : Int32, zR 0 5 x_68 → ∀ I_69 : Nat → Nat → Int32, ∀ R_69 : Nat → Nat → Int32, ∀ J_69 : Nat → Nat → Int64, xInv F (I_69, R_69, J_69) → (2147483648 - (x_68).toInt).toNat < N → ∀ (H : Heap) (locs : List Loc), va_P D vwCl (zw 81 q (zXd q cA) I_69 R_69 J_69) H → va_D (zA 81 q sz) (zw 81 q (zXd q cA) I_69 R_69 J_69) → va_S (zA 81 q sz) s.heap H locs → ∀ ls : Array Slot, lv_has ls 5 [(0, .ref (q 39)), (1, .int (nI 3)), (2, .int (pa1)), (3, .int (x_68))] → W p l e ({ frames := 4, cells := 0, slots := 0, locals := 90 } : Room) s m ([.ref (q 39), .int (nI 3), .int (pa1)] : List Value).toArray below meth c H locs 0 0 (MQ below (va_Qv (fun u => xInv F u) (zB D vwCl 81 q (zXd q cA) sz) (zA 81 q sz)) ([.ref (q 39), .int (nI 3), .int (pa1)] : List Value).toArray s 0 0 (zA 81 q sz)) (F0 m 40 ls []) := by
      intro N
      induction N with
      | zero => intro x_68 hx_68 I_69 R_69 J_69 hI_69 hN; exact absurd hN (Nat.not_lt_zero _)
      | succ N ih_72 =>
        intro x_68 hx_68 I_69 R_69 J_69 hI_69 hN_71 H locs hP hD hS ls hl
        refine lv_iload_n hx hb dX8_keep_40 rfl (lv_at hl 3 rfl) ?_
        refine lv_iconst (v := nI 5) hx hb dX8_keep_41 (by decide +kernel) ?_
        refine lv_icmp_ge (tgt := 105) hx hb dX8_keep_42 (by decide) (fun c_73 => ?_) (fun c_73 => ?_)
        · have t_c_73 := z_leT c_73
          have f_89 : zR 5 5 (x_68) := zR_ley t_c_73 zk_5 hx_68 (by decide)
          refine lv_aload_n hx hb dX8_keep_105 rfl (lv_at hl 0 rfl) ?_
          refine lv_iload_n hx hb dX8_keep_106 rfl (lv_at hl 1 rfl) ?_
          refine lv_iconst (v := nI 1) hx hb dX8_keep_107 (by decide +kernel) ?_
          refine lv_iadd hx hb dX8_keep_108 ?_
          refine z_eqi (y := nI 4) (by decide +kernel) ?_
          refine lv_iload_n hx hb dX8_keep_109 rfl (lv_at hl 2 rfl) ?_
          refine z_callVv (k := 39) (As := [.int (nI 4), .int (pa1)]) (rest := []) hx hb hml hown ht (xk_X8_keep_9 l D q cA F _ _ _ hI_69 (pa1) hpa1) hw_4_90 hmX8_keep ⟨rfl, rfl⟩ (na := 2) rfl (by decide +kernel) (by decide) (by decide) rfl rfl hK hP hD hS hA hl.1 rfl (Nat.le_of_ble_eq_true rfl) ⟨Nat.zero_le _, Nat.zero_le _⟩ dX8_keep_110 (fun I_90 R_90 J_90 H locs hp_90 hP hD hS _ _ => ?_)
          exact z_vret hx hb hr hlocks hP hD hS dX8_keep_113 hp_90
        · have t_c_73 := z_leF c_73
          have f_91 : zR 0 4 (x_68) := zR_ltx t_c_73 hx_68 zk_5 (by decide)
          refine lv_aload_n hx hb dX8_keep_45 rfl (lv_at hl 0 rfl) ?_
          refine z_get hx hb ht hown hK hP ziX8 rfl 39 (by decide) 3 (by decide) hw_1_232 rfl (v := .ref (q 41)) rfl dX8_keep_46 ?_
          refine lv_iload_n hx hb dX8_keep_49 rfl (lv_at hl 1 rfl) ?_
          refine lv_iconst (v := nI 5) hx hb dX8_keep_50 (by decide +kernel) ?_
          refine lv_imul hx hb dX8_keep_51 ?_
          refine z_eqi (y := nI 15) (by decide +kernel) ?_
          refine lv_iload_n hx hb dX8_keep_52 rfl (lv_at hl 3 rfl) ?_
          refine lv_iadd hx hb dX8_keep_53 ?_
          refine z_cadd 15 19 zk_15 f_91 (by decide) (fun v_92 hv_92 mv_92 => ?_)
          refine z_iald hx hb hK hP 41 (by decide) 33 rfl rfl (zR_vin hv_92 (by decide)) dX8_keep_54 ?_
          refine z_eqi (y := R_69 41 (v_92).toNatClampNeg) rfl ?_
          have f_93 : zR (-1) 23 (R_69 41 (v_92).toNatClampNeg) := xR hI_69 41 (v_92).toNatClampNeg
          refine lv_istore (lv' := [(4, .int (R_69 41 (v_92).toNatClampNeg)), (0, .ref (q 39)), (1, .int (nI 3)), (2, .int (pa1)), (3, .int (x_68))]) hx hb dX8_keep_55 hl (by decide) rfl (fun ls hl => ?_)
          refine lv_iload hx hb dX8_keep_57 (lv_at hl 0 rfl) ?_
          refine lv_iconst (v := (-1)) hx hb dX8_keep_59 (by decide +kernel) ?_
          have t_104 : ∀ I_103 : Nat → Nat → Int32, ∀ R_103 : Nat → Nat → Int32, ∀ J_103 : Nat → Nat → Int64, xInv F (I_103, R_103, J_103) → ∀ (H : Heap) (locs : List Loc), va_P D vwCl (zw 81 q (zXd q cA) I_103 R_103 J_103) H → va_D (zA 81 q sz) (zw 81 q (zXd q cA) I_103 R_103 J_103) → va_S (zA 81 q sz) s.heap H locs → ∀ ls : Array Slot, lv_has ls 5 [(0, .ref (q 39)), (1, .int (nI 3)), (2, .int (pa1)), (3, .int (x_68)), (4, .int (R_69 41 (v_92).toNatClampNeg))] → W p l e ({ frames := 4, cells := 0, slots := 0, locals := 90 } : Room) s m ([.ref (q 39), .int (nI 3), .int (pa1)] : List Value).toArray below meth c H locs 0 0 (MQ below (va_Qv (fun u => xInv F u) (zB D vwCl 81 q (zXd q cA) sz) (zA 81 q sz)) ([.ref (q 39), .int (nI 3), .int (pa1)] : List Value).toArray s 0 0 (zA 81 q sz)) (F0 m 99 ls []) := by
            intro I_103 R_103 J_103 hI_103 H locs hP hD hS ls hl
            obtain ⟨v_105, ev_105⟩ : ∃ y : Int32, y = x_68 + nI 1 := ⟨_, rfl⟩
            have hv_105 : zR 1 5 v_105 := ev_105 ▸ zR_add f_91 zk_1 (by decide)
            have mv_105 : v_105.toInt = (x_68).toInt + 1 := by rw [ev_105, zR_addE f_91 zk_1 (by decide)]; rfl
            refine lv_iinc (v := v_105) (lv' := [(3, .int (v_105)), (0, .ref (q 39)), (1, .int (nI 3)), (2, .int (pa1)), (4, .int (R_69 41 (v_92).toNatClampNeg))]) hx hb dX8_keep_99 hl (k := 3) rfl (ev_105 ▸ rfl) (by decide) rfl (fun ls hl => ?_)
            refine lv_goto (tgt := 40) hx hb dX8_keep_102 (by decide) ?_
            exact ih_72 (v_105) (zR_w hv_105 (by decide)) _ _ _ hI_103 (z2_up mv_105 (by decide) hN_71) _ _ hP hD hS _ (lv_sub hl [1, 2, 3, 0] rfl)
          refine lv_icmp_eq (tgt := 99) hx hb dX8_keep_60 (by decide) (fun c_94 => ?_) (fun c_94 => ?_)
          · have t_c_94 := z_eqT c_94
            have f_106 : zR (-1) (-1) (R_69 41 (v_92).toNatClampNeg) := zR_eqx t_c_94 zk_m1
            exact t_104 _ _ _ hI_69 _ _ hP hD hS _ (lv_sub hl [1, 2, 3, 4, 0] rfl)
          · have t_c_94 := z_eqF c_94
            have f_107 : zR 0 23 (R_69 41 (v_92).toNatClampNeg) := zR_nex t_c_94 f_93 zk_m1 (by decide)
            refine lv_aload_n hx hb dX8_keep_63 rfl (lv_at hl 1 rfl) ?_
            refine lv_iload_n hx hb dX8_keep_64 rfl (lv_at hl 4 rfl) ?_
            refine lv_iload_n hx hb dX8_keep_65 rfl (lv_at hl 2 rfl) ?_
            refine z_callVi (k := 39) (As := [.int (x_68), .int (nI 3)]) (rest := []) hx hb hml hown ht (xk_X8_leads_5 l D q cA F _ _ _ hI_69 (x_68) f_91 (nI 3) (zR_w zk_3 (by decide))) hw_4_99 hmX8_leads ⟨rfl, rfl⟩ (na := 2) rfl (by decide +kernel) (by decide) (by decide) rfl rfl hK hP hD hS hA hl.1 rfl (Nat.le_of_ble_eq_true rfl) ⟨Nat.zero_le _, Nat.zero_le _⟩ dX8_keep_66 (fun r_108 I_108 R_108 J_108 H locs hp_108 hP hD hS _ _ => ?_)
            rcases hp_108 with ⟨rfl, hu_108⟩ | ⟨rfl, hu_108⟩
            · cases hu_108
              refine lv_if_ne (tgt := 99) hx hb dX8_keep_69 (by decide) (fun _ => ?_) (fun c_0 => absurd c_0 (zD_ne zk_1 zk_z (by decide)))
              exact t_104 _ _ _ hI_69 _ _ hP hD hS _ (lv_sub hl [1, 2, 3, 4, 0] rfl)
            · cases hu_108
              refine lv_if_ne (tgt := 99) hx hb dX8_keep_69 (by decide) (fun c_0 => absurd (zD_eq zk_0 zk_z) c_0) (fun _ => ?_)
              refine lv_aload_n hx hb dX8_keep_72 rfl (lv_at hl 1 rfl) ?_
              refine z_get hx hb ht hown hK hP ziX8 rfl 39 (by decide) 4 (by decide) hw_1_233 rfl (v := .ref (q 42)) rfl dX8_keep_73 ?_
              refine lv_iload_n hx hb dX8_keep_76 rfl (lv_at hl 2 rfl) ?_
              refine lv_iload_n hx hb dX8_keep_77 rfl (lv_at hl 4 rfl) ?_
              refine z_iast hx hb hK hP hD hS 42 (by decide) 34 (fun _ => rfl) rfl (zR_vin zk_3 (by decide)) dX8_keep_78 (fun H locs hP hD hS => ?_)
              have hI_109 := xInv_R hI_69 42 (nI 3).toNatClampNeg (x_68) (show zR (-1) 4 (x_68) from zR_w f_91 (by decide)) rfl
              refine lv_aload_n hx hb dX8_keep_79 rfl (lv_at hl 1 rfl) ?_
              refine lv_iload_n hx hb dX8_keep_80 rfl (lv_at hl 2 rfl) ?_
              refine lv_iconst (v := nI 1) hx hb dX8_keep_81 (by decide +kernel) ?_
              refine lv_iadd hx hb dX8_keep_82 ?_
              refine z_eqi (y := nI 4) (by decide +kernel) ?_
              refine lv_iload_n hx hb dX8_keep_83 rfl (lv_at hl 3 rfl) ?_
              refine lv_iconst (v := nI 1) hx hb dX8_keep_84 (by decide +kernel) ?_
              refine lv_iload hx hb dX8_keep_85 (lv_at hl 0 rfl) ?_
              refine lv_ishl hx hb dX8_keep_87 ?_
              refine z_rng (a := 1) (b := 8388608) (zR_shl1 23 f_107 (by decide)) (fun v_110 hv_110 => ?_)
              refine lv_ior hx hb dX8_keep_88 ?_
              refine z_rng (a := 0) (b := 16777215) (zR_or 24 hpa1 hv_110 (by decide)) (fun v_111 hv_111 => ?_)
              refine z_callVv (k := 39) (As := [.int (nI 4), .int (v_111)]) (rest := []) hx hb hml hown ht (xk_X8_keep_4 l D q cA F _ _ _ hI_109 (v_111)) hw_4_90 hmX8_keep ⟨rfl, rfl⟩ (na := 2) rfl (by decide +kernel) (by decide) (by decide) rfl rfl hK hP hD hS hA hl.1 rfl (Nat.le_of_ble_eq_true rfl) ⟨Nat.zero_le _, Nat.zero_le _⟩ dX8_keep_89 (fun I_112 R_112 J_112 H locs hp_112 hP hD hS _ _ => ?_)
              refine lv_aload_n hx hb dX8_keep_92 rfl (lv_at hl 1 rfl) ?_
              refine z_get hx hb ht hown hK hP ziX8 rfl 39 (by decide) 4 (by decide) hw_1_233 rfl (v := .ref (q 42)) rfl dX8_keep_93 ?_
              refine lv_iload_n hx hb dX8_keep_96 rfl (lv_at hl 2 rfl) ?_
              refine lv_iconst (v := (-1)) hx hb dX8_keep_97 (by decide +kernel) ?_
              refine z_iast hx hb hK hP hD hS 42 (by decide) 34 (fun _ => rfl) rfl (zR_vin zk_3 (by decide)) dX8_keep_98 (fun H locs hP hD hS => ?_)
              have hI_113 := xInv_R hp_112 42 (nI 3).toNatClampNeg ((-1)) (show zR (-1) 4 ((-1)) from zR_w zk_m1 (by decide)) rfl
              exact t_104 _ _ _ hI_113 _ _ hP hD hS _ (lv_sub hl [1, 2, 3, 4, 0] rfl)
    exact loop_70 _ (nI 0) (zR_w zk_0 (by decide)) _ _ _ hI (Nat.lt_succ_self _) _ _ hP hD hS _ (lv_sub hl [1, 2, 3, 0] rfl)
  · have t_c_5 := z_leF c_5
    have f_114 : zR 2 62 (v_3) := zR_ltx t_c_5 hv_3 hr_4 (by decide)
    have f_115 : zR 5 65 (v_2) := zR_shift mv_3 f_114 (by decide)
    have f_116 : zR 3 63 (r_4) := zR_lty t_c_5 hv_3 hr_4 (by decide)
    exact z_vret hx hb hr hlocks hP hD hS dX8_keep_37 hI
set_option maxHeartbeats 4000000 in
set_option maxRecDepth 100000 in
theorem xk_X8_keep_7 (l : Launch) (D : va_G) (q : Nat → Nat) (cA : Nat → ClassId) (F : Nat → Nat → Int32) (I R : Nat → Nat → Int32) (J : Nat → Nat → Int64) (hI : xInv F (I, R, J)) (pa1 : Int32) (hpa1 : zR 0 1 pa1) : zMv l D vwCl (zXtys cA) 81 q (zXd q cA) yX8_keep cX8_keep 5 none ({ frames := 5, cells := 0, slots := 0, locals := 114 } : Room) [.ref (q 39), .int (nI 2), .int (pa1)] (I, R, J) (fun u => xInv F u) := by
  intro sz
  refine z_body (by decide +kernel) (Nat.le_of_ble_eq_true rfl) (fun p e s m below meth c ls hx hb hml hr ht hown hlocks hsz hK hP hD hS hl => ?_)
  have hA : ∀ a, s.heap.size ≤ a → zA 81 q sz a := fun a h => Or.inr (hsz ▸ h)
  have hl : lv_has ls 5 [(0, .ref (q 39)), (1, .int (nI 2)), (2, .int (pa1))] := hl
  refine lv_iload_n hx hb dX8_keep_0 rfl (lv_at hl 1 rfl) ?_
  refine lv_iconst (v := nI 5) hx hb dX8_keep_1 (by decide +kernel) ?_
  refine lv_icmp_lt (tgt := 19) hx hb dX8_keep_2 (by decide) (fun _ => ?_) (fun c_0 => absurd (zD_lt zk_2 zk_5 (by decide)) c_0)
  refine lv_iload_n hx hb dX8_keep_19 rfl (lv_at hl 2 rfl) ?_
  refine z_callSi (As := [.int (pa1)]) (rest := []) hx hb hml hown ht (xk_J6_bitCount_0f7a4_1 l D q cA F _ _ _ hI (pa1) hpa1) hw_4_98 hmJ6_bitCount_0f7a4 ⟨rfl, rfl⟩ (na := 1) rfl (by decide +kernel) (by decide) hK hP hD hS hA hl.1 rfl (Nat.le_of_ble_eq_true rfl) ⟨Nat.zero_le _, Nat.zero_le _⟩ dX8_keep_20 (fun r_1 I_1 R_1 J_1 H locs hp_1 hP hD hS _ _ => ?_)
  obtain ⟨hr_1, hu_1⟩ := hp_1
  cases hu_1
  refine lv_iconst (v := nI 5) hx hb dX8_keep_23 (by decide +kernel) ?_
  refine lv_iadd hx hb dX8_keep_24 ?_
  refine z_addc 5 68 hr_1 zk_5 (by decide) (fun v_2 hv_2 mv_2 => ?_)
  refine lv_iload_n hx hb dX8_keep_25 rfl (lv_at hl 1 rfl) ?_
  refine lv_isub hx hb dX8_keep_26 ?_
  refine z_subc 3 66 (-2) hv_2 zk_2 (by decide) (fun v_3 hv_3 mv_3 => ?_)
  refine lv_aload_n hx hb dX8_keep_27 rfl (lv_at hl 0 rfl) ?_
  refine z_get hx hb ht hown hK hP ziX8 rfl 39 (by decide) 5 (by decide) hw_1_234 rfl (v := .int (I 39 5)) rfl dX8_keep_28 ?_
  refine z_callSi (As := [.int (I 39 5)]) (rest := [.int (v_3)]) hx hb hml hown ht (xk_J6_bitCount_0f7a4 l D q cA F _ _ _ hI (I 39 5)) hw_4_98 hmJ6_bitCount_0f7a4 ⟨rfl, rfl⟩ (na := 1) rfl (by decide +kernel) (by decide) hK hP hD hS hA hl.1 rfl (Nat.le_of_ble_eq_true rfl) ⟨Nat.zero_le _, Nat.zero_le _⟩ dX8_keep_31 (fun r_4 I_4 R_4 J_4 H locs hp_4 hP hD hS _ _ => ?_)
  obtain ⟨hr_4, hu_4⟩ := hp_4
  cases hu_4
  refine lv_icmp_ge (tgt := 38) hx hb dX8_keep_34 (by decide) (fun c_5 => ?_) (fun c_5 => ?_)
  · have t_c_5 := z_leT c_5
    refine lv_iconst (v := nI 0) hx hb dX8_keep_38 (by decide +kernel) ?_
    refine lv_istore_n (lv' := [(3, .int (nI 0)), (0, .ref (q 39)), (1, .int (nI 2)), (2, .int (pa1))]) hx hb dX8_keep_39 rfl hl (by decide) rfl (fun ls hl => ?_)
    have loop_70 : ∀ N : Nat, ∀ x_68 : Int32, zR 0 5 x_68 → ∀ I_69 : Nat → Nat → Int32, ∀ R_69 : Nat → Nat → Int32, ∀ J_69 : Nat → Nat → Int64, xInv F (I_69, R_69, J_69) → (2147483648 - (x_68).toInt).toNat < N → ∀ (H : Heap) (locs : List Loc), va_P D vwCl (zw 81 q (zXd q cA) I_69 R_69 J_69) H → va_D (zA 81 q sz) (zw 81 q (zXd q cA) I_69 R_69 J_69) → va_S (zA 81 q sz) s.heap H locs → ∀ ls : Array Slot, lv_has ls 5 [(0, .ref (q 39)), (1, .int (nI 2)), (2, .int (pa1)), (3, .int (x_68))] → W p l e ({ frames := 5, cells := 0, slots := 0, locals := 114 } : Room) s m ([.ref (q 39), .int (nI 2), .int (pa1)] : List Value).toArray below meth c H locs 0 0 (MQ below (va_Qv (fun u => xInv F u) (zB D vwCl 81 q (zXd q cA) sz) (zA 81 q sz)) ([.ref (q 39), .int (nI 2), .int (pa1)] : List Value).toArray s 0 0 (zA 81 q sz)) (F0 m 40 ls []) := by
      intro N
      induction N with
      | zero => intro x_68 hx_68 I_69 R_69 J_69 hI_69 hN; exact absurd hN (Nat.not_lt_zero _)
      | succ N ih_72 =>
        intro x_68 hx_68 I_69 R_69 J_69 hI_69 hN_71 H locs hP hD hS ls hl
        refine lv_iload_n hx hb dX8_keep_40 rfl (lv_at hl 3 rfl) ?_
        refine lv_iconst (v := nI 5) hx hb dX8_keep_41 (by decide +kernel) ?_
        refine lv_icmp_ge (tgt := 105) hx hb dX8_keep_42 (by decide) (fun c_73 => ?_) (fun c_73 => ?_)
        · have t_c_73 := z_leT c_73
          have f_89 : zR 5 5 (x_68) := zR_ley t_c_73 zk_5 hx_68 (by decide)
          refine lv_aload_n hx hb dX8_keep_105 rfl (lv_at hl 0 rfl) ?_
          refine lv_iload_n hx hb dX8_keep_106 rfl (lv_at hl 1 rfl) ?_
          refine lv_iconst (v := nI 1) hx hb dX8_keep_107 (by decide +kernel) ?_
          refine lv_iadd hx hb dX8_keep_108 ?_
          refine z_eqi (y := nI 3) (by decide +kernel) ?_
          refine lv_iload_n hx hb dX8_keep_109 rfl (lv_at hl 2 rfl) ?_
          refine z_callVv (k := 39) (As := [.int (nI 3), .int (pa1)]) (rest := []) hx hb hml hown ht (xk_X8_keep_8 l D q cA F _ _ _ hI_69 (pa1) hpa1) hw_4_90 hmX8_keep ⟨rfl, rfl⟩ (na := 2) rfl (by decide +kernel) (by decide) (by decide) rfl rfl hK hP hD hS hA hl.1 rfl (Nat.le_of_ble_eq_true rfl) ⟨Nat.zero_le _, Nat.zero_le _⟩ dX8_keep_110 (fun I_90 R_90 J_90 H locs hp_90 hP hD hS _ _ => ?_)
          exact z_vret hx hb hr hlocks hP hD hS dX8_keep_113 hp_90
        · have t_c_73 := z_leF c_73
          have f_91 : zR 0 4 (x_68) := zR_ltx t_c_73 hx_68 zk_5 (by decide)
          refine lv_aload_n hx hb dX8_keep_45 rfl (lv_at hl 0 rfl) ?_
          refine z_get hx hb ht hown hK hP ziX8 rfl 39 (by decide) 3 (by decide) hw_1_232 rfl (v := .ref (q 41)) rfl dX8_keep_46 ?_
          refine lv_iload_n hx hb dX8_keep_49 rfl (lv_at hl 1 rfl) ?_
          refine lv_iconst (v := nI 5) hx hb dX8_keep_50 (by decide +kernel) ?_
          refine lv_imul hx hb dX8_keep_51 ?_
          refine z_eqi (y := nI 10) (by decide +kernel) ?_
          refine lv_iload_n hx hb dX8_keep_52 rfl (lv_at hl 3 rfl) ?_
          refine lv_iadd hx hb dX8_keep_53 ?_
          refine z_cadd 10 14 zk_10 f_91 (by decide) (fun v_92 hv_92 mv_92 => ?_)
          refine z_iald hx hb hK hP 41 (by decide) 33 rfl rfl (zR_vin hv_92 (by decide)) dX8_keep_54 ?_
          refine z_eqi (y := R_69 41 (v_92).toNatClampNeg) rfl ?_
          have f_93 : zR (-1) 23 (R_69 41 (v_92).toNatClampNeg) := xR hI_69 41 (v_92).toNatClampNeg
          refine lv_istore (lv' := [(4, .int (R_69 41 (v_92).toNatClampNeg)), (0, .ref (q 39)), (1, .int (nI 2)), (2, .int (pa1)), (3, .int (x_68))]) hx hb dX8_keep_55 hl (by decide) rfl (fun ls hl => ?_)
          refine lv_iload hx hb dX8_keep_57 (lv_at hl 0 rfl) ?_
          refine lv_iconst (v := (-1)) hx hb dX8_keep_59 (by decide +kernel) ?_
          have t_104 : ∀ I_103 : Nat → Nat → Int32, ∀ R_103 : Nat → Nat → Int32, ∀ J_103 : Nat → Nat → Int64, xInv F (I_103, R_103, J_103) → ∀ (H : Heap) (locs : List Loc), va_P D vwCl (zw 81 q (zXd q cA) I_103 R_103 J_103) H → va_D (zA 81 q sz) (zw 81 q (zXd q cA) I_103 R_103 J_103) → va_S (zA 81 q sz) s.heap H locs → ∀ ls : Array Slot, lv_has ls 5 [(0, .ref (q 39)), (1, .int (nI 2)), (2, .int (pa1)), (3, .int (x_68)), (4, .int (R_69 41 (v_92).toNatClampNeg))] → W p l e ({ frames := 5, cells := 0, slots := 0, locals := 114 } : Room) s m ([.ref (q 39), .int (nI 2), .int (pa1)] : List Value).toArray below meth c H locs 0 0 (MQ below (va_Qv (fun u => xInv F u) (zB D vwCl 81 q (zXd q cA) sz) (zA 81 q sz)) ([.ref (q 39), .int (nI 2), .int (pa1)] : List Value).toArray s 0 0 (zA 81 q sz)) (F0 m 99 ls []) := by
            intro I_103 R_103 J_103 hI_103 H locs hP hD hS ls hl
            obtain ⟨v_105, ev_105⟩ : ∃ y : Int32, y = x_68 + nI 1 := ⟨_, rfl⟩
            have hv_105 : zR 1 5 v_105 := ev_105 ▸ zR_add f_91 zk_1 (by decide)
            have mv_105 : v_105.toInt = (x_68).toInt + 1 := by rw [ev_105, zR_addE f_91 zk_1 (by decide)]; rfl
            refine lv_iinc (v := v_105) (lv' := [(3, .int (v_105)), (0, .ref (q 39)), (1, .int (nI 2)), (2, .int (pa1)), (4, .int (R_69 41 (v_92).toNatClampNeg))]) hx hb dX8_keep_99 hl (k := 3) rfl (ev_105 ▸ rfl) (by decide) rfl (fun ls hl => ?_)
            refine lv_goto (tgt := 40) hx hb dX8_keep_102 (by decide) ?_
            exact ih_72 (v_105) (zR_w hv_105 (by decide)) _ _ _ hI_103 (z2_up mv_105 (by decide) hN_71) _ _ hP hD hS _ (lv_sub hl [1, 2, 3, 0] rfl)
          refine lv_icmp_eq (tgt := 99) hx hb dX8_keep_60 (by decide) (fun c_94 => ?_) (fun c_94 => ?_)
          · have t_c_94 := z_eqT c_94
            have f_106 : zR (-1) (-1) (R_69 41 (v_92).toNatClampNeg) := zR_eqx t_c_94 zk_m1
            exact t_104 _ _ _ hI_69 _ _ hP hD hS _ (lv_sub hl [1, 2, 3, 4, 0] rfl)
          · have t_c_94 := z_eqF c_94
            have f_107 : zR 0 23 (R_69 41 (v_92).toNatClampNeg) := zR_nex t_c_94 f_93 zk_m1 (by decide)
            refine lv_aload_n hx hb dX8_keep_63 rfl (lv_at hl 1 rfl) ?_
            refine lv_iload_n hx hb dX8_keep_64 rfl (lv_at hl 4 rfl) ?_
            refine lv_iload_n hx hb dX8_keep_65 rfl (lv_at hl 2 rfl) ?_
            refine z_callVi (k := 39) (As := [.int (x_68), .int (nI 2)]) (rest := []) hx hb hml hown ht (xk_X8_leads_6 l D q cA F _ _ _ hI_69 (x_68) f_91 (nI 2) (zR_w zk_2 (by decide))) hw_4_99 hmX8_leads ⟨rfl, rfl⟩ (na := 2) rfl (by decide +kernel) (by decide) (by decide) rfl rfl hK hP hD hS hA hl.1 rfl (Nat.le_of_ble_eq_true rfl) ⟨Nat.zero_le _, Nat.zero_le _⟩ dX8_keep_66 (fun r_108 I_108 R_108 J_108 H locs hp_108 hP hD hS _ _ => ?_)
            rcases hp_108 with ⟨rfl, hu_108⟩ | ⟨rfl, hu_108⟩
            · cases hu_108
              refine lv_if_ne (tgt := 99) hx hb dX8_keep_69 (by decide) (fun _ => ?_) (fun c_0 => absurd c_0 (zD_ne zk_1 zk_z (by decide)))
              exact t_104 _ _ _ hI_69 _ _ hP hD hS _ (lv_sub hl [1, 2, 3, 4, 0] rfl)
            · cases hu_108
              refine lv_if_ne (tgt := 99) hx hb dX8_keep_69 (by decide) (fun c_0 => absurd (zD_eq zk_0 zk_z) c_0) (fun _ => ?_)
              refine lv_aload_n hx hb dX8_keep_72 rfl (lv_at hl 1 rfl) ?_
              refine z_get hx hb ht hown hK hP ziX8 rfl 39 (by decide) 4 (by decide) hw_1_233 rfl (v := .ref (q 42)) rfl dX8_keep_73 ?_
              refine lv_iload_n hx hb dX8_keep_76 rfl (lv_at hl 2 rfl) ?_
              refine lv_iload_n hx hb dX8_keep_77 rfl (lv_at hl 4 rfl) ?_
              refine z_iast hx hb hK hP hD hS 42 (by decide) 34 (fun _ => rfl) rfl (zR_vin zk_2 (by decide)) dX8_keep_78 (fun H locs hP hD hS => ?_)
              have hI_109 := xInv_R hI_69 42 (nI 2).toNatClampNeg (x_68) (show zR (-1) 4 (x_68) from zR_w f_91 (by decide)) rfl
              refine lv_aload_n hx hb dX8_keep_79 rfl (lv_at hl 1 rfl) ?_
              refine lv_iload_n hx hb dX8_keep_80 rfl (lv_at hl 2 rfl) ?_
              refine lv_iconst (v := nI 1) hx hb dX8_keep_81 (by decide +kernel) ?_
              refine lv_iadd hx hb dX8_keep_82 ?_
              refine z_eqi (y := nI 3) (by decide +kernel) ?_
              refine lv_iload_n hx hb dX8_keep_83 rfl (lv_at hl 3 rfl) ?_
              refine lv_iconst (v := nI 1) hx hb dX8_keep_84 (by decide +kernel) ?_
              refine lv_iload hx hb dX8_keep_85 (lv_at hl 0 rfl) ?_
              refine lv_ishl hx hb dX8_keep_87 ?_
              refine z_rng (a := 1) (b := 8388608) (zR_shl1 23 f_107 (by decide)) (fun v_110 hv_110 => ?_)
              refine lv_ior hx hb dX8_keep_88 ?_
              refine z_rng (a := 0) (b := 16777215) (zR_or 24 hpa1 hv_110 (by decide)) (fun v_111 hv_111 => ?_)
              refine z_callVv (k := 39) (As := [.int (nI 3), .int (v_111)]) (rest := []) hx hb hml hown ht (xk_X8_keep_3 l D q cA F _ _ _ hI_109 (v_111)) hw_4_90 hmX8_keep ⟨rfl, rfl⟩ (na := 2) rfl (by decide +kernel) (by decide) (by decide) rfl rfl hK hP hD hS hA hl.1 rfl (Nat.le_of_ble_eq_true rfl) ⟨Nat.zero_le _, Nat.zero_le _⟩ dX8_keep_89 (fun I_112 R_112 J_112 H locs hp_112 hP hD hS _ _ => ?_)
              refine lv_aload_n hx hb dX8_keep_92 rfl (lv_at hl 1 rfl) ?_
              refine z_get hx hb ht hown hK hP ziX8 rfl 39 (by decide) 4 (by decide) hw_1_233 rfl (v := .ref (q 42)) rfl dX8_keep_93 ?_
              refine lv_iload_n hx hb dX8_keep_96 rfl (lv_at hl 2 rfl) ?_
              refine lv_iconst (v := (-1)) hx hb dX8_keep_97 (by decide +kernel) ?_
              refine z_iast hx hb hK hP hD hS 42 (by decide) 34 (fun _ => rfl) rfl (zR_vin zk_2 (by decide)) dX8_keep_98 (fun H locs hP hD hS => ?_)
              have hI_113 := xInv_R hp_112 42 (nI 2).toNatClampNeg ((-1)) (show zR (-1) 4 ((-1)) from zR_w zk_m1 (by decide)) rfl
              exact t_104 _ _ _ hI_113 _ _ hP hD hS _ (lv_sub hl [1, 2, 3, 4, 0] rfl)
    exact loop_70 _ (nI 0) (zR_w zk_0 (by decide)) _ _ _ hI (Nat.lt_succ_self _) _ _ hP hD hS _ (lv_sub hl [1, 2, 3, 0] rfl)
  · have t_c_5 := z_leF c_5
    have f_114 : zR 3 62 (v_3) := zR_ltx t_c_5 hv_3 hr_4 (by decide)
    have f_115 : zR 5 64 (v_2) := zR_shift mv_3 f_114 (by decide)
    have f_116 : zR 4 63 (r_4) := zR_lty t_c_5 hv_3 hr_4 (by decide)
    exact z_vret hx hb hr hlocks hP hD hS dX8_keep_37 hI
set_option maxHeartbeats 4000000 in
set_option maxRecDepth 100000 in
theorem xk_X8_keep_6 (l : Launch) (D : va_G) (q : Nat → Nat) (cA : Nat → ClassId) (F : Nat → Nat → Int32) (I R : Nat → Nat → Int32) (J : Nat → Nat → Int64) (hI : xInv F (I, R, J)) (pa1 : Int32) (hpa1 : zR 0 1 pa1) : zMv l D vwCl (zXtys cA) 81 q (zXd q cA) yX8_keep cX8_keep 5 none ({ frames := 6, cells := 0, slots := 0, locals := 138 } : Room) [.ref (q 39), .int (nI 1), .int (pa1)] (I, R, J) (fun u => xInv F u) := by
  intro sz
  refine z_body (by decide +kernel) (Nat.le_of_ble_eq_true rfl) (fun p e s m below meth c ls hx hb hml hr ht hown hlocks hsz hK hP hD hS hl => ?_)
  have hA : ∀ a, s.heap.size ≤ a → zA 81 q sz a := fun a h => Or.inr (hsz ▸ h)
  have hl : lv_has ls 5 [(0, .ref (q 39)), (1, .int (nI 1)), (2, .int (pa1))] := hl
  refine lv_iload_n hx hb dX8_keep_0 rfl (lv_at hl 1 rfl) ?_
  refine lv_iconst (v := nI 5) hx hb dX8_keep_1 (by decide +kernel) ?_
  refine lv_icmp_lt (tgt := 19) hx hb dX8_keep_2 (by decide) (fun _ => ?_) (fun c_0 => absurd (zD_lt zk_1 zk_5 (by decide)) c_0)
  refine lv_iload_n hx hb dX8_keep_19 rfl (lv_at hl 2 rfl) ?_
  refine z_callSi (As := [.int (pa1)]) (rest := []) hx hb hml hown ht (xk_J6_bitCount_0f7a4_1 l D q cA F _ _ _ hI (pa1) hpa1) hw_4_98 hmJ6_bitCount_0f7a4 ⟨rfl, rfl⟩ (na := 1) rfl (by decide +kernel) (by decide) hK hP hD hS hA hl.1 rfl (Nat.le_of_ble_eq_true rfl) ⟨Nat.zero_le _, Nat.zero_le _⟩ dX8_keep_20 (fun r_1 I_1 R_1 J_1 H locs hp_1 hP hD hS _ _ => ?_)
  obtain ⟨hr_1, hu_1⟩ := hp_1
  cases hu_1
  refine lv_iconst (v := nI 5) hx hb dX8_keep_23 (by decide +kernel) ?_
  refine lv_iadd hx hb dX8_keep_24 ?_
  refine z_addc 5 68 hr_1 zk_5 (by decide) (fun v_2 hv_2 mv_2 => ?_)
  refine lv_iload_n hx hb dX8_keep_25 rfl (lv_at hl 1 rfl) ?_
  refine lv_isub hx hb dX8_keep_26 ?_
  refine z_subc 4 67 (-1) hv_2 zk_1 (by decide) (fun v_3 hv_3 mv_3 => ?_)
  refine lv_aload_n hx hb dX8_keep_27 rfl (lv_at hl 0 rfl) ?_
  refine z_get hx hb ht hown hK hP ziX8 rfl 39 (by decide) 5 (by decide) hw_1_234 rfl (v := .int (I 39 5)) rfl dX8_keep_28 ?_
  refine z_callSi (As := [.int (I 39 5)]) (rest := [.int (v_3)]) hx hb hml hown ht (xk_J6_bitCount_0f7a4 l D q cA F _ _ _ hI (I 39 5)) hw_4_98 hmJ6_bitCount_0f7a4 ⟨rfl, rfl⟩ (na := 1) rfl (by decide +kernel) (by decide) hK hP hD hS hA hl.1 rfl (Nat.le_of_ble_eq_true rfl) ⟨Nat.zero_le _, Nat.zero_le _⟩ dX8_keep_31 (fun r_4 I_4 R_4 J_4 H locs hp_4 hP hD hS _ _ => ?_)
  obtain ⟨hr_4, hu_4⟩ := hp_4
  cases hu_4
  refine lv_icmp_ge (tgt := 38) hx hb dX8_keep_34 (by decide) (fun c_5 => ?_) (fun c_5 => ?_)
  · have t_c_5 := z_leT c_5
    refine lv_iconst (v := nI 0) hx hb dX8_keep_38 (by decide +kernel) ?_
    refine lv_istore_n (lv' := [(3, .int (nI 0)), (0, .ref (q 39)), (1, .int (nI 1)), (2, .int (pa1))]) hx hb dX8_keep_39 rfl hl (by decide) rfl (fun ls hl => ?_)
    have loop_70 : ∀ N : Nat, ∀ x_68 : Int32, zR 0 5 x_68 → ∀ I_69 : Nat → Nat → Int32, ∀ R_69 : Nat → Nat → Int32, ∀ J_69 : Nat → Nat → Int64, xInv F (I_69, R_69, J_69) → (2147483648 - (x_68).toInt).toNat < N → ∀ (H : Heap) (locs : List Loc), va_P D vwCl (zw 81 q (zXd q cA) I_69 R_69 J_69) H → va_D (zA 81 q sz) (zw 81 q (zXd q cA) I_69 R_69 J_69) → va_S (zA 81 q sz) s.heap H locs → ∀ ls : Array Slot, lv_has ls 5 [(0, .ref (q 39)), (1, .int (nI 1)), (2, .int (pa1)), (3, .int (x_68))] → W p l e ({ frames := 6, cells := 0, slots := 0, locals := 138 } : Room) s m ([.ref (q 39), .int (nI 1), .int (pa1)] : List Value).toArray below meth c H locs 0 0 (MQ below (va_Qv (fun u => xInv F u) (zB D vwCl 81 q (zXd q cA) sz) (zA 81 q sz)) ([.ref (q 39), .int (nI 1), .int (pa1)] : List Value).toArray s 0 0 (zA 81 q sz)) (F0 m 40 ls []) := by
      intro N
      induction N with
      | zero => intro x_68 hx_68 I_69 R_69 J_69 hI_69 hN; exact absurd hN (Nat.not_lt_zero _)
      | succ N ih_72 =>
        intro x_68 hx_68 I_69 R_69 J_69 hI_69 hN_71 H locs hP hD hS ls hl
        refine lv_iload_n hx hb dX8_keep_40 rfl (lv_at hl 3 rfl) ?_
        refine lv_iconst (v := nI 5) hx hb dX8_keep_41 (by decide +kernel) ?_
        refine lv_icmp_ge (tgt := 105) hx hb dX8_keep_42 (by decide) (fun c_73 => ?_) (fun c_73 => ?_)
        · have t_c_73 := z_leT c_73
          have f_89 : zR 5 5 (x_68) := zR_ley t_c_73 zk_5 hx_68 (by decide)
          refine lv_aload_n hx hb dX8_keep_105 rfl (lv_at hl 0 rfl) ?_
          refine lv_iload_n hx hb dX8_keep_106 rfl (lv_at hl 1 rfl) ?_
          refine lv_iconst (v := nI 1) hx hb dX8_keep_107 (by decide +kernel) ?_
          refine lv_iadd hx hb dX8_keep_108 ?_
          refine z_eqi (y := nI 2) (by decide +kernel) ?_
          refine lv_iload_n hx hb dX8_keep_109 rfl (lv_at hl 2 rfl) ?_
          refine z_callVv (k := 39) (As := [.int (nI 2), .int (pa1)]) (rest := []) hx hb hml hown ht (xk_X8_keep_7 l D q cA F _ _ _ hI_69 (pa1) hpa1) hw_4_90 hmX8_keep ⟨rfl, rfl⟩ (na := 2) rfl (by decide +kernel) (by decide) (by decide) rfl rfl hK hP hD hS hA hl.1 rfl (Nat.le_of_ble_eq_true rfl) ⟨Nat.zero_le _, Nat.zero_le _⟩ dX8_keep_110 (fun I_90 R_90 J_90 H locs hp_90 hP hD hS _ _ => ?_)
          exact z_vret hx hb hr hlocks hP hD hS dX8_keep_113 hp_90
        · have t_c_73 := z_leF c_73
          have f_91 : zR 0 4 (x_68) := zR_ltx t_c_73 hx_68 zk_5 (by decide)
          refine lv_aload_n hx hb dX8_keep_45 rfl (lv_at hl 0 rfl) ?_
          refine z_get hx hb ht hown hK hP ziX8 rfl 39 (by decide) 3 (by decide) hw_1_232 rfl (v := .ref (q 41)) rfl dX8_keep_46 ?_
          refine lv_iload_n hx hb dX8_keep_49 rfl (lv_at hl 1 rfl) ?_
          refine lv_iconst (v := nI 5) hx hb dX8_keep_50 (by decide +kernel) ?_
          refine lv_imul hx hb dX8_keep_51 ?_
          refine z_eqi (y := nI 5) (by decide +kernel) ?_
          refine lv_iload_n hx hb dX8_keep_52 rfl (lv_at hl 3 rfl) ?_
          refine lv_iadd hx hb dX8_keep_53 ?_
          refine z_cadd 5 9 zk_5 f_91 (by decide) (fun v_92 hv_92 mv_92 => ?_)
          refine z_iald hx hb hK hP 41 (by decide) 33 rfl rfl (zR_vin hv_92 (by decide)) dX8_keep_54 ?_
          refine z_eqi (y := R_69 41 (v_92).toNatClampNeg) rfl ?_
          have f_93 : zR (-1) 23 (R_69 41 (v_92).toNatClampNeg) := xR hI_69 41 (v_92).toNatClampNeg
          refine lv_istore (lv' := [(4, .int (R_69 41 (v_92).toNatClampNeg)), (0, .ref (q 39)), (1, .int (nI 1)), (2, .int (pa1)), (3, .int (x_68))]) hx hb dX8_keep_55 hl (by decide) rfl (fun ls hl => ?_)
          refine lv_iload hx hb dX8_keep_57 (lv_at hl 0 rfl) ?_
          refine lv_iconst (v := (-1)) hx hb dX8_keep_59 (by decide +kernel) ?_
          have t_104 : ∀ I_103 : Nat → Nat → Int32, ∀ R_103 : Nat → Nat → Int32, ∀ J_103 : Nat → Nat → Int64, xInv F (I_103, R_103, J_103) → ∀ (H : Heap) (locs : List Loc), va_P D vwCl (zw 81 q (zXd q cA) I_103 R_103 J_103) H → va_D (zA 81 q sz) (zw 81 q (zXd q cA) I_103 R_103 J_103) → va_S (zA 81 q sz) s.heap H locs → ∀ ls : Array Slot, lv_has ls 5 [(0, .ref (q 39)), (1, .int (nI 1)), (2, .int (pa1)), (3, .int (x_68)), (4, .int (R_69 41 (v_92).toNatClampNeg))] → W p l e ({ frames := 6, cells := 0, slots := 0, locals := 138 } : Room) s m ([.ref (q 39), .int (nI 1), .int (pa1)] : List Value).toArray below meth c H locs 0 0 (MQ below (va_Qv (fun u => xInv F u) (zB D vwCl 81 q (zXd q cA) sz) (zA 81 q sz)) ([.ref (q 39), .int (nI 1), .int (pa1)] : List Value).toArray s 0 0 (zA 81 q sz)) (F0 m 99 ls []) := by
            intro I_103 R_103 J_103 hI_103 H locs hP hD hS ls hl
            obtain ⟨v_105, ev_105⟩ : ∃ y : Int32, y = x_68 + nI 1 := ⟨_, rfl⟩
            have hv_105 : zR 1 5 v_105 := ev_105 ▸ zR_add f_91 zk_1 (by decide)
            have mv_105 : v_105.toInt = (x_68).toInt + 1 := by rw [ev_105, zR_addE f_91 zk_1 (by decide)]; rfl
            refine lv_iinc (v := v_105) (lv' := [(3, .int (v_105)), (0, .ref (q 39)), (1, .int (nI 1)), (2, .int (pa1)), (4, .int (R_69 41 (v_92).toNatClampNeg))]) hx hb dX8_keep_99 hl (k := 3) rfl (ev_105 ▸ rfl) (by decide) rfl (fun ls hl => ?_)
            refine lv_goto (tgt := 40) hx hb dX8_keep_102 (by decide) ?_
            exact ih_72 (v_105) (zR_w hv_105 (by decide)) _ _ _ hI_103 (z2_up mv_105 (by decide) hN_71) _ _ hP hD hS _ (lv_sub hl [1, 2, 3, 0] rfl)
          refine lv_icmp_eq (tgt := 99) hx hb dX8_keep_60 (by decide) (fun c_94 => ?_) (fun c_94 => ?_)
          · have t_c_94 := z_eqT c_94
            have f_106 : zR (-1) (-1) (R_69 41 (v_92).toNatClampNeg) := zR_eqx t_c_94 zk_m1
            exact t_104 _ _ _ hI_69 _ _ hP hD hS _ (lv_sub hl [1, 2, 3, 4, 0] rfl)
          · have t_c_94 := z_eqF c_94
            have f_107 : zR 0 23 (R_69 41 (v_92).toNatClampNeg) := zR_nex t_c_94 f_93 zk_m1 (by decide)
            refine lv_aload_n hx hb dX8_keep_63 rfl (lv_at hl 1 rfl) ?_
            refine lv_iload_n hx hb dX8_keep_64 rfl (lv_at hl 4 rfl) ?_
            refine lv_iload_n hx hb dX8_keep_65 rfl (lv_at hl 2 rfl) ?_
            refine z_callVi (k := 39) (As := [.int (x_68), .int (nI 1)]) (rest := []) hx hb hml hown ht (xk_X8_leads_7 l D q cA F _ _ _ hI_69 (x_68) f_91 (nI 1) (zR_w zk_1 (by decide))) hw_4_99 hmX8_leads ⟨rfl, rfl⟩ (na := 2) rfl (by decide +kernel) (by decide) (by decide) rfl rfl hK hP hD hS hA hl.1 rfl (Nat.le_of_ble_eq_true rfl) ⟨Nat.zero_le _, Nat.zero_le _⟩ dX8_keep_66 (fun r_108 I_108 R_108 J_108 H locs hp_108 hP hD hS _ _ => ?_)
            rcases hp_108 with ⟨rfl, hu_108⟩ | ⟨rfl, hu_108⟩
            · cases hu_108
              refine lv_if_ne (tgt := 99) hx hb dX8_keep_69 (by decide) (fun _ => ?_) (fun c_0 => absurd c_0 (zD_ne zk_1 zk_z (by decide)))
              exact t_104 _ _ _ hI_69 _ _ hP hD hS _ (lv_sub hl [1, 2, 3, 4, 0] rfl)
            · cases hu_108
              refine lv_if_ne (tgt := 99) hx hb dX8_keep_69 (by decide) (fun c_0 => absurd (zD_eq zk_0 zk_z) c_0) (fun _ => ?_)
              refine lv_aload_n hx hb dX8_keep_72 rfl (lv_at hl 1 rfl) ?_
              refine z_get hx hb ht hown hK hP ziX8 rfl 39 (by decide) 4 (by decide) hw_1_233 rfl (v := .ref (q 42)) rfl dX8_keep_73 ?_
              refine lv_iload_n hx hb dX8_keep_76 rfl (lv_at hl 2 rfl) ?_
              refine lv_iload_n hx hb dX8_keep_77 rfl (lv_at hl 4 rfl) ?_
              refine z_iast hx hb hK hP hD hS 42 (by decide) 34 (fun _ => rfl) rfl (zR_vin zk_1 (by decide)) dX8_keep_78 (fun H locs hP hD hS => ?_)
              have hI_109 := xInv_R hI_69 42 (nI 1).toNatClampNeg (x_68) (show zR (-1) 4 (x_68) from zR_w f_91 (by decide)) rfl
              refine lv_aload_n hx hb dX8_keep_79 rfl (lv_at hl 1 rfl) ?_
              refine lv_iload_n hx hb dX8_keep_80 rfl (lv_at hl 2 rfl) ?_
              refine lv_iconst (v := nI 1) hx hb dX8_keep_81 (by decide +kernel) ?_
              refine lv_iadd hx hb dX8_keep_82 ?_
              refine z_eqi (y := nI 2) (by decide +kernel) ?_
              refine lv_iload_n hx hb dX8_keep_83 rfl (lv_at hl 3 rfl) ?_
              refine lv_iconst (v := nI 1) hx hb dX8_keep_84 (by decide +kernel) ?_
              refine lv_iload hx hb dX8_keep_85 (lv_at hl 0 rfl) ?_
              refine lv_ishl hx hb dX8_keep_87 ?_
              refine z_rng (a := 1) (b := 8388608) (zR_shl1 23 f_107 (by decide)) (fun v_110 hv_110 => ?_)
              refine lv_ior hx hb dX8_keep_88 ?_
              refine z_rng (a := 0) (b := 16777215) (zR_or 24 hpa1 hv_110 (by decide)) (fun v_111 hv_111 => ?_)
              refine z_callVv (k := 39) (As := [.int (nI 2), .int (v_111)]) (rest := []) hx hb hml hown ht (xk_X8_keep_2 l D q cA F _ _ _ hI_109 (v_111)) hw_4_90 hmX8_keep ⟨rfl, rfl⟩ (na := 2) rfl (by decide +kernel) (by decide) (by decide) rfl rfl hK hP hD hS hA hl.1 rfl (Nat.le_of_ble_eq_true rfl) ⟨Nat.zero_le _, Nat.zero_le _⟩ dX8_keep_89 (fun I_112 R_112 J_112 H locs hp_112 hP hD hS _ _ => ?_)
              refine lv_aload_n hx hb dX8_keep_92 rfl (lv_at hl 1 rfl) ?_
              refine z_get hx hb ht hown hK hP ziX8 rfl 39 (by decide) 4 (by decide) hw_1_233 rfl (v := .ref (q 42)) rfl dX8_keep_93 ?_
              refine lv_iload_n hx hb dX8_keep_96 rfl (lv_at hl 2 rfl) ?_
              refine lv_iconst (v := (-1)) hx hb dX8_keep_97 (by decide +kernel) ?_
              refine z_iast hx hb hK hP hD hS 42 (by decide) 34 (fun _ => rfl) rfl (zR_vin zk_1 (by decide)) dX8_keep_98 (fun H locs hP hD hS => ?_)
              have hI_113 := xInv_R hp_112 42 (nI 1).toNatClampNeg ((-1)) (show zR (-1) 4 ((-1)) from zR_w zk_m1 (by decide)) rfl
              exact t_104 _ _ _ hI_113 _ _ hP hD hS _ (lv_sub hl [1, 2, 3, 4, 0] rfl)
    exact loop_70 _ (nI 0) (zR_w zk_0 (by decide)) _ _ _ hI (Nat.lt_succ_self _) _ _ hP hD hS _ (lv_sub hl [1, 2, 3, 0] rfl)
  · have t_c_5 := z_leF c_5
    have f_114 : zR 4 62 (v_3) := zR_ltx t_c_5 hv_3 hr_4 (by decide)
    have f_115 : zR 5 63 (v_2) := zR_shift mv_3 f_114 (by decide)
    have f_116 : zR 5 63 (r_4) := zR_lty t_c_5 hv_3 hr_4 (by decide)
    exact z_vret hx hb hr hlocks hP hD hS dX8_keep_37 hI
set_option maxHeartbeats 4000000 in
set_option maxRecDepth 100000 in
theorem xk_X8_keep (l : Launch) (D : va_G) (q : Nat → Nat) (cA : Nat → ClassId) (F : Nat → Nat → Int32) (I R : Nat → Nat → Int32) (J : Nat → Nat → Int64) (hI : xInv F (I, R, J)) (pa1 : Int32) (hpa1 : zR 0 1 pa1) : zMv l D vwCl (zXtys cA) 81 q (zXd q cA) yX8_keep cX8_keep 5 none ({ frames := 7, cells := 0, slots := 0, locals := 162 } : Room) [.ref (q 39), .int (nI 0), .int (pa1)] (I, R, J) (fun u => xInv F u) := by
  intro sz
  refine z_body (by decide +kernel) (Nat.le_of_ble_eq_true rfl) (fun p e s m below meth c ls hx hb hml hr ht hown hlocks hsz hK hP hD hS hl => ?_)
  have hA : ∀ a, s.heap.size ≤ a → zA 81 q sz a := fun a h => Or.inr (hsz ▸ h)
  have hl : lv_has ls 5 [(0, .ref (q 39)), (1, .int (nI 0)), (2, .int (pa1))] := hl
  refine lv_iload_n hx hb dX8_keep_0 rfl (lv_at hl 1 rfl) ?_
  refine lv_iconst (v := nI 5) hx hb dX8_keep_1 (by decide +kernel) ?_
  refine lv_icmp_lt (tgt := 19) hx hb dX8_keep_2 (by decide) (fun _ => ?_) (fun c_0 => absurd (zD_lt zk_0 zk_5 (by decide)) c_0)
  refine lv_iload_n hx hb dX8_keep_19 rfl (lv_at hl 2 rfl) ?_
  refine z_callSi (As := [.int (pa1)]) (rest := []) hx hb hml hown ht (xk_J6_bitCount_0f7a4_1 l D q cA F _ _ _ hI (pa1) hpa1) hw_4_98 hmJ6_bitCount_0f7a4 ⟨rfl, rfl⟩ (na := 1) rfl (by decide +kernel) (by decide) hK hP hD hS hA hl.1 rfl (Nat.le_of_ble_eq_true rfl) ⟨Nat.zero_le _, Nat.zero_le _⟩ dX8_keep_20 (fun r_1 I_1 R_1 J_1 H locs hp_1 hP hD hS _ _ => ?_)
  obtain ⟨hr_1, hu_1⟩ := hp_1
  cases hu_1
  refine lv_iconst (v := nI 5) hx hb dX8_keep_23 (by decide +kernel) ?_
  refine lv_iadd hx hb dX8_keep_24 ?_
  refine z_addc 5 68 hr_1 zk_5 (by decide) (fun v_2 hv_2 mv_2 => ?_)
  refine lv_iload_n hx hb dX8_keep_25 rfl (lv_at hl 1 rfl) ?_
  refine lv_isub hx hb dX8_keep_26 ?_
  refine z_subc 5 68 0 hv_2 zk_0 (by decide) (fun v_3 hv_3 mv_3 => ?_)
  refine lv_aload_n hx hb dX8_keep_27 rfl (lv_at hl 0 rfl) ?_
  refine z_get hx hb ht hown hK hP ziX8 rfl 39 (by decide) 5 (by decide) hw_1_234 rfl (v := .int (I 39 5)) rfl dX8_keep_28 ?_
  refine z_callSi (As := [.int (I 39 5)]) (rest := [.int (v_3)]) hx hb hml hown ht (xk_J6_bitCount_0f7a4 l D q cA F _ _ _ hI (I 39 5)) hw_4_98 hmJ6_bitCount_0f7a4 ⟨rfl, rfl⟩ (na := 1) rfl (by decide +kernel) (by decide) hK hP hD hS hA hl.1 rfl (Nat.le_of_ble_eq_true rfl) ⟨Nat.zero_le _, Nat.zero_le _⟩ dX8_keep_31 (fun r_4 I_4 R_4 J_4 H locs hp_4 hP hD hS _ _ => ?_)
  obtain ⟨hr_4, hu_4⟩ := hp_4
  cases hu_4
  refine lv_icmp_ge (tgt := 38) hx hb dX8_keep_34 (by decide) (fun c_5 => ?_) (fun c_5 => ?_)
  · have t_c_5 := z_leT c_5
    refine lv_iconst (v := nI 0) hx hb dX8_keep_38 (by decide +kernel) ?_
    refine lv_istore_n (lv' := [(3, .int (nI 0)), (0, .ref (q 39)), (1, .int (nI 0)), (2, .int (pa1))]) hx hb dX8_keep_39 rfl hl (by decide) rfl (fun ls hl => ?_)
    have loop_70 : ∀ N : Nat, ∀ x_68 : Int32, zR 0 5 x_68 → ∀ I_69 : Nat → Nat → Int32, ∀ R_69 : Nat → Nat → Int32, ∀ J_69 : Nat → Nat → Int64, xInv F (I_69, R_69, J_69) → (2147483648 - (x_68).toInt).toNat < N → ∀ (H : Heap) (locs : List Loc), va_P D vwCl (zw 81 q (zXd q cA) I_69 R_69 J_69) H → va_D (zA 81 q sz) (zw 81 q (zXd q cA) I_69 R_69 J_69) → va_S (zA 81 q sz) s.heap H locs → ∀ ls : Array Slot, lv_has ls 5 [(0, .ref (q 39)), (1, .int (nI 0)), (2, .int (pa1)), (3, .int (x_68))] → W p l e ({ frames := 7, cells := 0, slots := 0, locals := 162 } : Room) s m ([.ref (q 39), .int (nI 0), .int (pa1)] : List Value).toArray below meth c H locs 0 0 (MQ below (va_Qv (fun u => xInv F u) (zB D vwCl 81 q (zXd q cA) sz) (zA 81 q sz)) ([.ref (q 39), .int (nI 0), .int (pa1)] : List Value).toArray s 0 0 (zA 81 q sz)) (F0 m 40 ls []) := by
      intro N
      induction N with
      | zero => intro x_68 hx_68 I_69 R_69 J_69 hI_69 hN; exact absurd hN (Nat.not_lt_zero _)
      | succ N ih_72 =>
        intro x_68 hx_68 I_69 R_69 J_69 hI_69 hN_71 H locs hP hD hS ls hl
        refine lv_iload_n hx hb dX8_keep_40 rfl (lv_at hl 3 rfl) ?_
        refine lv_iconst (v := nI 5) hx hb dX8_keep_41 (by decide +kernel) ?_
        refine lv_icmp_ge (tgt := 105) hx hb dX8_keep_42 (by decide) (fun c_73 => ?_) (fun c_73 => ?_)
        · have t_c_73 := z_leT c_73
          have f_89 : zR 5 5 (x_68) := zR_ley t_c_73 zk_5 hx_68 (by decide)
          refine lv_aload_n hx hb dX8_keep_105 rfl (lv_at hl 0 rfl) ?_
          refine lv_iload_n hx hb dX8_keep_106 rfl (lv_at hl 1 rfl) ?_
          refine lv_iconst (v := nI 1) hx hb dX8_keep_107 (by decide +kernel) ?_
          refine lv_iadd hx hb dX8_keep_108 ?_
          refine z_eqi (y := nI 1) (by decide +kernel) ?_
          refine lv_iload_n hx hb dX8_keep_109 rfl (lv_at hl 2 rfl) ?_
          refine z_callVv (k := 39) (As := [.int (nI 1), .int (pa1)]) (rest := []) hx hb hml hown ht (xk_X8_keep_6 l D q cA F _ _ _ hI_69 (pa1) hpa1) hw_4_90 hmX8_keep ⟨rfl, rfl⟩ (na := 2) rfl (by decide +kernel) (by decide) (by decide) rfl rfl hK hP hD hS hA hl.1 rfl (Nat.le_of_ble_eq_true rfl) ⟨Nat.zero_le _, Nat.zero_le _⟩ dX8_keep_110 (fun I_90 R_90 J_90 H locs hp_90 hP hD hS _ _ => ?_)
          exact z_vret hx hb hr hlocks hP hD hS dX8_keep_113 hp_90
        · have t_c_73 := z_leF c_73
          have f_91 : zR 0 4 (x_68) := zR_ltx t_c_73 hx_68 zk_5 (by decide)
          refine lv_aload_n hx hb dX8_keep_45 rfl (lv_at hl 0 rfl) ?_
          refine z_get hx hb ht hown hK hP ziX8 rfl 39 (by decide) 3 (by decide) hw_1_232 rfl (v := .ref (q 41)) rfl dX8_keep_46 ?_
          refine lv_iload_n hx hb dX8_keep_49 rfl (lv_at hl 1 rfl) ?_
          refine lv_iconst (v := nI 5) hx hb dX8_keep_50 (by decide +kernel) ?_
          refine lv_imul hx hb dX8_keep_51 ?_
          refine z_eqi (y := nI 0) (by decide +kernel) ?_
          refine lv_iload_n hx hb dX8_keep_52 rfl (lv_at hl 3 rfl) ?_
          refine lv_iadd hx hb dX8_keep_53 ?_
          refine z_cadd 0 4 zk_0 f_91 (by decide) (fun v_92 hv_92 mv_92 => ?_)
          refine z_iald hx hb hK hP 41 (by decide) 33 rfl rfl (zR_vin hv_92 (by decide)) dX8_keep_54 ?_
          refine z_eqi (y := R_69 41 (v_92).toNatClampNeg) rfl ?_
          have f_93 : zR (-1) 23 (R_69 41 (v_92).toNatClampNeg) := xR hI_69 41 (v_92).toNatClampNeg
          refine lv_istore (lv' := [(4, .int (R_69 41 (v_92).toNatClampNeg)), (0, .ref (q 39)), (1, .int (nI 0)), (2, .int (pa1)), (3, .int (x_68))]) hx hb dX8_keep_55 hl (by decide) rfl (fun ls hl => ?_)
          refine lv_iload hx hb dX8_keep_57 (lv_at hl 0 rfl) ?_
          refine lv_iconst (v := (-1)) hx hb dX8_keep_59 (by decide +kernel) ?_
          have t_104 : ∀ I_103 : Nat → Nat → Int32, ∀ R_103 : Nat → Nat → Int32, ∀ J_103 : Nat → Nat → Int64, xInv F (I_103, R_103, J_103) → ∀ (H : Heap) (locs : List Loc), va_P D vwCl (zw 81 q (zXd q cA) I_103 R_103 J_103) H → va_D (zA 81 q sz) (zw 81 q (zXd q cA) I_103 R_103 J_103) → va_S (zA 81 q sz) s.heap H locs → ∀ ls : Array Slot, lv_has ls 5 [(0, .ref (q 39)), (1, .int (nI 0)), (2, .int (pa1)), (3, .int (x_68)), (4, .int (R_69 41 (v_92).toNatClampNeg))] → W p l e ({ frames := 7, cells := 0, slots := 0, locals := 162 } : Room) s m ([.ref (q 39), .int (nI 0), .int (pa1)] : List Value).toArray below meth c H locs 0 0 (MQ below (va_Qv (fun u => xInv F u) (zB D vwCl 81 q (zXd q cA) sz) (zA 81 q sz)) ([.ref (q 39), .int (nI 0), .int (pa1)] : List Value).toArray s 0 0 (zA 81 q sz)) (F0 m 99 ls []) := by
            intro I_103 R_103 J_103 hI_103 H locs hP hD hS ls hl
            obtain ⟨v_105, ev_105⟩ : ∃ y : Int32, y = x_68 + nI 1 := ⟨_, rfl⟩
            have hv_105 : zR 1 5 v_105 := ev_105 ▸ zR_add f_91 zk_1 (by decide)
            have mv_105 : v_105.toInt = (x_68).toInt + 1 := by rw [ev_105, zR_addE f_91 zk_1 (by decide)]; rfl
            refine lv_iinc (v := v_105) (lv' := [(3, .int (v_105)), (0, .ref (q 39)), (1, .int (nI 0)), (2, .int (pa1)), (4, .int (R_69 41 (v_92).toNatClampNeg))]) hx hb dX8_keep_99 hl (k := 3) rfl (ev_105 ▸ rfl) (by decide) rfl (fun ls hl => ?_)
            refine lv_goto (tgt := 40) hx hb dX8_keep_102 (by decide) ?_
            exact ih_72 (v_105) (zR_w hv_105 (by decide)) _ _ _ hI_103 (z2_up mv_105 (by decide) hN_71) _ _ hP hD hS _ (lv_sub hl [1, 2, 3, 0] rfl)
          refine lv_icmp_eq (tgt := 99) hx hb dX8_keep_60 (by decide) (fun c_94 => ?_) (fun c_94 => ?_)
          · have t_c_94 := z_eqT c_94
            have f_106 : zR (-1) (-1) (R_69 41 (v_92).toNatClampNeg) := zR_eqx t_c_94 zk_m1
            exact t_104 _ _ _ hI_69 _ _ hP hD hS _ (lv_sub hl [1, 2, 3, 4, 0] rfl)
          · have t_c_94 := z_eqF c_94
            have f_107 : zR 0 23 (R_69 41 (v_92).toNatClampNeg) := zR_nex t_c_94 f_93 zk_m1 (by decide)
            refine lv_aload_n hx hb dX8_keep_63 rfl (lv_at hl 1 rfl) ?_
            refine lv_iload_n hx hb dX8_keep_64 rfl (lv_at hl 4 rfl) ?_
            refine lv_iload_n hx hb dX8_keep_65 rfl (lv_at hl 2 rfl) ?_
            refine z_callVi (k := 39) (As := [.int (x_68), .int (nI 0)]) (rest := []) hx hb hml hown ht (xk_X8_leads_7 l D q cA F _ _ _ hI_69 (x_68) f_91 (nI 0) (zR_w zk_0 (by decide))) hw_4_99 hmX8_leads ⟨rfl, rfl⟩ (na := 2) rfl (by decide +kernel) (by decide) (by decide) rfl rfl hK hP hD hS hA hl.1 rfl (Nat.le_of_ble_eq_true rfl) ⟨Nat.zero_le _, Nat.zero_le _⟩ dX8_keep_66 (fun r_108 I_108 R_108 J_108 H locs hp_108 hP hD hS _ _ => ?_)
            rcases hp_108 with ⟨rfl, hu_108⟩ | ⟨rfl, hu_108⟩
            · cases hu_108
              refine lv_if_ne (tgt := 99) hx hb dX8_keep_69 (by decide) (fun _ => ?_) (fun c_0 => absurd c_0 (zD_ne zk_1 zk_z (by decide)))
              exact t_104 _ _ _ hI_69 _ _ hP hD hS _ (lv_sub hl [1, 2, 3, 4, 0] rfl)
            · cases hu_108
              refine lv_if_ne (tgt := 99) hx hb dX8_keep_69 (by decide) (fun c_0 => absurd (zD_eq zk_0 zk_z) c_0) (fun _ => ?_)
              refine lv_aload_n hx hb dX8_keep_72 rfl (lv_at hl 1 rfl) ?_
              refine z_get hx hb ht hown hK hP ziX8 rfl 39 (by decide) 4 (by decide) hw_1_233 rfl (v := .ref (q 42)) rfl dX8_keep_73 ?_
              refine lv_iload_n hx hb dX8_keep_76 rfl (lv_at hl 2 rfl) ?_
              refine lv_iload_n hx hb dX8_keep_77 rfl (lv_at hl 4 rfl) ?_
              refine z_iast hx hb hK hP hD hS 42 (by decide) 34 (fun _ => rfl) rfl (zR_vin zk_0 (by decide)) dX8_keep_78 (fun H locs hP hD hS => ?_)
              have hI_109 := xInv_R hI_69 42 (nI 0).toNatClampNeg (x_68) (show zR (-1) 4 (x_68) from zR_w f_91 (by decide)) rfl
              refine lv_aload_n hx hb dX8_keep_79 rfl (lv_at hl 1 rfl) ?_
              refine lv_iload_n hx hb dX8_keep_80 rfl (lv_at hl 2 rfl) ?_
              refine lv_iconst (v := nI 1) hx hb dX8_keep_81 (by decide +kernel) ?_
              refine lv_iadd hx hb dX8_keep_82 ?_
              refine z_eqi (y := nI 1) (by decide +kernel) ?_
              refine lv_iload_n hx hb dX8_keep_83 rfl (lv_at hl 3 rfl) ?_
              refine lv_iconst (v := nI 1) hx hb dX8_keep_84 (by decide +kernel) ?_
              refine lv_iload hx hb dX8_keep_85 (lv_at hl 0 rfl) ?_
              refine lv_ishl hx hb dX8_keep_87 ?_
              refine z_rng (a := 1) (b := 8388608) (zR_shl1 23 f_107 (by decide)) (fun v_110 hv_110 => ?_)
              refine lv_ior hx hb dX8_keep_88 ?_
              refine z_rng (a := 0) (b := 16777215) (zR_or 24 hpa1 hv_110 (by decide)) (fun v_111 hv_111 => ?_)
              refine z_callVv (k := 39) (As := [.int (nI 1), .int (v_111)]) (rest := []) hx hb hml hown ht (xk_X8_keep_1 l D q cA F _ _ _ hI_109 (v_111)) hw_4_90 hmX8_keep ⟨rfl, rfl⟩ (na := 2) rfl (by decide +kernel) (by decide) (by decide) rfl rfl hK hP hD hS hA hl.1 rfl (Nat.le_of_ble_eq_true rfl) ⟨Nat.zero_le _, Nat.zero_le _⟩ dX8_keep_89 (fun I_112 R_112 J_112 H locs hp_112 hP hD hS _ _ => ?_)
              refine lv_aload_n hx hb dX8_keep_92 rfl (lv_at hl 1 rfl) ?_
              refine z_get hx hb ht hown hK hP ziX8 rfl 39 (by decide) 4 (by decide) hw_1_233 rfl (v := .ref (q 42)) rfl dX8_keep_93 ?_
              refine lv_iload_n hx hb dX8_keep_96 rfl (lv_at hl 2 rfl) ?_
              refine lv_iconst (v := (-1)) hx hb dX8_keep_97 (by decide +kernel) ?_
              refine z_iast hx hb hK hP hD hS 42 (by decide) 34 (fun _ => rfl) rfl (zR_vin zk_0 (by decide)) dX8_keep_98 (fun H locs hP hD hS => ?_)
              have hI_113 := xInv_R hp_112 42 (nI 0).toNatClampNeg ((-1)) (show zR (-1) 4 ((-1)) from zR_w zk_m1 (by decide)) rfl
              exact t_104 _ _ _ hI_113 _ _ hP hD hS _ (lv_sub hl [1, 2, 3, 4, 0] rfl)
    exact loop_70 _ (nI 0) (zR_w zk_0 (by decide)) _ _ _ hI (Nat.lt_succ_self _) _ _ hP hD hS _ (lv_sub hl [1, 2, 3, 0] rfl)
  · have t_c_5 := z_leF c_5
    have f_114 : zR 5 62 (v_3) := zR_ltx t_c_5 hv_3 hr_4 (by decide)
    have f_115 : zR 5 62 (v_2) := zR_shift mv_3 f_114 (by decide)
    have f_116 : zR 6 63 (r_4) := zR_lty t_c_5 hv_3 hr_4 (by decide)
    exact z_vret hx hb hr hlocks hP hD hS dX8_keep_37 hI
set_option maxHeartbeats 4000000 in
set_option maxRecDepth 100000 in
theorem xk_X8_drawEdges_1 (l : Launch) (D : va_G) (q : Nat → Nat) (cA : Nat → ClassId) (F : Nat → Nat → Int32) (I R : Nat → Nat → Int32) (J : Nat → Nat → Int64) (hI : xInv F (I, R, J)) (pa1 : Int32) (hpa1 : zR 0 5 pa1) : zMi l D vwCl (zXtys cA) 81 q (zXd q cA) yX8_drawEdges cX8_drawEdges 5 (some .int) ({ frames := 2, cells := 0, slots := 0, locals := 42 } : Room) [.ref (q 39), .ref (q 15), .int (pa1)] (I, R, J) (fun r u => zR 0 16777215 r ∧ xInv F u) := by
  intro sz
  refine z_body (by decide +kernel) (Nat.le_of_ble_eq_true rfl) (fun p e s m below meth c ls hx hb hml hr ht hown hlocks hsz hK hP hD hS hl => ?_)
  have hA : ∀ a, s.heap.size ≤ a → zA 81 q sz a := fun a h => Or.inr (hsz ▸ h)
  have hl : lv_has ls 5 [(0, .ref (q 39)), (1, .ref (q 15)), (2, .int (pa1))] := hl
  refine lv_iconst (v := nI 0) hx hb dX8_drawEdges_0 (by decide +kernel) ?_
  refine lv_istore_n (lv' := [(3, .int (nI 0)), (0, .ref (q 39)), (1, .ref (q 15)), (2, .int (pa1))]) hx hb dX8_drawEdges_1 rfl hl (by decide) rfl (fun ls hl => ?_)
  refine lv_aload_n hx hb dX8_drawEdges_2 rfl (lv_at hl 1 rfl) ?_
  refine z_get hx hb ht hown hK hP ziX8 rfl 39 (by decide) 3 (by decide) hw_1_232 rfl (v := .ref (q 41)) rfl dX8_drawEdges_3 ?_
  refine lv_iconst (v := (-1)) hx hb dX8_drawEdges_6 (by decide +kernel) ?_
  refine z_callSv (As := [.ref (q 41), .int ((-1))]) (rest := []) hx hb hml hown ht (xk_J7_fill_53178_3 l D q cA F _ _ _ hI ((-1)) (zR_w zk_m1 (by decide))) hw_4_89 hmJ7_fill_53178 ⟨rfl, rfl⟩ (na := 2) rfl (by decide +kernel) (by decide) hK hP hD hS hA hl.1 rfl (Nat.le_of_ble_eq_true rfl) ⟨Nat.zero_le _, Nat.zero_le _⟩ dX8_drawEdges_7 (fun I_1 R_1 J_1 H locs hp_1 hP hD hS _ _ => ?_)
  refine lv_iconst (v := nI 0) hx hb dX8_drawEdges_10 (by decide +kernel) ?_
  refine lv_istore (lv' := [(4, .int (nI 0)), (3, .int (nI 0)), (0, .ref (q 39)), (1, .ref (q 15)), (2, .int (pa1))]) hx hb dX8_drawEdges_11 hl (by decide) rfl (fun ls hl => ?_)
  have loop_99 : ∀ N : Nat, ∀ x_96 : Int32, zR 0 16777215 x_96 → ∀ x_97 : Int32, zR 0 24 x_97 → ∀ R_98 : Nat → Nat → Int32, xInv F (I_1, R_98, J_1) → (2147483648 - (x_97).toInt).toNat < N → ∀ (H : Heap) (locs : List Loc), va_P D vwCl (zw 81 q (zXd q cA) I_1 R_98 J_1) H → va_D (zA 81 q sz) (zw 81 q (zXd q cA) I_1 R_98 J_1) → va_S (zA 81 q sz) s.heap H locs → ∀ ls : Array Slot, lv_has ls 5 [(0, .ref (q 39)), (1, .ref (q 15)), (2, .int (pa1)), (3, .int (x_96)), (4, .int (x_97))] → W p l e ({ frames := 2, cells := 0, slots := 0, locals := 42 } : Room) s m ([.ref (q 39), .ref (q 15), .int (pa1)] : List Value).toArray below meth c H locs 0 0 (MQ below (va_Qi (fun r u => zR 0 16777215 r ∧ xInv F u) (zB D vwCl 81 q (zXd q cA) sz) (zA 81 q sz)) ([.ref (q 39), .ref (q 15), .int (pa1)] : List Value).toArray s 0 0 (zA 81 q sz)) (F0 m 13 ls []) := by
    intro N
    induction N with
    | zero => intro x_96 hx_96 x_97 hx_97 R_98 hI_98 hN; exact absurd hN (Nat.not_lt_zero _)
    | succ N ih_101 =>
      intro x_96 hx_96 x_97 hx_97 R_98 hI_98 hN_100 H locs hP hD hS ls hl
      refine lv_iload hx hb dX8_drawEdges_13 (lv_at hl 4 rfl) ?_
      refine lv_aload_n hx hb dX8_drawEdges_15 rfl (lv_at hl 1 rfl) ?_
      refine z_get hx hb ht hown hK hP ziX9 rfl 15 (by decide) 2 (by decide) hw_1_160 rfl (v := .int (I_1 15 2)) rfl dX8_drawEdges_16 ?_
      have f_102 : zR 0 24 (I_1 15 2) := xI hp_1 15 2
      refine lv_icmp_ge (tgt := 79) hx hb dX8_drawEdges_19 (by decide) (fun c_103 => ?_) (fun c_103 => ?_)
      · have t_c_103 := z_leT c_103
        refine lv_iload_n hx hb dX8_drawEdges_79 rfl (lv_at hl 3 rfl) ?_
        exact z_iret (v := x_96) hx hb hr hlocks hP hD hS dX8_drawEdges_80 ⟨hx_96, hI_98⟩
      · have t_c_103 := z_leF c_103
        have f_104 : zR 0 23 (x_97) := zR_ltx t_c_103 hx_97 f_102 (by decide)
        have f_105 : zR 1 24 (I_1 15 2) := zR_lty t_c_103 hx_97 f_102 (by decide)
        refine lv_aload_n hx hb dX8_drawEdges_22 rfl (lv_at hl 1 rfl) ?_
        refine z_get hx hb ht hown hK hP ziX9 rfl 15 (by decide) 8 (by decide) hw_1_176 rfl (v := .ref (q 20)) rfl dX8_drawEdges_23 ?_
        refine lv_iload hx hb dX8_drawEdges_26 (lv_at hl 4 rfl) ?_
        refine z_iald hx hb hK hP 20 (by decide) 14 rfl rfl (zR_vin f_104 (by decide)) dX8_drawEdges_28 ?_
        refine z_eqi (y := R_98 20 (x_97).toNatClampNeg) rfl ?_
        have f_106 : zR 0 5 (R_98 20 (x_97).toNatClampNeg) := xR hI_98 20 (x_97).toNatClampNeg
        refine lv_iload_n hx hb dX8_drawEdges_29 rfl (lv_at hl 2 rfl) ?_
        have t_118 : ∀ x_116 : Int32, zR 0 16777215 x_116 → ∀ R_117 : Nat → Nat → Int32, xInv F (I_1, R_117, J_1) → ∀ (H : Heap) (locs : List Loc), va_P D vwCl (zw 81 q (zXd q cA) I_1 R_117 J_1) H → va_D (zA 81 q sz) (zw 81 q (zXd q cA) I_1 R_117 J_1) → va_S (zA 81 q sz) s.heap H locs → ∀ ls : Array Slot, lv_has ls 5 [(0, .ref (q 39)), (1, .ref (q 15)), (2, .int (pa1)), (3, .int (x_116)), (4, .int (x_97))] → W p l e ({ frames := 2, cells := 0, slots := 0, locals := 42 } : Room) s m ([.ref (q 39), .ref (q 15), .int (pa1)] : List Value).toArray below meth c H locs 0 0 (MQ below (va_Qi (fun r u => zR 0 16777215 r ∧ xInv F u) (zB D vwCl 81 q (zXd q cA) sz) (zA 81 q sz)) ([.ref (q 39), .ref (q 15), .int (pa1)] : List Value).toArray s 0 0 (zA 81 q sz)) (F0 m 73 ls []) := by
          intro x_116 hx_116 R_117 hI_117 H locs hP hD hS ls hl
          obtain ⟨v_119, ev_119⟩ : ∃ y : Int32, y = x_97 + nI 1 := ⟨_, rfl⟩
          have hv_119 : zR 1 24 v_119 := ev_119 ▸ zR_add f_104 zk_1 (by decide)
          have mv_119 : v_119.toInt = (x_97).toInt + 1 := by rw [ev_119, zR_addE f_104 zk_1 (by decide)]; rfl
          refine lv_iinc (v := v_119) (lv' := [(4, .int (v_119)), (0, .ref (q 39)), (1, .ref (q 15)), (2, .int (pa1)), (3, .int (x_116))]) hx hb dX8_drawEdges_73 hl (k := 4) rfl (ev_119 ▸ rfl) (by decide) rfl (fun ls hl => ?_)
          refine lv_goto (tgt := 13) hx hb dX8_drawEdges_76 (by decide) ?_
          exact ih_101 (x_116) hx_116 (v_119) (zR_w hv_119 (by decide)) _ hI_117 (z2_up mv_119 (by decide) hN_100) _ _ hP hD hS _ (lv_sub hl [1, 2, 3, 4, 0] rfl)
        refine lv_icmp_ne (tgt := 73) hx hb dX8_drawEdges_30 (by decide) (fun c_107 => ?_) (fun c_107 => ?_)
        · have t_c_107 := z_eqF c_107
          exact t_118 (x_96) hx_96 _ hI_98 _ _ hP hD hS _ (lv_sub hl [0, 1, 2, 3, 4] rfl)
        · have t_c_107 := z_eqT c_107
          refine lv_aload_n hx hb dX8_drawEdges_33 rfl (lv_at hl 1 rfl) ?_
          refine lv_iload hx hb dX8_drawEdges_34 (lv_at hl 4 rfl) ?_
          refine z_callVi (k := 15) (As := [.int (x_97)]) (rest := []) hx hb hml hown ht (xk_X9_binds l D q cA F _ _ _ hI_98 (x_97) f_104) hw_4_42 hmX9_binds ⟨rfl, rfl⟩ (na := 1) rfl (by decide +kernel) (by decide) (by decide) rfl rfl hK hP hD hS hA hl.1 rfl (Nat.le_of_ble_eq_true rfl) ⟨Nat.zero_le _, Nat.zero_le _⟩ dX8_drawEdges_36 (fun r_120 I_120 R_120 J_120 H locs hp_120 hP hD hS _ _ => ?_)
          rcases hp_120 with ⟨rfl, hu_120⟩ | ⟨rfl, hu_120⟩
          · cases hu_120
            refine lv_if_eq (tgt := 73) hx hb dX8_drawEdges_39 (by decide) (fun c_0 => absurd c_0 (zD_ne zk_1 zk_z (by decide))) (fun _ => ?_)
            refine lv_aload_n hx hb dX8_drawEdges_42 rfl (lv_at hl 0 rfl) ?_
            refine z_get hx hb ht hown hK hP ziX8 rfl 39 (by decide) 3 (by decide) hw_1_232 rfl (v := .ref (q 41)) rfl dX8_drawEdges_43 ?_
            refine lv_aload_n hx hb dX8_drawEdges_46 rfl (lv_at hl 1 rfl) ?_
            refine z_get hx hb ht hown hK hP ziX9 rfl 15 (by decide) 7 (by decide) hw_1_172 rfl (v := .ref (q 19)) rfl dX8_drawEdges_47 ?_
            refine lv_iload hx hb dX8_drawEdges_50 (lv_at hl 4 rfl) ?_
            refine z_iald hx hb hK hP 19 (by decide) 13 rfl rfl (zR_vin f_104 (by decide)) dX8_drawEdges_52 ?_
            refine z_eqi (y := R_98 19 (x_97).toNatClampNeg) rfl ?_
            have f_121 : zR 0 4 (R_98 19 (x_97).toNatClampNeg) := xR hI_98 19 (x_97).toNatClampNeg
            refine lv_iconst (v := nI 5) hx hb dX8_drawEdges_53 (by decide +kernel) ?_
            refine lv_imul hx hb dX8_drawEdges_54 ?_
            refine z_rng (a := 0) (b := 20) (zR_mul f_121 zk_5 (by decide)) (fun v_122 hv_122 => ?_)
            refine lv_aload_n hx hb dX8_drawEdges_55 rfl (lv_at hl 1 rfl) ?_
            refine z_get hx hb ht hown hK hP ziX9 rfl 15 (by decide) 9 (by decide) hw_1_180 rfl (v := .ref (q 21)) rfl dX8_drawEdges_56 ?_
            refine lv_iload hx hb dX8_drawEdges_59 (lv_at hl 4 rfl) ?_
            refine z_iald hx hb hK hP 21 (by decide) 15 rfl rfl (zR_vin f_104 (by decide)) dX8_drawEdges_61 ?_
            refine z_eqi (y := R_98 21 (x_97).toNatClampNeg) rfl ?_
            have f_123 : zR 0 4 (R_98 21 (x_97).toNatClampNeg) := xR hI_98 21 (x_97).toNatClampNeg
            refine lv_iadd hx hb dX8_drawEdges_62 ?_
            refine z_rng (a := 0) (b := 24) (zR_add hv_122 f_123 (by decide)) (fun v_124 hv_124 => ?_)
            refine lv_iload hx hb dX8_drawEdges_63 (lv_at hl 4 rfl) ?_
            refine z_iast hx hb hK hP hD hS 41 (by decide) 33 (fun _ => rfl) rfl (zR_vin hv_124 (by decide)) dX8_drawEdges_65 (fun H locs hP hD hS => ?_)
            have hI_125 := xInv_R hI_98 41 (v_124).toNatClampNeg (x_97) (show zR (-1) 23 (x_97) from zR_w f_104 (by decide)) rfl
            refine lv_iload_n hx hb dX8_drawEdges_66 rfl (lv_at hl 3 rfl) ?_
            refine lv_iconst (v := nI 1) hx hb dX8_drawEdges_67 (by decide +kernel) ?_
            refine lv_iload hx hb dX8_drawEdges_68 (lv_at hl 4 rfl) ?_
            refine lv_ishl hx hb dX8_drawEdges_70 ?_
            refine z_rng (a := 1) (b := 8388608) (zR_shl1 23 f_104 (by decide)) (fun v_126 hv_126 => ?_)
            refine lv_ior hx hb dX8_drawEdges_71 ?_
            refine z_rng (a := 0) (b := 16777215) (zR_or 24 hx_96 hv_126 (by decide)) (fun v_127 hv_127 => ?_)
            refine lv_istore_n (lv' := [(3, .int (v_127)), (0, .ref (q 39)), (1, .ref (q 15)), (2, .int (pa1)), (4, .int (x_97))]) hx hb dX8_drawEdges_72 rfl hl (by decide) rfl (fun ls hl => ?_)
            exact t_118 (v_127) hv_127 _ hI_125 _ _ hP hD hS _ (lv_sub hl [1, 2, 3, 0, 4] rfl)
          · cases hu_120
            refine lv_if_eq (tgt := 73) hx hb dX8_drawEdges_39 (by decide) (fun _ => ?_) (fun c_0 => absurd (zD_eq zk_0 zk_z) c_0)
            exact t_118 (x_96) hx_96 _ hI_98 _ _ hP hD hS _ (lv_sub hl [0, 1, 2, 3, 4] rfl)
  exact loop_99 _ (nI 0) (zR_w zk_0 (by decide)) (nI 0) (zR_w zk_0 (by decide)) _ hp_1 (Nat.lt_succ_self _) _ _ hP hD hS _ (lv_sub hl [2, 3, 4, 1, 0] rfl)
set_option maxHeartbeats 4000000 in
set_option maxRecDepth 100000 in
theorem xk_X8_toStrike (l : Launch) (D : va_G) (q : Nat → Nat) (cA : Nat → ClassId) (F : Nat → Nat → Int32) (I R : Nat → Nat → Int32) (J : Nat → Nat → Int64) (hI : xInv F (I, R, J))  : zMi l D vwCl (zXtys cA) 81 q (zXd q cA) yX8_toStrike cX8_toStrike 5 (some .int) ({ frames := 8, cells := 0, slots := 0, locals := 186 } : Room) [.ref (q 39), .ref (q 15)] (I, R, J) (fun r u => zR 0 16777215 r ∧ xInv F u) := by
  intro sz
  refine z_body (by decide +kernel) (Nat.le_of_ble_eq_true rfl) (fun p e s m below meth c ls hx hb hml hr ht hown hlocks hsz hK hP hD hS hl => ?_)
  have hA : ∀ a, s.heap.size ≤ a → zA 81 q sz a := fun a h => Or.inr (hsz ▸ h)
  have hl : lv_has ls 5 [(0, .ref (q 39)), (1, .ref (q 15))] := hl
  refine lv_iconst (v := nI 0) hx hb dX8_toStrike_0 (by decide +kernel) ?_
  refine lv_istore_n (lv' := [(2, .int (nI 0)), (0, .ref (q 39)), (1, .ref (q 15))]) hx hb dX8_toStrike_1 rfl hl (by decide) rfl (fun ls hl => ?_)
  refine lv_iconst (v := nI 0) hx hb dX8_toStrike_2 (by decide +kernel) ?_
  refine lv_istore_n (lv' := [(3, .int (nI 0)), (2, .int (nI 0)), (0, .ref (q 39)), (1, .ref (q 15))]) hx hb dX8_toStrike_3 rfl hl (by decide) rfl (fun ls hl => ?_)
  have loop_60 : ∀ N : Nat, ∀ x_57 : Int32, zR 0 16777215 x_57 → ∀ x_58 : Int32, zR 0 6 x_58 → ∀ I_59 : Nat → Nat → Int32, ∀ R_59 : Nat → Nat → Int32, ∀ J_59 : Nat → Nat → Int64, xInv F (I_59, R_59, J_59) → (2147483648 - (x_58).toInt).toNat < N → ∀ (H : Heap) (locs : List Loc), va_P D vwCl (zw 81 q (zXd q cA) I_59 R_59 J_59) H → va_D (zA 81 q sz) (zw 81 q (zXd q cA) I_59 R_59 J_59) → va_S (zA 81 q sz) s.heap H locs → ∀ ls : Array Slot, lv_has ls 5 [(0, .ref (q 39)), (1, .ref (q 15)), (2, .int (x_57)), (3, .int (x_58))] → W p l e ({ frames := 8, cells := 0, slots := 0, locals := 186 } : Room) s m ([.ref (q 39), .ref (q 15)] : List Value).toArray below meth c H locs 0 0 (MQ below (va_Qi (fun r u => zR 0 16777215 r ∧ xInv F u) (zB D vwCl 81 q (zXd q cA) sz) (zA 81 q sz)) ([.ref (q 39), .ref (q 15)] : List Value).toArray s 0 0 (zA 81 q sz)) (F0 m 4 ls []) := by
    intro N
    induction N with
    | zero => intro x_57 hx_57 x_58 hx_58 I_59 R_59 J_59 hI_59 hN; exact absurd hN (Nat.not_lt_zero _)
    | succ N ih_62 =>
      intro x_57 hx_57 x_58 hx_58 I_59 R_59 J_59 hI_59 hN_61 H locs hP hD hS ls hl
      refine lv_iload_n hx hb dX8_toStrike_4 rfl (lv_at hl 3 rfl) ?_
      refine lv_aload_n hx hb dX8_toStrike_5 rfl (lv_at hl 1 rfl) ?_
      refine z_get hx hb ht hown hK hP ziX9 rfl 15 (by decide) 0 (by decide) hw_1_156 rfl (v := .ref (q 3)) rfl dX8_toStrike_6 ?_
      refine z_get hx hb ht hown hK hP ziX2 rfl 3 (by decide) 5 (by decide) hw_1_90 rfl (v := .int (I_59 3 5)) rfl dX8_toStrike_9 ?_
      have f_63 : zR 0 6 (I_59 3 5) := xI hI_59 3 5
      refine lv_icmp_ge (tgt := 60) hx hb dX8_toStrike_12 (by decide) (fun c_64 => ?_) (fun c_64 => ?_)
      · have t_c_64 := z_leT c_64
        refine lv_iload_n hx hb dX8_toStrike_60 rfl (lv_at hl 2 rfl) ?_
        exact z_iret (v := x_57) hx hb hr hlocks hP hD hS dX8_toStrike_61 ⟨hx_57, hI_59⟩
      · have t_c_64 := z_leF c_64
        have f_65 : zR 0 5 (x_58) := zR_ltx t_c_64 hx_58 f_63 (by decide)
        have f_66 : zR 1 6 (I_59 3 5) := zR_lty t_c_64 hx_58 f_63 (by decide)
        refine lv_aload_n hx hb dX8_toStrike_15 rfl (lv_at hl 0 rfl) ?_
        refine lv_aload_n hx hb dX8_toStrike_16 rfl (lv_at hl 1 rfl) ?_
        refine lv_iload_n hx hb dX8_toStrike_17 rfl (lv_at hl 3 rfl) ?_
        refine z_callVi (k := 39) (As := [.ref (q 15), .int (x_58)]) (rest := []) hx hb hml hown ht (xk_X8_drawEdges_1 l D q cA F _ _ _ hI_59 (x_58) f_65) hw_4_85 hmX8_drawEdges ⟨rfl, rfl⟩ (na := 2) rfl (by decide +kernel) (by decide) (by decide) rfl rfl hK hP hD hS hA hl.1 rfl (Nat.le_of_ble_eq_true rfl) ⟨Nat.zero_le _, Nat.zero_le _⟩ dX8_toStrike_18 (fun r_67 I_67 R_67 J_67 H locs hp_67 hP hD hS _ _ => ?_)
        obtain ⟨hr_67, hu_67⟩ := hp_67
        refine lv_istore (lv' := [(4, .int (r_67)), (0, .ref (q 39)), (1, .ref (q 15)), (2, .int (x_57)), (3, .int (x_58))]) hx hb dX8_toStrike_21 hl (by decide) rfl (fun ls hl => ?_)
        refine lv_aload_n hx hb dX8_toStrike_23 rfl (lv_at hl 1 rfl) ?_
        refine lv_iconst (v := nI 0) hx hb dX8_toStrike_24 (by decide +kernel) ?_
        refine z_putI hx hb ht hown hK hP hD hS ziX8 tyX8 tyX8_ok nmX8 rfl 39 (by decide) 5 (by decide) hw_1_234 rfl (v := nI 0) rfl rfl rfl (Nat.le_of_ble_eq_true rfl) rfl dX8_toStrike_25 (fun H locs hP hD hS => ?_)
        have hI_68 := xInv_I hu_67 39 5 (nI 0) (zR_any (nI 0)) rfl
        refine lv_aload_n hx hb dX8_toStrike_28 rfl (lv_at hl 1 rfl) ?_
        refine z_get hx hb ht hown hK hP ziX8 rfl 39 (by decide) 4 (by decide) hw_1_233 rfl (v := .ref (q 42)) rfl dX8_toStrike_29 ?_
        refine lv_iconst (v := (-1)) hx hb dX8_toStrike_32 (by decide +kernel) ?_
        refine z_callSv (As := [.ref (q 42), .int ((-1))]) (rest := []) hx hb hml hown ht (xk_J7_fill_53178_4 l D q cA F _ _ _ hI_68 ((-1)) (zR_w zk_m1 (by decide))) hw_4_89 hmJ7_fill_53178 ⟨rfl, rfl⟩ (na := 2) rfl (by decide +kernel) (by decide) hK hP hD hS hA hl.1 rfl (Nat.le_of_ble_eq_true rfl) ⟨Nat.zero_le _, Nat.zero_le _⟩ dX8_toStrike_33 (fun I_69 R_69 J_69 H locs hp_69 hP hD hS _ _ => ?_)
        refine lv_aload_n hx hb dX8_toStrike_36 rfl (lv_at hl 1 rfl) ?_
        refine lv_iconst (v := nI 0) hx hb dX8_toStrike_37 (by decide +kernel) ?_
        refine lv_iconst (v := nI 0) hx hb dX8_toStrike_38 (by decide +kernel) ?_
        refine z_callVv (k := 39) (As := [.int (nI 0), .int (nI 0)]) (rest := []) hx hb hml hown ht (xk_X8_keep l D q cA F _ _ _ hp_69 (nI 0) (zR_w zk_0 (by decide))) hw_4_90 hmX8_keep ⟨rfl, rfl⟩ (na := 2) rfl (by decide +kernel) (by decide) (by decide) rfl rfl hK hP hD hS hA hl.1 rfl (Nat.le_of_ble_eq_true rfl) ⟨Nat.zero_le _, Nat.zero_le _⟩ dX8_toStrike_39 (fun I_70 R_70 J_70 H locs hp_70 hP hD hS _ _ => ?_)
        refine lv_iload_n hx hb dX8_toStrike_42 rfl (lv_at hl 3 rfl) ?_
        refine lv_iload hx hb dX8_toStrike_43 (lv_at hl 0 rfl) ?_
        refine lv_aload_n hx hb dX8_toStrike_45 rfl (lv_at hl 1 rfl) ?_
        refine z_get hx hb ht hown hK hP ziX8 rfl 39 (by decide) 5 (by decide) hw_1_234 rfl (v := .int (I_70 39 5)) rfl dX8_toStrike_46 ?_
        refine lv_iconst (v := (-1)) hx hb dX8_toStrike_49 (by decide +kernel) ?_
        refine lv_ixor hx hb dX8_toStrike_50 ?_
        refine z_any (fun v_71 => ?_)
        refine lv_iand hx hb dX8_toStrike_51 ?_
        refine z_rng (a := 0) (b := 16777215) (zR_andl hr_67 (by decide)) (fun v_72 hv_72 => ?_)
        refine lv_ior hx hb dX8_toStrike_52 ?_
        refine z_rng (a := 0) (b := 16777215) (zR_or 24 hx_57 hv_72 (by decide)) (fun v_73 hv_73 => ?_)
        refine lv_istore_n (lv' := [(2, .int (v_73)), (4, .int (r_67)), (0, .ref (q 39)), (1, .ref (q 15)), (3, .int (x_58))]) hx hb dX8_toStrike_53 rfl hl (by decide) rfl (fun ls hl => ?_)
        obtain ⟨v_74, ev_74⟩ : ∃ y : Int32, y = x_58 + nI 1 := ⟨_, rfl⟩
        have hv_74 : zR 1 6 v_74 := ev_74 ▸ zR_add f_65 zk_1 (by decide)
        have mv_74 : v_74.toInt = (x_58).toInt + 1 := by rw [ev_74, zR_addE f_65 zk_1 (by decide)]; rfl
        refine lv_iinc (v := v_74) (lv' := [(3, .int (v_74)), (2, .int (v_73)), (4, .int (r_67)), (0, .ref (q 39)), (1, .ref (q 15))]) hx hb dX8_toStrike_54 hl (k := 4) rfl (ev_74 ▸ rfl) (by decide) rfl (fun ls hl => ?_)
        refine lv_goto (tgt := 4) hx hb dX8_toStrike_57 (by decide) ?_
        exact ih_62 (v_73) hv_73 (v_74) (zR_w hv_74 (by decide)) _ _ _ hp_70 (z2_up mv_74 (by decide) hN_61) _ _ hP hD hS _ (lv_sub hl [3, 4, 1, 0] rfl)
  exact loop_60 _ (nI 0) (zR_w zk_0 (by decide)) (nI 0) (zR_w zk_0 (by decide)) _ _ _ hI (Nat.lt_succ_self _) _ _ hP hD hS _ (lv_sub hl [2, 3, 1, 0] rfl)
set_option maxHeartbeats 4000000 in
set_option maxRecDepth 100000 in
theorem xk_X10_strikes (l : Launch) (D : va_G) (q : Nat → Nat) (cA : Nat → ClassId) (F : Nat → Nat → Int32) (I R : Nat → Nat → Int32) (J : Nat → Nat → Int64) (hI : xInv F (I, R, J))  : zMi l D vwCl (zXtys cA) 81 q (zXd q cA) yX10_strikes cX10_strikes 1 (some .int) ({ frames := 9, cells := 0, slots := 0, locals := 210 } : Room) [.ref (q 0)] (I, R, J) (fun r u => zR (-2) 63 r ∧ xInv F u) := by
  intro sz
  refine z_body (by decide +kernel) (Nat.le_of_ble_eq_true rfl) (fun p e s m below meth c ls hx hb hml hr ht hown hlocks hsz hK hP hD hS hl => ?_)
  have hA : ∀ a, s.heap.size ≤ a → zA 81 q sz a := fun a h => Or.inr (hsz ▸ h)
  have hl : lv_has ls 1 [(0, .ref (q 0))] := hl
  refine lv_aload_n hx hb dX10_strikes_0 rfl (lv_at hl 0 rfl) ?_
  refine z_callVi (k := 0) (As := []) (rest := []) hx hb hml hown ht (xk_X10_hasCity l D q cA F _ _ _ hI ) hw_4_0 hmX10_hasCity ⟨rfl, rfl⟩ (na := 0) rfl (by decide +kernel) (by decide) (by decide) rfl rfl hK hP hD hS hA hl.1 rfl (Nat.le_of_ble_eq_true rfl) ⟨Nat.zero_le _, Nat.zero_le _⟩ dX10_strikes_1 (fun r_1 I_1 R_1 J_1 H locs hp_1 hP hD hS _ _ => ?_)
  rcases hp_1 with ⟨rfl, hu_1⟩ | ⟨rfl, hu_1⟩
  · cases hu_1
    refine lv_if_eq (tgt := 24) hx hb dX10_strikes_4 (by decide) (fun c_0 => absurd c_0 (zD_ne zk_1 zk_z (by decide))) (fun _ => ?_)
    refine lv_aload_n hx hb dX10_strikes_7 rfl (lv_at hl 0 rfl) ?_
    refine z_get hx hb ht hown hK hP ziX10 rfl 0 (by decide) 6 (by decide) hw_2_99 rfl (v := .ref (q 39)) rfl dX10_strikes_8 ?_
    refine lv_aload_n hx hb dX10_strikes_11 rfl (lv_at hl 0 rfl) ?_
    refine z_get hx hb ht hown hK hP ziX10 rfl 0 (by decide) 4 (by decide) hw_2_97 rfl (v := .ref (q 15)) rfl dX10_strikes_12 ?_
    refine z_callVi (k := 39) (As := [.ref (q 15)]) (rest := []) hx hb hml hown ht (xk_X8_toStrike l D q cA F _ _ _ hI ) hw_4_81 hmX8_toStrike ⟨rfl, rfl⟩ (na := 1) rfl (by decide +kernel) (by decide) (by decide) rfl rfl hK hP hD hS hA hl.1 rfl (Nat.le_of_ble_eq_true rfl) ⟨Nat.zero_le _, Nat.zero_le _⟩ dX10_strikes_15 (fun r_2 I_2 R_2 J_2 H locs hp_2 hP hD hS _ _ => ?_)
    obtain ⟨hr_2, hu_2⟩ := hp_2
    refine z_callSi (As := [.int (r_2)]) (rest := []) hx hb hml hown ht (xk_J6_bitCount_0f7a4 l D q cA F _ _ _ hu_2 (r_2)) hw_4_103 hmJ6_bitCount_0f7a4 ⟨rfl, rfl⟩ (na := 1) rfl (by decide +kernel) (by decide) hK hP hD hS hA hl.1 rfl (Nat.le_of_ble_eq_true rfl) ⟨Nat.zero_le _, Nat.zero_le _⟩ dX10_strikes_18 (fun r_3 I_3 R_3 J_3 H locs hp_3 hP hD hS _ _ => ?_)
    obtain ⟨hr_3, hu_3⟩ := hp_3
    cases hu_3
    refine lv_goto (tgt := 26) hx hb dX10_strikes_21 (by decide) ?_
    exact z_iret (v := r_3) hx hb hr hlocks hP hD hS dX10_strikes_26 ⟨(zR_w hr_3 (by decide)), hu_2⟩
  · cases hu_1
    refine lv_if_eq (tgt := 24) hx hb dX10_strikes_4 (by decide) (fun _ => ?_) (fun c_0 => absurd (zD_eq zk_0 zk_z) c_0)
    refine lv_bipush (v := (-2)) hx hb dX10_strikes_24 (by decide +kernel) ?_
    exact z_iret (v := (-2)) hx hb hr hlocks hP hD hS dX10_strikes_26 ⟨(zR_w zk_m2 (by decide)), hI⟩
set_option maxHeartbeats 4000000 in
set_option maxRecDepth 100000 in
theorem xk_X10_struck (l : Launch) (D : va_G) (q : Nat → Nat) (cA : Nat → ClassId) (F : Nat → Nat → Int32) (I R : Nat → Nat → Int32) (J : Nat → Nat → Int64) (hI : xInv F (I, R, J))  : zMi l D vwCl (zXtys cA) 81 q (zXd q cA) yX10_struck cX10_struck 1 (some .int) ({ frames := 9, cells := 0, slots := 0, locals := 210 } : Room) [.ref (q 0)] (I, R, J) (fun r u => zR (-2) 16777215 r ∧ xInv F u) := by
  intro sz
  refine z_body (by decide +kernel) (Nat.le_of_ble_eq_true rfl) (fun p e s m below meth c ls hx hb hml hr ht hown hlocks hsz hK hP hD hS hl => ?_)
  have hA : ∀ a, s.heap.size ≤ a → zA 81 q sz a := fun a h => Or.inr (hsz ▸ h)
  have hl : lv_has ls 1 [(0, .ref (q 0))] := hl
  refine lv_aload_n hx hb dX10_struck_0 rfl (lv_at hl 0 rfl) ?_
  refine z_callVi (k := 0) (As := []) (rest := []) hx hb hml hown ht (xk_X10_hasCity l D q cA F _ _ _ hI ) hw_4_0 hmX10_hasCity ⟨rfl, rfl⟩ (na := 0) rfl (by decide +kernel) (by decide) (by decide) rfl rfl hK hP hD hS hA hl.1 rfl (Nat.le_of_ble_eq_true rfl) ⟨Nat.zero_le _, Nat.zero_le _⟩ dX10_struck_1 (fun r_1 I_1 R_1 J_1 H locs hp_1 hP hD hS _ _ => ?_)
  rcases hp_1 with ⟨rfl, hu_1⟩ | ⟨rfl, hu_1⟩
  · cases hu_1
    refine lv_if_eq (tgt := 21) hx hb dX10_struck_4 (by decide) (fun c_0 => absurd c_0 (zD_ne zk_1 zk_z (by decide))) (fun _ => ?_)
    refine lv_aload_n hx hb dX10_struck_7 rfl (lv_at hl 0 rfl) ?_
    refine z_get hx hb ht hown hK hP ziX10 rfl 0 (by decide) 6 (by decide) hw_2_99 rfl (v := .ref (q 39)) rfl dX10_struck_8 ?_
    refine lv_aload_n hx hb dX10_struck_11 rfl (lv_at hl 0 rfl) ?_
    refine z_get hx hb ht hown hK hP ziX10 rfl 0 (by decide) 4 (by decide) hw_2_97 rfl (v := .ref (q 15)) rfl dX10_struck_12 ?_
    refine z_callVi (k := 39) (As := [.ref (q 15)]) (rest := []) hx hb hml hown ht (xk_X8_toStrike l D q cA F _ _ _ hI ) hw_4_81 hmX8_toStrike ⟨rfl, rfl⟩ (na := 1) rfl (by decide +kernel) (by decide) (by decide) rfl rfl hK hP hD hS hA hl.1 rfl (Nat.le_of_ble_eq_true rfl) ⟨Nat.zero_le _, Nat.zero_le _⟩ dX10_struck_15 (fun r_2 I_2 R_2 J_2 H locs hp_2 hP hD hS _ _ => ?_)
    obtain ⟨hr_2, hu_2⟩ := hp_2
    refine lv_goto (tgt := 23) hx hb dX10_struck_18 (by decide) ?_
    exact z_iret (v := r_2) hx hb hr hlocks hP hD hS dX10_struck_23 ⟨(zR_w hr_2 (by decide)), hu_2⟩
  · cases hu_1
    refine lv_if_eq (tgt := 21) hx hb dX10_struck_4 (by decide) (fun _ => ?_) (fun c_0 => absurd (zD_eq zk_0 zk_z) c_0)
    refine lv_bipush (v := (-2)) hx hb dX10_struck_21 (by decide +kernel) ?_
    exact z_iret (v := (-2)) hx hb hr hlocks hP hD hS dX10_struck_23 ⟨(zR_w zk_m2 (by decide)), hI⟩
set_option maxHeartbeats 4000000 in
set_option maxRecDepth 100000 in
theorem xk_X9_stationOf (l : Launch) (D : va_G) (q : Nat → Nat) (cA : Nat → ClassId) (F : Nat → Nat → Int32) (I R : Nat → Nat → Int32) (J : Nat → Nat → Int64) (hI : xInv F (I, R, J)) (pa0 : Int32) (hpa0 : zR 0 5 pa0) (pa1 : Int32) (hpa1 : zR 0 48 pa1) : zMi l D vwCl (zXtys cA) 81 q (zXd q cA) yX9_stationOf cX9_stationOf 3 (some .int) ({ frames := 0, cells := 0, slots := 0, locals := 0 } : Room) [.ref (q 15), .int (pa0), .int (pa1)] (I, R, J) (fun _ u => u = (I, R, J)) := by
  intro sz
  refine z_body (by decide +kernel) (Nat.le_of_ble_eq_true rfl) (fun p e s m below meth c ls hx hb hml hr ht hown hlocks hsz hK hP hD hS hl => ?_)
  have hA : ∀ a, s.heap.size ≤ a → zA 81 q sz a := fun a h => Or.inr (hsz ▸ h)
  have hl : lv_has ls 3 [(0, .ref (q 15)), (1, .int (pa0)), (2, .int (pa1))] := hl
  refine lv_aload_n hx hb dX9_stationOf_0 rfl (lv_at hl 0 rfl) ?_
  refine z_get hx hb ht hown hK hP ziX9 rfl 15 (by decide) 12 (by decide) hw_1_187 rfl (v := .ref (q 24)) rfl dX9_stationOf_1 ?_
  refine lv_iload_n hx hb dX9_stationOf_4 rfl (lv_at hl 1 rfl) ?_
  refine lv_bipush (v := nI 49) hx hb dX9_stationOf_5 (by decide +kernel) ?_
  refine lv_imul hx hb dX9_stationOf_7 ?_
  refine z_rng (a := 0) (b := 245) (zR_mul hpa0 zk_49 (by decide)) (fun v_1 hv_1 => ?_)
  refine lv_iload_n hx hb dX9_stationOf_8 rfl (lv_at hl 2 rfl) ?_
  refine lv_iadd hx hb dX9_stationOf_9 ?_
  refine z_rng (a := 0) (b := 293) (zR_add hv_1 hpa1 (by decide)) (fun v_2 hv_2 => ?_)
  refine z_iald hx hb hK hP 24 (by decide) 18 rfl rfl (zR_vin hv_2 (by decide)) dX9_stationOf_10 ?_
  refine z_eqi (y := R 24 (v_2).toNatClampNeg) rfl ?_
  exact z_iret (v := R 24 (v_2).toNatClampNeg) hx hb hr hlocks hP hD hS dX9_stationOf_11 rfl
set_option maxHeartbeats 4000000 in
set_option maxRecDepth 100000 in
theorem xk_X10_trail (l : Launch) (D : va_G) (q : Nat → Nat) (cA : Nat → ClassId) (F : Nat → Nat → Int32) (I R : Nat → Nat → Int32) (J : Nat → Nat → Int64) (hI : xInv F (I, R, J)) (pa0 : Int32) (pa1 : Int32) : zMi l D vwCl (zXtys cA) 81 q (zXd q cA) yX10_trail cX10_trail 3 (some .int) ({ frames := 1, cells := 0, slots := 0, locals := 22 } : Room) [.ref (q 0), .int (pa0), .int (pa1)] (I, R, J) (fun _ u => u = (I, R, J)) := by
  intro sz
  refine z_body (by decide +kernel) (Nat.le_of_ble_eq_true rfl) (fun p e s m below meth c ls hx hb hml hr ht hown hlocks hsz hK hP hD hS hl => ?_)
  have hA : ∀ a, s.heap.size ≤ a → zA 81 q sz a := fun a h => Or.inr (hsz ▸ h)
  have hl : lv_has ls 3 [(0, .ref (q 0)), (1, .int (pa0)), (2, .int (pa1))] := hl
  refine lv_aload_n hx hb dX10_trail_0 rfl (lv_at hl 0 rfl) ?_
  refine lv_iload_n hx hb dX10_trail_1 rfl (lv_at hl 1 rfl) ?_
  refine z_callVi (k := 0) (As := [.int (pa0)]) (rest := []) hx hb hml hown ht (xk_X10_isThing l D q cA F _ _ _ hI (pa0)) hw_3_87 hmX10_isThing ⟨rfl, rfl⟩ (na := 1) rfl (by decide +kernel) (by decide) (by decide) rfl rfl hK hP hD hS hA hl.1 rfl (Nat.le_of_ble_eq_true rfl) ⟨Nat.zero_le _, Nat.zero_le _⟩ dX10_trail_2 (fun r_1 I_1 R_1 J_1 H locs hp_1 hP hD hS _ _ => ?_)
  rcases hp_1 with ⟨rfl, hu_1, f0_1⟩ | ⟨rfl, hu_1⟩
  · cases hu_1
    refine lv_if_ne (tgt := 11) hx hb dX10_trail_5 (by decide) (fun _ => ?_) (fun c_0 => absurd c_0 (zD_ne zk_1 zk_z (by decide)))
    refine lv_iload_n hx hb dX10_trail_11 rfl (lv_at hl 2 rfl) ?_
    refine lv_if_lt (tgt := 40) hx hb dX10_trail_12 (by decide) (fun c_2 => ?_) (fun c_2 => ?_)
    · have t_c_2 := z_ltT c_2
      have f_3 : zR (-2147483648) (-1) (pa1) := zR_ltx t_c_2 (zR_any (pa1)) zk_z (by decide)
      refine lv_iconst (v := (-1)) hx hb dX10_trail_40 (by decide +kernel) ?_
      exact z_iret (v := (-1)) hx hb hr hlocks hP hD hS dX10_trail_41 rfl
    · have t_c_2 := z_ltF c_2
      have f_4 : zR 0 2147483647 (pa1) := zR_ley t_c_2 zk_z (zR_any (pa1)) (by decide)
      refine lv_iload_n hx hb dX10_trail_15 rfl (lv_at hl 2 rfl) ?_
      refine lv_aload_n hx hb dX10_trail_16 rfl (lv_at hl 0 rfl) ?_
      refine z_get hx hb ht hown hK hP ziX10 rfl 0 (by decide) 4 (by decide) hw_2_97 rfl (v := .ref (q 15)) rfl dX10_trail_17 ?_
      refine z_get hx hb ht hown hK hP ziX9 rfl 15 (by decide) 6 (by decide) hw_1_170 rfl (v := .ref (q 18)) rfl dX10_trail_20 ?_
      refine lv_iload_n hx hb dX10_trail_23 rfl (lv_at hl 1 rfl) ?_
      refine z_iald hx hb hK hP 18 (by decide) 12 rfl rfl (zR_vin f0_1 (by decide)) dX10_trail_24 ?_
      refine z_eqi (y := R 18 (pa0).toNatClampNeg) rfl ?_
      have f_5 : zR 0 48 (R 18 (pa0).toNatClampNeg) := xR hI 18 (pa0).toNatClampNeg
      refine lv_icmp_gt (tgt := 40) hx hb dX10_trail_25 (by decide) (fun c_6 => ?_) (fun c_6 => ?_)
      · have t_c_6 := z_ltT c_6
        have f_7 : zR 1 2147483647 (pa1) := zR_lty t_c_6 f_5 f_4 (by decide)
        refine lv_iconst (v := (-1)) hx hb dX10_trail_40 (by decide +kernel) ?_
        exact z_iret (v := (-1)) hx hb hr hlocks hP hD hS dX10_trail_41 rfl
      · have t_c_6 := z_ltF c_6
        have f_8 : zR 0 48 (pa1) := zR_lex t_c_6 f_4 f_5 (by decide)
        refine lv_aload_n hx hb dX10_trail_28 rfl (lv_at hl 0 rfl) ?_
        refine z_get hx hb ht hown hK hP ziX10 rfl 0 (by decide) 4 (by decide) hw_2_97 rfl (v := .ref (q 15)) rfl dX10_trail_29 ?_
        refine lv_iload_n hx hb dX10_trail_32 rfl (lv_at hl 1 rfl) ?_
        refine lv_iload_n hx hb dX10_trail_33 rfl (lv_at hl 2 rfl) ?_
        refine z_callVi (k := 15) (As := [.int (pa0), .int (pa1)]) (rest := []) hx hb hml hown ht (xk_X9_stationOf l D q cA F _ _ _ hI (pa0) f0_1 (pa1) f_8) hw_4_112 hmX9_stationOf ⟨rfl, rfl⟩ (na := 2) rfl (by decide +kernel) (by decide) (by decide) rfl rfl hK hP hD hS hA hl.1 rfl (Nat.le_of_ble_eq_true rfl) ⟨Nat.zero_le _, Nat.zero_le _⟩ dX10_trail_34 (fun r_9 I_9 R_9 J_9 H locs hp_9 hP hD hS _ _ => ?_)
        cases hp_9
        refine lv_goto (tgt := 41) hx hb dX10_trail_37 (by decide) ?_
        exact z_iret (v := r_9) hx hb hr hlocks hP hD hS dX10_trail_41 rfl
  · cases hu_1
    refine lv_if_ne (tgt := 11) hx hb dX10_trail_5 (by decide) (fun c_0 => absurd (zD_eq zk_0 zk_z) c_0) (fun _ => ?_)
    refine lv_bipush (v := (-2)) hx hb dX10_trail_8 (by decide +kernel) ?_
    exact z_iret (v := (-2)) hx hb hr hlocks hP hD hS dX10_trail_10 rfl
set_option maxHeartbeats 4000000 in
set_option maxRecDepth 100000 in
theorem xk_X10_went (l : Launch) (D : va_G) (q : Nat → Nat) (cA : Nat → ClassId) (F : Nat → Nat → Int32) (I R : Nat → Nat → Int32) (J : Nat → Nat → Int64) (hI : xInv F (I, R, J)) (pa0 : Int32) : zMi l D vwCl (zXtys cA) 81 q (zXd q cA) yX10_went cX10_went 2 (some .int) ({ frames := 1, cells := 0, slots := 0, locals := 21 } : Room) [.ref (q 0), .int (pa0)] (I, R, J) (fun r u => zR (-2) 48 r ∧ u = (I, R, J)) := by
  intro sz
  refine z_body (by decide +kernel) (Nat.le_of_ble_eq_true rfl) (fun p e s m below meth c ls hx hb hml hr ht hown hlocks hsz hK hP hD hS hl => ?_)
  have hA : ∀ a, s.heap.size ≤ a → zA 81 q sz a := fun a h => Or.inr (hsz ▸ h)
  have hl : lv_has ls 2 [(0, .ref (q 0)), (1, .int (pa0))] := hl
  refine lv_aload_n hx hb dX10_went_0 rfl (lv_at hl 0 rfl) ?_
  refine lv_iload_n hx hb dX10_went_1 rfl (lv_at hl 1 rfl) ?_
  refine z_callVi (k := 0) (As := [.int (pa0)]) (rest := []) hx hb hml hown ht (xk_X10_isThing l D q cA F _ _ _ hI (pa0)) hw_3_87 hmX10_isThing ⟨rfl, rfl⟩ (na := 1) rfl (by decide +kernel) (by decide) (by decide) rfl rfl hK hP hD hS hA hl.1 rfl (Nat.le_of_ble_eq_true rfl) ⟨Nat.zero_le _, Nat.zero_le _⟩ dX10_went_2 (fun r_1 I_1 R_1 J_1 H locs hp_1 hP hD hS _ _ => ?_)
  rcases hp_1 with ⟨rfl, hu_1, f0_1⟩ | ⟨rfl, hu_1⟩
  · cases hu_1
    refine lv_if_eq (tgt := 20) hx hb dX10_went_5 (by decide) (fun c_0 => absurd c_0 (zD_ne zk_1 zk_z (by decide))) (fun _ => ?_)
    refine lv_aload_n hx hb dX10_went_8 rfl (lv_at hl 0 rfl) ?_
    refine z_get hx hb ht hown hK hP ziX10 rfl 0 (by decide) 4 (by decide) hw_2_97 rfl (v := .ref (q 15)) rfl dX10_went_9 ?_
    refine z_get hx hb ht hown hK hP ziX9 rfl 15 (by decide) 6 (by decide) hw_1_170 rfl (v := .ref (q 18)) rfl dX10_went_12 ?_
    refine lv_iload_n hx hb dX10_went_15 rfl (lv_at hl 1 rfl) ?_
    refine z_iald hx hb hK hP 18 (by decide) 12 rfl rfl (zR_vin f0_1 (by decide)) dX10_went_16 ?_
    refine z_eqi (y := R 18 (pa0).toNatClampNeg) rfl ?_
    have f_2 : zR 0 48 (R 18 (pa0).toNatClampNeg) := xR hI 18 (pa0).toNatClampNeg
    refine lv_goto (tgt := 22) hx hb dX10_went_17 (by decide) ?_
    exact z_iret (v := R 18 (pa0).toNatClampNeg) hx hb hr hlocks hP hD hS dX10_went_22 ⟨(zR_w f_2 (by decide)), rfl⟩
  · cases hu_1
    refine lv_if_eq (tgt := 20) hx hb dX10_went_5 (by decide) (fun _ => ?_) (fun c_0 => absurd (zD_eq zk_0 zk_z) c_0)
    refine lv_bipush (v := (-2)) hx hb dX10_went_20 (by decide +kernel) ?_
    exact z_iret (v := (-2)) hx hb hr hlocks hP hD hS dX10_went_22 ⟨(zR_w zk_m2 (by decide)), rfl⟩
set_option maxHeartbeats 4000000 in
set_option maxRecDepth 100000 in
theorem xk_X9_inReachOf (l : Launch) (D : va_G) (q : Nat → Nat) (cA : Nat → ClassId) (F : Nat → Nat → Int32) (I R : Nat → Nat → Int32) (J : Nat → Nat → Int64) (hI : xInv F (I, R, J)) (pa0 : Int32) (hpa0 : zR 0 4 pa0) : zMi l D vwCl (zXtys cA) 81 q (zXd q cA) yX9_inReachOf cX9_inReachOf 5 (some .int) ({ frames := 1, cells := 0, slots := 0, locals := 21 } : Room) [.ref (q 15), .int (pa0)] (I, R, J) (fun r u => zR 0 63 r ∧ u = (I, R, J)) := by
  intro sz
  refine z_body (by decide +kernel) (Nat.le_of_ble_eq_true rfl) (fun p e s m below meth c ls hx hb hml hr ht hown hlocks hsz hK hP hD hS hl => ?_)
  have hA : ∀ a, s.heap.size ≤ a → zA 81 q sz a := fun a h => Or.inr (hsz ▸ h)
  have hl : lv_has ls 5 [(0, .ref (q 15)), (1, .int (pa0))] := hl
  refine lv_iconst (v := nI 0) hx hb dX9_inReachOf_0 (by decide +kernel) ?_
  refine lv_istore_n (lv' := [(2, .int (nI 0)), (0, .ref (q 15)), (1, .int (pa0))]) hx hb dX9_inReachOf_1 rfl hl (by decide) rfl (fun ls hl => ?_)
  refine lv_iconst (v := nI 0) hx hb dX9_inReachOf_2 (by decide +kernel) ?_
  refine lv_istore_n (lv' := [(3, .int (nI 0)), (2, .int (nI 0)), (0, .ref (q 15)), (1, .int (pa0))]) hx hb dX9_inReachOf_3 rfl hl (by decide) rfl (fun ls hl => ?_)
  have loop_64 : ∀ N : Nat, ∀ x_62 : Int32, zR 0 63 x_62 → ∀ x_63 : Int32, zR 0 6 x_63 → (2147483648 - (x_63).toInt).toNat < N → ∀ (H : Heap) (locs : List Loc), va_P D vwCl (zw 81 q (zXd q cA) I R J) H → va_D (zA 81 q sz) (zw 81 q (zXd q cA) I R J) → va_S (zA 81 q sz) s.heap H locs → ∀ ls : Array Slot, lv_has ls 5 [(0, .ref (q 15)), (1, .int (pa0)), (2, .int (x_62)), (3, .int (x_63))] → W p l e ({ frames := 1, cells := 0, slots := 0, locals := 21 } : Room) s m ([.ref (q 15), .int (pa0)] : List Value).toArray below meth c H locs 0 0 (MQ below (va_Qi (fun r u => zR 0 63 r ∧ u = (I, R, J)) (zB D vwCl 81 q (zXd q cA) sz) (zA 81 q sz)) ([.ref (q 15), .int (pa0)] : List Value).toArray s 0 0 (zA 81 q sz)) (F0 m 4 ls []) := by
    intro N
    induction N with
    | zero => intro x_62 hx_62 x_63 hx_63 hN; exact absurd hN (Nat.not_lt_zero _)
    | succ N ih_66 =>
      intro x_62 hx_62 x_63 hx_63 hN_65 H locs hP hD hS ls hl
      refine lv_iload_n hx hb dX9_inReachOf_4 rfl (lv_at hl 3 rfl) ?_
      refine lv_aload_n hx hb dX9_inReachOf_5 rfl (lv_at hl 0 rfl) ?_
      refine z_get hx hb ht hown hK hP ziX9 rfl 15 (by decide) 0 (by decide) hw_1_154 rfl (v := .ref (q 3)) rfl dX9_inReachOf_6 ?_
      refine z_get hx hb ht hown hK hP ziX2 rfl 3 (by decide) 5 (by decide) hw_1_92 rfl (v := .int (I 3 5)) rfl dX9_inReachOf_9 ?_
      have f_67 : zR 0 6 (I 3 5) := xI hI 3 5
      refine lv_icmp_ge (tgt := 54) hx hb dX9_inReachOf_12 (by decide) (fun c_68 => ?_) (fun c_68 => ?_)
      · have t_c_68 := z_leT c_68
        refine lv_iload_n hx hb dX9_inReachOf_54 rfl (lv_at hl 2 rfl) ?_
        exact z_iret (v := x_62) hx hb hr hlocks hP hD hS dX9_inReachOf_55 ⟨hx_62, rfl⟩
      · have t_c_68 := z_leF c_68
        have f_69 : zR 0 5 (x_63) := zR_ltx t_c_68 hx_63 f_67 (by decide)
        have f_70 : zR 1 6 (I 3 5) := zR_lty t_c_68 hx_63 f_67 (by decide)
        refine lv_aload_n hx hb dX9_inReachOf_15 rfl (lv_at hl 0 rfl) ?_
        refine z_get hx hb ht hown hK hP ziX9 rfl 15 (by decide) 5 (by decide) hw_1_166 rfl (v := .ref (q 17)) rfl dX9_inReachOf_16 ?_
        refine lv_iload_n hx hb dX9_inReachOf_19 rfl (lv_at hl 3 rfl) ?_
        refine z_iald hx hb hK hP 17 (by decide) 11 rfl rfl (zR_vin f_69 (by decide)) dX9_inReachOf_20 ?_
        refine z_eqi (y := R 17 (x_63).toNatClampNeg) rfl ?_
        have f_71 : zR 0 4 (R 17 (x_63).toNatClampNeg) := xR hI 17 (x_63).toNatClampNeg
        refine lv_istore (lv' := [(4, .int (R 17 (x_63).toNatClampNeg)), (0, .ref (q 15)), (1, .int (pa0)), (2, .int (x_62)), (3, .int (x_63))]) hx hb dX9_inReachOf_21 hl (by decide) rfl (fun ls hl => ?_)
        refine lv_iload_n hx hb dX9_inReachOf_23 rfl (lv_at hl 3 rfl) ?_
        refine lv_iload hx hb dX9_inReachOf_24 (lv_at hl 0 rfl) ?_
        refine lv_iload_n hx hb dX9_inReachOf_26 rfl (lv_at hl 2 rfl) ?_
        have t_76 : ∀ x_75 : Int32, zR 0 32 x_75 → ∀ (H : Heap) (locs : List Loc), va_P D vwCl (zw 81 q (zXd q cA) I R J) H → va_D (zA 81 q sz) (zw 81 q (zXd q cA) I R J) → va_S (zA 81 q sz) s.heap H locs → ∀ ls : Array Slot, lv_has ls 5 [(0, .ref (q 15)), (1, .int (pa0)), (2, .int (x_62)), (3, .int (x_63)), (4, .int (R 17 (x_63).toNatClampNeg))] → W p l e ({ frames := 1, cells := 0, slots := 0, locals := 21 } : Room) s m ([.ref (q 15), .int (pa0)] : List Value).toArray below meth c H locs 0 0 (MQ below (va_Qi (fun r u => zR 0 63 r ∧ u = (I, R, J)) (zB D vwCl 81 q (zXd q cA) sz) (zA 81 q sz)) ([.ref (q 15), .int (pa0)] : List Value).toArray s 0 0 (zA 81 q sz)) (F0 m 46 ls [.int (x_75), .int (x_62)]) := by
          intro x_75 hx_75 H locs hP hD hS ls hl
          refine lv_ior hx hb dX9_inReachOf_46 ?_
          refine z_rng (a := 0) (b := 63) (zR_or 6 hx_62 hx_75 (by decide)) (fun v_77 hv_77 => ?_)
          refine lv_istore_n (lv' := [(2, .int (v_77)), (0, .ref (q 15)), (1, .int (pa0)), (3, .int (x_63)), (4, .int (R 17 (x_63).toNatClampNeg))]) hx hb dX9_inReachOf_47 rfl hl (by decide) rfl (fun ls hl => ?_)
          obtain ⟨v_78, ev_78⟩ : ∃ y : Int32, y = x_63 + nI 1 := ⟨_, rfl⟩
          have hv_78 : zR 1 6 v_78 := ev_78 ▸ zR_add f_69 zk_1 (by decide)
          have mv_78 : v_78.toInt = (x_63).toInt + 1 := by rw [ev_78, zR_addE f_69 zk_1 (by decide)]; rfl
          refine lv_iinc (v := v_78) (lv' := [(3, .int (v_78)), (2, .int (v_77)), (0, .ref (q 15)), (1, .int (pa0)), (4, .int (R 17 (x_63).toNatClampNeg))]) hx hb dX9_inReachOf_48 hl (k := 3) rfl (ev_78 ▸ rfl) (by decide) rfl (fun ls hl => ?_)
          refine lv_goto (tgt := 4) hx hb dX9_inReachOf_51 (by decide) ?_
          exact ih_66 (v_77) hv_77 (v_78) (zR_w hv_78 (by decide)) (z2_up mv_78 (by decide) hN_65) _ _ hP hD hS _ (lv_sub hl [2, 3, 1, 0] rfl)
        refine lv_icmp_eq (tgt := 45) hx hb dX9_inReachOf_27 (by decide) (fun c_72 => ?_) (fun c_72 => ?_)
        · have t_c_72 := z_eqT c_72
          refine lv_iconst (v := nI 0) hx hb dX9_inReachOf_45 (by decide +kernel) ?_
          exact t_76 (nI 0) (zR_w zk_0 (by decide)) _ _ hP hD hS _ (lv_sub hl [1, 2, 3, 4, 0] rfl)
        · have t_c_72 := z_eqF c_72
          refine lv_aload_n hx hb dX9_inReachOf_30 rfl (lv_at hl 1 rfl) ?_
          refine lv_iload hx hb dX9_inReachOf_31 (lv_at hl 0 rfl) ?_
          refine z_callVi (k := 15) (As := [.int (R 17 (x_63).toNatClampNeg)]) (rest := [.int (x_62)]) hx hb hml hown ht (xk_X9_isLocked l D q cA F _ _ _ hI (R 17 (x_63).toNatClampNeg) f_71) hw_3_152 hmX9_isLocked ⟨rfl, rfl⟩ (na := 1) rfl (by decide +kernel) (by decide) (by decide) rfl rfl hK hP hD hS hA hl.1 rfl (Nat.le_of_ble_eq_true rfl) ⟨Nat.zero_le _, Nat.zero_le _⟩ dX9_inReachOf_33 (fun r_79 I_79 R_79 J_79 H locs hp_79 hP hD hS _ _ => ?_)
          rcases hp_79 with ⟨rfl, hu_79⟩ | ⟨rfl, hu_79⟩
          · cases hu_79
            refine lv_if_ne (tgt := 45) hx hb dX9_inReachOf_36 (by decide) (fun _ => ?_) (fun c_0 => absurd c_0 (zD_ne zk_1 zk_z (by decide)))
            refine lv_iconst (v := nI 0) hx hb dX9_inReachOf_45 (by decide +kernel) ?_
            exact t_76 (nI 0) (zR_w zk_0 (by decide)) _ _ hP hD hS _ (lv_sub hl [1, 2, 3, 4, 0] rfl)
          · cases hu_79
            refine lv_if_ne (tgt := 45) hx hb dX9_inReachOf_36 (by decide) (fun c_0 => absurd (zD_eq zk_0 zk_z) c_0) (fun _ => ?_)
            refine lv_iconst (v := nI 1) hx hb dX9_inReachOf_39 (by decide +kernel) ?_
            refine lv_iload_n hx hb dX9_inReachOf_40 rfl (lv_at hl 4 rfl) ?_
            refine lv_ishl hx hb dX9_inReachOf_41 ?_
            refine z_rng (a := 1) (b := 32) (zR_shl1 5 f_69 (by decide)) (fun v_80 hv_80 => ?_)
            refine lv_goto (tgt := 46) hx hb dX9_inReachOf_42 (by decide) ?_
            exact t_76 (v_80) (zR_w hv_80 (by decide)) _ _ hP hD hS _ (lv_sub hl [1, 2, 3, 4, 0] rfl)
  exact loop_64 _ (nI 0) (zR_w zk_0 (by decide)) (nI 0) (zR_w zk_0 (by decide)) (Nat.lt_succ_self _) _ _ hP hD hS _ (lv_sub hl [2, 3, 1, 0] rfl)
set_option maxHeartbeats 4000000 in
set_option maxRecDepth 100000 in
theorem xk_X10_lies (l : Launch) (D : va_G) (q : Nat → Nat) (cA : Nat → ClassId) (F : Nat → Nat → Int32) (I R : Nat → Nat → Int32) (J : Nat → Nat → Int64) (hI : xInv F (I, R, J)) (pa0 : Int32) : zMi l D vwCl (zXtys cA) 81 q (zXd q cA) yX10_lies cX10_lies 2 (some .int) ({ frames := 2, cells := 0, slots := 0, locals := 45 } : Room) [.ref (q 0), .int (pa0)] (I, R, J) (fun r u => zR (-2) 63 r ∧ u = (I, R, J)) := by
  intro sz
  refine z_body (by decide +kernel) (Nat.le_of_ble_eq_true rfl) (fun p e s m below meth c ls hx hb hml hr ht hown hlocks hsz hK hP hD hS hl => ?_)
  have hA : ∀ a, s.heap.size ≤ a → zA 81 q sz a := fun a h => Or.inr (hsz ▸ h)
  have hl : lv_has ls 2 [(0, .ref (q 0)), (1, .int (pa0))] := hl
  refine lv_aload_n hx hb dX10_lies_0 rfl (lv_at hl 0 rfl) ?_
  refine lv_iload_n hx hb dX10_lies_1 rfl (lv_at hl 1 rfl) ?_
  refine z_callVi (k := 0) (As := [.int (pa0)]) (rest := []) hx hb hml hown ht (xk_X10_isHouse l D q cA F _ _ _ hI (pa0)) hw_3_59 hmX10_isHouse ⟨rfl, rfl⟩ (na := 1) rfl (by decide +kernel) (by decide) (by decide) rfl rfl hK hP hD hS hA hl.1 rfl (Nat.le_of_ble_eq_true rfl) ⟨Nat.zero_le _, Nat.zero_le _⟩ dX10_lies_2 (fun r_1 I_1 R_1 J_1 H locs hp_1 hP hD hS _ _ => ?_)
  rcases hp_1 with ⟨rfl, hu_1, f0_1⟩ | ⟨rfl, hu_1⟩
  · cases hu_1
    refine lv_if_eq (tgt := 19) hx hb dX10_lies_5 (by decide) (fun c_0 => absurd c_0 (zD_ne zk_1 zk_z (by decide))) (fun _ => ?_)
    refine lv_aload_n hx hb dX10_lies_8 rfl (lv_at hl 0 rfl) ?_
    refine z_get hx hb ht hown hK hP ziX10 rfl 0 (by decide) 4 (by decide) hw_2_97 rfl (v := .ref (q 15)) rfl dX10_lies_9 ?_
    refine lv_iload_n hx hb dX10_lies_12 rfl (lv_at hl 1 rfl) ?_
    refine z_callVi (k := 15) (As := [.int (pa0)]) (rest := []) hx hb hml hown ht (xk_X9_inReachOf l D q cA F _ _ _ hI (pa0) f0_1) hw_4_124 hmX9_inReachOf ⟨rfl, rfl⟩ (na := 1) rfl (by decide +kernel) (by decide) (by decide) rfl rfl hK hP hD hS hA hl.1 rfl (Nat.le_of_ble_eq_true rfl) ⟨Nat.zero_le _, Nat.zero_le _⟩ dX10_lies_13 (fun r_2 I_2 R_2 J_2 H locs hp_2 hP hD hS _ _ => ?_)
    obtain ⟨hr_2, hu_2⟩ := hp_2
    cases hu_2
    refine lv_goto (tgt := 21) hx hb dX10_lies_16 (by decide) ?_
    exact z_iret (v := r_2) hx hb hr hlocks hP hD hS dX10_lies_21 ⟨(zR_w hr_2 (by decide)), rfl⟩
  · cases hu_1
    refine lv_if_eq (tgt := 19) hx hb dX10_lies_5 (by decide) (fun _ => ?_) (fun c_0 => absurd (zD_eq zk_0 zk_z) c_0)
    refine lv_bipush (v := (-2)) hx hb dX10_lies_19 (by decide +kernel) ?_
    exact z_iret (v := (-2)) hx hb hr hlocks hP hD hS dX10_lies_21 ⟨(zR_w zk_m2 (by decide)), rfl⟩
set_option maxHeartbeats 4000000 in
set_option maxRecDepth 100000 in
theorem xk_X10_poorest (l : Launch) (D : va_G) (q : Nat → Nat) (cA : Nat → ClassId) (F : Nat → Nat → Int32) (I R : Nat → Nat → Int32) (J : Nat → Nat → Int64) (hI : xInv F (I, R, J))  : zMi l D vwCl (zXtys cA) 81 q (zXd q cA) yX10_poorest cX10_poorest 5 (some .int) ({ frames := 3, cells := 0, slots := 0, locals := 67 } : Room) [.ref (q 0)] (I, R, J) (fun r u => zR (-2) 4 r ∧ u = (I, R, J)) := by
  intro sz
  refine z_body (by decide +kernel) (Nat.le_of_ble_eq_true rfl) (fun p e s m below meth c ls hx hb hml hr ht hown hlocks hsz hK hP hD hS hl => ?_)
  have hA : ∀ a, s.heap.size ≤ a → zA 81 q sz a := fun a h => Or.inr (hsz ▸ h)
  have hl : lv_has ls 5 [(0, .ref (q 0))] := hl
  refine lv_aload_n hx hb dX10_poorest_0 rfl (lv_at hl 0 rfl) ?_
  refine z_callVi (k := 0) (As := []) (rest := []) hx hb hml hown ht (xk_X10_hasCity l D q cA F _ _ _ hI ) hw_4_0 hmX10_hasCity ⟨rfl, rfl⟩ (na := 0) rfl (by decide +kernel) (by decide) (by decide) rfl rfl hK hP hD hS hA hl.1 rfl (Nat.le_of_ble_eq_true rfl) ⟨Nat.zero_le _, Nat.zero_le _⟩ dX10_poorest_1 (fun r_1 I_1 R_1 J_1 H locs hp_1 hP hD hS _ _ => ?_)
  rcases hp_1 with ⟨rfl, hu_1⟩ | ⟨rfl, hu_1⟩
  · cases hu_1
    refine lv_if_ne (tgt := 10) hx hb dX10_poorest_4 (by decide) (fun _ => ?_) (fun c_0 => absurd c_0 (zD_ne zk_1 zk_z (by decide)))
    refine lv_iconst (v := (-1)) hx hb dX10_poorest_10 (by decide +kernel) ?_
    refine lv_istore_n (lv' := [(1, .int ((-1))), (0, .ref (q 0))]) hx hb dX10_poorest_11 rfl hl (by decide) rfl (fun ls hl => ?_)
    refine lv_iconst (v := nI 0) hx hb dX10_poorest_12 (by decide +kernel) ?_
    refine lv_istore_n (lv' := [(2, .int (nI 0)), (1, .int ((-1))), (0, .ref (q 0))]) hx hb dX10_poorest_13 rfl hl (by decide) rfl (fun ls hl => ?_)
    refine lv_iconst (v := nI 0) hx hb dX10_poorest_14 (by decide +kernel) ?_
    refine lv_istore_n (lv' := [(3, .int (nI 0)), (2, .int (nI 0)), (1, .int ((-1))), (0, .ref (q 0))]) hx hb dX10_poorest_15 rfl hl (by decide) rfl (fun ls hl => ?_)
    have loop_78 : ∀ N : Nat, ∀ x_75 : Int32, zR (-1) 4 x_75 → ∀ x_76 : Int32, ∀ x_77 : Int32, zR 0 5 x_77 → (2147483648 - (x_77).toInt).toNat < N → ∀ (H : Heap) (locs : List Loc), va_P D vwCl (zw 81 q (zXd q cA) I R J) H → va_D (zA 81 q sz) (zw 81 q (zXd q cA) I R J) → va_S (zA 81 q sz) s.heap H locs → ∀ ls : Array Slot, lv_has ls 5 [(0, .ref (q 0)), (1, .int (x_75)), (2, .int (x_76)), (3, .int (x_77))] → W p l e ({ frames := 3, cells := 0, slots := 0, locals := 67 } : Room) s m ([.ref (q 0)] : List Value).toArray below meth c H locs 0 0 (MQ below (va_Qi (fun r u => zR (-2) 4 r ∧ u = (I, R, J)) (zB D vwCl 81 q (zXd q cA) sz) (zA 81 q sz)) ([.ref (q 0)] : List Value).toArray s 0 0 (zA 81 q sz)) (F0 m 16 ls []) := by
      intro N
      induction N with
      | zero => intro x_75 hx_75 x_76 x_77 hx_77 hN; exact absurd hN (Nat.not_lt_zero _)
      | succ N ih_80 =>
        intro x_75 hx_75 x_76 x_77 hx_77 hN_79 H locs hP hD hS ls hl
        refine lv_iload_n hx hb dX10_poorest_16 rfl (lv_at hl 3 rfl) ?_
        refine lv_aload_n hx hb dX10_poorest_17 rfl (lv_at hl 0 rfl) ?_
        refine z_get hx hb ht hown hK hP ziX10 rfl 0 (by decide) 1 (by decide) hw_2_94 rfl (v := .ref (q 3)) rfl dX10_poorest_18 ?_
        refine z_get hx hb ht hown hK hP ziX2 rfl 3 (by decide) 4 (by decide) hw_1_85 rfl (v := .int (I 3 4)) rfl dX10_poorest_21 ?_
        have f_81 : zR 0 5 (I 3 4) := xI hI 3 4
        refine lv_icmp_ge (tgt := 59) hx hb dX10_poorest_24 (by decide) (fun c_82 => ?_) (fun c_82 => ?_)
        · have t_c_82 := z_leT c_82
          refine lv_iload_n hx hb dX10_poorest_59 rfl (lv_at hl 1 rfl) ?_
          exact z_iret (v := x_75) hx hb hr hlocks hP hD hS dX10_poorest_60 ⟨(zR_w hx_75 (by decide)), rfl⟩
        · have t_c_82 := z_leF c_82
          have f_83 : zR 0 4 (x_77) := zR_ltx t_c_82 hx_77 f_81 (by decide)
          have f_84 : zR 1 5 (I 3 4) := zR_lty t_c_82 hx_77 f_81 (by decide)
          refine lv_aload_n hx hb dX10_poorest_27 rfl (lv_at hl 0 rfl) ?_
          refine z_get hx hb ht hown hK hP ziX10 rfl 0 (by decide) 4 (by decide) hw_2_97 rfl (v := .ref (q 15)) rfl dX10_poorest_28 ?_
          refine lv_iload_n hx hb dX10_poorest_31 rfl (lv_at hl 3 rfl) ?_
          refine z_callVi (k := 15) (As := [.int (x_77)]) (rest := []) hx hb hml hown ht (xk_X9_netOf l D q cA F _ _ _ hI (x_77) f_83) hw_3_128 hmX9_netOf ⟨rfl, rfl⟩ (na := 1) rfl (by decide +kernel) (by decide) (by decide) rfl rfl hK hP hD hS hA hl.1 rfl (Nat.le_of_ble_eq_true rfl) ⟨Nat.zero_le _, Nat.zero_le _⟩ dX10_poorest_32 (fun r_85 I_85 R_85 J_85 H locs hp_85 hP hD hS _ _ => ?_)
          cases hp_85
          refine lv_istore (lv' := [(4, .int (r_85)), (0, .ref (q 0)), (1, .int (x_75)), (2, .int (x_76)), (3, .int (x_77))]) hx hb dX10_poorest_35 hl (by decide) rfl (fun ls hl => ?_)
          refine lv_iload_n hx hb dX10_poorest_37 rfl (lv_at hl 2 rfl) ?_
          refine lv_iconst (v := (-1)) hx hb dX10_poorest_38 (by decide +kernel) ?_
          have t_94 : ∀ x_92 : Int32, zR 0 4 x_92 → ∀ x_93 : Int32, ∀ (H : Heap) (locs : List Loc), va_P D vwCl (zw 81 q (zXd q cA) I R J) H → va_D (zA 81 q sz) (zw 81 q (zXd q cA) I R J) → va_S (zA 81 q sz) s.heap H locs → ∀ ls : Array Slot, lv_has ls 5 [(0, .ref (q 0)), (1, .int (x_92)), (2, .int (x_93)), (3, .int (x_77)), (4, .int (r_85))] → W p l e ({ frames := 3, cells := 0, slots := 0, locals := 67 } : Room) s m ([.ref (q 0)] : List Value).toArray below meth c H locs 0 0 (MQ below (va_Qi (fun r u => zR (-2) 4 r ∧ u = (I, R, J)) (zB D vwCl 81 q (zXd q cA) sz) (zA 81 q sz)) ([.ref (q 0)] : List Value).toArray s 0 0 (zA 81 q sz)) (F0 m 53 ls []) := by
            intro x_92 hx_92 x_93 H locs hP hD hS ls hl
            obtain ⟨v_95, ev_95⟩ : ∃ y : Int32, y = x_77 + nI 1 := ⟨_, rfl⟩
            have hv_95 : zR 1 5 v_95 := ev_95 ▸ zR_add f_83 zk_1 (by decide)
            have mv_95 : v_95.toInt = (x_77).toInt + 1 := by rw [ev_95, zR_addE f_83 zk_1 (by decide)]; rfl
            refine lv_iinc (v := v_95) (lv' := [(3, .int (v_95)), (0, .ref (q 0)), (1, .int (x_92)), (2, .int (x_93)), (4, .int (r_85))]) hx hb dX10_poorest_53 hl (k := 3) rfl (ev_95 ▸ rfl) (by decide) rfl (fun ls hl => ?_)
            refine lv_goto (tgt := 16) hx hb dX10_poorest_56 (by decide) ?_
            exact ih_80 (x_92) (zR_w hx_92 (by decide)) (x_93) (v_95) (zR_w hv_95 (by decide)) (z2_up mv_95 (by decide) hN_79) _ _ hP hD hS _ (lv_sub hl [1, 2, 3, 0] rfl)
          refine lv_icmp_eq (tgt := 48) hx hb dX10_poorest_39 (by decide) (fun c_86 => ?_) (fun c_86 => ?_)
          · have t_c_86 := z_eqT c_86
            have f_96 : zR (-1) (-1) (x_75) := zR_eqx t_c_86 zk_m1
            refine lv_iload_n hx hb dX10_poorest_48 rfl (lv_at hl 4 rfl) ?_
            refine lv_istore_n (lv' := [(1, .int (x_77)), (4, .int (r_85)), (0, .ref (q 0)), (2, .int (x_76)), (3, .int (x_77))]) hx hb dX10_poorest_49 rfl hl (by decide) rfl (fun ls hl => ?_)
            refine lv_iload hx hb dX10_poorest_50 (lv_at hl 1 rfl) ?_
            refine lv_istore_n (lv' := [(2, .int (r_85)), (1, .int (x_77)), (4, .int (r_85)), (0, .ref (q 0)), (3, .int (x_77))]) hx hb dX10_poorest_52 rfl hl (by decide) rfl (fun ls hl => ?_)
            exact t_94 (x_77) f_83 (r_85) _ _ hP hD hS _ (lv_sub hl [3, 1, 0, 4, 2] rfl)
          · have t_c_86 := z_eqF c_86
            have f_97 : zR 0 4 (x_75) := zR_nex t_c_86 hx_75 zk_m1 (by decide)
            refine lv_iload hx hb dX10_poorest_42 (lv_at hl 0 rfl) ?_
            refine lv_iload_n hx hb dX10_poorest_44 rfl (lv_at hl 3 rfl) ?_
            refine lv_icmp_ge (tgt := 53) hx hb dX10_poorest_45 (by decide) (fun c_98 => ?_) (fun c_98 => ?_)
            · have t_c_98 := z_leT c_98
              exact t_94 (x_75) f_97 (x_76) _ _ hP hD hS _ (lv_sub hl [1, 2, 3, 4, 0] rfl)
            · have t_c_98 := z_leF c_98
              have f_99 : zR (-2147483648) 2147483646 (r_85) := zR_ltx t_c_98 (zR_any (r_85)) (zR_any (x_76)) (by decide)
              have f_100 : zR (-2147483647) 2147483647 (x_76) := zR_lty t_c_98 (zR_any (r_85)) (zR_any (x_76)) (by decide)
              refine lv_iload_n hx hb dX10_poorest_48 rfl (lv_at hl 4 rfl) ?_
              refine lv_istore_n (lv' := [(1, .int (x_77)), (4, .int (r_85)), (0, .ref (q 0)), (2, .int (x_76)), (3, .int (x_77))]) hx hb dX10_poorest_49 rfl hl (by decide) rfl (fun ls hl => ?_)
              refine lv_iload hx hb dX10_poorest_50 (lv_at hl 1 rfl) ?_
              refine lv_istore_n (lv' := [(2, .int (r_85)), (1, .int (x_77)), (4, .int (r_85)), (0, .ref (q 0)), (3, .int (x_77))]) hx hb dX10_poorest_52 rfl hl (by decide) rfl (fun ls hl => ?_)
              exact t_94 (x_77) f_83 (r_85) _ _ hP hD hS _ (lv_sub hl [3, 1, 0, 4, 2] rfl)
    exact loop_78 _ ((-1)) (zR_w zk_m1 (by decide)) (nI 0) (nI 0) (zR_w zk_0 (by decide)) (Nat.lt_succ_self _) _ _ hP hD hS _ (lv_sub hl [3, 2, 1, 0] rfl)
  · cases hu_1
    refine lv_if_ne (tgt := 10) hx hb dX10_poorest_4 (by decide) (fun c_0 => absurd (zD_eq zk_0 zk_z) c_0) (fun _ => ?_)
    refine lv_bipush (v := (-2)) hx hb dX10_poorest_7 (by decide +kernel) ?_
    exact z_iret (v := (-2)) hx hb hr hlocks hP hD hS dX10_poorest_9 ⟨(zR_w zk_m2 (by decide)), rfl⟩
set_option maxHeartbeats 4000000 in
set_option maxRecDepth 100000 in
theorem xk_X9_dueOn (l : Launch) (D : va_G) (q : Nat → Nat) (cA : Nat → ClassId) (F : Nat → Nat → Int32) (I R : Nat → Nat → Int32) (J : Nat → Nat → Int64) (hI : xInv F (I, R, J)) (pa0 : Int32) (hpa0 : zR 0 60 pa0) : zMi l D vwCl (zXtys cA) 81 q (zXd q cA) yX9_dueOn cX9_dueOn 4 (some .int) ({ frames := 1, cells := 0, slots := 0, locals := 21 } : Room) [.ref (q 15), .int (pa0)] (I, R, J) (fun r u => zR 0 16777215 r ∧ u = (I, R, J)) := by
  intro sz
  refine z_body (by decide +kernel) (Nat.le_of_ble_eq_true rfl) (fun p e s m below meth c ls hx hb hml hr ht hown hlocks hsz hK hP hD hS hl => ?_)
  have hA : ∀ a, s.heap.size ≤ a → zA 81 q sz a := fun a h => Or.inr (hsz ▸ h)
  have hl : lv_has ls 4 [(0, .ref (q 15)), (1, .int (pa0))] := hl
  refine lv_iconst (v := nI 0) hx hb dX9_dueOn_0 (by decide +kernel) ?_
  refine lv_istore_n (lv' := [(2, .int (nI 0)), (0, .ref (q 15)), (1, .int (pa0))]) hx hb dX9_dueOn_1 rfl hl (by decide) rfl (fun ls hl => ?_)
  refine lv_iconst (v := nI 0) hx hb dX9_dueOn_2 (by decide +kernel) ?_
  refine lv_istore_n (lv' := [(3, .int (nI 0)), (2, .int (nI 0)), (0, .ref (q 15)), (1, .int (pa0))]) hx hb dX9_dueOn_3 rfl hl (by decide) rfl (fun ls hl => ?_)
  have loop_64 : ∀ N : Nat, ∀ x_62 : Int32, zR 0 16777215 x_62 → ∀ x_63 : Int32, zR 0 24 x_63 → (2147483648 - (x_63).toInt).toNat < N → ∀ (H : Heap) (locs : List Loc), va_P D vwCl (zw 81 q (zXd q cA) I R J) H → va_D (zA 81 q sz) (zw 81 q (zXd q cA) I R J) → va_S (zA 81 q sz) s.heap H locs → ∀ ls : Array Slot, lv_has ls 4 [(0, .ref (q 15)), (1, .int (pa0)), (2, .int (x_62)), (3, .int (x_63))] → W p l e ({ frames := 1, cells := 0, slots := 0, locals := 21 } : Room) s m ([.ref (q 15), .int (pa0)] : List Value).toArray below meth c H locs 0 0 (MQ below (va_Qi (fun r u => zR 0 16777215 r ∧ u = (I, R, J)) (zB D vwCl 81 q (zXd q cA) sz) (zA 81 q sz)) ([.ref (q 15), .int (pa0)] : List Value).toArray s 0 0 (zA 81 q sz)) (F0 m 4 ls []) := by
    intro N
    induction N with
    | zero => intro x_62 hx_62 x_63 hx_63 hN; exact absurd hN (Nat.not_lt_zero _)
    | succ N ih_66 =>
      intro x_62 hx_62 x_63 hx_63 hN_65 H locs hP hD hS ls hl
      refine lv_iload_n hx hb dX9_dueOn_4 rfl (lv_at hl 3 rfl) ?_
      refine lv_aload_n hx hb dX9_dueOn_5 rfl (lv_at hl 0 rfl) ?_
      refine z_get hx hb ht hown hK hP ziX9 rfl 15 (by decide) 2 (by decide) hw_1_159 rfl (v := .int (I 15 2)) rfl dX9_dueOn_6 ?_
      have f_67 : zR 0 24 (I 15 2) := xI hI 15 2
      refine lv_icmp_ge (tgt := 46) hx hb dX9_dueOn_9 (by decide) (fun c_68 => ?_) (fun c_68 => ?_)
      · have t_c_68 := z_leT c_68
        refine lv_iload_n hx hb dX9_dueOn_46 rfl (lv_at hl 2 rfl) ?_
        exact z_iret (v := x_62) hx hb hr hlocks hP hD hS dX9_dueOn_47 ⟨hx_62, rfl⟩
      · have t_c_68 := z_leF c_68
        have f_69 : zR 0 23 (x_63) := zR_ltx t_c_68 hx_63 f_67 (by decide)
        have f_70 : zR 1 24 (I 15 2) := zR_lty t_c_68 hx_63 f_67 (by decide)
        refine lv_iload_n hx hb dX9_dueOn_12 rfl (lv_at hl 2 rfl) ?_
        refine lv_aload_n hx hb dX9_dueOn_13 rfl (lv_at hl 0 rfl) ?_
        refine lv_iload_n hx hb dX9_dueOn_14 rfl (lv_at hl 3 rfl) ?_
        have t_76 : ∀ x_75 : Int32, zR 0 8388608 x_75 → ∀ (H : Heap) (locs : List Loc), va_P D vwCl (zw 81 q (zXd q cA) I R J) H → va_D (zA 81 q sz) (zw 81 q (zXd q cA) I R J) → va_S (zA 81 q sz) s.heap H locs → ∀ ls : Array Slot, lv_has ls 4 [(0, .ref (q 15)), (1, .int (pa0)), (2, .int (x_62)), (3, .int (x_63))] → W p l e ({ frames := 1, cells := 0, slots := 0, locals := 21 } : Room) s m ([.ref (q 15), .int (pa0)] : List Value).toArray below meth c H locs 0 0 (MQ below (va_Qi (fun r u => zR 0 16777215 r ∧ u = (I, R, J)) (zB D vwCl 81 q (zXd q cA) sz) (zA 81 q sz)) ([.ref (q 15), .int (pa0)] : List Value).toArray s 0 0 (zA 81 q sz)) (F0 m 38 ls [.int (x_75), .int (x_62)]) := by
          intro x_75 hx_75 H locs hP hD hS ls hl
          refine lv_ior hx hb dX9_dueOn_38 ?_
          refine z_rng (a := 0) (b := 16777215) (zR_or 24 hx_62 hx_75 (by decide)) (fun v_77 hv_77 => ?_)
          refine lv_istore_n (lv' := [(2, .int (v_77)), (0, .ref (q 15)), (1, .int (pa0)), (3, .int (x_63))]) hx hb dX9_dueOn_39 rfl hl (by decide) rfl (fun ls hl => ?_)
          obtain ⟨v_78, ev_78⟩ : ∃ y : Int32, y = x_63 + nI 1 := ⟨_, rfl⟩
          have hv_78 : zR 1 24 v_78 := ev_78 ▸ zR_add f_69 zk_1 (by decide)
          have mv_78 : v_78.toInt = (x_63).toInt + 1 := by rw [ev_78, zR_addE f_69 zk_1 (by decide)]; rfl
          refine lv_iinc (v := v_78) (lv' := [(3, .int (v_78)), (2, .int (v_77)), (0, .ref (q 15)), (1, .int (pa0))]) hx hb dX9_dueOn_40 hl (k := 3) rfl (ev_78 ▸ rfl) (by decide) rfl (fun ls hl => ?_)
          refine lv_goto (tgt := 4) hx hb dX9_dueOn_43 (by decide) ?_
          exact ih_66 (v_77) hv_77 (v_78) (zR_w hv_78 (by decide)) (z2_up mv_78 (by decide) hN_65) _ _ hP hD hS _ (lv_sub hl [2, 3, 1, 0] rfl)
        refine z_callVi (k := 15) (As := [.int (x_63)]) (rest := [.int (x_62)]) hx hb hml hown ht (xk_X9_isOpen_1 l D q cA F _ _ _ hI (x_63) f_69) hw_3_75 hmX9_isOpen ⟨rfl, rfl⟩ (na := 1) rfl (by decide +kernel) (by decide) (by decide) rfl rfl hK hP hD hS hA hl.1 rfl (Nat.le_of_ble_eq_true rfl) ⟨Nat.zero_le _, Nat.zero_le _⟩ dX9_dueOn_15 (fun r_71 I_71 R_71 J_71 H locs hp_71 hP hD hS _ _ => ?_)
        rcases hp_71 with ⟨rfl, hu_71⟩ | ⟨rfl, hu_71⟩
        · cases hu_71
          refine lv_if_eq (tgt := 37) hx hb dX9_dueOn_18 (by decide) (fun c_0 => absurd c_0 (zD_ne zk_1 zk_z (by decide))) (fun _ => ?_)
          refine lv_aload_n hx hb dX9_dueOn_21 rfl (lv_at hl 0 rfl) ?_
          refine z_get hx hb ht hown hK hP ziX9 rfl 15 (by decide) 10 (by decide) hw_1_182 rfl (v := .ref (q 22)) rfl dX9_dueOn_22 ?_
          refine lv_iload_n hx hb dX9_dueOn_25 rfl (lv_at hl 3 rfl) ?_
          refine z_iald hx hb hK hP 22 (by decide) 16 rfl rfl (zR_vin f_69 (by decide)) dX9_dueOn_26 ?_
          refine z_eqi (y := R 22 (x_63).toNatClampNeg) rfl ?_
          refine lv_iload_n hx hb dX9_dueOn_27 rfl (lv_at hl 1 rfl) ?_
          refine lv_icmp_ne (tgt := 37) hx hb dX9_dueOn_28 (by decide) (fun c_79 => ?_) (fun c_79 => ?_)
          · have t_c_79 := z_eqF c_79
            refine lv_iconst (v := nI 0) hx hb dX9_dueOn_37 (by decide +kernel) ?_
            exact t_76 (nI 0) (zR_w zk_0 (by decide)) _ _ hP hD hS _ (lv_sub hl [0, 1, 2, 3] rfl)
          · have t_c_79 := z_eqT c_79
            have f_80 : zR 0 60 (R 22 (x_63).toNatClampNeg) := zR_eqx t_c_79 hpa0
            refine lv_iconst (v := nI 1) hx hb dX9_dueOn_31 (by decide +kernel) ?_
            refine lv_iload_n hx hb dX9_dueOn_32 rfl (lv_at hl 3 rfl) ?_
            refine lv_ishl hx hb dX9_dueOn_33 ?_
            refine z_rng (a := 1) (b := 8388608) (zR_shl1 23 f_69 (by decide)) (fun v_81 hv_81 => ?_)
            refine lv_goto (tgt := 38) hx hb dX9_dueOn_34 (by decide) ?_
            exact t_76 (v_81) (zR_w hv_81 (by decide)) _ _ hP hD hS _ (lv_sub hl [0, 1, 2, 3] rfl)
        · cases hu_71
          refine lv_if_eq (tgt := 37) hx hb dX9_dueOn_18 (by decide) (fun _ => ?_) (fun c_0 => absurd (zD_eq zk_0 zk_z) c_0)
          refine lv_iconst (v := nI 0) hx hb dX9_dueOn_37 (by decide +kernel) ?_
          exact t_76 (nI 0) (zR_w zk_0 (by decide)) _ _ hP hD hS _ (lv_sub hl [0, 1, 2, 3] rfl)
  exact loop_64 _ (nI 0) (zR_w zk_0 (by decide)) (nI 0) (zR_w zk_0 (by decide)) (Nat.lt_succ_self _) _ _ hP hD hS _ (lv_sub hl [2, 3, 1, 0] rfl)
set_option maxHeartbeats 4000000 in
set_option maxRecDepth 100000 in
theorem xk_X10_due (l : Launch) (D : va_G) (q : Nat → Nat) (cA : Nat → ClassId) (F : Nat → Nat → Int32) (I R : Nat → Nat → Int32) (J : Nat → Nat → Int64) (hI : xInv F (I, R, J)) (pa0 : Int32) : zMi l D vwCl (zXtys cA) 81 q (zXd q cA) yX10_due cX10_due 2 (some .int) ({ frames := 2, cells := 0, slots := 0, locals := 44 } : Room) [.ref (q 0), .int (pa0)] (I, R, J) (fun r u => zR (-2) 16777215 r ∧ u = (I, R, J)) := by
  intro sz
  refine z_body (by decide +kernel) (Nat.le_of_ble_eq_true rfl) (fun p e s m below meth c ls hx hb hml hr ht hown hlocks hsz hK hP hD hS hl => ?_)
  have hA : ∀ a, s.heap.size ≤ a → zA 81 q sz a := fun a h => Or.inr (hsz ▸ h)
  have hl : lv_has ls 2 [(0, .ref (q 0)), (1, .int (pa0))] := hl
  refine lv_aload_n hx hb dX10_due_0 rfl (lv_at hl 0 rfl) ?_
  refine z_callVi (k := 0) (As := []) (rest := []) hx hb hml hown ht (xk_X10_hasCity l D q cA F _ _ _ hI ) hw_4_0 hmX10_hasCity ⟨rfl, rfl⟩ (na := 0) rfl (by decide +kernel) (by decide) (by decide) rfl rfl hK hP hD hS hA hl.1 rfl (Nat.le_of_ble_eq_true rfl) ⟨Nat.zero_le _, Nat.zero_le _⟩ dX10_due_1 (fun r_1 I_1 R_1 J_1 H locs hp_1 hP hD hS _ _ => ?_)
  rcases hp_1 with ⟨rfl, hu_1⟩ | ⟨rfl, hu_1⟩
  · cases hu_1
    refine lv_if_eq (tgt := 17) hx hb dX10_due_4 (by decide) (fun c_0 => absurd c_0 (zD_ne zk_1 zk_z (by decide))) (fun _ => ?_)
    refine lv_iload_n hx hb dX10_due_7 rfl (lv_at hl 1 rfl) ?_
    refine lv_if_lt (tgt := 17) hx hb dX10_due_8 (by decide) (fun c_2 => ?_) (fun c_2 => ?_)
    · have t_c_2 := z_ltT c_2
      have f_3 : zR (-2147483648) (-1) (pa0) := zR_ltx t_c_2 (zR_any (pa0)) zk_z (by decide)
      refine lv_bipush (v := (-2)) hx hb dX10_due_17 (by decide +kernel) ?_
      exact z_iret (v := (-2)) hx hb hr hlocks hP hD hS dX10_due_19 ⟨(zR_w zk_m2 (by decide)), rfl⟩
    · have t_c_2 := z_ltF c_2
      have f_4 : zR 0 2147483647 (pa0) := zR_ley t_c_2 zk_z (zR_any (pa0)) (by decide)
      refine lv_iload_n hx hb dX10_due_11 rfl (lv_at hl 1 rfl) ?_
      refine lv_bipush (v := nI 60) hx hb dX10_due_12 (by decide +kernel) ?_
      refine lv_icmp_le (tgt := 20) hx hb dX10_due_14 (by decide) (fun c_5 => ?_) (fun c_5 => ?_)
      · have t_c_5 := z_leT c_5
        have f_6 : zR 0 60 (pa0) := zR_lex t_c_5 f_4 zk_60 (by decide)
        refine lv_aload_n hx hb dX10_due_20 rfl (lv_at hl 0 rfl) ?_
        refine z_get hx hb ht hown hK hP ziX10 rfl 0 (by decide) 4 (by decide) hw_2_97 rfl (v := .ref (q 15)) rfl dX10_due_21 ?_
        refine lv_iload_n hx hb dX10_due_24 rfl (lv_at hl 1 rfl) ?_
        refine z_callVi (k := 15) (As := [.int (pa0)]) (rest := []) hx hb hml hown ht (xk_X9_dueOn l D q cA F _ _ _ hI (pa0) f_6) hw_4_136 hmX9_dueOn ⟨rfl, rfl⟩ (na := 1) rfl (by decide +kernel) (by decide) (by decide) rfl rfl hK hP hD hS hA hl.1 rfl (Nat.le_of_ble_eq_true rfl) ⟨Nat.zero_le _, Nat.zero_le _⟩ dX10_due_25 (fun r_7 I_7 R_7 J_7 H locs hp_7 hP hD hS _ _ => ?_)
        obtain ⟨hr_7, hu_7⟩ := hp_7
        cases hu_7
        exact z_iret (v := r_7) hx hb hr hlocks hP hD hS dX10_due_28 ⟨(zR_w hr_7 (by decide)), rfl⟩
      · have t_c_5 := z_leF c_5
        have f_8 : zR 61 2147483647 (pa0) := zR_lty t_c_5 zk_60 f_4 (by decide)
        refine lv_bipush (v := (-2)) hx hb dX10_due_17 (by decide +kernel) ?_
        exact z_iret (v := (-2)) hx hb hr hlocks hP hD hS dX10_due_19 ⟨(zR_w zk_m2 (by decide)), rfl⟩
  · cases hu_1
    refine lv_if_eq (tgt := 17) hx hb dX10_due_4 (by decide) (fun _ => ?_) (fun c_0 => absurd (zD_eq zk_0 zk_z) c_0)
    refine lv_bipush (v := (-2)) hx hb dX10_due_17 (by decide +kernel) ?_
    exact z_iret (v := (-2)) hx hb hr hlocks hP hD hS dX10_due_19 ⟨(zR_w zk_m2 (by decide)), rfl⟩
set_option maxHeartbeats 4000000 in
set_option maxRecDepth 100000 in
theorem xk_X10_monday (l : Launch) (D : va_G) (q : Nat → Nat) (cA : Nat → ClassId) (F : Nat → Nat → Int32) (I R : Nat → Nat → Int32) (J : Nat → Nat → Int64) (hI : xInv F (I, R, J))  : zMi l D vwCl (zXtys cA) 81 q (zXd q cA) yX10_monday cX10_monday 5 (some .int) ({ frames := 2, cells := 0, slots := 0, locals := 44 } : Room) [.ref (q 0)] (I, R, J) (fun r u => zR (-2) 60 r ∧ u = (I, R, J)) := by
  intro sz
  refine z_body (by decide +kernel) (Nat.le_of_ble_eq_true rfl) (fun p e s m below meth c ls hx hb hml hr ht hown hlocks hsz hK hP hD hS hl => ?_)
  have hA : ∀ a, s.heap.size ≤ a → zA 81 q sz a := fun a h => Or.inr (hsz ▸ h)
  have hl : lv_has ls 5 [(0, .ref (q 0))] := hl
  refine lv_aload_n hx hb dX10_monday_0 rfl (lv_at hl 0 rfl) ?_
  refine z_callVi (k := 0) (As := []) (rest := []) hx hb hml hown ht (xk_X10_hasCity l D q cA F _ _ _ hI ) hw_4_0 hmX10_hasCity ⟨rfl, rfl⟩ (na := 0) rfl (by decide +kernel) (by decide) (by decide) rfl rfl hK hP hD hS hA hl.1 rfl (Nat.le_of_ble_eq_true rfl) ⟨Nat.zero_le _, Nat.zero_le _⟩ dX10_monday_1 (fun r_1 I_1 R_1 J_1 H locs hp_1 hP hD hS _ _ => ?_)
  rcases hp_1 with ⟨rfl, hu_1⟩ | ⟨rfl, hu_1⟩
  · cases hu_1
    refine lv_if_ne (tgt := 10) hx hb dX10_monday_4 (by decide) (fun _ => ?_) (fun c_0 => absurd c_0 (zD_ne zk_1 zk_z (by decide)))
    refine lv_iconst (v := (-1)) hx hb dX10_monday_10 (by decide +kernel) ?_
    refine lv_istore_n (lv' := [(1, .int ((-1))), (0, .ref (q 0))]) hx hb dX10_monday_11 rfl hl (by decide) rfl (fun ls hl => ?_)
    refine lv_iconst (v := nI 0) hx hb dX10_monday_12 (by decide +kernel) ?_
    refine lv_istore_n (lv' := [(2, .int (nI 0)), (1, .int ((-1))), (0, .ref (q 0))]) hx hb dX10_monday_13 rfl hl (by decide) rfl (fun ls hl => ?_)
    refine lv_iconst (v := nI 0) hx hb dX10_monday_14 (by decide +kernel) ?_
    refine lv_istore_n (lv' := [(3, .int (nI 0)), (2, .int (nI 0)), (1, .int ((-1))), (0, .ref (q 0))]) hx hb dX10_monday_15 rfl hl (by decide) rfl (fun ls hl => ?_)
    have loop_65 : ∀ N : Nat, ∀ x_62 : Int32, zR (-1) 60 x_62 → ∀ x_63 : Int32, zR 0 63 x_63 → ∀ x_64 : Int32, zR 0 61 x_64 → (2147483648 - (x_64).toInt).toNat < N → ∀ (H : Heap) (locs : List Loc), va_P D vwCl (zw 81 q (zXd q cA) I R J) H → va_D (zA 81 q sz) (zw 81 q (zXd q cA) I R J) → va_S (zA 81 q sz) s.heap H locs → ∀ ls : Array Slot, lv_has ls 5 [(0, .ref (q 0)), (1, .int (x_62)), (2, .int (x_63)), (3, .int (x_64))] → W p l e ({ frames := 2, cells := 0, slots := 0, locals := 44 } : Room) s m ([.ref (q 0)] : List Value).toArray below meth c H locs 0 0 (MQ below (va_Qi (fun r u => zR (-2) 60 r ∧ u = (I, R, J)) (zB D vwCl 81 q (zXd q cA) sz) (zA 81 q sz)) ([.ref (q 0)] : List Value).toArray s 0 0 (zA 81 q sz)) (F0 m 16 ls []) := by
      intro N
      induction N with
      | zero => intro x_62 hx_62 x_63 hx_63 x_64 hx_64 hN; exact absurd hN (Nat.not_lt_zero _)
      | succ N ih_67 =>
        intro x_62 hx_62 x_63 hx_63 x_64 hx_64 hN_66 H locs hP hD hS ls hl
        refine lv_iload_n hx hb dX10_monday_16 rfl (lv_at hl 3 rfl) ?_
        refine lv_bipush (v := nI 60) hx hb dX10_monday_17 (by decide +kernel) ?_
        refine lv_icmp_gt (tgt := 52) hx hb dX10_monday_19 (by decide) (fun c_68 => ?_) (fun c_68 => ?_)
        · have t_c_68 := z_ltT c_68
          have f_69 : zR 61 61 (x_64) := zR_lty t_c_68 zk_60 hx_64 (by decide)
          refine lv_iload_n hx hb dX10_monday_52 rfl (lv_at hl 1 rfl) ?_
          exact z_iret (v := x_62) hx hb hr hlocks hP hD hS dX10_monday_53 ⟨(zR_w hx_62 (by decide)), rfl⟩
        · have t_c_68 := z_ltF c_68
          have f_70 : zR 0 60 (x_64) := zR_lex t_c_68 hx_64 zk_60 (by decide)
          refine lv_aload_n hx hb dX10_monday_22 rfl (lv_at hl 0 rfl) ?_
          refine z_get hx hb ht hown hK hP ziX10 rfl 0 (by decide) 4 (by decide) hw_2_97 rfl (v := .ref (q 15)) rfl dX10_monday_23 ?_
          refine lv_iload_n hx hb dX10_monday_26 rfl (lv_at hl 3 rfl) ?_
          refine z_callVi (k := 15) (As := [.int (x_64)]) (rest := []) hx hb hml hown ht (xk_X9_dueOn l D q cA F _ _ _ hI (x_64) f_70) hw_4_136 hmX9_dueOn ⟨rfl, rfl⟩ (na := 1) rfl (by decide +kernel) (by decide) (by decide) rfl rfl hK hP hD hS hA hl.1 rfl (Nat.le_of_ble_eq_true rfl) ⟨Nat.zero_le _, Nat.zero_le _⟩ dX10_monday_27 (fun r_71 I_71 R_71 J_71 H locs hp_71 hP hD hS _ _ => ?_)
          obtain ⟨hr_71, hu_71⟩ := hp_71
          cases hu_71
          refine z_callSi (As := [.int (r_71)]) (rest := []) hx hb hml hown ht (xk_J6_bitCount_0f7a4 l D q cA F _ _ _ hI (r_71)) hw_4_103 hmJ6_bitCount_0f7a4 ⟨rfl, rfl⟩ (na := 1) rfl (by decide +kernel) (by decide) hK hP hD hS hA hl.1 rfl (Nat.le_of_ble_eq_true rfl) ⟨Nat.zero_le _, Nat.zero_le _⟩ dX10_monday_30 (fun r_72 I_72 R_72 J_72 H locs hp_72 hP hD hS _ _ => ?_)
          obtain ⟨hr_72, hu_72⟩ := hp_72
          cases hu_72
          refine lv_istore (lv' := [(4, .int (r_72)), (0, .ref (q 0)), (1, .int (x_62)), (2, .int (x_63)), (3, .int (x_64))]) hx hb dX10_monday_33 hl (by decide) rfl (fun ls hl => ?_)
          refine lv_iload hx hb dX10_monday_35 (lv_at hl 0 rfl) ?_
          refine lv_iload_n hx hb dX10_monday_37 rfl (lv_at hl 3 rfl) ?_
          have t_78 : ∀ x_76 : Int32, zR (-1) 60 x_76 → ∀ x_77 : Int32, zR 0 63 x_77 → ∀ (H : Heap) (locs : List Loc), va_P D vwCl (zw 81 q (zXd q cA) I R J) H → va_D (zA 81 q sz) (zw 81 q (zXd q cA) I R J) → va_S (zA 81 q sz) s.heap H locs → ∀ ls : Array Slot, lv_has ls 5 [(0, .ref (q 0)), (1, .int (x_76)), (2, .int (x_77)), (3, .int (x_64)), (4, .int (r_72))] → W p l e ({ frames := 2, cells := 0, slots := 0, locals := 44 } : Room) s m ([.ref (q 0)] : List Value).toArray below meth c H locs 0 0 (MQ below (va_Qi (fun r u => zR (-2) 60 r ∧ u = (I, R, J)) (zB D vwCl 81 q (zXd q cA) sz) (zA 81 q sz)) ([.ref (q 0)] : List Value).toArray s 0 0 (zA 81 q sz)) (F0 m 46 ls []) := by
            intro x_76 hx_76 x_77 hx_77 H locs hP hD hS ls hl
            obtain ⟨v_79, ev_79⟩ : ∃ y : Int32, y = x_64 + nI 1 := ⟨_, rfl⟩
            have hv_79 : zR 1 61 v_79 := ev_79 ▸ zR_add f_70 zk_1 (by decide)
            have mv_79 : v_79.toInt = (x_64).toInt + 1 := by rw [ev_79, zR_addE f_70 zk_1 (by decide)]; rfl
            refine lv_iinc (v := v_79) (lv' := [(3, .int (v_79)), (0, .ref (q 0)), (1, .int (x_76)), (2, .int (x_77)), (4, .int (r_72))]) hx hb dX10_monday_46 hl (k := 3) rfl (ev_79 ▸ rfl) (by decide) rfl (fun ls hl => ?_)
            refine lv_goto (tgt := 16) hx hb dX10_monday_49 (by decide) ?_
            exact ih_67 (x_76) hx_76 (x_77) hx_77 (v_79) (zR_w hv_79 (by decide)) (z2_up mv_79 (by decide) hN_66) _ _ hP hD hS _ (lv_sub hl [1, 2, 3, 0] rfl)
          refine lv_icmp_le (tgt := 46) hx hb dX10_monday_38 (by decide) (fun c_73 => ?_) (fun c_73 => ?_)
          · have t_c_73 := z_leT c_73
            exact t_78 (x_62) hx_62 (x_63) hx_63 _ _ hP hD hS _ (lv_sub hl [1, 2, 3, 4, 0] rfl)
          · have t_c_73 := z_leF c_73
            have f_80 : zR 0 62 (x_63) := zR_ltx t_c_73 hx_63 hr_72 (by decide)
            have f_81 : zR 1 63 (r_72) := zR_lty t_c_73 hx_63 hr_72 (by decide)
            refine lv_iload hx hb dX10_monday_41 (lv_at hl 0 rfl) ?_
            refine lv_istore_n (lv' := [(2, .int (r_72)), (4, .int (r_72)), (0, .ref (q 0)), (1, .int (x_62)), (3, .int (x_64))]) hx hb dX10_monday_43 rfl hl (by decide) rfl (fun ls hl => ?_)
            refine lv_iload_n hx hb dX10_monday_44 rfl (lv_at hl 4 rfl) ?_
            refine lv_istore_n (lv' := [(1, .int (x_64)), (2, .int (r_72)), (4, .int (r_72)), (0, .ref (q 0)), (3, .int (x_64))]) hx hb dX10_monday_45 rfl hl (by decide) rfl (fun ls hl => ?_)
            exact t_78 (x_64) (zR_w f_70 (by decide)) (r_72) (zR_w f_81 (by decide)) _ _ hP hD hS _ (lv_sub hl [3, 0, 1, 4, 2] rfl)
    exact loop_65 _ ((-1)) (zR_w zk_m1 (by decide)) (nI 0) (zR_w zk_0 (by decide)) (nI 0) (zR_w zk_0 (by decide)) (Nat.lt_succ_self _) _ _ hP hD hS _ (lv_sub hl [3, 2, 1, 0] rfl)
  · cases hu_1
    refine lv_if_ne (tgt := 10) hx hb dX10_monday_4 (by decide) (fun c_0 => absurd (zD_eq zk_0 zk_z) c_0) (fun _ => ?_)
    refine lv_bipush (v := (-2)) hx hb dX10_monday_7 (by decide +kernel) ?_
    exact z_iret (v := (-2)) hx hb hr hlocks hP hD hS dX10_monday_9 ⟨(zR_w zk_m2 (by decide)), rfl⟩
set_option maxHeartbeats 4000000 in
set_option maxRecDepth 100000 in
theorem xk_X9_owedWithoutThing (l : Launch) (D : va_G) (q : Nat → Nat) (cA : Nat → ClassId) (F : Nat → Nat → Int32) (I R : Nat → Nat → Int32) (J : Nat → Nat → Int64) (hI : xInv F (I, R, J)) (pa0 : Int32) (hpa0 : zR 0 4 pa0) : zMi l D vwCl (zXtys cA) 81 q (zXd q cA) yX9_owedWithoutThing cX9_owedWithoutThing 4 (some .int) ({ frames := 1, cells := 0, slots := 0, locals := 21 } : Room) [.ref (q 15), .int (pa0)] (I, R, J) (fun _ u => u = (I, R, J)) := by
  intro sz
  refine z_body (by decide +kernel) (Nat.le_of_ble_eq_true rfl) (fun p e s m below meth c ls hx hb hml hr ht hown hlocks hsz hK hP hD hS hl => ?_)
  have hA : ∀ a, s.heap.size ≤ a → zA 81 q sz a := fun a h => Or.inr (hsz ▸ h)
  have hl : lv_has ls 4 [(0, .ref (q 15)), (1, .int (pa0))] := hl
  refine lv_iconst (v := nI 0) hx hb dX9_owedWithoutThing_0 (by decide +kernel) ?_
  refine lv_istore_n (lv' := [(2, .int (nI 0)), (0, .ref (q 15)), (1, .int (pa0))]) hx hb dX9_owedWithoutThing_1 rfl hl (by decide) rfl (fun ls hl => ?_)
  refine lv_iconst (v := nI 0) hx hb dX9_owedWithoutThing_2 (by decide +kernel) ?_
  refine lv_istore_n (lv' := [(3, .int (nI 0)), (2, .int (nI 0)), (0, .ref (q 15)), (1, .int (pa0))]) hx hb dX9_owedWithoutThing_3 rfl hl (by decide) rfl (fun ls hl => ?_)
  have loop_56 : ∀ N : Nat, ∀ x_54 : Int32, ∀ x_55 : Int32, zR 0 24 x_55 → (2147483648 - (x_55).toInt).toNat < N → ∀ (H : Heap) (locs : List Loc), va_P D vwCl (zw 81 q (zXd q cA) I R J) H → va_D (zA 81 q sz) (zw 81 q (zXd q cA) I R J) → va_S (zA 81 q sz) s.heap H locs → ∀ ls : Array Slot, lv_has ls 4 [(0, .ref (q 15)), (1, .int (pa0)), (2, .int (x_54)), (3, .int (x_55))] → W p l e ({ frames := 1, cells := 0, slots := 0, locals := 21 } : Room) s m ([.ref (q 15), .int (pa0)] : List Value).toArray below meth c H locs 0 0 (MQ below (va_Qi (fun _ u => u = (I, R, J)) (zB D vwCl 81 q (zXd q cA) sz) (zA 81 q sz)) ([.ref (q 15), .int (pa0)] : List Value).toArray s 0 0 (zA 81 q sz)) (F0 m 4 ls []) := by
    intro N
    induction N with
    | zero => intro x_54 x_55 hx_55 hN; exact absurd hN (Nat.not_lt_zero _)
    | succ N ih_58 =>
      intro x_54 x_55 hx_55 hN_57 H locs hP hD hS ls hl
      refine lv_iload_n hx hb dX9_owedWithoutThing_4 rfl (lv_at hl 3 rfl) ?_
      refine lv_aload_n hx hb dX9_owedWithoutThing_5 rfl (lv_at hl 0 rfl) ?_
      refine z_get hx hb ht hown hK hP ziX9 rfl 15 (by decide) 2 (by decide) hw_1_159 rfl (v := .int (I 15 2)) rfl dX9_owedWithoutThing_6 ?_
      have f_59 : zR 0 24 (I 15 2) := xI hI 15 2
      refine lv_icmp_ge (tgt := 52) hx hb dX9_owedWithoutThing_9 (by decide) (fun c_60 => ?_) (fun c_60 => ?_)
      · have t_c_60 := z_leT c_60
        refine lv_iload_n hx hb dX9_owedWithoutThing_52 rfl (lv_at hl 2 rfl) ?_
        exact z_iret (v := x_54) hx hb hr hlocks hP hD hS dX9_owedWithoutThing_53 rfl
      · have t_c_60 := z_leF c_60
        have f_61 : zR 0 23 (x_55) := zR_ltx t_c_60 hx_55 f_59 (by decide)
        have f_62 : zR 1 24 (I 15 2) := zR_lty t_c_60 hx_55 f_59 (by decide)
        refine lv_aload_n hx hb dX9_owedWithoutThing_12 rfl (lv_at hl 0 rfl) ?_
        refine lv_iload_n hx hb dX9_owedWithoutThing_13 rfl (lv_at hl 3 rfl) ?_
        have t_70 : ∀ x_69 : Int32, ∀ (H : Heap) (locs : List Loc), va_P D vwCl (zw 81 q (zXd q cA) I R J) H → va_D (zA 81 q sz) (zw 81 q (zXd q cA) I R J) → va_S (zA 81 q sz) s.heap H locs → ∀ ls : Array Slot, lv_has ls 4 [(0, .ref (q 15)), (1, .int (pa0)), (2, .int (x_69)), (3, .int (x_55))] → W p l e ({ frames := 1, cells := 0, slots := 0, locals := 21 } : Room) s m ([.ref (q 15), .int (pa0)] : List Value).toArray below meth c H locs 0 0 (MQ below (va_Qi (fun _ u => u = (I, R, J)) (zB D vwCl 81 q (zXd q cA) sz) (zA 81 q sz)) ([.ref (q 15), .int (pa0)] : List Value).toArray s 0 0 (zA 81 q sz)) (F0 m 46 ls []) := by
          intro x_69 H locs hP hD hS ls hl
          obtain ⟨v_71, ev_71⟩ : ∃ y : Int32, y = x_55 + nI 1 := ⟨_, rfl⟩
          have hv_71 : zR 1 24 v_71 := ev_71 ▸ zR_add f_61 zk_1 (by decide)
          have mv_71 : v_71.toInt = (x_55).toInt + 1 := by rw [ev_71, zR_addE f_61 zk_1 (by decide)]; rfl
          refine lv_iinc (v := v_71) (lv' := [(3, .int (v_71)), (0, .ref (q 15)), (1, .int (pa0)), (2, .int (x_69))]) hx hb dX9_owedWithoutThing_46 hl (k := 3) rfl (ev_71 ▸ rfl) (by decide) rfl (fun ls hl => ?_)
          refine lv_goto (tgt := 4) hx hb dX9_owedWithoutThing_49 (by decide) ?_
          exact ih_58 (x_69) (v_71) (zR_w hv_71 (by decide)) (z2_up mv_71 (by decide) hN_57) _ _ hP hD hS _ (lv_sub hl [1, 2, 3, 0] rfl)
        refine z_callVi (k := 15) (As := [.int (x_55)]) (rest := []) hx hb hml hown ht (xk_X9_isOpen_1 l D q cA F _ _ _ hI (x_55) f_61) hw_3_75 hmX9_isOpen ⟨rfl, rfl⟩ (na := 1) rfl (by decide +kernel) (by decide) (by decide) rfl rfl hK hP hD hS hA hl.1 rfl (Nat.le_of_ble_eq_true rfl) ⟨Nat.zero_le _, Nat.zero_le _⟩ dX9_owedWithoutThing_14 (fun r_63 I_63 R_63 J_63 H locs hp_63 hP hD hS _ _ => ?_)
        rcases hp_63 with ⟨rfl, hu_63⟩ | ⟨rfl, hu_63⟩
        · cases hu_63
          refine lv_if_eq (tgt := 46) hx hb dX9_owedWithoutThing_17 (by decide) (fun c_0 => absurd c_0 (zD_ne zk_1 zk_z (by decide))) (fun _ => ?_)
          refine lv_aload_n hx hb dX9_owedWithoutThing_20 rfl (lv_at hl 0 rfl) ?_
          refine z_get hx hb ht hown hK hP ziX9 rfl 15 (by decide) 7 (by decide) hw_1_171 rfl (v := .ref (q 19)) rfl dX9_owedWithoutThing_21 ?_
          refine lv_iload_n hx hb dX9_owedWithoutThing_24 rfl (lv_at hl 3 rfl) ?_
          refine z_iald hx hb hK hP 19 (by decide) 13 rfl rfl (zR_vin f_61 (by decide)) dX9_owedWithoutThing_25 ?_
          refine z_eqi (y := R 19 (x_55).toNatClampNeg) rfl ?_
          have f_72 : zR 0 4 (R 19 (x_55).toNatClampNeg) := xR hI 19 (x_55).toNatClampNeg
          refine lv_iload_n hx hb dX9_owedWithoutThing_26 rfl (lv_at hl 1 rfl) ?_
          refine lv_icmp_ne (tgt := 46) hx hb dX9_owedWithoutThing_27 (by decide) (fun c_73 => ?_) (fun c_73 => ?_)
          · have t_c_73 := z_eqF c_73
            exact t_70 (x_54) _ _ hP hD hS _ (lv_sub hl [0, 1, 2, 3] rfl)
          · have t_c_73 := z_eqT c_73
            refine lv_aload_n hx hb dX9_owedWithoutThing_30 rfl (lv_at hl 0 rfl) ?_
            refine lv_iload_n hx hb dX9_owedWithoutThing_31 rfl (lv_at hl 3 rfl) ?_
            refine z_callVi (k := 15) (As := [.int (x_55)]) (rest := []) hx hb hml hown ht (xk_X9_thiefHasIt l D q cA F _ _ _ hI (x_55) f_61) hw_3_212 hmX9_thiefHasIt ⟨rfl, rfl⟩ (na := 1) rfl (by decide +kernel) (by decide) (by decide) rfl rfl hK hP hD hS hA hl.1 rfl (Nat.le_of_ble_eq_true rfl) ⟨Nat.zero_le _, Nat.zero_le _⟩ dX9_owedWithoutThing_32 (fun r_74 I_74 R_74 J_74 H locs hp_74 hP hD hS _ _ => ?_)
            rcases hp_74 with ⟨rfl, hu_74⟩ | ⟨rfl, hu_74⟩
            · cases hu_74
              refine lv_if_ne (tgt := 46) hx hb dX9_owedWithoutThing_35 (by decide) (fun _ => ?_) (fun c_0 => absurd c_0 (zD_ne zk_1 zk_z (by decide)))
              exact t_70 (x_54) _ _ hP hD hS _ (lv_sub hl [0, 1, 2, 3] rfl)
            · cases hu_74
              refine lv_if_ne (tgt := 46) hx hb dX9_owedWithoutThing_35 (by decide) (fun c_0 => absurd (zD_eq zk_0 zk_z) c_0) (fun _ => ?_)
              refine lv_iload_n hx hb dX9_owedWithoutThing_38 rfl (lv_at hl 2 rfl) ?_
              refine lv_aload_n hx hb dX9_owedWithoutThing_39 rfl (lv_at hl 0 rfl) ?_
              refine lv_iload_n hx hb dX9_owedWithoutThing_40 rfl (lv_at hl 3 rfl) ?_
              refine z_callVi (k := 15) (As := [.int (x_55)]) (rest := [.int (x_54)]) hx hb hml hown ht (xk_X9_worthOf l D q cA F _ _ _ hI (x_55) f_61) hw_3_120 hmX9_worthOf ⟨rfl, rfl⟩ (na := 1) rfl (by decide +kernel) (by decide) (by decide) rfl rfl hK hP hD hS hA hl.1 rfl (Nat.le_of_ble_eq_true rfl) ⟨Nat.zero_le _, Nat.zero_le _⟩ dX9_owedWithoutThing_41 (fun r_75 I_75 R_75 J_75 H locs hp_75 hP hD hS _ _ => ?_)
              cases hp_75
              refine lv_iadd hx hb dX9_owedWithoutThing_44 ?_
              refine z_any (fun v_76 => ?_)
              refine lv_istore_n (lv' := [(2, .int (v_76)), (0, .ref (q 15)), (1, .int (pa0)), (3, .int (x_55))]) hx hb dX9_owedWithoutThing_45 rfl hl (by decide) rfl (fun ls hl => ?_)
              exact t_70 (v_76) _ _ hP hD hS _ (lv_sub hl [1, 2, 0, 3] rfl)
        · cases hu_63
          refine lv_if_eq (tgt := 46) hx hb dX9_owedWithoutThing_17 (by decide) (fun _ => ?_) (fun c_0 => absurd (zD_eq zk_0 zk_z) c_0)
          exact t_70 (x_54) _ _ hP hD hS _ (lv_sub hl [0, 1, 2, 3] rfl)
  exact loop_56 _ (nI 0) (nI 0) (zR_w zk_0 (by decide)) (Nat.lt_succ_self _) _ _ hP hD hS _ (lv_sub hl [2, 3, 1, 0] rfl)
set_option maxHeartbeats 4000000 in
set_option maxRecDepth 100000 in
theorem xk_X10_lacks (l : Launch) (D : va_G) (q : Nat → Nat) (cA : Nat → ClassId) (F : Nat → Nat → Int32) (I R : Nat → Nat → Int32) (J : Nat → Nat → Int64) (hI : xInv F (I, R, J)) (pa0 : Int32) : zMi l D vwCl (zXtys cA) 81 q (zXd q cA) yX10_lacks cX10_lacks 2 (some .int) ({ frames := 2, cells := 0, slots := 0, locals := 44 } : Room) [.ref (q 0), .int (pa0)] (I, R, J) (fun _ u => u = (I, R, J)) := by
  intro sz
  refine z_body (by decide +kernel) (Nat.le_of_ble_eq_true rfl) (fun p e s m below meth c ls hx hb hml hr ht hown hlocks hsz hK hP hD hS hl => ?_)
  have hA : ∀ a, s.heap.size ≤ a → zA 81 q sz a := fun a h => Or.inr (hsz ▸ h)
  have hl : lv_has ls 2 [(0, .ref (q 0)), (1, .int (pa0))] := hl
  refine lv_aload_n hx hb dX10_lacks_0 rfl (lv_at hl 0 rfl) ?_
  refine lv_iload_n hx hb dX10_lacks_1 rfl (lv_at hl 1 rfl) ?_
  refine z_callVi (k := 0) (As := [.int (pa0)]) (rest := []) hx hb hml hown ht (xk_X10_isHouse l D q cA F _ _ _ hI (pa0)) hw_3_59 hmX10_isHouse ⟨rfl, rfl⟩ (na := 1) rfl (by decide +kernel) (by decide) (by decide) rfl rfl hK hP hD hS hA hl.1 rfl (Nat.le_of_ble_eq_true rfl) ⟨Nat.zero_le _, Nat.zero_le _⟩ dX10_lacks_2 (fun r_1 I_1 R_1 J_1 H locs hp_1 hP hD hS _ _ => ?_)
  rcases hp_1 with ⟨rfl, hu_1, f0_1⟩ | ⟨rfl, hu_1⟩
  · cases hu_1
    refine lv_if_eq (tgt := 19) hx hb dX10_lacks_5 (by decide) (fun c_0 => absurd c_0 (zD_ne zk_1 zk_z (by decide))) (fun _ => ?_)
    refine lv_aload_n hx hb dX10_lacks_8 rfl (lv_at hl 0 rfl) ?_
    refine z_get hx hb ht hown hK hP ziX10 rfl 0 (by decide) 4 (by decide) hw_2_97 rfl (v := .ref (q 15)) rfl dX10_lacks_9 ?_
    refine lv_iload_n hx hb dX10_lacks_12 rfl (lv_at hl 1 rfl) ?_
    refine z_callVi (k := 15) (As := [.int (pa0)]) (rest := []) hx hb hml hown ht (xk_X9_owedWithoutThing l D q cA F _ _ _ hI (pa0) f0_1) hw_4_148 hmX9_owedWithoutThing ⟨rfl, rfl⟩ (na := 1) rfl (by decide +kernel) (by decide) (by decide) rfl rfl hK hP hD hS hA hl.1 rfl (Nat.le_of_ble_eq_true rfl) ⟨Nat.zero_le _, Nat.zero_le _⟩ dX10_lacks_13 (fun r_2 I_2 R_2 J_2 H locs hp_2 hP hD hS _ _ => ?_)
    cases hp_2
    refine lv_goto (tgt := 21) hx hb dX10_lacks_16 (by decide) ?_
    exact z_iret (v := r_2) hx hb hr hlocks hP hD hS dX10_lacks_21 rfl
  · cases hu_1
    refine lv_if_eq (tgt := 19) hx hb dX10_lacks_5 (by decide) (fun _ => ?_) (fun c_0 => absurd (zD_eq zk_0 zk_z) c_0)
    refine lv_bipush (v := (-2)) hx hb dX10_lacks_19 (by decide +kernel) ?_
    exact z_iret (v := (-2)) hx hb hr hlocks hP hD hS dX10_lacks_21 rfl
set_option maxHeartbeats 4000000 in
set_option maxRecDepth 100000 in
theorem xk_X9_copyFrom (l : Launch) (D : va_G) (q : Nat → Nat) (cA : Nat → ClassId) (F : Nat → Nat → Int32) (I R : Nat → Nat → Int32) (J : Nat → Nat → Int64) (hI : xInv F (I, R, J))  : zMv l D vwCl (zXtys cA) 81 q (zXd q cA) yX9_copyFrom cX9_copyFrom 2 none ({ frames := 1, cells := 0, slots := 0, locals := 64 } : Room) [.ref (q 27), .ref (q 15)] (I, R, J) (fun u => xInv F u) := by
  intro sz
  refine z_body (by decide +kernel) (Nat.le_of_ble_eq_true rfl) (fun p e s m below meth c ls hx hb hml hr ht hown hlocks hsz hK hP hD hS hl => ?_)
  have hA : ∀ a, s.heap.size ≤ a → zA 81 q sz a := fun a h => Or.inr (hsz ▸ h)
  have hl : lv_has ls 2 [(0, .ref (q 27)), (1, .ref (q 15))] := hl
  refine lv_aload_n hx hb dX9_copyFrom_0 rfl (lv_at hl 0 rfl) ?_
  refine lv_aload_n hx hb dX9_copyFrom_1 rfl (lv_at hl 1 rfl) ?_
  refine z_get hx hb ht hown hK hP ziX9 rfl 15 (by decide) 1 (by decide) hw_1_157 rfl (v := .int (I 15 1)) rfl dX9_copyFrom_2 ?_
  refine z_putI hx hb ht hown hK hP hD hS ziX9 tyX9 tyX9_ok nmX9 rfl 27 (by decide) 1 (by decide) hw_1_157 rfl (v := I 15 1) rfl rfl rfl (Nat.le_of_ble_eq_true rfl) rfl dX9_copyFrom_5 (fun H locs hP hD hS => ?_)
  have hI_1 := xInv_I hI 27 1 (I 15 1) (zR_any (I 15 1)) rfl
  refine lv_aload_n hx hb dX9_copyFrom_8 rfl (lv_at hl 0 rfl) ?_
  refine lv_aload_n hx hb dX9_copyFrom_9 rfl (lv_at hl 1 rfl) ?_
  refine z_get hx hb ht hown hK hP ziX9 rfl 15 (by decide) 2 (by decide) hw_1_159 rfl (v := .int (I 15 2)) rfl dX9_copyFrom_10 ?_
  have f_2 : zR 0 24 (I 15 2) := xI hI 15 2
  refine z_putI hx hb ht hown hK hP hD hS ziX9 tyX9 tyX9_ok nmX9 rfl 27 (by decide) 2 (by decide) hw_1_159 rfl (v := I 15 2) rfl rfl rfl (Nat.le_of_ble_eq_true rfl) rfl dX9_copyFrom_13 (fun H locs hP hD hS => ?_)
  have hI_3 := xInv_I hI_1 27 2 (I 15 2) f_2 rfl
  refine lv_aload_n hx hb dX9_copyFrom_16 rfl (lv_at hl 0 rfl) ?_
  refine lv_aload_n hx hb dX9_copyFrom_17 rfl (lv_at hl 1 rfl) ?_
  refine z_get hx hb ht hown hK hP ziX9 rfl 15 (by decide) 3 (by decide) hw_1_163 rfl (v := .int (I 15 3)) rfl dX9_copyFrom_18 ?_
  refine z_putI hx hb ht hown hK hP hD hS ziX9 tyX9 tyX9_ok nmX9 rfl 27 (by decide) 3 (by decide) hw_1_163 rfl (v := I 15 3) rfl rfl rfl (Nat.le_of_ble_eq_true rfl) rfl dX9_copyFrom_21 (fun H locs hP hD hS => ?_)
  have hI_4 := xInv_I hI_3 27 3 (I 15 3) (zR_any (I 15 3)) rfl
  refine lv_aload_n hx hb dX9_copyFrom_24 rfl (lv_at hl 1 rfl) ?_
  refine z_get hx hb ht hown hK hP ziX9 rfl 15 (by decide) 4 (by decide) hw_1_164 rfl (v := .ref (q 16)) rfl dX9_copyFrom_25 ?_
  refine lv_iconst (v := nI 0) hx hb dX9_copyFrom_28 (by decide +kernel) ?_
  refine lv_aload_n hx hb dX9_copyFrom_29 rfl (lv_at hl 0 rfl) ?_
  refine z_get hx hb ht hown hK hP ziX9 rfl 27 (by decide) 4 (by decide) hw_1_164 rfl (v := .ref (q 28)) rfl dX9_copyFrom_30 ?_
  refine lv_iconst (v := nI 0) hx hb dX9_copyFrom_33 (by decide +kernel) ?_
  refine lv_iconst (v := nI 5) hx hb dX9_copyFrom_34 (by decide +kernel) ?_
  refine z_copyi hx hb (hml.trans hl.1.symm) ht hown hw_3_49 ⟨hw_3_44, hw_3_43, hw_1_18⟩ hK hP hD hS 16 28 (by decide) (by decide) 10 21 rfl (fun _ => rfl) rfl rfl (by decide +kernel) (by decide +kernel) (by decide +kernel) (by decide +kernel) (by decide +kernel) (by decide) (by decide +kernel) dX9_copyFrom_35 (fun g_5 H locs eg_5 hP hD hS => ?_)
  have hI_6 := xInv_cp hI_4 16 28 eg_5 (by decide) (by decide) rfl
  refine lv_aload_n hx hb dX9_copyFrom_38 rfl (lv_at hl 1 rfl) ?_
  refine z_get hx hb ht hown hK hP ziX9 rfl 15 (by decide) 5 (by decide) hw_1_166 rfl (v := .ref (q 17)) rfl dX9_copyFrom_39 ?_
  refine lv_iconst (v := nI 0) hx hb dX9_copyFrom_42 (by decide +kernel) ?_
  refine lv_aload_n hx hb dX9_copyFrom_43 rfl (lv_at hl 0 rfl) ?_
  refine z_get hx hb ht hown hK hP ziX9 rfl 27 (by decide) 5 (by decide) hw_1_166 rfl (v := .ref (q 29)) rfl dX9_copyFrom_44 ?_
  refine lv_iconst (v := nI 0) hx hb dX9_copyFrom_47 (by decide +kernel) ?_
  refine lv_bipush (v := nI 6) hx hb dX9_copyFrom_48 (by decide +kernel) ?_
  refine z_copyi hx hb (hml.trans hl.1.symm) ht hown hw_3_49 ⟨hw_3_44, hw_3_43, hw_1_18⟩ hK hP hD hS 17 29 (by decide) (by decide) 11 22 rfl (fun _ => rfl) rfl rfl (by decide +kernel) (by decide +kernel) (by decide +kernel) (by decide +kernel) (by decide +kernel) (by decide) (by decide +kernel) dX9_copyFrom_50 (fun g_7 H locs eg_7 hP hD hS => ?_)
  have hI_8 := xInv_cp hI_6 17 29 eg_7 (by decide) (by decide) rfl
  refine lv_aload_n hx hb dX9_copyFrom_53 rfl (lv_at hl 1 rfl) ?_
  refine z_get hx hb ht hown hK hP ziX9 rfl 15 (by decide) 6 (by decide) hw_1_169 rfl (v := .ref (q 18)) rfl dX9_copyFrom_54 ?_
  refine lv_iconst (v := nI 0) hx hb dX9_copyFrom_57 (by decide +kernel) ?_
  refine lv_aload_n hx hb dX9_copyFrom_58 rfl (lv_at hl 0 rfl) ?_
  refine z_get hx hb ht hown hK hP ziX9 rfl 27 (by decide) 6 (by decide) hw_1_169 rfl (v := .ref (q 30)) rfl dX9_copyFrom_59 ?_
  refine lv_iconst (v := nI 0) hx hb dX9_copyFrom_62 (by decide +kernel) ?_
  refine lv_bipush (v := nI 6) hx hb dX9_copyFrom_63 (by decide +kernel) ?_
  refine z_copyi hx hb (hml.trans hl.1.symm) ht hown hw_3_49 ⟨hw_3_44, hw_3_43, hw_1_18⟩ hK hP hD hS 18 30 (by decide) (by decide) 12 23 rfl (fun _ => rfl) rfl rfl (by decide +kernel) (by decide +kernel) (by decide +kernel) (by decide +kernel) (by decide +kernel) (by decide) (by decide +kernel) dX9_copyFrom_65 (fun g_9 H locs eg_9 hP hD hS => ?_)
  have hI_10 := xInv_cp hI_8 18 30 eg_9 (by decide) (by decide) rfl
  refine lv_aload_n hx hb dX9_copyFrom_68 rfl (lv_at hl 1 rfl) ?_
  refine z_get hx hb ht hown hK hP ziX9 rfl 15 (by decide) 7 (by decide) hw_1_171 rfl (v := .ref (q 19)) rfl dX9_copyFrom_69 ?_
  refine lv_iconst (v := nI 0) hx hb dX9_copyFrom_72 (by decide +kernel) ?_
  refine lv_aload_n hx hb dX9_copyFrom_73 rfl (lv_at hl 0 rfl) ?_
  refine z_get hx hb ht hown hK hP ziX9 rfl 27 (by decide) 7 (by decide) hw_1_171 rfl (v := .ref (q 31)) rfl dX9_copyFrom_74 ?_
  refine lv_iconst (v := nI 0) hx hb dX9_copyFrom_77 (by decide +kernel) ?_
  refine lv_bipush (v := nI 24) hx hb dX9_copyFrom_78 (by decide +kernel) ?_
  refine z_copyi hx hb (hml.trans hl.1.symm) ht hown hw_3_49 ⟨hw_3_44, hw_3_43, hw_1_18⟩ hK hP hD hS 19 31 (by decide) (by decide) 13 24 rfl (fun _ => rfl) rfl rfl (by decide +kernel) (by decide +kernel) (by decide +kernel) (by decide +kernel) (by decide +kernel) (by decide) (by decide +kernel) dX9_copyFrom_80 (fun g_11 H locs eg_11 hP hD hS => ?_)
  have hI_12 := xInv_cp hI_10 19 31 eg_11 (by decide) (by decide) rfl
  refine lv_aload_n hx hb dX9_copyFrom_83 rfl (lv_at hl 1 rfl) ?_
  refine z_get hx hb ht hown hK hP ziX9 rfl 15 (by decide) 8 (by decide) hw_1_175 rfl (v := .ref (q 20)) rfl dX9_copyFrom_84 ?_
  refine lv_iconst (v := nI 0) hx hb dX9_copyFrom_87 (by decide +kernel) ?_
  refine lv_aload_n hx hb dX9_copyFrom_88 rfl (lv_at hl 0 rfl) ?_
  refine z_get hx hb ht hown hK hP ziX9 rfl 27 (by decide) 8 (by decide) hw_1_175 rfl (v := .ref (q 32)) rfl dX9_copyFrom_89 ?_
  refine lv_iconst (v := nI 0) hx hb dX9_copyFrom_92 (by decide +kernel) ?_
  refine lv_bipush (v := nI 24) hx hb dX9_copyFrom_93 (by decide +kernel) ?_
  refine z_copyi hx hb (hml.trans hl.1.symm) ht hown hw_3_49 ⟨hw_3_44, hw_3_43, hw_1_18⟩ hK hP hD hS 20 32 (by decide) (by decide) 14 25 rfl (fun _ => rfl) rfl rfl (by decide +kernel) (by decide +kernel) (by decide +kernel) (by decide +kernel) (by decide +kernel) (by decide) (by decide +kernel) dX9_copyFrom_95 (fun g_13 H locs eg_13 hP hD hS => ?_)
  have hI_14 := xInv_cp hI_12 20 32 eg_13 (by decide) (by decide) rfl
  refine lv_aload_n hx hb dX9_copyFrom_98 rfl (lv_at hl 1 rfl) ?_
  refine z_get hx hb ht hown hK hP ziX9 rfl 15 (by decide) 9 (by decide) hw_1_179 rfl (v := .ref (q 21)) rfl dX9_copyFrom_99 ?_
  refine lv_iconst (v := nI 0) hx hb dX9_copyFrom_102 (by decide +kernel) ?_
  refine lv_aload_n hx hb dX9_copyFrom_103 rfl (lv_at hl 0 rfl) ?_
  refine z_get hx hb ht hown hK hP ziX9 rfl 27 (by decide) 9 (by decide) hw_1_179 rfl (v := .ref (q 33)) rfl dX9_copyFrom_104 ?_
  refine lv_iconst (v := nI 0) hx hb dX9_copyFrom_107 (by decide +kernel) ?_
  refine lv_bipush (v := nI 24) hx hb dX9_copyFrom_108 (by decide +kernel) ?_
  refine z_copyi hx hb (hml.trans hl.1.symm) ht hown hw_3_49 ⟨hw_3_44, hw_3_43, hw_1_18⟩ hK hP hD hS 21 33 (by decide) (by decide) 15 26 rfl (fun _ => rfl) rfl rfl (by decide +kernel) (by decide +kernel) (by decide +kernel) (by decide +kernel) (by decide +kernel) (by decide) (by decide +kernel) dX9_copyFrom_110 (fun g_15 H locs eg_15 hP hD hS => ?_)
  have hI_16 := xInv_cp hI_14 21 33 eg_15 (by decide) (by decide) rfl
  refine lv_aload_n hx hb dX9_copyFrom_113 rfl (lv_at hl 1 rfl) ?_
  refine z_get hx hb ht hown hK hP ziX9 rfl 15 (by decide) 10 (by decide) hw_1_182 rfl (v := .ref (q 22)) rfl dX9_copyFrom_114 ?_
  refine lv_iconst (v := nI 0) hx hb dX9_copyFrom_117 (by decide +kernel) ?_
  refine lv_aload_n hx hb dX9_copyFrom_118 rfl (lv_at hl 0 rfl) ?_
  refine z_get hx hb ht hown hK hP ziX9 rfl 27 (by decide) 10 (by decide) hw_1_182 rfl (v := .ref (q 34)) rfl dX9_copyFrom_119 ?_
  refine lv_iconst (v := nI 0) hx hb dX9_copyFrom_122 (by decide +kernel) ?_
  refine lv_bipush (v := nI 24) hx hb dX9_copyFrom_123 (by decide +kernel) ?_
  refine z_copyi hx hb (hml.trans hl.1.symm) ht hown hw_3_49 ⟨hw_3_44, hw_3_43, hw_1_18⟩ hK hP hD hS 22 34 (by decide) (by decide) 16 27 rfl (fun _ => rfl) rfl rfl (by decide +kernel) (by decide +kernel) (by decide +kernel) (by decide +kernel) (by decide +kernel) (by decide) (by decide +kernel) dX9_copyFrom_125 (fun g_17 H locs eg_17 hP hD hS => ?_)
  have hI_18 := xInv_cp hI_16 22 34 eg_17 (by decide) (by decide) rfl
  refine lv_aload_n hx hb dX9_copyFrom_128 rfl (lv_at hl 1 rfl) ?_
  refine z_get hx hb ht hown hK hP ziX9 rfl 15 (by decide) 11 (by decide) hw_1_185 rfl (v := .ref (q 23)) rfl dX9_copyFrom_129 ?_
  refine lv_iconst (v := nI 0) hx hb dX9_copyFrom_132 (by decide +kernel) ?_
  refine lv_aload_n hx hb dX9_copyFrom_133 rfl (lv_at hl 0 rfl) ?_
  refine z_get hx hb ht hown hK hP ziX9 rfl 27 (by decide) 11 (by decide) hw_1_185 rfl (v := .ref (q 35)) rfl dX9_copyFrom_134 ?_
  refine lv_iconst (v := nI 0) hx hb dX9_copyFrom_137 (by decide +kernel) ?_
  refine lv_bipush (v := nI 24) hx hb dX9_copyFrom_138 (by decide +kernel) ?_
  refine z_copyi hx hb (hml.trans hl.1.symm) ht hown hw_3_49 ⟨hw_3_44, hw_3_43, hw_1_18⟩ hK hP hD hS 23 35 (by decide) (by decide) 17 28 rfl (fun _ => rfl) rfl rfl (by decide +kernel) (by decide +kernel) (by decide +kernel) (by decide +kernel) (by decide +kernel) (by decide) (by decide +kernel) dX9_copyFrom_140 (fun g_19 H locs eg_19 hP hD hS => ?_)
  have hI_20 := xInv_cp hI_18 23 35 eg_19 (by decide) (by decide) rfl
  exact z_vret hx hb hr hlocks hP hD hS dX9_copyFrom_143 hI_20
set_option maxHeartbeats 4000000 in
set_option maxRecDepth 100000 in
theorem xk_J7_fill_53178_5 (l : Launch) (D : va_G) (q : Nat → Nat) (cA : Nat → ClassId) (F : Nat → Nat → Int32) (I R : Nat → Nat → Int32) (J : Nat → Nat → Int64) (hI : xInv F (I, R, J)) (pa1 : Int32) (hpa1 : zR 0 1 pa1) : zMv l D vwCl (zXtys cA) 81 q (zXd q cA) yJ7_fill_53178 cJ7_fill_53178 4 none ({ frames := 0, cells := 0, slots := 0, locals := 0 } : Room) [.ref (q 37), .int (pa1)] (I, R, J) (fun u => xInv F u) := by
  intro sz
  refine z_body (by decide +kernel) (Nat.le_of_ble_eq_true rfl) (fun p e s m below meth c ls hx hb hml hr ht hown hlocks hsz hK hP hD hS hl => ?_)
  have hA : ∀ a, s.heap.size ≤ a → zA 81 q sz a := fun a h => Or.inr (hsz ▸ h)
  have hl : lv_has ls 4 [(0, .ref (q 37)), (1, .int (pa1))] := hl
  refine lv_iconst (v := nI 0) hx hb dJ7_fill_53178_0 (by decide +kernel) ?_
  refine lv_istore_n (lv' := [(2, .int (nI 0)), (0, .ref (q 37)), (1, .int (pa1))]) hx hb dJ7_fill_53178_1 rfl hl (by decide) rfl (fun ls hl => ?_)
  refine lv_aload_n hx hb dJ7_fill_53178_2 rfl (lv_at hl 1 rfl) ?_
  refine z_alen hx hb hK hP 37 (by decide) 30 rfl rfl dJ7_fill_53178_3 ?_
  refine lv_istore_n (lv' := [(3, .int (nI 5)), (2, .int (nI 0)), (0, .ref (q 37)), (1, .int (pa1))]) hx hb dJ7_fill_53178_4 rfl hl (by decide) rfl (fun ls hl => ?_)
  have loop_22 : ∀ N : Nat, ∀ x_20 : Int32, zR 0 5 x_20 → ∀ R_21 : Nat → Nat → Int32, xInv F (I, R_21, J) → (2147483648 - (x_20).toInt).toNat < N → ∀ (H : Heap) (locs : List Loc), va_P D vwCl (zw 81 q (zXd q cA) I R_21 J) H → va_D (zA 81 q sz) (zw 81 q (zXd q cA) I R_21 J) → va_S (zA 81 q sz) s.heap H locs → ∀ ls : Array Slot, lv_has ls 4 [(0, .ref (q 37)), (1, .int (pa1)), (2, .int (x_20)), (3, .int (nI 5))] → W p l e ({ frames := 0, cells := 0, slots := 0, locals := 0 } : Room) s m ([.ref (q 37), .int (pa1)] : List Value).toArray below meth c H locs 0 0 (MQ below (va_Qv (fun u => xInv F u) (zB D vwCl 81 q (zXd q cA) sz) (zA 81 q sz)) ([.ref (q 37), .int (pa1)] : List Value).toArray s 0 0 (zA 81 q sz)) (F0 m 5 ls []) := by
    intro N
    induction N with
    | zero => intro x_20 hx_20 R_21 hI_21 hN; exact absurd hN (Nat.not_lt_zero _)
    | succ N ih_24 =>
      intro x_20 hx_20 R_21 hI_21 hN_23 H locs hP hD hS ls hl
      refine lv_iload_n hx hb dJ7_fill_53178_5 rfl (lv_at hl 2 rfl) ?_
      refine lv_iload_n hx hb dJ7_fill_53178_6 rfl (lv_at hl 3 rfl) ?_
      refine lv_icmp_ge (tgt := 20) hx hb dJ7_fill_53178_7 (by decide) (fun c_25 => ?_) (fun c_25 => ?_)
      · have t_c_25 := z_leT c_25
        have f_26 : zR 5 5 (x_20) := zR_ley t_c_25 zk_5 hx_20 (by decide)
        exact z_vret hx hb hr hlocks hP hD hS dJ7_fill_53178_20 hI_21
      · have t_c_25 := z_leF c_25
        have f_27 : zR 0 4 (x_20) := zR_ltx t_c_25 hx_20 zk_5 (by decide)
        refine lv_aload_n hx hb dJ7_fill_53178_10 rfl (lv_at hl 0 rfl) ?_
        refine lv_iload_n hx hb dJ7_fill_53178_11 rfl (lv_at hl 2 rfl) ?_
        refine lv_iload_n hx hb dJ7_fill_53178_12 rfl (lv_at hl 1 rfl) ?_
        refine z_iast hx hb hK hP hD hS 37 (by decide) 30 (fun _ => rfl) rfl (zR_vin f_27 (by decide)) dJ7_fill_53178_13 (fun H locs hP hD hS => ?_)
        have hI_28 := xInv_R hI_21 37 (x_20).toNatClampNeg (pa1) (zR_any _) rfl
        obtain ⟨v_29, ev_29⟩ : ∃ y : Int32, y = x_20 + nI 1 := ⟨_, rfl⟩
        have hv_29 : zR 1 5 v_29 := ev_29 ▸ zR_add f_27 zk_1 (by decide)
        have mv_29 : v_29.toInt = (x_20).toInt + 1 := by rw [ev_29, zR_addE f_27 zk_1 (by decide)]; rfl
        refine lv_iinc (v := v_29) (lv' := [(2, .int (v_29)), (0, .ref (q 37)), (1, .int (pa1)), (3, .int (nI 5))]) hx hb dJ7_fill_53178_14 hl (k := 2) rfl (ev_29 ▸ rfl) (by decide) rfl (fun ls hl => ?_)
        refine lv_goto (tgt := 5) hx hb dJ7_fill_53178_17 (by decide) ?_
        exact ih_24 (v_29) (zR_w hv_29 (by decide)) _ hI_28 (z2_up mv_29 (by decide) hN_23) _ _ hP hD hS _ (lv_sub hl [1, 2, 0, 3] rfl)
  exact loop_22 _ (nI 0) (zR_w zk_0 (by decide)) _ hI (Nat.lt_succ_self _) _ _ hP hD hS _ (lv_sub hl [2, 3, 1, 0] rfl)
set_option maxHeartbeats 4000000 in
set_option maxRecDepth 100000 in
theorem xk_X9_pay_1 (l : Launch) (D : va_G) (q : Nat → Nat) (cA : Nat → ClassId) (F : Nat → Nat → Int32) (I R : Nat → Nat → Int32) (J : Nat → Nat → Int64) (hI : xInv F (I, R, J)) (pa0 : Int32) (hpa0 : zR 0 4 pa0) (pa1 : Int32) (hpa1 : zR 0 4 pa1) (pa2 : Int32) : zMv l D vwCl (zXtys cA) 81 q (zXd q cA) yX9_pay cX9_pay 4 none ({ frames := 0, cells := 0, slots := 0, locals := 0 } : Room) [.ref (q 27), .int (pa0), .int (pa1), .int (pa2)] (I, R, J) (fun u => xInv F u) := by
  intro sz
  refine z_body (by decide +kernel) (Nat.le_of_ble_eq_true rfl) (fun p e s m below meth c ls hx hb hml hr ht hown hlocks hsz hK hP hD hS hl => ?_)
  have hA : ∀ a, s.heap.size ≤ a → zA 81 q sz a := fun a h => Or.inr (hsz ▸ h)
  have hl : lv_has ls 4 [(0, .ref (q 27)), (1, .int (pa0)), (2, .int (pa1)), (3, .int (pa2))] := hl
  refine lv_aload_n hx hb dX9_pay_0 rfl (lv_at hl 0 rfl) ?_
  refine z_get hx hb ht hown hK hP ziX9 rfl 27 (by decide) 4 (by decide) hw_1_164 rfl (v := .ref (q 28)) rfl dX9_pay_1 ?_
  refine lv_iload_n hx hb dX9_pay_4 rfl (lv_at hl 1 rfl) ?_
  refine lv_dup2_11 hx hb dX9_pay_5 rfl rfl ?_
  refine z_iald hx hb hK hP 28 (by decide) 21 rfl rfl (zR_vin hpa0 (by decide)) dX9_pay_6 ?_
  refine z_eqi (y := R 28 (pa0).toNatClampNeg) rfl ?_
  refine lv_iload_n hx hb dX9_pay_7 rfl (lv_at hl 3 rfl) ?_
  refine lv_isub hx hb dX9_pay_8 ?_
  refine z_any (fun v_1 => ?_)
  refine z_iast hx hb hK hP hD hS 28 (by decide) 21 (fun _ => rfl) rfl (zR_vin hpa0 (by decide)) dX9_pay_9 (fun H locs hP hD hS => ?_)
  have hI_2 := xInv_R hI 28 (pa0).toNatClampNeg (v_1) (zR_any _) rfl
  refine lv_aload_n hx hb dX9_pay_10 rfl (lv_at hl 0 rfl) ?_
  refine z_get hx hb ht hown hK hP ziX9 rfl 27 (by decide) 4 (by decide) hw_1_164 rfl (v := .ref (q 28)) rfl dX9_pay_11 ?_
  refine lv_iload_n hx hb dX9_pay_14 rfl (lv_at hl 2 rfl) ?_
  refine lv_dup2_11 hx hb dX9_pay_15 rfl rfl ?_
  refine z_iald hx hb hK hP 28 (by decide) 21 rfl rfl (zR_vin hpa1 (by decide)) dX9_pay_16 ?_
  refine z_any (fun v_3 => ?_)
  refine lv_iload_n hx hb dX9_pay_17 rfl (lv_at hl 3 rfl) ?_
  refine lv_iadd hx hb dX9_pay_18 ?_
  refine z_any (fun v_4 => ?_)
  refine z_iast hx hb hK hP hD hS 28 (by decide) 21 (fun _ => rfl) rfl (zR_vin hpa1 (by decide)) dX9_pay_19 (fun H locs hP hD hS => ?_)
  have hI_5 := xInv_R hI_2 28 (pa1).toNatClampNeg (v_4) (zR_any _) rfl
  exact z_vret hx hb hr hlocks hP hD hS dX9_pay_20 hI_5
