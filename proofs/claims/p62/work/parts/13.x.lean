set_option maxHeartbeats 4000000 in
set_option maxRecDepth 100000 in
theorem xk_X8_keep_9 (l : Launch) (D : va_G) (q : Nat → Nat) (cA : Nat → ClassId) (F : Nat → Nat → Int32) (I R : Nat → Nat → Int32) (J : Nat → Nat → Int64) (hI : xInv F (I, R, J)) (pa1 : Int32) (hpa1 : zR 0 1 pa1) : zMv l D vwCl (zXtys cA) 81 q (zXd q cA) yX8_keep cX8_keep 5 none ({ frames := 3, cells := 0, slots := 0, locals := 66 } : Room) [.ref (q 39), .int (nI 4), .int (pa1)] (I, R, J) (fun u => xInv F u) := by
  intro sz
  refine z_body (by decide +kernel) (Nat.le_of_ble_eq_true rfl) (fun p e s m below meth c ls hx hb hml hr ht hown hlocks hsz hK hP hD hS hl => ?_)
  have hA : ∀ a, s.heap.size ≤ a → zA 81 q sz a := fun a h => Or.inr (hsz ▸ h)
  have hl : lv_has ls 5 [(0, .ref (q 39)), (1, .int (nI 4)), (2, .int (pa1))] := hl
  refine lv_iload_n hx hb dX8_keep_0 rfl (lv_at hl 1 rfl) ?_
  refine lv_iconst (v := nI 5) hx hb dX8_keep_1 (by decide +kernel) ?_
  refine lv_icmp_lt (tgt := 19) hx hb dX8_keep_2 (by decide) (fun _ => ?_) (fun c_0 => absurd (zD_lt zk_4 zk_5 (by decide)) c_0)
  refine lv_iload_n hx hb dX8_keep_19 rfl (lv_at hl 2 rfl) ?_
  refine z_callSi (As := [.int (pa1)]) (rest := []) hx hb hml hown ht (xk_J6_bitCount_0f7a4_1 l D q cA F _ _ _ hI (pa1) hpa1) hw_4_98 hmJ6_bitCount_0f7a4 ⟨rfl, rfl⟩ (na := 1) rfl (by decide +kernel) (by decide) hK hP hD hS hA hl.1 rfl (Nat.le_of_ble_eq_true rfl) ⟨Nat.zero_le _, Nat.zero_le _⟩ dX8_keep_20 (fun r_1 I_1 R_1 J_1 H locs hp_1 hP hD hS _ _ => ?_)
  obtain ⟨hr_1, hu_1⟩ := hp_1
  cases hu_1
  refine lv_iconst (v := nI 5) hx hb dX8_keep_23 (by decide +kernel) ?_
  refine lv_iadd hx hb dX8_keep_24 ?_
  refine z_addc 5 68 hr_1 zk_5 (by decide) (fun v_2 hv_2 mv_2 => ?_)
  refine lv_iload_n hx hb dX8_keep_25 rfl (lv_at hl 1 rfl) ?_
  refine lv_isub hx hb dX8_keep_26 ?_
  refine z_subc 1 64 (-4) hv_2 zk_4 (by decide) (fun v_3 hv_3 mv_3 => ?_)
  refine lv_aload_n hx hb dX8_keep_27 rfl (lv_at hl 0 rfl) ?_
  refine z_get hx hb ht hown hK hP ziX8 rfl 39 (by decide) 5 (by decide) hw_1_234 rfl (v := .int (I 39 5)) rfl dX8_keep_28 ?_
  refine z_callSi (As := [.int (I 39 5)]) (rest := [.int (v_3)]) hx hb hml hown ht (xk_J6_bitCount_0f7a4 l D q cA F _ _ _ hI (I 39 5)) hw_4_98 hmJ6_bitCount_0f7a4 ⟨rfl, rfl⟩ (na := 1) rfl (by decide +kernel) (by decide) hK hP hD hS hA hl.1 rfl (Nat.le_of_ble_eq_true rfl) ⟨Nat.zero_le _, Nat.zero_le _⟩ dX8_keep_31 (fun r_4 I_4 R_4 J_4 H locs hp_4 hP hD hS _ _ => ?_)
  obtain ⟨hr_4, hu_4⟩ := hp_4
  cases hu_4
  refine lv_icmp_ge (tgt := 38) hx hb dX8_keep_34 (by decide) (fun c_5 => ?_) (fun c_5 => ?_)
  · have t_c_5 := z_leT c_5
    refine lv_iconst (v := nI 0) hx hb dX8_keep_38 (by decide +kernel) ?_
    refine lv_istore_n (lv' := [(3, .int (nI 0)), (0, .ref (q 39)), (1, .int (nI 4)), (2, .int (pa1))]) hx hb dX8_keep_39 rfl hl (by decide) rfl (fun ls hl => ?_)
    have loop_70 : ∀ N : Nat, ∀ x_68 : Int32, zR 0 5 x_68 → ∀ I_69 : Nat → Nat → Int32, ∀ R_69 : Nat → Nat → Int32, ∀ J_69 : Nat → Nat → Int64, xInv F (I_69, R_69, J_69) → (2147483648 - (x_68).toInt).toNat < N → ∀ (H : Heap) (locs : List Loc), va_P D vwCl (zw 81 q (zXd q cA) I_69 R_69 J_69) H → va_D (zA 81 q sz) (zw 81 q (zXd q cA) I_69 R_69 J_69) → va_S (zA 81 q sz) s.heap H locs → ∀ ls : Array Slot, lv_has ls 5 [(0, .ref (q 39)), (1, .int (nI 4)), (2, .int (pa1)), (3, .int (x_68))] → W p l e ({ frames := 3, cells := 0, slots := 0, locals := 66 } : Room) s m ([.ref (q 39), .int (nI 4), .int (pa1)] : List Value).toArray below meth c H locs 0 0 (MQ below (va_Qv (fun u => xInv F u) (zB D vwCl 81 q (zXd q cA) sz) (zA 81 q sz)) ([.ref (q 39), .int (nI 4), .int (pa1)] : List Value).toArray s 0 0 (zA 81 q sz)) (F0 m 40 ls []) := by
      intro N
      induction N with
      | zero => intro x_68 hx_68 I_69 R_69 J_69 hI_69 hN; exact absurd hN (Nat.not_lt_zero _)
      | succ N ih_72 =>
        intro x_68 hx_68 I_69 R_69 J_69 hI_69 hN_71 H locs hP hD hS ls hl
        refine lv_iload_n hx hb dX8_keep_40 rfl (lv_at hl 3 rfl) ?_
        refine lv_iconst (v := nI 5) hx hb dX8_keep_41 (by decide +kernel) ?_
        refine lv_icmp_ge (tgt := 105) hx hb dX8_keep_42 (by decide) (fun c_73 => ?_) (fun c_73 => ?_)
        · have t_c_73 := z_leT c_73
          have f_89 : zR 5 5 (x_68) := zR_ley t_c_73 zk_5 hx_68 (by decide)
          refine lv_aload_n hx hb dX8_keep_105 rfl (lv_at hl 0 rfl) ?_
          refine lv_iload_n hx hb dX8_keep_106 rfl (lv_at hl 1 rfl) ?_
          refine lv_iconst (v := nI 1) hx hb dX8_keep_107 (by decide +kernel) ?_
          refine lv_iadd hx hb dX8_keep_108 ?_
          refine z_eqi (y := nI 5) (by decide +kernel) ?_
          refine lv_iload_n hx hb dX8_keep_109 rfl (lv_at hl 2 rfl) ?_
          refine z_callVv (k := 39) (As := [.int (nI 5), .int (pa1)]) (rest := []) hx hb hml hown ht (xk_X8_keep_10 l D q cA F _ _ _ hI_69 (pa1) hpa1) hw_4_90 hmX8_keep ⟨rfl, rfl⟩ (na := 2) rfl (by decide +kernel) (by decide) (by decide) rfl rfl hK hP hD hS hA hl.1 rfl (Nat.le_of_ble_eq_true rfl) ⟨Nat.zero_le _, Nat.zero_le _⟩ dX8_keep_110 (fun I_90 R_90 J_90 H locs hp_90 hP hD hS _ _ => ?_)
          exact z_vret hx hb hr hlocks hP hD hS dX8_keep_113 hp_90
        · have t_c_73 := z_leF c_73
          have f_91 : zR 0 4 (x_68) := zR_ltx t_c_73 hx_68 zk_5 (by decide)
          refine lv_aload_n hx hb dX8_keep_45 rfl (lv_at hl 0 rfl) ?_
          refine z_get hx hb ht hown hK hP ziX8 rfl 39 (by decide) 3 (by decide) hw_1_232 rfl (v := .ref (q 41)) rfl dX8_keep_46 ?_
          refine lv_iload_n hx hb dX8_keep_49 rfl (lv_at hl 1 rfl) ?_
          refine lv_iconst (v := nI 5) hx hb dX8_keep_50 (by decide +kernel) ?_
          refine lv_imul hx hb dX8_keep_51 ?_
          refine z_eqi (y := nI 20) (by decide +kernel) ?_
          refine lv_iload_n hx hb dX8_keep_52 rfl (lv_at hl 3 rfl) ?_
          refine lv_iadd hx hb dX8_keep_53 ?_
          refine z_cadd 20 24 zk_20 f_91 (by decide) (fun v_92 hv_92 mv_92 => ?_)
          refine z_iald hx hb hK hP 41 (by decide) 33 rfl rfl (zR_vin hv_92 (by decide)) dX8_keep_54 ?_
          refine z_eqi (y := R_69 41 (v_92).toNatClampNeg) rfl ?_
          have f_93 : zR (-1) 23 (R_69 41 (v_92).toNatClampNeg) := xR hI_69 41 (v_92).toNatClampNeg
          refine lv_istore (lv' := [(4, .int (R_69 41 (v_92).toNatClampNeg)), (0, .ref (q 39)), (1, .int (nI 4)), (2, .int (pa1)), (3, .int (x_68))]) hx hb dX8_keep_55 hl (by decide) rfl (fun ls hl => ?_)
          refine lv_iload hx hb dX8_keep_57 (lv_at hl 0 rfl) ?_
          refine lv_iconst (v := (-1)) hx hb dX8_keep_59 (by decide +kernel) ?_
          have t_104 : ∀ I_103 : Nat → Nat → Int32, ∀ R_103 : Nat → Nat → Int32, ∀ J_103 : Nat → Nat → Int64, xInv F (I_103, R_103, J_103) → ∀ (H : Heap) (locs : List Loc), va_P D vwCl (zw 81 q (zXd q cA) I_103 R_103 J_103) H → va_D (zA 81 q sz) (zw 81 q (zXd q cA) I_103 R_103 J_103) → va_S (zA 81 q sz) s.heap H locs → ∀ ls : Array Slot, lv_has ls 5 [(0, .ref (q 39)), (1, .int (nI 4)), (2, .int (pa1)), (3, .int (x_68)), (4, .int (R_69 41 (v_92).toNatClampNeg))] → W p l e ({ frames := 3, cells := 0, slots := 0, locals := 66 } : Room) s m ([.ref (q 39), .int (nI 4), .int (pa1)] : List Value).toArray below meth c H locs 0 0 (MQ below (va_Qv (fun u => xInv F u) (zB D vwCl 81 q (zXd q cA) sz) (zA 81 q sz)) ([.ref (q 39), .int (nI 4), .int (pa1)] : List Value).toArray s 0 0 (zA 81 q sz)) (F0 m 99 ls []) := by
            intro I_103 R_103 J_103 hI_103 H locs hP hD hS ls hl
            obtain ⟨v_105, ev_105⟩ : ∃ y : Int32, y = x_68 + nI 1 := ⟨_, rfl⟩
            have hv_105 : zR 1 5 v_105 := ev_105 ▸ zR_add f_91 zk_1 (by decide)
            have mv_105 : v_105.toInt = (x_68).toInt + 1 := by rw [ev_105, zR_addE f_91 zk_1 (by decide)]; rfl
            refine lv_iinc (v := v_105) (lv' := [(3, .int (v_105)), (0, .ref (q 39)), (1, .int (nI 4)), (2, .int (pa1)), (4, .int (R_69 41 (v_92).toNatClampNeg))]) hx hb dX8_keep_99 hl (k := 3) rfl (ev_105 ▸ rfl) (by decide) rfl (fun ls hl => ?_)
            refine lv_goto (tgt := 40) hx hb dX8_keep_102 (by decide) ?_
            exact ih_72 (v_105) (zR_w hv_105 (by decide)) _ _ _ hI_103 (z2_up mv_105 (by decide) hN_71) _ _ hP hD hS _ (lv_sub hl [1, 2, 3, 0] rfl)
          refine lv_icmp_eq (tgt := 99) hx hb dX8_keep_60 (by decide) (fun c_94 => ?_) (fun c_94 => ?_)
          · have t_c_94 := z_eqT c_94
            have f_106 : zR (-1) (-1) (R_69 41 (v_92).toNatClampNeg) := zR_eqx t_c_94 zk_m1
            exact t_104 _ _ _ hI_69 _ _ hP hD hS _ (lv_sub hl [1, 2, 3, 4, 0] rfl)
          · have t_c_94 := z_eqF c_94
            have f_107 : zR 0 23 (R_69 41 (v_92).toNatClampNeg) := zR_nex t_c_94 f_93 zk_m1 (by decide)
            refine lv_aload_n hx hb dX8_keep_63 rfl (lv_at hl 1 rfl) ?_
            refine lv_iload_n hx hb dX8_keep_64 rfl (lv_at hl 4 rfl) ?_
            refine lv_iload_n hx hb dX8_keep_65 rfl (lv_at hl 2 rfl) ?_
            refine z_callVi (k := 39) (As := [.int (x_68), .int (nI 4)]) (rest := []) hx hb hml hown ht (xk_X8_leads_4 l D q cA F _ _ _ hI_69 (x_68) f_91 (nI 4) (zR_w zk_4 (by decide))) hw_4_99 hmX8_leads ⟨rfl, rfl⟩ (na := 2) rfl (by decide +kernel) (by decide) (by decide) rfl rfl hK hP hD hS hA hl.1 rfl (Nat.le_of_ble_eq_true rfl) ⟨Nat.zero_le _, Nat.zero_le _⟩ dX8_keep_66 (fun r_108 I_108 R_108 J_108 H locs hp_108 hP hD hS _ _ => ?_)
            rcases hp_108 with ⟨rfl, hu_108⟩ | ⟨rfl, hu_108⟩
            · cases hu_108
              refine lv_if_ne (tgt := 99) hx hb dX8_keep_69 (by decide) (fun _ => ?_) (fun c_0 => absurd c_0 (zD_ne zk_1 zk_z (by decide)))
              exact t_104 _ _ _ hI_69 _ _ hP hD hS _ (lv_sub hl [1, 2, 3, 4, 0] rfl)
            · cases hu_108
              refine lv_if_ne (tgt := 99) hx hb dX8_keep_69 (by decide) (fun c_0 => absurd (zD_eq zk_0 zk_z) c_0) (fun _ => ?_)
              refine lv_aload_n hx hb dX8_keep_72 rfl (lv_at hl 1 rfl) ?_
              refine z_get hx hb ht hown hK hP ziX8 rfl 39 (by decide) 4 (by decide) hw_1_233 rfl (v := .ref (q 42)) rfl dX8_keep_73 ?_
              refine lv_iload_n hx hb dX8_keep_76 rfl (lv_at hl 2 rfl) ?_
              refine lv_iload_n hx hb dX8_keep_77 rfl (lv_at hl 4 rfl) ?_
              refine z_iast hx hb hK hP hD hS 42 (by decide) 34 (fun _ => rfl) rfl (zR_vin zk_4 (by decide)) dX8_keep_78 (fun H locs hP hD hS => ?_)
              have hI_109 := xInv_R hI_69 42 (nI 4).toNatClampNeg (x_68) (show zR (-1) 4 (x_68) from zR_w f_91 (by decide)) rfl
              refine lv_aload_n hx hb dX8_keep_79 rfl (lv_at hl 1 rfl) ?_
              refine lv_iload_n hx hb dX8_keep_80 rfl (lv_at hl 2 rfl) ?_
              refine lv_iconst (v := nI 1) hx hb dX8_keep_81 (by decide +kernel) ?_
              refine lv_iadd hx hb dX8_keep_82 ?_
              refine z_eqi (y := nI 5) (by decide +kernel) ?_
              refine lv_iload_n hx hb dX8_keep_83 rfl (lv_at hl 3 rfl) ?_
              refine lv_iconst (v := nI 1) hx hb dX8_keep_84 (by decide +kernel) ?_
              refine lv_iload hx hb dX8_keep_85 (lv_at hl 0 rfl) ?_
              refine lv_ishl hx hb dX8_keep_87 ?_
              refine z_rng (a := 1) (b := 8388608) (zR_shl1 23 f_107 (by decide)) (fun v_110 hv_110 => ?_)
              refine lv_ior hx hb dX8_keep_88 ?_
              refine z_rng (a := 0) (b := 16777215) (zR_or 24 hpa1 hv_110 (by decide)) (fun v_111 hv_111 => ?_)
              refine z_callVv (k := 39) (As := [.int (nI 5), .int (v_111)]) (rest := []) hx hb hml hown ht (xk_X8_keep_5 l D q cA F _ _ _ hI_109 (v_111)) hw_4_90 hmX8_keep ⟨rfl, rfl⟩ (na := 2) rfl (by decide +kernel) (by decide) (by decide) rfl rfl hK hP hD hS hA hl.1 rfl (Nat.le_of_ble_eq_true rfl) ⟨Nat.zero_le _, Nat.zero_le _⟩ dX8_keep_89 (fun I_112 R_112 J_112 H locs hp_112 hP hD hS _ _ => ?_)
              refine lv_aload_n hx hb dX8_keep_92 rfl (lv_at hl 1 rfl) ?_
              refine z_get hx hb ht hown hK hP ziX8 rfl 39 (by decide) 4 (by decide) hw_1_233 rfl (v := .ref (q 42)) rfl dX8_keep_93 ?_
              refine lv_iload_n hx hb dX8_keep_96 rfl (lv_at hl 2 rfl) ?_
              refine lv_iconst (v := (-1)) hx hb dX8_keep_97 (by decide +kernel) ?_
              refine z_iast hx hb hK hP hD hS 42 (by decide) 34 (fun _ => rfl) rfl (zR_vin zk_4 (by decide)) dX8_keep_98 (fun H locs hP hD hS => ?_)
              have hI_113 := xInv_R hp_112 42 (nI 4).toNatClampNeg ((-1)) (show zR (-1) 4 ((-1)) from zR_w zk_m1 (by decide)) rfl
              exact t_104 _ _ _ hI_113 _ _ hP hD hS _ (lv_sub hl [1, 2, 3, 4, 0] rfl)
    exact loop_70 _ (nI 0) (zR_w zk_0 (by decide)) _ _ _ hI (Nat.lt_succ_self _) _ _ hP hD hS _ (lv_sub hl [1, 2, 3, 0] rfl)
  · have t_c_5 := z_leF c_5
    have f_114 : zR 1 62 (v_3) := zR_ltx t_c_5 hv_3 hr_4 (by decide)
    have f_115 : zR 5 66 (v_2) := zR_shift mv_3 f_114 (by decide)
    have f_116 : zR 2 63 (r_4) := zR_lty t_c_5 hv_3 hr_4 (by decide)
    exact z_vret hx hb hr hlocks hP hD hS dX8_keep_37 hI
set_option maxHeartbeats 4000000 in
set_option maxRecDepth 100000 in
theorem xk_X8_keep_8 (l : Launch) (D : va_G) (q : Nat → Nat) (cA : Nat → ClassId) (F : Nat → Nat → Int32) (I R : Nat → Nat → Int32) (J : Nat → Nat → Int64) (hI : xInv F (I, R, J)) (pa1 : Int32) (hpa1 : zR 0 1 pa1) : zMv l D vwCl (zXtys cA) 81 q (zXd q cA) yX8_keep cX8_keep 5 none ({ frames := 4, cells := 0, slots := 0, locals := 90 } : Room) [.ref (q 39), .int (nI 3), .int (pa1)] (I, R, J) (fun u => xInv F u) := by
  intro sz
  refine z_body (by decide +kernel) (Nat.le_of_ble_eq_true rfl) (fun p e s m below meth c ls hx hb hml hr ht hown hlocks hsz hK hP hD hS hl => ?_)
  have hA : ∀ a, s.heap.size ≤ a → zA 81 q sz a := fun a h => Or.inr (hsz ▸ h)
  have hl : lv_has ls 5 [(0, .ref (q 39)), (1, .int (nI 3)), (2, .int (pa1))] := hl
  refine lv_iload_n hx hb dX8_keep_0 rfl (lv_at hl 1 rfl) ?_
  refine lv_iconst (v := nI 5) hx hb dX8_keep_1 (by decide +kernel) ?_
  refine lv_icmp_lt (tgt := 19) hx hb dX8_keep_2 (by decide) (fun _ => ?_) (fun c_0 => absurd (zD_lt zk_3 zk_5 (by decide)) c_0)
  refine lv_iload_n hx hb dX8_keep_19 rfl (lv_at hl 2 rfl) ?_
  refine z_callSi (As := [.int (pa1)]) (rest := []) hx hb hml hown ht (xk_J6_bitCount_0f7a4_1 l D q cA F _ _ _ hI (pa1) hpa1) hw_4_98 hmJ6_bitCount_0f7a4 ⟨rfl, rfl⟩ (na := 1) rfl (by decide +kernel) (by decide) hK hP hD hS hA hl.1 rfl (Nat.le_of_ble_eq_true rfl) ⟨Nat.zero_le _, Nat.zero_le _⟩ dX8_keep_20 (fun r_1 I_1 R_1 J_1 H locs hp_1 hP hD hS _ _ => ?_)
  obtain ⟨hr_1, hu_1⟩ := hp_1
  cases hu_1
  refine lv_iconst (v := nI 5) hx hb dX8_keep_23 (by decide +kernel) ?_
  refine lv_iadd hx hb dX8_keep_24 ?_
  refine z_addc 5 68 hr_1 zk_5 (by decide) (fun v_2 hv_2 mv_2 => ?_)
  refine lv_iload_n hx hb dX8_keep_25 rfl (lv_at hl 1 rfl) ?_
  refine lv_isub hx hb dX8_keep_26 ?_
  refine z_subc 2 65 (-3) hv_2 zk_3 (by decide) (fun v_3 hv_3 mv_3 => ?_)
  refine lv_aload_n hx hb dX8_keep_27 rfl (lv_at hl 0 rfl) ?_
  refine z_get hx hb ht hown hK hP ziX8 rfl 39 (by decide) 5 (by decide) hw_1_234 rfl (v := .int (I 39 5)) rfl dX8_keep_28 ?_
  refine z_callSi (As := [.int (I 39 5)]) (rest := [.int (v_3)]) hx hb hml hown ht (xk_J6_bitCount_0f7a4 l D q cA F _ _ _ hI (I 39 5)) hw_4_98 hmJ6_bitCount_0f7a4 ⟨rfl, rfl⟩ (na := 1) rfl (by decide +kernel) (by decide) hK hP hD hS hA hl.1 rfl (Nat.le_of_ble_eq_true rfl) ⟨Nat.zero_le _, Nat.zero_le _⟩ dX8_keep_31 (fun r_4 I_4 R_4 J_4 H locs hp_4 hP hD hS _ _ => ?_)
  obtain ⟨hr_4, hu_4⟩ := hp_4
  cases hu_4
  refine lv_icmp_ge (tgt := 38) hx hb dX8_keep_34 (by decide) (fun c_5 => ?_) (fun c_5 => ?_)
  · have t_c_5 := z_leT c_5
    refine lv_iconst (v := nI 0) hx hb dX8_keep_38 (by decide +kernel) ?_
    refine lv_istore_n (lv' := [(3, .int (nI 0)), (0, .ref (q 39)), (1, .int (nI 3)), (2, .int (pa1))]) hx hb dX8_keep_39 rfl hl (by decide) rfl (fun ls hl => ?_)
    have loop_70 : ∀ N : Nat, ∀ x_68 : Int32, zR 0 5 x_68 → ∀ I_69 : Nat → Nat → Int32, ∀ R_69 : Nat → Nat → Int32, ∀ J_69 : Nat → Nat → Int64, xInv F (I_69, R_69, J_69) → (2147483648 - (x_68).toInt).toNat < N → ∀ (H : Heap) (locs : List Loc), va_P D vwCl (zw 81 q (zXd q cA) I_69 R_69 J_69) H → va_D (zA 81 q sz) (zw 81 q (zXd q cA) I_69 R_69 J_69) → va_S (zA 81 q sz) s.heap H locs → ∀ ls : Array Slot, lv_has ls 5 [(0, .ref (q 39)), (1, .int (nI 3)), (2, .int (pa1)), (3, .int (x_68))] → W p l e ({ frames := 4, cells := 0, slots := 0, locals := 90 } : Room) s m ([.ref (q 39), .int (nI 3), .int (pa1)] : List Value).toArray below meth c H locs 0 0 (MQ below (va_Qv (fun u => xInv F u) (zB D vwCl 81 q (zXd q cA) sz) (zA 81 q sz)) ([.ref (q 39), .int (nI 3), .int (pa1)] : List Value).toArray s 0 0 (zA 81 q sz)) (F0 m 40 ls []) := by
      intro N
      induction N with
      | zero => intro x_68 hx_68 I_69 R_69 J_69 hI_69 hN; exact absurd hN (Nat.not_lt_zero _)
      | succ N ih_72 =>
        intro x_68 hx_68 I_69 R_69 J_69 hI_69 hN_71 H locs hP hD hS ls hl
        refine lv_iload_n hx hb dX8_keep_40 rfl (lv_at hl 3 rfl) ?_
        refine lv_iconst (v := nI 5) hx hb dX8_keep_41 (by decide +kernel) ?_
        refine lv_icmp_ge (tgt := 105) hx hb dX8_keep_42 (by decide) (fun c_73 => ?_) (fun c_73 => ?_)
        · have t_c_73 := z_leT c_73
          have f_89 : zR 5 5 (x_68) := zR_ley t_c_73 zk_5 hx_68 (by decide)
          refine lv_aload_n hx hb dX8_keep_105 rfl (lv_at hl 0 rfl) ?_
          refine lv_iload_n hx hb dX8_keep_106 rfl (lv_at hl 1 rfl) ?_
          refine lv_iconst (v := nI 1) hx hb dX8_keep_107 (by decide +kernel) ?_
          refine lv_iadd hx hb dX8_keep_108 ?_
          refine z_eqi (y := nI 4) (by decide +kernel) ?_
          refine lv_iload_n hx hb dX8_keep_109 rfl (lv_at hl 2 rfl) ?_
          refine z_callVv (k := 39) (As := [.int (nI 4), .int (pa1)]) (rest := []) hx hb hml hown ht (xk_X8_keep_9 l D q cA F _ _ _ hI_69 (pa1) hpa1) hw_4_90 hmX8_keep ⟨rfl, rfl⟩ (na := 2) rfl (by decide +kernel) (by decide) (by decide) rfl rfl hK hP hD hS hA hl.1 rfl (Nat.le_of_ble_eq_true rfl) ⟨Nat.zero_le _, Nat.zero_le _⟩ dX8_keep_110 (fun I_90 R_90 J_90 H locs hp_90 hP hD hS _ _ => ?_)
          exact z_vret hx hb hr hlocks hP hD hS dX8_keep_113 hp_90
        · have t_c_73 := z_leF c_73
          have f_91 : zR 0 4 (x_68) := zR_ltx t_c_73 hx_68 zk_5 (by decide)
          refine lv_aload_n hx hb dX8_keep_45 rfl (lv_at hl 0 rfl) ?_
          refine z_get hx hb ht hown hK hP ziX8 rfl 39 (by decide) 3 (by decide) hw_1_232 rfl (v := .ref (q 41)) rfl dX8_keep_46 ?_
          refine lv_iload_n hx hb dX8_keep_49 rfl (lv_at hl 1 rfl) ?_
          refine lv_iconst (v := nI 5) hx hb dX8_keep_50 (by decide +kernel) ?_
          refine lv_imul hx hb dX8_keep_51 ?_
          refine z_eqi (y := nI 15) (by decide +kernel) ?_
          refine lv_iload_n hx hb dX8_keep_52 rfl (lv_at hl 3 rfl) ?_
          refine lv_iadd hx hb dX8_keep_53 ?_
          refine z_cadd 15 19 zk_15 f_91 (by decide) (fun v_92 hv_92 mv_92 => ?_)
          refine z_iald hx hb hK hP 41 (by decide) 33 rfl rfl (zR_vin hv_92 (by decide)) dX8_keep_54 ?_
          refine z_eqi (y := R_69 41 (v_92).toNatClampNeg) rfl ?_
          have f_93 : zR (-1) 23 (R_69 41 (v_92).toNatClampNeg) := xR hI_69 41 (v_92).toNatClampNeg
          refine lv_istore (lv' := [(4, .int (R_69 41 (v_92).toNatClampNeg)), (0, .ref (q 39)), (1, .int (nI 3)), (2, .int (pa1)), (3, .int (x_68))]) hx hb dX8_keep_55 hl (by decide) rfl (fun ls hl => ?_)
          refine lv_iload hx hb dX8_keep_57 (lv_at hl 0 rfl) ?_
          refine lv_iconst (v := (-1)) hx hb dX8_keep_59 (by decide +kernel) ?_
          have t_104 : ∀ I_103 : Nat → Nat → Int32, ∀ R_103 : Nat → Nat → Int32, ∀ J_103 : Nat → Nat → Int64, xInv F (I_103, R_103, J_103) → ∀ (H : Heap) (locs : List Loc), va_P D vwCl (zw 81 q (zXd q cA) I_103 R_103 J_103) H → va_D (zA 81 q sz) (zw 81 q (zXd q cA) I_103 R_103 J_103) → va_S (zA 81 q sz) s.heap H locs → ∀ ls : Array Slot, lv_has ls 5 [(0, .ref (q 39)), (1, .int (nI 3)), (2, .int (pa1)), (3, .int (x_68)), (4, .int (R_69 41 (v_92).toNatClampNeg))] → W p l e ({ frames := 4, cells := 0, slots := 0, locals := 90 } : Room) s m ([.ref (q 39), .int (nI 3), .int (pa1)] : List Value).toArray below meth c H locs 0 0 (MQ below (va_Qv (fun u => xInv F u) (zB D vwCl 81 q (zXd q cA) sz) (zA 81 q sz)) ([.ref (q 39), .int (nI 3), .int (pa1)] : List Value).toArray s 0 0 (zA 81 q sz)) (F0 m 99 ls []) := by
            intro I_103 R_103 J_103 hI_103 H locs hP hD hS ls hl
            obtain ⟨v_105, ev_105⟩ : ∃ y : Int32, y = x_68 + nI 1 := ⟨_, rfl⟩
            have hv_105 : zR 1 5 v_105 := ev_105 ▸ zR_add f_91 zk_1 (by decide)
            have mv_105 : v_105.toInt = (x_68).toInt + 1 := by rw [ev_105, zR_addE f_91 zk_1 (by decide)]; rfl
            refine lv_iinc (v := v_105) (lv' := [(3, .int (v_105)), (0, .ref (q 39)), (1, .int (nI 3)), (2, .int (pa1)), (4, .int (R_69 41 (v_92).toNatClampNeg))]) hx hb dX8_keep_99 hl (k := 3) rfl (ev_105 ▸ rfl) (by decide) rfl (fun ls hl => ?_)
            refine lv_goto (tgt := 40) hx hb dX8_keep_102 (by decide) ?_
            exact ih_72 (v_105) (zR_w hv_105 (by decide)) _ _ _ hI_103 (z2_up mv_105 (by decide) hN_71) _ _ hP hD hS _ (lv_sub hl [1, 2, 3, 0] rfl)
          refine lv_icmp_eq (tgt := 99) hx hb dX8_keep_60 (by decide) (fun c_94 => ?_) (fun c_94 => ?_)
          · have t_c_94 := z_eqT c_94
            have f_106 : zR (-1) (-1) (R_69 41 (v_92).toNatClampNeg) := zR_eqx t_c_94 zk_m1
            exact t_104 _ _ _ hI_69 _ _ hP hD hS _ (lv_sub hl [1, 2, 3, 4, 0] rfl)
          · have t_c_94 := z_eqF c_94
            have f_107 : zR 0 23 (R_69 41 (v_92).toNatClampNeg) := zR_nex t_c_94 f_93 zk_m1 (by decide)
            refine lv_aload_n hx hb dX8_keep_63 rfl (lv_at hl 1 rfl) ?_
            refine lv_iload_n hx hb dX8_keep_64 rfl (lv_at hl 4 rfl) ?_
            refine lv_iload_n hx hb dX8_keep_65 rfl (lv_at hl 2 rfl) ?_
            refine z_callVi (k := 39) (As := [.int (x_68), .int (nI 3)]) (rest := []) hx hb hml hown ht (xk_X8_leads_5 l D q cA F _ _ _ hI_69 (x_68) f_91 (nI 3) (zR_w zk_3 (by decide))) hw_4_99 hmX8_leads ⟨rfl, rfl⟩ (na := 2) rfl (by decide +kernel) (by decide) (by decide) rfl rfl hK hP hD hS hA hl.1 rfl (Nat.le_of_ble_eq_true rfl) ⟨Nat.zero_le _, Nat.zero_le _⟩ dX8_keep_66 (fun r_108 I_108 R_108 J_108 H locs hp_108 hP hD hS _ _ => ?_)
            rcases hp_108 with ⟨rfl, hu_108⟩ | ⟨rfl, hu_108⟩
            · cases hu_108
              refine lv_if_ne (tgt := 99) hx hb dX8_keep_69 (by decide) (fun _ => ?_) (fun c_0 => absurd c_0 (zD_ne zk_1 zk_z (by decide)))
              exact t_104 _ _ _ hI_69 _ _ hP hD hS _ (lv_sub hl [1, 2, 3, 4, 0] rfl)
            · cases hu_108
              refine lv_if_ne (tgt := 99) hx hb dX8_keep_69 (by decide) (fun c_0 => absurd (zD_eq zk_0 zk_z) c_0) (fun _ => ?_)
              refine lv_aload_n hx hb dX8_keep_72 rfl (lv_at hl 1 rfl) ?_
              refine z_get hx hb ht hown hK hP ziX8 rfl 39 (by decide) 4 (by decide) hw_1_233 rfl (v := .ref (q 42)) rfl dX8_keep_73 ?_
              refine lv_iload_n hx hb dX8_keep_76 rfl (lv_at hl 2 rfl) ?_
              refine lv_iload_n hx hb dX8_keep_77 rfl (lv_at hl 4 rfl) ?_
              refine z_iast hx hb hK hP hD hS 42 (by decide) 34 (fun _ => rfl) rfl (zR_vin zk_3 (by decide)) dX8_keep_78 (fun H locs hP hD hS => ?_)
              have hI_109 := xInv_R hI_69 42 (nI 3).toNatClampNeg (x_68) (show zR (-1) 4 (x_68) from zR_w f_91 (by decide)) rfl
              refine lv_aload_n hx hb dX8_keep_79 rfl (lv_at hl 1 rfl) ?_
              refine lv_iload_n hx hb dX8_keep_80 rfl (lv_at hl 2 rfl) ?_
              refine lv_iconst (v := nI 1) hx hb dX8_keep_81 (by decide +kernel) ?_
              refine lv_iadd hx hb dX8_keep_82 ?_
              refine z_eqi (y := nI 4) (by decide +kernel) ?_
              refine lv_iload_n hx hb dX8_keep_83 rfl (lv_at hl 3 rfl) ?_
              refine lv_iconst (v := nI 1) hx hb dX8_keep_84 (by decide +kernel) ?_
              refine lv_iload hx hb dX8_keep_85 (lv_at hl 0 rfl) ?_
              refine lv_ishl hx hb dX8_keep_87 ?_
              refine z_rng (a := 1) (b := 8388608) (zR_shl1 23 f_107 (by decide)) (fun v_110 hv_110 => ?_)
              refine lv_ior hx hb dX8_keep_88 ?_
              refine z_rng (a := 0) (b := 16777215) (zR_or 24 hpa1 hv_110 (by decide)) (fun v_111 hv_111 => ?_)
              refine z_callVv (k := 39) (As := [.int (nI 4), .int (v_111)]) (rest := []) hx hb hml hown ht (xk_X8_keep_4 l D q cA F _ _ _ hI_109 (v_111)) hw_4_90 hmX8_keep ⟨rfl, rfl⟩ (na := 2) rfl (by decide +kernel) (by decide) (by decide) rfl rfl hK hP hD hS hA hl.1 rfl (Nat.le_of_ble_eq_true rfl) ⟨Nat.zero_le _, Nat.zero_le _⟩ dX8_keep_89 (fun I_112 R_112 J_112 H locs hp_112 hP hD hS _ _ => ?_)
              refine lv_aload_n hx hb dX8_keep_92 rfl (lv_at hl 1 rfl) ?_
              refine z_get hx hb ht hown hK hP ziX8 rfl 39 (by decide) 4 (by decide) hw_1_233 rfl (v := .ref (q 42)) rfl dX8_keep_93 ?_
              refine lv_iload_n hx hb dX8_keep_96 rfl (lv_at hl 2 rfl) ?_
              refine lv_iconst (v := (-1)) hx hb dX8_keep_97 (by decide +kernel) ?_
              refine z_iast hx hb hK hP hD hS 42 (by decide) 34 (fun _ => rfl) rfl (zR_vin zk_3 (by decide)) dX8_keep_98 (fun H locs hP hD hS => ?_)
              have hI_113 := xInv_R hp_112 42 (nI 3).toNatClampNeg ((-1)) (show zR (-1) 4 ((-1)) from zR_w zk_m1 (by decide)) rfl
              exact t_104 _ _ _ hI_113 _ _ hP hD hS _ (lv_sub hl [1, 2, 3, 4, 0] rfl)
    exact loop_70 _ (nI 0) (zR_w zk_0 (by decide)) _ _ _ hI (Nat.lt_succ_self _) _ _ hP hD hS _ (lv_sub hl [1, 2, 3, 0] rfl)
  · have t_c_5 := z_leF c_5
    have f_114 : zR 2 62 (v_3) := zR_ltx t_c_5 hv_3 hr_4 (by decide)
    have f_115 : zR 5 65 (v_2) := zR_shift mv_3 f_114 (by decide)
    have f_116 : zR 3 63 (r_4) := zR_lty t_c_5 hv_3 hr_4 (by decide)
    exact z_vret hx hb hr hlocks hP hD hS dX8_keep_37 hI
set_option maxHeartbeats 4000000 in
set_option maxRecDepth 100000 in
theorem xk_X8_keep_7 (l : Launch) (D : va_G) (q : Nat → Nat) (cA : Nat → ClassId) (F : Nat → Nat → Int32) (I R : Nat → Nat → Int32) (J : Nat → Nat → Int64) (hI : xInv F (I, R, J)) (pa1 : Int32) (hpa1 : zR 0 1 pa1) : zMv l D vwCl (zXtys cA) 81 q (zXd q cA) yX8_keep cX8_keep 5 none ({ frames := 5, cells := 0, slots := 0, locals := 114 } : Room) [.ref (q 39), .int (nI 2), .int (pa1)] (I, R, J) (fun u => xInv F u) := by
  intro sz
  refine z_body (by decide +kernel) (Nat.le_of_ble_eq_true rfl) (fun p e s m below meth c ls hx hb hml hr ht hown hlocks hsz hK hP hD hS hl => ?_)
  have hA : ∀ a, s.heap.size ≤ a → zA 81 q sz a := fun a h => Or.inr (hsz ▸ h)
  have hl : lv_has ls 5 [(0, .ref (q 39)), (1, .int (nI 2)), (2, .int (pa1))] := hl
  refine lv_iload_n hx hb dX8_keep_0 rfl (lv_at hl 1 rfl) ?_
  refine lv_iconst (v := nI 5) hx hb dX8_keep_1 (by decide +kernel) ?_
  refine lv_icmp_lt (tgt := 19) hx hb dX8_keep_2 (by decide) (fun _ => ?_) (fun c_0 => absurd (zD_lt zk_2 zk_5 (by decide)) c_0)
  refine lv_iload_n hx hb dX8_keep_19 rfl (lv_at hl 2 rfl) ?_
  refine z_callSi (As := [.int (pa1)]) (rest := []) hx hb hml hown ht (xk_J6_bitCount_0f7a4_1 l D q cA F _ _ _ hI (pa1) hpa1) hw_4_98 hmJ6_bitCount_0f7a4 ⟨rfl, rfl⟩ (na := 1) rfl (by decide +kernel) (by decide) hK hP hD hS hA hl.1 rfl (Nat.le_of_ble_eq_true rfl) ⟨Nat.zero_le _, Nat.zero_le _⟩ dX8_keep_20 (fun r_1 I_1 R_1 J_1 H locs hp_1 hP hD hS _ _ => ?_)
  obtain ⟨hr_1, hu_1⟩ := hp_1
  cases hu_1
  refine lv_iconst (v := nI 5) hx hb dX8_keep_23 (by decide +kernel) ?_
  refine lv_iadd hx hb dX8_keep_24 ?_
  refine z_addc 5 68 hr_1 zk_5 (by decide) (fun v_2 hv_2 mv_2 => ?_)
  refine lv_iload_n hx hb dX8_keep_25 rfl (lv_at hl 1 rfl) ?_
  refine lv_isub hx hb dX8_keep_26 ?_
  refine z_subc 3 66 (-2) hv_2 zk_2 (by decide) (fun v_3 hv_3 mv_3 => ?_)
  refine lv_aload_n hx hb dX8_keep_27 rfl (lv_at hl 0 rfl) ?_
  refine z_get hx hb ht hown hK hP ziX8 rfl 39 (by decide) 5 (by decide) hw_1_234 rfl (v := .int (I 39 5)) rfl dX8_keep_28 ?_
  refine z_callSi (As := [.int (I 39 5)]) (rest := [.int (v_3)]) hx hb hml hown ht (xk_J6_bitCount_0f7a4 l D q cA F _ _ _ hI (I 39 5)) hw_4_98 hmJ6_bitCount_0f7a4 ⟨rfl, rfl⟩ (na := 1) rfl (by decide +kernel) (by decide) hK hP hD hS hA hl.1 rfl (Nat.le_of_ble_eq_true rfl) ⟨Nat.zero_le _, Nat.zero_le _⟩ dX8_keep_31 (fun r_4 I_4 R_4 J_4 H locs hp_4 hP hD hS _ _ => ?_)
  obtain ⟨hr_4, hu_4⟩ := hp_4
  cases hu_4
  refine lv_icmp_ge (tgt := 38) hx hb dX8_keep_34 (by decide) (fun c_5 => ?_) (fun c_5 => ?_)
  · have t_c_5 := z_leT c_5
    refine lv_iconst (v := nI 0) hx hb dX8_keep_38 (by decide +kernel) ?_
    refine lv_istore_n (lv' := [(3, .int (nI 0)), (0, .ref (q 39)), (1, .int (nI 2)), (2, .int (pa1))]) hx hb dX8_keep_39 rfl hl (by decide) rfl (fun ls hl => ?_)
    have loop_70 : ∀ N : Nat, ∀ x_68 : Int32, zR 0 5 x_68 → ∀ I_69 : Nat → Nat → Int32, ∀ R_69 : Nat → Nat → Int32, ∀ J_69 : Nat → Nat → Int64, xInv F (I_69, R_69, J_69) → (2147483648 - (x_68).toInt).toNat < N → ∀ (H : Heap) (locs : List Loc), va_P D vwCl (zw 81 q (zXd q cA) I_69 R_69 J_69) H → va_D (zA 81 q sz) (zw 81 q (zXd q cA) I_69 R_69 J_69) → va_S (zA 81 q sz) s.heap H locs → ∀ ls : Array Slot, lv_has ls 5 [(0, .ref (q 39)), (1, .int (nI 2)), (2, .int (pa1)), (3, .int (x_68))] → W p l e ({ frames := 5, cells := 0, slots := 0, locals := 114 } : Room) s m ([.ref (q 39), .int (nI 2), .int (pa1)] : List Value).toArray below meth c H locs 0 0 (MQ below (va_Qv (fun u => xInv F u) (zB D vwCl 81 q (zXd q cA) sz) (zA 81 q sz)) ([.ref (q 39), .int (nI 2), .int (pa1)] : List Value).toArray s 0 0 (zA 81 q sz)) (F0 m 40 ls []) := by
      intro N
      induction N with
      | zero => intro x_68 hx_68 I_69 R_69 J_69 hI_69 hN; exact absurd hN (Nat.not_lt_zero _)
      | succ N ih_72 =>
        intro x_68 hx_68 I_69 R_69 J_69 hI_69 hN_71 H locs hP hD hS ls hl
        refine lv_iload_n hx hb dX8_keep_40 rfl (lv_at hl 3 rfl) ?_
        refine lv_iconst (v := nI 5) hx hb dX8_keep_41 (by decide +kernel) ?_
        refine lv_icmp_ge (tgt := 105) hx hb dX8_keep_42 (by decide) (fun c_73 => ?_) (fun c_73 => ?_)
        · have t_c_73 := z_leT c_73
          have f_89 : zR 5 5 (x_68) := zR_ley t_c_73 zk_5 hx_68 (by decide)
          refine lv_aload_n hx hb dX8_keep_105 rfl (lv_at hl 0 rfl) ?_
          refine lv_iload_n hx hb dX8_keep_106 rfl (lv_at hl 1 rfl) ?_
          refine lv_iconst (v := nI 1) hx hb dX8_keep_107 (by decide +kernel) ?_
          refine lv_iadd hx hb dX8_keep_108 ?_
          refine z_eqi (y := nI 3) (by decide +kernel) ?_
          refine lv_iload_n hx hb dX8_keep_109 rfl (lv_at hl 2 rfl) ?_
          refine z_callVv (k := 39) (As := [.int (nI 3), .int (pa1)]) (rest := []) hx hb hml hown ht (xk_X8_keep_8 l D q cA F _ _ _ hI_69 (pa1) hpa1) hw_4_90 hmX8_keep ⟨rfl, rfl⟩ (na := 2) rfl (by decide +kernel) (by decide) (by decide) rfl rfl hK hP hD hS hA hl.1 rfl (Nat.le_of_ble_eq_true rfl) ⟨Nat.zero_le _, Nat.zero_le _⟩ dX8_keep_110 (fun I_90 R_90 J_90 H locs hp_90 hP hD hS _ _ => ?_)
          exact z_vret hx hb hr hlocks hP hD hS dX8_keep_113 hp_90
        · have t_c_73 := z_leF c_73
          have f_91 : zR 0 4 (x_68) := zR_ltx t_c_73 hx_68 zk_5 (by decide)
          refine lv_aload_n hx hb dX8_keep_45 rfl (lv_at hl 0 rfl) ?_
          refine z_get hx hb ht hown hK hP ziX8 rfl 39 (by decide) 3 (by decide) hw_1_232 rfl (v := .ref (q 41)) rfl dX8_keep_46 ?_
          refine lv_iload_n hx hb dX8_keep_49 rfl (lv_at hl 1 rfl) ?_
          refine lv_iconst (v := nI 5) hx hb dX8_keep_50 (by decide +kernel) ?_
          refine lv_imul hx hb dX8_keep_51 ?_
          refine z_eqi (y := nI 10) (by decide +kernel) ?_
          refine lv_iload_n hx hb dX8_keep_52 rfl (lv_at hl 3 rfl) ?_
          refine lv_iadd hx hb dX8_keep_53 ?_
          refine z_cadd 10 14 zk_10 f_91 (by decide) (fun v_92 hv_92 mv_92 => ?_)
          refine z_iald hx hb hK hP 41 (by decide) 33 rfl rfl (zR_vin hv_92 (by decide)) dX8_keep_54 ?_
          refine z_eqi (y := R_69 41 (v_92).toNatClampNeg) rfl ?_
          have f_93 : zR (-1) 23 (R_69 41 (v_92).toNatClampNeg) := xR hI_69 41 (v_92).toNatClampNeg
          refine lv_istore (lv' := [(4, .int (R_69 41 (v_92).toNatClampNeg)), (0, .ref (q 39)), (1, .int (nI 2)), (2, .int (pa1)), (3, .int (x_68))]) hx hb dX8_keep_55 hl (by decide) rfl (fun ls hl => ?_)
          refine lv_iload hx hb dX8_keep_57 (lv_at hl 0 rfl) ?_
          refine lv_iconst (v := (-1)) hx hb dX8_keep_59 (by decide +kernel) ?_
          have t_104 : ∀ I_103 : Nat → Nat → Int32, ∀ R_103 : Nat → Nat → Int32, ∀ J_103 : Nat → Nat → Int64, xInv F (I_103, R_103, J_103) → ∀ (H : Heap) (locs : List Loc), va_P D vwCl (zw 81 q (zXd q cA) I_103 R_103 J_103) H → va_D (zA 81 q sz) (zw 81 q (zXd q cA) I_103 R_103 J_103) → va_S (zA 81 q sz) s.heap H locs → ∀ ls : Array Slot, lv_has ls 5 [(0, .ref (q 39)), (1, .int (nI 2)), (2, .int (pa1)), (3, .int (x_68)), (4, .int (R_69 41 (v_92).toNatClampNeg))] → W p l e ({ frames := 5, cells := 0, slots := 0, locals := 114 } : Room) s m ([.ref (q 39), .int (nI 2), .int (pa1)] : List Value).toArray below meth c H locs 0 0 (MQ below (va_Qv (fun u => xInv F u) (zB D vwCl 81 q (zXd q cA) sz) (zA 81 q sz)) ([.ref (q 39), .int (nI 2), .int (pa1)] : List Value).toArray s 0 0 (zA 81 q sz)) (F0 m 99 ls []) := by
            intro I_103 R_103 J_103 hI_103 H locs hP hD hS ls hl
            obtain ⟨v_105, ev_105⟩ : ∃ y : Int32, y = x_68 + nI 1 := ⟨_, rfl⟩
            have hv_105 : zR 1 5 v_105 := ev_105 ▸ zR_add f_91 zk_1 (by decide)
            have mv_105 : v_105.toInt = (x_68).toInt + 1 := by rw [ev_105, zR_addE f_91 zk_1 (by decide)]; rfl
            refine lv_iinc (v := v_105) (lv' := [(3, .int (v_105)), (0, .ref (q 39)), (1, .int (nI 2)), (2, .int (pa1)), (4, .int (R_69 41 (v_92).toNatClampNeg))]) hx hb dX8_keep_99 hl (k := 3) rfl (ev_105 ▸ rfl) (by decide) rfl (fun ls hl => ?_)
            refine lv_goto (tgt := 40) hx hb dX8_keep_102 (by decide) ?_
            exact ih_72 (v_105) (zR_w hv_105 (by decide)) _ _ _ hI_103 (z2_up mv_105 (by decide) hN_71) _ _ hP hD hS _ (lv_sub hl [1, 2, 3, 0] rfl)
          refine lv_icmp_eq (tgt := 99) hx hb dX8_keep_60 (by decide) (fun c_94 => ?_) (fun c_94 => ?_)
          · have t_c_94 := z_eqT c_94
            have f_106 : zR (-1) (-1) (R_69 41 (v_92).toNatClampNeg) := zR_eqx t_c_94 zk_m1
            exact t_104 _ _ _ hI_69 _ _ hP hD hS _ (lv_sub hl [1, 2, 3, 4, 0] rfl)
          · have t_c_94 := z_eqF c_94
            have f_107 : zR 0 23 (R_69 41 (v_92).toNatClampNeg) := zR_nex t_c_94 f_93 zk_m1 (by decide)
            refine lv_aload_n hx hb dX8_keep_63 rfl (lv_at hl 1 rfl) ?_
            refine lv_iload_n hx hb dX8_keep_64 rfl (lv_at hl 4 rfl) ?_
            refine lv_iload_n hx hb dX8_keep_65 rfl (lv_at hl 2 rfl) ?_
            refine z_callVi (k := 39) (As := [.int (x_68), .int (nI 2)]) (rest := []) hx hb hml hown ht (xk_X8_leads_6 l D q cA F _ _ _ hI_69 (x_68) f_91 (nI 2) (zR_w zk_2 (by decide))) hw_4_99 hmX8_leads ⟨rfl, rfl⟩ (na := 2) rfl (by decide +kernel) (by decide) (by decide) rfl rfl hK hP hD hS hA hl.1 rfl (Nat.le_of_ble_eq_true rfl) ⟨Nat.zero_le _, Nat.zero_le _⟩ dX8_keep_66 (fun r_108 I_108 R_108 J_108 H locs hp_108 hP hD hS _ _ => ?_)
            rcases hp_108 with ⟨rfl, hu_108⟩ | ⟨rfl, hu_108⟩
            · cases hu_108
              refine lv_if_ne (tgt := 99) hx hb dX8_keep_69 (by decide) (fun _ => ?_) (fun c_0 => absurd c_0 (zD_ne zk_1 zk_z (by decide)))
              exact t_104 _ _ _ hI_69 _ _ hP hD hS _ (lv_sub hl [1, 2, 3, 4, 0] rfl)
            · cases hu_108
              refine lv_if_ne (tgt := 99) hx hb dX8_keep_69 (by decide) (fun c_0 => absurd (zD_eq zk_0 zk_z) c_0) (fun _ => ?_)
              refine lv_aload_n hx hb dX8_keep_72 rfl (lv_at hl 1 rfl) ?_
              refine z_get hx hb ht hown hK hP ziX8 rfl 39 (by decide) 4 (by decide) hw_1_233 rfl (v := .ref (q 42)) rfl dX8_keep_73 ?_
              refine lv_iload_n hx hb dX8_keep_76 rfl (lv_at hl 2 rfl) ?_
              refine lv_iload_n hx hb dX8_keep_77 rfl (lv_at hl 4 rfl) ?_
              refine z_iast hx hb hK hP hD hS 42 (by decide) 34 (fun _ => rfl) rfl (zR_vin zk_2 (by decide)) dX8_keep_78 (fun H locs hP hD hS => ?_)
              have hI_109 := xInv_R hI_69 42 (nI 2).toNatClampNeg (x_68) (show zR (-1) 4 (x_68) from zR_w f_91 (by decide)) rfl
              refine lv_aload_n hx hb dX8_keep_79 rfl (lv_at hl 1 rfl) ?_
              refine lv_iload_n hx hb dX8_keep_80 rfl (lv_at hl 2 rfl) ?_
              refine lv_iconst (v := nI 1) hx hb dX8_keep_81 (by decide +kernel) ?_
              refine lv_iadd hx hb dX8_keep_82 ?_
              refine z_eqi (y := nI 3) (by decide +kernel) ?_
              refine lv_iload_n hx hb dX8_keep_83 rfl (lv_at hl 3 rfl) ?_
              refine lv_iconst (v := nI 1) hx hb dX8_keep_84 (by decide +kernel) ?_
              refine lv_iload hx hb dX8_keep_85 (lv_at hl 0 rfl) ?_
              refine lv_ishl hx hb dX8_keep_87 ?_
              refine z_rng (a := 1) (b := 8388608) (zR_shl1 23 f_107 (by decide)) (fun v_110 hv_110 => ?_)
              refine lv_ior hx hb dX8_keep_88 ?_
              refine z_rng (a := 0) (b := 16777215) (zR_or 24 hpa1 hv_110 (by decide)) (fun v_111 hv_111 => ?_)
              refine z_callVv (k := 39) (As := [.int (nI 3), .int (v_111)]) (rest := []) hx hb hml hown ht (xk_X8_keep_3 l D q cA F _ _ _ hI_109 (v_111)) hw_4_90 hmX8_keep ⟨rfl, rfl⟩ (na := 2) rfl (by decide +kernel) (by decide) (by decide) rfl rfl hK hP hD hS hA hl.1 rfl (Nat.le_of_ble_eq_true rfl) ⟨Nat.zero_le _, Nat.zero_le _⟩ dX8_keep_89 (fun I_112 R_112 J_112 H locs hp_112 hP hD hS _ _ => ?_)
              refine lv_aload_n hx hb dX8_keep_92 rfl (lv_at hl 1 rfl) ?_
              refine z_get hx hb ht hown hK hP ziX8 rfl 39 (by decide) 4 (by decide) hw_1_233 rfl (v := .ref (q 42)) rfl dX8_keep_93 ?_
              refine lv_iload_n hx hb dX8_keep_96 rfl (lv_at hl 2 rfl) ?_
              refine lv_iconst (v := (-1)) hx hb dX8_keep_97 (by decide +kernel) ?_
              refine z_iast hx hb hK hP hD hS 42 (by decide) 34 (fun _ => rfl) rfl (zR_vin zk_2 (by decide)) dX8_keep_98 (fun H locs hP hD hS => ?_)
              have hI_113 := xInv_R hp_112 42 (nI 2).toNatClampNeg ((-1)) (show zR (-1) 4 ((-1)) from zR_w zk_m1 (by decide)) rfl
              exact t_104 _ _ _ hI_113 _ _ hP hD hS _ (lv_sub hl [1, 2, 3, 4, 0] rfl)
    exact loop_70 _ (nI 0) (zR_w zk_0 (by decide)) _ _ _ hI (Nat.lt_succ_self _) _ _ hP hD hS _ (lv_sub hl [1, 2, 3, 0] rfl)
  · have t_c_5 := z_leF c_5
    have f_114 : zR 3 62 (v_3) := zR_ltx t_c_5 hv_3 hr_4 (by decide)
    have f_115 : zR 5 64 (v_2) := zR_shift mv_3 f_114 (by decide)
    have f_116 : zR 4 63 (r_4) := zR_lty t_c_5 hv_3 hr_4 (by decide)
    exact z_vret hx hb hr hlocks hP hD hS dX8_keep_37 hI
set_option maxHeartbeats 4000000 in
set_option maxRecDepth 100000 in
theorem xk_X8_keep_6 (l : Launch) (D : va_G) (q : Nat → Nat) (cA : Nat → ClassId) (F : Nat → Nat → Int32) (I R : Nat → Nat → Int32) (J : Nat → Nat → Int64) (hI : xInv F (I, R, J)) (pa1 : Int32) (hpa1 : zR 0 1 pa1) : zMv l D vwCl (zXtys cA) 81 q (zXd q cA) yX8_keep cX8_keep 5 none ({ frames := 6, cells := 0, slots := 0, locals := 138 } : Room) [.ref (q 39), .int (nI 1), .int (pa1)] (I, R, J) (fun u => xInv F u) := by
  intro sz
  refine z_body (by decide +kernel) (Nat.le_of_ble_eq_true rfl) (fun p e s m below meth c ls hx hb hml hr ht hown hlocks hsz hK hP hD hS hl => ?_)
  have hA : ∀ a, s.heap.size ≤ a → zA 81 q sz a := fun a h => Or.inr (hsz ▸ h)
  have hl : lv_has ls 5 [(0, .ref (q 39)), (1, .int (nI 1)), (2, .int (pa1))] := hl
  refine lv_iload_n hx hb dX8_keep_0 rfl (lv_at hl 1 rfl) ?_
  refine lv_iconst (v := nI 5) hx hb dX8_keep_1 (by decide +kernel) ?_
  refine lv_icmp_lt (tgt := 19) hx hb dX8_keep_2 (by decide) (fun _ => ?_) (fun c_0 => absurd (zD_lt zk_1 zk_5 (by decide)) c_0)
  refine lv_iload_n hx hb dX8_keep_19 rfl (lv_at hl 2 rfl) ?_
  refine z_callSi (As := [.int (pa1)]) (rest := []) hx hb hml hown ht (xk_J6_bitCount_0f7a4_1 l D q cA F _ _ _ hI (pa1) hpa1) hw_4_98 hmJ6_bitCount_0f7a4 ⟨rfl, rfl⟩ (na := 1) rfl (by decide +kernel) (by decide) hK hP hD hS hA hl.1 rfl (Nat.le_of_ble_eq_true rfl) ⟨Nat.zero_le _, Nat.zero_le _⟩ dX8_keep_20 (fun r_1 I_1 R_1 J_1 H locs hp_1 hP hD hS _ _ => ?_)
  obtain ⟨hr_1, hu_1⟩ := hp_1
  cases hu_1
  refine lv_iconst (v := nI 5) hx hb dX8_keep_23 (by decide +kernel) ?_
  refine lv_iadd hx hb dX8_keep_24 ?_
  refine z_addc 5 68 hr_1 zk_5 (by decide) (fun v_2 hv_2 mv_2 => ?_)
  refine lv_iload_n hx hb dX8_keep_25 rfl (lv_at hl 1 rfl) ?_
  refine lv_isub hx hb dX8_keep_26 ?_
  refine z_subc 4 67 (-1) hv_2 zk_1 (by decide) (fun v_3 hv_3 mv_3 => ?_)
  refine lv_aload_n hx hb dX8_keep_27 rfl (lv_at hl 0 rfl) ?_
  refine z_get hx hb ht hown hK hP ziX8 rfl 39 (by decide) 5 (by decide) hw_1_234 rfl (v := .int (I 39 5)) rfl dX8_keep_28 ?_
  refine z_callSi (As := [.int (I 39 5)]) (rest := [.int (v_3)]) hx hb hml hown ht (xk_J6_bitCount_0f7a4 l D q cA F _ _ _ hI (I 39 5)) hw_4_98 hmJ6_bitCount_0f7a4 ⟨rfl, rfl⟩ (na := 1) rfl (by decide +kernel) (by decide) hK hP hD hS hA hl.1 rfl (Nat.le_of_ble_eq_true rfl) ⟨Nat.zero_le _, Nat.zero_le _⟩ dX8_keep_31 (fun r_4 I_4 R_4 J_4 H locs hp_4 hP hD hS _ _ => ?_)
  obtain ⟨hr_4, hu_4⟩ := hp_4
  cases hu_4
  refine lv_icmp_ge (tgt := 38) hx hb dX8_keep_34 (by decide) (fun c_5 => ?_) (fun c_5 => ?_)
  · have t_c_5 := z_leT c_5
    refine lv_iconst (v := nI 0) hx hb dX8_keep_38 (by decide +kernel) ?_
    refine lv_istore_n (lv' := [(3, .int (nI 0)), (0, .ref (q 39)), (1, .int (nI 1)), (2, .int (pa1))]) hx hb dX8_keep_39 rfl hl (by decide) rfl (fun ls hl => ?_)
    have loop_70 : ∀ N : Nat, ∀ x_68 : Int32, zR 0 5 x_68 → ∀ I_69 : Nat → Nat → Int32, ∀ R_69 : Nat → Nat → Int32, ∀ J_69 : Nat → Nat → Int64, xInv F (I_69, R_69, J_69) → (2147483648 - (x_68).toInt).toNat < N → ∀ (H : Heap) (locs : List Loc), va_P D vwCl (zw 81 q (zXd q cA) I_69 R_69 J_69) H → va_D (zA 81 q sz) (zw 81 q (zXd q cA) I_69 R_69 J_69) → va_S (zA 81 q sz) s.heap H locs → ∀ ls : Array Slot, lv_has ls 5 [(0, .ref (q 39)), (1, .int (nI 1)), (2, .int (pa1)), (3, .int (x_68))] → W p l e ({ frames := 6, cells := 0, slots := 0, locals := 138 } : Room) s m ([.ref (q 39), .int (nI 1), .int (pa1)] : List Value).toArray below meth c H locs 0 0 (MQ below (va_Qv (fun u => xInv F u) (zB D vwCl 81 q (zXd q cA) sz) (zA 81 q sz)) ([.ref (q 39), .int (nI 1), .int (pa1)] : List Value).toArray s 0 0 (zA 81 q sz)) (F0 m 40 ls []) := by
      intro N
      induction N with
      | zero => intro x_68 hx_68 I_69 R_69 J_69 hI_69 hN; exact absurd hN (Nat.not_lt_zero _)
      | succ N ih_72 =>
        intro x_68 hx_68 I_69 R_69 J_69 hI_69 hN_71 H locs hP hD hS ls hl
        refine lv_iload_n hx hb dX8_keep_40 rfl (lv_at hl 3 rfl) ?_
        refine lv_iconst (v := nI 5) hx hb dX8_keep_41 (by decide +kernel) ?_
        refine lv_icmp_ge (tgt := 105) hx hb dX8_keep_42 (by decide) (fun c_73 => ?_) (fun c_73 => ?_)
        · have t_c_73 := z_leT c_73
          have f_89 : zR 5 5 (x_68) := zR_ley t_c_73 zk_5 hx_68 (by decide)
          refine lv_aload_n hx hb dX8_keep_105 rfl (lv_at hl 0 rfl) ?_
          refine lv_iload_n hx hb dX8_keep_106 rfl (lv_at hl 1 rfl) ?_
          refine lv_iconst (v := nI 1) hx hb dX8_keep_107 (by decide +kernel) ?_
          refine lv_iadd hx hb dX8_keep_108 ?_
          refine z_eqi (y := nI 2) (by decide +kernel) ?_
          refine lv_iload_n hx hb dX8_keep_109 rfl (lv_at hl 2 rfl) ?_
          refine z_callVv (k := 39) (As := [.int (nI 2), .int (pa1)]) (rest := []) hx hb hml hown ht (xk_X8_keep_7 l D q cA F _ _ _ hI_69 (pa1) hpa1) hw_4_90 hmX8_keep ⟨rfl, rfl⟩ (na := 2) rfl (by decide +kernel) (by decide) (by decide) rfl rfl hK hP hD hS hA hl.1 rfl (Nat.le_of_ble_eq_true rfl) ⟨Nat.zero_le _, Nat.zero_le _⟩ dX8_keep_110 (fun I_90 R_90 J_90 H locs hp_90 hP hD hS _ _ => ?_)
          exact z_vret hx hb hr hlocks hP hD hS dX8_keep_113 hp_90
        · have t_c_73 := z_leF c_73
          have f_91 : zR 0 4 (x_68) := zR_ltx t_c_73 hx_68 zk_5 (by decide)
          refine lv_aload_n hx hb dX8_keep_45 rfl (lv_at hl 0 rfl) ?_
          refine z_get hx hb ht hown hK hP ziX8 rfl 39 (by decide) 3 (by decide) hw_1_232 rfl (v := .ref (q 41)) rfl dX8_keep_46 ?_
          refine lv_iload_n hx hb dX8_keep_49 rfl (lv_at hl 1 rfl) ?_
          refine lv_iconst (v := nI 5) hx hb dX8_keep_50 (by decide +kernel) ?_
          refine lv_imul hx hb dX8_keep_51 ?_
          refine z_eqi (y := nI 5) (by decide +kernel) ?_
          refine lv_iload_n hx hb dX8_keep_52 rfl (lv_at hl 3 rfl) ?_
          refine lv_iadd hx hb dX8_keep_53 ?_
          refine z_cadd 5 9 zk_5 f_91 (by decide) (fun v_92 hv_92 mv_92 => ?_)
          refine z_iald hx hb hK hP 41 (by decide) 33 rfl rfl (zR_vin hv_92 (by decide)) dX8_keep_54 ?_
          refine z_eqi (y := R_69 41 (v_92).toNatClampNeg) rfl ?_
          have f_93 : zR (-1) 23 (R_69 41 (v_92).toNatClampNeg) := xR hI_69 41 (v_92).toNatClampNeg
          refine lv_istore (lv' := [(4, .int (R_69 41 (v_92).toNatClampNeg)), (0, .ref (q 39)), (1, .int (nI 1)), (2, .int (pa1)), (3, .int (x_68))]) hx hb dX8_keep_55 hl (by decide) rfl (fun ls hl => ?_)
          refine lv_iload hx hb dX8_keep_57 (lv_at hl 0 rfl) ?_
          refine lv_iconst (v := (-1)) hx hb dX8_keep_59 (by decide +kernel) ?_
          have t_104 : ∀ I_103 : Nat → Nat → Int32, ∀ R_103 : Nat → Nat → Int32, ∀ J_103 : Nat → Nat → Int64, xInv F (I_103, R_103, J_103) → ∀ (H : Heap) (locs : List Loc), va_P D vwCl (zw 81 q (zXd q cA) I_103 R_103 J_103) H → va_D (zA 81 q sz) (zw 81 q (zXd q cA) I_103 R_103 J_103) → va_S (zA 81 q sz) s.heap H locs → ∀ ls : Array Slot, lv_has ls 5 [(0, .ref (q 39)), (1, .int (nI 1)), (2, .int (pa1)), (3, .int (x_68)), (4, .int (R_69 41 (v_92).toNatClampNeg))] → W p l e ({ frames := 6, cells := 0, slots := 0, locals := 138 } : Room) s m ([.ref (q 39), .int (nI 1), .int (pa1)] : List Value).toArray below meth c H locs 0 0 (MQ below (va_Qv (fun u => xInv F u) (zB D vwCl 81 q (zXd q cA) sz) (zA 81 q sz)) ([.ref (q 39), .int (nI 1), .int (pa1)] : List Value).toArray s 0 0 (zA 81 q sz)) (F0 m 99 ls []) := by
            intro I_103 R_103 J_103 hI_103 H locs hP hD hS ls hl
            obtain ⟨v_105, ev_105⟩ : ∃ y : Int32, y = x_68 + nI 1 := ⟨_, rfl⟩
            have hv_105 : zR 1 5 v_105 := ev_105 ▸ zR_add f_91 zk_1 (by decide)
            have mv_105 : v_105.toInt = (x_68).toInt + 1 := by rw [ev_105, zR_addE f_91 zk_1 (by decide)]; rfl
            refine lv_iinc (v := v_105) (lv' := [(3, .int (v_105)), (0, .ref (q 39)), (1, .int (nI 1)), (2, .int (pa1)), (4, .int (R_69 41 (v_92).toNatClampNeg))]) hx hb dX8_keep_99 hl (k := 3) rfl (ev_105 ▸ rfl) (by decide) rfl (fun ls hl => ?_)
            refine lv_goto (tgt := 40) hx hb dX8_keep_102 (by decide) ?_
            exact ih_72 (v_105) (zR_w hv_105 (by decide)) _ _ _ hI_103 (z2_up mv_105 (by decide) hN_71) _ _ hP hD hS _ (lv_sub hl [1, 2, 3, 0] rfl)
          refine lv_icmp_eq (tgt := 99) hx hb dX8_keep_60 (by decide) (fun c_94 => ?_) (fun c_94 => ?_)
          · have t_c_94 := z_eqT c_94
            have f_106 : zR (-1) (-1) (R_69 41 (v_92).toNatClampNeg) := zR_eqx t_c_94 zk_m1
            exact t_104 _ _ _ hI_69 _ _ hP hD hS _ (lv_sub hl [1, 2, 3, 4, 0] rfl)
          · have t_c_94 := z_eqF c_94
            have f_107 : zR 0 23 (R_69 41 (v_92).toNatClampNeg) := zR_nex t_c_94 f_93 zk_m1 (by decide)
            refine lv_aload_n hx hb dX8_keep_63 rfl (lv_at hl 1 rfl) ?_
            refine lv_iload_n hx hb dX8_keep_64 rfl (lv_at hl 4 rfl) ?_
            refine lv_iload_n hx hb dX8_keep_65 rfl (lv_at hl 2 rfl) ?_
            refine z_callVi (k := 39) (As := [.int (x_68), .int (nI 1)]) (rest := []) hx hb hml hown ht (xk_X8_leads_7 l D q cA F _ _ _ hI_69 (x_68) f_91 (nI 1) (zR_w zk_1 (by decide))) hw_4_99 hmX8_leads ⟨rfl, rfl⟩ (na := 2) rfl (by decide +kernel) (by decide) (by decide) rfl rfl hK hP hD hS hA hl.1 rfl (Nat.le_of_ble_eq_true rfl) ⟨Nat.zero_le _, Nat.zero_le _⟩ dX8_keep_66 (fun r_108 I_108 R_108 J_108 H locs hp_108 hP hD hS _ _ => ?_)
            rcases hp_108 with ⟨rfl, hu_108⟩ | ⟨rfl, hu_108⟩
            · cases hu_108
              refine lv_if_ne (tgt := 99) hx hb dX8_keep_69 (by decide) (fun _ => ?_) (fun c_0 => absurd c_0 (zD_ne zk_1 zk_z (by decide)))
              exact t_104 _ _ _ hI_69 _ _ hP hD hS _ (lv_sub hl [1, 2, 3, 4, 0] rfl)
            · cases hu_108
              refine lv_if_ne (tgt := 99) hx hb dX8_keep_69 (by decide) (fun c_0 => absurd (zD_eq zk_0 zk_z) c_0) (fun _ => ?_)
              refine lv_aload_n hx hb dX8_keep_72 rfl (lv_at hl 1 rfl) ?_
              refine z_get hx hb ht hown hK hP ziX8 rfl 39 (by decide) 4 (by decide) hw_1_233 rfl (v := .ref (q 42)) rfl dX8_keep_73 ?_
              refine lv_iload_n hx hb dX8_keep_76 rfl (lv_at hl 2 rfl) ?_
              refine lv_iload_n hx hb dX8_keep_77 rfl (lv_at hl 4 rfl) ?_
              refine z_iast hx hb hK hP hD hS 42 (by decide) 34 (fun _ => rfl) rfl (zR_vin zk_1 (by decide)) dX8_keep_78 (fun H locs hP hD hS => ?_)
              have hI_109 := xInv_R hI_69 42 (nI 1).toNatClampNeg (x_68) (show zR (-1) 4 (x_68) from zR_w f_91 (by decide)) rfl
              refine lv_aload_n hx hb dX8_keep_79 rfl (lv_at hl 1 rfl) ?_
              refine lv_iload_n hx hb dX8_keep_80 rfl (lv_at hl 2 rfl) ?_
              refine lv_iconst (v := nI 1) hx hb dX8_keep_81 (by decide +kernel) ?_
              refine lv_iadd hx hb dX8_keep_82 ?_
              refine z_eqi (y := nI 2) (by decide +kernel) ?_
              refine lv_iload_n hx hb dX8_keep_83 rfl (lv_at hl 3 rfl) ?_
              refine lv_iconst (v := nI 1) hx hb dX8_keep_84 (by decide +kernel) ?_
              refine lv_iload hx hb dX8_keep_85 (lv_at hl 0 rfl) ?_
              refine lv_ishl hx hb dX8_keep_87 ?_
              refine z_rng (a := 1) (b := 8388608) (zR_shl1 23 f_107 (by decide)) (fun v_110 hv_110 => ?_)
              refine lv_ior hx hb dX8_keep_88 ?_
              refine z_rng (a := 0) (b := 16777215) (zR_or 24 hpa1 hv_110 (by decide)) (fun v_111 hv_111 => ?_)
              refine z_callVv (k := 39) (As := [.int (nI 2), .int (v_111)]) (rest := []) hx hb hml hown ht (xk_X8_keep_2 l D q cA F _ _ _ hI_109 (v_111)) hw_4_90 hmX8_keep ⟨rfl, rfl⟩ (na := 2) rfl (by decide +kernel) (by decide) (by decide) rfl rfl hK hP hD hS hA hl.1 rfl (Nat.le_of_ble_eq_true rfl) ⟨Nat.zero_le _, Nat.zero_le _⟩ dX8_keep_89 (fun I_112 R_112 J_112 H locs hp_112 hP hD hS _ _ => ?_)
              refine lv_aload_n hx hb dX8_keep_92 rfl (lv_at hl 1 rfl) ?_
              refine z_get hx hb ht hown hK hP ziX8 rfl 39 (by decide) 4 (by decide) hw_1_233 rfl (v := .ref (q 42)) rfl dX8_keep_93 ?_
              refine lv_iload_n hx hb dX8_keep_96 rfl (lv_at hl 2 rfl) ?_
              refine lv_iconst (v := (-1)) hx hb dX8_keep_97 (by decide +kernel) ?_
              refine z_iast hx hb hK hP hD hS 42 (by decide) 34 (fun _ => rfl) rfl (zR_vin zk_1 (by decide)) dX8_keep_98 (fun H locs hP hD hS => ?_)
              have hI_113 := xInv_R hp_112 42 (nI 1).toNatClampNeg ((-1)) (show zR (-1) 4 ((-1)) from zR_w zk_m1 (by decide)) rfl
              exact t_104 _ _ _ hI_113 _ _ hP hD hS _ (lv_sub hl [1, 2, 3, 4, 0] rfl)
    exact loop_70 _ (nI 0) (zR_w zk_0 (by decide)) _ _ _ hI (Nat.lt_succ_self _) _ _ hP hD hS _ (lv_sub hl [1, 2, 3, 0] rfl)
  · have t_c_5 := z_leF c_5
    have f_114 : zR 4 62 (v_3) := zR_ltx t_c_5 hv_3 hr_4 (by decide)
    have f_115 : zR 5 63 (v_2) := zR_shift mv_3 f_114 (by decide)
    have f_116 : zR 5 63 (r_4) := zR_lty t_c_5 hv_3 hr_4 (by decide)
    exact z_vret hx hb hr hlocks hP hD hS dX8_keep_37 hI
set_option maxHeartbeats 4000000 in
set_option maxRecDepth 100000 in
theorem xk_X8_keep (l : Launch) (D : va_G) (q : Nat → Nat) (cA : Nat → ClassId) (F : Nat → Nat → Int32) (I R : Nat → Nat → Int32) (J : Nat → Nat → Int64) (hI : xInv F (I, R, J)) (pa1 : Int32) (hpa1 : zR 0 1 pa1) : zMv l D vwCl (zXtys cA) 81 q (zXd q cA) yX8_keep cX8_keep 5 none ({ frames := 7, cells := 0, slots := 0, locals := 162 } : Room) [.ref (q 39), .int (nI 0), .int (pa1)] (I, R, J) (fun u => xInv F u) := by
  intro sz
  refine z_body (by decide +kernel) (Nat.le_of_ble_eq_true rfl) (fun p e s m below meth c ls hx hb hml hr ht hown hlocks hsz hK hP hD hS hl => ?_)
  have hA : ∀ a, s.heap.size ≤ a → zA 81 q sz a := fun a h => Or.inr (hsz ▸ h)
  have hl : lv_has ls 5 [(0, .ref (q 39)), (1, .int (nI 0)), (2, .int (pa1))] := hl
  refine lv_iload_n hx hb dX8_keep_0 rfl (lv_at hl 1 rfl) ?_
  refine lv_iconst (v := nI 5) hx hb dX8_keep_1 (by decide +kernel) ?_
  refine lv_icmp_lt (tgt := 19) hx hb dX8_keep_2 (by decide) (fun _ => ?_) (fun c_0 => absurd (zD_lt zk_0 zk_5 (by decide)) c_0)
  refine lv_iload_n hx hb dX8_keep_19 rfl (lv_at hl 2 rfl) ?_
  refine z_callSi (As := [.int (pa1)]) (rest := []) hx hb hml hown ht (xk_J6_bitCount_0f7a4_1 l D q cA F _ _ _ hI (pa1) hpa1) hw_4_98 hmJ6_bitCount_0f7a4 ⟨rfl, rfl⟩ (na := 1) rfl (by decide +kernel) (by decide) hK hP hD hS hA hl.1 rfl (Nat.le_of_ble_eq_true rfl) ⟨Nat.zero_le _, Nat.zero_le _⟩ dX8_keep_20 (fun r_1 I_1 R_1 J_1 H locs hp_1 hP hD hS _ _ => ?_)
  obtain ⟨hr_1, hu_1⟩ := hp_1
  cases hu_1
  refine lv_iconst (v := nI 5) hx hb dX8_keep_23 (by decide +kernel) ?_
  refine lv_iadd hx hb dX8_keep_24 ?_
  refine z_addc 5 68 hr_1 zk_5 (by decide) (fun v_2 hv_2 mv_2 => ?_)
  refine lv_iload_n hx hb dX8_keep_25 rfl (lv_at hl 1 rfl) ?_
  refine lv_isub hx hb dX8_keep_26 ?_
  refine z_subc 5 68 0 hv_2 zk_0 (by decide) (fun v_3 hv_3 mv_3 => ?_)
  refine lv_aload_n hx hb dX8_keep_27 rfl (lv_at hl 0 rfl) ?_
  refine z_get hx hb ht hown hK hP ziX8 rfl 39 (by decide) 5 (by decide) hw_1_234 rfl (v := .int (I 39 5)) rfl dX8_keep_28 ?_
  refine z_callSi (As := [.int (I 39 5)]) (rest := [.int (v_3)]) hx hb hml hown ht (xk_J6_bitCount_0f7a4 l D q cA F _ _ _ hI (I 39 5)) hw_4_98 hmJ6_bitCount_0f7a4 ⟨rfl, rfl⟩ (na := 1) rfl (by decide +kernel) (by decide) hK hP hD hS hA hl.1 rfl (Nat.le_of_ble_eq_true rfl) ⟨Nat.zero_le _, Nat.zero_le _⟩ dX8_keep_31 (fun r_4 I_4 R_4 J_4 H locs hp_4 hP hD hS _ _ => ?_)
  obtain ⟨hr_4, hu_4⟩ := hp_4
  cases hu_4
  refine lv_icmp_ge (tgt := 38) hx hb dX8_keep_34 (by decide) (fun c_5 => ?_) (fun c_5 => ?_)
  · have t_c_5 := z_leT c_5
    refine lv_iconst (v := nI 0) hx hb dX8_keep_38 (by decide +kernel) ?_
    refine lv_istore_n (lv' := [(3, .int (nI 0)), (0, .ref (q 39)), (1, .int (nI 0)), (2, .int (pa1))]) hx hb dX8_keep_39 rfl hl (by decide) rfl (fun ls hl => ?_)
    have loop_70 : ∀ N : Nat, ∀ x_68 : Int32, zR 0 5 x_68 → ∀ I_69 : Nat → Nat → Int32, ∀ R_69 : Nat → Nat → Int32, ∀ J_69 : Nat → Nat → Int64, xInv F (I_69, R_69, J_69) → (2147483648 - (x_68).toInt).toNat < N → ∀ (H : Heap) (locs : List Loc), va_P D vwCl (zw 81 q (zXd q cA) I_69 R_69 J_69) H → va_D (zA 81 q sz) (zw 81 q (zXd q cA) I_69 R_69 J_69) → va_S (zA 81 q sz) s.heap H locs → ∀ ls : Array Slot, lv_has ls 5 [(0, .ref (q 39)), (1, .int (nI 0)), (2, .int (pa1)), (3, .int (x_68))] → W p l e ({ frames := 7, cells := 0, slots := 0, locals := 162 } : Room) s m ([.ref (q 39), .int (nI 0), .int (pa1)] : List Value).toArray below meth c H locs 0 0 (MQ below (va_Qv (fun u => xInv F u) (zB D vwCl 81 q (zXd q cA) sz) (zA 81 q sz)) ([.ref (q 39), .int (nI 0), .int (pa1)] : List Value).toArray s 0 0 (zA 81 q sz)) (F0 m 40 ls []) := by
      intro N
      induction N with
      | zero => intro x_68 hx_68 I_69 R_69 J_69 hI_69 hN; exact absurd hN (Nat.not_lt_zero _)
      | succ N ih_72 =>
        intro x_68 hx_68 I_69 R_69 J_69 hI_69 hN_71 H locs hP hD hS ls hl
        refine lv_iload_n hx hb dX8_keep_40 rfl (lv_at hl 3 rfl) ?_
        refine lv_iconst (v := nI 5) hx hb dX8_keep_41 (by decide +kernel) ?_
        refine lv_icmp_ge (tgt := 105) hx hb dX8_keep_42 (by decide) (fun c_73 => ?_) (fun c_73 => ?_)
        · have t_c_73 := z_leT c_73
          have f_89 : zR 5 5 (x_68) := zR_ley t_c_73 zk_5 hx_68 (by decide)
          refine lv_aload_n hx hb dX8_keep_105 rfl (lv_at hl 0 rfl) ?_
          refine lv_iload_n hx hb dX8_keep_106 rfl (lv_at hl 1 rfl) ?_
          refine lv_iconst (v := nI 1) hx hb dX8_keep_107 (by decide +kernel) ?_
          refine lv_iadd hx hb dX8_keep_108 ?_
          refine z_eqi (y := nI 1) (by decide +kernel) ?_
          refine lv_iload_n hx hb dX8_keep_109 rfl (lv_at hl 2 rfl) ?_
          refine z_callVv (k := 39) (As := [.int (nI 1), .int (pa1)]) (rest := []) hx hb hml hown ht (xk_X8_keep_6 l D q cA F _ _ _ hI_69 (pa1) hpa1) hw_4_90 hmX8_keep ⟨rfl, rfl⟩ (na := 2) rfl (by decide +kernel) (by decide) (by decide) rfl rfl hK hP hD hS hA hl.1 rfl (Nat.le_of_ble_eq_true rfl) ⟨Nat.zero_le _, Nat.zero_le _⟩ dX8_keep_110 (fun I_90 R_90 J_90 H locs hp_90 hP hD hS _ _ => ?_)
          exact z_vret hx hb hr hlocks hP hD hS dX8_keep_113 hp_90
        · have t_c_73 := z_leF c_73
          have f_91 : zR 0 4 (x_68) := zR_ltx t_c_73 hx_68 zk_5 (by decide)
          refine lv_aload_n hx hb dX8_keep_45 rfl (lv_at hl 0 rfl) ?_
          refine z_get hx hb ht hown hK hP ziX8 rfl 39 (by decide) 3 (by decide) hw_1_232 rfl (v := .ref (q 41)) rfl dX8_keep_46 ?_
          refine lv_iload_n hx hb dX8_keep_49 rfl (lv_at hl 1 rfl) ?_
          refine lv_iconst (v := nI 5) hx hb dX8_keep_50 (by decide +kernel) ?_
          refine lv_imul hx hb dX8_keep_51 ?_
          refine z_eqi (y := nI 0) (by decide +kernel) ?_
          refine lv_iload_n hx hb dX8_keep_52 rfl (lv_at hl 3 rfl) ?_
          refine lv_iadd hx hb dX8_keep_53 ?_
          refine z_cadd 0 4 zk_0 f_91 (by decide) (fun v_92 hv_92 mv_92 => ?_)
          refine z_iald hx hb hK hP 41 (by decide) 33 rfl rfl (zR_vin hv_92 (by decide)) dX8_keep_54 ?_
          refine z_eqi (y := R_69 41 (v_92).toNatClampNeg) rfl ?_
          have f_93 : zR (-1) 23 (R_69 41 (v_92).toNatClampNeg) := xR hI_69 41 (v_92).toNatClampNeg
          refine lv_istore (lv' := [(4, .int (R_69 41 (v_92).toNatClampNeg)), (0, .ref (q 39)), (1, .int (nI 0)), (2, .int (pa1)), (3, .int (x_68))]) hx hb dX8_keep_55 hl (by decide) rfl (fun ls hl => ?_)
          refine lv_iload hx hb dX8_keep_57 (lv_at hl 0 rfl) ?_
          refine lv_iconst (v := (-1)) hx hb dX8_keep_59 (by decide +kernel) ?_
          have t_104 : ∀ I_103 : Nat → Nat → Int32, ∀ R_103 : Nat → Nat → Int32, ∀ J_103 : Nat → Nat → Int64, xInv F (I_103, R_103, J_103) → ∀ (H : Heap) (locs : List Loc), va_P D vwCl (zw 81 q (zXd q cA) I_103 R_103 J_103) H → va_D (zA 81 q sz) (zw 81 q (zXd q cA) I_103 R_103 J_103) → va_S (zA 81 q sz) s.heap H locs → ∀ ls : Array Slot, lv_has ls 5 [(0, .ref (q 39)), (1, .int (nI 0)), (2, .int (pa1)), (3, .int (x_68)), (4, .int (R_69 41 (v_92).toNatClampNeg))] → W p l e ({ frames := 7, cells := 0, slots := 0, locals := 162 } : Room) s m ([.ref (q 39), .int (nI 0), .int (pa1)] : List Value).toArray below meth c H locs 0 0 (MQ below (va_Qv (fun u => xInv F u) (zB D vwCl 81 q (zXd q cA) sz) (zA 81 q sz)) ([.ref (q 39), .int (nI 0), .int (pa1)] : List Value).toArray s 0 0 (zA 81 q sz)) (F0 m 99 ls []) := by
            intro I_103 R_103 J_103 hI_103 H locs hP hD hS ls hl
            obtain ⟨v_105, ev_105⟩ : ∃ y : Int32, y = x_68 + nI 1 := ⟨_, rfl⟩
            have hv_105 : zR 1 5 v_105 := ev_105 ▸ zR_add f_91 zk_1 (by decide)
            have mv_105 : v_105.toInt = (x_68).toInt + 1 := by rw [ev_105, zR_addE f_91 zk_1 (by decide)]; rfl
            refine lv_iinc (v := v_105) (lv' := [(3, .int (v_105)), (0, .ref (q 39)), (1, .int (nI 0)), (2, .int (pa1)), (4, .int (R_69 41 (v_92).toNatClampNeg))]) hx hb dX8_keep_99 hl (k := 3) rfl (ev_105 ▸ rfl) (by decide) rfl (fun ls hl => ?_)
            refine lv_goto (tgt := 40) hx hb dX8_keep_102 (by decide) ?_
            exact ih_72 (v_105) (zR_w hv_105 (by decide)) _ _ _ hI_103 (z2_up mv_105 (by decide) hN_71) _ _ hP hD hS _ (lv_sub hl [1, 2, 3, 0] rfl)
          refine lv_icmp_eq (tgt := 99) hx hb dX8_keep_60 (by decide) (fun c_94 => ?_) (fun c_94 => ?_)
          · have t_c_94 := z_eqT c_94
            have f_106 : zR (-1) (-1) (R_69 41 (v_92).toNatClampNeg) := zR_eqx t_c_94 zk_m1
            exact t_104 _ _ _ hI_69 _ _ hP hD hS _ (lv_sub hl [1, 2, 3, 4, 0] rfl)
          · have t_c_94 := z_eqF c_94
            have f_107 : zR 0 23 (R_69 41 (v_92).toNatClampNeg) := zR_nex t_c_94 f_93 zk_m1 (by decide)
            refine lv_aload_n hx hb dX8_keep_63 rfl (lv_at hl 1 rfl) ?_
            refine lv_iload_n hx hb dX8_keep_64 rfl (lv_at hl 4 rfl) ?_
            refine lv_iload_n hx hb dX8_keep_65 rfl (lv_at hl 2 rfl) ?_
            refine z_callVi (k := 39) (As := [.int (x_68), .int (nI 0)]) (rest := []) hx hb hml hown ht (xk_X8_leads_7 l D q cA F _ _ _ hI_69 (x_68) f_91 (nI 0) (zR_w zk_0 (by decide))) hw_4_99 hmX8_leads ⟨rfl, rfl⟩ (na := 2) rfl (by decide +kernel) (by decide) (by decide) rfl rfl hK hP hD hS hA hl.1 rfl (Nat.le_of_ble_eq_true rfl) ⟨Nat.zero_le _, Nat.zero_le _⟩ dX8_keep_66 (fun r_108 I_108 R_108 J_108 H locs hp_108 hP hD hS _ _ => ?_)
            rcases hp_108 with ⟨rfl, hu_108⟩ | ⟨rfl, hu_108⟩
            · cases hu_108
              refine lv_if_ne (tgt := 99) hx hb dX8_keep_69 (by decide) (fun _ => ?_) (fun c_0 => absurd c_0 (zD_ne zk_1 zk_z (by decide)))
              exact t_104 _ _ _ hI_69 _ _ hP hD hS _ (lv_sub hl [1, 2, 3, 4, 0] rfl)
            · cases hu_108
              refine lv_if_ne (tgt := 99) hx hb dX8_keep_69 (by decide) (fun c_0 => absurd (zD_eq zk_0 zk_z) c_0) (fun _ => ?_)
              refine lv_aload_n hx hb dX8_keep_72 rfl (lv_at hl 1 rfl) ?_
              refine z_get hx hb ht hown hK hP ziX8 rfl 39 (by decide) 4 (by decide) hw_1_233 rfl (v := .ref (q 42)) rfl dX8_keep_73 ?_
              refine lv_iload_n hx hb dX8_keep_76 rfl (lv_at hl 2 rfl) ?_
              refine lv_iload_n hx hb dX8_keep_77 rfl (lv_at hl 4 rfl) ?_
              refine z_iast hx hb hK hP hD hS 42 (by decide) 34 (fun _ => rfl) rfl (zR_vin zk_0 (by decide)) dX8_keep_78 (fun H locs hP hD hS => ?_)
              have hI_109 := xInv_R hI_69 42 (nI 0).toNatClampNeg (x_68) (show zR (-1) 4 (x_68) from zR_w f_91 (by decide)) rfl
              refine lv_aload_n hx hb dX8_keep_79 rfl (lv_at hl 1 rfl) ?_
              refine lv_iload_n hx hb dX8_keep_80 rfl (lv_at hl 2 rfl) ?_
              refine lv_iconst (v := nI 1) hx hb dX8_keep_81 (by decide +kernel) ?_
              refine lv_iadd hx hb dX8_keep_82 ?_
              refine z_eqi (y := nI 1) (by decide +kernel) ?_
              refine lv_iload_n hx hb dX8_keep_83 rfl (lv_at hl 3 rfl) ?_
              refine lv_iconst (v := nI 1) hx hb dX8_keep_84 (by decide +kernel) ?_
              refine lv_iload hx hb dX8_keep_85 (lv_at hl 0 rfl) ?_
              refine lv_ishl hx hb dX8_keep_87 ?_
              refine z_rng (a := 1) (b := 8388608) (zR_shl1 23 f_107 (by decide)) (fun v_110 hv_110 => ?_)
              refine lv_ior hx hb dX8_keep_88 ?_
              refine z_rng (a := 0) (b := 16777215) (zR_or 24 hpa1 hv_110 (by decide)) (fun v_111 hv_111 => ?_)
              refine z_callVv (k := 39) (As := [.int (nI 1), .int (v_111)]) (rest := []) hx hb hml hown ht (xk_X8_keep_1 l D q cA F _ _ _ hI_109 (v_111)) hw_4_90 hmX8_keep ⟨rfl, rfl⟩ (na := 2) rfl (by decide +kernel) (by decide) (by decide) rfl rfl hK hP hD hS hA hl.1 rfl (Nat.le_of_ble_eq_true rfl) ⟨Nat.zero_le _, Nat.zero_le _⟩ dX8_keep_89 (fun I_112 R_112 J_112 H locs hp_112 hP hD hS _ _ => ?_)
              refine lv_aload_n hx hb dX8_keep_92 rfl (lv_at hl 1 rfl) ?_
              refine z_get hx hb ht hown hK hP ziX8 rfl 39 (by decide) 4 (by decide) hw_1_233 rfl (v := .ref (q 42)) rfl dX8_keep_93 ?_
              refine lv_iload_n hx hb dX8_keep_96 rfl (lv_at hl 2 rfl) ?_
              refine lv_iconst (v := (-1)) hx hb dX8_keep_97 (by decide +kernel) ?_
              refine z_iast hx hb hK hP hD hS 42 (by decide) 34 (fun _ => rfl) rfl (zR_vin zk_0 (by decide)) dX8_keep_98 (fun H locs hP hD hS => ?_)
              have hI_113 := xInv_R hp_112 42 (nI 0).toNatClampNeg ((-1)) (show zR (-1) 4 ((-1)) from zR_w zk_m1 (by decide)) rfl
              exact t_104 _ _ _ hI_113 _ _ hP hD hS _ (lv_sub hl [1, 2, 3, 4, 0] rfl)
    exact loop_70 _ (nI 0) (zR_w zk_0 (by decide)) _ _ _ hI (Nat.lt_succ_self _) _ _ hP hD hS _ (lv_sub hl [1, 2, 3, 0] rfl)
  · have t_c_5 := z_leF c_5
    have f_114 : zR 5 62 (v_3) := zR_ltx t_c_5 hv_3 hr_4 (by decide)
    have f_115 : zR 5 62 (v_2) := zR_shift mv_3 f_114 (by decide)
    have f_116 : zR 6 63 (r_4) := zR_lty t_c_5 hv_3 hr_4 (by decide)
    exact z_vret hx hb hr hlocks hP hD hS dX8_keep_37 hI
set_option maxHeartbeats 4000000 in
set_option maxRecDepth 100000 in
theorem xk_X8_drawEdges_1 (l : Launch) (D : va_G) (q : Nat → Nat) (cA : Nat → ClassId) (F : Nat → Nat → Int32) (I R : Nat → Nat → Int32) (J : Nat → Nat → Int64) (hI : xInv F (I, R, J)) (pa1 : Int32) (hpa1 : zR 0 5 pa1) : zMi l D vwCl (zXtys cA) 81 q (zXd q cA) yX8_drawEdges cX8_drawEdges 5 (some .int) ({ frames := 2, cells := 0, slots := 0, locals := 42 } : Room) [.ref (q 39), .ref (q 15), .int (pa1)] (I, R, J) (fun r u => zR 0 16777215 r ∧ xInv F u) := by
  intro sz
  refine z_body (by decide +kernel) (Nat.le_of_ble_eq_true rfl) (fun p e s m below meth c ls hx hb hml hr ht hown hlocks hsz hK hP hD hS hl => ?_)
  have hA : ∀ a, s.heap.size ≤ a → zA 81 q sz a := fun a h => Or.inr (hsz ▸ h)
  have hl : lv_has ls 5 [(0, .ref (q 39)), (1, .ref (q 15)), (2, .int (pa1))] := hl
  refine lv_iconst (v := nI 0) hx hb dX8_drawEdges_0 (by decide +kernel) ?_
  refine lv_istore_n (lv' := [(3, .int (nI 0)), (0, .ref (q 39)), (1, .ref (q 15)), (2, .int (pa1))]) hx hb dX8_drawEdges_1 rfl hl (by decide) rfl (fun ls hl => ?_)
  refine lv_aload_n hx hb dX8_drawEdges_2 rfl (lv_at hl 1 rfl) ?_
  refine z_get hx hb ht hown hK hP ziX8 rfl 39 (by decide) 3 (by decide) hw_1_232 rfl (v := .ref (q 41)) rfl dX8_drawEdges_3 ?_
  refine lv_iconst (v := (-1)) hx hb dX8_drawEdges_6 (by decide +kernel) ?_
  refine z_callSv (As := [.ref (q 41), .int ((-1))]) (rest := []) hx hb hml hown ht (xk_J7_fill_53178_3 l D q cA F _ _ _ hI ((-1)) (zR_w zk_m1 (by decide))) hw_4_89 hmJ7_fill_53178 ⟨rfl, rfl⟩ (na := 2) rfl (by decide +kernel) (by decide) hK hP hD hS hA hl.1 rfl (Nat.le_of_ble_eq_true rfl) ⟨Nat.zero_le _, Nat.zero_le _⟩ dX8_drawEdges_7 (fun I_1 R_1 J_1 H locs hp_1 hP hD hS _ _ => ?_)
  refine lv_iconst (v := nI 0) hx hb dX8_drawEdges_10 (by decide +kernel) ?_
  refine lv_istore (lv' := [(4, .int (nI 0)), (3, .int (nI 0)), (0, .ref (q 39)), (1, .ref (q 15)), (2, .int (pa1))]) hx hb dX8_drawEdges_11 hl (by decide) rfl (fun ls hl => ?_)
  have loop_99 : ∀ N : Nat, ∀ x_96 : Int32, zR 0 16777215 x_96 → ∀ x_97 : Int32, zR 0 24 x_97 → ∀ R_98 : Nat → Nat → Int32, xInv F (I_1, R_98, J_1) → (2147483648 - (x_97).toInt).toNat < N → ∀ (H : Heap) (locs : List Loc), va_P D vwCl (zw 81 q (zXd q cA) I_1 R_98 J_1) H → va_D (zA 81 q sz) (zw 81 q (zXd q cA) I_1 R_98 J_1) → va_S (zA 81 q sz) s.heap H locs → ∀ ls : Array Slot, lv_has ls 5 [(0, .ref (q 39)), (1, .ref (q 15)), (2, .int (pa1)), (3, .int (x_96)), (4, .int (x_97))] → W p l e ({ frames := 2, cells := 0, slots := 0, locals := 42 } : Room) s m ([.ref (q 39), .ref (q 15), .int (pa1)] : List Value).toArray below meth c H locs 0 0 (MQ below (va_Qi (fun r u => zR 0 16777215 r ∧ xInv F u) (zB D vwCl 81 q (zXd q cA) sz) (zA 81 q sz)) ([.ref (q 39), .ref (q 15), .int (pa1)] : List Value).toArray s 0 0 (zA 81 q sz)) (F0 m 13 ls []) := by
    intro N
    induction N with
    | zero => intro x_96 hx_96 x_97 hx_97 R_98 hI_98 hN; exact absurd hN (Nat.not_lt_zero _)
    | succ N ih_101 =>
      intro x_96 hx_96 x_97 hx_97 R_98 hI_98 hN_100 H locs hP hD hS ls hl
      refine lv_iload hx hb dX8_drawEdges_13 (lv_at hl 4 rfl) ?_
      refine lv_aload_n hx hb dX8_drawEdges_15 rfl (lv_at hl 1 rfl) ?_
      refine z_get hx hb ht hown hK hP ziX9 rfl 15 (by decide) 2 (by decide) hw_1_160 rfl (v := .int (I_1 15 2)) rfl dX8_drawEdges_16 ?_
      have f_102 : zR 0 24 (I_1 15 2) := xI hp_1 15 2
      refine lv_icmp_ge (tgt := 79) hx hb dX8_drawEdges_19 (by decide) (fun c_103 => ?_) (fun c_103 => ?_)
      · have t_c_103 := z_leT c_103
        refine lv_iload_n hx hb dX8_drawEdges_79 rfl (lv_at hl 3 rfl) ?_
        exact z_iret (v := x_96) hx hb hr hlocks hP hD hS dX8_drawEdges_80 ⟨hx_96, hI_98⟩
      · have t_c_103 := z_leF c_103
        have f_104 : zR 0 23 (x_97) := zR_ltx t_c_103 hx_97 f_102 (by decide)
        have f_105 : zR 1 24 (I_1 15 2) := zR_lty t_c_103 hx_97 f_102 (by decide)
        refine lv_aload_n hx hb dX8_drawEdges_22 rfl (lv_at hl 1 rfl) ?_
        refine z_get hx hb ht hown hK hP ziX9 rfl 15 (by decide) 8 (by decide) hw_1_176 rfl (v := .ref (q 20)) rfl dX8_drawEdges_23 ?_
        refine lv_iload hx hb dX8_drawEdges_26 (lv_at hl 4 rfl) ?_
        refine z_iald hx hb hK hP 20 (by decide) 14 rfl rfl (zR_vin f_104 (by decide)) dX8_drawEdges_28 ?_
        refine z_eqi (y := R_98 20 (x_97).toNatClampNeg) rfl ?_
        have f_106 : zR 0 5 (R_98 20 (x_97).toNatClampNeg) := xR hI_98 20 (x_97).toNatClampNeg
        refine lv_iload_n hx hb dX8_drawEdges_29 rfl (lv_at hl 2 rfl) ?_
        have t_118 : ∀ x_116 : Int32, zR 0 16777215 x_116 → ∀ R_117 : Nat → Nat → Int32, xInv F (I_1, R_117, J_1) → ∀ (H : Heap) (locs : List Loc), va_P D vwCl (zw 81 q (zXd q cA) I_1 R_117 J_1) H → va_D (zA 81 q sz) (zw 81 q (zXd q cA) I_1 R_117 J_1) → va_S (zA 81 q sz) s.heap H locs → ∀ ls : Array Slot, lv_has ls 5 [(0, .ref (q 39)), (1, .ref (q 15)), (2, .int (pa1)), (3, .int (x_116)), (4, .int (x_97))] → W p l e ({ frames := 2, cells := 0, slots := 0, locals := 42 } : Room) s m ([.ref (q 39), .ref (q 15), .int (pa1)] : List Value).toArray below meth c H locs 0 0 (MQ below (va_Qi (fun r u => zR 0 16777215 r ∧ xInv F u) (zB D vwCl 81 q (zXd q cA) sz) (zA 81 q sz)) ([.ref (q 39), .ref (q 15), .int (pa1)] : List Value).toArray s 0 0 (zA 81 q sz)) (F0 m 73 ls []) := by
          intro x_116 hx_116 R_117 hI_117 H locs hP hD hS ls hl
          obtain ⟨v_119, ev_119⟩ : ∃ y : Int32, y = x_97 + nI 1 := ⟨_, rfl⟩
          have hv_119 : zR 1 24 v_119 := ev_119 ▸ zR_add f_104 zk_1 (by decide)
          have mv_119 : v_119.toInt = (x_97).toInt + 1 := by rw [ev_119, zR_addE f_104 zk_1 (by decide)]; rfl
          refine lv_iinc (v := v_119) (lv' := [(4, .int (v_119)), (0, .ref (q 39)), (1, .ref (q 15)), (2, .int (pa1)), (3, .int (x_116))]) hx hb dX8_drawEdges_73 hl (k := 4) rfl (ev_119 ▸ rfl) (by decide) rfl (fun ls hl => ?_)
          refine lv_goto (tgt := 13) hx hb dX8_drawEdges_76 (by decide) ?_
          exact ih_101 (x_116) hx_116 (v_119) (zR_w hv_119 (by decide)) _ hI_117 (z2_up mv_119 (by decide) hN_100) _ _ hP hD hS _ (lv_sub hl [1, 2, 3, 4, 0] rfl)
        refine lv_icmp_ne (tgt := 73) hx hb dX8_drawEdges_30 (by decide) (fun c_107 => ?_) (fun c_107 => ?_)
        · have t_c_107 := z_eqF c_107
          exact t_118 (x_96) hx_96 _ hI_98 _ _ hP hD hS _ (lv_sub hl [0, 1, 2, 3, 4] rfl)
        · have t_c_107 := z_eqT c_107
          refine lv_aload_n hx hb dX8_drawEdges_33 rfl (lv_at hl 1 rfl) ?_
          refine lv_iload hx hb dX8_drawEdges_34 (lv_at hl 4 rfl) ?_
          refine z_callVi (k := 15) (As := [.int (x_97)]) (rest := []) hx hb hml hown ht (xk_X9_binds l D q cA F _ _ _ hI_98 (x_97) f_104) hw_4_42 hmX9_binds ⟨rfl, rfl⟩ (na := 1) rfl (by decide +kernel) (by decide) (by decide) rfl rfl hK hP hD hS hA hl.1 rfl (Nat.le_of_ble_eq_true rfl) ⟨Nat.zero_le _, Nat.zero_le _⟩ dX8_drawEdges_36 (fun r_120 I_120 R_120 J_120 H locs hp_120 hP hD hS _ _ => ?_)
          rcases hp_120 with ⟨rfl, hu_120⟩ | ⟨rfl, hu_120⟩
          · cases hu_120
            refine lv_if_eq (tgt := 73) hx hb dX8_drawEdges_39 (by decide) (fun c_0 => absurd c_0 (zD_ne zk_1 zk_z (by decide))) (fun _ => ?_)
            refine lv_aload_n hx hb dX8_drawEdges_42 rfl (lv_at hl 0 rfl) ?_
            refine z_get hx hb ht hown hK hP ziX8 rfl 39 (by decide) 3 (by decide) hw_1_232 rfl (v := .ref (q 41)) rfl dX8_drawEdges_43 ?_
            refine lv_aload_n hx hb dX8_drawEdges_46 rfl (lv_at hl 1 rfl) ?_
            refine z_get hx hb ht hown hK hP ziX9 rfl 15 (by decide) 7 (by decide) hw_1_172 rfl (v := .ref (q 19)) rfl dX8_drawEdges_47 ?_
            refine lv_iload hx hb dX8_drawEdges_50 (lv_at hl 4 rfl) ?_
            refine z_iald hx hb hK hP 19 (by decide) 13 rfl rfl (zR_vin f_104 (by decide)) dX8_drawEdges_52 ?_
            refine z_eqi (y := R_98 19 (x_97).toNatClampNeg) rfl ?_
            have f_121 : zR 0 4 (R_98 19 (x_97).toNatClampNeg) := xR hI_98 19 (x_97).toNatClampNeg
            refine lv_iconst (v := nI 5) hx hb dX8_drawEdges_53 (by decide +kernel) ?_
            refine lv_imul hx hb dX8_drawEdges_54 ?_
            refine z_rng (a := 0) (b := 20) (zR_mul f_121 zk_5 (by decide)) (fun v_122 hv_122 => ?_)
            refine lv_aload_n hx hb dX8_drawEdges_55 rfl (lv_at hl 1 rfl) ?_
            refine z_get hx hb ht hown hK hP ziX9 rfl 15 (by decide) 9 (by decide) hw_1_180 rfl (v := .ref (q 21)) rfl dX8_drawEdges_56 ?_
            refine lv_iload hx hb dX8_drawEdges_59 (lv_at hl 4 rfl) ?_
            refine z_iald hx hb hK hP 21 (by decide) 15 rfl rfl (zR_vin f_104 (by decide)) dX8_drawEdges_61 ?_
            refine z_eqi (y := R_98 21 (x_97).toNatClampNeg) rfl ?_
            have f_123 : zR 0 4 (R_98 21 (x_97).toNatClampNeg) := xR hI_98 21 (x_97).toNatClampNeg
            refine lv_iadd hx hb dX8_drawEdges_62 ?_
            refine z_rng (a := 0) (b := 24) (zR_add hv_122 f_123 (by decide)) (fun v_124 hv_124 => ?_)
            refine lv_iload hx hb dX8_drawEdges_63 (lv_at hl 4 rfl) ?_
            refine z_iast hx hb hK hP hD hS 41 (by decide) 33 (fun _ => rfl) rfl (zR_vin hv_124 (by decide)) dX8_drawEdges_65 (fun H locs hP hD hS => ?_)
            have hI_125 := xInv_R hI_98 41 (v_124).toNatClampNeg (x_97) (show zR (-1) 23 (x_97) from zR_w f_104 (by decide)) rfl
            refine lv_iload_n hx hb dX8_drawEdges_66 rfl (lv_at hl 3 rfl) ?_
            refine lv_iconst (v := nI 1) hx hb dX8_drawEdges_67 (by decide +kernel) ?_
            refine lv_iload hx hb dX8_drawEdges_68 (lv_at hl 4 rfl) ?_
            refine lv_ishl hx hb dX8_drawEdges_70 ?_
            refine z_rng (a := 1) (b := 8388608) (zR_shl1 23 f_104 (by decide)) (fun v_126 hv_126 => ?_)
            refine lv_ior hx hb dX8_drawEdges_71 ?_
            refine z_rng (a := 0) (b := 16777215) (zR_or 24 hx_96 hv_126 (by decide)) (fun v_127 hv_127 => ?_)
            refine lv_istore_n (lv' := [(3, .int (v_127)), (0, .ref (q 39)), (1, .ref (q 15)), (2, .int (pa1)), (4, .int (x_97))]) hx hb dX8_drawEdges_72 rfl hl (by decide) rfl (fun ls hl => ?_)
            exact t_118 (v_127) hv_127 _ hI_125 _ _ hP hD hS _ (lv_sub hl [1, 2, 3, 0, 4] rfl)
          · cases hu_120
            refine lv_if_eq (tgt := 73) hx hb dX8_drawEdges_39 (by decide) (fun _ => ?_) (fun c_0 => absurd (zD_eq zk_0 zk_z) c_0)
            exact t_118 (x_96) hx_96 _ hI_98 _ _ hP hD hS _ (lv_sub hl [0, 1, 2, 3, 4] rfl)
  exact loop_99 _ (nI 0) (zR_w zk_0 (by decide)) (nI 0) (zR_w zk_0 (by decide)) _ hp_1 (Nat.lt_succ_self _) _ _ hP hD hS _ (lv_sub hl [2, 3, 4, 1, 0] rfl)
set_option maxHeartbeats 4000000 in
set_option maxRecDepth 100000 in
theorem xk_X8_toStrike (l : Launch) (D : va_G) (q : Nat → Nat) (cA : Nat → ClassId) (F : Nat → Nat → Int32) (I R : Nat → Nat → Int32) (J : Nat → Nat → Int64) (hI : xInv F (I, R, J))  : zMi l D vwCl (zXtys cA) 81 q (zXd q cA) yX8_toStrike cX8_toStrike 5 (some .int) ({ frames := 8, cells := 0, slots := 0, locals := 186 } : Room) [.ref (q 39), .ref (q 15)] (I, R, J) (fun r u => zR 0 16777215 r ∧ xInv F u) := by
  intro sz
  refine z_body (by decide +kernel) (Nat.le_of_ble_eq_true rfl) (fun p e s m below meth c ls hx hb hml hr ht hown hlocks hsz hK hP hD hS hl => ?_)
  have hA : ∀ a, s.heap.size ≤ a → zA 81 q sz a := fun a h => Or.inr (hsz ▸ h)
  have hl : lv_has ls 5 [(0, .ref (q 39)), (1, .ref (q 15))] := hl
  refine lv_iconst (v := nI 0) hx hb dX8_toStrike_0 (by decide +kernel) ?_
  refine lv_istore_n (lv' := [(2, .int (nI 0)), (0, .ref (q 39)), (1, .ref (q 15))]) hx hb dX8_toStrike_1 rfl hl (by decide) rfl (fun ls hl => ?_)
  refine lv_iconst (v := nI 0) hx hb dX8_toStrike_2 (by decide +kernel) ?_
  refine lv_istore_n (lv' := [(3, .int (nI 0)), (2, .int (nI 0)), (0, .ref (q 39)), (1, .ref (q 15))]) hx hb dX8_toStrike_3 rfl hl (by decide) rfl (fun ls hl => ?_)
  have loop_60 : ∀ N : Nat, ∀ x_57 : Int32, zR 0 16777215 x_57 → ∀ x_58 : Int32, zR 0 6 x_58 → ∀ I_59 : Nat → Nat → Int32, ∀ R_59 : Nat → Nat → Int32, ∀ J_59 : Nat → Nat → Int64, xInv F (I_59, R_59, J_59) → (2147483648 - (x_58).toInt).toNat < N → ∀ (H : Heap) (locs : List Loc), va_P D vwCl (zw 81 q (zXd q cA) I_59 R_59 J_59) H → va_D (zA 81 q sz) (zw 81 q (zXd q cA) I_59 R_59 J_59) → va_S (zA 81 q sz) s.heap H locs → ∀ ls : Array Slot, lv_has ls 5 [(0, .ref (q 39)), (1, .ref (q 15)), (2, .int (x_57)), (3, .int (x_58))] → W p l e ({ frames := 8, cells := 0, slots := 0, locals := 186 } : Room) s m ([.ref (q 39), .ref (q 15)] : List Value).toArray below meth c H locs 0 0 (MQ below (va_Qi (fun r u => zR 0 16777215 r ∧ xInv F u) (zB D vwCl 81 q (zXd q cA) sz) (zA 81 q sz)) ([.ref (q 39), .ref (q 15)] : List Value).toArray s 0 0 (zA 81 q sz)) (F0 m 4 ls []) := by
    intro N
    induction N with
    | zero => intro x_57 hx_57 x_58 hx_58 I_59 R_59 J_59 hI_59 hN; exact absurd hN (Nat.not_lt_zero _)
    | succ N ih_62 =>
      intro x_57 hx_57 x_58 hx_58 I_59 R_59 J_59 hI_59 hN_61 H locs hP hD hS ls hl
      refine lv_iload_n hx hb dX8_toStrike_4 rfl (lv_at hl 3 rfl) ?_
      refine lv_aload_n hx hb dX8_toStrike_5 rfl (lv_at hl 1 rfl) ?_
      refine z_get hx hb ht hown hK hP ziX9 rfl 15 (by decide) 0 (by decide) hw_1_156 rfl (v := .ref (q 3)) rfl dX8_toStrike_6 ?_
      refine z_get hx hb ht hown hK hP ziX2 rfl 3 (by decide) 5 (by decide) hw_1_90 rfl (v := .int (I_59 3 5)) rfl dX8_toStrike_9 ?_
      have f_63 : zR 0 6 (I_59 3 5) := xI hI_59 3 5
      refine lv_icmp_ge (tgt := 60) hx hb dX8_toStrike_12 (by decide) (fun c_64 => ?_) (fun c_64 => ?_)
      · have t_c_64 := z_leT c_64
        refine lv_iload_n hx hb dX8_toStrike_60 rfl (lv_at hl 2 rfl) ?_
        exact z_iret (v := x_57) hx hb hr hlocks hP hD hS dX8_toStrike_61 ⟨hx_57, hI_59⟩
      · have t_c_64 := z_leF c_64
        have f_65 : zR 0 5 (x_58) := zR_ltx t_c_64 hx_58 f_63 (by decide)
        have f_66 : zR 1 6 (I_59 3 5) := zR_lty t_c_64 hx_58 f_63 (by decide)
        refine lv_aload_n hx hb dX8_toStrike_15 rfl (lv_at hl 0 rfl) ?_
        refine lv_aload_n hx hb dX8_toStrike_16 rfl (lv_at hl 1 rfl) ?_
        refine lv_iload_n hx hb dX8_toStrike_17 rfl (lv_at hl 3 rfl) ?_
        refine z_callVi (k := 39) (As := [.ref (q 15), .int (x_58)]) (rest := []) hx hb hml hown ht (xk_X8_drawEdges_1 l D q cA F _ _ _ hI_59 (x_58) f_65) hw_4_85 hmX8_drawEdges ⟨rfl, rfl⟩ (na := 2) rfl (by decide +kernel) (by decide) (by decide) rfl rfl hK hP hD hS hA hl.1 rfl (Nat.le_of_ble_eq_true rfl) ⟨Nat.zero_le _, Nat.zero_le _⟩ dX8_toStrike_18 (fun r_67 I_67 R_67 J_67 H locs hp_67 hP hD hS _ _ => ?_)
        obtain ⟨hr_67, hu_67⟩ := hp_67
        refine lv_istore (lv' := [(4, .int (r_67)), (0, .ref (q 39)), (1, .ref (q 15)), (2, .int (x_57)), (3, .int (x_58))]) hx hb dX8_toStrike_21 hl (by decide) rfl (fun ls hl => ?_)
        refine lv_aload_n hx hb dX8_toStrike_23 rfl (lv_at hl 1 rfl) ?_
        refine lv_iconst (v := nI 0) hx hb dX8_toStrike_24 (by decide +kernel) ?_
        refine z_putI hx hb ht hown hK hP hD hS ziX8 tyX8 tyX8_ok nmX8 rfl 39 (by decide) 5 (by decide) hw_1_234 rfl (v := nI 0) rfl rfl rfl (Nat.le_of_ble_eq_true rfl) rfl dX8_toStrike_25 (fun H locs hP hD hS => ?_)
        have hI_68 := xInv_I hu_67 39 5 (nI 0) (zR_any (nI 0)) rfl
        refine lv_aload_n hx hb dX8_toStrike_28 rfl (lv_at hl 1 rfl) ?_
        refine z_get hx hb ht hown hK hP ziX8 rfl 39 (by decide) 4 (by decide) hw_1_233 rfl (v := .ref (q 42)) rfl dX8_toStrike_29 ?_
        refine lv_iconst (v := (-1)) hx hb dX8_toStrike_32 (by decide +kernel) ?_
        refine z_callSv (As := [.ref (q 42), .int ((-1))]) (rest := []) hx hb hml hown ht (xk_J7_fill_53178_4 l D q cA F _ _ _ hI_68 ((-1)) (zR_w zk_m1 (by decide))) hw_4_89 hmJ7_fill_53178 ⟨rfl, rfl⟩ (na := 2) rfl (by decide +kernel) (by decide) hK hP hD hS hA hl.1 rfl (Nat.le_of_ble_eq_true rfl) ⟨Nat.zero_le _, Nat.zero_le _⟩ dX8_toStrike_33 (fun I_69 R_69 J_69 H locs hp_69 hP hD hS _ _ => ?_)
        refine lv_aload_n hx hb dX8_toStrike_36 rfl (lv_at hl 1 rfl) ?_
        refine lv_iconst (v := nI 0) hx hb dX8_toStrike_37 (by decide +kernel) ?_
        refine lv_iconst (v := nI 0) hx hb dX8_toStrike_38 (by decide +kernel) ?_
        refine z_callVv (k := 39) (As := [.int (nI 0), .int (nI 0)]) (rest := []) hx hb hml hown ht (xk_X8_keep l D q cA F _ _ _ hp_69 (nI 0) (zR_w zk_0 (by decide))) hw_4_90 hmX8_keep ⟨rfl, rfl⟩ (na := 2) rfl (by decide +kernel) (by decide) (by decide) rfl rfl hK hP hD hS hA hl.1 rfl (Nat.le_of_ble_eq_true rfl) ⟨Nat.zero_le _, Nat.zero_le _⟩ dX8_toStrike_39 (fun I_70 R_70 J_70 H locs hp_70 hP hD hS _ _ => ?_)
        refine lv_iload_n hx hb dX8_toStrike_42 rfl (lv_at hl 3 rfl) ?_
        refine lv_iload hx hb dX8_toStrike_43 (lv_at hl 0 rfl) ?_
        refine lv_aload_n hx hb dX8_toStrike_45 rfl (lv_at hl 1 rfl) ?_
        refine z_get hx hb ht hown hK hP ziX8 rfl 39 (by decide) 5 (by decide) hw_1_234 rfl (v := .int (I_70 39 5)) rfl dX8_toStrike_46 ?_
        refine lv_iconst (v := (-1)) hx hb dX8_toStrike_49 (by decide +kernel) ?_
        refine lv_ixor hx hb dX8_toStrike_50 ?_
        refine z_any (fun v_71 => ?_)
        refine lv_iand hx hb dX8_toStrike_51 ?_
        refine z_rng (a := 0) (b := 16777215) (zR_andl hr_67 (by decide)) (fun v_72 hv_72 => ?_)
        refine lv_ior hx hb dX8_toStrike_52 ?_
        refine z_rng (a := 0) (b := 16777215) (zR_or 24 hx_57 hv_72 (by decide)) (fun v_73 hv_73 => ?_)
        refine lv_istore_n (lv' := [(2, .int (v_73)), (4, .int (r_67)), (0, .ref (q 39)), (1, .ref (q 15)), (3, .int (x_58))]) hx hb dX8_toStrike_53 rfl hl (by decide) rfl (fun ls hl => ?_)
        obtain ⟨v_74, ev_74⟩ : ∃ y : Int32, y = x_58 + nI 1 := ⟨_, rfl⟩
        have hv_74 : zR 1 6 v_74 := ev_74 ▸ zR_add f_65 zk_1 (by decide)
        have mv_74 : v_74.toInt = (x_58).toInt + 1 := by rw [ev_74, zR_addE f_65 zk_1 (by decide)]; rfl
        refine lv_iinc (v := v_74) (lv' := [(3, .int (v_74)), (2, .int (v_73)), (4, .int (r_67)), (0, .ref (q 39)), (1, .ref (q 15))]) hx hb dX8_toStrike_54 hl (k := 4) rfl (ev_74 ▸ rfl) (by decide) rfl (fun ls hl => ?_)
        refine lv_goto (tgt := 4) hx hb dX8_toStrike_57 (by decide) ?_
        exact ih_62 (v_73) hv_73 (v_74) (zR_w hv_74 (by decide)) _ _ _ hp_70 (z2_up mv_74 (by decide) hN_61) _ _ hP hD hS _ (lv_sub hl [3, 4, 1, 0] rfl)
  exact loop_60 _ (nI 0) (zR_w zk_0 (by decide)) (nI 0) (zR_w zk_0 (by decide)) _ _ _ hI (Nat.lt_succ_self _) _ _ hP hD hS _ (lv_sub hl [2, 3, 1, 0] rfl)
set_option maxHeartbeats 4000000 in
set_option maxRecDepth 100000 in
theorem xk_X10_strikes (l : Launch) (D : va_G) (q : Nat → Nat) (cA : Nat → ClassId) (F : Nat → Nat → Int32) (I R : Nat → Nat → Int32) (J : Nat → Nat → Int64) (hI : xInv F (I, R, J))  : zMi l D vwCl (zXtys cA) 81 q (zXd q cA) yX10_strikes cX10_strikes 1 (some .int) ({ frames := 9, cells := 0, slots := 0, locals := 210 } : Room) [.ref (q 0)] (I, R, J) (fun r u => zR (-2) 63 r ∧ xInv F u) := by
  intro sz
  refine z_body (by decide +kernel) (Nat.le_of_ble_eq_true rfl) (fun p e s m below meth c ls hx hb hml hr ht hown hlocks hsz hK hP hD hS hl => ?_)
  have hA : ∀ a, s.heap.size ≤ a → zA 81 q sz a := fun a h => Or.inr (hsz ▸ h)
  have hl : lv_has ls 1 [(0, .ref (q 0))] := hl
  refine lv_aload_n hx hb dX10_strikes_0 rfl (lv_at hl 0 rfl) ?_
  refine z_callVi (k := 0) (As := []) (rest := []) hx hb hml hown ht (xk_X10_hasCity l D q cA F _ _ _ hI ) hw_4_0 hmX10_hasCity ⟨rfl, rfl⟩ (na := 0) rfl (by decide +kernel) (by decide) (by decide) rfl rfl hK hP hD hS hA hl.1 rfl (Nat.le_of_ble_eq_true rfl) ⟨Nat.zero_le _, Nat.zero_le _⟩ dX10_strikes_1 (fun r_1 I_1 R_1 J_1 H locs hp_1 hP hD hS _ _ => ?_)
  rcases hp_1 with ⟨rfl, hu_1⟩ | ⟨rfl, hu_1⟩
  · cases hu_1
    refine lv_if_eq (tgt := 24) hx hb dX10_strikes_4 (by decide) (fun c_0 => absurd c_0 (zD_ne zk_1 zk_z (by decide))) (fun _ => ?_)
    refine lv_aload_n hx hb dX10_strikes_7 rfl (lv_at hl 0 rfl) ?_
    refine z_get hx hb ht hown hK hP ziX10 rfl 0 (by decide) 6 (by decide) hw_2_99 rfl (v := .ref (q 39)) rfl dX10_strikes_8 ?_
    refine lv_aload_n hx hb dX10_strikes_11 rfl (lv_at hl 0 rfl) ?_
    refine z_get hx hb ht hown hK hP ziX10 rfl 0 (by decide) 4 (by decide) hw_2_97 rfl (v := .ref (q 15)) rfl dX10_strikes_12 ?_
    refine z_callVi (k := 39) (As := [.ref (q 15)]) (rest := []) hx hb hml hown ht (xk_X8_toStrike l D q cA F _ _ _ hI ) hw_4_81 hmX8_toStrike ⟨rfl, rfl⟩ (na := 1) rfl (by decide +kernel) (by decide) (by decide) rfl rfl hK hP hD hS hA hl.1 rfl (Nat.le_of_ble_eq_true rfl) ⟨Nat.zero_le _, Nat.zero_le _⟩ dX10_strikes_15 (fun r_2 I_2 R_2 J_2 H locs hp_2 hP hD hS _ _ => ?_)
    obtain ⟨hr_2, hu_2⟩ := hp_2
    refine z_callSi (As := [.int (r_2)]) (rest := []) hx hb hml hown ht (xk_J6_bitCount_0f7a4 l D q cA F _ _ _ hu_2 (r_2)) hw_4_103 hmJ6_bitCount_0f7a4 ⟨rfl, rfl⟩ (na := 1) rfl (by decide +kernel) (by decide) hK hP hD hS hA hl.1 rfl (Nat.le_of_ble_eq_true rfl) ⟨Nat.zero_le _, Nat.zero_le _⟩ dX10_strikes_18 (fun r_3 I_3 R_3 J_3 H locs hp_3 hP hD hS _ _ => ?_)
    obtain ⟨hr_3, hu_3⟩ := hp_3
    cases hu_3
    refine lv_goto (tgt := 26) hx hb dX10_strikes_21 (by decide) ?_
    exact z_iret (v := r_3) hx hb hr hlocks hP hD hS dX10_strikes_26 ⟨(zR_w hr_3 (by decide)), hu_2⟩
  · cases hu_1
    refine lv_if_eq (tgt := 24) hx hb dX10_strikes_4 (by decide) (fun _ => ?_) (fun c_0 => absurd (zD_eq zk_0 zk_z) c_0)
    refine lv_bipush (v := (-2)) hx hb dX10_strikes_24 (by decide +kernel) ?_
    exact z_iret (v := (-2)) hx hb hr hlocks hP hD hS dX10_strikes_26 ⟨(zR_w zk_m2 (by decide)), hI⟩
set_option maxHeartbeats 4000000 in
set_option maxRecDepth 100000 in
theorem xk_X10_struck (l : Launch) (D : va_G) (q : Nat → Nat) (cA : Nat → ClassId) (F : Nat → Nat → Int32) (I R : Nat → Nat → Int32) (J : Nat → Nat → Int64) (hI : xInv F (I, R, J))  : zMi l D vwCl (zXtys cA) 81 q (zXd q cA) yX10_struck cX10_struck 1 (some .int) ({ frames := 9, cells := 0, slots := 0, locals := 210 } : Room) [.ref (q 0)] (I, R, J) (fun r u => zR (-2) 16777215 r ∧ xInv F u) := by
  intro sz
  refine z_body (by decide +kernel) (Nat.le_of_ble_eq_true rfl) (fun p e s m below meth c ls hx hb hml hr ht hown hlocks hsz hK hP hD hS hl => ?_)
  have hA : ∀ a, s.heap.size ≤ a → zA 81 q sz a := fun a h => Or.inr (hsz ▸ h)
  have hl : lv_has ls 1 [(0, .ref (q 0))] := hl
  refine lv_aload_n hx hb dX10_struck_0 rfl (lv_at hl 0 rfl) ?_
  refine z_callVi (k := 0) (As := []) (rest := []) hx hb hml hown ht (xk_X10_hasCity l D q cA F _ _ _ hI ) hw_4_0 hmX10_hasCity ⟨rfl, rfl⟩ (na := 0) rfl (by decide +kernel) (by decide) (by decide) rfl rfl hK hP hD hS hA hl.1 rfl (Nat.le_of_ble_eq_true rfl) ⟨Nat.zero_le _, Nat.zero_le _⟩ dX10_struck_1 (fun r_1 I_1 R_1 J_1 H locs hp_1 hP hD hS _ _ => ?_)
  rcases hp_1 with ⟨rfl, hu_1⟩ | ⟨rfl, hu_1⟩
  · cases hu_1
    refine lv_if_eq (tgt := 21) hx hb dX10_struck_4 (by decide) (fun c_0 => absurd c_0 (zD_ne zk_1 zk_z (by decide))) (fun _ => ?_)
    refine lv_aload_n hx hb dX10_struck_7 rfl (lv_at hl 0 rfl) ?_
    refine z_get hx hb ht hown hK hP ziX10 rfl 0 (by decide) 6 (by decide) hw_2_99 rfl (v := .ref (q 39)) rfl dX10_struck_8 ?_
    refine lv_aload_n hx hb dX10_struck_11 rfl (lv_at hl 0 rfl) ?_
    refine z_get hx hb ht hown hK hP ziX10 rfl 0 (by decide) 4 (by decide) hw_2_97 rfl (v := .ref (q 15)) rfl dX10_struck_12 ?_
    refine z_callVi (k := 39) (As := [.ref (q 15)]) (rest := []) hx hb hml hown ht (xk_X8_toStrike l D q cA F _ _ _ hI ) hw_4_81 hmX8_toStrike ⟨rfl, rfl⟩ (na := 1) rfl (by decide +kernel) (by decide) (by decide) rfl rfl hK hP hD hS hA hl.1 rfl (Nat.le_of_ble_eq_true rfl) ⟨Nat.zero_le _, Nat.zero_le _⟩ dX10_struck_15 (fun r_2 I_2 R_2 J_2 H locs hp_2 hP hD hS _ _ => ?_)
    obtain ⟨hr_2, hu_2⟩ := hp_2
    refine lv_goto (tgt := 23) hx hb dX10_struck_18 (by decide) ?_
    exact z_iret (v := r_2) hx hb hr hlocks hP hD hS dX10_struck_23 ⟨(zR_w hr_2 (by decide)), hu_2⟩
  · cases hu_1
    refine lv_if_eq (tgt := 21) hx hb dX10_struck_4 (by decide) (fun _ => ?_) (fun c_0 => absurd (zD_eq zk_0 zk_z) c_0)
    refine lv_bipush (v := (-2)) hx hb dX10_struck_21 (by decide +kernel) ?_
    exact z_iret (v := (-2)) hx hb hr hlocks hP hD hS dX10_struck_23 ⟨(zR_w zk_m2 (by decide)), hI⟩
set_option maxHeartbeats 4000000 in
set_option maxRecDepth 100000 in
theorem xk_X9_stationOf (l : Launch) (D : va_G) (q : Nat → Nat) (cA : Nat → ClassId) (F : Nat → Nat → Int32) (I R : Nat → Nat → Int32) (J : Nat → Nat → Int64) (hI : xInv F (I, R, J)) (pa0 : Int32) (hpa0 : zR 0 5 pa0) (pa1 : Int32) (hpa1 : zR 0 48 pa1) : zMi l D vwCl (zXtys cA) 81 q (zXd q cA) yX9_stationOf cX9_stationOf 3 (some .int) ({ frames := 0, cells := 0, slots := 0, locals := 0 } : Room) [.ref (q 15), .int (pa0), .int (pa1)] (I, R, J) (fun _ u => u = (I, R, J)) := by
  intro sz
  refine z_body (by decide +kernel) (Nat.le_of_ble_eq_true rfl) (fun p e s m below meth c ls hx hb hml hr ht hown hlocks hsz hK hP hD hS hl => ?_)
  have hA : ∀ a, s.heap.size ≤ a → zA 81 q sz a := fun a h => Or.inr (hsz ▸ h)
  have hl : lv_has ls 3 [(0, .ref (q 15)), (1, .int (pa0)), (2, .int (pa1))] := hl
  refine lv_aload_n hx hb dX9_stationOf_0 rfl (lv_at hl 0 rfl) ?_
  refine z_get hx hb ht hown hK hP ziX9 rfl 15 (by decide) 12 (by decide) hw_1_187 rfl (v := .ref (q 24)) rfl dX9_stationOf_1 ?_
  refine lv_iload_n hx hb dX9_stationOf_4 rfl (lv_at hl 1 rfl) ?_
  refine lv_bipush (v := nI 49) hx hb dX9_stationOf_5 (by decide +kernel) ?_
  refine lv_imul hx hb dX9_stationOf_7 ?_
  refine z_rng (a := 0) (b := 245) (zR_mul hpa0 zk_49 (by decide)) (fun v_1 hv_1 => ?_)
  refine lv_iload_n hx hb dX9_stationOf_8 rfl (lv_at hl 2 rfl) ?_
  refine lv_iadd hx hb dX9_stationOf_9 ?_
  refine z_rng (a := 0) (b := 293) (zR_add hv_1 hpa1 (by decide)) (fun v_2 hv_2 => ?_)
  refine z_iald hx hb hK hP 24 (by decide) 18 rfl rfl (zR_vin hv_2 (by decide)) dX9_stationOf_10 ?_
  refine z_eqi (y := R 24 (v_2).toNatClampNeg) rfl ?_
  exact z_iret (v := R 24 (v_2).toNatClampNeg) hx hb hr hlocks hP hD hS dX9_stationOf_11 rfl
set_option maxHeartbeats 4000000 in
set_option maxRecDepth 100000 in
theorem xk_X10_trail (l : Launch) (D : va_G) (q : Nat → Nat) (cA : Nat → ClassId) (F : Nat → Nat → Int32) (I R : Nat → Nat → Int32) (J : Nat → Nat → Int64) (hI : xInv F (I, R, J)) (pa0 : Int32) (pa1 : Int32) : zMi l D vwCl (zXtys cA) 81 q (zXd q cA) yX10_trail cX10_trail 3 (some .int) ({ frames := 1, cells := 0, slots := 0, locals := 22 } : Room) [.ref (q 0), .int (pa0), .int (pa1)] (I, R, J) (fun _ u => u = (I, R, J)) := by
  intro sz
  refine z_body (by decide +kernel) (Nat.le_of_ble_eq_true rfl) (fun p e s m below meth c ls hx hb hml hr ht hown hlocks hsz hK hP hD hS hl => ?_)
  have hA : ∀ a, s.heap.size ≤ a → zA 81 q sz a := fun a h => Or.inr (hsz ▸ h)
  have hl : lv_has ls 3 [(0, .ref (q 0)), (1, .int (pa0)), (2, .int (pa1))] := hl
  refine lv_aload_n hx hb dX10_trail_0 rfl (lv_at hl 0 rfl) ?_
  refine lv_iload_n hx hb dX10_trail_1 rfl (lv_at hl 1 rfl) ?_
  refine z_callVi (k := 0) (As := [.int (pa0)]) (rest := []) hx hb hml hown ht (xk_X10_isThing l D q cA F _ _ _ hI (pa0)) hw_3_87 hmX10_isThing ⟨rfl, rfl⟩ (na := 1) rfl (by decide +kernel) (by decide) (by decide) rfl rfl hK hP hD hS hA hl.1 rfl (Nat.le_of_ble_eq_true rfl) ⟨Nat.zero_le _, Nat.zero_le _⟩ dX10_trail_2 (fun r_1 I_1 R_1 J_1 H locs hp_1 hP hD hS _ _ => ?_)
  rcases hp_1 with ⟨rfl, hu_1, f0_1⟩ | ⟨rfl, hu_1⟩
  · cases hu_1
    refine lv_if_ne (tgt := 11) hx hb dX10_trail_5 (by decide) (fun _ => ?_) (fun c_0 => absurd c_0 (zD_ne zk_1 zk_z (by decide)))
    refine lv_iload_n hx hb dX10_trail_11 rfl (lv_at hl 2 rfl) ?_
    refine lv_if_lt (tgt := 40) hx hb dX10_trail_12 (by decide) (fun c_2 => ?_) (fun c_2 => ?_)
    · have t_c_2 := z_ltT c_2
      have f_3 : zR (-2147483648) (-1) (pa1) := zR_ltx t_c_2 (zR_any (pa1)) zk_z (by decide)
      refine lv_iconst (v := (-1)) hx hb dX10_trail_40 (by decide +kernel) ?_
      exact z_iret (v := (-1)) hx hb hr hlocks hP hD hS dX10_trail_41 rfl
    · have t_c_2 := z_ltF c_2
      have f_4 : zR 0 2147483647 (pa1) := zR_ley t_c_2 zk_z (zR_any (pa1)) (by decide)
      refine lv_iload_n hx hb dX10_trail_15 rfl (lv_at hl 2 rfl) ?_
      refine lv_aload_n hx hb dX10_trail_16 rfl (lv_at hl 0 rfl) ?_
      refine z_get hx hb ht hown hK hP ziX10 rfl 0 (by decide) 4 (by decide) hw_2_97 rfl (v := .ref (q 15)) rfl dX10_trail_17 ?_
      refine z_get hx hb ht hown hK hP ziX9 rfl 15 (by decide) 6 (by decide) hw_1_170 rfl (v := .ref (q 18)) rfl dX10_trail_20 ?_
      refine lv_iload_n hx hb dX10_trail_23 rfl (lv_at hl 1 rfl) ?_
      refine z_iald hx hb hK hP 18 (by decide) 12 rfl rfl (zR_vin f0_1 (by decide)) dX10_trail_24 ?_
      refine z_eqi (y := R 18 (pa0).toNatClampNeg) rfl ?_
      have f_5 : zR 0 48 (R 18 (pa0).toNatClampNeg) := xR hI 18 (pa0).toNatClampNeg
      refine lv_icmp_gt (tgt := 40) hx hb dX10_trail_25 (by decide) (fun c_6 => ?_) (fun c_6 => ?_)
      · have t_c_6 := z_ltT c_6
        have f_7 : zR 1 2147483647 (pa1) := zR_lty t_c_6 f_5 f_4 (by decide)
        refine lv_iconst (v := (-1)) hx hb dX10_trail_40 (by decide +kernel) ?_
        exact z_iret (v := (-1)) hx hb hr hlocks hP hD hS dX10_trail_41 rfl
      · have t_c_6 := z_ltF c_6
        have f_8 : zR 0 48 (pa1) := zR_lex t_c_6 f_4 f_5 (by decide)
        refine lv_aload_n hx hb dX10_trail_28 rfl (lv_at hl 0 rfl) ?_
        refine z_get hx hb ht hown hK hP ziX10 rfl 0 (by decide) 4 (by decide) hw_2_97 rfl (v := .ref (q 15)) rfl dX10_trail_29 ?_
        refine lv_iload_n hx hb dX10_trail_32 rfl (lv_at hl 1 rfl) ?_
        refine lv_iload_n hx hb dX10_trail_33 rfl (lv_at hl 2 rfl) ?_
        refine z_callVi (k := 15) (As := [.int (pa0), .int (pa1)]) (rest := []) hx hb hml hown ht (xk_X9_stationOf l D q cA F _ _ _ hI (pa0) f0_1 (pa1) f_8) hw_4_112 hmX9_stationOf ⟨rfl, rfl⟩ (na := 2) rfl (by decide +kernel) (by decide) (by decide) rfl rfl hK hP hD hS hA hl.1 rfl (Nat.le_of_ble_eq_true rfl) ⟨Nat.zero_le _, Nat.zero_le _⟩ dX10_trail_34 (fun r_9 I_9 R_9 J_9 H locs hp_9 hP hD hS _ _ => ?_)
        cases hp_9
        refine lv_goto (tgt := 41) hx hb dX10_trail_37 (by decide) ?_
        exact z_iret (v := r_9) hx hb hr hlocks hP hD hS dX10_trail_41 rfl
  · cases hu_1
    refine lv_if_ne (tgt := 11) hx hb dX10_trail_5 (by decide) (fun c_0 => absurd (zD_eq zk_0 zk_z) c_0) (fun _ => ?_)
    refine lv_bipush (v := (-2)) hx hb dX10_trail_8 (by decide +kernel) ?_
    exact z_iret (v := (-2)) hx hb hr hlocks hP hD hS dX10_trail_10 rfl
set_option maxHeartbeats 4000000 in
set_option maxRecDepth 100000 in
theorem xk_X10_went (l : Launch) (D : va_G) (q : Nat → Nat) (cA : Nat → ClassId) (F : Nat → Nat → Int32) (I R : Nat → Nat → Int32) (J : Nat → Nat → Int64) (hI : xInv F (I, R, J)) (pa0 : Int32) : zMi l D vwCl (zXtys cA) 81 q (zXd q cA) yX10_went cX10_went 2 (some .int) ({ frames := 1, cells := 0, slots := 0, locals := 21 } : Room) [.ref (q 0), .int (pa0)] (I, R, J) (fun r u => zR (-2) 48 r ∧ u = (I, R, J)) := by
  intro sz
  refine z_body (by decide +kernel) (Nat.le_of_ble_eq_true rfl) (fun p e s m below meth c ls hx hb hml hr ht hown hlocks hsz hK hP hD hS hl => ?_)
  have hA : ∀ a, s.heap.size ≤ a → zA 81 q sz a := fun a h => Or.inr (hsz ▸ h)
  have hl : lv_has ls 2 [(0, .ref (q 0)), (1, .int (pa0))] := hl
  refine lv_aload_n hx hb dX10_went_0 rfl (lv_at hl 0 rfl) ?_
  refine lv_iload_n hx hb dX10_went_1 rfl (lv_at hl 1 rfl) ?_
  refine z_callVi (k := 0) (As := [.int (pa0)]) (rest := []) hx hb hml hown ht (xk_X10_isThing l D q cA F _ _ _ hI (pa0)) hw_3_87 hmX10_isThing ⟨rfl, rfl⟩ (na := 1) rfl (by decide +kernel) (by decide) (by decide) rfl rfl hK hP hD hS hA hl.1 rfl (Nat.le_of_ble_eq_true rfl) ⟨Nat.zero_le _, Nat.zero_le _⟩ dX10_went_2 (fun r_1 I_1 R_1 J_1 H locs hp_1 hP hD hS _ _ => ?_)
  rcases hp_1 with ⟨rfl, hu_1, f0_1⟩ | ⟨rfl, hu_1⟩
  · cases hu_1
    refine lv_if_eq (tgt := 20) hx hb dX10_went_5 (by decide) (fun c_0 => absurd c_0 (zD_ne zk_1 zk_z (by decide))) (fun _ => ?_)
    refine lv_aload_n hx hb dX10_went_8 rfl (lv_at hl 0 rfl) ?_
    refine z_get hx hb ht hown hK hP ziX10 rfl 0 (by decide) 4 (by decide) hw_2_97 rfl (v := .ref (q 15)) rfl dX10_went_9 ?_
    refine z_get hx hb ht hown hK hP ziX9 rfl 15 (by decide) 6 (by decide) hw_1_170 rfl (v := .ref (q 18)) rfl dX10_went_12 ?_
    refine lv_iload_n hx hb dX10_went_15 rfl (lv_at hl 1 rfl) ?_
    refine z_iald hx hb hK hP 18 (by decide) 12 rfl rfl (zR_vin f0_1 (by decide)) dX10_went_16 ?_
    refine z_eqi (y := R 18 (pa0).toNatClampNeg) rfl ?_
    have f_2 : zR 0 48 (R 18 (pa0).toNatClampNeg) := xR hI 18 (pa0).toNatClampNeg
    refine lv_goto (tgt := 22) hx hb dX10_went_17 (by decide) ?_
    exact z_iret (v := R 18 (pa0).toNatClampNeg) hx hb hr hlocks hP hD hS dX10_went_22 ⟨(zR_w f_2 (by decide)), rfl⟩
  · cases hu_1
    refine lv_if_eq (tgt := 20) hx hb dX10_went_5 (by decide) (fun _ => ?_) (fun c_0 => absurd (zD_eq zk_0 zk_z) c_0)
    refine lv_bipush (v := (-2)) hx hb dX10_went_20 (by decide +kernel) ?_
    exact z_iret (v := (-2)) hx hb hr hlocks hP hD hS dX10_went_22 ⟨(zR_w zk_m2 (by decide)), rfl⟩
set_option maxHeartbeats 4000000 in
set_option maxRecDepth 100000 in
theorem xk_X9_inReachOf (l : Launch) (D : va_G) (q : Nat → Nat) (cA : Nat → ClassId) (F : Nat → Nat → Int32) (I R : Nat → Nat → Int32) (J : Nat → Nat → Int64) (hI : xInv F (I, R, J)) (pa0 : Int32) (hpa0 : zR 0 4 pa0) : zMi l D vwCl (zXtys cA) 81 q (zXd q cA) yX9_inReachOf cX9_inReachOf 5 (some .int) ({ frames := 1, cells := 0, slots := 0, locals := 21 } : Room) [.ref (q 15), .int (pa0)] (I, R, J) (fun r u => zR 0 63 r ∧ u = (I, R, J)) := by
  intro sz
  refine z_body (by decide +kernel) (Nat.le_of_ble_eq_true rfl) (fun p e s m below meth c ls hx hb hml hr ht hown hlocks hsz hK hP hD hS hl => ?_)
  have hA : ∀ a, s.heap.size ≤ a → zA 81 q sz a := fun a h => Or.inr (hsz ▸ h)
  have hl : lv_has ls 5 [(0, .ref (q 15)), (1, .int (pa0))] := hl
  refine lv_iconst (v := nI 0) hx hb dX9_inReachOf_0 (by decide +kernel) ?_
  refine lv_istore_n (lv' := [(2, .int (nI 0)), (0, .ref (q 15)), (1, .int (pa0))]) hx hb dX9_inReachOf_1 rfl hl (by decide) rfl (fun ls hl => ?_)
  refine lv_iconst (v := nI 0) hx hb dX9_inReachOf_2 (by decide +kernel) ?_
  refine lv_istore_n (lv' := [(3, .int (nI 0)), (2, .int (nI 0)), (0, .ref (q 15)), (1, .int (pa0))]) hx hb dX9_inReachOf_3 rfl hl (by decide) rfl (fun ls hl => ?_)
  have loop_64 : ∀ N : Nat, ∀ x_62 : Int32, zR 0 63 x_62 → ∀ x_63 : Int32, zR 0 6 x_63 → (2147483648 - (x_63).toInt).toNat < N → ∀ (H : Heap) (locs : List Loc), va_P D vwCl (zw 81 q (zXd q cA) I R J) H → va_D (zA 81 q sz) (zw 81 q (zXd q cA) I R J) → va_S (zA 81 q sz) s.heap H locs → ∀ ls : Array Slot, lv_has ls 5 [(0, .ref (q 15)), (1, .int (pa0)), (2, .int (x_62)), (3, .int (x_63))] → W p l e ({ frames := 1, cells := 0, slots := 0, locals := 21 } : Room) s m ([.ref (q 15), .int (pa0)] : List Value).toArray below meth c H locs 0 0 (MQ below (va_Qi (fun r u => zR 0 63 r ∧ u = (I, R, J)) (zB D vwCl 81 q (zXd q cA) sz) (zA 81 q sz)) ([.ref (q 15), .int (pa0)] : List Value).toArray s 0 0 (zA 81 q sz)) (F0 m 4 ls []) := by
    intro N
    induction N with
    | zero => intro x_62 hx_62 x_63 hx_63 hN; exact absurd hN (Nat.not_lt_zero _)
    | succ N ih_66 =>
      intro x_62 hx_62 x_63 hx_63 hN_65 H locs hP hD hS ls hl
      refine lv_iload_n hx hb dX9_inReachOf_4 rfl (lv_at hl 3 rfl) ?_
      refine lv_aload_n hx hb dX9_inReachOf_5 rfl (lv_at hl 0 rfl) ?_
      refine z_get hx hb ht hown hK hP ziX9 rfl 15 (by decide) 0 (by decide) hw_1_154 rfl (v := .ref (q 3)) rfl dX9_inReachOf_6 ?_
      refine z_get hx hb ht hown hK hP ziX2 rfl 3 (by decide) 5 (by decide) hw_1_92 rfl (v := .int (I 3 5)) rfl dX9_inReachOf_9 ?_
      have f_67 : zR 0 6 (I 3 5) := xI hI 3 5
      refine lv_icmp_ge (tgt := 54) hx hb dX9_inReachOf_12 (by decide) (fun c_68 => ?_) (fun c_68 => ?_)
      · have t_c_68 := z_leT c_68
        refine lv_iload_n hx hb dX9_inReachOf_54 rfl (lv_at hl 2 rfl) ?_
        exact z_iret (v := x_62) hx hb hr hlocks hP hD hS dX9_inReachOf_55 ⟨hx_62, rfl⟩
      · have t_c_68 := z_leF c_68
        have f_69 : zR 0 5 (x_63) := zR_ltx t_c_68 hx_63 f_67 (by decide)
        have f_70 : zR 1 6 (I 3 5) := zR_lty t_c_68 hx_63 f_67 (by decide)
        refine lv_aload_n hx hb dX9_inReachOf_15 rfl (lv_at hl 0 rfl) ?_
        refine z_get hx hb ht hown hK hP ziX9 rfl 15 (by decide) 5 (by decide) hw_1_166 rfl (v := .ref (q 17)) rfl dX9_inReachOf_16 ?_
        refine lv_iload_n hx hb dX9_inReachOf_19 rfl (lv_at hl 3 rfl) ?_
        refine z_iald hx hb hK hP 17 (by decide) 11 rfl rfl (zR_vin f_69 (by decide)) dX9_inReachOf_20 ?_
        refine z_eqi (y := R 17 (x_63).toNatClampNeg) rfl ?_
        have f_71 : zR 0 4 (R 17 (x_63).toNatClampNeg) := xR hI 17 (x_63).toNatClampNeg
        refine lv_istore (lv' := [(4, .int (R 17 (x_63).toNatClampNeg)), (0, .ref (q 15)), (1, .int (pa0)), (2, .int (x_62)), (3, .int (x_63))]) hx hb dX9_inReachOf_21 hl (by decide) rfl (fun ls hl => ?_)
        refine lv_iload_n hx hb dX9_inReachOf_23 rfl (lv_at hl 3 rfl) ?_
        refine lv_iload hx hb dX9_inReachOf_24 (lv_at hl 0 rfl) ?_
        refine lv_iload_n hx hb dX9_inReachOf_26 rfl (lv_at hl 2 rfl) ?_
        have t_76 : ∀ x_75 : Int32, zR 0 32 x_75 → ∀ (H : Heap) (locs : List Loc), va_P D vwCl (zw 81 q (zXd q cA) I R J) H → va_D (zA 81 q sz) (zw 81 q (zXd q cA) I R J) → va_S (zA 81 q sz) s.heap H locs → ∀ ls : Array Slot, lv_has ls 5 [(0, .ref (q 15)), (1, .int (pa0)), (2, .int (x_62)), (3, .int (x_63)), (4, .int (R 17 (x_63).toNatClampNeg))] → W p l e ({ frames := 1, cells := 0, slots := 0, locals := 21 } : Room) s m ([.ref (q 15), .int (pa0)] : List Value).toArray below meth c H locs 0 0 (MQ below (va_Qi (fun r u => zR 0 63 r ∧ u = (I, R, J)) (zB D vwCl 81 q (zXd q cA) sz) (zA 81 q sz)) ([.ref (q 15), .int (pa0)] : List Value).toArray s 0 0 (zA 81 q sz)) (F0 m 46 ls [.int (x_75), .int (x_62)]) := by
          intro x_75 hx_75 H locs hP hD hS ls hl
          refine lv_ior hx hb dX9_inReachOf_46 ?_
          refine z_rng (a := 0) (b := 63) (zR_or 6 hx_62 hx_75 (by decide)) (fun v_77 hv_77 => ?_)
          refine lv_istore_n (lv' := [(2, .int (v_77)), (0, .ref (q 15)), (1, .int (pa0)), (3, .int (x_63)), (4, .int (R 17 (x_63).toNatClampNeg))]) hx hb dX9_inReachOf_47 rfl hl (by decide) rfl (fun ls hl => ?_)
          obtain ⟨v_78, ev_78⟩ : ∃ y : Int32, y = x_63 + nI 1 := ⟨_, rfl⟩
          have hv_78 : zR 1 6 v_78 := ev_78 ▸ zR_add f_69 zk_1 (by decide)
          have mv_78 : v_78.toInt = (x_63).toInt + 1 := by rw [ev_78, zR_addE f_69 zk_1 (by decide)]; rfl
          refine lv_iinc (v := v_78) (lv' := [(3, .int (v_78)), (2, .int (v_77)), (0, .ref (q 15)), (1, .int (pa0)), (4, .int (R 17 (x_63).toNatClampNeg))]) hx hb dX9_inReachOf_48 hl (k := 3) rfl (ev_78 ▸ rfl) (by decide) rfl (fun ls hl => ?_)
          refine lv_goto (tgt := 4) hx hb dX9_inReachOf_51 (by decide) ?_
          exact ih_66 (v_77) hv_77 (v_78) (zR_w hv_78 (by decide)) (z2_up mv_78 (by decide) hN_65) _ _ hP hD hS _ (lv_sub hl [2, 3, 1, 0] rfl)
        refine lv_icmp_eq (tgt := 45) hx hb dX9_inReachOf_27 (by decide) (fun c_72 => ?_) (fun c_72 => ?_)
        · have t_c_72 := z_eqT c_72
          refine lv_iconst (v := nI 0) hx hb dX9_inReachOf_45 (by decide +kernel) ?_
          exact t_76 (nI 0) (zR_w zk_0 (by decide)) _ _ hP hD hS _ (lv_sub hl [1, 2, 3, 4, 0] rfl)
        · have t_c_72 := z_eqF c_72
          refine lv_aload_n hx hb dX9_inReachOf_30 rfl (lv_at hl 1 rfl) ?_
          refine lv_iload hx hb dX9_inReachOf_31 (lv_at hl 0 rfl) ?_
          refine z_callVi (k := 15) (As := [.int (R 17 (x_63).toNatClampNeg)]) (rest := [.int (x_62)]) hx hb hml hown ht (xk_X9_isLocked l D q cA F _ _ _ hI (R 17 (x_63).toNatClampNeg) f_71) hw_3_152 hmX9_isLocked ⟨rfl, rfl⟩ (na := 1) rfl (by decide +kernel) (by decide) (by decide) rfl rfl hK hP hD hS hA hl.1 rfl (Nat.le_of_ble_eq_true rfl) ⟨Nat.zero_le _, Nat.zero_le _⟩ dX9_inReachOf_33 (fun r_79 I_79 R_79 J_79 H locs hp_79 hP hD hS _ _ => ?_)
          rcases hp_79 with ⟨rfl, hu_79⟩ | ⟨rfl, hu_79⟩
          · cases hu_79
            refine lv_if_ne (tgt := 45) hx hb dX9_inReachOf_36 (by decide) (fun _ => ?_) (fun c_0 => absurd c_0 (zD_ne zk_1 zk_z (by decide)))
            refine lv_iconst (v := nI 0) hx hb dX9_inReachOf_45 (by decide +kernel) ?_
            exact t_76 (nI 0) (zR_w zk_0 (by decide)) _ _ hP hD hS _ (lv_sub hl [1, 2, 3, 4, 0] rfl)
          · cases hu_79
            refine lv_if_ne (tgt := 45) hx hb dX9_inReachOf_36 (by decide) (fun c_0 => absurd (zD_eq zk_0 zk_z) c_0) (fun _ => ?_)
            refine lv_iconst (v := nI 1) hx hb dX9_inReachOf_39 (by decide +kernel) ?_
            refine lv_iload_n hx hb dX9_inReachOf_40 rfl (lv_at hl 4 rfl) ?_
            refine lv_ishl hx hb dX9_inReachOf_41 ?_
            refine z_rng (a := 1) (b := 32) (zR_shl1 5 f_69 (by decide)) (fun v_80 hv_80 => ?_)
            refine lv_goto (tgt := 46) hx hb dX9_inReachOf_42 (by decide) ?_
            exact t_76 (v_80) (zR_w hv_80 (by decide)) _ _ hP hD hS _ (lv_sub hl [1, 2, 3, 4, 0] rfl)
  exact loop_64 _ (nI 0) (zR_w zk_0 (by decide)) (nI 0) (zR_w zk_0 (by decide)) (Nat.lt_succ_self _) _ _ hP hD hS _ (lv_sub hl [2, 3, 1, 0] rfl)
set_option maxHeartbeats 4000000 in
set_option maxRecDepth 100000 in
theorem xk_X10_lies (l : Launch) (D : va_G) (q : Nat → Nat) (cA : Nat → ClassId) (F : Nat → Nat → Int32) (I R : Nat → Nat → Int32) (J : Nat → Nat → Int64) (hI : xInv F (I, R, J)) (pa0 : Int32) : zMi l D vwCl (zXtys cA) 81 q (zXd q cA) yX10_lies cX10_lies 2 (some .int) ({ frames := 2, cells := 0, slots := 0, locals := 45 } : Room) [.ref (q 0), .int (pa0)] (I, R, J) (fun r u => zR (-2) 63 r ∧ u = (I, R, J)) := by
  intro sz
  refine z_body (by decide +kernel) (Nat.le_of_ble_eq_true rfl) (fun p e s m below meth c ls hx hb hml hr ht hown hlocks hsz hK hP hD hS hl => ?_)
  have hA : ∀ a, s.heap.size ≤ a → zA 81 q sz a := fun a h => Or.inr (hsz ▸ h)
  have hl : lv_has ls 2 [(0, .ref (q 0)), (1, .int (pa0))] := hl
  refine lv_aload_n hx hb dX10_lies_0 rfl (lv_at hl 0 rfl) ?_
  refine lv_iload_n hx hb dX10_lies_1 rfl (lv_at hl 1 rfl) ?_
  refine z_callVi (k := 0) (As := [.int (pa0)]) (rest := []) hx hb hml hown ht (xk_X10_isHouse l D q cA F _ _ _ hI (pa0)) hw_3_59 hmX10_isHouse ⟨rfl, rfl⟩ (na := 1) rfl (by decide +kernel) (by decide) (by decide) rfl rfl hK hP hD hS hA hl.1 rfl (Nat.le_of_ble_eq_true rfl) ⟨Nat.zero_le _, Nat.zero_le _⟩ dX10_lies_2 (fun r_1 I_1 R_1 J_1 H locs hp_1 hP hD hS _ _ => ?_)
  rcases hp_1 with ⟨rfl, hu_1, f0_1⟩ | ⟨rfl, hu_1⟩
  · cases hu_1
    refine lv_if_eq (tgt := 19) hx hb dX10_lies_5 (by decide) (fun c_0 => absurd c_0 (zD_ne zk_1 zk_z (by decide))) (fun _ => ?_)
    refine lv_aload_n hx hb dX10_lies_8 rfl (lv_at hl 0 rfl) ?_
    refine z_get hx hb ht hown hK hP ziX10 rfl 0 (by decide) 4 (by decide) hw_2_97 rfl (v := .ref (q 15)) rfl dX10_lies_9 ?_
    refine lv_iload_n hx hb dX10_lies_12 rfl (lv_at hl 1 rfl) ?_
    refine z_callVi (k := 15) (As := [.int (pa0)]) (rest := []) hx hb hml hown ht (xk_X9_inReachOf l D q cA F _ _ _ hI (pa0) f0_1) hw_4_124 hmX9_inReachOf ⟨rfl, rfl⟩ (na := 1) rfl (by decide +kernel) (by decide) (by decide) rfl rfl hK hP hD hS hA hl.1 rfl (Nat.le_of_ble_eq_true rfl) ⟨Nat.zero_le _, Nat.zero_le _⟩ dX10_lies_13 (fun r_2 I_2 R_2 J_2 H locs hp_2 hP hD hS _ _ => ?_)
    obtain ⟨hr_2, hu_2⟩ := hp_2
    cases hu_2
    refine lv_goto (tgt := 21) hx hb dX10_lies_16 (by decide) ?_
    exact z_iret (v := r_2) hx hb hr hlocks hP hD hS dX10_lies_21 ⟨(zR_w hr_2 (by decide)), rfl⟩
  · cases hu_1
    refine lv_if_eq (tgt := 19) hx hb dX10_lies_5 (by decide) (fun _ => ?_) (fun c_0 => absurd (zD_eq zk_0 zk_z) c_0)
    refine lv_bipush (v := (-2)) hx hb dX10_lies_19 (by decide +kernel) ?_
    exact z_iret (v := (-2)) hx hb hr hlocks hP hD hS dX10_lies_21 ⟨(zR_w zk_m2 (by decide)), rfl⟩
set_option maxHeartbeats 4000000 in
set_option maxRecDepth 100000 in
theorem xk_X10_poorest (l : Launch) (D : va_G) (q : Nat → Nat) (cA : Nat → ClassId) (F : Nat → Nat → Int32) (I R : Nat → Nat → Int32) (J : Nat → Nat → Int64) (hI : xInv F (I, R, J))  : zMi l D vwCl (zXtys cA) 81 q (zXd q cA) yX10_poorest cX10_poorest 5 (some .int) ({ frames := 3, cells := 0, slots := 0, locals := 67 } : Room) [.ref (q 0)] (I, R, J) (fun r u => zR (-2) 4 r ∧ u = (I, R, J)) := by
  intro sz
  refine z_body (by decide +kernel) (Nat.le_of_ble_eq_true rfl) (fun p e s m below meth c ls hx hb hml hr ht hown hlocks hsz hK hP hD hS hl => ?_)
  have hA : ∀ a, s.heap.size ≤ a → zA 81 q sz a := fun a h => Or.inr (hsz ▸ h)
  have hl : lv_has ls 5 [(0, .ref (q 0))] := hl
  refine lv_aload_n hx hb dX10_poorest_0 rfl (lv_at hl 0 rfl) ?_
  refine z_callVi (k := 0) (As := []) (rest := []) hx hb hml hown ht (xk_X10_hasCity l D q cA F _ _ _ hI ) hw_4_0 hmX10_hasCity ⟨rfl, rfl⟩ (na := 0) rfl (by decide +kernel) (by decide) (by decide) rfl rfl hK hP hD hS hA hl.1 rfl (Nat.le_of_ble_eq_true rfl) ⟨Nat.zero_le _, Nat.zero_le _⟩ dX10_poorest_1 (fun r_1 I_1 R_1 J_1 H locs hp_1 hP hD hS _ _ => ?_)
  rcases hp_1 with ⟨rfl, hu_1⟩ | ⟨rfl, hu_1⟩
  · cases hu_1
    refine lv_if_ne (tgt := 10) hx hb dX10_poorest_4 (by decide) (fun _ => ?_) (fun c_0 => absurd c_0 (zD_ne zk_1 zk_z (by decide)))
    refine lv_iconst (v := (-1)) hx hb dX10_poorest_10 (by decide +kernel) ?_
    refine lv_istore_n (lv' := [(1, .int ((-1))), (0, .ref (q 0))]) hx hb dX10_poorest_11 rfl hl (by decide) rfl (fun ls hl => ?_)
    refine lv_iconst (v := nI 0) hx hb dX10_poorest_12 (by decide +kernel) ?_
    refine lv_istore_n (lv' := [(2, .int (nI 0)), (1, .int ((-1))), (0, .ref (q 0))]) hx hb dX10_poorest_13 rfl hl (by decide) rfl (fun ls hl => ?_)
    refine lv_iconst (v := nI 0) hx hb dX10_poorest_14 (by decide +kernel) ?_
    refine lv_istore_n (lv' := [(3, .int (nI 0)), (2, .int (nI 0)), (1, .int ((-1))), (0, .ref (q 0))]) hx hb dX10_poorest_15 rfl hl (by decide) rfl (fun ls hl => ?_)
    have loop_78 : ∀ N : Nat, ∀ x_75 : Int32, zR (-1) 4 x_75 → ∀ x_76 : Int32, ∀ x_77 : Int32, zR 0 5 x_77 → (2147483648 - (x_77).toInt).toNat < N → ∀ (H : Heap) (locs : List Loc), va_P D vwCl (zw 81 q (zXd q cA) I R J) H → va_D (zA 81 q sz) (zw 81 q (zXd q cA) I R J) → va_S (zA 81 q sz) s.heap H locs → ∀ ls : Array Slot, lv_has ls 5 [(0, .ref (q 0)), (1, .int (x_75)), (2, .int (x_76)), (3, .int (x_77))] → W p l e ({ frames := 3, cells := 0, slots := 0, locals := 67 } : Room) s m ([.ref (q 0)] : List Value).toArray below meth c H locs 0 0 (MQ below (va_Qi (fun r u => zR (-2) 4 r ∧ u = (I, R, J)) (zB D vwCl 81 q (zXd q cA) sz) (zA 81 q sz)) ([.ref (q 0)] : List Value).toArray s 0 0 (zA 81 q sz)) (F0 m 16 ls []) := by
      intro N
      induction N with
      | zero => intro x_75 hx_75 x_76 x_77 hx_77 hN; exact absurd hN (Nat.not_lt_zero _)
      | succ N ih_80 =>
        intro x_75 hx_75 x_76 x_77 hx_77 hN_79 H locs hP hD hS ls hl
        refine lv_iload_n hx hb dX10_poorest_16 rfl (lv_at hl 3 rfl) ?_
        refine lv_aload_n hx hb dX10_poorest_17 rfl (lv_at hl 0 rfl) ?_
        refine z_get hx hb ht hown hK hP ziX10 rfl 0 (by decide) 1 (by decide) hw_2_94 rfl (v := .ref (q 3)) rfl dX10_poorest_18 ?_
        refine z_get hx hb ht hown hK hP ziX2 rfl 3 (by decide) 4 (by decide) hw_1_85 rfl (v := .int (I 3 4)) rfl dX10_poorest_21 ?_
        have f_81 : zR 0 5 (I 3 4) := xI hI 3 4
        refine lv_icmp_ge (tgt := 59) hx hb dX10_poorest_24 (by decide) (fun c_82 => ?_) (fun c_82 => ?_)
        · have t_c_82 := z_leT c_82
          refine lv_iload_n hx hb dX10_poorest_59 rfl (lv_at hl 1 rfl) ?_
          exact z_iret (v := x_75) hx hb hr hlocks hP hD hS dX10_poorest_60 ⟨(zR_w hx_75 (by decide)), rfl⟩
        · have t_c_82 := z_leF c_82
          have f_83 : zR 0 4 (x_77) := zR_ltx t_c_82 hx_77 f_81 (by decide)
          have f_84 : zR 1 5 (I 3 4) := zR_lty t_c_82 hx_77 f_81 (by decide)
          refine lv_aload_n hx hb dX10_poorest_27 rfl (lv_at hl 0 rfl) ?_
          refine z_get hx hb ht hown hK hP ziX10 rfl 0 (by decide) 4 (by decide) hw_2_97 rfl (v := .ref (q 15)) rfl dX10_poorest_28 ?_
          refine lv_iload_n hx hb dX10_poorest_31 rfl (lv_at hl 3 rfl) ?_
          refine z_callVi (k := 15) (As := [.int (x_77)]) (rest := []) hx hb hml hown ht (xk_X9_netOf l D q cA F _ _ _ hI (x_77) f_83) hw_3_128 hmX9_netOf ⟨rfl, rfl⟩ (na := 1) rfl (by decide +kernel) (by decide) (by decide) rfl rfl hK hP hD hS hA hl.1 rfl (Nat.le_of_ble_eq_true rfl) ⟨Nat.zero_le _, Nat.zero_le _⟩ dX10_poorest_32 (fun r_85 I_85 R_85 J_85 H locs hp_85 hP hD hS _ _ => ?_)
          cases hp_85
          refine lv_istore (lv' := [(4, .int (r_85)), (0, .ref (q 0)), (1, .int (x_75)), (2, .int (x_76)), (3, .int (x_77))]) hx hb dX10_poorest_35 hl (by decide) rfl (fun ls hl => ?_)
          refine lv_iload_n hx hb dX10_poorest_37 rfl (lv_at hl 2 rfl) ?_
          refine lv_iconst (v := (-1)) hx hb dX10_poorest_38 (by decide +kernel) ?_
          have t_94 : ∀ x_92 : Int32, zR 0 4 x_92 → ∀ x_93 : Int32, ∀ (H : Heap) (locs : List Loc), va_P D vwCl (zw 81 q (zXd q cA) I R J) H → va_D (zA 81 q sz) (zw 81 q (zXd q cA) I R J) → va_S (zA 81 q sz) s.heap H locs → ∀ ls : Array Slot, lv_has ls 5 [(0, .ref (q 0)), (1, .int (x_92)), (2, .int (x_93)), (3, .int (x_77)), (4, .int (r_85))] → W p l e ({ frames := 3, cells := 0, slots := 0, locals := 67 } : Room) s m ([.ref (q 0)] : List Value).toArray below meth c H locs 0 0 (MQ below (va_Qi (fun r u => zR (-2) 4 r ∧ u = (I, R, J)) (zB D vwCl 81 q (zXd q cA) sz) (zA 81 q sz)) ([.ref (q 0)] : List Value).toArray s 0 0 (zA 81 q sz)) (F0 m 53 ls []) := by
            intro x_92 hx_92 x_93 H locs hP hD hS ls hl
            obtain ⟨v_95, ev_95⟩ : ∃ y : Int32, y = x_77 + nI 1 := ⟨_, rfl⟩
            have hv_95 : zR 1 5 v_95 := ev_95 ▸ zR_add f_83 zk_1 (by decide)
            have mv_95 : v_95.toInt = (x_77).toInt + 1 := by rw [ev_95, zR_addE f_83 zk_1 (by decide)]; rfl
            refine lv_iinc (v := v_95) (lv' := [(3, .int (v_95)), (0, .ref (q 0)), (1, .int (x_92)), (2, .int (x_93)), (4, .int (r_85))]) hx hb dX10_poorest_53 hl (k := 3) rfl (ev_95 ▸ rfl) (by decide) rfl (fun ls hl => ?_)
            refine lv_goto (tgt := 16) hx hb dX10_poorest_56 (by decide) ?_
            exact ih_80 (x_92) (zR_w hx_92 (by decide)) (x_93) (v_95) (zR_w hv_95 (by decide)) (z2_up mv_95 (by decide) hN_79) _ _ hP hD hS _ (lv_sub hl [1, 2, 3, 0] rfl)
          refine lv_icmp_eq (tgt := 48) hx hb dX10_poorest_39 (by decide) (fun c_86 => ?_) (fun c_86 => ?_)
          · have t_c_86 := z_eqT c_86
            have f_96 : zR (-1) (-1) (x_75) := zR_eqx t_c_86 zk_m1
            refine lv_iload_n hx hb dX10_poorest_48 rfl (lv_at hl 4 rfl) ?_
            refine lv_istore_n (lv' := [(1, .int (x_77)), (4, .int (r_85)), (0, .ref (q 0)), (2, .int (x_76)), (3, .int (x_77))]) hx hb dX10_poorest_49 rfl hl (by decide) rfl (fun ls hl => ?_)
            refine lv_iload hx hb dX10_poorest_50 (lv_at hl 1 rfl) ?_
            refine lv_istore_n (lv' := [(2, .int (r_85)), (1, .int (x_77)), (4, .int (r_85)), (0, .ref (q 0)), (3, .int (x_77))]) hx hb dX10_poorest_52 rfl hl (by decide) rfl (fun ls hl => ?_)
            exact t_94 (x_77) f_83 (r_85) _ _ hP hD hS _ (lv_sub hl [3, 1, 0, 4, 2] rfl)
          · have t_c_86 := z_eqF c_86
            have f_97 : zR 0 4 (x_75) := zR_nex t_c_86 hx_75 zk_m1 (by decide)
            refine lv_iload hx hb dX10_poorest_42 (lv_at hl 0 rfl) ?_
            refine lv_iload_n hx hb dX10_poorest_44 rfl (lv_at hl 3 rfl) ?_
            refine lv_icmp_ge (tgt := 53) hx hb dX10_poorest_45 (by decide) (fun c_98 => ?_) (fun c_98 => ?_)
            · have t_c_98 := z_leT c_98
              exact t_94 (x_75) f_97 (x_76) _ _ hP hD hS _ (lv_sub hl [1, 2, 3, 4, 0] rfl)
            · have t_c_98 := z_leF c_98
              have f_99 : zR (-2147483648) 2147483646 (r_85) := zR_ltx t_c_98 (zR_any (r_85)) (zR_any (x_76)) (by decide)
              have f_100 : zR (-2147483647) 2147483647 (x_76) := zR_lty t_c_98 (zR_any (r_85)) (zR_any (x_76)) (by decide)
              refine lv_iload_n hx hb dX10_poorest_48 rfl (lv_at hl 4 rfl) ?_
              refine lv_istore_n (lv' := [(1, .int (x_77)), (4, .int (r_85)), (0, .ref (q 0)), (2, .int (x_76)), (3, .int (x_77))]) hx hb dX10_poorest_49 rfl hl (by decide) rfl (fun ls hl => ?_)
              refine lv_iload hx hb dX10_poorest_50 (lv_at hl 1 rfl) ?_
              refine lv_istore_n (lv' := [(2, .int (r_85)), (1, .int (x_77)), (4, .int (r_85)), (0, .ref (q 0)), (3, .int (x_77))]) hx hb dX10_poorest_52 rfl hl (by decide) rfl (fun ls hl => ?_)
              exact t_94 (x_77) f_83 (r_85) _ _ hP hD hS _ (lv_sub hl [3, 1, 0, 4, 2] rfl)
    exact loop_78 _ ((-1)) (zR_w zk_m1 (by decide)) (nI 0) (nI 0) (zR_w zk_0 (by decide)) (Nat.lt_succ_self _) _ _ hP hD hS _ (lv_sub hl [3, 2, 1, 0] rfl)
  · cases hu_1
    refine lv_if_ne (tgt := 10) hx hb dX10_poorest_4 (by decide) (fun c_0 => absurd (zD_eq zk_0 zk_z) c_0) (fun _ => ?_)
    refine lv_bipush (v := (-2)) hx hb dX10_poorest_7 (by decide +kernel) ?_
    exact z_iret (v := (-2)) hx hb hr hlocks hP hD hS dX10_poorest_9 ⟨(zR_w zk_m2 (by decide)), rfl⟩
set_option maxHeartbeats 4000000 in
set_option maxRecDepth 100000 in
theorem xk_X9_dueOn (l : Launch) (D : va_G) (q : Nat → Nat) (cA : Nat → ClassId) (F : Nat → Nat → Int32) (I R : Nat → Nat → Int32) (J : Nat → Nat → Int64) (hI : xInv F (I, R, J)) (pa0 : Int32) (hpa0 : zR 0 60 pa0) : zMi l D vwCl (zXtys cA) 81 q (zXd q cA) yX9_dueOn cX9_dueOn 4 (some .int) ({ frames := 1, cells := 0, slots := 0, locals := 21 } : Room) [.ref (q 15), .int (pa0)] (I, R, J) (fun r u => zR 0 16777215 r ∧ u = (I, R, J)) := by
  intro sz
  refine z_body (by decide +kernel) (Nat.le_of_ble_eq_true rfl) (fun p e s m below meth c ls hx hb hml hr ht hown hlocks hsz hK hP hD hS hl => ?_)
  have hA : ∀ a, s.heap.size ≤ a → zA 81 q sz a := fun a h => Or.inr (hsz ▸ h)
  have hl : lv_has ls 4 [(0, .ref (q 15)), (1, .int (pa0))] := hl
  refine lv_iconst (v := nI 0) hx hb dX9_dueOn_0 (by decide +kernel) ?_
  refine lv_istore_n (lv' := [(2, .int (nI 0)), (0, .ref (q 15)), (1, .int (pa0))]) hx hb dX9_dueOn_1 rfl hl (by decide) rfl (fun ls hl => ?_)
  refine lv_iconst (v := nI 0) hx hb dX9_dueOn_2 (by decide +kernel) ?_
  refine lv_istore_n (lv' := [(3, .int (nI 0)), (2, .int (nI 0)), (0, .ref (q 15)), (1, .int (pa0))]) hx hb dX9_dueOn_3 rfl hl (by decide) rfl (fun ls hl => ?_)
  have loop_64 : ∀ N : Nat, ∀ x_62 : Int32, zR 0 16777215 x_62 → ∀ x_63 : Int32, zR 0 24 x_63 → (2147483648 - (x_63).toInt).toNat < N → ∀ (H : Heap) (locs : List Loc), va_P D vwCl (zw 81 q (zXd q cA) I R J) H → va_D (zA 81 q sz) (zw 81 q (zXd q cA) I R J) → va_S (zA 81 q sz) s.heap H locs → ∀ ls : Array Slot, lv_has ls 4 [(0, .ref (q 15)), (1, .int (pa0)), (2, .int (x_62)), (3, .int (x_63))] → W p l e ({ frames := 1, cells := 0, slots := 0, locals := 21 } : Room) s m ([.ref (q 15), .int (pa0)] : List Value).toArray below meth c H locs 0 0 (MQ below (va_Qi (fun r u => zR 0 16777215 r ∧ u = (I, R, J)) (zB D vwCl 81 q (zXd q cA) sz) (zA 81 q sz)) ([.ref (q 15), .int (pa0)] : List Value).toArray s 0 0 (zA 81 q sz)) (F0 m 4 ls []) := by
    intro N
    induction N with
    | zero => intro x_62 hx_62 x_63 hx_63 hN; exact absurd hN (Nat.not_lt_zero _)
    | succ N ih_66 =>
      intro x_62 hx_62 x_63 hx_63 hN_65 H locs hP hD hS ls hl
      refine lv_iload_n hx hb dX9_dueOn_4 rfl (lv_at hl 3 rfl) ?_
      refine lv_aload_n hx hb dX9_dueOn_5 rfl (lv_at hl 0 rfl) ?_
      refine z_get hx hb ht hown hK hP ziX9 rfl 15 (by decide) 2 (by decide) hw_1_159 rfl (v := .int (I 15 2)) rfl dX9_dueOn_6 ?_
      have f_67 : zR 0 24 (I 15 2) := xI hI 15 2
      refine lv_icmp_ge (tgt := 46) hx hb dX9_dueOn_9 (by decide) (fun c_68 => ?_) (fun c_68 => ?_)
      · have t_c_68 := z_leT c_68
        refine lv_iload_n hx hb dX9_dueOn_46 rfl (lv_at hl 2 rfl) ?_
        exact z_iret (v := x_62) hx hb hr hlocks hP hD hS dX9_dueOn_47 ⟨hx_62, rfl⟩
      · have t_c_68 := z_leF c_68
        have f_69 : zR 0 23 (x_63) := zR_ltx t_c_68 hx_63 f_67 (by decide)
        have f_70 : zR 1 24 (I 15 2) := zR_lty t_c_68 hx_63 f_67 (by decide)
        refine lv_iload_n hx hb dX9_dueOn_12 rfl (lv_at hl 2 rfl) ?_
        refine lv_aload_n hx hb dX9_dueOn_13 rfl (lv_at hl 0 rfl) ?_
        refine lv_iload_n hx hb dX9_dueOn_14 rfl (lv_at hl 3 rfl) ?_
        have t_76 : ∀ x_75 : Int32, zR 0 8388608 x_75 → ∀ (H : Heap) (locs : List Loc), va_P D vwCl (zw 81 q (zXd q cA) I R J) H → va_D (zA 81 q sz) (zw 81 q (zXd q cA) I R J) → va_S (zA 81 q sz) s.heap H locs → ∀ ls : Array Slot, lv_has ls 4 [(0, .ref (q 15)), (1, .int (pa0)), (2, .int (x_62)), (3, .int (x_63))] → W p l e ({ frames := 1, cells := 0, slots := 0, locals := 21 } : Room) s m ([.ref (q 15), .int (pa0)] : List Value).toArray below meth c H locs 0 0 (MQ below (va_Qi (fun r u => zR 0 16777215 r ∧ u = (I, R, J)) (zB D vwCl 81 q (zXd q cA) sz) (zA 81 q sz)) ([.ref (q 15), .int (pa0)] : List Value).toArray s 0 0 (zA 81 q sz)) (F0 m 38 ls [.int (x_75), .int (x_62)]) := by
          intro x_75 hx_75 H locs hP hD hS ls hl
          refine lv_ior hx hb dX9_dueOn_38 ?_
          refine z_rng (a := 0) (b := 16777215) (zR_or 24 hx_62 hx_75 (by decide)) (fun v_77 hv_77 => ?_)
          refine lv_istore_n (lv' := [(2, .int (v_77)), (0, .ref (q 15)), (1, .int (pa0)), (3, .int (x_63))]) hx hb dX9_dueOn_39 rfl hl (by decide) rfl (fun ls hl => ?_)
          obtain ⟨v_78, ev_78⟩ : ∃ y : Int32, y = x_63 + nI 1 := ⟨_, rfl⟩
          have hv_78 : zR 1 24 v_78 := ev_78 ▸ zR_add f_69 zk_1 (by decide)
          have mv_78 : v_78.toInt = (x_63).toInt + 1 := by rw [ev_78, zR_addE f_69 zk_1 (by decide)]; rfl
          refine lv_iinc (v := v_78) (lv' := [(3, .int (v_78)), (2, .int (v_77)), (0, .ref (q 15)), (1, .int (pa0))]) hx hb dX9_dueOn_40 hl (k := 3) rfl (ev_78 ▸ rfl) (by decide) rfl (fun ls hl => ?_)
          refine lv_goto (tgt := 4) hx hb dX9_dueOn_43 (by decide) ?_
          exact ih_66 (v_77) hv_77 (v_78) (zR_w hv_78 (by decide)) (z2_up mv_78 (by decide) hN_65) _ _ hP hD hS _ (lv_sub hl [2, 3, 1, 0] rfl)
        refine z_callVi (k := 15) (As := [.int (x_63)]) (rest := [.int (x_62)]) hx hb hml hown ht (xk_X9_isOpen_1 l D q cA F _ _ _ hI (x_63) f_69) hw_3_75 hmX9_isOpen ⟨rfl, rfl⟩ (na := 1) rfl (by decide +kernel) (by decide) (by decide) rfl rfl hK hP hD hS hA hl.1 rfl (Nat.le_of_ble_eq_true rfl) ⟨Nat.zero_le _, Nat.zero_le _⟩ dX9_dueOn_15 (fun r_71 I_71 R_71 J_71 H locs hp_71 hP hD hS _ _ => ?_)
        rcases hp_71 with ⟨rfl, hu_71⟩ | ⟨rfl, hu_71⟩
        · cases hu_71
          refine lv_if_eq (tgt := 37) hx hb dX9_dueOn_18 (by decide) (fun c_0 => absurd c_0 (zD_ne zk_1 zk_z (by decide))) (fun _ => ?_)
          refine lv_aload_n hx hb dX9_dueOn_21 rfl (lv_at hl 0 rfl) ?_
          refine z_get hx hb ht hown hK hP ziX9 rfl 15 (by decide) 10 (by decide) hw_1_182 rfl (v := .ref (q 22)) rfl dX9_dueOn_22 ?_
          refine lv_iload_n hx hb dX9_dueOn_25 rfl (lv_at hl 3 rfl) ?_
          refine z_iald hx hb hK hP 22 (by decide) 16 rfl rfl (zR_vin f_69 (by decide)) dX9_dueOn_26 ?_
          refine z_eqi (y := R 22 (x_63).toNatClampNeg) rfl ?_
          refine lv_iload_n hx hb dX9_dueOn_27 rfl (lv_at hl 1 rfl) ?_
          refine lv_icmp_ne (tgt := 37) hx hb dX9_dueOn_28 (by decide) (fun c_79 => ?_) (fun c_79 => ?_)
          · have t_c_79 := z_eqF c_79
            refine lv_iconst (v := nI 0) hx hb dX9_dueOn_37 (by decide +kernel) ?_
            exact t_76 (nI 0) (zR_w zk_0 (by decide)) _ _ hP hD hS _ (lv_sub hl [0, 1, 2, 3] rfl)
          · have t_c_79 := z_eqT c_79
            have f_80 : zR 0 60 (R 22 (x_63).toNatClampNeg) := zR_eqx t_c_79 hpa0
            refine lv_iconst (v := nI 1) hx hb dX9_dueOn_31 (by decide +kernel) ?_
            refine lv_iload_n hx hb dX9_dueOn_32 rfl (lv_at hl 3 rfl) ?_
            refine lv_ishl hx hb dX9_dueOn_33 ?_
            refine z_rng (a := 1) (b := 8388608) (zR_shl1 23 f_69 (by decide)) (fun v_81 hv_81 => ?_)
            refine lv_goto (tgt := 38) hx hb dX9_dueOn_34 (by decide) ?_
            exact t_76 (v_81) (zR_w hv_81 (by decide)) _ _ hP hD hS _ (lv_sub hl [0, 1, 2, 3] rfl)
        · cases hu_71
          refine lv_if_eq (tgt := 37) hx hb dX9_dueOn_18 (by decide) (fun _ => ?_) (fun c_0 => absurd (zD_eq zk_0 zk_z) c_0)
          refine lv_iconst (v := nI 0) hx hb dX9_dueOn_37 (by decide +kernel) ?_
          exact t_76 (nI 0) (zR_w zk_0 (by decide)) _ _ hP hD hS _ (lv_sub hl [0, 1, 2, 3] rfl)
  exact loop_64 _ (nI 0) (zR_w zk_0 (by decide)) (nI 0) (zR_w zk_0 (by decide)) (Nat.lt_succ_self _) _ _ hP hD hS _ (lv_sub hl [2, 3, 1, 0] rfl)
set_option maxHeartbeats 4000000 in
set_option maxRecDepth 100000 in
theorem xk_X10_due (l : Launch) (D : va_G) (q : Nat → Nat) (cA : Nat → ClassId) (F : Nat → Nat → Int32) (I R : Nat → Nat → Int32) (J : Nat → Nat → Int64) (hI : xInv F (I, R, J)) (pa0 : Int32) : zMi l D vwCl (zXtys cA) 81 q (zXd q cA) yX10_due cX10_due 2 (some .int) ({ frames := 2, cells := 0, slots := 0, locals := 44 } : Room) [.ref (q 0), .int (pa0)] (I, R, J) (fun r u => zR (-2) 16777215 r ∧ u = (I, R, J)) := by
  intro sz
  refine z_body (by decide +kernel) (Nat.le_of_ble_eq_true rfl) (fun p e s m below meth c ls hx hb hml hr ht hown hlocks hsz hK hP hD hS hl => ?_)
  have hA : ∀ a, s.heap.size ≤ a → zA 81 q sz a := fun a h => Or.inr (hsz ▸ h)
  have hl : lv_has ls 2 [(0, .ref (q 0)), (1, .int (pa0))] := hl
  refine lv_aload_n hx hb dX10_due_0 rfl (lv_at hl 0 rfl) ?_
  refine z_callVi (k := 0) (As := []) (rest := []) hx hb hml hown ht (xk_X10_hasCity l D q cA F _ _ _ hI ) hw_4_0 hmX10_hasCity ⟨rfl, rfl⟩ (na := 0) rfl (by decide +kernel) (by decide) (by decide) rfl rfl hK hP hD hS hA hl.1 rfl (Nat.le_of_ble_eq_true rfl) ⟨Nat.zero_le _, Nat.zero_le _⟩ dX10_due_1 (fun r_1 I_1 R_1 J_1 H locs hp_1 hP hD hS _ _ => ?_)
  rcases hp_1 with ⟨rfl, hu_1⟩ | ⟨rfl, hu_1⟩
  · cases hu_1
    refine lv_if_eq (tgt := 17) hx hb dX10_due_4 (by decide) (fun c_0 => absurd c_0 (zD_ne zk_1 zk_z (by decide))) (fun _ => ?_)
    refine lv_iload_n hx hb dX10_due_7 rfl (lv_at hl 1 rfl) ?_
    refine lv_if_lt (tgt := 17) hx hb dX10_due_8 (by decide) (fun c_2 => ?_) (fun c_2 => ?_)
    · have t_c_2 := z_ltT c_2
      have f_3 : zR (-2147483648) (-1) (pa0) := zR_ltx t_c_2 (zR_any (pa0)) zk_z (by decide)
      refine lv_bipush (v := (-2)) hx hb dX10_due_17 (by decide +kernel) ?_
      exact z_iret (v := (-2)) hx hb hr hlocks hP hD hS dX10_due_19 ⟨(zR_w zk_m2 (by decide)), rfl⟩
    · have t_c_2 := z_ltF c_2
      have f_4 : zR 0 2147483647 (pa0) := zR_ley t_c_2 zk_z (zR_any (pa0)) (by decide)
      refine lv_iload_n hx hb dX10_due_11 rfl (lv_at hl 1 rfl) ?_
      refine lv_bipush (v := nI 60) hx hb dX10_due_12 (by decide +kernel) ?_
      refine lv_icmp_le (tgt := 20) hx hb dX10_due_14 (by decide) (fun c_5 => ?_) (fun c_5 => ?_)
      · have t_c_5 := z_leT c_5
        have f_6 : zR 0 60 (pa0) := zR_lex t_c_5 f_4 zk_60 (by decide)
        refine lv_aload_n hx hb dX10_due_20 rfl (lv_at hl 0 rfl) ?_
        refine z_get hx hb ht hown hK hP ziX10 rfl 0 (by decide) 4 (by decide) hw_2_97 rfl (v := .ref (q 15)) rfl dX10_due_21 ?_
        refine lv_iload_n hx hb dX10_due_24 rfl (lv_at hl 1 rfl) ?_
        refine z_callVi (k := 15) (As := [.int (pa0)]) (rest := []) hx hb hml hown ht (xk_X9_dueOn l D q cA F _ _ _ hI (pa0) f_6) hw_4_136 hmX9_dueOn ⟨rfl, rfl⟩ (na := 1) rfl (by decide +kernel) (by decide) (by decide) rfl rfl hK hP hD hS hA hl.1 rfl (Nat.le_of_ble_eq_true rfl) ⟨Nat.zero_le _, Nat.zero_le _⟩ dX10_due_25 (fun r_7 I_7 R_7 J_7 H locs hp_7 hP hD hS _ _ => ?_)
        obtain ⟨hr_7, hu_7⟩ := hp_7
        cases hu_7
        exact z_iret (v := r_7) hx hb hr hlocks hP hD hS dX10_due_28 ⟨(zR_w hr_7 (by decide)), rfl⟩
      · have t_c_5 := z_leF c_5
        have f_8 : zR 61 2147483647 (pa0) := zR_lty t_c_5 zk_60 f_4 (by decide)
        refine lv_bipush (v := (-2)) hx hb dX10_due_17 (by decide +kernel) ?_
        exact z_iret (v := (-2)) hx hb hr hlocks hP hD hS dX10_due_19 ⟨(zR_w zk_m2 (by decide)), rfl⟩
  · cases hu_1
    refine lv_if_eq (tgt := 17) hx hb dX10_due_4 (by decide) (fun _ => ?_) (fun c_0 => absurd (zD_eq zk_0 zk_z) c_0)
    refine lv_bipush (v := (-2)) hx hb dX10_due_17 (by decide +kernel) ?_
    exact z_iret (v := (-2)) hx hb hr hlocks hP hD hS dX10_due_19 ⟨(zR_w zk_m2 (by decide)), rfl⟩
set_option maxHeartbeats 4000000 in
set_option maxRecDepth 100000 in
theorem xk_X10_monday (l : Launch) (D : va_G) (q : Nat → Nat) (cA : Nat → ClassId) (F : Nat → Nat → Int32) (I R : Nat → Nat → Int32) (J : Nat → Nat → Int64) (hI : xInv F (I, R, J))  : zMi l D vwCl (zXtys cA) 81 q (zXd q cA) yX10_monday cX10_monday 5 (some .int) ({ frames := 2, cells := 0, slots := 0, locals := 44 } : Room) [.ref (q 0)] (I, R, J) (fun r u => zR (-2) 60 r ∧ u = (I, R, J)) := by
  intro sz
  refine z_body (by decide +kernel) (Nat.le_of_ble_eq_true rfl) (fun p e s m below meth c ls hx hb hml hr ht hown hlocks hsz hK hP hD hS hl => ?_)
  have hA : ∀ a, s.heap.size ≤ a → zA 81 q sz a := fun a h => Or.inr (hsz ▸ h)
  have hl : lv_has ls 5 [(0, .ref (q 0))] := hl
  refine lv_aload_n hx hb dX10_monday_0 rfl (lv_at hl 0 rfl) ?_
  refine z_callVi (k := 0) (As := []) (rest := []) hx hb hml hown ht (xk_X10_hasCity l D q cA F _ _ _ hI ) hw_4_0 hmX10_hasCity ⟨rfl, rfl⟩ (na := 0) rfl (by decide +kernel) (by decide) (by decide) rfl rfl hK hP hD hS hA hl.1 rfl (Nat.le_of_ble_eq_true rfl) ⟨Nat.zero_le _, Nat.zero_le _⟩ dX10_monday_1 (fun r_1 I_1 R_1 J_1 H locs hp_1 hP hD hS _ _ => ?_)
  rcases hp_1 with ⟨rfl, hu_1⟩ | ⟨rfl, hu_1⟩
  · cases hu_1
    refine lv_if_ne (tgt := 10) hx hb dX10_monday_4 (by decide) (fun _ => ?_) (fun c_0 => absurd c_0 (zD_ne zk_1 zk_z (by decide)))
    refine lv_iconst (v := (-1)) hx hb dX10_monday_10 (by decide +kernel) ?_
    refine lv_istore_n (lv' := [(1, .int ((-1))), (0, .ref (q 0))]) hx hb dX10_monday_11 rfl hl (by decide) rfl (fun ls hl => ?_)
    refine lv_iconst (v := nI 0) hx hb dX10_monday_12 (by decide +kernel) ?_
    refine lv_istore_n (lv' := [(2, .int (nI 0)), (1, .int ((-1))), (0, .ref (q 0))]) hx hb dX10_monday_13 rfl hl (by decide) rfl (fun ls hl => ?_)
    refine lv_iconst (v := nI 0) hx hb dX10_monday_14 (by decide +kernel) ?_
    refine lv_istore_n (lv' := [(3, .int (nI 0)), (2, .int (nI 0)), (1, .int ((-1))), (0, .ref (q 0))]) hx hb dX10_monday_15 rfl hl (by decide) rfl (fun ls hl => ?_)
    have loop_65 : ∀ N : Nat, ∀ x_62 : Int32, zR (-1) 60 x_62 → ∀ x_63 : Int32, zR 0 63 x_63 → ∀ x_64 : Int32, zR 0 61 x_64 → (2147483648 - (x_64).toInt).toNat < N → ∀ (H : Heap) (locs : List Loc), va_P D vwCl (zw 81 q (zXd q cA) I R J) H → va_D (zA 81 q sz) (zw 81 q (zXd q cA) I R J) → va_S (zA 81 q sz) s.heap H locs → ∀ ls : Array Slot, lv_has ls 5 [(0, .ref (q 0)), (1, .int (x_62)), (2, .int (x_63)), (3, .int (x_64))] → W p l e ({ frames := 2, cells := 0, slots := 0, locals := 44 } : Room) s m ([.ref (q 0)] : List Value).toArray below meth c H locs 0 0 (MQ below (va_Qi (fun r u => zR (-2) 60 r ∧ u = (I, R, J)) (zB D vwCl 81 q (zXd q cA) sz) (zA 81 q sz)) ([.ref (q 0)] : List Value).toArray s 0 0 (zA 81 q sz)) (F0 m 16 ls []) := by
      intro N
      induction N with
      | zero => intro x_62 hx_62 x_63 hx_63 x_64 hx_64 hN; exact absurd hN (Nat.not_lt_zero _)
      | succ N ih_67 =>
        intro x_62 hx_62 x_63 hx_63 x_64 hx_64 hN_66 H locs hP hD hS ls hl
        refine lv_iload_n hx hb dX10_monday_16 rfl (lv_at hl 3 rfl) ?_
        refine lv_bipush (v := nI 60) hx hb dX10_monday_17 (by decide +kernel) ?_
        refine lv_icmp_gt (tgt := 52) hx hb dX10_monday_19 (by decide) (fun c_68 => ?_) (fun c_68 => ?_)
        · have t_c_68 := z_ltT c_68
          have f_69 : zR 61 61 (x_64) := zR_lty t_c_68 zk_60 hx_64 (by decide)
          refine lv_iload_n hx hb dX10_monday_52 rfl (lv_at hl 1 rfl) ?_
          exact z_iret (v := x_62) hx hb hr hlocks hP hD hS dX10_monday_53 ⟨(zR_w hx_62 (by decide)), rfl⟩
        · have t_c_68 := z_ltF c_68
          have f_70 : zR 0 60 (x_64) := zR_lex t_c_68 hx_64 zk_60 (by decide)
          refine lv_aload_n hx hb dX10_monday_22 rfl (lv_at hl 0 rfl) ?_
          refine z_get hx hb ht hown hK hP ziX10 rfl 0 (by decide) 4 (by decide) hw_2_97 rfl (v := .ref (q 15)) rfl dX10_monday_23 ?_
          refine lv_iload_n hx hb dX10_monday_26 rfl (lv_at hl 3 rfl) ?_
          refine z_callVi (k := 15) (As := [.int (x_64)]) (rest := []) hx hb hml hown ht (xk_X9_dueOn l D q cA F _ _ _ hI (x_64) f_70) hw_4_136 hmX9_dueOn ⟨rfl, rfl⟩ (na := 1) rfl (by decide +kernel) (by decide) (by decide) rfl rfl hK hP hD hS hA hl.1 rfl (Nat.le_of_ble_eq_true rfl) ⟨Nat.zero_le _, Nat.zero_le _⟩ dX10_monday_27 (fun r_71 I_71 R_71 J_71 H locs hp_71 hP hD hS _ _ => ?_)
          obtain ⟨hr_71, hu_71⟩ := hp_71
          cases hu_71
          refine z_callSi (As := [.int (r_71)]) (rest := []) hx hb hml hown ht (xk_J6_bitCount_0f7a4 l D q cA F _ _ _ hI (r_71)) hw_4_103 hmJ6_bitCount_0f7a4 ⟨rfl, rfl⟩ (na := 1) rfl (by decide +kernel) (by decide) hK hP hD hS hA hl.1 rfl (Nat.le_of_ble_eq_true rfl) ⟨Nat.zero_le _, Nat.zero_le _⟩ dX10_monday_30 (fun r_72 I_72 R_72 J_72 H locs hp_72 hP hD hS _ _ => ?_)
          obtain ⟨hr_72, hu_72⟩ := hp_72
          cases hu_72
          refine lv_istore (lv' := [(4, .int (r_72)), (0, .ref (q 0)), (1, .int (x_62)), (2, .int (x_63)), (3, .int (x_64))]) hx hb dX10_monday_33 hl (by decide) rfl (fun ls hl => ?_)
          refine lv_iload hx hb dX10_monday_35 (lv_at hl 0 rfl) ?_
          refine lv_iload_n hx hb dX10_monday_37 rfl (lv_at hl 3 rfl) ?_
          have t_78 : ∀ x_76 : Int32, zR (-1) 60 x_76 → ∀ x_77 : Int32, zR 0 63 x_77 → ∀ (H : Heap) (locs : List Loc), va_P D vwCl (zw 81 q (zXd q cA) I R J) H → va_D (zA 81 q sz) (zw 81 q (zXd q cA) I R J) → va_S (zA 81 q sz) s.heap H locs → ∀ ls : Array Slot, lv_has ls 5 [(0, .ref (q 0)), (1, .int (x_76)), (2, .int (x_77)), (3, .int (x_64)), (4, .int (r_72))] → W p l e ({ frames := 2, cells := 0, slots := 0, locals := 44 } : Room) s m ([.ref (q 0)] : List Value).toArray below meth c H locs 0 0 (MQ below (va_Qi (fun r u => zR (-2) 60 r ∧ u = (I, R, J)) (zB D vwCl 81 q (zXd q cA) sz) (zA 81 q sz)) ([.ref (q 0)] : List Value).toArray s 0 0 (zA 81 q sz)) (F0 m 46 ls []) := by
            intro x_76 hx_76 x_77 hx_77 H locs hP hD hS ls hl
            obtain ⟨v_79, ev_79⟩ : ∃ y : Int32, y = x_64 + nI 1 := ⟨_, rfl⟩
            have hv_79 : zR 1 61 v_79 := ev_79 ▸ zR_add f_70 zk_1 (by decide)
            have mv_79 : v_79.toInt = (x_64).toInt + 1 := by rw [ev_79, zR_addE f_70 zk_1 (by decide)]; rfl
            refine lv_iinc (v := v_79) (lv' := [(3, .int (v_79)), (0, .ref (q 0)), (1, .int (x_76)), (2, .int (x_77)), (4, .int (r_72))]) hx hb dX10_monday_46 hl (k := 3) rfl (ev_79 ▸ rfl) (by decide) rfl (fun ls hl => ?_)
            refine lv_goto (tgt := 16) hx hb dX10_monday_49 (by decide) ?_
            exact ih_67 (x_76) hx_76 (x_77) hx_77 (v_79) (zR_w hv_79 (by decide)) (z2_up mv_79 (by decide) hN_66) _ _ hP hD hS _ (lv_sub hl [1, 2, 3, 0] rfl)
          refine lv_icmp_le (tgt := 46) hx hb dX10_monday_38 (by decide) (fun c_73 => ?_) (fun c_73 => ?_)
          · have t_c_73 := z_leT c_73
            exact t_78 (x_62) hx_62 (x_63) hx_63 _ _ hP hD hS _ (lv_sub hl [1, 2, 3, 4, 0] rfl)
          · have t_c_73 := z_leF c_73
            have f_80 : zR 0 62 (x_63) := zR_ltx t_c_73 hx_63 hr_72 (by decide)
            have f_81 : zR 1 63 (r_72) := zR_lty t_c_73 hx_63 hr_72 (by decide)
            refine lv_iload hx hb dX10_monday_41 (lv_at hl 0 rfl) ?_
            refine lv_istore_n (lv' := [(2, .int (r_72)), (4, .int (r_72)), (0, .ref (q 0)), (1, .int (x_62)), (3, .int (x_64))]) hx hb dX10_monday_43 rfl hl (by decide) rfl (fun ls hl => ?_)
            refine lv_iload_n hx hb dX10_monday_44 rfl (lv_at hl 4 rfl) ?_
            refine lv_istore_n (lv' := [(1, .int (x_64)), (2, .int (r_72)), (4, .int (r_72)), (0, .ref (q 0)), (3, .int (x_64))]) hx hb dX10_monday_45 rfl hl (by decide) rfl (fun ls hl => ?_)
            exact t_78 (x_64) (zR_w f_70 (by decide)) (r_72) (zR_w f_81 (by decide)) _ _ hP hD hS _ (lv_sub hl [3, 0, 1, 4, 2] rfl)
    exact loop_65 _ ((-1)) (zR_w zk_m1 (by decide)) (nI 0) (zR_w zk_0 (by decide)) (nI 0) (zR_w zk_0 (by decide)) (Nat.lt_succ_self _) _ _ hP hD hS _ (lv_sub hl [3, 2, 1, 0] rfl)
  · cases hu_1
    refine lv_if_ne (tgt := 10) hx hb dX10_monday_4 (by decide) (fun c_0 => absurd (zD_eq zk_0 zk_z) c_0) (fun _ => ?_)
    refine lv_bipush (v := (-2)) hx hb dX10_monday_7 (by decide +kernel) ?_
    exact z_iret (v := (-2)) hx hb hr hlocks hP hD hS dX10_monday_9 ⟨(zR_w zk_m2 (by decide)), rfl⟩
set_option maxHeartbeats 4000000 in
set_option maxRecDepth 100000 in
theorem xk_X9_owedWithoutThing (l : Launch) (D : va_G) (q : Nat → Nat) (cA : Nat → ClassId) (F : Nat → Nat → Int32) (I R : Nat → Nat → Int32) (J : Nat → Nat → Int64) (hI : xInv F (I, R, J)) (pa0 : Int32) (hpa0 : zR 0 4 pa0) : zMi l D vwCl (zXtys cA) 81 q (zXd q cA) yX9_owedWithoutThing cX9_owedWithoutThing 4 (some .int) ({ frames := 1, cells := 0, slots := 0, locals := 21 } : Room) [.ref (q 15), .int (pa0)] (I, R, J) (fun _ u => u = (I, R, J)) := by
  intro sz
  refine z_body (by decide +kernel) (Nat.le_of_ble_eq_true rfl) (fun p e s m below meth c ls hx hb hml hr ht hown hlocks hsz hK hP hD hS hl => ?_)
  have hA : ∀ a, s.heap.size ≤ a → zA 81 q sz a := fun a h => Or.inr (hsz ▸ h)
  have hl : lv_has ls 4 [(0, .ref (q 15)), (1, .int (pa0))] := hl
  refine lv_iconst (v := nI 0) hx hb dX9_owedWithoutThing_0 (by decide +kernel) ?_
  refine lv_istore_n (lv' := [(2, .int (nI 0)), (0, .ref (q 15)), (1, .int (pa0))]) hx hb dX9_owedWithoutThing_1 rfl hl (by decide) rfl (fun ls hl => ?_)
  refine lv_iconst (v := nI 0) hx hb dX9_owedWithoutThing_2 (by decide +kernel) ?_
  refine lv_istore_n (lv' := [(3, .int (nI 0)), (2, .int (nI 0)), (0, .ref (q 15)), (1, .int (pa0))]) hx hb dX9_owedWithoutThing_3 rfl hl (by decide) rfl (fun ls hl => ?_)
  have loop_56 : ∀ N : Nat, ∀ x_54 : Int32, ∀ x_55 : Int32, zR 0 24 x_55 → (2147483648 - (x_55).toInt).toNat < N → ∀ (H : Heap) (locs : List Loc), va_P D vwCl (zw 81 q (zXd q cA) I R J) H → va_D (zA 81 q sz) (zw 81 q (zXd q cA) I R J) → va_S (zA 81 q sz) s.heap H locs → ∀ ls : Array Slot, lv_has ls 4 [(0, .ref (q 15)), (1, .int (pa0)), (2, .int (x_54)), (3, .int (x_55))] → W p l e ({ frames := 1, cells := 0, slots := 0, locals := 21 } : Room) s m ([.ref (q 15), .int (pa0)] : List Value).toArray below meth c H locs 0 0 (MQ below (va_Qi (fun _ u => u = (I, R, J)) (zB D vwCl 81 q (zXd q cA) sz) (zA 81 q sz)) ([.ref (q 15), .int (pa0)] : List Value).toArray s 0 0 (zA 81 q sz)) (F0 m 4 ls []) := by
    intro N
    induction N with
    | zero => intro x_54 x_55 hx_55 hN; exact absurd hN (Nat.not_lt_zero _)
    | succ N ih_58 =>
      intro x_54 x_55 hx_55 hN_57 H locs hP hD hS ls hl
      refine lv_iload_n hx hb dX9_owedWithoutThing_4 rfl (lv_at hl 3 rfl) ?_
      refine lv_aload_n hx hb dX9_owedWithoutThing_5 rfl (lv_at hl 0 rfl) ?_
      refine z_get hx hb ht hown hK hP ziX9 rfl 15 (by decide) 2 (by decide) hw_1_159 rfl (v := .int (I 15 2)) rfl dX9_owedWithoutThing_6 ?_
      have f_59 : zR 0 24 (I 15 2) := xI hI 15 2
      refine lv_icmp_ge (tgt := 52) hx hb dX9_owedWithoutThing_9 (by decide) (fun c_60 => ?_) (fun c_60 => ?_)
      · have t_c_60 := z_leT c_60
        refine lv_iload_n hx hb dX9_owedWithoutThing_52 rfl (lv_at hl 2 rfl) ?_
        exact z_iret (v := x_54) hx hb hr hlocks hP hD hS dX9_owedWithoutThing_53 rfl
      · have t_c_60 := z_leF c_60
        have f_61 : zR 0 23 (x_55) := zR_ltx t_c_60 hx_55 f_59 (by decide)
        have f_62 : zR 1 24 (I 15 2) := zR_lty t_c_60 hx_55 f_59 (by decide)
        refine lv_aload_n hx hb dX9_owedWithoutThing_12 rfl (lv_at hl 0 rfl) ?_
        refine lv_iload_n hx hb dX9_owedWithoutThing_13 rfl (lv_at hl 3 rfl) ?_
        have t_70 : ∀ x_69 : Int32, ∀ (H : Heap) (locs : List Loc), va_P D vwCl (zw 81 q (zXd q cA) I R J) H → va_D (zA 81 q sz) (zw 81 q (zXd q cA) I R J) → va_S (zA 81 q sz) s.heap H locs → ∀ ls : Array Slot, lv_has ls 4 [(0, .ref (q 15)), (1, .int (pa0)), (2, .int (x_69)), (3, .int (x_55))] → W p l e ({ frames := 1, cells := 0, slots := 0, locals := 21 } : Room) s m ([.ref (q 15), .int (pa0)] : List Value).toArray below meth c H locs 0 0 (MQ below (va_Qi (fun _ u => u = (I, R, J)) (zB D vwCl 81 q (zXd q cA) sz) (zA 81 q sz)) ([.ref (q 15), .int (pa0)] : List Value).toArray s 0 0 (zA 81 q sz)) (F0 m 46 ls []) := by
          intro x_69 H locs hP hD hS ls hl
          obtain ⟨v_71, ev_71⟩ : ∃ y : Int32, y = x_55 + nI 1 := ⟨_, rfl⟩
          have hv_71 : zR 1 24 v_71 := ev_71 ▸ zR_add f_61 zk_1 (by decide)
          have mv_71 : v_71.toInt = (x_55).toInt + 1 := by rw [ev_71, zR_addE f_61 zk_1 (by decide)]; rfl
          refine lv_iinc (v := v_71) (lv' := [(3, .int (v_71)), (0, .ref (q 15)), (1, .int (pa0)), (2, .int (x_69))]) hx hb dX9_owedWithoutThing_46 hl (k := 3) rfl (ev_71 ▸ rfl) (by decide) rfl (fun ls hl => ?_)
          refine lv_goto (tgt := 4) hx hb dX9_owedWithoutThing_49 (by decide) ?_
          exact ih_58 (x_69) (v_71) (zR_w hv_71 (by decide)) (z2_up mv_71 (by decide) hN_57) _ _ hP hD hS _ (lv_sub hl [1, 2, 3, 0] rfl)
        refine z_callVi (k := 15) (As := [.int (x_55)]) (rest := []) hx hb hml hown ht (xk_X9_isOpen_1 l D q cA F _ _ _ hI (x_55) f_61) hw_3_75 hmX9_isOpen ⟨rfl, rfl⟩ (na := 1) rfl (by decide +kernel) (by decide) (by decide) rfl rfl hK hP hD hS hA hl.1 rfl (Nat.le_of_ble_eq_true rfl) ⟨Nat.zero_le _, Nat.zero_le _⟩ dX9_owedWithoutThing_14 (fun r_63 I_63 R_63 J_63 H locs hp_63 hP hD hS _ _ => ?_)
        rcases hp_63 with ⟨rfl, hu_63⟩ | ⟨rfl, hu_63⟩
        · cases hu_63
          refine lv_if_eq (tgt := 46) hx hb dX9_owedWithoutThing_17 (by decide) (fun c_0 => absurd c_0 (zD_ne zk_1 zk_z (by decide))) (fun _ => ?_)
          refine lv_aload_n hx hb dX9_owedWithoutThing_20 rfl (lv_at hl 0 rfl) ?_
          refine z_get hx hb ht hown hK hP ziX9 rfl 15 (by decide) 7 (by decide) hw_1_171 rfl (v := .ref (q 19)) rfl dX9_owedWithoutThing_21 ?_
          refine lv_iload_n hx hb dX9_owedWithoutThing_24 rfl (lv_at hl 3 rfl) ?_
          refine z_iald hx hb hK hP 19 (by decide) 13 rfl rfl (zR_vin f_61 (by decide)) dX9_owedWithoutThing_25 ?_
          refine z_eqi (y := R 19 (x_55).toNatClampNeg) rfl ?_
          have f_72 : zR 0 4 (R 19 (x_55).toNatClampNeg) := xR hI 19 (x_55).toNatClampNeg
          refine lv_iload_n hx hb dX9_owedWithoutThing_26 rfl (lv_at hl 1 rfl) ?_
          refine lv_icmp_ne (tgt := 46) hx hb dX9_owedWithoutThing_27 (by decide) (fun c_73 => ?_) (fun c_73 => ?_)
          · have t_c_73 := z_eqF c_73
            exact t_70 (x_54) _ _ hP hD hS _ (lv_sub hl [0, 1, 2, 3] rfl)
          · have t_c_73 := z_eqT c_73
            refine lv_aload_n hx hb dX9_owedWithoutThing_30 rfl (lv_at hl 0 rfl) ?_
            refine lv_iload_n hx hb dX9_owedWithoutThing_31 rfl (lv_at hl 3 rfl) ?_
            refine z_callVi (k := 15) (As := [.int (x_55)]) (rest := []) hx hb hml hown ht (xk_X9_thiefHasIt l D q cA F _ _ _ hI (x_55) f_61) hw_3_212 hmX9_thiefHasIt ⟨rfl, rfl⟩ (na := 1) rfl (by decide +kernel) (by decide) (by decide) rfl rfl hK hP hD hS hA hl.1 rfl (Nat.le_of_ble_eq_true rfl) ⟨Nat.zero_le _, Nat.zero_le _⟩ dX9_owedWithoutThing_32 (fun r_74 I_74 R_74 J_74 H locs hp_74 hP hD hS _ _ => ?_)
            rcases hp_74 with ⟨rfl, hu_74⟩ | ⟨rfl, hu_74⟩
            · cases hu_74
              refine lv_if_ne (tgt := 46) hx hb dX9_owedWithoutThing_35 (by decide) (fun _ => ?_) (fun c_0 => absurd c_0 (zD_ne zk_1 zk_z (by decide)))
              exact t_70 (x_54) _ _ hP hD hS _ (lv_sub hl [0, 1, 2, 3] rfl)
            · cases hu_74
              refine lv_if_ne (tgt := 46) hx hb dX9_owedWithoutThing_35 (by decide) (fun c_0 => absurd (zD_eq zk_0 zk_z) c_0) (fun _ => ?_)
              refine lv_iload_n hx hb dX9_owedWithoutThing_38 rfl (lv_at hl 2 rfl) ?_
              refine lv_aload_n hx hb dX9_owedWithoutThing_39 rfl (lv_at hl 0 rfl) ?_
              refine lv_iload_n hx hb dX9_owedWithoutThing_40 rfl (lv_at hl 3 rfl) ?_
              refine z_callVi (k := 15) (As := [.int (x_55)]) (rest := [.int (x_54)]) hx hb hml hown ht (xk_X9_worthOf l D q cA F _ _ _ hI (x_55) f_61) hw_3_120 hmX9_worthOf ⟨rfl, rfl⟩ (na := 1) rfl (by decide +kernel) (by decide) (by decide) rfl rfl hK hP hD hS hA hl.1 rfl (Nat.le_of_ble_eq_true rfl) ⟨Nat.zero_le _, Nat.zero_le _⟩ dX9_owedWithoutThing_41 (fun r_75 I_75 R_75 J_75 H locs hp_75 hP hD hS _ _ => ?_)
              cases hp_75
              refine lv_iadd hx hb dX9_owedWithoutThing_44 ?_
              refine z_any (fun v_76 => ?_)
              refine lv_istore_n (lv' := [(2, .int (v_76)), (0, .ref (q 15)), (1, .int (pa0)), (3, .int (x_55))]) hx hb dX9_owedWithoutThing_45 rfl hl (by decide) rfl (fun ls hl => ?_)
              exact t_70 (v_76) _ _ hP hD hS _ (lv_sub hl [1, 2, 0, 3] rfl)
        · cases hu_63
          refine lv_if_eq (tgt := 46) hx hb dX9_owedWithoutThing_17 (by decide) (fun _ => ?_) (fun c_0 => absurd (zD_eq zk_0 zk_z) c_0)
          exact t_70 (x_54) _ _ hP hD hS _ (lv_sub hl [0, 1, 2, 3] rfl)
  exact loop_56 _ (nI 0) (nI 0) (zR_w zk_0 (by decide)) (Nat.lt_succ_self _) _ _ hP hD hS _ (lv_sub hl [2, 3, 1, 0] rfl)
set_option maxHeartbeats 4000000 in
set_option maxRecDepth 100000 in
theorem xk_X10_lacks (l : Launch) (D : va_G) (q : Nat → Nat) (cA : Nat → ClassId) (F : Nat → Nat → Int32) (I R : Nat → Nat → Int32) (J : Nat → Nat → Int64) (hI : xInv F (I, R, J)) (pa0 : Int32) : zMi l D vwCl (zXtys cA) 81 q (zXd q cA) yX10_lacks cX10_lacks 2 (some .int) ({ frames := 2, cells := 0, slots := 0, locals := 44 } : Room) [.ref (q 0), .int (pa0)] (I, R, J) (fun _ u => u = (I, R, J)) := by
  intro sz
  refine z_body (by decide +kernel) (Nat.le_of_ble_eq_true rfl) (fun p e s m below meth c ls hx hb hml hr ht hown hlocks hsz hK hP hD hS hl => ?_)
  have hA : ∀ a, s.heap.size ≤ a → zA 81 q sz a := fun a h => Or.inr (hsz ▸ h)
  have hl : lv_has ls 2 [(0, .ref (q 0)), (1, .int (pa0))] := hl
  refine lv_aload_n hx hb dX10_lacks_0 rfl (lv_at hl 0 rfl) ?_
  refine lv_iload_n hx hb dX10_lacks_1 rfl (lv_at hl 1 rfl) ?_
  refine z_callVi (k := 0) (As := [.int (pa0)]) (rest := []) hx hb hml hown ht (xk_X10_isHouse l D q cA F _ _ _ hI (pa0)) hw_3_59 hmX10_isHouse ⟨rfl, rfl⟩ (na := 1) rfl (by decide +kernel) (by decide) (by decide) rfl rfl hK hP hD hS hA hl.1 rfl (Nat.le_of_ble_eq_true rfl) ⟨Nat.zero_le _, Nat.zero_le _⟩ dX10_lacks_2 (fun r_1 I_1 R_1 J_1 H locs hp_1 hP hD hS _ _ => ?_)
  rcases hp_1 with ⟨rfl, hu_1, f0_1⟩ | ⟨rfl, hu_1⟩
  · cases hu_1
    refine lv_if_eq (tgt := 19) hx hb dX10_lacks_5 (by decide) (fun c_0 => absurd c_0 (zD_ne zk_1 zk_z (by decide))) (fun _ => ?_)
    refine lv_aload_n hx hb dX10_lacks_8 rfl (lv_at hl 0 rfl) ?_
    refine z_get hx hb ht hown hK hP ziX10 rfl 0 (by decide) 4 (by decide) hw_2_97 rfl (v := .ref (q 15)) rfl dX10_lacks_9 ?_
    refine lv_iload_n hx hb dX10_lacks_12 rfl (lv_at hl 1 rfl) ?_
    refine z_callVi (k := 15) (As := [.int (pa0)]) (rest := []) hx hb hml hown ht (xk_X9_owedWithoutThing l D q cA F _ _ _ hI (pa0) f0_1) hw_4_148 hmX9_owedWithoutThing ⟨rfl, rfl⟩ (na := 1) rfl (by decide +kernel) (by decide) (by decide) rfl rfl hK hP hD hS hA hl.1 rfl (Nat.le_of_ble_eq_true rfl) ⟨Nat.zero_le _, Nat.zero_le _⟩ dX10_lacks_13 (fun r_2 I_2 R_2 J_2 H locs hp_2 hP hD hS _ _ => ?_)
    cases hp_2
    refine lv_goto (tgt := 21) hx hb dX10_lacks_16 (by decide) ?_
    exact z_iret (v := r_2) hx hb hr hlocks hP hD hS dX10_lacks_21 rfl
  · cases hu_1
    refine lv_if_eq (tgt := 19) hx hb dX10_lacks_5 (by decide) (fun _ => ?_) (fun c_0 => absurd (zD_eq zk_0 zk_z) c_0)
    refine lv_bipush (v := (-2)) hx hb dX10_lacks_19 (by decide +kernel) ?_
    exact z_iret (v := (-2)) hx hb hr hlocks hP hD hS dX10_lacks_21 rfl
set_option maxHeartbeats 4000000 in
set_option maxRecDepth 100000 in
theorem xk_X9_copyFrom (l : Launch) (D : va_G) (q : Nat → Nat) (cA : Nat → ClassId) (F : Nat → Nat → Int32) (I R : Nat → Nat → Int32) (J : Nat → Nat → Int64) (hI : xInv F (I, R, J))  : zMv l D vwCl (zXtys cA) 81 q (zXd q cA) yX9_copyFrom cX9_copyFrom 2 none ({ frames := 1, cells := 0, slots := 0, locals := 64 } : Room) [.ref (q 27), .ref (q 15)] (I, R, J) (fun u => xInv F u) := by
  intro sz
  refine z_body (by decide +kernel) (Nat.le_of_ble_eq_true rfl) (fun p e s m below meth c ls hx hb hml hr ht hown hlocks hsz hK hP hD hS hl => ?_)
  have hA : ∀ a, s.heap.size ≤ a → zA 81 q sz a := fun a h => Or.inr (hsz ▸ h)
  have hl : lv_has ls 2 [(0, .ref (q 27)), (1, .ref (q 15))] := hl
  refine lv_aload_n hx hb dX9_copyFrom_0 rfl (lv_at hl 0 rfl) ?_
  refine lv_aload_n hx hb dX9_copyFrom_1 rfl (lv_at hl 1 rfl) ?_
  refine z_get hx hb ht hown hK hP ziX9 rfl 15 (by decide) 1 (by decide) hw_1_157 rfl (v := .int (I 15 1)) rfl dX9_copyFrom_2 ?_
  refine z_putI hx hb ht hown hK hP hD hS ziX9 tyX9 tyX9_ok nmX9 rfl 27 (by decide) 1 (by decide) hw_1_157 rfl (v := I 15 1) rfl rfl rfl (Nat.le_of_ble_eq_true rfl) rfl dX9_copyFrom_5 (fun H locs hP hD hS => ?_)
  have hI_1 := xInv_I hI 27 1 (I 15 1) (zR_any (I 15 1)) rfl
  refine lv_aload_n hx hb dX9_copyFrom_8 rfl (lv_at hl 0 rfl) ?_
  refine lv_aload_n hx hb dX9_copyFrom_9 rfl (lv_at hl 1 rfl) ?_
  refine z_get hx hb ht hown hK hP ziX9 rfl 15 (by decide) 2 (by decide) hw_1_159 rfl (v := .int (I 15 2)) rfl dX9_copyFrom_10 ?_
  have f_2 : zR 0 24 (I 15 2) := xI hI 15 2
  refine z_putI hx hb ht hown hK hP hD hS ziX9 tyX9 tyX9_ok nmX9 rfl 27 (by decide) 2 (by decide) hw_1_159 rfl (v := I 15 2) rfl rfl rfl (Nat.le_of_ble_eq_true rfl) rfl dX9_copyFrom_13 (fun H locs hP hD hS => ?_)
  have hI_3 := xInv_I hI_1 27 2 (I 15 2) f_2 rfl
  refine lv_aload_n hx hb dX9_copyFrom_16 rfl (lv_at hl 0 rfl) ?_
  refine lv_aload_n hx hb dX9_copyFrom_17 rfl (lv_at hl 1 rfl) ?_
  refine z_get hx hb ht hown hK hP ziX9 rfl 15 (by decide) 3 (by decide) hw_1_163 rfl (v := .int (I 15 3)) rfl dX9_copyFrom_18 ?_
  refine z_putI hx hb ht hown hK hP hD hS ziX9 tyX9 tyX9_ok nmX9 rfl 27 (by decide) 3 (by decide) hw_1_163 rfl (v := I 15 3) rfl rfl rfl (Nat.le_of_ble_eq_true rfl) rfl dX9_copyFrom_21 (fun H locs hP hD hS => ?_)
  have hI_4 := xInv_I hI_3 27 3 (I 15 3) (zR_any (I 15 3)) rfl
  refine lv_aload_n hx hb dX9_copyFrom_24 rfl (lv_at hl 1 rfl) ?_
  refine z_get hx hb ht hown hK hP ziX9 rfl 15 (by decide) 4 (by decide) hw_1_164 rfl (v := .ref (q 16)) rfl dX9_copyFrom_25 ?_
  refine lv_iconst (v := nI 0) hx hb dX9_copyFrom_28 (by decide +kernel) ?_
  refine lv_aload_n hx hb dX9_copyFrom_29 rfl (lv_at hl 0 rfl) ?_
  refine z_get hx hb ht hown hK hP ziX9 rfl 27 (by decide) 4 (by decide) hw_1_164 rfl (v := .ref (q 28)) rfl dX9_copyFrom_30 ?_
  refine lv_iconst (v := nI 0) hx hb dX9_copyFrom_33 (by decide +kernel) ?_
  refine lv_iconst (v := nI 5) hx hb dX9_copyFrom_34 (by decide +kernel) ?_
  refine z_copyi hx hb (hml.trans hl.1.symm) ht hown hw_3_49 ⟨hw_3_44, hw_3_43, hw_1_18⟩ hK hP hD hS 16 28 (by decide) (by decide) 10 21 rfl (fun _ => rfl) rfl rfl (by decide +kernel) (by decide +kernel) (by decide +kernel) (by decide +kernel) (by decide +kernel) (by decide) (by decide +kernel) dX9_copyFrom_35 (fun g_5 H locs eg_5 hP hD hS => ?_)
  have hI_6 := xInv_cp hI_4 16 28 eg_5 (by decide) (by decide) rfl
  refine lv_aload_n hx hb dX9_copyFrom_38 rfl (lv_at hl 1 rfl) ?_
  refine z_get hx hb ht hown hK hP ziX9 rfl 15 (by decide) 5 (by decide) hw_1_166 rfl (v := .ref (q 17)) rfl dX9_copyFrom_39 ?_
  refine lv_iconst (v := nI 0) hx hb dX9_copyFrom_42 (by decide +kernel) ?_
  refine lv_aload_n hx hb dX9_copyFrom_43 rfl (lv_at hl 0 rfl) ?_
  refine z_get hx hb ht hown hK hP ziX9 rfl 27 (by decide) 5 (by decide) hw_1_166 rfl (v := .ref (q 29)) rfl dX9_copyFrom_44 ?_
  refine lv_iconst (v := nI 0) hx hb dX9_copyFrom_47 (by decide +kernel) ?_
  refine lv_bipush (v := nI 6) hx hb dX9_copyFrom_48 (by decide +kernel) ?_
  refine z_copyi hx hb (hml.trans hl.1.symm) ht hown hw_3_49 ⟨hw_3_44, hw_3_43, hw_1_18⟩ hK hP hD hS 17 29 (by decide) (by decide) 11 22 rfl (fun _ => rfl) rfl rfl (by decide +kernel) (by decide +kernel) (by decide +kernel) (by decide +kernel) (by decide +kernel) (by decide) (by decide +kernel) dX9_copyFrom_50 (fun g_7 H locs eg_7 hP hD hS => ?_)
  have hI_8 := xInv_cp hI_6 17 29 eg_7 (by decide) (by decide) rfl
  refine lv_aload_n hx hb dX9_copyFrom_53 rfl (lv_at hl 1 rfl) ?_
  refine z_get hx hb ht hown hK hP ziX9 rfl 15 (by decide) 6 (by decide) hw_1_169 rfl (v := .ref (q 18)) rfl dX9_copyFrom_54 ?_
  refine lv_iconst (v := nI 0) hx hb dX9_copyFrom_57 (by decide +kernel) ?_
  refine lv_aload_n hx hb dX9_copyFrom_58 rfl (lv_at hl 0 rfl) ?_
  refine z_get hx hb ht hown hK hP ziX9 rfl 27 (by decide) 6 (by decide) hw_1_169 rfl (v := .ref (q 30)) rfl dX9_copyFrom_59 ?_
  refine lv_iconst (v := nI 0) hx hb dX9_copyFrom_62 (by decide +kernel) ?_
  refine lv_bipush (v := nI 6) hx hb dX9_copyFrom_63 (by decide +kernel) ?_
  refine z_copyi hx hb (hml.trans hl.1.symm) ht hown hw_3_49 ⟨hw_3_44, hw_3_43, hw_1_18⟩ hK hP hD hS 18 30 (by decide) (by decide) 12 23 rfl (fun _ => rfl) rfl rfl (by decide +kernel) (by decide +kernel) (by decide +kernel) (by decide +kernel) (by decide +kernel) (by decide) (by decide +kernel) dX9_copyFrom_65 (fun g_9 H locs eg_9 hP hD hS => ?_)
  have hI_10 := xInv_cp hI_8 18 30 eg_9 (by decide) (by decide) rfl
  refine lv_aload_n hx hb dX9_copyFrom_68 rfl (lv_at hl 1 rfl) ?_
  refine z_get hx hb ht hown hK hP ziX9 rfl 15 (by decide) 7 (by decide) hw_1_171 rfl (v := .ref (q 19)) rfl dX9_copyFrom_69 ?_
  refine lv_iconst (v := nI 0) hx hb dX9_copyFrom_72 (by decide +kernel) ?_
  refine lv_aload_n hx hb dX9_copyFrom_73 rfl (lv_at hl 0 rfl) ?_
  refine z_get hx hb ht hown hK hP ziX9 rfl 27 (by decide) 7 (by decide) hw_1_171 rfl (v := .ref (q 31)) rfl dX9_copyFrom_74 ?_
  refine lv_iconst (v := nI 0) hx hb dX9_copyFrom_77 (by decide +kernel) ?_
  refine lv_bipush (v := nI 24) hx hb dX9_copyFrom_78 (by decide +kernel) ?_
  refine z_copyi hx hb (hml.trans hl.1.symm) ht hown hw_3_49 ⟨hw_3_44, hw_3_43, hw_1_18⟩ hK hP hD hS 19 31 (by decide) (by decide) 13 24 rfl (fun _ => rfl) rfl rfl (by decide +kernel) (by decide +kernel) (by decide +kernel) (by decide +kernel) (by decide +kernel) (by decide) (by decide +kernel) dX9_copyFrom_80 (fun g_11 H locs eg_11 hP hD hS => ?_)
  have hI_12 := xInv_cp hI_10 19 31 eg_11 (by decide) (by decide) rfl
  refine lv_aload_n hx hb dX9_copyFrom_83 rfl (lv_at hl 1 rfl) ?_
  refine z_get hx hb ht hown hK hP ziX9 rfl 15 (by decide) 8 (by decide) hw_1_175 rfl (v := .ref (q 20)) rfl dX9_copyFrom_84 ?_
  refine lv_iconst (v := nI 0) hx hb dX9_copyFrom_87 (by decide +kernel) ?_
  refine lv_aload_n hx hb dX9_copyFrom_88 rfl (lv_at hl 0 rfl) ?_
  refine z_get hx hb ht hown hK hP ziX9 rfl 27 (by decide) 8 (by decide) hw_1_175 rfl (v := .ref (q 32)) rfl dX9_copyFrom_89 ?_
  refine lv_iconst (v := nI 0) hx hb dX9_copyFrom_92 (by decide +kernel) ?_
  refine lv_bipush (v := nI 24) hx hb dX9_copyFrom_93 (by decide +kernel) ?_
  refine z_copyi hx hb (hml.trans hl.1.symm) ht hown hw_3_49 ⟨hw_3_44, hw_3_43, hw_1_18⟩ hK hP hD hS 20 32 (by decide) (by decide) 14 25 rfl (fun _ => rfl) rfl rfl (by decide +kernel) (by decide +kernel) (by decide +kernel) (by decide +kernel) (by decide +kernel) (by decide) (by decide +kernel) dX9_copyFrom_95 (fun g_13 H locs eg_13 hP hD hS => ?_)
  have hI_14 := xInv_cp hI_12 20 32 eg_13 (by decide) (by decide) rfl
  refine lv_aload_n hx hb dX9_copyFrom_98 rfl (lv_at hl 1 rfl) ?_
  refine z_get hx hb ht hown hK hP ziX9 rfl 15 (by decide) 9 (by decide) hw_1_179 rfl (v := .ref (q 21)) rfl dX9_copyFrom_99 ?_
  refine lv_iconst (v := nI 0) hx hb dX9_copyFrom_102 (by decide +kernel) ?_
  refine lv_aload_n hx hb dX9_copyFrom_103 rfl (lv_at hl 0 rfl) ?_
  refine z_get hx hb ht hown hK hP ziX9 rfl 27 (by decide) 9 (by decide) hw_1_179 rfl (v := .ref (q 33)) rfl dX9_copyFrom_104 ?_
  refine lv_iconst (v := nI 0) hx hb dX9_copyFrom_107 (by decide +kernel) ?_
  refine lv_bipush (v := nI 24) hx hb dX9_copyFrom_108 (by decide +kernel) ?_
  refine z_copyi hx hb (hml.trans hl.1.symm) ht hown hw_3_49 ⟨hw_3_44, hw_3_43, hw_1_18⟩ hK hP hD hS 21 33 (by decide) (by decide) 15 26 rfl (fun _ => rfl) rfl rfl (by decide +kernel) (by decide +kernel) (by decide +kernel) (by decide +kernel) (by decide +kernel) (by decide) (by decide +kernel) dX9_copyFrom_110 (fun g_15 H locs eg_15 hP hD hS => ?_)
  have hI_16 := xInv_cp hI_14 21 33 eg_15 (by decide) (by decide) rfl
  refine lv_aload_n hx hb dX9_copyFrom_113 rfl (lv_at hl 1 rfl) ?_
  refine z_get hx hb ht hown hK hP ziX9 rfl 15 (by decide) 10 (by decide) hw_1_182 rfl (v := .ref (q 22)) rfl dX9_copyFrom_114 ?_
  refine lv_iconst (v := nI 0) hx hb dX9_copyFrom_117 (by decide +kernel) ?_
  refine lv_aload_n hx hb dX9_copyFrom_118 rfl (lv_at hl 0 rfl) ?_
  refine z_get hx hb ht hown hK hP ziX9 rfl 27 (by decide) 10 (by decide) hw_1_182 rfl (v := .ref (q 34)) rfl dX9_copyFrom_119 ?_
  refine lv_iconst (v := nI 0) hx hb dX9_copyFrom_122 (by decide +kernel) ?_
  refine lv_bipush (v := nI 24) hx hb dX9_copyFrom_123 (by decide +kernel) ?_
  refine z_copyi hx hb (hml.trans hl.1.symm) ht hown hw_3_49 ⟨hw_3_44, hw_3_43, hw_1_18⟩ hK hP hD hS 22 34 (by decide) (by decide) 16 27 rfl (fun _ => rfl) rfl rfl (by decide +kernel) (by decide +kernel) (by decide +kernel) (by decide +kernel) (by decide +kernel) (by decide) (by decide +kernel) dX9_copyFrom_125 (fun g_17 H locs eg_17 hP hD hS => ?_)
  have hI_18 := xInv_cp hI_16 22 34 eg_17 (by decide) (by decide) rfl
  refine lv_aload_n hx hb dX9_copyFrom_128 rfl (lv_at hl 1 rfl) ?_
  refine z_get hx hb ht hown hK hP ziX9 rfl 15 (by decide) 11 (by decide) hw_1_185 rfl (v := .ref (q 23)) rfl dX9_copyFrom_129 ?_
  refine lv_iconst (v := nI 0) hx hb dX9_copyFrom_132 (by decide +kernel) ?_
  refine lv_aload_n hx hb dX9_copyFrom_133 rfl (lv_at hl 0 rfl) ?_
  refine z_get hx hb ht hown hK hP ziX9 rfl 27 (by decide) 11 (by decide) hw_1_185 rfl (v := .ref (q 35)) rfl dX9_copyFrom_134 ?_
  refine lv_iconst (v := nI 0) hx hb dX9_copyFrom_137 (by decide +kernel) ?_
  refine lv_bipush (v := nI 24) hx hb dX9_copyFrom_138 (by decide +kernel) ?_
  refine z_copyi hx hb (hml.trans hl.1.symm) ht hown hw_3_49 ⟨hw_3_44, hw_3_43, hw_1_18⟩ hK hP hD hS 23 35 (by decide) (by decide) 17 28 rfl (fun _ => rfl) rfl rfl (by decide +kernel) (by decide +kernel) (by decide +kernel) (by decide +kernel) (by decide +kernel) (by decide) (by decide +kernel) dX9_copyFrom_140 (fun g_19 H locs eg_19 hP hD hS => ?_)
  have hI_20 := xInv_cp hI_18 23 35 eg_19 (by decide) (by decide) rfl
  exact z_vret hx hb hr hlocks hP hD hS dX9_copyFrom_143 hI_20
set_option maxHeartbeats 4000000 in
set_option maxRecDepth 100000 in
theorem xk_J7_fill_53178_5 (l : Launch) (D : va_G) (q : Nat → Nat) (cA : Nat → ClassId) (F : Nat → Nat → Int32) (I R : Nat → Nat → Int32) (J : Nat → Nat → Int64) (hI : xInv F (I, R, J)) (pa1 : Int32) (hpa1 : zR 0 1 pa1) : zMv l D vwCl (zXtys cA) 81 q (zXd q cA) yJ7_fill_53178 cJ7_fill_53178 4 none ({ frames := 0, cells := 0, slots := 0, locals := 0 } : Room) [.ref (q 37), .int (pa1)] (I, R, J) (fun u => xInv F u) := by
  intro sz
  refine z_body (by decide +kernel) (Nat.le_of_ble_eq_true rfl) (fun p e s m below meth c ls hx hb hml hr ht hown hlocks hsz hK hP hD hS hl => ?_)
  have hA : ∀ a, s.heap.size ≤ a → zA 81 q sz a := fun a h => Or.inr (hsz ▸ h)
  have hl : lv_has ls 4 [(0, .ref (q 37)), (1, .int (pa1))] := hl
  refine lv_iconst (v := nI 0) hx hb dJ7_fill_53178_0 (by decide +kernel) ?_
  refine lv_istore_n (lv' := [(2, .int (nI 0)), (0, .ref (q 37)), (1, .int (pa1))]) hx hb dJ7_fill_53178_1 rfl hl (by decide) rfl (fun ls hl => ?_)
  refine lv_aload_n hx hb dJ7_fill_53178_2 rfl (lv_at hl 1 rfl) ?_
  refine z_alen hx hb hK hP 37 (by decide) 30 rfl rfl dJ7_fill_53178_3 ?_
  refine lv_istore_n (lv' := [(3, .int (nI 5)), (2, .int (nI 0)), (0, .ref (q 37)), (1, .int (pa1))]) hx hb dJ7_fill_53178_4 rfl hl (by decide) rfl (fun ls hl => ?_)
  have loop_22 : ∀ N : Nat, ∀ x_20 : Int32, zR 0 5 x_20 → ∀ R_21 : Nat → Nat → Int32, xInv F (I, R_21, J) → (2147483648 - (x_20).toInt).toNat < N → ∀ (H : Heap) (locs : List Loc), va_P D vwCl (zw 81 q (zXd q cA) I R_21 J) H → va_D (zA 81 q sz) (zw 81 q (zXd q cA) I R_21 J) → va_S (zA 81 q sz) s.heap H locs → ∀ ls : Array Slot, lv_has ls 4 [(0, .ref (q 37)), (1, .int (pa1)), (2, .int (x_20)), (3, .int (nI 5))] → W p l e ({ frames := 0, cells := 0, slots := 0, locals := 0 } : Room) s m ([.ref (q 37), .int (pa1)] : List Value).toArray below meth c H locs 0 0 (MQ below (va_Qv (fun u => xInv F u) (zB D vwCl 81 q (zXd q cA) sz) (zA 81 q sz)) ([.ref (q 37), .int (pa1)] : List Value).toArray s 0 0 (zA 81 q sz)) (F0 m 5 ls []) := by
    intro N
    induction N with
    | zero => intro x_20 hx_20 R_21 hI_21 hN; exact absurd hN (Nat.not_lt_zero _)
    | succ N ih_24 =>
      intro x_20 hx_20 R_21 hI_21 hN_23 H locs hP hD hS ls hl
      refine lv_iload_n hx hb dJ7_fill_53178_5 rfl (lv_at hl 2 rfl) ?_
      refine lv_iload_n hx hb dJ7_fill_53178_6 rfl (lv_at hl 3 rfl) ?_
      refine lv_icmp_ge (tgt := 20) hx hb dJ7_fill_53178_7 (by decide) (fun c_25 => ?_) (fun c_25 => ?_)
      · have t_c_25 := z_leT c_25
        have f_26 : zR 5 5 (x_20) := zR_ley t_c_25 zk_5 hx_20 (by decide)
        exact z_vret hx hb hr hlocks hP hD hS dJ7_fill_53178_20 hI_21
      · have t_c_25 := z_leF c_25
        have f_27 : zR 0 4 (x_20) := zR_ltx t_c_25 hx_20 zk_5 (by decide)
        refine lv_aload_n hx hb dJ7_fill_53178_10 rfl (lv_at hl 0 rfl) ?_
        refine lv_iload_n hx hb dJ7_fill_53178_11 rfl (lv_at hl 2 rfl) ?_
        refine lv_iload_n hx hb dJ7_fill_53178_12 rfl (lv_at hl 1 rfl) ?_
        refine z_iast hx hb hK hP hD hS 37 (by decide) 30 (fun _ => rfl) rfl (zR_vin f_27 (by decide)) dJ7_fill_53178_13 (fun H locs hP hD hS => ?_)
        have hI_28 := xInv_R hI_21 37 (x_20).toNatClampNeg (pa1) (zR_any _) rfl
        obtain ⟨v_29, ev_29⟩ : ∃ y : Int32, y = x_20 + nI 1 := ⟨_, rfl⟩
        have hv_29 : zR 1 5 v_29 := ev_29 ▸ zR_add f_27 zk_1 (by decide)
        have mv_29 : v_29.toInt = (x_20).toInt + 1 := by rw [ev_29, zR_addE f_27 zk_1 (by decide)]; rfl
        refine lv_iinc (v := v_29) (lv' := [(2, .int (v_29)), (0, .ref (q 37)), (1, .int (pa1)), (3, .int (nI 5))]) hx hb dJ7_fill_53178_14 hl (k := 2) rfl (ev_29 ▸ rfl) (by decide) rfl (fun ls hl => ?_)
        refine lv_goto (tgt := 5) hx hb dJ7_fill_53178_17 (by decide) ?_
        exact ih_24 (v_29) (zR_w hv_29 (by decide)) _ hI_28 (z2_up mv_29 (by decide) hN_23) _ _ hP hD hS _ (lv_sub hl [1, 2, 0, 3] rfl)
  exact loop_22 _ (nI 0) (zR_w zk_0 (by decide)) _ hI (Nat.lt_succ_self _) _ _ hP hD hS _ (lv_sub hl [2, 3, 1, 0] rfl)
set_option maxHeartbeats 4000000 in
set_option maxRecDepth 100000 in
theorem xk_X9_pay_1 (l : Launch) (D : va_G) (q : Nat → Nat) (cA : Nat → ClassId) (F : Nat → Nat → Int32) (I R : Nat → Nat → Int32) (J : Nat → Nat → Int64) (hI : xInv F (I, R, J)) (pa0 : Int32) (hpa0 : zR 0 4 pa0) (pa1 : Int32) (hpa1 : zR 0 4 pa1) (pa2 : Int32) : zMv l D vwCl (zXtys cA) 81 q (zXd q cA) yX9_pay cX9_pay 4 none ({ frames := 0, cells := 0, slots := 0, locals := 0 } : Room) [.ref (q 27), .int (pa0), .int (pa1), .int (pa2)] (I, R, J) (fun u => xInv F u) := by
  intro sz
  refine z_body (by decide +kernel) (Nat.le_of_ble_eq_true rfl) (fun p e s m below meth c ls hx hb hml hr ht hown hlocks hsz hK hP hD hS hl => ?_)
  have hA : ∀ a, s.heap.size ≤ a → zA 81 q sz a := fun a h => Or.inr (hsz ▸ h)
  have hl : lv_has ls 4 [(0, .ref (q 27)), (1, .int (pa0)), (2, .int (pa1)), (3, .int (pa2))] := hl
  refine lv_aload_n hx hb dX9_pay_0 rfl (lv_at hl 0 rfl) ?_
  refine z_get hx hb ht hown hK hP ziX9 rfl 27 (by decide) 4 (by decide) hw_1_164 rfl (v := .ref (q 28)) rfl dX9_pay_1 ?_
  refine lv_iload_n hx hb dX9_pay_4 rfl (lv_at hl 1 rfl) ?_
  refine lv_dup2_11 hx hb dX9_pay_5 rfl rfl ?_
  refine z_iald hx hb hK hP 28 (by decide) 21 rfl rfl (zR_vin hpa0 (by decide)) dX9_pay_6 ?_
  refine z_eqi (y := R 28 (pa0).toNatClampNeg) rfl ?_
  refine lv_iload_n hx hb dX9_pay_7 rfl (lv_at hl 3 rfl) ?_
  refine lv_isub hx hb dX9_pay_8 ?_
  refine z_any (fun v_1 => ?_)
  refine z_iast hx hb hK hP hD hS 28 (by decide) 21 (fun _ => rfl) rfl (zR_vin hpa0 (by decide)) dX9_pay_9 (fun H locs hP hD hS => ?_)
  have hI_2 := xInv_R hI 28 (pa0).toNatClampNeg (v_1) (zR_any _) rfl
  refine lv_aload_n hx hb dX9_pay_10 rfl (lv_at hl 0 rfl) ?_
  refine z_get hx hb ht hown hK hP ziX9 rfl 27 (by decide) 4 (by decide) hw_1_164 rfl (v := .ref (q 28)) rfl dX9_pay_11 ?_
  refine lv_iload_n hx hb dX9_pay_14 rfl (lv_at hl 2 rfl) ?_
  refine lv_dup2_11 hx hb dX9_pay_15 rfl rfl ?_
  refine z_iald hx hb hK hP 28 (by decide) 21 rfl rfl (zR_vin hpa1 (by decide)) dX9_pay_16 ?_
  refine z_any (fun v_3 => ?_)
  refine lv_iload_n hx hb dX9_pay_17 rfl (lv_at hl 3 rfl) ?_
  refine lv_iadd hx hb dX9_pay_18 ?_
  refine z_any (fun v_4 => ?_)
  refine z_iast hx hb hK hP hD hS 28 (by decide) 21 (fun _ => rfl) rfl (zR_vin hpa1 (by decide)) dX9_pay_19 (fun H locs hP hD hS => ?_)
  have hI_5 := xInv_R hI_2 28 (pa1).toNatClampNeg (v_4) (zR_any _) rfl
  exact z_vret hx hb hr hlocks hP hD hS dX9_pay_20 hI_5
set_option maxHeartbeats 4000000 in
set_option maxRecDepth 100000 in
theorem xk_X9_move_1 (l : Launch) (D : va_G) (q : Nat → Nat) (cA : Nat → ClassId) (F : Nat → Nat → Int32) (I R : Nat → Nat → Int32) (J : Nat → Nat → Int64) (hI : xInv F (I, R, J)) (pa0 : Int32) (hpa0 : zR 0 5 pa0) (pa1 : Int32) (hpa1 : zR 0 4 pa1) : zMv l D vwCl (zXtys cA) 81 q (zXd q cA) yX9_move cX9_move 3 none ({ frames := 0, cells := 0, slots := 0, locals := 0 } : Room) [.ref (q 27), .int (pa0), .int (pa1)] (I, R, J) (fun u => xInv F u) := by
  intro sz
  refine z_body (by decide +kernel) (Nat.le_of_ble_eq_true rfl) (fun p e s m below meth c ls hx hb hml hr ht hown hlocks hsz hK hP hD hS hl => ?_)
  have hA : ∀ a, s.heap.size ≤ a → zA 81 q sz a := fun a h => Or.inr (hsz ▸ h)
  have hl : lv_has ls 3 [(0, .ref (q 27)), (1, .int (pa0)), (2, .int (pa1))] := hl
  refine lv_aload_n hx hb dX9_move_0 rfl (lv_at hl 0 rfl) ?_
  refine z_get hx hb ht hown hK hP ziX9 rfl 27 (by decide) 5 (by decide) hw_1_166 rfl (v := .ref (q 29)) rfl dX9_move_1 ?_
  refine lv_iload_n hx hb dX9_move_4 rfl (lv_at hl 1 rfl) ?_
  refine z_iald hx hb hK hP 29 (by decide) 22 rfl rfl (zR_vin hpa0 (by decide)) dX9_move_5 ?_
  refine z_eqi (y := R 29 (pa0).toNatClampNeg) rfl ?_
  have f_1 : zR 0 4 (R 29 (pa0).toNatClampNeg) := xR hI 29 (pa0).toNatClampNeg
  refine lv_iload_n hx hb dX9_move_6 rfl (lv_at hl 2 rfl) ?_
  refine lv_icmp_eq (tgt := 21) hx hb dX9_move_7 (by decide) (fun c_2 => ?_) (fun c_2 => ?_)
  · have t_c_2 := z_eqT c_2
    exact z_vret hx hb hr hlocks hP hD hS dX9_move_21 hI
  · have t_c_2 := z_eqF c_2
    refine lv_aload_n hx hb dX9_move_10 rfl (lv_at hl 0 rfl) ?_
    refine z_get hx hb ht hown hK hP ziX9 rfl 27 (by decide) 6 (by decide) hw_1_169 rfl (v := .ref (q 30)) rfl dX9_move_11 ?_
    refine lv_iload_n hx hb dX9_move_14 rfl (lv_at hl 1 rfl) ?_
    refine z_iald hx hb hK hP 30 (by decide) 23 rfl rfl (zR_vin hpa0 (by decide)) dX9_move_15 ?_
    refine z_eqi (y := R 30 (pa0).toNatClampNeg) rfl ?_
    have f_3 : zR 0 48 (R 30 (pa0).toNatClampNeg) := xR hI 30 (pa0).toNatClampNeg
    refine lv_bipush (v := nI 48) hx hb dX9_move_16 (by decide +kernel) ?_
    refine lv_icmp_lt (tgt := 22) hx hb dX9_move_18 (by decide) (fun c_4 => ?_) (fun c_4 => ?_)
    · have t_c_4 := z_ltT c_4
      have f_5 : zR 0 47 (R 30 (pa0).toNatClampNeg) := zR_ltx t_c_4 f_3 zk_48 (by decide)
      refine lv_aload_n hx hb dX9_move_22 rfl (lv_at hl 0 rfl) ?_
      refine z_get hx hb ht hown hK hP ziX9 rfl 27 (by decide) 5 (by decide) hw_1_166 rfl (v := .ref (q 29)) rfl dX9_move_23 ?_
      refine lv_iload_n hx hb dX9_move_26 rfl (lv_at hl 1 rfl) ?_
      refine lv_iload_n hx hb dX9_move_27 rfl (lv_at hl 2 rfl) ?_
      refine z_iast hx hb hK hP hD hS 29 (by decide) 22 (fun _ => rfl) rfl (zR_vin hpa0 (by decide)) dX9_move_28 (fun H locs hP hD hS => ?_)
      have hI_6 := xInv_R hI 29 (pa0).toNatClampNeg (pa1) hpa1 rfl
      refine lv_aload_n hx hb dX9_move_29 rfl (lv_at hl 0 rfl) ?_
      refine z_get hx hb ht hown hK hP ziX9 rfl 27 (by decide) 6 (by decide) hw_1_169 rfl (v := .ref (q 30)) rfl dX9_move_30 ?_
      refine lv_iload_n hx hb dX9_move_33 rfl (lv_at hl 1 rfl) ?_
      refine lv_dup2_11 hx hb dX9_move_34 rfl rfl ?_
      refine z_iald hx hb hK hP 30 (by decide) 23 rfl rfl (zR_vin hpa0 (by decide)) dX9_move_35 ?_
      refine z_eqi (y := R 30 (pa0).toNatClampNeg) rfl ?_
      refine lv_iconst (v := nI 1) hx hb dX9_move_36 (by decide +kernel) ?_
      refine lv_iadd hx hb dX9_move_37 ?_
      refine z_addc 1 48 f_5 zk_1 (by decide) (fun v_7 hv_7 mv_7 => ?_)
      refine z_iast hx hb hK hP hD hS 30 (by decide) 23 (fun _ => rfl) rfl (zR_vin hpa0 (by decide)) dX9_move_38 (fun H locs hP hD hS => ?_)
      have hI_8 := xInv_R hI_6 30 (pa0).toNatClampNeg (v_7) (show zR 0 48 (v_7) from zR_w hv_7 (by decide)) rfl
      refine lv_aload_n hx hb dX9_move_39 rfl (lv_at hl 0 rfl) ?_
      refine z_get hx hb ht hown hK hP ziX9 rfl 27 (by decide) 12 (by decide) hw_1_187 rfl (v := .ref (q 36)) rfl dX9_move_40 ?_
      refine lv_iload_n hx hb dX9_move_43 rfl (lv_at hl 1 rfl) ?_
      refine lv_bipush (v := nI 49) hx hb dX9_move_44 (by decide +kernel) ?_
      refine lv_imul hx hb dX9_move_46 ?_
      refine z_rng (a := 0) (b := 245) (zR_mul hpa0 zk_49 (by decide)) (fun v_9 hv_9 => ?_)
      refine lv_aload_n hx hb dX9_move_47 rfl (lv_at hl 0 rfl) ?_
      refine z_get hx hb ht hown hK hP ziX9 rfl 27 (by decide) 6 (by decide) hw_1_169 rfl (v := .ref (q 30)) rfl dX9_move_48 ?_
      refine lv_iload_n hx hb dX9_move_51 rfl (lv_at hl 1 rfl) ?_
      refine z_iald hx hb hK hP 30 (by decide) 23 rfl rfl (zR_vin hpa0 (by decide)) dX9_move_52 ?_
      refine z_rng (a := 0) (b := 48) (xR hI_8 30 (pa0).toNatClampNeg) (fun v_10 hv_10 => ?_)
      refine lv_iadd hx hb dX9_move_53 ?_
      refine z_rng (a := 0) (b := 293) (zR_add hv_9 hv_10 (by decide)) (fun v_11 hv_11 => ?_)
      refine lv_iload_n hx hb dX9_move_54 rfl (lv_at hl 2 rfl) ?_
      refine z_iast hx hb hK hP hD hS 36 (by decide) 29 (fun _ => rfl) rfl (zR_vin hv_11 (by decide)) dX9_move_55 (fun H locs hP hD hS => ?_)
      have hI_12 := xInv_R hI_8 36 (v_11).toNatClampNeg (pa1) (zR_any _) rfl
      exact z_vret hx hb hr hlocks hP hD hS dX9_move_56 hI_12
    · have t_c_4 := z_ltF c_4
      have f_13 : zR 48 48 (R 30 (pa0).toNatClampNeg) := zR_ley t_c_4 zk_48 f_3 (by decide)
      exact z_vret hx hb hr hlocks hP hD hS dX9_move_21 hI
set_option maxHeartbeats 4000000 in
set_option maxRecDepth 100000 in
theorem xk_X9_isOpen_3 (l : Launch) (D : va_G) (q : Nat → Nat) (cA : Nat → ClassId) (F : Nat → Nat → Int32) (I R : Nat → Nat → Int32) (J : Nat → Nat → Int64) (hI : xInv F (I, R, J)) (pa0 : Int32) (hpa0 : zR 0 23 pa0) : zMi l D vwCl (zXtys cA) 81 q (zXd q cA) yX9_isOpen cX9_isOpen 2 (some .boolean) ({ frames := 0, cells := 0, slots := 0, locals := 0 } : Room) [.ref (q 27), .int (pa0)] (I, R, J) (fun r u => (r = nI 1 ∧ u = (I, R, J)) ∨ (r = nI 0 ∧ u = (I, R, J))) := by
  intro sz
  refine z_body (by decide +kernel) (Nat.le_of_ble_eq_true rfl) (fun p e s m below meth c ls hx hb hml hr ht hown hlocks hsz hK hP hD hS hl => ?_)
  have hA : ∀ a, s.heap.size ≤ a → zA 81 q sz a := fun a h => Or.inr (hsz ▸ h)
  have hl : lv_has ls 2 [(0, .ref (q 27)), (1, .int (pa0))] := hl
  refine lv_aload_n hx hb dX9_isOpen_0 rfl (lv_at hl 0 rfl) ?_
  refine z_get hx hb ht hown hK hP ziX9 rfl 27 (by decide) 11 (by decide) hw_1_185 rfl (v := .ref (q 35)) rfl dX9_isOpen_1 ?_
  refine lv_iload_n hx hb dX9_isOpen_4 rfl (lv_at hl 1 rfl) ?_
  refine z_iald hx hb hK hP 35 (by decide) 28 rfl rfl (zR_vin hpa0 (by decide)) dX9_isOpen_5 ?_
  refine z_eqi (y := R 35 (pa0).toNatClampNeg) rfl ?_
  refine lv_if_ne (tgt := 13) hx hb dX9_isOpen_6 (by decide) (fun c_1 => ?_) (fun c_1 => ?_)
  · have t_c_1 := z_eqF c_1
    refine lv_iconst (v := nI 0) hx hb dX9_isOpen_13 (by decide +kernel) ?_
    exact z_zret (v := nI 0) hx hb hr hlocks hP hD hS (by decide +kernel) dX9_isOpen_14 (Or.inr ⟨rfl, rfl⟩)
  · have t_c_1 := z_eqT c_1
    have f_2 : zR 0 0 (R 35 (pa0).toNatClampNeg) := zR_eqx t_c_1 zk_z
    refine lv_iconst (v := nI 1) hx hb dX9_isOpen_9 (by decide +kernel) ?_
    refine lv_goto (tgt := 14) hx hb dX9_isOpen_10 (by decide) ?_
    exact z_zret (v := nI 1) hx hb hr hlocks hP hD hS (by decide +kernel) dX9_isOpen_14 (Or.inl ⟨rfl, rfl⟩)
set_option maxHeartbeats 4000000 in
set_option maxRecDepth 100000 in
theorem xk_X9_worthOf_3 (l : Launch) (D : va_G) (q : Nat → Nat) (cA : Nat → ClassId) (F : Nat → Nat → Int32) (I R : Nat → Nat → Int32) (J : Nat → Nat → Int64) (hI : xInv F (I, R, J)) (pa0 : Int32) (hpa0 : zR 0 23 pa0) : zMi l D vwCl (zXtys cA) 81 q (zXd q cA) yX9_worthOf cX9_worthOf 2 (some .int) ({ frames := 0, cells := 0, slots := 0, locals := 0 } : Room) [.ref (q 27), .int (pa0)] (I, R, J) (fun _ u => u = (I, R, J)) := by
  intro sz
  refine z_body (by decide +kernel) (Nat.le_of_ble_eq_true rfl) (fun p e s m below meth c ls hx hb hml hr ht hown hlocks hsz hK hP hD hS hl => ?_)
  have hA : ∀ a, s.heap.size ≤ a → zA 81 q sz a := fun a h => Or.inr (hsz ▸ h)
  have hl : lv_has ls 2 [(0, .ref (q 27)), (1, .int (pa0))] := hl
  refine lv_aload_n hx hb dX9_worthOf_0 rfl (lv_at hl 0 rfl) ?_
  refine z_get hx hb ht hown hK hP ziX9 rfl 27 (by decide) 0 (by decide) hw_1_154 rfl (v := .ref (q 3)) rfl dX9_worthOf_1 ?_
  refine z_get hx hb ht hown hK hP ziX2 rfl 3 (by decide) 9 (by decide) hw_1_108 rfl (v := .ref (q 6)) rfl dX9_worthOf_4 ?_
  refine lv_aload_n hx hb dX9_worthOf_7 rfl (lv_at hl 0 rfl) ?_
  refine z_get hx hb ht hown hK hP ziX9 rfl 27 (by decide) 8 (by decide) hw_1_175 rfl (v := .ref (q 32)) rfl dX9_worthOf_8 ?_
  refine lv_iload_n hx hb dX9_worthOf_11 rfl (lv_at hl 1 rfl) ?_
  refine z_iald hx hb hK hP 32 (by decide) 25 rfl rfl (zR_vin hpa0 (by decide)) dX9_worthOf_12 ?_
  refine z_eqi (y := R 32 (pa0).toNatClampNeg) rfl ?_
  have f_1 : zR 0 5 (R 32 (pa0).toNatClampNeg) := xR hI 32 (pa0).toNatClampNeg
  refine z_iald hx hb hK hP 6 (by decide) 3 rfl rfl (zR_vin f_1 (by decide)) dX9_worthOf_13 ?_
  refine z_eqi (y := R 6 (R 32 (pa0).toNatClampNeg).toNatClampNeg) rfl ?_
  exact z_iret (v := R 6 (R 32 (pa0).toNatClampNeg).toNatClampNeg) hx hb hr hlocks hP hD hS dX9_worthOf_14 rfl
set_option maxHeartbeats 4000000 in
set_option maxRecDepth 100000 in
theorem xk_X9_thiefHasIt_3 (l : Launch) (D : va_G) (q : Nat → Nat) (cA : Nat → ClassId) (F : Nat → Nat → Int32) (I R : Nat → Nat → Int32) (J : Nat → Nat → Int64) (hI : xInv F (I, R, J)) (pa0 : Int32) (hpa0 : zR 0 23 pa0) : zMi l D vwCl (zXtys cA) 81 q (zXd q cA) yX9_thiefHasIt cX9_thiefHasIt 2 (some .boolean) ({ frames := 0, cells := 0, slots := 0, locals := 0 } : Room) [.ref (q 27), .int (pa0)] (I, R, J) (fun r u => (r = nI 1 ∧ u = (I, R, J)) ∨ (r = nI 0 ∧ u = (I, R, J))) := by
  intro sz
  refine z_body (by decide +kernel) (Nat.le_of_ble_eq_true rfl) (fun p e s m below meth c ls hx hb hml hr ht hown hlocks hsz hK hP hD hS hl => ?_)
  have hA : ∀ a, s.heap.size ≤ a → zA 81 q sz a := fun a h => Or.inr (hsz ▸ h)
  have hl : lv_has ls 2 [(0, .ref (q 27)), (1, .int (pa0))] := hl
  refine lv_aload_n hx hb dX9_thiefHasIt_0 rfl (lv_at hl 0 rfl) ?_
  refine z_get hx hb ht hown hK hP ziX9 rfl 27 (by decide) 5 (by decide) hw_1_166 rfl (v := .ref (q 29)) rfl dX9_thiefHasIt_1 ?_
  refine lv_aload_n hx hb dX9_thiefHasIt_4 rfl (lv_at hl 0 rfl) ?_
  refine z_get hx hb ht hown hK hP ziX9 rfl 27 (by decide) 8 (by decide) hw_1_175 rfl (v := .ref (q 32)) rfl dX9_thiefHasIt_5 ?_
  refine lv_iload_n hx hb dX9_thiefHasIt_8 rfl (lv_at hl 1 rfl) ?_
  refine z_iald hx hb hK hP 32 (by decide) 25 rfl rfl (zR_vin hpa0 (by decide)) dX9_thiefHasIt_9 ?_
  refine z_eqi (y := R 32 (pa0).toNatClampNeg) rfl ?_
  have f_1 : zR 0 5 (R 32 (pa0).toNatClampNeg) := xR hI 32 (pa0).toNatClampNeg
  refine z_iald hx hb hK hP 29 (by decide) 22 rfl rfl (zR_vin f_1 (by decide)) dX9_thiefHasIt_10 ?_
  refine z_eqi (y := R 29 (R 32 (pa0).toNatClampNeg).toNatClampNeg) rfl ?_
  have f_2 : zR 0 4 (R 29 (R 32 (pa0).toNatClampNeg).toNatClampNeg) := xR hI 29 (R 32 (pa0).toNatClampNeg).toNatClampNeg
  refine lv_aload_n hx hb dX9_thiefHasIt_11 rfl (lv_at hl 0 rfl) ?_
  refine z_get hx hb ht hown hK hP ziX9 rfl 27 (by decide) 7 (by decide) hw_1_171 rfl (v := .ref (q 31)) rfl dX9_thiefHasIt_12 ?_
  refine lv_iload_n hx hb dX9_thiefHasIt_15 rfl (lv_at hl 1 rfl) ?_
  refine z_iald hx hb hK hP 31 (by decide) 24 rfl rfl (zR_vin hpa0 (by decide)) dX9_thiefHasIt_16 ?_
  refine z_eqi (y := R 31 (pa0).toNatClampNeg) rfl ?_
  have f_3 : zR 0 4 (R 31 (pa0).toNatClampNeg) := xR hI 31 (pa0).toNatClampNeg
  refine lv_icmp_ne (tgt := 24) hx hb dX9_thiefHasIt_17 (by decide) (fun c_4 => ?_) (fun c_4 => ?_)
  · have t_c_4 := z_eqF c_4
    refine lv_iconst (v := nI 0) hx hb dX9_thiefHasIt_24 (by decide +kernel) ?_
    exact z_zret (v := nI 0) hx hb hr hlocks hP hD hS (by decide +kernel) dX9_thiefHasIt_25 (Or.inr ⟨rfl, rfl⟩)
  · have t_c_4 := z_eqT c_4
    refine lv_iconst (v := nI 1) hx hb dX9_thiefHasIt_20 (by decide +kernel) ?_
    refine lv_goto (tgt := 25) hx hb dX9_thiefHasIt_21 (by decide) ?_
    exact z_zret (v := nI 1) hx hb hr hlocks hP hD hS (by decide +kernel) dX9_thiefHasIt_25 (Or.inl ⟨rfl, rfl⟩)
set_option maxHeartbeats 4000000 in
set_option maxRecDepth 100000 in
theorem xk_X9_giveBack_3 (l : Launch) (D : va_G) (q : Nat → Nat) (cA : Nat → ClassId) (F : Nat → Nat → Int32) (I R : Nat → Nat → Int32) (J : Nat → Nat → Int64) (hI : xInv F (I, R, J)) (pa0 : Int32) (hpa0 : zR 0 23 pa0) : zMi l D vwCl (zXtys cA) 81 q (zXd q cA) yX9_giveBack cX9_giveBack 2 (some .int) ({ frames := 1, cells := 0, slots := 0, locals := 22 } : Room) [.ref (q 27), .int (pa0)] (I, R, J) (fun r u => zR 0 4 r ∧ xInv F u) := by
  intro sz
  refine z_body (by decide +kernel) (Nat.le_of_ble_eq_true rfl) (fun p e s m below meth c ls hx hb hml hr ht hown hlocks hsz hK hP hD hS hl => ?_)
  have hA : ∀ a, s.heap.size ≤ a → zA 81 q sz a := fun a h => Or.inr (hsz ▸ h)
  have hl : lv_has ls 2 [(0, .ref (q 27)), (1, .int (pa0))] := hl
  refine lv_aload_n hx hb dX9_giveBack_0 rfl (lv_at hl 0 rfl) ?_
  refine z_get hx hb ht hown hK hP ziX9 rfl 27 (by decide) 11 (by decide) hw_1_185 rfl (v := .ref (q 35)) rfl dX9_giveBack_1 ?_
  refine lv_iload_n hx hb dX9_giveBack_4 rfl (lv_at hl 1 rfl) ?_
  refine lv_iconst (v := nI 1) hx hb dX9_giveBack_5 (by decide +kernel) ?_
  refine z_iast hx hb hK hP hD hS 35 (by decide) 28 (fun _ => rfl) rfl (zR_vin hpa0 (by decide)) dX9_giveBack_6 (fun H locs hP hD hS => ?_)
  have hI_1 := xInv_R hI 35 (pa0).toNatClampNeg (nI 1) (zR_any _) rfl
  refine lv_aload_n hx hb dX9_giveBack_7 rfl (lv_at hl 0 rfl) ?_
  refine lv_aload_n hx hb dX9_giveBack_8 rfl (lv_at hl 0 rfl) ?_
  refine z_get hx hb ht hown hK hP ziX9 rfl 27 (by decide) 8 (by decide) hw_1_175 rfl (v := .ref (q 32)) rfl dX9_giveBack_9 ?_
  refine lv_iload_n hx hb dX9_giveBack_12 rfl (lv_at hl 1 rfl) ?_
  refine z_iald hx hb hK hP 32 (by decide) 25 rfl rfl (zR_vin hpa0 (by decide)) dX9_giveBack_13 ?_
  refine z_eqi (y := R 32 (pa0).toNatClampNeg) rfl ?_
  have f_2 : zR 0 5 (R 32 (pa0).toNatClampNeg) := xR hI 32 (pa0).toNatClampNeg
  refine lv_aload_n hx hb dX9_giveBack_14 rfl (lv_at hl 0 rfl) ?_
  refine z_get hx hb ht hown hK hP ziX9 rfl 27 (by decide) 9 (by decide) hw_1_179 rfl (v := .ref (q 33)) rfl dX9_giveBack_15 ?_
  refine lv_iload_n hx hb dX9_giveBack_18 rfl (lv_at hl 1 rfl) ?_
  refine z_iald hx hb hK hP 33 (by decide) 26 rfl rfl (zR_vin hpa0 (by decide)) dX9_giveBack_19 ?_
  refine z_eqi (y := R 33 (pa0).toNatClampNeg) rfl ?_
  have f_3 : zR 0 4 (R 33 (pa0).toNatClampNeg) := xR hI 33 (pa0).toNatClampNeg
  refine z_callVv (k := 27) (As := [.int (R 32 (pa0).toNatClampNeg), .int (R 33 (pa0).toNatClampNeg)]) (rest := []) hx hb hml hown ht (xk_X9_move_1 l D q cA F _ _ _ hI_1 (R 32 (pa0).toNatClampNeg) f_2 (R 33 (pa0).toNatClampNeg) f_3) hw_3_169 hmX9_move ⟨rfl, rfl⟩ (na := 2) rfl (by decide +kernel) (by decide) (by decide) rfl rfl hK hP hD hS hA hl.1 rfl (Nat.le_of_ble_eq_true rfl) ⟨Nat.zero_le _, Nat.zero_le _⟩ dX9_giveBack_20 (fun I_4 R_4 J_4 H locs hp_4 hP hD hS _ _ => ?_)
  refine lv_aload_n hx hb dX9_giveBack_23 rfl (lv_at hl 0 rfl) ?_
  refine z_get hx hb ht hown hK hP ziX9 rfl 27 (by decide) 9 (by decide) hw_1_179 rfl (v := .ref (q 33)) rfl dX9_giveBack_24 ?_
  refine lv_iload_n hx hb dX9_giveBack_27 rfl (lv_at hl 1 rfl) ?_
  refine z_iald hx hb hK hP 33 (by decide) 26 rfl rfl (zR_vin hpa0 (by decide)) dX9_giveBack_28 ?_
  refine z_eqi (y := R_4 33 (pa0).toNatClampNeg) rfl ?_
  have f_5 : zR 0 4 (R_4 33 (pa0).toNatClampNeg) := xR hp_4 33 (pa0).toNatClampNeg
  exact z_iret (v := R_4 33 (pa0).toNatClampNeg) hx hb hr hlocks hP hD hS dX9_giveBack_29 ⟨f_5, hp_4⟩
set_option maxHeartbeats 4000000 in
set_option maxRecDepth 100000 in
theorem xk_X9_settle_3 (l : Launch) (D : va_G) (q : Nat → Nat) (cA : Nat → ClassId) (F : Nat → Nat → Int32) (I R : Nat → Nat → Int32) (J : Nat → Nat → Int64) (hI : xInv F (I, R, J)) (pa0 : Int32) (hpa0 : zR 0 23 pa0) : zMv l D vwCl (zXtys cA) 81 q (zXd q cA) yX9_settle cX9_settle 4 none ({ frames := 2, cells := 0, slots := 0, locals := 64 } : Room) [.ref (q 27), .int (pa0)] (I, R, J) (fun u => xInv F u) := by
  intro sz
  refine z_body (by decide +kernel) (Nat.le_of_ble_eq_true rfl) (fun p e s m below meth c ls hx hb hml hr ht hown hlocks hsz hK hP hD hS hl => ?_)
  have hA : ∀ a, s.heap.size ≤ a → zA 81 q sz a := fun a h => Or.inr (hsz ▸ h)
  have hl : lv_has ls 4 [(0, .ref (q 27)), (1, .int (pa0))] := hl
  refine lv_aload_n hx hb dX9_settle_0 rfl (lv_at hl 0 rfl) ?_
  refine z_get hx hb ht hown hK hP ziX9 rfl 27 (by decide) 7 (by decide) hw_1_171 rfl (v := .ref (q 31)) rfl dX9_settle_1 ?_
  refine lv_iload_n hx hb dX9_settle_4 rfl (lv_at hl 1 rfl) ?_
  refine z_iald hx hb hK hP 31 (by decide) 24 rfl rfl (zR_vin hpa0 (by decide)) dX9_settle_5 ?_
  refine z_eqi (y := R 31 (pa0).toNatClampNeg) rfl ?_
  have f_1 : zR 0 4 (R 31 (pa0).toNatClampNeg) := xR hI 31 (pa0).toNatClampNeg
  refine lv_istore_n (lv' := [(2, .int (R 31 (pa0).toNatClampNeg)), (0, .ref (q 27)), (1, .int (pa0))]) hx hb dX9_settle_6 rfl hl (by decide) rfl (fun ls hl => ?_)
  refine lv_aload_n hx hb dX9_settle_7 rfl (lv_at hl 1 rfl) ?_
  refine z_get hx hb ht hown hK hP ziX9 rfl 27 (by decide) 4 (by decide) hw_1_164 rfl (v := .ref (q 28)) rfl dX9_settle_8 ?_
  refine lv_iload_n hx hb dX9_settle_11 rfl (lv_at hl 0 rfl) ?_
  refine z_iald hx hb hK hP 28 (by decide) 21 rfl rfl (zR_vin f_1 (by decide)) dX9_settle_12 ?_
  refine z_eqi (y := R 28 (R 31 (pa0).toNatClampNeg).toNatClampNeg) rfl ?_
  refine lv_aload_n hx hb dX9_settle_13 rfl (lv_at hl 1 rfl) ?_
  refine lv_iload_n hx hb dX9_settle_14 rfl (lv_at hl 2 rfl) ?_
  refine z_callVi (k := 27) (As := [.int (pa0)]) (rest := [.int (R 28 (R 31 (pa0).toNatClampNeg).toNatClampNeg)]) hx hb hml hown ht (xk_X9_worthOf_3 l D q cA F _ _ _ hI (pa0) hpa0) hw_3_120 hmX9_worthOf ⟨rfl, rfl⟩ (na := 1) rfl (by decide +kernel) (by decide) (by decide) rfl rfl hK hP hD hS hA hl.1 rfl (Nat.le_of_ble_eq_true rfl) ⟨Nat.zero_le _, Nat.zero_le _⟩ dX9_settle_15 (fun r_2 I_2 R_2 J_2 H locs hp_2 hP hD hS _ _ => ?_)
  cases hp_2
  refine lv_isub hx hb dX9_settle_18 ?_
  refine z_any (fun v_3 => ?_)
  refine lv_istore_n (lv' := [(3, .int (v_3)), (2, .int (R 31 (pa0).toNatClampNeg)), (0, .ref (q 27)), (1, .int (pa0))]) hx hb dX9_settle_19 rfl hl (by decide) rfl (fun ls hl => ?_)
  refine lv_aload_n hx hb dX9_settle_20 rfl (lv_at hl 2 rfl) ?_
  refine lv_iload_n hx hb dX9_settle_21 rfl (lv_at hl 3 rfl) ?_
  refine z_callVi (k := 27) (As := [.int (pa0)]) (rest := []) hx hb hml hown ht (xk_X9_thiefHasIt_3 l D q cA F _ _ _ hI (pa0) hpa0) hw_3_212 hmX9_thiefHasIt ⟨rfl, rfl⟩ (na := 1) rfl (by decide +kernel) (by decide) (by decide) rfl rfl hK hP hD hS hA hl.1 rfl (Nat.le_of_ble_eq_true rfl) ⟨Nat.zero_le _, Nat.zero_le _⟩ dX9_settle_22 (fun r_4 I_4 R_4 J_4 H locs hp_4 hP hD hS _ _ => ?_)
  rcases hp_4 with ⟨rfl, hu_4⟩ | ⟨rfl, hu_4⟩
  · cases hu_4
    refine lv_if_eq (tgt := 63) hx hb dX9_settle_25 (by decide) (fun c_0 => absurd c_0 (zD_ne zk_1 zk_z (by decide))) (fun _ => ?_)
    refine lv_aload_n hx hb dX9_settle_28 rfl (lv_at hl 2 rfl) ?_
    refine z_get hx hb ht hown hK hP ziX9 rfl 27 (by decide) 13 (by decide) hw_1_188 rfl (v := .ref (q 37)) rfl dX9_settle_29 ?_
    refine lv_iload_n hx hb dX9_settle_32 rfl (lv_at hl 1 rfl) ?_
    refine z_iald hx hb hK hP 37 (by decide) 30 rfl rfl (zR_vin f_1 (by decide)) dX9_settle_33 ?_
    refine z_eqi (y := R 37 (R 31 (pa0).toNatClampNeg).toNatClampNeg) rfl ?_
    refine lv_aload_n hx hb dX9_settle_34 rfl (lv_at hl 2 rfl) ?_
    refine z_get hx hb ht hown hK hP ziX9 rfl 27 (by decide) 0 (by decide) hw_1_154 rfl (v := .ref (q 3)) rfl dX9_settle_35 ?_
    refine z_get hx hb ht hown hK hP ziX2 rfl 3 (by decide) 2 (by decide) hw_1_76 rfl (v := .int (I 3 2)) rfl dX9_settle_38 ?_
    refine lv_icmp_ge (tgt := 63) hx hb dX9_settle_41 (by decide) (fun c_5 => ?_) (fun c_5 => ?_)
    · have t_c_5 := z_leT c_5
      refine lv_iload_n hx hb dX9_settle_63 rfl (lv_at hl 0 rfl) ?_
      refine lv_if_lt (tgt := 109) hx hb dX9_settle_64 (by decide) (fun c_6 => ?_) (fun c_6 => ?_)
      · have t_c_6 := z_ltT c_6
        have f_7 : zR (-2147483648) (-1) (v_3) := zR_ltx t_c_6 (zR_any (v_3)) zk_z (by decide)
        refine lv_aload_n hx hb dX9_settle_109 rfl (lv_at hl 2 rfl) ?_
        refine z_get hx hb ht hown hK hP ziX9 rfl 27 (by decide) 11 (by decide) hw_1_185 rfl (v := .ref (q 35)) rfl dX9_settle_110 ?_
        refine lv_iload_n hx hb dX9_settle_113 rfl (lv_at hl 3 rfl) ?_
        refine lv_iconst (v := nI 3) hx hb dX9_settle_114 (by decide +kernel) ?_
        refine z_iast hx hb hK hP hD hS 35 (by decide) 28 (fun _ => rfl) rfl (zR_vin hpa0 (by decide)) dX9_settle_115 (fun H locs hP hD hS => ?_)
        have hI_8 := xInv_R hI 35 (pa0).toNatClampNeg (nI 3) (zR_any _) rfl
        exact z_vret hx hb hr hlocks hP hD hS dX9_settle_116 hI_8
      · have t_c_6 := z_ltF c_6
        have f_9 : zR 0 2147483647 (v_3) := zR_ley t_c_6 zk_z (zR_any (v_3)) (by decide)
        refine lv_aload_n hx hb dX9_settle_67 rfl (lv_at hl 2 rfl) ?_
        refine z_get hx hb ht hown hK hP ziX9 rfl 27 (by decide) 14 (by decide) hw_1_189 rfl (v := .ref (q 38)) rfl dX9_settle_68 ?_
        refine lv_iload_n hx hb dX9_settle_71 rfl (lv_at hl 1 rfl) ?_
        refine lv_aload_n hx hb dX9_settle_72 rfl (lv_at hl 2 rfl) ?_
        refine z_get hx hb ht hown hK hP ziX9 rfl 27 (by decide) 14 (by decide) hw_1_189 rfl (v := .ref (q 38)) rfl dX9_settle_73 ?_
        refine lv_iload_n hx hb dX9_settle_76 rfl (lv_at hl 1 rfl) ?_
        refine z_iald hx hb hK hP 38 (by decide) 31 rfl rfl (zR_vin f_1 (by decide)) dX9_settle_77 ?_
        refine z_eqi (y := R 38 (R 31 (pa0).toNatClampNeg).toNatClampNeg) rfl ?_
        refine lv_iload_n hx hb dX9_settle_78 rfl (lv_at hl 0 rfl) ?_
        refine va_mmin hx hb (hml.trans hl.1.symm) hown (ht _ hw_3_216) (ht _ hw_3_217) (ht _ hw_1_19) (ht _ hw_3_218) (by decide) (Nat.le_of_ble_eq_true rfl) (Nat.zero_le _) (Nat.zero_le _) dX9_settle_79 ?_
        refine z_any (fun v_10 => ?_)
        refine z_iast hx hb hK hP hD hS 38 (by decide) 31 (fun _ => rfl) rfl (zR_vin f_1 (by decide)) dX9_settle_82 (fun H locs hP hD hS => ?_)
        have hI_11 := xInv_R hI 38 (R 31 (pa0).toNatClampNeg).toNatClampNeg (v_10) (zR_any _) rfl
        refine lv_aload_n hx hb dX9_settle_83 rfl (lv_at hl 2 rfl) ?_
        refine lv_iload_n hx hb dX9_settle_84 rfl (lv_at hl 1 rfl) ?_
        refine lv_aload_n hx hb dX9_settle_85 rfl (lv_at hl 2 rfl) ?_
        refine z_get hx hb ht hown hK hP ziX9 rfl 27 (by decide) 9 (by decide) hw_1_179 rfl (v := .ref (q 33)) rfl dX9_settle_86 ?_
        refine lv_iload_n hx hb dX9_settle_89 rfl (lv_at hl 3 rfl) ?_
        refine z_iald hx hb hK hP 33 (by decide) 26 rfl rfl (zR_vin hpa0 (by decide)) dX9_settle_90 ?_
        refine z_eqi (y := R 33 (pa0).toNatClampNeg) rfl ?_
        have f_12 : zR 0 4 (R 33 (pa0).toNatClampNeg) := xR hI 33 (pa0).toNatClampNeg
        refine lv_aload_n hx hb dX9_settle_91 rfl (lv_at hl 2 rfl) ?_
        refine lv_iload_n hx hb dX9_settle_92 rfl (lv_at hl 3 rfl) ?_
        refine z_callVi (k := 27) (As := [.int (pa0)]) (rest := [.int (R 33 (pa0).toNatClampNeg), .int (R 31 (pa0).toNatClampNeg), .ref (q 27)]) hx hb hml hown ht (xk_X9_worthOf_3 l D q cA F _ _ _ hI_11 (pa0) hpa0) hw_3_120 hmX9_worthOf ⟨rfl, rfl⟩ (na := 1) rfl (by decide +kernel) (by decide) (by decide) rfl rfl hK hP hD hS hA hl.1 rfl (Nat.le_of_ble_eq_true rfl) ⟨Nat.zero_le _, Nat.zero_le _⟩ dX9_settle_93 (fun r_13 I_13 R_13 J_13 H locs hp_13 hP hD hS _ _ => ?_)
        cases hp_13
        refine z_callVv (k := 27) (As := [.int (R 31 (pa0).toNatClampNeg), .int (R 33 (pa0).toNatClampNeg), .int (r_13)]) (rest := []) hx hb hml hown ht (xk_X9_pay_1 l D q cA F _ _ _ hI_11 (R 31 (pa0).toNatClampNeg) f_1 (R 33 (pa0).toNatClampNeg) f_12 (r_13)) hw_3_178 hmX9_pay ⟨rfl, rfl⟩ (na := 3) rfl (by decide +kernel) (by decide) (by decide) rfl rfl hK hP hD hS hA hl.1 rfl (Nat.le_of_ble_eq_true rfl) ⟨Nat.zero_le _, Nat.zero_le _⟩ dX9_settle_96 (fun I_14 R_14 J_14 H locs hp_14 hP hD hS _ _ => ?_)
        refine lv_aload_n hx hb dX9_settle_99 rfl (lv_at hl 2 rfl) ?_
        refine z_get hx hb ht hown hK hP ziX9 rfl 27 (by decide) 11 (by decide) hw_1_185 rfl (v := .ref (q 35)) rfl dX9_settle_100 ?_
        refine lv_iload_n hx hb dX9_settle_103 rfl (lv_at hl 3 rfl) ?_
        refine lv_iconst (v := nI 2) hx hb dX9_settle_104 (by decide +kernel) ?_
        refine z_iast hx hb hK hP hD hS 35 (by decide) 28 (fun _ => rfl) rfl (zR_vin hpa0 (by decide)) dX9_settle_105 (fun H locs hP hD hS => ?_)
        have hI_15 := xInv_R hp_14 35 (pa0).toNatClampNeg (nI 2) (zR_any _) rfl
        refine lv_goto (tgt := 116) hx hb dX9_settle_106 (by decide) ?_
        exact z_vret hx hb hr hlocks hP hD hS dX9_settle_116 hI_15
    · have t_c_5 := z_leF c_5
      have f_16 : zR (-2147483648) 2147483646 (R 37 (R 31 (pa0).toNatClampNeg).toNatClampNeg) := zR_ltx t_c_5 (zR_any (R 37 (R 31 (pa0).toNatClampNeg).toNatClampNeg)) (zR_any (I 3 2)) (by decide)
      have f_17 : zR (-2147483647) 2147483647 (I 3 2) := zR_lty t_c_5 (zR_any (R 37 (R 31 (pa0).toNatClampNeg).toNatClampNeg)) (zR_any (I 3 2)) (by decide)
      refine lv_aload_n hx hb dX9_settle_44 rfl (lv_at hl 2 rfl) ?_
      refine z_get hx hb ht hown hK hP ziX9 rfl 27 (by decide) 13 (by decide) hw_1_188 rfl (v := .ref (q 37)) rfl dX9_settle_45 ?_
      refine lv_iload_n hx hb dX9_settle_48 rfl (lv_at hl 1 rfl) ?_
      refine lv_dup2_11 hx hb dX9_settle_49 rfl rfl ?_
      refine z_iald hx hb hK hP 37 (by decide) 30 rfl rfl (zR_vin f_1 (by decide)) dX9_settle_50 ?_
      refine z_eqi (y := R 37 (R 31 (pa0).toNatClampNeg).toNatClampNeg) rfl ?_
      refine lv_iconst (v := nI 1) hx hb dX9_settle_51 (by decide +kernel) ?_
      refine lv_iadd hx hb dX9_settle_52 ?_
      refine z_addc (-2147483647) 2147483647 f_16 zk_1 (by decide) (fun v_18 hv_18 mv_18 => ?_)
      refine z_iast hx hb hK hP hD hS 37 (by decide) 30 (fun _ => rfl) rfl (zR_vin f_1 (by decide)) dX9_settle_53 (fun H locs hP hD hS => ?_)
      have hI_19 := xInv_R hI 37 (R 31 (pa0).toNatClampNeg).toNatClampNeg (v_18) (zR_any _) rfl
      refine lv_aload_n hx hb dX9_settle_54 rfl (lv_at hl 2 rfl) ?_
      refine lv_iload_n hx hb dX9_settle_55 rfl (lv_at hl 3 rfl) ?_
      refine z_callVi (k := 27) (As := [.int (pa0)]) (rest := []) hx hb hml hown ht (xk_X9_giveBack_3 l D q cA F _ _ _ hI_19 (pa0) hpa0) hw_3_182 hmX9_giveBack ⟨rfl, rfl⟩ (na := 1) rfl (by decide +kernel) (by decide) (by decide) rfl rfl hK hP hD hS hA hl.1 rfl (Nat.le_of_ble_eq_true rfl) ⟨Nat.zero_le _, Nat.zero_le _⟩ dX9_settle_56 (fun r_20 I_20 R_20 J_20 H locs hp_20 hP hD hS _ _ => ?_)
      obtain ⟨hr_20, hu_20⟩ := hp_20
      refine lv_pop hx hb dX9_settle_59 rfl ?_
      refine lv_goto (tgt := 116) hx hb dX9_settle_60 (by decide) ?_
      exact z_vret hx hb hr hlocks hP hD hS dX9_settle_116 hu_20
  · cases hu_4
    refine lv_if_eq (tgt := 63) hx hb dX9_settle_25 (by decide) (fun _ => ?_) (fun c_0 => absurd (zD_eq zk_0 zk_z) c_0)
    refine lv_iload_n hx hb dX9_settle_63 rfl (lv_at hl 0 rfl) ?_
    refine lv_if_lt (tgt := 109) hx hb dX9_settle_64 (by decide) (fun c_21 => ?_) (fun c_21 => ?_)
    · have t_c_21 := z_ltT c_21
      have f_22 : zR (-2147483648) (-1) (v_3) := zR_ltx t_c_21 (zR_any (v_3)) zk_z (by decide)
      refine lv_aload_n hx hb dX9_settle_109 rfl (lv_at hl 2 rfl) ?_
      refine z_get hx hb ht hown hK hP ziX9 rfl 27 (by decide) 11 (by decide) hw_1_185 rfl (v := .ref (q 35)) rfl dX9_settle_110 ?_
      refine lv_iload_n hx hb dX9_settle_113 rfl (lv_at hl 3 rfl) ?_
      refine lv_iconst (v := nI 3) hx hb dX9_settle_114 (by decide +kernel) ?_
      refine z_iast hx hb hK hP hD hS 35 (by decide) 28 (fun _ => rfl) rfl (zR_vin hpa0 (by decide)) dX9_settle_115 (fun H locs hP hD hS => ?_)
      have hI_23 := xInv_R hI 35 (pa0).toNatClampNeg (nI 3) (zR_any _) rfl
      exact z_vret hx hb hr hlocks hP hD hS dX9_settle_116 hI_23
    · have t_c_21 := z_ltF c_21
      have f_24 : zR 0 2147483647 (v_3) := zR_ley t_c_21 zk_z (zR_any (v_3)) (by decide)
      refine lv_aload_n hx hb dX9_settle_67 rfl (lv_at hl 2 rfl) ?_
      refine z_get hx hb ht hown hK hP ziX9 rfl 27 (by decide) 14 (by decide) hw_1_189 rfl (v := .ref (q 38)) rfl dX9_settle_68 ?_
      refine lv_iload_n hx hb dX9_settle_71 rfl (lv_at hl 1 rfl) ?_
      refine lv_aload_n hx hb dX9_settle_72 rfl (lv_at hl 2 rfl) ?_
      refine z_get hx hb ht hown hK hP ziX9 rfl 27 (by decide) 14 (by decide) hw_1_189 rfl (v := .ref (q 38)) rfl dX9_settle_73 ?_
      refine lv_iload_n hx hb dX9_settle_76 rfl (lv_at hl 1 rfl) ?_
      refine z_iald hx hb hK hP 38 (by decide) 31 rfl rfl (zR_vin f_1 (by decide)) dX9_settle_77 ?_
      refine z_eqi (y := R 38 (R 31 (pa0).toNatClampNeg).toNatClampNeg) rfl ?_
      refine lv_iload_n hx hb dX9_settle_78 rfl (lv_at hl 0 rfl) ?_
      refine va_mmin hx hb (hml.trans hl.1.symm) hown (ht _ hw_3_216) (ht _ hw_3_217) (ht _ hw_1_19) (ht _ hw_3_218) (by decide) (Nat.le_of_ble_eq_true rfl) (Nat.zero_le _) (Nat.zero_le _) dX9_settle_79 ?_
      refine z_any (fun v_25 => ?_)
      refine z_iast hx hb hK hP hD hS 38 (by decide) 31 (fun _ => rfl) rfl (zR_vin f_1 (by decide)) dX9_settle_82 (fun H locs hP hD hS => ?_)
      have hI_26 := xInv_R hI 38 (R 31 (pa0).toNatClampNeg).toNatClampNeg (v_25) (zR_any _) rfl
      refine lv_aload_n hx hb dX9_settle_83 rfl (lv_at hl 2 rfl) ?_
      refine lv_iload_n hx hb dX9_settle_84 rfl (lv_at hl 1 rfl) ?_
      refine lv_aload_n hx hb dX9_settle_85 rfl (lv_at hl 2 rfl) ?_
      refine z_get hx hb ht hown hK hP ziX9 rfl 27 (by decide) 9 (by decide) hw_1_179 rfl (v := .ref (q 33)) rfl dX9_settle_86 ?_
      refine lv_iload_n hx hb dX9_settle_89 rfl (lv_at hl 3 rfl) ?_
      refine z_iald hx hb hK hP 33 (by decide) 26 rfl rfl (zR_vin hpa0 (by decide)) dX9_settle_90 ?_
      refine z_eqi (y := R 33 (pa0).toNatClampNeg) rfl ?_
      have f_27 : zR 0 4 (R 33 (pa0).toNatClampNeg) := xR hI 33 (pa0).toNatClampNeg
      refine lv_aload_n hx hb dX9_settle_91 rfl (lv_at hl 2 rfl) ?_
      refine lv_iload_n hx hb dX9_settle_92 rfl (lv_at hl 3 rfl) ?_
      refine z_callVi (k := 27) (As := [.int (pa0)]) (rest := [.int (R 33 (pa0).toNatClampNeg), .int (R 31 (pa0).toNatClampNeg), .ref (q 27)]) hx hb hml hown ht (xk_X9_worthOf_3 l D q cA F _ _ _ hI_26 (pa0) hpa0) hw_3_120 hmX9_worthOf ⟨rfl, rfl⟩ (na := 1) rfl (by decide +kernel) (by decide) (by decide) rfl rfl hK hP hD hS hA hl.1 rfl (Nat.le_of_ble_eq_true rfl) ⟨Nat.zero_le _, Nat.zero_le _⟩ dX9_settle_93 (fun r_28 I_28 R_28 J_28 H locs hp_28 hP hD hS _ _ => ?_)
      cases hp_28
      refine z_callVv (k := 27) (As := [.int (R 31 (pa0).toNatClampNeg), .int (R 33 (pa0).toNatClampNeg), .int (r_28)]) (rest := []) hx hb hml hown ht (xk_X9_pay_1 l D q cA F _ _ _ hI_26 (R 31 (pa0).toNatClampNeg) f_1 (R 33 (pa0).toNatClampNeg) f_27 (r_28)) hw_3_178 hmX9_pay ⟨rfl, rfl⟩ (na := 3) rfl (by decide +kernel) (by decide) (by decide) rfl rfl hK hP hD hS hA hl.1 rfl (Nat.le_of_ble_eq_true rfl) ⟨Nat.zero_le _, Nat.zero_le _⟩ dX9_settle_96 (fun I_29 R_29 J_29 H locs hp_29 hP hD hS _ _ => ?_)
      refine lv_aload_n hx hb dX9_settle_99 rfl (lv_at hl 2 rfl) ?_
      refine z_get hx hb ht hown hK hP ziX9 rfl 27 (by decide) 11 (by decide) hw_1_185 rfl (v := .ref (q 35)) rfl dX9_settle_100 ?_
      refine lv_iload_n hx hb dX9_settle_103 rfl (lv_at hl 3 rfl) ?_
      refine lv_iconst (v := nI 2) hx hb dX9_settle_104 (by decide +kernel) ?_
      refine z_iast hx hb hK hP hD hS 35 (by decide) 28 (fun _ => rfl) rfl (zR_vin hpa0 (by decide)) dX9_settle_105 (fun H locs hP hD hS => ?_)
      have hI_30 := xInv_R hp_29 35 (pa0).toNatClampNeg (nI 2) (zR_any _) rfl
      refine lv_goto (tgt := 116) hx hb dX9_settle_106 (by decide) ?_
      exact z_vret hx hb hr hlocks hP hD hS dX9_settle_116 hI_30
set_option maxHeartbeats 4000000 in
set_option maxRecDepth 100000 in
theorem xk_X9_passNight_1 (l : Launch) (D : va_G) (q : Nat → Nat) (cA : Nat → ClassId) (F : Nat → Nat → Int32) (I R : Nat → Nat → Int32) (J : Nat → Nat → Int64) (hI : xInv F (I, R, J))  : zMi l D vwCl (zXtys cA) 81 q (zXd q cA) yX9_passNight cX9_passNight 3 (some .int) ({ frames := 3, cells := 0, slots := 0, locals := 87 } : Room) [.ref (q 27)] (I, R, J) (fun r u => zR 0 16777215 r ∧ xInv F u) := by
  intro sz
  refine z_body (by decide +kernel) (Nat.le_of_ble_eq_true rfl) (fun p e s m below meth c ls hx hb hml hr ht hown hlocks hsz hK hP hD hS hl => ?_)
  have hA : ∀ a, s.heap.size ≤ a → zA 81 q sz a := fun a h => Or.inr (hsz ▸ h)
  have hl : lv_has ls 3 [(0, .ref (q 27))] := hl
  refine lv_aload_n hx hb dX9_passNight_0 rfl (lv_at hl 0 rfl) ?_
  refine lv_dup hx hb dX9_passNight_1 rfl ?_
  refine z_get hx hb ht hown hK hP ziX9 rfl 27 (by decide) 1 (by decide) hw_1_157 rfl (v := .int (I 27 1)) rfl dX9_passNight_2 ?_
  refine lv_iconst (v := nI 1) hx hb dX9_passNight_5 (by decide +kernel) ?_
  refine lv_iadd hx hb dX9_passNight_6 ?_
  refine z_any (fun v_1 => ?_)
  refine z_putI hx hb ht hown hK hP hD hS ziX9 tyX9 tyX9_ok nmX9 rfl 27 (by decide) 1 (by decide) hw_1_157 rfl (v := v_1) rfl rfl rfl (Nat.le_of_ble_eq_true rfl) rfl dX9_passNight_7 (fun H locs hP hD hS => ?_)
  have hI_2 := xInv_I hI 27 1 (v_1) (zR_any (v_1)) rfl
  refine lv_aload_n hx hb dX9_passNight_10 rfl (lv_at hl 0 rfl) ?_
  refine z_get hx hb ht hown hK hP ziX9 rfl 27 (by decide) 13 (by decide) hw_1_188 rfl (v := .ref (q 37)) rfl dX9_passNight_11 ?_
  refine lv_iconst (v := nI 0) hx hb dX9_passNight_14 (by decide +kernel) ?_
  refine z_callSv (As := [.ref (q 37), .int (nI 0)]) (rest := []) hx hb hml hown ht (xk_J7_fill_53178_5 l D q cA F _ _ _ hI_2 (nI 0) (zR_w zk_0 (by decide))) hw_3_50 hmJ7_fill_53178 ⟨rfl, rfl⟩ (na := 2) rfl (by decide +kernel) (by decide) hK hP hD hS hA hl.1 rfl (Nat.le_of_ble_eq_true rfl) ⟨Nat.zero_le _, Nat.zero_le _⟩ dX9_passNight_15 (fun I_3 R_3 J_3 H locs hp_3 hP hD hS _ _ => ?_)
  refine lv_iconst (v := nI 0) hx hb dX9_passNight_18 (by decide +kernel) ?_
  refine lv_istore_n (lv' := [(1, .int (nI 0)), (0, .ref (q 27))]) hx hb dX9_passNight_19 rfl hl (by decide) rfl (fun ls hl => ?_)
  refine lv_iconst (v := nI 0) hx hb dX9_passNight_20 (by decide +kernel) ?_
  refine lv_istore_n (lv' := [(2, .int (nI 0)), (1, .int (nI 0)), (0, .ref (q 27))]) hx hb dX9_passNight_21 rfl hl (by decide) rfl (fun ls hl => ?_)
  have loop_92 : ∀ N : Nat, ∀ x_89 : Int32, zR 0 16777215 x_89 → ∀ x_90 : Int32, zR 0 24 x_90 → ∀ I_91 : Nat → Nat → Int32, ∀ R_91 : Nat → Nat → Int32, ∀ J_91 : Nat → Nat → Int64, xInv F (I_91, R_91, J_91) → (2147483648 - (x_90).toInt).toNat < N → ∀ (H : Heap) (locs : List Loc), va_P D vwCl (zw 81 q (zXd q cA) I_91 R_91 J_91) H → va_D (zA 81 q sz) (zw 81 q (zXd q cA) I_91 R_91 J_91) → va_S (zA 81 q sz) s.heap H locs → ∀ ls : Array Slot, lv_has ls 3 [(0, .ref (q 27)), (1, .int (x_89)), (2, .int (x_90))] → W p l e ({ frames := 3, cells := 0, slots := 0, locals := 87 } : Room) s m ([.ref (q 27)] : List Value).toArray below meth c H locs 0 0 (MQ below (va_Qi (fun r u => zR 0 16777215 r ∧ xInv F u) (zB D vwCl 81 q (zXd q cA) sz) (zA 81 q sz)) ([.ref (q 27)] : List Value).toArray s 0 0 (zA 81 q sz)) (F0 m 22 ls []) := by
    intro N
    induction N with
    | zero => intro x_89 hx_89 x_90 hx_90 I_91 R_91 J_91 hI_91 hN; exact absurd hN (Nat.not_lt_zero _)
    | succ N ih_94 =>
      intro x_89 hx_89 x_90 hx_90 I_91 R_91 J_91 hI_91 hN_93 H locs hP hD hS ls hl
      refine lv_iload_n hx hb dX9_passNight_22 rfl (lv_at hl 2 rfl) ?_
      refine lv_aload_n hx hb dX9_passNight_23 rfl (lv_at hl 0 rfl) ?_
      refine z_get hx hb ht hown hK hP ziX9 rfl 27 (by decide) 2 (by decide) hw_1_159 rfl (v := .int (I_91 27 2)) rfl dX9_passNight_24 ?_
      have f_95 : zR 0 24 (I_91 27 2) := xI hI_91 27 2
      refine lv_icmp_ge (tgt := 82) hx hb dX9_passNight_27 (by decide) (fun c_96 => ?_) (fun c_96 => ?_)
      · have t_c_96 := z_leT c_96
        refine lv_iload_n hx hb dX9_passNight_82 rfl (lv_at hl 1 rfl) ?_
        exact z_iret (v := x_89) hx hb hr hlocks hP hD hS dX9_passNight_83 ⟨hx_89, hI_91⟩
      · have t_c_96 := z_leF c_96
        have f_97 : zR 0 23 (x_90) := zR_ltx t_c_96 hx_90 f_95 (by decide)
        have f_98 : zR 1 24 (I_91 27 2) := zR_lty t_c_96 hx_90 f_95 (by decide)
        refine lv_aload_n hx hb dX9_passNight_30 rfl (lv_at hl 0 rfl) ?_
        refine z_get hx hb ht hown hK hP ziX9 rfl 27 (by decide) 10 (by decide) hw_1_182 rfl (v := .ref (q 34)) rfl dX9_passNight_31 ?_
        refine lv_iload_n hx hb dX9_passNight_34 rfl (lv_at hl 2 rfl) ?_
        refine z_iald hx hb hK hP 34 (by decide) 27 rfl rfl (zR_vin f_97 (by decide)) dX9_passNight_35 ?_
        refine z_eqi (y := R_91 34 (x_90).toNatClampNeg) rfl ?_
        refine lv_aload_n hx hb dX9_passNight_36 rfl (lv_at hl 0 rfl) ?_
        refine z_get hx hb ht hown hK hP ziX9 rfl 27 (by decide) 1 (by decide) hw_1_157 rfl (v := .int (I_91 27 1)) rfl dX9_passNight_37 ?_
        have t_109 : ∀ x_107 : Int32, zR 0 16777215 x_107 → ∀ I_108 : Nat → Nat → Int32, ∀ R_108 : Nat → Nat → Int32, ∀ J_108 : Nat → Nat → Int64, xInv F (I_108, R_108, J_108) → ∀ (H : Heap) (locs : List Loc), va_P D vwCl (zw 81 q (zXd q cA) I_108 R_108 J_108) H → va_D (zA 81 q sz) (zw 81 q (zXd q cA) I_108 R_108 J_108) → va_S (zA 81 q sz) s.heap H locs → ∀ ls : Array Slot, lv_has ls 3 [(0, .ref (q 27)), (1, .int (x_107)), (2, .int (x_90))] → W p l e ({ frames := 3, cells := 0, slots := 0, locals := 87 } : Room) s m ([.ref (q 27)] : List Value).toArray below meth c H locs 0 0 (MQ below (va_Qi (fun r u => zR 0 16777215 r ∧ xInv F u) (zB D vwCl 81 q (zXd q cA) sz) (zA 81 q sz)) ([.ref (q 27)] : List Value).toArray s 0 0 (zA 81 q sz)) (F0 m 76 ls []) := by
          intro x_107 hx_107 I_108 R_108 J_108 hI_108 H locs hP hD hS ls hl
          obtain ⟨v_110, ev_110⟩ : ∃ y : Int32, y = x_90 + nI 1 := ⟨_, rfl⟩
          have hv_110 : zR 1 24 v_110 := ev_110 ▸ zR_add f_97 zk_1 (by decide)
          have mv_110 : v_110.toInt = (x_90).toInt + 1 := by rw [ev_110, zR_addE f_97 zk_1 (by decide)]; rfl
          refine lv_iinc (v := v_110) (lv' := [(2, .int (v_110)), (0, .ref (q 27)), (1, .int (x_107))]) hx hb dX9_passNight_76 hl (k := 2) rfl (ev_110 ▸ rfl) (by decide) rfl (fun ls hl => ?_)
          refine lv_goto (tgt := 22) hx hb dX9_passNight_79 (by decide) ?_
          exact ih_94 (x_107) hx_107 (v_110) (zR_w hv_110 (by decide)) _ _ _ hI_108 (z2_up mv_110 (by decide) hN_93) _ _ hP hD hS _ (lv_sub hl [1, 2, 0] rfl)
        refine lv_icmp_ne (tgt := 76) hx hb dX9_passNight_40 (by decide) (fun c_99 => ?_) (fun c_99 => ?_)
        · have t_c_99 := z_eqF c_99
          exact t_109 (x_89) hx_89 _ _ _ hI_91 _ _ hP hD hS _ (lv_sub hl [0, 1, 2] rfl)
        · have t_c_99 := z_eqT c_99
          refine lv_aload_n hx hb dX9_passNight_43 rfl (lv_at hl 0 rfl) ?_
          refine lv_iload_n hx hb dX9_passNight_44 rfl (lv_at hl 2 rfl) ?_
          refine z_callVi (k := 27) (As := [.int (x_90)]) (rest := []) hx hb hml hown ht (xk_X9_isOpen_3 l D q cA F _ _ _ hI_91 (x_90) f_97) hw_3_75 hmX9_isOpen ⟨rfl, rfl⟩ (na := 1) rfl (by decide +kernel) (by decide) (by decide) rfl rfl hK hP hD hS hA hl.1 rfl (Nat.le_of_ble_eq_true rfl) ⟨Nat.zero_le _, Nat.zero_le _⟩ dX9_passNight_45 (fun r_111 I_111 R_111 J_111 H locs hp_111 hP hD hS _ _ => ?_)
          rcases hp_111 with ⟨rfl, hu_111⟩ | ⟨rfl, hu_111⟩
          · cases hu_111
            refine lv_if_eq (tgt := 76) hx hb dX9_passNight_48 (by decide) (fun c_0 => absurd c_0 (zD_ne zk_1 zk_z (by decide))) (fun _ => ?_)
            refine lv_aload_n hx hb dX9_passNight_51 rfl (lv_at hl 0 rfl) ?_
            refine lv_iload_n hx hb dX9_passNight_52 rfl (lv_at hl 2 rfl) ?_
            refine z_callVv (k := 27) (As := [.int (x_90)]) (rest := []) hx hb hml hown ht (xk_X9_settle_3 l D q cA F _ _ _ hI_91 (x_90) f_97) hw_3_208 hmX9_settle ⟨rfl, rfl⟩ (na := 1) rfl (by decide +kernel) (by decide) (by decide) rfl rfl hK hP hD hS hA hl.1 rfl (Nat.le_of_ble_eq_true rfl) ⟨Nat.zero_le _, Nat.zero_le _⟩ dX9_passNight_53 (fun I_112 R_112 J_112 H locs hp_112 hP hD hS _ _ => ?_)
            refine lv_iload_n hx hb dX9_passNight_56 rfl (lv_at hl 1 rfl) ?_
            refine lv_aload_n hx hb dX9_passNight_57 rfl (lv_at hl 0 rfl) ?_
            refine z_get hx hb ht hown hK hP ziX9 rfl 27 (by decide) 11 (by decide) hw_1_185 rfl (v := .ref (q 35)) rfl dX9_passNight_58 ?_
            refine lv_iload_n hx hb dX9_passNight_61 rfl (lv_at hl 2 rfl) ?_
            refine z_iald hx hb hK hP 35 (by decide) 28 rfl rfl (zR_vin f_97 (by decide)) dX9_passNight_62 ?_
            refine z_eqi (y := R_112 35 (x_90).toNatClampNeg) rfl ?_
            refine lv_iconst (v := nI 3) hx hb dX9_passNight_63 (by decide +kernel) ?_
            have t_117 : ∀ x_116 : Int32, zR 0 8388608 x_116 → ∀ (H : Heap) (locs : List Loc), va_P D vwCl (zw 81 q (zXd q cA) I_112 R_112 J_112) H → va_D (zA 81 q sz) (zw 81 q (zXd q cA) I_112 R_112 J_112) → va_S (zA 81 q sz) s.heap H locs → ∀ ls : Array Slot, lv_has ls 3 [(0, .ref (q 27)), (1, .int (x_89)), (2, .int (x_90))] → W p l e ({ frames := 3, cells := 0, slots := 0, locals := 87 } : Room) s m ([.ref (q 27)] : List Value).toArray below meth c H locs 0 0 (MQ below (va_Qi (fun r u => zR 0 16777215 r ∧ xInv F u) (zB D vwCl 81 q (zXd q cA) sz) (zA 81 q sz)) ([.ref (q 27)] : List Value).toArray s 0 0 (zA 81 q sz)) (F0 m 74 ls [.int (x_116), .int (x_89)]) := by
              intro x_116 hx_116 H locs hP hD hS ls hl
              refine lv_ior hx hb dX9_passNight_74 ?_
              refine z_rng (a := 0) (b := 16777215) (zR_or 24 hx_89 hx_116 (by decide)) (fun v_118 hv_118 => ?_)
              refine lv_istore_n (lv' := [(1, .int (v_118)), (0, .ref (q 27)), (2, .int (x_90))]) hx hb dX9_passNight_75 rfl hl (by decide) rfl (fun ls hl => ?_)
              exact t_109 (v_118) hv_118 _ _ _ hp_112 _ _ hP hD hS _ (lv_sub hl [1, 0, 2] rfl)
            refine lv_icmp_ne (tgt := 73) hx hb dX9_passNight_64 (by decide) (fun c_113 => ?_) (fun c_113 => ?_)
            · have t_c_113 := z_eqF c_113
              refine lv_iconst (v := nI 0) hx hb dX9_passNight_73 (by decide +kernel) ?_
              exact t_117 (nI 0) (zR_w zk_0 (by decide)) _ _ hP hD hS _ (lv_sub hl [0, 1, 2] rfl)
            · have t_c_113 := z_eqT c_113
              have f_119 : zR 3 3 (R_112 35 (x_90).toNatClampNeg) := zR_eqx t_c_113 zk_3
              refine lv_iconst (v := nI 1) hx hb dX9_passNight_67 (by decide +kernel) ?_
              refine lv_iload_n hx hb dX9_passNight_68 rfl (lv_at hl 2 rfl) ?_
              refine lv_ishl hx hb dX9_passNight_69 ?_
              refine z_rng (a := 1) (b := 8388608) (zR_shl1 23 f_97 (by decide)) (fun v_120 hv_120 => ?_)
              refine lv_goto (tgt := 74) hx hb dX9_passNight_70 (by decide) ?_
              exact t_117 (v_120) (zR_w hv_120 (by decide)) _ _ hP hD hS _ (lv_sub hl [0, 1, 2] rfl)
          · cases hu_111
            refine lv_if_eq (tgt := 76) hx hb dX9_passNight_48 (by decide) (fun _ => ?_) (fun c_0 => absurd (zD_eq zk_0 zk_z) c_0)
            exact t_109 (x_89) hx_89 _ _ _ hI_91 _ _ hP hD hS _ (lv_sub hl [0, 1, 2] rfl)
  exact loop_92 _ (nI 0) (zR_w zk_0 (by decide)) (nI 0) (zR_w zk_0 (by decide)) _ _ _ hp_3 (Nat.lt_succ_self _) _ _ hP hD hS _ (lv_sub hl [2, 1, 0] rfl)
set_option maxHeartbeats 4000000 in
set_option maxRecDepth 100000 in
theorem xk_X9_leastPurse (l : Launch) (D : va_G) (q : Nat → Nat) (cA : Nat → ClassId) (F : Nat → Nat → Int32) (I R : Nat → Nat → Int32) (J : Nat → Nat → Int64) (hI : xInv F (I, R, J)) (pa0 : Int32) (hpa0 : zR 0 4 pa0) (pa1 : Int32) (hpa1 : zR 0 60 pa1) : zMi l D vwCl (zXtys cA) 81 q (zXd q cA) yX9_leastPurse cX9_leastPurse 4 (some .int) ({ frames := 4, cells := 0, slots := 0, locals := 109 } : Room) [.ref (q 27), .int (pa0), .int (pa1)] (I, R, J) (fun _ u => xInv F u) := by
  intro sz
  refine z_body (by decide +kernel) (Nat.le_of_ble_eq_true rfl) (fun p e s m below meth c ls hx hb hml hr ht hown hlocks hsz hK hP hD hS hl => ?_)
  have hA : ∀ a, s.heap.size ≤ a → zA 81 q sz a := fun a h => Or.inr (hsz ▸ h)
  have hl : lv_has ls 4 [(0, .ref (q 27)), (1, .int (pa0)), (2, .int (pa1))] := hl
  refine lv_aload_n hx hb dX9_leastPurse_0 rfl (lv_at hl 0 rfl) ?_
  refine z_get hx hb ht hown hK hP ziX9 rfl 27 (by decide) 4 (by decide) hw_1_164 rfl (v := .ref (q 28)) rfl dX9_leastPurse_1 ?_
  refine lv_iload_n hx hb dX9_leastPurse_4 rfl (lv_at hl 1 rfl) ?_
  refine lv_ldc (v := nI 1000000) hx hb hown (ht _ hw_4_164) dX9_leastPurse_5 ?_
  refine z_iast hx hb hK hP hD hS 28 (by decide) 21 (fun _ => rfl) rfl (zR_vin hpa0 (by decide)) dX9_leastPurse_7 (fun H locs hP hD hS => ?_)
  have hI_1 := xInv_R hI 28 (pa0).toNatClampNeg (nI 1000000) (zR_any _) rfl
  refine lv_aload_n hx hb dX9_leastPurse_8 rfl (lv_at hl 0 rfl) ?_
  refine z_get hx hb ht hown hK hP ziX9 rfl 27 (by decide) 14 (by decide) hw_1_189 rfl (v := .ref (q 38)) rfl dX9_leastPurse_9 ?_
  refine lv_iload_n hx hb dX9_leastPurse_12 rfl (lv_at hl 1 rfl) ?_
  refine lv_ldc (v := nI 1000000) hx hb hown (ht _ hw_4_164) dX9_leastPurse_13 ?_
  refine z_iast hx hb hK hP hD hS 38 (by decide) 31 (fun _ => rfl) rfl (zR_vin hpa0 (by decide)) dX9_leastPurse_15 (fun H locs hP hD hS => ?_)
  have hI_2 := xInv_R hI_1 38 (pa0).toNatClampNeg (nI 1000000) (zR_any _) rfl
  refine lv_iconst (v := nI 0) hx hb dX9_leastPurse_16 (by decide +kernel) ?_
  refine lv_istore_n (lv' := [(3, .int (nI 0)), (0, .ref (q 27)), (1, .int (pa0)), (2, .int (pa1))]) hx hb dX9_leastPurse_17 rfl hl (by decide) rfl (fun ls hl => ?_)
  have loop_30 : ∀ N : Nat, ∀ x_28 : Int32, zR 0 60 x_28 → ∀ I_29 : Nat → Nat → Int32, ∀ R_29 : Nat → Nat → Int32, ∀ J_29 : Nat → Nat → Int64, xInv F (I_29, R_29, J_29) → (2147483648 - (x_28).toInt).toNat < N → ∀ (H : Heap) (locs : List Loc), va_P D vwCl (zw 81 q (zXd q cA) I_29 R_29 J_29) H → va_D (zA 81 q sz) (zw 81 q (zXd q cA) I_29 R_29 J_29) → va_S (zA 81 q sz) s.heap H locs → ∀ ls : Array Slot, lv_has ls 4 [(0, .ref (q 27)), (1, .int (pa0)), (2, .int (pa1)), (3, .int (x_28))] → W p l e ({ frames := 4, cells := 0, slots := 0, locals := 109 } : Room) s m ([.ref (q 27), .int (pa0), .int (pa1)] : List Value).toArray below meth c H locs 0 0 (MQ below (va_Qi (fun _ u => xInv F u) (zB D vwCl 81 q (zXd q cA) sz) (zA 81 q sz)) ([.ref (q 27), .int (pa0), .int (pa1)] : List Value).toArray s 0 0 (zA 81 q sz)) (F0 m 18 ls []) := by
    intro N
    induction N with
    | zero => intro x_28 hx_28 I_29 R_29 J_29 hI_29 hN; exact absurd hN (Nat.not_lt_zero _)
    | succ N ih_32 =>
      intro x_28 hx_28 I_29 R_29 J_29 hI_29 hN_31 H locs hP hD hS ls hl
      refine lv_iload_n hx hb dX9_leastPurse_18 rfl (lv_at hl 3 rfl) ?_
      refine lv_iload_n hx hb dX9_leastPurse_19 rfl (lv_at hl 2 rfl) ?_
      refine lv_icmp_ge (tgt := 34) hx hb dX9_leastPurse_20 (by decide) (fun c_33 => ?_) (fun c_33 => ?_)
      · have t_c_33 := z_leT c_33
        refine lv_ldc (v := nI 1000000) hx hb hown (ht _ hw_4_164) dX9_leastPurse_34 ?_
        refine lv_aload_n hx hb dX9_leastPurse_36 rfl (lv_at hl 0 rfl) ?_
        refine z_get hx hb ht hown hK hP ziX9 rfl 27 (by decide) 14 (by decide) hw_1_189 rfl (v := .ref (q 38)) rfl dX9_leastPurse_37 ?_
        refine lv_iload_n hx hb dX9_leastPurse_40 rfl (lv_at hl 1 rfl) ?_
        refine z_iald hx hb hK hP 38 (by decide) 31 rfl rfl (zR_vin hpa0 (by decide)) dX9_leastPurse_41 ?_
        refine z_eqi (y := R_29 38 (pa0).toNatClampNeg) rfl ?_
        refine lv_isub hx hb dX9_leastPurse_42 ?_
        refine z_any (fun v_38 => ?_)
        exact z_iret (v := v_38) hx hb hr hlocks hP hD hS dX9_leastPurse_43 hI_29
      · have t_c_33 := z_leF c_33
        have f_39 : zR 0 59 (x_28) := zR_ltx t_c_33 hx_28 hpa1 (by decide)
        have f_40 : zR 1 60 (pa1) := zR_lty t_c_33 hx_28 hpa1 (by decide)
        refine lv_aload_n hx hb dX9_leastPurse_23 rfl (lv_at hl 0 rfl) ?_
        refine z_callVi (k := 27) (As := []) (rest := []) hx hb hml hown ht (xk_X9_passNight_1 l D q cA F _ _ _ hI_29 ) hw_3_204 hmX9_passNight ⟨rfl, rfl⟩ (na := 0) rfl (by decide +kernel) (by decide) (by decide) rfl rfl hK hP hD hS hA hl.1 rfl (Nat.le_of_ble_eq_true rfl) ⟨Nat.zero_le _, Nat.zero_le _⟩ dX9_leastPurse_24 (fun r_41 I_41 R_41 J_41 H locs hp_41 hP hD hS _ _ => ?_)
        obtain ⟨hr_41, hu_41⟩ := hp_41
        refine lv_pop hx hb dX9_leastPurse_27 rfl ?_
        obtain ⟨v_42, ev_42⟩ : ∃ y : Int32, y = x_28 + nI 1 := ⟨_, rfl⟩
        have hv_42 : zR 1 60 v_42 := ev_42 ▸ zR_add f_39 zk_1 (by decide)
        have mv_42 : v_42.toInt = (x_28).toInt + 1 := by rw [ev_42, zR_addE f_39 zk_1 (by decide)]; rfl
        refine lv_iinc (v := v_42) (lv' := [(3, .int (v_42)), (0, .ref (q 27)), (1, .int (pa0)), (2, .int (pa1))]) hx hb dX9_leastPurse_28 hl (k := 3) rfl (ev_42 ▸ rfl) (by decide) rfl (fun ls hl => ?_)
        refine lv_goto (tgt := 18) hx hb dX9_leastPurse_31 (by decide) ?_
        exact ih_32 (v_42) (zR_w hv_42 (by decide)) _ _ _ hu_41 (z2_up mv_42 (by decide) hN_31) _ _ hP hD hS _ (lv_sub hl [1, 2, 3, 0] rfl)
  exact loop_30 _ (nI 0) (zR_w zk_0 (by decide)) _ _ _ hI_2 (Nat.lt_succ_self _) _ _ hP hD hS _ (lv_sub hl [1, 2, 3, 0] rfl)
set_option maxHeartbeats 4000000 in
set_option maxRecDepth 100000 in
theorem xk_X10_needs (l : Launch) (D : va_G) (q : Nat → Nat) (cA : Nat → ClassId) (F : Nat → Nat → Int32) (I R : Nat → Nat → Int32) (J : Nat → Nat → Int64) (hI : xInv F (I, R, J)) (pa0 : Int32) : zMi l D vwCl (zXtys cA) 81 q (zXd q cA) yX10_needs cX10_needs 2 (some .int) ({ frames := 5, cells := 0, slots := 0, locals := 132 } : Room) [.ref (q 0), .int (pa0)] (I, R, J) (fun _ u => xInv F u) := by
  intro sz
  refine z_body (by decide +kernel) (Nat.le_of_ble_eq_true rfl) (fun p e s m below meth c ls hx hb hml hr ht hown hlocks hsz hK hP hD hS hl => ?_)
  have hA : ∀ a, s.heap.size ≤ a → zA 81 q sz a := fun a h => Or.inr (hsz ▸ h)
  have hl : lv_has ls 2 [(0, .ref (q 0)), (1, .int (pa0))] := hl
  refine lv_aload_n hx hb dX10_needs_0 rfl (lv_at hl 0 rfl) ?_
  refine lv_iload_n hx hb dX10_needs_1 rfl (lv_at hl 1 rfl) ?_
  refine z_callVi (k := 0) (As := [.int (pa0)]) (rest := []) hx hb hml hown ht (xk_X10_isHouse l D q cA F _ _ _ hI (pa0)) hw_3_59 hmX10_isHouse ⟨rfl, rfl⟩ (na := 1) rfl (by decide +kernel) (by decide) (by decide) rfl rfl hK hP hD hS hA hl.1 rfl (Nat.le_of_ble_eq_true rfl) ⟨Nat.zero_le _, Nat.zero_le _⟩ dX10_needs_2 (fun r_1 I_1 R_1 J_1 H locs hp_1 hP hD hS _ _ => ?_)
  rcases hp_1 with ⟨rfl, hu_1, f0_1⟩ | ⟨rfl, hu_1⟩
  · cases hu_1
    refine lv_if_ne (tgt := 11) hx hb dX10_needs_5 (by decide) (fun _ => ?_) (fun c_0 => absurd c_0 (zD_ne zk_1 zk_z (by decide)))
    refine lv_aload_n hx hb dX10_needs_11 rfl (lv_at hl 0 rfl) ?_
    refine z_get hx hb ht hown hK hP ziX10 rfl 0 (by decide) 5 (by decide) hw_2_98 rfl (v := .ref (q 27)) rfl dX10_needs_12 ?_
    refine lv_aload_n hx hb dX10_needs_15 rfl (lv_at hl 0 rfl) ?_
    refine z_get hx hb ht hown hK hP ziX10 rfl 0 (by decide) 4 (by decide) hw_2_97 rfl (v := .ref (q 15)) rfl dX10_needs_16 ?_
    refine z_callVv (k := 27) (As := [.ref (q 15)]) (rest := []) hx hb hml hown ht (xk_X9_copyFrom l D q cA F _ _ _ hI ) hw_4_156 hmX9_copyFrom ⟨rfl, rfl⟩ (na := 1) rfl (by decide +kernel) (by decide) (by decide) rfl rfl hK hP hD hS hA hl.1 rfl (Nat.le_of_ble_eq_true rfl) ⟨Nat.zero_le _, Nat.zero_le _⟩ dX10_needs_19 (fun I_2 R_2 J_2 H locs hp_2 hP hD hS _ _ => ?_)
    refine lv_aload_n hx hb dX10_needs_22 rfl (lv_at hl 0 rfl) ?_
    refine z_get hx hb ht hown hK hP ziX10 rfl 0 (by decide) 5 (by decide) hw_2_98 rfl (v := .ref (q 27)) rfl dX10_needs_23 ?_
    refine lv_iload_n hx hb dX10_needs_26 rfl (lv_at hl 1 rfl) ?_
    refine lv_bipush (v := nI 60) hx hb dX10_needs_27 (by decide +kernel) ?_
    refine z_callVi (k := 27) (As := [.int (pa0), .int (nI 60)]) (rest := []) hx hb hml hown ht (xk_X9_leastPurse l D q cA F _ _ _ hp_2 (pa0) f0_1 (nI 60) (zR_w zk_60 (by decide))) hw_4_160 hmX9_leastPurse ⟨rfl, rfl⟩ (na := 2) rfl (by decide +kernel) (by decide) (by decide) rfl rfl hK hP hD hS hA hl.1 rfl (Nat.le_of_ble_eq_true rfl) ⟨Nat.zero_le _, Nat.zero_le _⟩ dX10_needs_29 (fun r_3 I_3 R_3 J_3 H locs hp_3 hP hD hS _ _ => ?_)
    exact z_iret (v := r_3) hx hb hr hlocks hP hD hS dX10_needs_32 hp_3
  · cases hu_1
    refine lv_if_ne (tgt := 11) hx hb dX10_needs_5 (by decide) (fun c_0 => absurd (zD_eq zk_0 zk_z) c_0) (fun _ => ?_)
    refine lv_bipush (v := (-2)) hx hb dX10_needs_8 (by decide +kernel) ?_
    exact z_iret (v := (-2)) hx hb hr hlocks hP hD hS dX10_needs_10 hI
set_option maxHeartbeats 4000000 in
set_option maxRecDepth 100000 in
theorem xk_X10_isSpan (l : Launch) (D : va_G) (q : Nat → Nat) (cA : Nat → ClassId) (F : Nat → Nat → Int32) (I R : Nat → Nat → Int32) (J : Nat → Nat → Int64) (hI : xInv F (I, R, J)) (pa0 : Int32) : zMi l D vwCl (zXtys cA) 81 q (zXd q cA) yX10_isSpan cX10_isSpan 1 (some .boolean) ({ frames := 0, cells := 0, slots := 0, locals := 0 } : Room) [.int (pa0)] (I, R, J) (fun r u => (r = nI 1 ∧ u = (I, R, J) ∧ zR 0 60 pa0) ∨ (r = nI 0 ∧ u = (I, R, J) ∧ (pa0.toInt < 0 ∨ 60 < pa0.toInt))) := by
  intro sz
  refine z_body (by decide +kernel) (Nat.le_of_ble_eq_true rfl) (fun p e s m below meth c ls hx hb hml hr ht hown hlocks hsz hK hP hD hS hl => ?_)
  have hA : ∀ a, s.heap.size ≤ a → zA 81 q sz a := fun a h => Or.inr (hsz ▸ h)
  have hl : lv_has ls 1 [(0, .int (pa0))] := hl
  refine lv_iload_n hx hb dX10_isSpan_0 rfl (lv_at hl 0 rfl) ?_
  refine lv_if_lt (tgt := 14) hx hb dX10_isSpan_1 (by decide) (fun c_1 => ?_) (fun c_1 => ?_)
  · have t_c_1 := z_ltT c_1
    have f_2 : zR (-2147483648) (-1) (pa0) := zR_ltx t_c_1 (zR_any (pa0)) zk_z (by decide)
    refine lv_iconst (v := nI 0) hx hb dX10_isSpan_14 (by decide +kernel) ?_
    exact z_zret (v := nI 0) hx hb hr hlocks hP hD hS (by decide +kernel) dX10_isSpan_15 (Or.inr ⟨rfl, rfl, (Or.inl (Int.lt_of_le_of_lt f_2.2 (by decide)))⟩)
  · have t_c_1 := z_ltF c_1
    have f_3 : zR 0 2147483647 (pa0) := zR_ley t_c_1 zk_z (zR_any (pa0)) (by decide)
    refine lv_iload_n hx hb dX10_isSpan_4 rfl (lv_at hl 0 rfl) ?_
    refine lv_bipush (v := nI 60) hx hb dX10_isSpan_5 (by decide +kernel) ?_
    refine lv_icmp_gt (tgt := 14) hx hb dX10_isSpan_7 (by decide) (fun c_4 => ?_) (fun c_4 => ?_)
    · have t_c_4 := z_ltT c_4
      have f_5 : zR 61 2147483647 (pa0) := zR_lty t_c_4 zk_60 f_3 (by decide)
      refine lv_iconst (v := nI 0) hx hb dX10_isSpan_14 (by decide +kernel) ?_
      exact z_zret (v := nI 0) hx hb hr hlocks hP hD hS (by decide +kernel) dX10_isSpan_15 (Or.inr ⟨rfl, rfl, (Or.inr (Int.lt_of_lt_of_le (by decide) f_5.1))⟩)
    · have t_c_4 := z_ltF c_4
      have f_6 : zR 0 60 (pa0) := zR_lex t_c_4 f_3 zk_60 (by decide)
      refine lv_iconst (v := nI 1) hx hb dX10_isSpan_10 (by decide +kernel) ?_
      refine lv_goto (tgt := 15) hx hb dX10_isSpan_11 (by decide) ?_
      exact z_zret (v := nI 1) hx hb hr hlocks hP hD hS (by decide +kernel) dX10_isSpan_15 (Or.inl ⟨rfl, rfl, f_6⟩)
set_option maxHeartbeats 4000000 in
set_option maxRecDepth 100000 in
theorem xk_X10_tryNights (l : Launch) (D : va_G) (q : Nat → Nat) (cA : Nat → ClassId) (F : Nat → Nat → Int32) (I R : Nat → Nat → Int32) (J : Nat → Nat → Int64) (hI : xInv F (I, R, J)) (pa0 : Int32) (hpa0 : zR 0 60 pa0) : zMi l D vwCl (zXtys cA) 81 q (zXd q cA) yX10_tryNights cX10_tryNights 4 (some .int) ({ frames := 4, cells := 0, slots := 0, locals := 109 } : Room) [.ref (q 0), .int (pa0)] (I, R, J) (fun r u => zR 0 16777215 r ∧ xInv F u) := by
  intro sz
  refine z_body (by decide +kernel) (Nat.le_of_ble_eq_true rfl) (fun p e s m below meth c ls hx hb hml hr ht hown hlocks hsz hK hP hD hS hl => ?_)
  have hA : ∀ a, s.heap.size ≤ a → zA 81 q sz a := fun a h => Or.inr (hsz ▸ h)
  have hl : lv_has ls 4 [(0, .ref (q 0)), (1, .int (pa0))] := hl
  refine lv_aload_n hx hb dX10_tryNights_0 rfl (lv_at hl 0 rfl) ?_
  refine z_get hx hb ht hown hK hP ziX10 rfl 0 (by decide) 5 (by decide) hw_2_98 rfl (v := .ref (q 27)) rfl dX10_tryNights_1 ?_
  refine lv_aload_n hx hb dX10_tryNights_4 rfl (lv_at hl 0 rfl) ?_
  refine z_get hx hb ht hown hK hP ziX10 rfl 0 (by decide) 4 (by decide) hw_2_97 rfl (v := .ref (q 15)) rfl dX10_tryNights_5 ?_
  refine z_callVv (k := 27) (As := [.ref (q 15)]) (rest := []) hx hb hml hown ht (xk_X9_copyFrom l D q cA F _ _ _ hI ) hw_4_156 hmX9_copyFrom ⟨rfl, rfl⟩ (na := 1) rfl (by decide +kernel) (by decide) (by decide) rfl rfl hK hP hD hS hA hl.1 rfl (Nat.le_of_ble_eq_true rfl) ⟨Nat.zero_le _, Nat.zero_le _⟩ dX10_tryNights_8 (fun I_1 R_1 J_1 H locs hp_1 hP hD hS _ _ => ?_)
  refine lv_iconst (v := nI 0) hx hb dX10_tryNights_11 (by decide +kernel) ?_
  refine lv_istore_n (lv' := [(2, .int (nI 0)), (0, .ref (q 0)), (1, .int (pa0))]) hx hb dX10_tryNights_12 rfl hl (by decide) rfl (fun ls hl => ?_)
  refine lv_iconst (v := nI 0) hx hb dX10_tryNights_13 (by decide +kernel) ?_
  refine lv_istore_n (lv' := [(3, .int (nI 0)), (2, .int (nI 0)), (0, .ref (q 0)), (1, .int (pa0))]) hx hb dX10_tryNights_14 rfl hl (by decide) rfl (fun ls hl => ?_)
  have loop_37 : ∀ N : Nat, ∀ x_34 : Int32, zR 0 16777215 x_34 → ∀ x_35 : Int32, zR 0 60 x_35 → ∀ I_36 : Nat → Nat → Int32, ∀ R_36 : Nat → Nat → Int32, ∀ J_36 : Nat → Nat → Int64, xInv F (I_36, R_36, J_36) → (2147483648 - (x_35).toInt).toNat < N → ∀ (H : Heap) (locs : List Loc), va_P D vwCl (zw 81 q (zXd q cA) I_36 R_36 J_36) H → va_D (zA 81 q sz) (zw 81 q (zXd q cA) I_36 R_36 J_36) → va_S (zA 81 q sz) s.heap H locs → ∀ ls : Array Slot, lv_has ls 4 [(0, .ref (q 0)), (1, .int (pa0)), (2, .int (x_34)), (3, .int (x_35))] → W p l e ({ frames := 4, cells := 0, slots := 0, locals := 109 } : Room) s m ([.ref (q 0), .int (pa0)] : List Value).toArray below meth c H locs 0 0 (MQ below (va_Qi (fun r u => zR 0 16777215 r ∧ xInv F u) (zB D vwCl 81 q (zXd q cA) sz) (zA 81 q sz)) ([.ref (q 0), .int (pa0)] : List Value).toArray s 0 0 (zA 81 q sz)) (F0 m 15 ls []) := by
    intro N
    induction N with
    | zero => intro x_34 hx_34 x_35 hx_35 I_36 R_36 J_36 hI_36 hN; exact absurd hN (Nat.not_lt_zero _)
    | succ N ih_39 =>
      intro x_34 hx_34 x_35 hx_35 I_36 R_36 J_36 hI_36 hN_38 H locs hP hD hS ls hl
      refine lv_iload_n hx hb dX10_tryNights_15 rfl (lv_at hl 3 rfl) ?_
      refine lv_iload_n hx hb dX10_tryNights_16 rfl (lv_at hl 1 rfl) ?_
      refine lv_icmp_ge (tgt := 36) hx hb dX10_tryNights_17 (by decide) (fun c_40 => ?_) (fun c_40 => ?_)
      · have t_c_40 := z_leT c_40
        refine lv_iload_n hx hb dX10_tryNights_36 rfl (lv_at hl 2 rfl) ?_
        exact z_iret (v := x_34) hx hb hr hlocks hP hD hS dX10_tryNights_37 ⟨hx_34, hI_36⟩
      · have t_c_40 := z_leF c_40
        have f_41 : zR 0 59 (x_35) := zR_ltx t_c_40 hx_35 hpa0 (by decide)
        have f_42 : zR 1 60 (pa0) := zR_lty t_c_40 hx_35 hpa0 (by decide)
        refine lv_iload_n hx hb dX10_tryNights_20 rfl (lv_at hl 2 rfl) ?_
        refine lv_aload_n hx hb dX10_tryNights_21 rfl (lv_at hl 0 rfl) ?_
        refine z_get hx hb ht hown hK hP ziX10 rfl 0 (by decide) 5 (by decide) hw_2_98 rfl (v := .ref (q 27)) rfl dX10_tryNights_22 ?_
        refine z_callVi (k := 27) (As := []) (rest := [.int (x_34)]) hx hb hml hown ht (xk_X9_passNight_1 l D q cA F _ _ _ hI_36 ) hw_4_176 hmX9_passNight ⟨rfl, rfl⟩ (na := 0) rfl (by decide +kernel) (by decide) (by decide) rfl rfl hK hP hD hS hA hl.1 rfl (Nat.le_of_ble_eq_true rfl) ⟨Nat.zero_le _, Nat.zero_le _⟩ dX10_tryNights_25 (fun r_43 I_43 R_43 J_43 H locs hp_43 hP hD hS _ _ => ?_)
        obtain ⟨hr_43, hu_43⟩ := hp_43
        refine lv_ior hx hb dX10_tryNights_28 ?_
        refine z_rng (a := 0) (b := 16777215) (zR_or 24 hx_34 hr_43 (by decide)) (fun v_44 hv_44 => ?_)
        refine lv_istore_n (lv' := [(2, .int (v_44)), (0, .ref (q 0)), (1, .int (pa0)), (3, .int (x_35))]) hx hb dX10_tryNights_29 rfl hl (by decide) rfl (fun ls hl => ?_)
        obtain ⟨v_45, ev_45⟩ : ∃ y : Int32, y = x_35 + nI 1 := ⟨_, rfl⟩
        have hv_45 : zR 1 60 v_45 := ev_45 ▸ zR_add f_41 zk_1 (by decide)
        have mv_45 : v_45.toInt = (x_35).toInt + 1 := by rw [ev_45, zR_addE f_41 zk_1 (by decide)]; rfl
        refine lv_iinc (v := v_45) (lv' := [(3, .int (v_45)), (2, .int (v_44)), (0, .ref (q 0)), (1, .int (pa0))]) hx hb dX10_tryNights_30 hl (k := 3) rfl (ev_45 ▸ rfl) (by decide) rfl (fun ls hl => ?_)
        refine lv_goto (tgt := 15) hx hb dX10_tryNights_33 (by decide) ?_
        exact ih_39 (v_44) hv_44 (v_45) (zR_w hv_45 (by decide)) _ _ _ hu_43 (z2_up mv_45 (by decide) hN_38) _ _ hP hD hS _ (lv_sub hl [2, 3, 1, 0] rfl)
  exact loop_37 _ (nI 0) (zR_w zk_0 (by decide)) (nI 0) (zR_w zk_0 (by decide)) _ _ _ hp_1 (Nat.lt_succ_self _) _ _ hP hD hS _ (lv_sub hl [2, 3, 1, 0] rfl)
set_option maxHeartbeats 4000000 in
set_option maxRecDepth 100000 in
theorem xk_X10_fails (l : Launch) (D : va_G) (q : Nat → Nat) (cA : Nat → ClassId) (F : Nat → Nat → Int32) (I R : Nat → Nat → Int32) (J : Nat → Nat → Int64) (hI : xInv F (I, R, J)) (pa0 : Int32) : zMi l D vwCl (zXtys cA) 81 q (zXd q cA) yX10_fails cX10_fails 2 (some .int) ({ frames := 5, cells := 0, slots := 0, locals := 132 } : Room) [.ref (q 0), .int (pa0)] (I, R, J) (fun r u => zR (-2) 16777215 r ∧ xInv F u) := by
  intro sz
  refine z_body (by decide +kernel) (Nat.le_of_ble_eq_true rfl) (fun p e s m below meth c ls hx hb hml hr ht hown hlocks hsz hK hP hD hS hl => ?_)
  have hA : ∀ a, s.heap.size ≤ a → zA 81 q sz a := fun a h => Or.inr (hsz ▸ h)
  have hl : lv_has ls 2 [(0, .ref (q 0)), (1, .int (pa0))] := hl
  refine lv_aload_n hx hb dX10_fails_0 rfl (lv_at hl 0 rfl) ?_
  refine z_callVi (k := 0) (As := []) (rest := []) hx hb hml hown ht (xk_X10_hasCity l D q cA F _ _ _ hI ) hw_4_0 hmX10_hasCity ⟨rfl, rfl⟩ (na := 0) rfl (by decide +kernel) (by decide) (by decide) rfl rfl hK hP hD hS hA hl.1 rfl (Nat.le_of_ble_eq_true rfl) ⟨Nat.zero_le _, Nat.zero_le _⟩ dX10_fails_1 (fun r_1 I_1 R_1 J_1 H locs hp_1 hP hD hS _ _ => ?_)
  rcases hp_1 with ⟨rfl, hu_1⟩ | ⟨rfl, hu_1⟩
  · cases hu_1
    refine lv_if_eq (tgt := 22) hx hb dX10_fails_4 (by decide) (fun c_0 => absurd c_0 (zD_ne zk_1 zk_z (by decide))) (fun _ => ?_)
    refine lv_iload_n hx hb dX10_fails_7 rfl (lv_at hl 1 rfl) ?_
    refine z_callSi (As := [.int (pa0)]) (rest := []) hx hb hml hown ht (xk_X10_isSpan l D q cA F _ _ _ hI (pa0)) hw_4_169 hmX10_isSpan ⟨rfl, rfl⟩ (na := 1) rfl (by decide +kernel) (by decide) hK hP hD hS hA hl.1 rfl (Nat.le_of_ble_eq_true rfl) ⟨Nat.zero_le _, Nat.zero_le _⟩ dX10_fails_8 (fun r_2 I_2 R_2 J_2 H locs hp_2 hP hD hS _ _ => ?_)
    rcases hp_2 with ⟨rfl, hu_2, f0_2⟩ | ⟨rfl, hu_2, nn_2⟩
    · cases hu_2
      refine lv_if_eq (tgt := 22) hx hb dX10_fails_11 (by decide) (fun c_0 => absurd c_0 (zD_ne zk_1 zk_z (by decide))) (fun _ => ?_)
      refine lv_aload_n hx hb dX10_fails_14 rfl (lv_at hl 0 rfl) ?_
      refine lv_iload_n hx hb dX10_fails_15 rfl (lv_at hl 1 rfl) ?_
      refine z_callVi (k := 0) (As := [.int (pa0)]) (rest := []) hx hb hml hown ht (xk_X10_tryNights l D q cA F _ _ _ hI (pa0) f0_2) hw_4_172 hmX10_tryNights ⟨rfl, rfl⟩ (na := 1) rfl (by decide +kernel) (by decide) (by decide) rfl rfl hK hP hD hS hA hl.1 rfl (Nat.le_of_ble_eq_true rfl) ⟨Nat.zero_le _, Nat.zero_le _⟩ dX10_fails_16 (fun r_3 I_3 R_3 J_3 H locs hp_3 hP hD hS _ _ => ?_)
      obtain ⟨hr_3, hu_3⟩ := hp_3
      refine lv_goto (tgt := 24) hx hb dX10_fails_19 (by decide) ?_
      exact z_iret (v := r_3) hx hb hr hlocks hP hD hS dX10_fails_24 ⟨(zR_w hr_3 (by decide)), hu_3⟩
    · cases hu_2
      refine lv_if_eq (tgt := 22) hx hb dX10_fails_11 (by decide) (fun _ => ?_) (fun c_0 => absurd (zD_eq zk_0 zk_z) c_0)
      refine lv_bipush (v := (-2)) hx hb dX10_fails_22 (by decide +kernel) ?_
      exact z_iret (v := (-2)) hx hb hr hlocks hP hD hS dX10_fails_24 ⟨(zR_w zk_m2 (by decide)), hI⟩
  · cases hu_1
    refine lv_if_eq (tgt := 22) hx hb dX10_fails_4 (by decide) (fun _ => ?_) (fun c_0 => absurd (zD_eq zk_0 zk_z) c_0)
    refine lv_bipush (v := (-2)) hx hb dX10_fails_22 (by decide +kernel) ?_
    exact z_iret (v := (-2)) hx hb hr hlocks hP hD hS dX10_fails_24 ⟨(zR_w zk_m2 (by decide)), hI⟩
set_option maxHeartbeats 4000000 in
set_option maxRecDepth 100000 in
theorem xk_X10_later (l : Launch) (D : va_G) (q : Nat → Nat) (cA : Nat → ClassId) (F : Nat → Nat → Int32) (I R : Nat → Nat → Int32) (J : Nat → Nat → Int64) (hI : xInv F (I, R, J)) (pa0 : Int32) (pa1 : Int32) : zMi l D vwCl (zXtys cA) 81 q (zXd q cA) yX10_later cX10_later 3 (some .int) ({ frames := 5, cells := 0, slots := 0, locals := 132 } : Room) [.ref (q 0), .int (pa0), .int (pa1)] (I, R, J) (fun r u => zR (-2) 4 r ∧ xInv F u) := by
  intro sz
  refine z_body (by decide +kernel) (Nat.le_of_ble_eq_true rfl) (fun p e s m below meth c ls hx hb hml hr ht hown hlocks hsz hK hP hD hS hl => ?_)
  have hA : ∀ a, s.heap.size ≤ a → zA 81 q sz a := fun a h => Or.inr (hsz ▸ h)
  have hl : lv_has ls 3 [(0, .ref (q 0)), (1, .int (pa0)), (2, .int (pa1))] := hl
  refine lv_aload_n hx hb dX10_later_0 rfl (lv_at hl 0 rfl) ?_
  refine lv_iload_n hx hb dX10_later_1 rfl (lv_at hl 1 rfl) ?_
  refine z_callVi (k := 0) (As := [.int (pa0)]) (rest := []) hx hb hml hown ht (xk_X10_isThing l D q cA F _ _ _ hI (pa0)) hw_3_87 hmX10_isThing ⟨rfl, rfl⟩ (na := 1) rfl (by decide +kernel) (by decide) (by decide) rfl rfl hK hP hD hS hA hl.1 rfl (Nat.le_of_ble_eq_true rfl) ⟨Nat.zero_le _, Nat.zero_le _⟩ dX10_later_2 (fun r_1 I_1 R_1 J_1 H locs hp_1 hP hD hS _ _ => ?_)
  rcases hp_1 with ⟨rfl, hu_1, f0_1⟩ | ⟨rfl, hu_1⟩
  · cases hu_1
    refine lv_if_eq (tgt := 15) hx hb dX10_later_5 (by decide) (fun c_0 => absurd c_0 (zD_ne zk_1 zk_z (by decide))) (fun _ => ?_)
    refine lv_iload_n hx hb dX10_later_8 rfl (lv_at hl 2 rfl) ?_
    refine z_callSi (As := [.int (pa1)]) (rest := []) hx hb hml hown ht (xk_X10_isSpan l D q cA F _ _ _ hI (pa1)) hw_4_169 hmX10_isSpan ⟨rfl, rfl⟩ (na := 1) rfl (by decide +kernel) (by decide) hK hP hD hS hA hl.1 rfl (Nat.le_of_ble_eq_true rfl) ⟨Nat.zero_le _, Nat.zero_le _⟩ dX10_later_9 (fun r_2 I_2 R_2 J_2 H locs hp_2 hP hD hS _ _ => ?_)
    rcases hp_2 with ⟨rfl, hu_2, f0_2⟩ | ⟨rfl, hu_2, nn_2⟩
    · cases hu_2
      refine lv_if_ne (tgt := 18) hx hb dX10_later_12 (by decide) (fun _ => ?_) (fun c_0 => absurd c_0 (zD_ne zk_1 zk_z (by decide)))
      refine lv_aload_n hx hb dX10_later_18 rfl (lv_at hl 0 rfl) ?_
      refine lv_iload_n hx hb dX10_later_19 rfl (lv_at hl 2 rfl) ?_
      refine z_callVi (k := 0) (As := [.int (pa1)]) (rest := []) hx hb hml hown ht (xk_X10_tryNights l D q cA F _ _ _ hI (pa1) f0_2) hw_4_172 hmX10_tryNights ⟨rfl, rfl⟩ (na := 1) rfl (by decide +kernel) (by decide) (by decide) rfl rfl hK hP hD hS hA hl.1 rfl (Nat.le_of_ble_eq_true rfl) ⟨Nat.zero_le _, Nat.zero_le _⟩ dX10_later_20 (fun r_3 I_3 R_3 J_3 H locs hp_3 hP hD hS _ _ => ?_)
      obtain ⟨hr_3, hu_3⟩ := hp_3
      refine lv_pop hx hb dX10_later_23 rfl ?_
      refine lv_aload_n hx hb dX10_later_24 rfl (lv_at hl 0 rfl) ?_
      refine z_get hx hb ht hown hK hP ziX10 rfl 0 (by decide) 5 (by decide) hw_2_98 rfl (v := .ref (q 27)) rfl dX10_later_25 ?_
      refine z_get hx hb ht hown hK hP ziX9 rfl 27 (by decide) 5 (by decide) hw_1_168 rfl (v := .ref (q 29)) rfl dX10_later_28 ?_
      refine lv_iload_n hx hb dX10_later_31 rfl (lv_at hl 1 rfl) ?_
      refine z_iald hx hb hK hP 29 (by decide) 22 rfl rfl (zR_vin f0_1 (by decide)) dX10_later_32 ?_
      refine z_eqi (y := R_3 29 (pa0).toNatClampNeg) rfl ?_
      have f_4 : zR 0 4 (R_3 29 (pa0).toNatClampNeg) := xR hu_3 29 (pa0).toNatClampNeg
      exact z_iret (v := R_3 29 (pa0).toNatClampNeg) hx hb hr hlocks hP hD hS dX10_later_33 ⟨(zR_w f_4 (by decide)), hu_3⟩
    · cases hu_2
      refine lv_if_ne (tgt := 18) hx hb dX10_later_12 (by decide) (fun c_0 => absurd (zD_eq zk_0 zk_z) c_0) (fun _ => ?_)
      refine lv_bipush (v := (-2)) hx hb dX10_later_15 (by decide +kernel) ?_
      exact z_iret (v := (-2)) hx hb hr hlocks hP hD hS dX10_later_17 ⟨(zR_w zk_m2 (by decide)), hI⟩
  · cases hu_1
    refine lv_if_eq (tgt := 15) hx hb dX10_later_5 (by decide) (fun _ => ?_) (fun c_0 => absurd (zD_eq zk_0 zk_z) c_0)
    refine lv_bipush (v := (-2)) hx hb dX10_later_15 (by decide +kernel) ?_
    exact z_iret (v := (-2)) hx hb hr hlocks hP hD hS dX10_later_17 ⟨(zR_w zk_m2 (by decide)), hI⟩
set_option maxHeartbeats 4000000 in
set_option maxRecDepth 100000 in
theorem xk_X10_purse (l : Launch) (D : va_G) (q : Nat → Nat) (cA : Nat → ClassId) (F : Nat → Nat → Int32) (I R : Nat → Nat → Int32) (J : Nat → Nat → Int64) (hI : xInv F (I, R, J)) (pa0 : Int32) (pa1 : Int32) : zMi l D vwCl (zXtys cA) 81 q (zXd q cA) yX10_purse cX10_purse 3 (some .int) ({ frames := 5, cells := 0, slots := 0, locals := 132 } : Room) [.ref (q 0), .int (pa0), .int (pa1)] (I, R, J) (fun _ u => xInv F u) := by
  intro sz
  refine z_body (by decide +kernel) (Nat.le_of_ble_eq_true rfl) (fun p e s m below meth c ls hx hb hml hr ht hown hlocks hsz hK hP hD hS hl => ?_)
  have hA : ∀ a, s.heap.size ≤ a → zA 81 q sz a := fun a h => Or.inr (hsz ▸ h)
  have hl : lv_has ls 3 [(0, .ref (q 0)), (1, .int (pa0)), (2, .int (pa1))] := hl
  refine lv_aload_n hx hb dX10_purse_0 rfl (lv_at hl 0 rfl) ?_
  refine lv_iload_n hx hb dX10_purse_1 rfl (lv_at hl 1 rfl) ?_
  refine z_callVi (k := 0) (As := [.int (pa0)]) (rest := []) hx hb hml hown ht (xk_X10_isHouse l D q cA F _ _ _ hI (pa0)) hw_3_59 hmX10_isHouse ⟨rfl, rfl⟩ (na := 1) rfl (by decide +kernel) (by decide) (by decide) rfl rfl hK hP hD hS hA hl.1 rfl (Nat.le_of_ble_eq_true rfl) ⟨Nat.zero_le _, Nat.zero_le _⟩ dX10_purse_2 (fun r_1 I_1 R_1 J_1 H locs hp_1 hP hD hS _ _ => ?_)
  rcases hp_1 with ⟨rfl, hu_1, f0_1⟩ | ⟨rfl, hu_1⟩
  · cases hu_1
    refine lv_if_eq (tgt := 15) hx hb dX10_purse_5 (by decide) (fun c_0 => absurd c_0 (zD_ne zk_1 zk_z (by decide))) (fun _ => ?_)
    refine lv_iload_n hx hb dX10_purse_8 rfl (lv_at hl 2 rfl) ?_
    refine z_callSi (As := [.int (pa1)]) (rest := []) hx hb hml hown ht (xk_X10_isSpan l D q cA F _ _ _ hI (pa1)) hw_4_169 hmX10_isSpan ⟨rfl, rfl⟩ (na := 1) rfl (by decide +kernel) (by decide) hK hP hD hS hA hl.1 rfl (Nat.le_of_ble_eq_true rfl) ⟨Nat.zero_le _, Nat.zero_le _⟩ dX10_purse_9 (fun r_2 I_2 R_2 J_2 H locs hp_2 hP hD hS _ _ => ?_)
    rcases hp_2 with ⟨rfl, hu_2, f0_2⟩ | ⟨rfl, hu_2, nn_2⟩
    · cases hu_2
      refine lv_if_ne (tgt := 18) hx hb dX10_purse_12 (by decide) (fun _ => ?_) (fun c_0 => absurd c_0 (zD_ne zk_1 zk_z (by decide)))
      refine lv_aload_n hx hb dX10_purse_18 rfl (lv_at hl 0 rfl) ?_
      refine lv_iload_n hx hb dX10_purse_19 rfl (lv_at hl 2 rfl) ?_
      refine z_callVi (k := 0) (As := [.int (pa1)]) (rest := []) hx hb hml hown ht (xk_X10_tryNights l D q cA F _ _ _ hI (pa1) f0_2) hw_4_172 hmX10_tryNights ⟨rfl, rfl⟩ (na := 1) rfl (by decide +kernel) (by decide) (by decide) rfl rfl hK hP hD hS hA hl.1 rfl (Nat.le_of_ble_eq_true rfl) ⟨Nat.zero_le _, Nat.zero_le _⟩ dX10_purse_20 (fun r_3 I_3 R_3 J_3 H locs hp_3 hP hD hS _ _ => ?_)
      obtain ⟨hr_3, hu_3⟩ := hp_3
      refine lv_pop hx hb dX10_purse_23 rfl ?_
      refine lv_aload_n hx hb dX10_purse_24 rfl (lv_at hl 0 rfl) ?_
      refine z_get hx hb ht hown hK hP ziX10 rfl 0 (by decide) 5 (by decide) hw_2_98 rfl (v := .ref (q 27)) rfl dX10_purse_25 ?_
      refine z_get hx hb ht hown hK hP ziX9 rfl 27 (by decide) 4 (by decide) hw_1_165 rfl (v := .ref (q 28)) rfl dX10_purse_28 ?_
      refine lv_iload_n hx hb dX10_purse_31 rfl (lv_at hl 1 rfl) ?_
      refine z_iald hx hb hK hP 28 (by decide) 21 rfl rfl (zR_vin f0_1 (by decide)) dX10_purse_32 ?_
      refine z_eqi (y := R_3 28 (pa0).toNatClampNeg) rfl ?_
      exact z_iret (v := R_3 28 (pa0).toNatClampNeg) hx hb hr hlocks hP hD hS dX10_purse_33 hu_3
    · cases hu_2
      refine lv_if_ne (tgt := 18) hx hb dX10_purse_12 (by decide) (fun c_0 => absurd (zD_eq zk_0 zk_z) c_0) (fun _ => ?_)
      refine lv_bipush (v := (-2)) hx hb dX10_purse_15 (by decide +kernel) ?_
      exact z_iret (v := (-2)) hx hb hr hlocks hP hD hS dX10_purse_17 hI
  · cases hu_1
    refine lv_if_eq (tgt := 15) hx hb dX10_purse_5 (by decide) (fun _ => ?_) (fun c_0 => absurd (zD_eq zk_0 zk_z) c_0)
    refine lv_bipush (v := (-2)) hx hb dX10_purse_15 (by decide +kernel) ?_
    exact z_iret (v := (-2)) hx hb hr hlocks hP hD hS dX10_purse_17 hI
set_option maxHeartbeats 4000000 in
set_option maxRecDepth 100000 in
theorem xk_X9_callAllIn (l : Launch) (D : va_G) (q : Nat → Nat) (cA : Nat → ClassId) (F : Nat → Nat → Int32) (I R : Nat → Nat → Int32) (J : Nat → Nat → Int64) (hI : xInv F (I, R, J))  : zMv l D vwCl (zXtys cA) 81 q (zXd q cA) yX9_callAllIn cX9_callAllIn 2 none ({ frames := 1, cells := 0, slots := 0, locals := 21 } : Room) [.ref (q 27)] (I, R, J) (fun u => xInv F u) := by
  intro sz
  refine z_body (by decide +kernel) (Nat.le_of_ble_eq_true rfl) (fun p e s m below meth c ls hx hb hml hr ht hown hlocks hsz hK hP hD hS hl => ?_)
  have hA : ∀ a, s.heap.size ≤ a → zA 81 q sz a := fun a h => Or.inr (hsz ▸ h)
  have hl : lv_has ls 2 [(0, .ref (q 27))] := hl
  refine lv_iconst (v := nI 0) hx hb dX9_callAllIn_0 (by decide +kernel) ?_
  refine lv_istore_n (lv' := [(1, .int (nI 0)), (0, .ref (q 27))]) hx hb dX9_callAllIn_1 rfl hl (by decide) rfl (fun ls hl => ?_)
  have loop_44 : ∀ N : Nat, ∀ x_42 : Int32, zR 0 24 x_42 → ∀ R_43 : Nat → Nat → Int32, xInv F (I, R_43, J) → (2147483648 - (x_42).toInt).toNat < N → ∀ (H : Heap) (locs : List Loc), va_P D vwCl (zw 81 q (zXd q cA) I R_43 J) H → va_D (zA 81 q sz) (zw 81 q (zXd q cA) I R_43 J) → va_S (zA 81 q sz) s.heap H locs → ∀ ls : Array Slot, lv_has ls 2 [(0, .ref (q 27)), (1, .int (x_42))] → W p l e ({ frames := 1, cells := 0, slots := 0, locals := 21 } : Room) s m ([.ref (q 27)] : List Value).toArray below meth c H locs 0 0 (MQ below (va_Qv (fun u => xInv F u) (zB D vwCl 81 q (zXd q cA) sz) (zA 81 q sz)) ([.ref (q 27)] : List Value).toArray s 0 0 (zA 81 q sz)) (F0 m 2 ls []) := by
    intro N
    induction N with
    | zero => intro x_42 hx_42 R_43 hI_43 hN; exact absurd hN (Nat.not_lt_zero _)
    | succ N ih_46 =>
      intro x_42 hx_42 R_43 hI_43 hN_45 H locs hP hD hS ls hl
      refine lv_iload_n hx hb dX9_callAllIn_2 rfl (lv_at hl 1 rfl) ?_
      refine lv_aload_n hx hb dX9_callAllIn_3 rfl (lv_at hl 0 rfl) ?_
      refine z_get hx hb ht hown hK hP ziX9 rfl 27 (by decide) 2 (by decide) hw_1_159 rfl (v := .int (I 27 2)) rfl dX9_callAllIn_4 ?_
      have f_47 : zR 0 24 (I 27 2) := xI hI 27 2
      refine lv_icmp_ge (tgt := 36) hx hb dX9_callAllIn_7 (by decide) (fun c_48 => ?_) (fun c_48 => ?_)
      · have t_c_48 := z_leT c_48
        exact z_vret hx hb hr hlocks hP hD hS dX9_callAllIn_36 hI_43
      · have t_c_48 := z_leF c_48
        have f_49 : zR 0 23 (x_42) := zR_ltx t_c_48 hx_42 f_47 (by decide)
        have f_50 : zR 1 24 (I 27 2) := zR_lty t_c_48 hx_42 f_47 (by decide)
        refine lv_aload_n hx hb dX9_callAllIn_10 rfl (lv_at hl 0 rfl) ?_
        refine lv_iload_n hx hb dX9_callAllIn_11 rfl (lv_at hl 1 rfl) ?_
        have t_55 : ∀ R_54 : Nat → Nat → Int32, xInv F (I, R_54, J) → ∀ (H : Heap) (locs : List Loc), va_P D vwCl (zw 81 q (zXd q cA) I R_54 J) H → va_D (zA 81 q sz) (zw 81 q (zXd q cA) I R_54 J) → va_S (zA 81 q sz) s.heap H locs → ∀ ls : Array Slot, lv_has ls 2 [(0, .ref (q 27)), (1, .int (x_42))] → W p l e ({ frames := 1, cells := 0, slots := 0, locals := 21 } : Room) s m ([.ref (q 27)] : List Value).toArray below meth c H locs 0 0 (MQ below (va_Qv (fun u => xInv F u) (zB D vwCl 81 q (zXd q cA) sz) (zA 81 q sz)) ([.ref (q 27)] : List Value).toArray s 0 0 (zA 81 q sz)) (F0 m 30 ls []) := by
          intro R_54 hI_54 H locs hP hD hS ls hl
          obtain ⟨v_56, ev_56⟩ : ∃ y : Int32, y = x_42 + nI 1 := ⟨_, rfl⟩
          have hv_56 : zR 1 24 v_56 := ev_56 ▸ zR_add f_49 zk_1 (by decide)
          have mv_56 : v_56.toInt = (x_42).toInt + 1 := by rw [ev_56, zR_addE f_49 zk_1 (by decide)]; rfl
          refine lv_iinc (v := v_56) (lv' := [(1, .int (v_56)), (0, .ref (q 27))]) hx hb dX9_callAllIn_30 hl (k := 1) rfl (ev_56 ▸ rfl) (by decide) rfl (fun ls hl => ?_)
          refine lv_goto (tgt := 2) hx hb dX9_callAllIn_33 (by decide) ?_
          exact ih_46 (v_56) (zR_w hv_56 (by decide)) _ hI_54 (z2_up mv_56 (by decide) hN_45) _ _ hP hD hS _ (lv_sub hl [1, 0] rfl)
        refine z_callVi (k := 27) (As := [.int (x_42)]) (rest := []) hx hb hml hown ht (xk_X9_isOpen_3 l D q cA F _ _ _ hI_43 (x_42) f_49) hw_3_75 hmX9_isOpen ⟨rfl, rfl⟩ (na := 1) rfl (by decide +kernel) (by decide) (by decide) rfl rfl hK hP hD hS hA hl.1 rfl (Nat.le_of_ble_eq_true rfl) ⟨Nat.zero_le _, Nat.zero_le _⟩ dX9_callAllIn_12 (fun r_51 I_51 R_51 J_51 H locs hp_51 hP hD hS _ _ => ?_)
        rcases hp_51 with ⟨rfl, hu_51⟩ | ⟨rfl, hu_51⟩
        · cases hu_51
          refine lv_if_eq (tgt := 30) hx hb dX9_callAllIn_15 (by decide) (fun c_0 => absurd c_0 (zD_ne zk_1 zk_z (by decide))) (fun _ => ?_)
          refine lv_aload_n hx hb dX9_callAllIn_18 rfl (lv_at hl 0 rfl) ?_
          refine z_get hx hb ht hown hK hP ziX9 rfl 27 (by decide) 10 (by decide) hw_1_182 rfl (v := .ref (q 34)) rfl dX9_callAllIn_19 ?_
          refine lv_iload_n hx hb dX9_callAllIn_22 rfl (lv_at hl 1 rfl) ?_
          refine lv_aload_n hx hb dX9_callAllIn_23 rfl (lv_at hl 0 rfl) ?_
          refine z_get hx hb ht hown hK hP ziX9 rfl 27 (by decide) 1 (by decide) hw_1_157 rfl (v := .int (I 27 1)) rfl dX9_callAllIn_24 ?_
          refine lv_iconst (v := nI 1) hx hb dX9_callAllIn_27 (by decide +kernel) ?_
          refine lv_iadd hx hb dX9_callAllIn_28 ?_
          refine z_any (fun v_57 => ?_)
          refine z_iast hx hb hK hP hD hS 34 (by decide) 27 (fun _ => rfl) rfl (zR_vin f_49 (by decide)) dX9_callAllIn_29 (fun H locs hP hD hS => ?_)
          have hI_58 := xInv_R hI_43 34 (x_42).toNatClampNeg (v_57) (zR_any _) rfl
          exact t_55 _ hI_58 _ _ hP hD hS _ (lv_sub hl [0, 1] rfl)
        · cases hu_51
          refine lv_if_eq (tgt := 30) hx hb dX9_callAllIn_15 (by decide) (fun _ => ?_) (fun c_0 => absurd (zD_eq zk_0 zk_z) c_0)
          exact t_55 _ hI_43 _ _ hP hD hS _ (lv_sub hl [0, 1] rfl)
  exact loop_44 _ (nI 0) (zR_w zk_0 (by decide)) _ hI (Nat.lt_succ_self _) _ _ hP hD hS _ (lv_sub hl [1, 0] rfl)
set_option maxHeartbeats 4000000 in
set_option maxRecDepth 100000 in
theorem xk_X9_thievesOf (l : Launch) (D : va_G) (q : Nat → Nat) (cA : Nat → ClassId) (F : Nat → Nat → Int32) (I R : Nat → Nat → Int32) (J : Nat → Nat → Int64) (hI : xInv F (I, R, J)) (pa0 : Int32) : zMi l D vwCl (zXtys cA) 81 q (zXd q cA) yX9_thievesOf cX9_thievesOf 4 (some .int) ({ frames := 0, cells := 0, slots := 0, locals := 0 } : Room) [.ref (q 27), .int (pa0)] (I, R, J) (fun r u => zR 0 31 r ∧ u = (I, R, J)) := by
  intro sz
  refine z_body (by decide +kernel) (Nat.le_of_ble_eq_true rfl) (fun p e s m below meth c ls hx hb hml hr ht hown hlocks hsz hK hP hD hS hl => ?_)
  have hA : ∀ a, s.heap.size ≤ a → zA 81 q sz a := fun a h => Or.inr (hsz ▸ h)
  have hl : lv_has ls 4 [(0, .ref (q 27)), (1, .int (pa0))] := hl
  refine lv_iconst (v := nI 0) hx hb dX9_thievesOf_0 (by decide +kernel) ?_
  refine lv_istore_n (lv' := [(2, .int (nI 0)), (0, .ref (q 27)), (1, .int (pa0))]) hx hb dX9_thievesOf_1 rfl hl (by decide) rfl (fun ls hl => ?_)
  refine lv_iconst (v := nI 0) hx hb dX9_thievesOf_2 (by decide +kernel) ?_
  refine lv_istore_n (lv' := [(3, .int (nI 0)), (2, .int (nI 0)), (0, .ref (q 27)), (1, .int (pa0))]) hx hb dX9_thievesOf_3 rfl hl (by decide) rfl (fun ls hl => ?_)
  have loop_64 : ∀ N : Nat, ∀ x_62 : Int32, zR 0 31 x_62 → ∀ x_63 : Int32, zR 0 24 x_63 → (2147483648 - (x_63).toInt).toNat < N → ∀ (H : Heap) (locs : List Loc), va_P D vwCl (zw 81 q (zXd q cA) I R J) H → va_D (zA 81 q sz) (zw 81 q (zXd q cA) I R J) → va_S (zA 81 q sz) s.heap H locs → ∀ ls : Array Slot, lv_has ls 4 [(0, .ref (q 27)), (1, .int (pa0)), (2, .int (x_62)), (3, .int (x_63))] → W p l e ({ frames := 0, cells := 0, slots := 0, locals := 0 } : Room) s m ([.ref (q 27), .int (pa0)] : List Value).toArray below meth c H locs 0 0 (MQ below (va_Qi (fun r u => zR 0 31 r ∧ u = (I, R, J)) (zB D vwCl 81 q (zXd q cA) sz) (zA 81 q sz)) ([.ref (q 27), .int (pa0)] : List Value).toArray s 0 0 (zA 81 q sz)) (F0 m 4 ls []) := by
    intro N
    induction N with
    | zero => intro x_62 hx_62 x_63 hx_63 hN; exact absurd hN (Nat.not_lt_zero _)
    | succ N ih_66 =>
      intro x_62 hx_62 x_63 hx_63 hN_65 H locs hP hD hS ls hl
      refine lv_iload_n hx hb dX9_thievesOf_4 rfl (lv_at hl 3 rfl) ?_
      refine lv_aload_n hx hb dX9_thievesOf_5 rfl (lv_at hl 0 rfl) ?_
      refine z_get hx hb ht hown hK hP ziX9 rfl 27 (by decide) 2 (by decide) hw_1_159 rfl (v := .int (I 27 2)) rfl dX9_thievesOf_6 ?_
      have f_67 : zR 0 24 (I 27 2) := xI hI 27 2
      refine lv_icmp_ge (tgt := 41) hx hb dX9_thievesOf_9 (by decide) (fun c_68 => ?_) (fun c_68 => ?_)
      · have t_c_68 := z_leT c_68
        refine lv_iload_n hx hb dX9_thievesOf_41 rfl (lv_at hl 2 rfl) ?_
        exact z_iret (v := x_62) hx hb hr hlocks hP hD hS dX9_thievesOf_42 ⟨hx_62, rfl⟩
      · have t_c_68 := z_leF c_68
        have f_69 : zR 0 23 (x_63) := zR_ltx t_c_68 hx_63 f_67 (by decide)
        have f_70 : zR 1 24 (I 27 2) := zR_lty t_c_68 hx_63 f_67 (by decide)
        refine lv_iload_n hx hb dX9_thievesOf_12 rfl (lv_at hl 2 rfl) ?_
        refine lv_iload_n hx hb dX9_thievesOf_13 rfl (lv_at hl 1 rfl) ?_
        refine lv_iload_n hx hb dX9_thievesOf_14 rfl (lv_at hl 3 rfl) ?_
        refine lv_ishr hx hb dX9_thievesOf_15 ?_
        refine z_any (fun v_71 => ?_)
        refine lv_iconst (v := nI 1) hx hb dX9_thievesOf_16 (by decide +kernel) ?_
        refine lv_iand hx hb dX9_thievesOf_17 ?_
        refine z_rng (a := 0) (b := 1) (zR_andr zk_1 (by decide)) (fun v_72 hv_72 => ?_)
        have t_79 : ∀ x_78 : Int32, zR 0 16 x_78 → ∀ (H : Heap) (locs : List Loc), va_P D vwCl (zw 81 q (zXd q cA) I R J) H → va_D (zA 81 q sz) (zw 81 q (zXd q cA) I R J) → va_S (zA 81 q sz) s.heap H locs → ∀ ls : Array Slot, lv_has ls 4 [(0, .ref (q 27)), (1, .int (pa0)), (2, .int (x_62)), (3, .int (x_63))] → W p l e ({ frames := 0, cells := 0, slots := 0, locals := 0 } : Room) s m ([.ref (q 27), .int (pa0)] : List Value).toArray below meth c H locs 0 0 (MQ below (va_Qi (fun r u => zR 0 31 r ∧ u = (I, R, J)) (zB D vwCl 81 q (zXd q cA) sz) (zA 81 q sz)) ([.ref (q 27), .int (pa0)] : List Value).toArray s 0 0 (zA 81 q sz)) (F0 m 33 ls [.int (x_78), .int (x_62)]) := by
          intro x_78 hx_78 H locs hP hD hS ls hl
          refine lv_ior hx hb dX9_thievesOf_33 ?_
          refine z_rng (a := 0) (b := 31) (zR_or 5 hx_62 hx_78 (by decide)) (fun v_80 hv_80 => ?_)
          refine lv_istore_n (lv' := [(2, .int (v_80)), (0, .ref (q 27)), (1, .int (pa0)), (3, .int (x_63))]) hx hb dX9_thievesOf_34 rfl hl (by decide) rfl (fun ls hl => ?_)
          obtain ⟨v_81, ev_81⟩ : ∃ y : Int32, y = x_63 + nI 1 := ⟨_, rfl⟩
          have hv_81 : zR 1 24 v_81 := ev_81 ▸ zR_add f_69 zk_1 (by decide)
          have mv_81 : v_81.toInt = (x_63).toInt + 1 := by rw [ev_81, zR_addE f_69 zk_1 (by decide)]; rfl
          refine lv_iinc (v := v_81) (lv' := [(3, .int (v_81)), (2, .int (v_80)), (0, .ref (q 27)), (1, .int (pa0))]) hx hb dX9_thievesOf_35 hl (k := 3) rfl (ev_81 ▸ rfl) (by decide) rfl (fun ls hl => ?_)
          refine lv_goto (tgt := 4) hx hb dX9_thievesOf_38 (by decide) ?_
          exact ih_66 (v_80) hv_80 (v_81) (zR_w hv_81 (by decide)) (z2_up mv_81 (by decide) hN_65) _ _ hP hD hS _ (lv_sub hl [2, 3, 1, 0] rfl)
        refine lv_if_eq (tgt := 32) hx hb dX9_thievesOf_18 (by decide) (fun c_73 => ?_) (fun c_73 => ?_)
        · have t_c_73 := z_eqT c_73
          have f_82 : zR 0 0 (v_72) := zR_eqx t_c_73 zk_z
          refine lv_iconst (v := nI 0) hx hb dX9_thievesOf_32 (by decide +kernel) ?_
          exact t_79 (nI 0) (zR_w zk_0 (by decide)) _ _ hP hD hS _ (lv_sub hl [0, 1, 2, 3] rfl)
        · have t_c_73 := z_eqF c_73
          have f_83 : zR 1 1 (v_72) := zR_nex t_c_73 hv_72 zk_z (by decide)
          refine lv_iconst (v := nI 1) hx hb dX9_thievesOf_21 (by decide +kernel) ?_
          refine lv_aload_n hx hb dX9_thievesOf_22 rfl (lv_at hl 0 rfl) ?_
          refine z_get hx hb ht hown hK hP ziX9 rfl 27 (by decide) 7 (by decide) hw_1_171 rfl (v := .ref (q 31)) rfl dX9_thievesOf_23 ?_
          refine lv_iload_n hx hb dX9_thievesOf_26 rfl (lv_at hl 3 rfl) ?_
          refine z_iald hx hb hK hP 31 (by decide) 24 rfl rfl (zR_vin f_69 (by decide)) dX9_thievesOf_27 ?_
          refine z_eqi (y := R 31 (x_63).toNatClampNeg) rfl ?_
          have f_84 : zR 0 4 (R 31 (x_63).toNatClampNeg) := xR hI 31 (x_63).toNatClampNeg
          refine lv_ishl hx hb dX9_thievesOf_28 ?_
          refine z_rng (a := 1) (b := 16) (zR_shl1 4 f_84 (by decide)) (fun v_85 hv_85 => ?_)
          refine lv_goto (tgt := 33) hx hb dX9_thievesOf_29 (by decide) ?_
          exact t_79 (v_85) (zR_w hv_85 (by decide)) _ _ hP hD hS _ (lv_sub hl [0, 1, 2, 3] rfl)
  exact loop_64 _ (nI 0) (zR_w zk_0 (by decide)) (nI 0) (zR_w zk_0 (by decide)) (Nat.lt_succ_self _) _ _ hP hD hS _ (lv_sub hl [2, 3, 1, 0] rfl)
set_option maxHeartbeats 4000000 in
set_option maxRecDepth 100000 in
theorem xk_X10_run (l : Launch) (D : va_G) (q : Nat → Nat) (cA : Nat → ClassId) (F : Nat → Nat → Int32) (I R : Nat → Nat → Int32) (J : Nat → Nat → Int64) (hI : xInv F (I, R, J))  : zMi l D vwCl (zXtys cA) 81 q (zXd q cA) yX10_run cX10_run 1 (some .int) ({ frames := 4, cells := 0, slots := 0, locals := 109 } : Room) [.ref (q 0)] (I, R, J) (fun r u => zR (-2) 31 r ∧ xInv F u) := by
  intro sz
  refine z_body (by decide +kernel) (Nat.le_of_ble_eq_true rfl) (fun p e s m below meth c ls hx hb hml hr ht hown hlocks hsz hK hP hD hS hl => ?_)
  have hA : ∀ a, s.heap.size ≤ a → zA 81 q sz a := fun a h => Or.inr (hsz ▸ h)
  have hl : lv_has ls 1 [(0, .ref (q 0))] := hl
  refine lv_aload_n hx hb dX10_run_0 rfl (lv_at hl 0 rfl) ?_
  refine z_callVi (k := 0) (As := []) (rest := []) hx hb hml hown ht (xk_X10_hasCity l D q cA F _ _ _ hI ) hw_4_0 hmX10_hasCity ⟨rfl, rfl⟩ (na := 0) rfl (by decide +kernel) (by decide) (by decide) rfl rfl hK hP hD hS hA hl.1 rfl (Nat.le_of_ble_eq_true rfl) ⟨Nat.zero_le _, Nat.zero_le _⟩ dX10_run_1 (fun r_1 I_1 R_1 J_1 H locs hp_1 hP hD hS _ _ => ?_)
  rcases hp_1 with ⟨rfl, hu_1⟩ | ⟨rfl, hu_1⟩
  · cases hu_1
    refine lv_if_ne (tgt := 10) hx hb dX10_run_4 (by decide) (fun _ => ?_) (fun c_0 => absurd c_0 (zD_ne zk_1 zk_z (by decide)))
    refine lv_aload_n hx hb dX10_run_10 rfl (lv_at hl 0 rfl) ?_
    refine z_get hx hb ht hown hK hP ziX10 rfl 0 (by decide) 5 (by decide) hw_2_98 rfl (v := .ref (q 27)) rfl dX10_run_11 ?_
    refine lv_aload_n hx hb dX10_run_14 rfl (lv_at hl 0 rfl) ?_
    refine z_get hx hb ht hown hK hP ziX10 rfl 0 (by decide) 4 (by decide) hw_2_97 rfl (v := .ref (q 15)) rfl dX10_run_15 ?_
    refine z_callVv (k := 27) (As := [.ref (q 15)]) (rest := []) hx hb hml hown ht (xk_X9_copyFrom l D q cA F _ _ _ hI ) hw_4_156 hmX9_copyFrom ⟨rfl, rfl⟩ (na := 1) rfl (by decide +kernel) (by decide) (by decide) rfl rfl hK hP hD hS hA hl.1 rfl (Nat.le_of_ble_eq_true rfl) ⟨Nat.zero_le _, Nat.zero_le _⟩ dX10_run_18 (fun I_2 R_2 J_2 H locs hp_2 hP hD hS _ _ => ?_)
    refine lv_aload_n hx hb dX10_run_21 rfl (lv_at hl 0 rfl) ?_
    refine z_get hx hb ht hown hK hP ziX10 rfl 0 (by decide) 5 (by decide) hw_2_98 rfl (v := .ref (q 27)) rfl dX10_run_22 ?_
    refine z_callVv (k := 27) (As := []) (rest := []) hx hb hml hown ht (xk_X9_callAllIn l D q cA F _ _ _ hp_2 ) hw_4_189 hmX9_callAllIn ⟨rfl, rfl⟩ (na := 0) rfl (by decide +kernel) (by decide) (by decide) rfl rfl hK hP hD hS hA hl.1 rfl (Nat.le_of_ble_eq_true rfl) ⟨Nat.zero_le _, Nat.zero_le _⟩ dX10_run_25 (fun I_3 R_3 J_3 H locs hp_3 hP hD hS _ _ => ?_)
    refine lv_aload_n hx hb dX10_run_28 rfl (lv_at hl 0 rfl) ?_
    refine z_get hx hb ht hown hK hP ziX10 rfl 0 (by decide) 5 (by decide) hw_2_98 rfl (v := .ref (q 27)) rfl dX10_run_29 ?_
    refine lv_aload_n hx hb dX10_run_32 rfl (lv_at hl 0 rfl) ?_
    refine z_get hx hb ht hown hK hP ziX10 rfl 0 (by decide) 5 (by decide) hw_2_98 rfl (v := .ref (q 27)) rfl dX10_run_33 ?_
    refine z_callVi (k := 27) (As := []) (rest := [.ref (q 27)]) hx hb hml hown ht (xk_X9_passNight_1 l D q cA F _ _ _ hp_3 ) hw_4_176 hmX9_passNight ⟨rfl, rfl⟩ (na := 0) rfl (by decide +kernel) (by decide) (by decide) rfl rfl hK hP hD hS hA hl.1 rfl (Nat.le_of_ble_eq_true rfl) ⟨Nat.zero_le _, Nat.zero_le _⟩ dX10_run_36 (fun r_4 I_4 R_4 J_4 H locs hp_4 hP hD hS _ _ => ?_)
    obtain ⟨hr_4, hu_4⟩ := hp_4
    refine z_callVi (k := 27) (As := [.int (r_4)]) (rest := []) hx hb hml hown ht (xk_X9_thievesOf l D q cA F _ _ _ hu_4 (r_4)) hw_4_193 hmX9_thievesOf ⟨rfl, rfl⟩ (na := 1) rfl (by decide +kernel) (by decide) (by decide) rfl rfl hK hP hD hS hA hl.1 rfl (Nat.le_of_ble_eq_true rfl) ⟨Nat.zero_le _, Nat.zero_le _⟩ dX10_run_39 (fun r_5 I_5 R_5 J_5 H locs hp_5 hP hD hS _ _ => ?_)
    obtain ⟨hr_5, hu_5⟩ := hp_5
    cases hu_5
    exact z_iret (v := r_5) hx hb hr hlocks hP hD hS dX10_run_42 ⟨(zR_w hr_5 (by decide)), hu_4⟩
  · cases hu_1
    refine lv_if_ne (tgt := 10) hx hb dX10_run_4 (by decide) (fun c_0 => absurd (zD_eq zk_0 zk_z) c_0) (fun _ => ?_)
    refine lv_bipush (v := (-2)) hx hb dX10_run_7 (by decide +kernel) ?_
    exact z_iret (v := (-2)) hx hb hr hlocks hP hD hS dX10_run_9 ⟨(zR_w zk_m2 (by decide)), hI⟩
set_option maxHeartbeats 4000000 in
set_option maxRecDepth 100000 in
theorem xk_X9_owedTo_1 (l : Launch) (D : va_G) (q : Nat → Nat) (cA : Nat → ClassId) (F : Nat → Nat → Int32) (I R : Nat → Nat → Int32) (J : Nat → Nat → Int64) (hI : xInv F (I, R, J)) (pa0 : Int32) (hpa0 : zR 0 4 pa0) (pa1 : Int32) (hpa1 : zR 0 4 pa1) : zMi l D vwCl (zXtys cA) 81 q (zXd q cA) yX9_owedTo cX9_owedTo 3 (some .int) ({ frames := 2, cells := 0, slots := 0, locals := 44 } : Room) [.ref (q 15), .int (pa0), .int (pa1)] (I, R, J) (fun _ u => u = (I, R, J)) := by
  intro sz
  refine z_body (by decide +kernel) (Nat.le_of_ble_eq_true rfl) (fun p e s m below meth c ls hx hb hml hr ht hown hlocks hsz hK hP hD hS hl => ?_)
  have hA : ∀ a, s.heap.size ≤ a → zA 81 q sz a := fun a h => Or.inr (hsz ▸ h)
  have hl : lv_has ls 3 [(0, .ref (q 15)), (1, .int (pa0)), (2, .int (pa1))] := hl
  refine lv_iload_n hx hb dX9_owedTo_0 rfl (lv_at hl 1 rfl) ?_
  refine lv_iload_n hx hb dX9_owedTo_1 rfl (lv_at hl 2 rfl) ?_
  refine lv_icmp_ne (tgt := 9) hx hb dX9_owedTo_2 (by decide) (fun c_1 => ?_) (fun c_1 => ?_)
  · have t_c_1 := z_eqF c_1
    refine lv_aload_n hx hb dX9_owedTo_9 rfl (lv_at hl 0 rfl) ?_
    refine lv_aload_n hx hb dX9_owedTo_10 rfl (lv_at hl 0 rfl) ?_
    refine lv_iload_n hx hb dX9_owedTo_11 rfl (lv_at hl 1 rfl) ?_
    refine z_callVi (k := 15) (As := [.int (pa0)]) (rest := [.ref (q 15)]) hx hb hml hown ht (xk_X9_heldBy l D q cA F _ _ _ hI (pa0) hpa0) hw_3_132 hmX9_heldBy ⟨rfl, rfl⟩ (na := 1) rfl (by decide +kernel) (by decide) (by decide) rfl rfl hK hP hD hS hA hl.1 rfl (Nat.le_of_ble_eq_true rfl) ⟨Nat.zero_le _, Nat.zero_le _⟩ dX9_owedTo_12 (fun r_2 I_2 R_2 J_2 H locs hp_2 hP hD hS _ _ => ?_)
    obtain ⟨hr_2, hu_2⟩ := hp_2
    cases hu_2
    refine lv_aload_n hx hb dX9_owedTo_15 rfl (lv_at hl 0 rfl) ?_
    refine lv_iload_n hx hb dX9_owedTo_16 rfl (lv_at hl 2 rfl) ?_
    refine z_callVi (k := 15) (As := [.int (pa1)]) (rest := [.int (r_2), .ref (q 15)]) hx hb hml hown ht (xk_X9_owedBy l D q cA F _ _ _ hI (pa1) hpa1) hw_3_137 hmX9_owedBy ⟨rfl, rfl⟩ (na := 1) rfl (by decide +kernel) (by decide) (by decide) rfl rfl hK hP hD hS hA hl.1 rfl (Nat.le_of_ble_eq_true rfl) ⟨Nat.zero_le _, Nat.zero_le _⟩ dX9_owedTo_17 (fun r_3 I_3 R_3 J_3 H locs hp_3 hP hD hS _ _ => ?_)
    obtain ⟨hr_3, hu_3⟩ := hp_3
    cases hu_3
    refine lv_iand hx hb dX9_owedTo_20 ?_
    refine z_rng (a := 0) (b := 16777215) (zR_andr hr_3 (by decide)) (fun v_4 hv_4 => ?_)
    refine z_callVi (k := 15) (As := [.int (v_4)]) (rest := []) hx hb hml hown ht (xk_X9_worthOfAll l D q cA F _ _ _ hI (v_4)) hw_3_133 hmX9_worthOfAll ⟨rfl, rfl⟩ (na := 1) rfl (by decide +kernel) (by decide) (by decide) rfl rfl hK hP hD hS hA hl.1 rfl (Nat.le_of_ble_eq_true rfl) ⟨Nat.zero_le _, Nat.zero_le _⟩ dX9_owedTo_21 (fun r_5 I_5 R_5 J_5 H locs hp_5 hP hD hS _ _ => ?_)
    cases hp_5
    exact z_iret (v := r_5) hx hb hr hlocks hP hD hS dX9_owedTo_24 rfl
  · have t_c_1 := z_eqT c_1
    refine lv_iconst (v := nI 0) hx hb dX9_owedTo_5 (by decide +kernel) ?_
    refine lv_goto (tgt := 24) hx hb dX9_owedTo_6 (by decide) ?_
    exact z_iret (v := nI 0) hx hb hr hlocks hP hD hS dX9_owedTo_24 rfl
set_option maxHeartbeats 4000000 in
set_option maxRecDepth 100000 in
theorem xk_X10_hardestHitBy (l : Launch) (D : va_G) (q : Nat → Nat) (cA : Nat → ClassId) (F : Nat → Nat → Int32) (I R : Nat → Nat → Int32) (J : Nat → Nat → Int64) (hI : xInv F (I, R, J)) (pa0 : Int32) (hpa0 : zR 0 4 pa0) : zMi l D vwCl (zXtys cA) 81 q (zXd q cA) yX10_hardestHitBy cX10_hardestHitBy 6 (some .int) ({ frames := 3, cells := 0, slots := 0, locals := 66 } : Room) [.ref (q 0), .int (pa0)] (I, R, J) (fun r u => zR (-1) 4 r ∧ u = (I, R, J)) := by
  intro sz
  refine z_body (by decide +kernel) (Nat.le_of_ble_eq_true rfl) (fun p e s m below meth c ls hx hb hml hr ht hown hlocks hsz hK hP hD hS hl => ?_)
  have hA : ∀ a, s.heap.size ≤ a → zA 81 q sz a := fun a h => Or.inr (hsz ▸ h)
  have hl : lv_has ls 6 [(0, .ref (q 0)), (1, .int (pa0))] := hl
  refine lv_iconst (v := nI 0) hx hb dX10_hardestHitBy_0 (by decide +kernel) ?_
  refine lv_istore_n (lv' := [(2, .int (nI 0)), (0, .ref (q 0)), (1, .int (pa0))]) hx hb dX10_hardestHitBy_1 rfl hl (by decide) rfl (fun ls hl => ?_)
  refine lv_iconst (v := (-1)) hx hb dX10_hardestHitBy_2 (by decide +kernel) ?_
  refine lv_istore_n (lv' := [(3, .int ((-1))), (2, .int (nI 0)), (0, .ref (q 0)), (1, .int (pa0))]) hx hb dX10_hardestHitBy_3 rfl hl (by decide) rfl (fun ls hl => ?_)
  refine lv_iconst (v := nI 0) hx hb dX10_hardestHitBy_4 (by decide +kernel) ?_
  refine lv_istore (lv' := [(4, .int (nI 0)), (3, .int ((-1))), (2, .int (nI 0)), (0, .ref (q 0)), (1, .int (pa0))]) hx hb dX10_hardestHitBy_5 hl (by decide) rfl (fun ls hl => ?_)
  have loop_70 : ∀ N : Nat, ∀ x_67 : Int32, zR 0 2147483647 x_67 → ∀ x_68 : Int32, zR (-1) 4 x_68 → ∀ x_69 : Int32, zR 0 5 x_69 → (2147483648 - (x_69).toInt).toNat < N → ∀ (H : Heap) (locs : List Loc), va_P D vwCl (zw 81 q (zXd q cA) I R J) H → va_D (zA 81 q sz) (zw 81 q (zXd q cA) I R J) → va_S (zA 81 q sz) s.heap H locs → ∀ ls : Array Slot, lv_has ls 6 [(0, .ref (q 0)), (1, .int (pa0)), (2, .int (x_67)), (3, .int (x_68)), (4, .int (x_69))] → W p l e ({ frames := 3, cells := 0, slots := 0, locals := 66 } : Room) s m ([.ref (q 0), .int (pa0)] : List Value).toArray below meth c H locs 0 0 (MQ below (va_Qi (fun r u => zR (-1) 4 r ∧ u = (I, R, J)) (zB D vwCl 81 q (zXd q cA) sz) (zA 81 q sz)) ([.ref (q 0), .int (pa0)] : List Value).toArray s 0 0 (zA 81 q sz)) (F0 m 7 ls []) := by
    intro N
    induction N with
    | zero => intro x_67 hx_67 x_68 hx_68 x_69 hx_69 hN; exact absurd hN (Nat.not_lt_zero _)
    | succ N ih_72 =>
      intro x_67 hx_67 x_68 hx_68 x_69 hx_69 hN_71 H locs hP hD hS ls hl
      refine lv_iload hx hb dX10_hardestHitBy_7 (lv_at hl 4 rfl) ?_
      refine lv_aload_n hx hb dX10_hardestHitBy_9 rfl (lv_at hl 0 rfl) ?_
      refine z_get hx hb ht hown hK hP ziX10 rfl 0 (by decide) 1 (by decide) hw_2_94 rfl (v := .ref (q 3)) rfl dX10_hardestHitBy_10 ?_
      refine z_get hx hb ht hown hK hP ziX2 rfl 3 (by decide) 4 (by decide) hw_1_85 rfl (v := .int (I 3 4)) rfl dX10_hardestHitBy_13 ?_
      have f_73 : zR 0 5 (I 3 4) := xI hI 3 4
      refine lv_icmp_ge (tgt := 49) hx hb dX10_hardestHitBy_16 (by decide) (fun c_74 => ?_) (fun c_74 => ?_)
      · have t_c_74 := z_leT c_74
        refine lv_iload_n hx hb dX10_hardestHitBy_49 rfl (lv_at hl 3 rfl) ?_
        exact z_iret (v := x_68) hx hb hr hlocks hP hD hS dX10_hardestHitBy_50 ⟨hx_68, rfl⟩
      · have t_c_74 := z_leF c_74
        have f_75 : zR 0 4 (x_69) := zR_ltx t_c_74 hx_69 f_73 (by decide)
        have f_76 : zR 1 5 (I 3 4) := zR_lty t_c_74 hx_69 f_73 (by decide)
        refine lv_aload_n hx hb dX10_hardestHitBy_19 rfl (lv_at hl 0 rfl) ?_
        refine z_get hx hb ht hown hK hP ziX10 rfl 0 (by decide) 4 (by decide) hw_2_97 rfl (v := .ref (q 15)) rfl dX10_hardestHitBy_20 ?_
        refine lv_iload hx hb dX10_hardestHitBy_23 (lv_at hl 4 rfl) ?_
        refine lv_iload_n hx hb dX10_hardestHitBy_25 rfl (lv_at hl 1 rfl) ?_
        refine z_callVi (k := 15) (As := [.int (x_69), .int (pa0)]) (rest := []) hx hb hml hown ht (xk_X9_owedTo_1 l D q cA F _ _ _ hI (x_69) f_75 (pa0) hpa0) hw_4_205 hmX9_owedTo ⟨rfl, rfl⟩ (na := 2) rfl (by decide +kernel) (by decide) (by decide) rfl rfl hK hP hD hS hA hl.1 rfl (Nat.le_of_ble_eq_true rfl) ⟨Nat.zero_le _, Nat.zero_le _⟩ dX10_hardestHitBy_26 (fun r_77 I_77 R_77 J_77 H locs hp_77 hP hD hS _ _ => ?_)
        cases hp_77
        refine lv_istore (lv' := [(5, .int (r_77)), (0, .ref (q 0)), (1, .int (pa0)), (2, .int (x_67)), (3, .int (x_68)), (4, .int (x_69))]) hx hb dX10_hardestHitBy_29 hl (by decide) rfl (fun ls hl => ?_)
        refine lv_iload hx hb dX10_hardestHitBy_31 (lv_at hl 0 rfl) ?_
        refine lv_iload_n hx hb dX10_hardestHitBy_33 rfl (lv_at hl 3 rfl) ?_
        have t_83 : ∀ x_81 : Int32, zR 0 2147483647 x_81 → ∀ x_82 : Int32, zR (-1) 4 x_82 → ∀ (H : Heap) (locs : List Loc), va_P D vwCl (zw 81 q (zXd q cA) I R J) H → va_D (zA 81 q sz) (zw 81 q (zXd q cA) I R J) → va_S (zA 81 q sz) s.heap H locs → ∀ ls : Array Slot, lv_has ls 6 [(0, .ref (q 0)), (1, .int (pa0)), (2, .int (x_81)), (3, .int (x_82)), (4, .int (x_69)), (5, .int (r_77))] → W p l e ({ frames := 3, cells := 0, slots := 0, locals := 66 } : Room) s m ([.ref (q 0), .int (pa0)] : List Value).toArray below meth c H locs 0 0 (MQ below (va_Qi (fun r u => zR (-1) 4 r ∧ u = (I, R, J)) (zB D vwCl 81 q (zXd q cA) sz) (zA 81 q sz)) ([.ref (q 0), .int (pa0)] : List Value).toArray s 0 0 (zA 81 q sz)) (F0 m 43 ls []) := by
          intro x_81 hx_81 x_82 hx_82 H locs hP hD hS ls hl
          obtain ⟨v_84, ev_84⟩ : ∃ y : Int32, y = x_69 + nI 1 := ⟨_, rfl⟩
          have hv_84 : zR 1 5 v_84 := ev_84 ▸ zR_add f_75 zk_1 (by decide)
          have mv_84 : v_84.toInt = (x_69).toInt + 1 := by rw [ev_84, zR_addE f_75 zk_1 (by decide)]; rfl
          refine lv_iinc (v := v_84) (lv' := [(4, .int (v_84)), (0, .ref (q 0)), (1, .int (pa0)), (2, .int (x_81)), (3, .int (x_82)), (5, .int (r_77))]) hx hb dX10_hardestHitBy_43 hl (k := 4) rfl (ev_84 ▸ rfl) (by decide) rfl (fun ls hl => ?_)
          refine lv_goto (tgt := 7) hx hb dX10_hardestHitBy_46 (by decide) ?_
          exact ih_72 (x_81) hx_81 (x_82) hx_82 (v_84) (zR_w hv_84 (by decide)) (z2_up mv_84 (by decide) hN_71) _ _ hP hD hS _ (lv_sub hl [1, 2, 3, 4, 0] rfl)
        refine lv_icmp_le (tgt := 43) hx hb dX10_hardestHitBy_34 (by decide) (fun c_78 => ?_) (fun c_78 => ?_)
        · have t_c_78 := z_leT c_78
          exact t_83 (x_67) hx_67 (x_68) hx_68 _ _ hP hD hS _ (lv_sub hl [1, 2, 3, 4, 5, 0] rfl)
        · have t_c_78 := z_leF c_78
          have f_85 : zR 0 2147483646 (x_67) := zR_ltx t_c_78 hx_67 (zR_any (r_77)) (by decide)
          have f_86 : zR 1 2147483647 (r_77) := zR_lty t_c_78 hx_67 (zR_any (r_77)) (by decide)
          refine lv_iload hx hb dX10_hardestHitBy_37 (lv_at hl 0 rfl) ?_
          refine lv_istore_n (lv' := [(2, .int (r_77)), (5, .int (r_77)), (0, .ref (q 0)), (1, .int (pa0)), (3, .int (x_68)), (4, .int (x_69))]) hx hb dX10_hardestHitBy_39 rfl hl (by decide) rfl (fun ls hl => ?_)
          refine lv_iload hx hb dX10_hardestHitBy_40 (lv_at hl 5 rfl) ?_
          refine lv_istore_n (lv' := [(3, .int (x_69)), (2, .int (r_77)), (5, .int (r_77)), (0, .ref (q 0)), (1, .int (pa0)), (4, .int (x_69))]) hx hb dX10_hardestHitBy_42 rfl hl (by decide) rfl (fun ls hl => ?_)
          exact t_83 (r_77) (zR_w f_86 (by decide)) (x_69) (zR_w f_75 (by decide)) _ _ hP hD hS _ (lv_sub hl [3, 4, 1, 0, 5, 2] rfl)
  exact loop_70 _ (nI 0) (zR_w zk_0 (by decide)) ((-1)) (zR_w zk_m1 (by decide)) (nI 0) (zR_w zk_0 (by decide)) (Nat.lt_succ_self _) _ _ hP hD hS _ (lv_sub hl [3, 4, 2, 1, 0] rfl)
set_option maxHeartbeats 4000000 in
set_option maxRecDepth 100000 in
theorem xk_X10_hit (l : Launch) (D : va_G) (q : Nat → Nat) (cA : Nat → ClassId) (F : Nat → Nat → Int32) (I R : Nat → Nat → Int32) (J : Nat → Nat → Int64) (hI : xInv F (I, R, J)) (pa0 : Int32) : zMi l D vwCl (zXtys cA) 81 q (zXd q cA) yX10_hit cX10_hit 3 (some .int) ({ frames := 4, cells := 0, slots := 0, locals := 91 } : Room) [.ref (q 0), .int (pa0)] (I, R, J) (fun _ u => u = (I, R, J)) := by
  intro sz
  refine z_body (by decide +kernel) (Nat.le_of_ble_eq_true rfl) (fun p e s m below meth c ls hx hb hml hr ht hown hlocks hsz hK hP hD hS hl => ?_)
  have hA : ∀ a, s.heap.size ≤ a → zA 81 q sz a := fun a h => Or.inr (hsz ▸ h)
  have hl : lv_has ls 3 [(0, .ref (q 0)), (1, .int (pa0))] := hl
  refine lv_aload_n hx hb dX10_hit_0 rfl (lv_at hl 0 rfl) ?_
  refine lv_iload_n hx hb dX10_hit_1 rfl (lv_at hl 1 rfl) ?_
  refine z_callVi (k := 0) (As := [.int (pa0)]) (rest := []) hx hb hml hown ht (xk_X10_isHouse l D q cA F _ _ _ hI (pa0)) hw_3_59 hmX10_isHouse ⟨rfl, rfl⟩ (na := 1) rfl (by decide +kernel) (by decide) (by decide) rfl rfl hK hP hD hS hA hl.1 rfl (Nat.le_of_ble_eq_true rfl) ⟨Nat.zero_le _, Nat.zero_le _⟩ dX10_hit_2 (fun r_1 I_1 R_1 J_1 H locs hp_1 hP hD hS _ _ => ?_)
  rcases hp_1 with ⟨rfl, hu_1, f0_1⟩ | ⟨rfl, hu_1⟩
  · cases hu_1
    refine lv_if_ne (tgt := 11) hx hb dX10_hit_5 (by decide) (fun _ => ?_) (fun c_0 => absurd c_0 (zD_ne zk_1 zk_z (by decide)))
    refine lv_aload_n hx hb dX10_hit_11 rfl (lv_at hl 0 rfl) ?_
    refine lv_iload_n hx hb dX10_hit_12 rfl (lv_at hl 1 rfl) ?_
    refine z_callVi (k := 0) (As := [.int (pa0)]) (rest := []) hx hb hml hown ht (xk_X10_hardestHitBy l D q cA F _ _ _ hI (pa0) f0_1) hw_4_201 hmX10_hardestHitBy ⟨rfl, rfl⟩ (na := 1) rfl (by decide +kernel) (by decide) (by decide) rfl rfl hK hP hD hS hA hl.1 rfl (Nat.le_of_ble_eq_true rfl) ⟨Nat.zero_le _, Nat.zero_le _⟩ dX10_hit_13 (fun r_2 I_2 R_2 J_2 H locs hp_2 hP hD hS _ _ => ?_)
    obtain ⟨hr_2, hu_2⟩ := hp_2
    cases hu_2
    refine lv_istore_n (lv' := [(2, .int (r_2)), (0, .ref (q 0)), (1, .int (pa0))]) hx hb dX10_hit_16 rfl hl (by decide) rfl (fun ls hl => ?_)
    refine lv_iload_n hx hb dX10_hit_17 rfl (lv_at hl 0 rfl) ?_
    refine lv_iconst (v := (-1)) hx hb dX10_hit_18 (by decide +kernel) ?_
    refine lv_icmp_ne (tgt := 26) hx hb dX10_hit_19 (by decide) (fun c_3 => ?_) (fun c_3 => ?_)
    · have t_c_3 := z_eqF c_3
      have f_4 : zR 0 4 (r_2) := zR_nex t_c_3 hr_2 zk_m1 (by decide)
      refine lv_aload_n hx hb dX10_hit_26 rfl (lv_at hl 1 rfl) ?_
      refine z_get hx hb ht hown hK hP ziX10 rfl 0 (by decide) 4 (by decide) hw_2_97 rfl (v := .ref (q 15)) rfl dX10_hit_27 ?_
      refine lv_iload_n hx hb dX10_hit_30 rfl (lv_at hl 0 rfl) ?_
      refine lv_iload_n hx hb dX10_hit_31 rfl (lv_at hl 2 rfl) ?_
      refine z_callVi (k := 15) (As := [.int (r_2), .int (pa0)]) (rest := []) hx hb hml hown ht (xk_X9_owedTo_1 l D q cA F _ _ _ hI (r_2) f_4 (pa0) f0_1) hw_4_205 hmX9_owedTo ⟨rfl, rfl⟩ (na := 2) rfl (by decide +kernel) (by decide) (by decide) rfl rfl hK hP hD hS hA hl.1 rfl (Nat.le_of_ble_eq_true rfl) ⟨Nat.zero_le _, Nat.zero_le _⟩ dX10_hit_32 (fun r_5 I_5 R_5 J_5 H locs hp_5 hP hD hS _ _ => ?_)
      cases hp_5
      exact z_iret (v := r_5) hx hb hr hlocks hP hD hS dX10_hit_35 rfl
    · have t_c_3 := z_eqT c_3
      have f_6 : zR (-1) (-1) (r_2) := zR_eqx t_c_3 zk_m1
      refine lv_iconst (v := nI 0) hx hb dX10_hit_22 (by decide +kernel) ?_
      refine lv_goto (tgt := 35) hx hb dX10_hit_23 (by decide) ?_
      exact z_iret (v := nI 0) hx hb hr hlocks hP hD hS dX10_hit_35 rfl
  · cases hu_1
    refine lv_if_ne (tgt := 11) hx hb dX10_hit_5 (by decide) (fun c_0 => absurd (zD_eq zk_0 zk_z) c_0) (fun _ => ?_)
    refine lv_bipush (v := (-2)) hx hb dX10_hit_8 (by decide +kernel) ?_
    exact z_iret (v := (-2)) hx hb hr hlocks hP hD hS dX10_hit_10 rfl
set_option maxHeartbeats 4000000 in
set_option maxRecDepth 100000 in
theorem xk_X10_hits (l : Launch) (D : va_G) (q : Nat → Nat) (cA : Nat → ClassId) (F : Nat → Nat → Int32) (I R : Nat → Nat → Int32) (J : Nat → Nat → Int64) (hI : xInv F (I, R, J)) (pa0 : Int32) : zMi l D vwCl (zXtys cA) 81 q (zXd q cA) yX10_hits cX10_hits 2 (some .int) ({ frames := 4, cells := 0, slots := 0, locals := 91 } : Room) [.ref (q 0), .int (pa0)] (I, R, J) (fun r u => zR (-2) 4 r ∧ u = (I, R, J)) := by
  intro sz
  refine z_body (by decide +kernel) (Nat.le_of_ble_eq_true rfl) (fun p e s m below meth c ls hx hb hml hr ht hown hlocks hsz hK hP hD hS hl => ?_)
  have hA : ∀ a, s.heap.size ≤ a → zA 81 q sz a := fun a h => Or.inr (hsz ▸ h)
  have hl : lv_has ls 2 [(0, .ref (q 0)), (1, .int (pa0))] := hl
  refine lv_aload_n hx hb dX10_hits_0 rfl (lv_at hl 0 rfl) ?_
  refine lv_iload_n hx hb dX10_hits_1 rfl (lv_at hl 1 rfl) ?_
  refine z_callVi (k := 0) (As := [.int (pa0)]) (rest := []) hx hb hml hown ht (xk_X10_isHouse l D q cA F _ _ _ hI (pa0)) hw_3_59 hmX10_isHouse ⟨rfl, rfl⟩ (na := 1) rfl (by decide +kernel) (by decide) (by decide) rfl rfl hK hP hD hS hA hl.1 rfl (Nat.le_of_ble_eq_true rfl) ⟨Nat.zero_le _, Nat.zero_le _⟩ dX10_hits_2 (fun r_1 I_1 R_1 J_1 H locs hp_1 hP hD hS _ _ => ?_)
  rcases hp_1 with ⟨rfl, hu_1, f0_1⟩ | ⟨rfl, hu_1⟩
  · cases hu_1
    refine lv_if_eq (tgt := 16) hx hb dX10_hits_5 (by decide) (fun c_0 => absurd c_0 (zD_ne zk_1 zk_z (by decide))) (fun _ => ?_)
    refine lv_aload_n hx hb dX10_hits_8 rfl (lv_at hl 0 rfl) ?_
    refine lv_iload_n hx hb dX10_hits_9 rfl (lv_at hl 1 rfl) ?_
    refine z_callVi (k := 0) (As := [.int (pa0)]) (rest := []) hx hb hml hown ht (xk_X10_hardestHitBy l D q cA F _ _ _ hI (pa0) f0_1) hw_4_201 hmX10_hardestHitBy ⟨rfl, rfl⟩ (na := 1) rfl (by decide +kernel) (by decide) (by decide) rfl rfl hK hP hD hS hA hl.1 rfl (Nat.le_of_ble_eq_true rfl) ⟨Nat.zero_le _, Nat.zero_le _⟩ dX10_hits_10 (fun r_2 I_2 R_2 J_2 H locs hp_2 hP hD hS _ _ => ?_)
    obtain ⟨hr_2, hu_2⟩ := hp_2
    cases hu_2
    refine lv_goto (tgt := 18) hx hb dX10_hits_13 (by decide) ?_
    exact z_iret (v := r_2) hx hb hr hlocks hP hD hS dX10_hits_18 ⟨(zR_w hr_2 (by decide)), rfl⟩
  · cases hu_1
    refine lv_if_eq (tgt := 16) hx hb dX10_hits_5 (by decide) (fun _ => ?_) (fun c_0 => absurd (zD_eq zk_0 zk_z) c_0)
    refine lv_bipush (v := (-2)) hx hb dX10_hits_16 (by decide +kernel) ?_
    exact z_iret (v := (-2)) hx hb hr hlocks hP hD hS dX10_hits_18 ⟨(zR_w zk_m2 (by decide)), rfl⟩
set_option maxHeartbeats 4000000 in
set_option maxRecDepth 100000 in
theorem xk_X10_mostWanted (l : Launch) (D : va_G) (q : Nat → Nat) (cA : Nat → ClassId) (F : Nat → Nat → Int32) (I R : Nat → Nat → Int32) (J : Nat → Nat → Int64) (hI : xInv F (I, R, J)) (pa0 : Int32) (hpa0 : zR 0 4 pa0) (pa1 : Int32) (hpa1 : zR 0 999 pa1) : zMi l D vwCl (zXtys cA) 81 q (zXd q cA) yX10_mostWanted cX10_mostWanted 7 (some .int) ({ frames := 1, cells := 0, slots := 0, locals := 22 } : Room) [.ref (q 0), .int (pa0), .int (pa1)] (I, R, J) (fun r u => zR (-1) 5 r ∧ u = (I, R, J)) := by
  intro sz
  refine z_body (by decide +kernel) (Nat.le_of_ble_eq_true rfl) (fun p e s m below meth c ls hx hb hml hr ht hown hlocks hsz hK hP hD hS hl => ?_)
  have hA : ∀ a, s.heap.size ≤ a → zA 81 q sz a := fun a h => Or.inr (hsz ▸ h)
  have hl : lv_has ls 7 [(0, .ref (q 0)), (1, .int (pa0)), (2, .int (pa1))] := hl
  refine lv_iconst (v := (-1)) hx hb dX10_mostWanted_0 (by decide +kernel) ?_
  refine lv_istore_n (lv' := [(3, .int ((-1))), (0, .ref (q 0)), (1, .int (pa0)), (2, .int (pa1))]) hx hb dX10_mostWanted_1 rfl hl (by decide) rfl (fun ls hl => ?_)
  refine lv_iconst (v := nI 0) hx hb dX10_mostWanted_2 (by decide +kernel) ?_
  refine lv_istore (lv' := [(4, .int (nI 0)), (3, .int ((-1))), (0, .ref (q 0)), (1, .int (pa0)), (2, .int (pa1))]) hx hb dX10_mostWanted_3 hl (by decide) rfl (fun ls hl => ?_)
  refine lv_iconst (v := nI 0) hx hb dX10_mostWanted_5 (by decide +kernel) ?_
  refine lv_istore (lv' := [(5, .int (nI 0)), (4, .int (nI 0)), (3, .int ((-1))), (0, .ref (q 0)), (1, .int (pa0)), (2, .int (pa1))]) hx hb dX10_mostWanted_6 hl (by decide) rfl (fun ls hl => ?_)
  have loop_95 : ∀ N : Nat, ∀ x_92 : Int32, zR (-1) 5 x_92 → ∀ x_93 : Int32, zR 0 2147483647 x_93 → ∀ x_94 : Int32, zR 0 6 x_94 → (2147483648 - (x_94).toInt).toNat < N → ∀ (H : Heap) (locs : List Loc), va_P D vwCl (zw 81 q (zXd q cA) I R J) H → va_D (zA 81 q sz) (zw 81 q (zXd q cA) I R J) → va_S (zA 81 q sz) s.heap H locs → ∀ ls : Array Slot, lv_has ls 7 [(0, .ref (q 0)), (1, .int (pa0)), (2, .int (pa1)), (3, .int (x_92)), (4, .int (x_93)), (5, .int (x_94))] → W p l e ({ frames := 1, cells := 0, slots := 0, locals := 22 } : Room) s m ([.ref (q 0), .int (pa0), .int (pa1)] : List Value).toArray below meth c H locs 0 0 (MQ below (va_Qi (fun r u => zR (-1) 5 r ∧ u = (I, R, J)) (zB D vwCl 81 q (zXd q cA) sz) (zA 81 q sz)) ([.ref (q 0), .int (pa0), .int (pa1)] : List Value).toArray s 0 0 (zA 81 q sz)) (F0 m 8 ls []) := by
    intro N
    induction N with
    | zero => intro x_92 hx_92 x_93 hx_93 x_94 hx_94 hN; exact absurd hN (Nat.not_lt_zero _)
    | succ N ih_97 =>
      intro x_92 hx_92 x_93 hx_93 x_94 hx_94 hN_96 H locs hP hD hS ls hl
      refine lv_iload hx hb dX10_mostWanted_8 (lv_at hl 5 rfl) ?_
      refine lv_aload_n hx hb dX10_mostWanted_10 rfl (lv_at hl 0 rfl) ?_
      refine z_get hx hb ht hown hK hP ziX10 rfl 0 (by decide) 1 (by decide) hw_2_94 rfl (v := .ref (q 3)) rfl dX10_mostWanted_11 ?_
      refine z_get hx hb ht hown hK hP ziX2 rfl 3 (by decide) 5 (by decide) hw_1_93 rfl (v := .int (I 3 5)) rfl dX10_mostWanted_14 ?_
      have f_98 : zR 0 6 (I 3 5) := xI hI 3 5
      refine lv_icmp_ge (tgt := 61) hx hb dX10_mostWanted_17 (by decide) (fun c_99 => ?_) (fun c_99 => ?_)
      · have t_c_99 := z_leT c_99
        refine lv_iload_n hx hb dX10_mostWanted_61 rfl (lv_at hl 3 rfl) ?_
        exact z_iret (v := x_92) hx hb hr hlocks hP hD hS dX10_mostWanted_62 ⟨hx_92, rfl⟩
      · have t_c_99 := z_leF c_99
        have f_100 : zR 0 5 (x_94) := zR_ltx t_c_99 hx_94 f_98 (by decide)
        have f_101 : zR 1 6 (I 3 5) := zR_lty t_c_99 hx_94 f_98 (by decide)
        refine lv_aload_n hx hb dX10_mostWanted_20 rfl (lv_at hl 0 rfl) ?_
        refine z_get hx hb ht hown hK hP ziX10 rfl 0 (by decide) 1 (by decide) hw_2_94 rfl (v := .ref (q 3)) rfl dX10_mostWanted_21 ?_
        refine lv_iload_n hx hb dX10_mostWanted_24 rfl (lv_at hl 1 rfl) ?_
        refine lv_iload hx hb dX10_mostWanted_25 (lv_at hl 5 rfl) ?_
        refine z_callVi (k := 3) (As := [.int (pa0), .int (x_94)]) (rest := []) hx hb hml hown ht (xk_X2_moreTo l D q cA F _ _ _ hI (pa0) hpa0 (x_94) f_100) hw_4_225 hmX2_moreTo ⟨rfl, rfl⟩ (na := 2) rfl (by decide +kernel) (by decide) (by decide) rfl rfl hK hP hD hS hA hl.1 rfl (Nat.le_of_ble_eq_true rfl) ⟨Nat.zero_le _, Nat.zero_le _⟩ dX10_mostWanted_27 (fun r_102 I_102 R_102 J_102 H locs hp_102 hP hD hS _ _ => ?_)
        cases hp_102
        refine lv_istore (lv' := [(6, .int (r_102)), (0, .ref (q 0)), (1, .int (pa0)), (2, .int (pa1)), (3, .int (x_92)), (4, .int (x_93)), (5, .int (x_94))]) hx hb dX10_mostWanted_30 hl (by decide) rfl (fun ls hl => ?_)
        refine lv_iload_n hx hb dX10_mostWanted_32 rfl (lv_at hl 3 rfl) ?_
        refine lv_iload hx hb dX10_mostWanted_33 (lv_at hl 6 rfl) ?_
        refine lv_ishr hx hb dX10_mostWanted_35 ?_
        refine z_any (fun v_103 => ?_)
        refine lv_iconst (v := nI 1) hx hb dX10_mostWanted_36 (by decide +kernel) ?_
        refine lv_iand hx hb dX10_mostWanted_37 ?_
        refine z_rng (a := 0) (b := 1) (zR_andr zk_1 (by decide)) (fun v_104 hv_104 => ?_)
        have t_113 : ∀ x_111 : Int32, zR (-1) 5 x_111 → ∀ x_112 : Int32, zR 0 2147483647 x_112 → ∀ (H : Heap) (locs : List Loc), va_P D vwCl (zw 81 q (zXd q cA) I R J) H → va_D (zA 81 q sz) (zw 81 q (zXd q cA) I R J) → va_S (zA 81 q sz) s.heap H locs → ∀ ls : Array Slot, lv_has ls 7 [(0, .ref (q 0)), (1, .int (pa0)), (2, .int (pa1)), (3, .int (x_111)), (4, .int (x_112)), (5, .int (x_94)), (6, .int (r_102))] → W p l e ({ frames := 1, cells := 0, slots := 0, locals := 22 } : Room) s m ([.ref (q 0), .int (pa0), .int (pa1)] : List Value).toArray below meth c H locs 0 0 (MQ below (va_Qi (fun r u => zR (-1) 5 r ∧ u = (I, R, J)) (zB D vwCl 81 q (zXd q cA) sz) (zA 81 q sz)) ([.ref (q 0), .int (pa0), .int (pa1)] : List Value).toArray s 0 0 (zA 81 q sz)) (F0 m 55 ls []) := by
          intro x_111 hx_111 x_112 hx_112 H locs hP hD hS ls hl
          obtain ⟨v_114, ev_114⟩ : ∃ y : Int32, y = x_94 + nI 1 := ⟨_, rfl⟩
          have hv_114 : zR 1 6 v_114 := ev_114 ▸ zR_add f_100 zk_1 (by decide)
          have mv_114 : v_114.toInt = (x_94).toInt + 1 := by rw [ev_114, zR_addE f_100 zk_1 (by decide)]; rfl
          refine lv_iinc (v := v_114) (lv' := [(5, .int (v_114)), (0, .ref (q 0)), (1, .int (pa0)), (2, .int (pa1)), (3, .int (x_111)), (4, .int (x_112)), (6, .int (r_102))]) hx hb dX10_mostWanted_55 hl (k := 5) rfl (ev_114 ▸ rfl) (by decide) rfl (fun ls hl => ?_)
          refine lv_goto (tgt := 8) hx hb dX10_mostWanted_58 (by decide) ?_
          exact ih_97 (x_111) hx_111 (x_112) hx_112 (v_114) (zR_w hv_114 (by decide)) (z2_up mv_114 (by decide) hN_96) _ _ hP hD hS _ (lv_sub hl [1, 2, 3, 4, 5, 0] rfl)
        refine lv_if_eq (tgt := 55) hx hb dX10_mostWanted_38 (by decide) (fun c_105 => ?_) (fun c_105 => ?_)
        · have t_c_105 := z_eqT c_105
          have f_115 : zR 0 0 (v_104) := zR_eqx t_c_105 zk_z
          exact t_113 (x_92) hx_92 (x_93) hx_93 _ _ hP hD hS _ (lv_sub hl [1, 2, 3, 4, 5, 6, 0] rfl)
        · have t_c_105 := z_eqF c_105
          have f_116 : zR 1 1 (v_104) := zR_nex t_c_105 hv_104 zk_z (by decide)
          refine lv_iload hx hb dX10_mostWanted_41 (lv_at hl 0 rfl) ?_
          refine lv_iload hx hb dX10_mostWanted_43 (lv_at hl 5 rfl) ?_
          refine lv_icmp_le (tgt := 55) hx hb dX10_mostWanted_45 (by decide) (fun c_117 => ?_) (fun c_117 => ?_)
          · have t_c_117 := z_leT c_117
            exact t_113 (x_92) hx_92 (x_93) hx_93 _ _ hP hD hS _ (lv_sub hl [1, 2, 3, 4, 5, 6, 0] rfl)
          · have t_c_117 := z_leF c_117
            have f_118 : zR 0 2147483646 (x_93) := zR_ltx t_c_117 hx_93 (zR_any (r_102)) (by decide)
            have f_119 : zR 1 2147483647 (r_102) := zR_lty t_c_117 hx_93 (zR_any (r_102)) (by decide)
            refine lv_iload hx hb dX10_mostWanted_48 (lv_at hl 0 rfl) ?_
            refine lv_istore (lv' := [(4, .int (r_102)), (6, .int (r_102)), (0, .ref (q 0)), (1, .int (pa0)), (2, .int (pa1)), (3, .int (x_92)), (5, .int (x_94))]) hx hb dX10_mostWanted_50 hl (by decide) rfl (fun ls hl => ?_)
            refine lv_iload hx hb dX10_mostWanted_52 (lv_at hl 6 rfl) ?_
            refine lv_istore_n (lv' := [(3, .int (x_94)), (4, .int (r_102)), (6, .int (r_102)), (0, .ref (q 0)), (1, .int (pa0)), (2, .int (pa1)), (5, .int (x_94))]) hx hb dX10_mostWanted_54 rfl hl (by decide) rfl (fun ls hl => ?_)
            exact t_113 (x_94) (zR_w f_100 (by decide)) (r_102) (zR_w f_119 (by decide)) _ _ hP hD hS _ (lv_sub hl [3, 4, 5, 0, 1, 6, 2] rfl)
  exact loop_95 _ ((-1)) (zR_w zk_m1 (by decide)) (nI 0) (zR_w zk_0 (by decide)) (nI 0) (zR_w zk_0 (by decide)) (Nat.lt_succ_self _) _ _ hP hD hS _ (lv_sub hl [3, 4, 5, 2, 1, 0] rfl)
set_option maxHeartbeats 4000000 in
set_option maxRecDepth 100000 in
theorem xk_X10_wishOf_1 (l : Launch) (D : va_G) (q : Nat → Nat) (cA : Nat → ClassId) (F : Nat → Nat → Int32) (I R : Nat → Nat → Int32) (J : Nat → Nat → Int64) (hI : xInv F (I, R, J)) (pa0 : Int32) (hpa0 : zR 0 4 pa0) (pa1 : Int32) (hpa1 : zR 0 3 pa1) : zMi l D vwCl (zXtys cA) 81 q (zXd q cA) yX10_wishOf cX10_wishOf 6 (some .int) ({ frames := 2, cells := 0, slots := 0, locals := 48 } : Room) [.ref (q 0), .int (pa0), .int (pa1)] (I, R, J) (fun r u => zR (-1) 5 r ∧ u = (I, R, J)) := by
  intro sz
  refine z_body (by decide +kernel) (Nat.le_of_ble_eq_true rfl) (fun p e s m below meth c ls hx hb hml hr ht hown hlocks hsz hK hP hD hS hl => ?_)
  have hA : ∀ a, s.heap.size ≤ a → zA 81 q sz a := fun a h => Or.inr (hsz ▸ h)
  have hl : lv_has ls 6 [(0, .ref (q 0)), (1, .int (pa0)), (2, .int (pa1))] := hl
  refine lv_aload_n hx hb dX10_wishOf_0 rfl (lv_at hl 0 rfl) ?_
  refine z_get hx hb ht hown hK hP ziX10 rfl 0 (by decide) 4 (by decide) hw_2_97 rfl (v := .ref (q 15)) rfl dX10_wishOf_1 ?_
  refine lv_iload_n hx hb dX10_wishOf_4 rfl (lv_at hl 1 rfl) ?_
  refine z_callVi (k := 15) (As := [.int (pa0)]) (rest := []) hx hb hml hown ht (xk_X9_inReachOf l D q cA F _ _ _ hI (pa0) hpa0) hw_4_124 hmX9_inReachOf ⟨rfl, rfl⟩ (na := 1) rfl (by decide +kernel) (by decide) (by decide) rfl rfl hK hP hD hS hA hl.1 rfl (Nat.le_of_ble_eq_true rfl) ⟨Nat.zero_le _, Nat.zero_le _⟩ dX10_wishOf_5 (fun r_1 I_1 R_1 J_1 H locs hp_1 hP hD hS _ _ => ?_)
  obtain ⟨hr_1, hu_1⟩ := hp_1
  cases hu_1
  refine lv_istore_n (lv' := [(3, .int (r_1)), (0, .ref (q 0)), (1, .int (pa0)), (2, .int (pa1))]) hx hb dX10_wishOf_8 rfl hl (by decide) rfl (fun ls hl => ?_)
  refine lv_iconst (v := (-1)) hx hb dX10_wishOf_9 (by decide +kernel) ?_
  refine lv_istore (lv' := [(4, .int ((-1))), (3, .int (r_1)), (0, .ref (q 0)), (1, .int (pa0)), (2, .int (pa1))]) hx hb dX10_wishOf_10 hl (by decide) rfl (fun ls hl => ?_)
  refine lv_iconst (v := nI 0) hx hb dX10_wishOf_12 (by decide +kernel) ?_
  refine lv_istore (lv' := [(5, .int (nI 0)), (4, .int ((-1))), (3, .int (r_1)), (0, .ref (q 0)), (1, .int (pa0)), (2, .int (pa1))]) hx hb dX10_wishOf_13 hl (by decide) rfl (fun ls hl => ?_)
  have loop_54 : ∀ N : Nat, ∀ x_51 : Int32, zR 0 63 x_51 → ∀ x_52 : Int32, zR (-1) 5 x_52 → ∀ x_53 : Int32, zR 0 4 x_53 → (2147483648 - (x_53).toInt).toNat < N → ∀ (H : Heap) (locs : List Loc), va_P D vwCl (zw 81 q (zXd q cA) I R J) H → va_D (zA 81 q sz) (zw 81 q (zXd q cA) I R J) → va_S (zA 81 q sz) s.heap H locs → ∀ ls : Array Slot, lv_has ls 6 [(0, .ref (q 0)), (1, .int (pa0)), (2, .int (pa1)), (3, .int (x_51)), (4, .int (x_52)), (5, .int (x_53))] → W p l e ({ frames := 2, cells := 0, slots := 0, locals := 48 } : Room) s m ([.ref (q 0), .int (pa0), .int (pa1)] : List Value).toArray below meth c H locs 0 0 (MQ below (va_Qi (fun r u => zR (-1) 5 r ∧ u = (I, R, J)) (zB D vwCl 81 q (zXd q cA) sz) (zA 81 q sz)) ([.ref (q 0), .int (pa0), .int (pa1)] : List Value).toArray s 0 0 (zA 81 q sz)) (F0 m 15 ls []) := by
    intro N
    induction N with
    | zero => intro x_51 hx_51 x_52 hx_52 x_53 hx_53 hN; exact absurd hN (Nat.not_lt_zero _)
    | succ N ih_56 =>
      intro x_51 hx_51 x_52 hx_52 x_53 hx_53 hN_55 H locs hP hD hS ls hl
      refine lv_iload hx hb dX10_wishOf_15 (lv_at hl 5 rfl) ?_
      refine lv_iload_n hx hb dX10_wishOf_17 rfl (lv_at hl 2 rfl) ?_
      refine lv_icmp_gt (tgt := 58) hx hb dX10_wishOf_18 (by decide) (fun c_57 => ?_) (fun c_57 => ?_)
      · have t_c_57 := z_ltT c_57
        have f_58 : zR 1 4 (x_53) := zR_lty t_c_57 hpa1 hx_53 (by decide)
        refine lv_iload hx hb dX10_wishOf_58 (lv_at hl 4 rfl) ?_
        exact z_iret (v := x_52) hx hb hr hlocks hP hD hS dX10_wishOf_60 ⟨hx_52, rfl⟩
      · have t_c_57 := z_ltF c_57
        have f_59 : zR 0 3 (x_53) := zR_lex t_c_57 hx_53 hpa1 (by decide)
        refine lv_iload hx hb dX10_wishOf_21 (lv_at hl 5 rfl) ?_
        refine lv_iconst (v := nI 4) hx hb dX10_wishOf_23 (by decide +kernel) ?_
        refine lv_icmp_ge (tgt := 58) hx hb dX10_wishOf_24 (by decide) (fun c_0 => absurd c_0 (zD_nle zk_4 f_59 (by decide))) (fun _ => ?_)
        refine lv_aload_n hx hb dX10_wishOf_27 rfl (lv_at hl 0 rfl) ?_
        refine lv_iload_n hx hb dX10_wishOf_28 rfl (lv_at hl 1 rfl) ?_
        refine lv_iload_n hx hb dX10_wishOf_29 rfl (lv_at hl 3 rfl) ?_
        refine z_callVi (k := 0) (As := [.int (pa0), .int (x_51)]) (rest := []) hx hb hml hown ht (xk_X10_mostWanted l D q cA F _ _ _ hI (pa0) hpa0 (x_51) (zR_w hx_51 (by decide))) hw_4_221 hmX10_mostWanted ⟨rfl, rfl⟩ (na := 2) rfl (by decide +kernel) (by decide) (by decide) rfl rfl hK hP hD hS hA hl.1 rfl (Nat.le_of_ble_eq_true rfl) ⟨Nat.zero_le _, Nat.zero_le _⟩ dX10_wishOf_30 (fun r_60 I_60 R_60 J_60 H locs hp_60 hP hD hS _ _ => ?_)
        obtain ⟨hr_60, hu_60⟩ := hp_60
        cases hu_60
        refine lv_istore (lv' := [(4, .int (r_60)), (0, .ref (q 0)), (1, .int (pa0)), (2, .int (pa1)), (3, .int (x_51)), (5, .int (x_53))]) hx hb dX10_wishOf_33 hl (by decide) rfl (fun ls hl => ?_)
        refine lv_iload hx hb dX10_wishOf_35 (lv_at hl 0 rfl) ?_
        refine lv_iconst (v := (-1)) hx hb dX10_wishOf_37 (by decide +kernel) ?_
        refine lv_icmp_ne (tgt := 43) hx hb dX10_wishOf_38 (by decide) (fun c_61 => ?_) (fun c_61 => ?_)
        · have t_c_61 := z_eqF c_61
          have f_62 : zR 0 5 (r_60) := zR_nex t_c_61 hr_60 zk_m1 (by decide)
          refine lv_iload_n hx hb dX10_wishOf_43 rfl (lv_at hl 4 rfl) ?_
          refine lv_iconst (v := nI 1) hx hb dX10_wishOf_44 (by decide +kernel) ?_
          refine lv_iload hx hb dX10_wishOf_45 (lv_at hl 0 rfl) ?_
          refine lv_ishl hx hb dX10_wishOf_47 ?_
          refine z_rng (a := 1) (b := 32) (zR_shl1 5 f_62 (by decide)) (fun v_63 hv_63 => ?_)
          refine lv_iconst (v := (-1)) hx hb dX10_wishOf_48 (by decide +kernel) ?_
          refine lv_ixor hx hb dX10_wishOf_49 ?_
          refine z_any (fun v_64 => ?_)
          refine lv_iand hx hb dX10_wishOf_50 ?_
          refine z_rng (a := 0) (b := 63) (zR_andl hx_51 (by decide)) (fun v_65 hv_65 => ?_)
          refine lv_istore_n (lv' := [(3, .int (v_65)), (4, .int (r_60)), (0, .ref (q 0)), (1, .int (pa0)), (2, .int (pa1)), (5, .int (x_53))]) hx hb dX10_wishOf_51 rfl hl (by decide) rfl (fun ls hl => ?_)
          obtain ⟨v_66, ev_66⟩ : ∃ y : Int32, y = x_53 + nI 1 := ⟨_, rfl⟩
          have hv_66 : zR 1 4 v_66 := ev_66 ▸ zR_add f_59 zk_1 (by decide)
          have mv_66 : v_66.toInt = (x_53).toInt + 1 := by rw [ev_66, zR_addE f_59 zk_1 (by decide)]; rfl
          refine lv_iinc (v := v_66) (lv' := [(5, .int (v_66)), (3, .int (v_65)), (4, .int (r_60)), (0, .ref (q 0)), (1, .int (pa0)), (2, .int (pa1))]) hx hb dX10_wishOf_52 hl (k := 5) rfl (ev_66 ▸ rfl) (by decide) rfl (fun ls hl => ?_)
          refine lv_goto (tgt := 15) hx hb dX10_wishOf_55 (by decide) ?_
          exact ih_56 (v_65) hv_65 (r_60) (zR_w f_62 (by decide)) (v_66) (zR_w hv_66 (by decide)) (z2_up mv_66 (by decide) hN_55) _ _ hP hD hS _ (lv_sub hl [3, 4, 5, 1, 2, 0] rfl)
        · have t_c_61 := z_eqT c_61
          have f_67 : zR (-1) (-1) (r_60) := zR_eqx t_c_61 zk_m1
          refine lv_iconst (v := (-1)) hx hb dX10_wishOf_41 (by decide +kernel) ?_
          exact z_iret (v := (-1)) hx hb hr hlocks hP hD hS dX10_wishOf_42 ⟨(zR_w zk_m1 (by decide)), rfl⟩
  exact loop_54 _ (r_1) hr_1 ((-1)) (zR_w zk_m1 (by decide)) (nI 0) (zR_w zk_0 (by decide)) (Nat.lt_succ_self _) _ _ hP hD hS _ (lv_sub hl [3, 4, 5, 2, 1, 0] rfl)
set_option maxHeartbeats 4000000 in
set_option maxRecDepth 100000 in
theorem xk_X10_plan (l : Launch) (D : va_G) (q : Nat → Nat) (cA : Nat → ClassId) (F : Nat → Nat → Int32) (I R : Nat → Nat → Int32) (J : Nat → Nat → Int64) (hI : xInv F (I, R, J)) (pa0 : Int32) (pa1 : Int32) : zMi l D vwCl (zXtys cA) 81 q (zXd q cA) yX10_plan cX10_plan 6 (some .int) ({ frames := 3, cells := 0, slots := 0, locals := 73 } : Room) [.ref (q 0), .int (pa0), .int (pa1)] (I, R, J) (fun _ u => u = (I, R, J)) := by
  intro sz
  refine z_body (by decide +kernel) (Nat.le_of_ble_eq_true rfl) (fun p e s m below meth c ls hx hb hml hr ht hown hlocks hsz hK hP hD hS hl => ?_)
  have hA : ∀ a, s.heap.size ≤ a → zA 81 q sz a := fun a h => Or.inr (hsz ▸ h)
  have hl : lv_has ls 6 [(0, .ref (q 0)), (1, .int (pa0)), (2, .int (pa1))] := hl
  refine lv_aload_n hx hb dX10_plan_0 rfl (lv_at hl 0 rfl) ?_
  refine lv_iload_n hx hb dX10_plan_1 rfl (lv_at hl 1 rfl) ?_
  refine z_callVi (k := 0) (As := [.int (pa0)]) (rest := []) hx hb hml hown ht (xk_X10_isHouse l D q cA F _ _ _ hI (pa0)) hw_3_59 hmX10_isHouse ⟨rfl, rfl⟩ (na := 1) rfl (by decide +kernel) (by decide) (by decide) rfl rfl hK hP hD hS hA hl.1 rfl (Nat.le_of_ble_eq_true rfl) ⟨Nat.zero_le _, Nat.zero_le _⟩ dX10_plan_2 (fun r_1 I_1 R_1 J_1 H locs hp_1 hP hD hS _ _ => ?_)
  rcases hp_1 with ⟨rfl, hu_1, f0_1⟩ | ⟨rfl, hu_1⟩
  · cases hu_1
    refine lv_if_eq (tgt := 18) hx hb dX10_plan_5 (by decide) (fun c_0 => absurd c_0 (zD_ne zk_1 zk_z (by decide))) (fun _ => ?_)
    refine lv_iload_n hx hb dX10_plan_8 rfl (lv_at hl 2 rfl) ?_
    refine lv_iconst (v := nI 1) hx hb dX10_plan_9 (by decide +kernel) ?_
    refine lv_icmp_lt (tgt := 18) hx hb dX10_plan_10 (by decide) (fun c_2 => ?_) (fun c_2 => ?_)
    · have t_c_2 := z_ltT c_2
      have f_3 : zR (-2147483648) 0 (pa1) := zR_ltx t_c_2 (zR_any (pa1)) zk_1 (by decide)
      refine lv_bipush (v := (-2)) hx hb dX10_plan_18 (by decide +kernel) ?_
      exact z_iret (v := (-2)) hx hb hr hlocks hP hD hS dX10_plan_20 rfl
    · have t_c_2 := z_ltF c_2
      have f_4 : zR 1 2147483647 (pa1) := zR_ley t_c_2 zk_1 (zR_any (pa1)) (by decide)
      refine lv_iload_n hx hb dX10_plan_13 rfl (lv_at hl 2 rfl) ?_
      refine lv_iconst (v := nI 4) hx hb dX10_plan_14 (by decide +kernel) ?_
      refine lv_icmp_le (tgt := 21) hx hb dX10_plan_15 (by decide) (fun c_5 => ?_) (fun c_5 => ?_)
      · have t_c_5 := z_leT c_5
        have f_6 : zR 1 4 (pa1) := zR_lex t_c_5 f_4 zk_4 (by decide)
        refine lv_iconst (v := nI 0) hx hb dX10_plan_21 (by decide +kernel) ?_
        refine lv_istore_n (lv' := [(3, .int (nI 0)), (0, .ref (q 0)), (1, .int (pa0)), (2, .int (pa1))]) hx hb dX10_plan_22 rfl hl (by decide) rfl (fun ls hl => ?_)
        refine lv_iconst (v := nI 0) hx hb dX10_plan_23 (by decide +kernel) ?_
        refine lv_istore (lv' := [(4, .int (nI 0)), (3, .int (nI 0)), (0, .ref (q 0)), (1, .int (pa0)), (2, .int (pa1))]) hx hb dX10_plan_24 hl (by decide) rfl (fun ls hl => ?_)
        have loop_55 : ∀ N : Nat, ∀ x_53 : Int32, ∀ x_54 : Int32, zR 0 4 x_54 → (2147483648 - (x_54).toInt).toNat < N → ∀ (H : Heap) (locs : List Loc), va_P D vwCl (zw 81 q (zXd q cA) I R J) H → va_D (zA 81 q sz) (zw 81 q (zXd q cA) I R J) → va_S (zA 81 q sz) s.heap H locs → ∀ ls : Array Slot, lv_has ls 6 [(0, .ref (q 0)), (1, .int (pa0)), (2, .int (pa1)), (3, .int (x_53)), (4, .int (x_54))] → W p l e ({ frames := 3, cells := 0, slots := 0, locals := 73 } : Room) s m ([.ref (q 0), .int (pa0), .int (pa1)] : List Value).toArray below meth c H locs 0 0 (MQ below (va_Qi (fun _ u => u = (I, R, J)) (zB D vwCl 81 q (zXd q cA) sz) (zA 81 q sz)) ([.ref (q 0), .int (pa0), .int (pa1)] : List Value).toArray s 0 0 (zA 81 q sz)) (F0 m 26 ls []) := by
          intro N
          induction N with
          | zero => intro x_53 x_54 hx_54 hN; exact absurd hN (Nat.not_lt_zero _)
          | succ N ih_57 =>
            intro x_53 x_54 hx_54 hN_56 H locs hP hD hS ls hl
            refine lv_iload hx hb dX10_plan_26 (lv_at hl 4 rfl) ?_
            refine lv_iload_n hx hb dX10_plan_28 rfl (lv_at hl 2 rfl) ?_
            refine lv_icmp_ge (tgt := 70) hx hb dX10_plan_29 (by decide) (fun c_58 => ?_) (fun c_58 => ?_)
            · have t_c_58 := z_leT c_58
              have f_59 : zR 1 4 (x_54) := zR_ley t_c_58 f_6 hx_54 (by decide)
              refine lv_iload_n hx hb dX10_plan_70 rfl (lv_at hl 3 rfl) ?_
              exact z_iret (v := x_53) hx hb hr hlocks hP hD hS dX10_plan_71 rfl
            · have t_c_58 := z_leF c_58
              have f_60 : zR 0 3 (x_54) := zR_ltx t_c_58 hx_54 f_6 (by decide)
              refine lv_aload_n hx hb dX10_plan_32 rfl (lv_at hl 0 rfl) ?_
              refine lv_iload_n hx hb dX10_plan_33 rfl (lv_at hl 1 rfl) ?_
              refine lv_iload hx hb dX10_plan_34 (lv_at hl 4 rfl) ?_
              refine z_callVi (k := 0) (As := [.int (pa0), .int (x_54)]) (rest := []) hx hb hml hown ht (xk_X10_wishOf_1 l D q cA F _ _ _ hI (pa0) f0_1 (x_54) f_60) hw_4_217 hmX10_wishOf ⟨rfl, rfl⟩ (na := 2) rfl (by decide +kernel) (by decide) (by decide) rfl rfl hK hP hD hS hA hl.1 rfl (Nat.le_of_ble_eq_true rfl) ⟨Nat.zero_le _, Nat.zero_le _⟩ dX10_plan_36 (fun r_61 I_61 R_61 J_61 H locs hp_61 hP hD hS _ _ => ?_)
              obtain ⟨hr_61, hu_61⟩ := hp_61
              cases hu_61
              refine lv_istore (lv' := [(5, .int (r_61)), (0, .ref (q 0)), (1, .int (pa0)), (2, .int (pa1)), (3, .int (x_53)), (4, .int (x_54))]) hx hb dX10_plan_39 hl (by decide) rfl (fun ls hl => ?_)
              refine lv_iload_n hx hb dX10_plan_41 rfl (lv_at hl 4 rfl) ?_
              refine lv_iload hx hb dX10_plan_42 (lv_at hl 0 rfl) ?_
              refine lv_iconst (v := (-1)) hx hb dX10_plan_44 (by decide +kernel) ?_
              have t_67 : ∀ x_66 : Int32, ∀ (H : Heap) (locs : List Loc), va_P D vwCl (zw 81 q (zXd q cA) I R J) H → va_D (zA 81 q sz) (zw 81 q (zXd q cA) I R J) → va_S (zA 81 q sz) s.heap H locs → ∀ ls : Array Slot, lv_has ls 6 [(0, .ref (q 0)), (1, .int (pa0)), (2, .int (pa1)), (3, .int (x_53)), (4, .int (x_54)), (5, .int (r_61))] → W p l e ({ frames := 3, cells := 0, slots := 0, locals := 73 } : Room) s m ([.ref (q 0), .int (pa0), .int (pa1)] : List Value).toArray below meth c H locs 0 0 (MQ below (va_Qi (fun _ u => u = (I, R, J)) (zB D vwCl 81 q (zXd q cA) sz) (zA 81 q sz)) ([.ref (q 0), .int (pa0), .int (pa1)] : List Value).toArray s 0 0 (zA 81 q sz)) (F0 m 62 ls [.int (x_66), .int (x_53)]) := by
                intro x_66 H locs hP hD hS ls hl
                refine lv_iadd hx hb dX10_plan_62 ?_
                refine z_any (fun v_68 => ?_)
                refine lv_istore_n (lv' := [(3, .int (v_68)), (0, .ref (q 0)), (1, .int (pa0)), (2, .int (pa1)), (4, .int (x_54)), (5, .int (r_61))]) hx hb dX10_plan_63 rfl hl (by decide) rfl (fun ls hl => ?_)
                obtain ⟨v_69, ev_69⟩ : ∃ y : Int32, y = x_54 + nI 1 := ⟨_, rfl⟩
                have hv_69 : zR 1 4 v_69 := ev_69 ▸ zR_add f_60 zk_1 (by decide)
                have mv_69 : v_69.toInt = (x_54).toInt + 1 := by rw [ev_69, zR_addE f_60 zk_1 (by decide)]; rfl
                refine lv_iinc (v := v_69) (lv' := [(4, .int (v_69)), (3, .int (v_68)), (0, .ref (q 0)), (1, .int (pa0)), (2, .int (pa1)), (5, .int (r_61))]) hx hb dX10_plan_64 hl (k := 4) rfl (ev_69 ▸ rfl) (by decide) rfl (fun ls hl => ?_)
                refine lv_goto (tgt := 26) hx hb dX10_plan_67 (by decide) ?_
                exact ih_57 (v_68) (v_69) (zR_w hv_69 (by decide)) (z2_up mv_69 (by decide) hN_56) _ _ hP hD hS _ (lv_sub hl [2, 3, 4, 1, 0] rfl)
              refine lv_icmp_ne (tgt := 52) hx hb dX10_plan_45 (by decide) (fun c_62 => ?_) (fun c_62 => ?_)
              · have t_c_62 := z_eqF c_62
                have f_70 : zR 0 5 (r_61) := zR_nex t_c_62 hr_61 zk_m1 (by decide)
                refine lv_aload_n hx hb dX10_plan_52 rfl (lv_at hl 1 rfl) ?_
                refine z_get hx hb ht hown hK hP ziX10 rfl 0 (by decide) 1 (by decide) hw_2_94 rfl (v := .ref (q 3)) rfl dX10_plan_53 ?_
                refine lv_iload_n hx hb dX10_plan_56 rfl (lv_at hl 2 rfl) ?_
                refine lv_iload hx hb dX10_plan_57 (lv_at hl 0 rfl) ?_
                refine z_callVi (k := 3) (As := [.int (pa0), .int (r_61)]) (rest := [.int (x_53)]) hx hb hml hown ht (xk_X2_moreTo l D q cA F _ _ _ hI (pa0) f0_1 (r_61) f_70) hw_4_225 hmX2_moreTo ⟨rfl, rfl⟩ (na := 2) rfl (by decide +kernel) (by decide) (by decide) rfl rfl hK hP hD hS hA hl.1 rfl (Nat.le_of_ble_eq_true rfl) ⟨Nat.zero_le _, Nat.zero_le _⟩ dX10_plan_59 (fun r_71 I_71 R_71 J_71 H locs hp_71 hP hD hS _ _ => ?_)
                cases hp_71
                exact t_67 (r_71) _ _ hP hD hS _ (lv_sub hl [1, 2, 3, 4, 5, 0] rfl)
              · have t_c_62 := z_eqT c_62
                have f_72 : zR (-1) (-1) (r_61) := zR_eqx t_c_62 zk_m1
                refine lv_iconst (v := nI 0) hx hb dX10_plan_48 (by decide +kernel) ?_
                refine lv_goto (tgt := 62) hx hb dX10_plan_49 (by decide) ?_
                exact t_67 (nI 0) _ _ hP hD hS _ (lv_sub hl [1, 2, 3, 4, 5, 0] rfl)
        exact loop_55 _ (nI 0) (nI 0) (zR_w zk_0 (by decide)) (Nat.lt_succ_self _) _ _ hP hD hS _ (lv_sub hl [2, 3, 4, 1, 0] rfl)
      · have t_c_5 := z_leF c_5
        have f_73 : zR 5 2147483647 (pa1) := zR_lty t_c_5 zk_4 f_4 (by decide)
        refine lv_bipush (v := (-2)) hx hb dX10_plan_18 (by decide +kernel) ?_
        exact z_iret (v := (-2)) hx hb hr hlocks hP hD hS dX10_plan_20 rfl
  · cases hu_1
    refine lv_if_eq (tgt := 18) hx hb dX10_plan_5 (by decide) (fun _ => ?_) (fun c_0 => absurd (zD_eq zk_0 zk_z) c_0)
    refine lv_bipush (v := (-2)) hx hb dX10_plan_18 (by decide +kernel) ?_
    exact z_iret (v := (-2)) hx hb hr hlocks hP hD hS dX10_plan_20 rfl
set_option maxHeartbeats 4000000 in
set_option maxRecDepth 100000 in
theorem xk_X10_plans (l : Launch) (D : va_G) (q : Nat → Nat) (cA : Nat → ClassId) (F : Nat → Nat → Int32) (I R : Nat → Nat → Int32) (J : Nat → Nat → Int64) (hI : xInv F (I, R, J)) (pa0 : Int32) (pa1 : Int32) (pa2 : Int32) : zMi l D vwCl (zXtys cA) 81 q (zXd q cA) yX10_plans cX10_plans 4 (some .int) ({ frames := 3, cells := 0, slots := 0, locals := 73 } : Room) [.ref (q 0), .int (pa0), .int (pa1), .int (pa2)] (I, R, J) (fun r u => zR (-2) 5 r ∧ u = (I, R, J)) := by
  intro sz
  refine z_body (by decide +kernel) (Nat.le_of_ble_eq_true rfl) (fun p e s m below meth c ls hx hb hml hr ht hown hlocks hsz hK hP hD hS hl => ?_)
  have hA : ∀ a, s.heap.size ≤ a → zA 81 q sz a := fun a h => Or.inr (hsz ▸ h)
  have hl : lv_has ls 4 [(0, .ref (q 0)), (1, .int (pa0)), (2, .int (pa1)), (3, .int (pa2))] := hl
  refine lv_aload_n hx hb dX10_plans_0 rfl (lv_at hl 0 rfl) ?_
  refine lv_iload_n hx hb dX10_plans_1 rfl (lv_at hl 1 rfl) ?_
  refine z_callVi (k := 0) (As := [.int (pa0)]) (rest := []) hx hb hml hown ht (xk_X10_isHouse l D q cA F _ _ _ hI (pa0)) hw_3_59 hmX10_isHouse ⟨rfl, rfl⟩ (na := 1) rfl (by decide +kernel) (by decide) (by decide) rfl rfl hK hP hD hS hA hl.1 rfl (Nat.le_of_ble_eq_true rfl) ⟨Nat.zero_le _, Nat.zero_le _⟩ dX10_plans_2 (fun r_1 I_1 R_1 J_1 H locs hp_1 hP hD hS _ _ => ?_)
  rcases hp_1 with ⟨rfl, hu_1, f0_1⟩ | ⟨rfl, hu_1⟩
  · cases hu_1
    refine lv_if_eq (tgt := 18) hx hb dX10_plans_5 (by decide) (fun c_0 => absurd c_0 (zD_ne zk_1 zk_z (by decide))) (fun _ => ?_)
    refine lv_iload_n hx hb dX10_plans_8 rfl (lv_at hl 2 rfl) ?_
    refine lv_iconst (v := nI 1) hx hb dX10_plans_9 (by decide +kernel) ?_
    refine lv_icmp_lt (tgt := 18) hx hb dX10_plans_10 (by decide) (fun c_2 => ?_) (fun c_2 => ?_)
    · have t_c_2 := z_ltT c_2
      have f_3 : zR (-2147483648) 0 (pa1) := zR_ltx t_c_2 (zR_any (pa1)) zk_1 (by decide)
      refine lv_bipush (v := (-2)) hx hb dX10_plans_18 (by decide +kernel) ?_
      exact z_iret (v := (-2)) hx hb hr hlocks hP hD hS dX10_plans_20 ⟨(zR_w zk_m2 (by decide)), rfl⟩
    · have t_c_2 := z_ltF c_2
      have f_4 : zR 1 2147483647 (pa1) := zR_ley t_c_2 zk_1 (zR_any (pa1)) (by decide)
      refine lv_iload_n hx hb dX10_plans_13 rfl (lv_at hl 2 rfl) ?_
      refine lv_iconst (v := nI 4) hx hb dX10_plans_14 (by decide +kernel) ?_
      refine lv_icmp_le (tgt := 21) hx hb dX10_plans_15 (by decide) (fun c_5 => ?_) (fun c_5 => ?_)
      · have t_c_5 := z_leT c_5
        have f_6 : zR 1 4 (pa1) := zR_lex t_c_5 f_4 zk_4 (by decide)
        refine lv_iload_n hx hb dX10_plans_21 rfl (lv_at hl 3 rfl) ?_
        refine lv_if_lt (tgt := 39) hx hb dX10_plans_22 (by decide) (fun c_7 => ?_) (fun c_7 => ?_)
        · have t_c_7 := z_ltT c_7
          have f_8 : zR (-2147483648) (-1) (pa2) := zR_ltx t_c_7 (zR_any (pa2)) zk_z (by decide)
          refine lv_iconst (v := (-1)) hx hb dX10_plans_39 (by decide +kernel) ?_
          exact z_iret (v := (-1)) hx hb hr hlocks hP hD hS dX10_plans_40 ⟨(zR_w zk_m1 (by decide)), rfl⟩
        · have t_c_7 := z_ltF c_7
          have f_9 : zR 0 2147483647 (pa2) := zR_ley t_c_7 zk_z (zR_any (pa2)) (by decide)
          refine lv_iload_n hx hb dX10_plans_25 rfl (lv_at hl 3 rfl) ?_
          refine lv_iload_n hx hb dX10_plans_26 rfl (lv_at hl 2 rfl) ?_
          refine lv_icmp_ge (tgt := 39) hx hb dX10_plans_27 (by decide) (fun c_10 => ?_) (fun c_10 => ?_)
          · have t_c_10 := z_leT c_10
            have f_11 : zR 1 2147483647 (pa2) := zR_ley t_c_10 f_6 f_9 (by decide)
            refine lv_iconst (v := (-1)) hx hb dX10_plans_39 (by decide +kernel) ?_
            exact z_iret (v := (-1)) hx hb hr hlocks hP hD hS dX10_plans_40 ⟨(zR_w zk_m1 (by decide)), rfl⟩
          · have t_c_10 := z_leF c_10
            have f_12 : zR 0 3 (pa2) := zR_ltx t_c_10 f_9 f_6 (by decide)
            refine lv_aload_n hx hb dX10_plans_30 rfl (lv_at hl 0 rfl) ?_
            refine lv_iload_n hx hb dX10_plans_31 rfl (lv_at hl 1 rfl) ?_
            refine lv_iload_n hx hb dX10_plans_32 rfl (lv_at hl 3 rfl) ?_
            refine z_callVi (k := 0) (As := [.int (pa0), .int (pa2)]) (rest := []) hx hb hml hown ht (xk_X10_wishOf_1 l D q cA F _ _ _ hI (pa0) f0_1 (pa2) f_12) hw_4_217 hmX10_wishOf ⟨rfl, rfl⟩ (na := 2) rfl (by decide +kernel) (by decide) (by decide) rfl rfl hK hP hD hS hA hl.1 rfl (Nat.le_of_ble_eq_true rfl) ⟨Nat.zero_le _, Nat.zero_le _⟩ dX10_plans_33 (fun r_13 I_13 R_13 J_13 H locs hp_13 hP hD hS _ _ => ?_)
            obtain ⟨hr_13, hu_13⟩ := hp_13
            cases hu_13
            refine lv_goto (tgt := 40) hx hb dX10_plans_36 (by decide) ?_
            exact z_iret (v := r_13) hx hb hr hlocks hP hD hS dX10_plans_40 ⟨(zR_w hr_13 (by decide)), rfl⟩
      · have t_c_5 := z_leF c_5
        have f_14 : zR 5 2147483647 (pa1) := zR_lty t_c_5 zk_4 f_4 (by decide)
        refine lv_bipush (v := (-2)) hx hb dX10_plans_18 (by decide +kernel) ?_
        exact z_iret (v := (-2)) hx hb hr hlocks hP hD hS dX10_plans_20 ⟨(zR_w zk_m2 (by decide)), rfl⟩
  · cases hu_1
    refine lv_if_eq (tgt := 18) hx hb dX10_plans_5 (by decide) (fun _ => ?_) (fun c_0 => absurd (zD_eq zk_0 zk_z) c_0)
    refine lv_bipush (v := (-2)) hx hb dX10_plans_18 (by decide +kernel) ?_
    exact z_iret (v := (-2)) hx hb hr hlocks hP hD hS dX10_plans_20 ⟨(zR_w zk_m2 (by decide)), rfl⟩
