set_option maxHeartbeats 4000000 in
set_option maxRecDepth 100000 in
theorem xk_X1_alike_5 (l : Launch) (D : va_G) (q : Nat → Nat) (cA : Nat → ClassId) (F : Nat → Nat → Int32) (I R : Nat → Nat → Int32) (J : Nat → Nat → Int64) (hI : xInv F (I, R, J)) (pa1 : Int32) (hpa1 : zR 0 56 pa1) : zMi l D vwCl (zXtys cA) 81 q (zXd q cA) yX1_alike cX1_alike 5 (some .int) ({ frames := 1, cells := 0, slots := 0, locals := 21 } : Room) [.ref (q 75), .int (pa1), .ref (q 15)] (I, R, J) (fun r u => zR 0 16777215 r ∧ u = (I, R, J)) := by
  intro sz
  refine z_body (by decide +kernel) (Nat.le_of_ble_eq_true rfl) (fun p e s m below meth c ls hx hb hml hr ht hown hlocks hsz hK hP hD hS hl => ?_)
  have hA : ∀ a, s.heap.size ≤ a → zA 81 q sz a := fun a h => Or.inr (hsz ▸ h)
  have hl : lv_has ls 5 [(0, .ref (q 75)), (1, .int (pa1)), (2, .ref (q 15))] := hl
  refine lv_iconst (v := nI 0) hx hb dX1_alike_0 (by decide +kernel) ?_
  refine lv_istore_n (lv' := [(3, .int (nI 0)), (0, .ref (q 75)), (1, .int (pa1)), (2, .ref (q 15))]) hx hb dX1_alike_1 rfl hl (by decide) rfl (fun ls hl => ?_)
  refine lv_iconst (v := nI 0) hx hb dX1_alike_2 (by decide +kernel) ?_
  refine lv_istore (lv' := [(4, .int (nI 0)), (3, .int (nI 0)), (0, .ref (q 75)), (1, .int (pa1)), (2, .ref (q 15))]) hx hb dX1_alike_3 hl (by decide) rfl (fun ls hl => ?_)
  have loop_103 : ∀ N : Nat, ∀ x_101 : Int32, zR 0 16777215 x_101 → ∀ x_102 : Int32, zR 0 24 x_102 → (2147483648 - (x_102).toInt).toNat < N → ∀ (H : Heap) (locs : List Loc), va_P D vwCl (zw 81 q (zXd q cA) I R J) H → va_D (zA 81 q sz) (zw 81 q (zXd q cA) I R J) → va_S (zA 81 q sz) s.heap H locs → ∀ ls : Array Slot, lv_has ls 5 [(0, .ref (q 75)), (1, .int (pa1)), (2, .ref (q 15)), (3, .int (x_101)), (4, .int (x_102))] → W p l e ({ frames := 1, cells := 0, slots := 0, locals := 21 } : Room) s m ([.ref (q 75), .int (pa1), .ref (q 15)] : List Value).toArray below meth c H locs 0 0 (MQ below (va_Qi (fun r u => zR 0 16777215 r ∧ u = (I, R, J)) (zB D vwCl 81 q (zXd q cA) sz) (zA 81 q sz)) ([.ref (q 75), .int (pa1), .ref (q 15)] : List Value).toArray s 0 0 (zA 81 q sz)) (F0 m 5 ls []) := by
    intro N
    induction N with
    | zero => intro x_101 hx_101 x_102 hx_102 hN; exact absurd hN (Nat.not_lt_zero _)
    | succ N ih_105 =>
      intro x_101 hx_101 x_102 hx_102 hN_104 H locs hP hD hS ls hl
      refine lv_iload hx hb dX1_alike_5 (lv_at hl 4 rfl) ?_
      refine lv_aload_n hx hb dX1_alike_7 rfl (lv_at hl 2 rfl) ?_
      refine z_get hx hb ht hown hK hP ziX9 rfl 15 (by decide) 2 (by decide) hw_1_161 rfl (v := .int (I 15 2)) rfl dX1_alike_8 ?_
      have f_106 : zR 0 24 (I 15 2) := xI hI 15 2
      refine lv_icmp_ge (tgt := 94) hx hb dX1_alike_11 (by decide) (fun c_107 => ?_) (fun c_107 => ?_)
      · have t_c_107 := z_leT c_107
        refine lv_iload_n hx hb dX1_alike_94 rfl (lv_at hl 3 rfl) ?_
        exact z_iret (v := x_101) hx hb hr hlocks hP hD hS dX1_alike_95 ⟨hx_101, rfl⟩
      · have t_c_107 := z_leF c_107
        have f_108 : zR 0 23 (x_102) := zR_ltx t_c_107 hx_102 f_106 (by decide)
        have f_109 : zR 1 24 (I 15 2) := zR_lty t_c_107 hx_102 f_106 (by decide)
        refine lv_aload_n hx hb dX1_alike_14 rfl (lv_at hl 2 rfl) ?_
        refine lv_iload hx hb dX1_alike_15 (lv_at hl 4 rfl) ?_
        have t_124 : ∀ x_123 : Int32, zR 0 16777215 x_123 → ∀ (H : Heap) (locs : List Loc), va_P D vwCl (zw 81 q (zXd q cA) I R J) H → va_D (zA 81 q sz) (zw 81 q (zXd q cA) I R J) → va_S (zA 81 q sz) s.heap H locs → ∀ ls : Array Slot, lv_has ls 5 [(0, .ref (q 75)), (1, .int (pa1)), (2, .ref (q 15)), (3, .int (x_123)), (4, .int (x_102))] → W p l e ({ frames := 1, cells := 0, slots := 0, locals := 21 } : Room) s m ([.ref (q 75), .int (pa1), .ref (q 15)] : List Value).toArray below meth c H locs 0 0 (MQ below (va_Qi (fun r u => zR 0 16777215 r ∧ u = (I, R, J)) (zB D vwCl 81 q (zXd q cA) sz) (zA 81 q sz)) ([.ref (q 75), .int (pa1), .ref (q 15)] : List Value).toArray s 0 0 (zA 81 q sz)) (F0 m 88 ls []) := by
          intro x_123 hx_123 H locs hP hD hS ls hl
          obtain ⟨v_125, ev_125⟩ : ∃ y : Int32, y = x_102 + nI 1 := ⟨_, rfl⟩
          have hv_125 : zR 1 24 v_125 := ev_125 ▸ zR_add f_108 zk_1 (by decide)
          have mv_125 : v_125.toInt = (x_102).toInt + 1 := by rw [ev_125, zR_addE f_108 zk_1 (by decide)]; rfl
          refine lv_iinc (v := v_125) (lv' := [(4, .int (v_125)), (0, .ref (q 75)), (1, .int (pa1)), (2, .ref (q 15)), (3, .int (x_123))]) hx hb dX1_alike_88 hl (k := 4) rfl (ev_125 ▸ rfl) (by decide) rfl (fun ls hl => ?_)
          refine lv_goto (tgt := 5) hx hb dX1_alike_91 (by decide) ?_
          exact ih_105 (x_123) hx_123 (v_125) (zR_w hv_125 (by decide)) (z2_up mv_125 (by decide) hN_104) _ _ hP hD hS _ (lv_sub hl [1, 2, 3, 4, 0] rfl)
        refine z_callVi (k := 15) (As := [.int (x_102)]) (rest := []) hx hb hml hown ht (xk_X9_isOpen_1 l D q cA F _ _ _ hI (x_102) f_108) hw_5_82 hmX9_isOpen ⟨rfl, rfl⟩ (na := 1) rfl (by decide +kernel) (by decide) (by decide) rfl rfl hK hP hD hS hA hl.1 rfl (Nat.le_of_ble_eq_true rfl) ⟨Nat.zero_le _, Nat.zero_le _⟩ dX1_alike_17 (fun r_110 I_110 R_110 J_110 H locs hp_110 hP hD hS _ _ => ?_)
        rcases hp_110 with ⟨rfl, hu_110⟩ | ⟨rfl, hu_110⟩
        · cases hu_110
          refine lv_if_eq (tgt := 88) hx hb dX1_alike_20 (by decide) (fun c_0 => absurd c_0 (zD_ne zk_1 zk_z (by decide))) (fun _ => ?_)
          refine lv_aload_n hx hb dX1_alike_23 rfl (lv_at hl 2 rfl) ?_
          refine z_get hx hb ht hown hK hP ziX9 rfl 15 (by decide) 7 (by decide) hw_1_173 rfl (v := .ref (q 19)) rfl dX1_alike_24 ?_
          refine lv_iload hx hb dX1_alike_27 (lv_at hl 4 rfl) ?_
          refine z_iald hx hb hK hP 19 (by decide) 13 rfl rfl (zR_vin f_108 (by decide)) dX1_alike_29 ?_
          refine z_eqi (y := R 19 (x_102).toNatClampNeg) rfl ?_
          have f_126 : zR 0 4 (R 19 (x_102).toNatClampNeg) := xR hI 19 (x_102).toNatClampNeg
          refine lv_i2l (v := (R 19 (x_102).toNatClampNeg).toInt64) hx hb dX1_alike_30 rfl ?_
          refine lv_aload_n hx hb dX1_alike_31 rfl (lv_at hl 0 rfl) ?_
          refine z_get hx hb ht hown hK hP ziX6 rfl 75 (by decide) 2 (by decide) hw_2_83 rfl (v := .ref (q 76)) rfl dX1_alike_32 ?_
          refine lv_iload_n hx hb dX1_alike_35 rfl (lv_at hl 1 rfl) ?_
          refine z_lald hx hb hK hP 76 (by decide) 54 rfl rfl (zR_vin hpa1 (by decide)) dX1_alike_36 ?_
          refine z_eql (y := J 76 (pa1).toNatClampNeg) rfl ?_
          refine W.lcmp hx hb dX1_alike_37 ?_
          refine lv_if_ne (tgt := 88) hx hb dX1_alike_38 (by decide) (fun c_127 => ?_) (fun c_127 => ?_)
          · have t_c_127 := z_leqF (fun h => c_127 ((lg_cmp_eq _ _).mpr h))
            exact t_124 (x_101) hx_101 _ _ hP hD hS _ (lv_sub hl [0, 1, 2, 3, 4] rfl)
          · have t_c_127 := z_leqT ((lg_cmp_eq _ _).mp c_127)
            have f_128 : zL 0 4 (J 76 (pa1).toNatClampNeg) := zL_eqy t_c_127 (zR_i2l f_126)
            refine lv_aload_n hx hb dX1_alike_41 rfl (lv_at hl 2 rfl) ?_
            refine z_get hx hb ht hown hK hP ziX9 rfl 15 (by decide) 8 (by decide) hw_1_177 rfl (v := .ref (q 20)) rfl dX1_alike_42 ?_
            refine lv_iload hx hb dX1_alike_45 (lv_at hl 4 rfl) ?_
            refine z_iald hx hb hK hP 20 (by decide) 14 rfl rfl (zR_vin f_108 (by decide)) dX1_alike_47 ?_
            refine z_eqi (y := R 20 (x_102).toNatClampNeg) rfl ?_
            have f_129 : zR 0 5 (R 20 (x_102).toNatClampNeg) := xR hI 20 (x_102).toNatClampNeg
            refine lv_i2l (v := (R 20 (x_102).toNatClampNeg).toInt64) hx hb dX1_alike_48 rfl ?_
            refine lv_aload_n hx hb dX1_alike_49 rfl (lv_at hl 0 rfl) ?_
            refine z_get hx hb ht hown hK hP ziX6 rfl 75 (by decide) 2 (by decide) hw_2_83 rfl (v := .ref (q 76)) rfl dX1_alike_50 ?_
            refine lv_iload_n hx hb dX1_alike_53 rfl (lv_at hl 1 rfl) ?_
            refine lv_iconst (v := nI 1) hx hb dX1_alike_54 (by decide +kernel) ?_
            refine lv_iadd hx hb dX1_alike_55 ?_
            refine z_addc 1 57 hpa1 zk_1 (by decide) (fun v_130 hv_130 mv_130 => ?_)
            refine z_lald hx hb hK hP 76 (by decide) 54 rfl rfl (zR_vin hv_130 (by decide)) dX1_alike_56 ?_
            refine z_eql (y := J 76 (v_130).toNatClampNeg) rfl ?_
            refine W.lcmp hx hb dX1_alike_57 ?_
            refine lv_if_ne (tgt := 88) hx hb dX1_alike_58 (by decide) (fun c_131 => ?_) (fun c_131 => ?_)
            · have t_c_131 := z_leqF (fun h => c_131 ((lg_cmp_eq _ _).mpr h))
              exact t_124 (x_101) hx_101 _ _ hP hD hS _ (lv_sub hl [0, 1, 2, 3, 4] rfl)
            · have t_c_131 := z_leqT ((lg_cmp_eq _ _).mp c_131)
              have f_132 : zL 0 5 (J 76 (v_130).toNatClampNeg) := zL_eqy t_c_131 (zR_i2l f_129)
              refine lv_aload_n hx hb dX1_alike_61 rfl (lv_at hl 2 rfl) ?_
              refine z_get hx hb ht hown hK hP ziX9 rfl 15 (by decide) 10 (by decide) hw_1_183 rfl (v := .ref (q 22)) rfl dX1_alike_62 ?_
              refine lv_iload hx hb dX1_alike_65 (lv_at hl 4 rfl) ?_
              refine z_iald hx hb hK hP 22 (by decide) 16 rfl rfl (zR_vin f_108 (by decide)) dX1_alike_67 ?_
              refine z_eqi (y := R 22 (x_102).toNatClampNeg) rfl ?_
              refine lv_i2l (v := (R 22 (x_102).toNatClampNeg).toInt64) hx hb dX1_alike_68 rfl ?_
              refine lv_aload_n hx hb dX1_alike_69 rfl (lv_at hl 0 rfl) ?_
              refine z_get hx hb ht hown hK hP ziX6 rfl 75 (by decide) 2 (by decide) hw_2_83 rfl (v := .ref (q 76)) rfl dX1_alike_70 ?_
              refine lv_iload_n hx hb dX1_alike_73 rfl (lv_at hl 1 rfl) ?_
              refine lv_iconst (v := nI 3) hx hb dX1_alike_74 (by decide +kernel) ?_
              refine lv_iadd hx hb dX1_alike_75 ?_
              refine z_addc 3 59 hpa1 zk_3 (by decide) (fun v_133 hv_133 mv_133 => ?_)
              refine z_lald hx hb hK hP 76 (by decide) 54 rfl rfl (zR_vin hv_133 (by decide)) dX1_alike_76 ?_
              refine z_eql (y := J 76 (v_133).toNatClampNeg) rfl ?_
              refine W.lcmp hx hb dX1_alike_77 ?_
              refine lv_if_ne (tgt := 88) hx hb dX1_alike_78 (by decide) (fun c_134 => ?_) (fun c_134 => ?_)
              · have t_c_134 := z_leqF (fun h => c_134 ((lg_cmp_eq _ _).mpr h))
                exact t_124 (x_101) hx_101 _ _ hP hD hS _ (lv_sub hl [0, 1, 2, 3, 4] rfl)
              · have t_c_134 := z_leqT ((lg_cmp_eq _ _).mp c_134)
                have f_135 : zL (-2147483648) 2147483647 (J 76 (v_133).toNatClampNeg) := zL_eqy t_c_134 (zR_i2l (zR_any (R 22 (x_102).toNatClampNeg)))
                refine lv_iload_n hx hb dX1_alike_81 rfl (lv_at hl 3 rfl) ?_
                refine lv_iconst (v := nI 1) hx hb dX1_alike_82 (by decide +kernel) ?_
                refine lv_iload hx hb dX1_alike_83 (lv_at hl 4 rfl) ?_
                refine lv_ishl hx hb dX1_alike_85 ?_
                refine z_rng (a := 1) (b := 8388608) (zR_shl1 23 f_108 (by decide)) (fun v_136 hv_136 => ?_)
                refine lv_ior hx hb dX1_alike_86 ?_
                refine z_rng (a := 0) (b := 16777215) (zR_or 24 hx_101 hv_136 (by decide)) (fun v_137 hv_137 => ?_)
                refine lv_istore_n (lv' := [(3, .int (v_137)), (0, .ref (q 75)), (1, .int (pa1)), (2, .ref (q 15)), (4, .int (x_102))]) hx hb dX1_alike_87 rfl hl (by decide) rfl (fun ls hl => ?_)
                exact t_124 (v_137) hv_137 _ _ hP hD hS _ (lv_sub hl [1, 2, 3, 0, 4] rfl)
        · cases hu_110
          refine lv_if_eq (tgt := 88) hx hb dX1_alike_20 (by decide) (fun _ => ?_) (fun c_0 => absurd (zD_eq zk_0 zk_z) c_0)
          exact t_124 (x_101) hx_101 _ _ hP hD hS _ (lv_sub hl [0, 1, 2, 3, 4] rfl)
  exact loop_103 _ (nI 0) (zR_w zk_0 (by decide)) (nI 0) (zR_w zk_0 (by decide)) (Nat.lt_succ_self _) _ _ hP hD hS _ (lv_sub hl [2, 3, 4, 1, 0] rfl)
set_option maxHeartbeats 4000000 in
set_option maxRecDepth 100000 in
theorem xk_X1_compare_1 (l : Launch) (D : va_G) (q : Nat → Nat) (cA : Nat → ClassId) (F : Nat → Nat → Int32) (I R : Nat → Nat → Int32) (J : Nat → Nat → Int64) (hI : xInv F (I, R, J)) (hs : xSound (J 76) (F 75 1)) : zMv l D vwCl (zXtys cA) 81 q (zXd q cA) yX1_compare cX1_compare 9 none ({ frames := 2, cells := 0, slots := 0, locals := 45 } : Room) [.ref (q 46), .ref (q 75), .ref (q 15)] (I, R, J) (fun u => xInv F u) := by
  intro sz
  refine z_body (by decide +kernel) (Nat.le_of_ble_eq_true rfl) (fun p e s m below meth c ls hx hb hml hr ht hown hlocks hsz hK hP hD hS hl => ?_)
  have hA : ∀ a, s.heap.size ≤ a → zA 81 q sz a := fun a h => Or.inr (hsz ▸ h)
  have hl : lv_has ls 9 [(0, .ref (q 46)), (1, .ref (q 75)), (2, .ref (q 15))] := hl
  refine lv_aload_n hx hb dX1_compare_0 rfl (lv_at hl 0 rfl) ?_
  refine lv_iconst (v := nI 0) hx hb dX1_compare_1 (by decide +kernel) ?_
  refine z_putI hx hb ht hown hK hP hD hS ziX1 tyX1 tyX1_ok nmX1 rfl 46 (by decide) 0 (by decide) hw_2_34 rfl (v := nI 0) rfl rfl rfl (Nat.le_of_ble_eq_true rfl) rfl dX1_compare_2 (fun H locs hP hD hS => ?_)
  have hI_1 := xInv_I hI 46 0 (nI 0) (zR_any (nI 0)) rfl
  refine lv_aload_n hx hb dX1_compare_5 rfl (lv_at hl 0 rfl) ?_
  refine lv_iconst (v := (-1)) hx hb dX1_compare_6 (by decide +kernel) ?_
  refine z_putI hx hb ht hown hK hP hD hS ziX1 tyX1 tyX1_ok nmX1 rfl 46 (by decide) 1 (by decide) hw_2_36 rfl (v := (-1)) rfl rfl rfl (Nat.le_of_ble_eq_true rfl) rfl dX1_compare_7 (fun H locs hP hD hS => ?_)
  have hI_2 := xInv_I hI_1 46 1 ((-1)) (zR_any ((-1))) rfl
  refine lv_aload_n hx hb dX1_compare_10 rfl (lv_at hl 0 rfl) ?_
  refine lv_iconst (v := nI 0) hx hb dX1_compare_11 (by decide +kernel) ?_
  refine z_putI hx hb ht hown hK hP hD hS ziX1 tyX1 tyX1_ok nmX1 rfl 46 (by decide) 2 (by decide) hw_2_38 rfl (v := nI 0) rfl rfl rfl (Nat.le_of_ble_eq_true rfl) rfl dX1_compare_12 (fun H locs hP hD hS => ?_)
  have hI_3 := xInv_I hI_2 46 2 (nI 0) (zR_any (nI 0)) rfl
  refine lv_aload_n hx hb dX1_compare_15 rfl (lv_at hl 2 rfl) ?_
  refine z_callVi (k := 15) (As := []) (rest := []) hx hb hml hown ht (xk_X9_openPapers l D q cA F _ _ _ hI_3 ) hw_5_78 hmX9_openPapers ⟨rfl, rfl⟩ (na := 0) rfl (by decide +kernel) (by decide) (by decide) rfl rfl hK hP hD hS hA hl.1 rfl (Nat.le_of_ble_eq_true rfl) ⟨Nat.zero_le _, Nat.zero_le _⟩ dX1_compare_16 (fun r_4 I_4 R_4 J_4 H locs hp_4 hP hD hS _ _ => ?_)
  obtain ⟨hr_4, hu_4⟩ := hp_4
  cases hu_4
  refine lv_istore_n (lv' := [(3, .int (r_4)), (0, .ref (q 46)), (1, .ref (q 75)), (2, .ref (q 15))]) hx hb dX1_compare_19 rfl hl (by decide) rfl (fun ls hl => ?_)
  refine lv_iconst (v := nI 0) hx hb dX1_compare_20 (by decide +kernel) ?_
  refine lv_istore (lv' := [(4, .int (nI 0)), (3, .int (r_4)), (0, .ref (q 46)), (1, .ref (q 75)), (2, .ref (q 15))]) hx hb dX1_compare_21 hl (by decide) rfl (fun ls hl => ?_)
  have loop_195 : ∀ N : Nat, ∀ x_191 : Int32, zR 0 16777215 x_191 → ∀ x_192 : Int32, zR 0 60 x_192 → ∀ I_193 : Nat → Nat → Int32, xInv F (I_193, R, J) → (xFour (x_192)) → (2147483648 - (x_192).toInt).toNat < N → ∀ (H : Heap) (locs : List Loc), va_P D vwCl (zw 81 q (zXd q cA) I_193 R J) H → va_D (zA 81 q sz) (zw 81 q (zXd q cA) I_193 R J) → va_S (zA 81 q sz) s.heap H locs → ∀ ls : Array Slot, lv_has ls 9 [(0, .ref (q 46)), (1, .ref (q 75)), (2, .ref (q 15)), (3, .int (x_191)), (4, .int (x_192))] → W p l e ({ frames := 2, cells := 0, slots := 0, locals := 45 } : Room) s m ([.ref (q 46), .ref (q 75), .ref (q 15)] : List Value).toArray below meth c H locs 0 0 (MQ below (va_Qv (fun u => xInv F u) (zB D vwCl 81 q (zXd q cA) sz) (zA 81 q sz)) ([.ref (q 46), .ref (q 75), .ref (q 15)] : List Value).toArray s 0 0 (zA 81 q sz)) (F0 m 23 ls []) := by
    intro N
    induction N with
    | zero => intro x_191 hx_191 x_192 hx_192 I_193 hI_193 hx_194 hN; exact absurd hN (Nat.not_lt_zero _)
    | succ N ih_197 =>
      intro x_191 hx_191 x_192 hx_192 I_193 hI_193 hx_194 hN_196 H locs hP hD hS ls hl
      refine lv_iload hx hb dX1_compare_23 (lv_at hl 4 rfl) ?_
      refine lv_iconst (v := nI 4) hx hb dX1_compare_25 (by decide +kernel) ?_
      refine lv_iadd hx hb dX1_compare_26 ?_
      refine z_addc 4 64 hx_192 zk_4 (by decide) (fun v_198 hv_198 mv_198 => ?_)
      refine lv_aload_n hx hb dX1_compare_27 rfl (lv_at hl 1 rfl) ?_
      refine z_get hx hb ht hown hK hP ziX6 rfl 75 (by decide) 1 (by decide) hw_2_80 rfl (v := .int (I_193 75 1)) rfl dX1_compare_28 ?_
      have f_199 : zR (-1) 60 (I_193 75 1) := xI hI_193 75 1
      refine lv_icmp_gt (tgt := 182) hx hb dX1_compare_31 (by decide) (fun c_200 => ?_) (fun c_200 => ?_)
      · have t_c_200 := z_ltT c_200
        exact z_vret hx hb hr hlocks hP hD hS dX1_compare_182 hI_193
      · have t_c_200 := z_ltF c_200
        have f_201 : zR 4 60 (v_198) := zR_lex t_c_200 hv_198 f_199 (by decide)
        have f_202 : zR 0 56 (x_192) := zR_shift mv_198 f_201 (by decide)
        have f_203 : zR 4 60 (I_193 75 1) := zR_ley t_c_200 hv_198 f_199 (by decide)
        refine lv_aload_n hx hb dX1_compare_34 rfl (lv_at hl 1 rfl) ?_
        refine lv_iload hx hb dX1_compare_35 (lv_at hl 4 rfl) ?_
        refine lv_aload_n hx hb dX1_compare_37 rfl (lv_at hl 2 rfl) ?_
        refine z_callSi (As := [.ref (q 75), .int (x_192), .ref (q 15)]) (rest := []) hx hb hml hown ht (xk_X1_alike_5 l D q cA F _ _ _ hI_193 (x_192) f_202) hw_5_79 hmX1_alike ⟨rfl, rfl⟩ (na := 3) rfl (by decide +kernel) (by decide) hK hP hD hS hA hl.1 rfl (Nat.le_of_ble_eq_true rfl) ⟨Nat.zero_le _, Nat.zero_le _⟩ dX1_compare_38 (fun r_204 I_204 R_204 J_204 H locs hp_204 hP hD hS _ _ => ?_)
        obtain ⟨hr_204, hu_204⟩ := hp_204
        cases hu_204
        refine lv_istore (lv' := [(5, .int (r_204)), (0, .ref (q 46)), (1, .ref (q 75)), (2, .ref (q 15)), (3, .int (x_191)), (4, .int (x_192))]) hx hb dX1_compare_41 hl (by decide) rfl (fun ls hl => ?_)
        refine lv_aload_n hx hb dX1_compare_43 rfl (lv_at hl 2 rfl) ?_
        refine z_get hx hb ht hown hK hP ziX6 rfl 75 (by decide) 2 (by decide) hw_2_83 rfl (v := .ref (q 76)) rfl dX1_compare_44 ?_
        refine lv_iload hx hb dX1_compare_47 (lv_at hl 5 rfl) ?_
        refine lv_iconst (v := nI 1) hx hb dX1_compare_49 (by decide +kernel) ?_
        refine lv_iadd hx hb dX1_compare_50 ?_
        refine z_addc 1 57 f_202 zk_1 (by decide) (fun v_205 hv_205 mv_205 => ?_)
        have f_206 : zL 0 5 (J 76 (v_205).toNatClampNeg) := xSound_at hs hx_194 mv_205 mv_198 t_c_200 (xFr hI_193 75 1 rfl)
        refine z_lald hx hb hK hP 76 (by decide) 54 rfl rfl (zR_vin hv_205 (by decide)) dX1_compare_51 ?_
        refine z_eql (y := J 76 (v_205).toNatClampNeg) rfl ?_
        refine lv_l2i hx hb dX1_compare_52 rfl ?_
        refine z_rng (a := 0) (b := 5) (zL_l2i f_206 (by decide)) (fun v_207 hv_207 => ?_)
        refine lv_istore (lv' := [(6, .int (v_207)), (5, .int (r_204)), (0, .ref (q 46)), (1, .ref (q 75)), (2, .ref (q 15)), (3, .int (x_191)), (4, .int (x_192))]) hx hb dX1_compare_53 hl (by decide) rfl (fun ls hl => ?_)
        refine lv_aload_n hx hb dX1_compare_55 rfl (lv_at hl 3 rfl) ?_
        refine z_get hx hb ht hown hK hP ziX6 rfl 75 (by decide) 2 (by decide) hw_2_83 rfl (v := .ref (q 76)) rfl dX1_compare_56 ?_
        refine lv_iload hx hb dX1_compare_59 (lv_at hl 6 rfl) ?_
        refine lv_iconst (v := nI 2) hx hb dX1_compare_61 (by decide +kernel) ?_
        refine lv_iadd hx hb dX1_compare_62 ?_
        refine z_addc 2 58 f_202 zk_2 (by decide) (fun v_208 hv_208 mv_208 => ?_)
        refine z_lald hx hb hK hP 76 (by decide) 54 rfl rfl (zR_vin hv_208 (by decide)) dX1_compare_63 ?_
        refine z_eql (y := J 76 (v_208).toNatClampNeg) rfl ?_
        refine lv_aload_n hx hb dX1_compare_64 rfl (lv_at hl 4 rfl) ?_
        refine z_get hx hb ht hown hK hP ziX9 rfl 15 (by decide) 0 (by decide) hw_1_155 rfl (v := .ref (q 3)) rfl dX1_compare_65 ?_
        refine z_get hx hb ht hown hK hP ziX2 rfl 3 (by decide) 9 (by decide) hw_1_105 rfl (v := .ref (q 6)) rfl dX1_compare_68 ?_
        refine lv_iload hx hb dX1_compare_71 (lv_at hl 0 rfl) ?_
        refine z_iald hx hb hK hP 6 (by decide) 3 rfl rfl (zR_vin hv_207 (by decide)) dX1_compare_73 ?_
        refine z_eqi (y := R 6 (v_207).toNatClampNeg) rfl ?_
        refine lv_i2l (v := (R 6 (v_207).toNatClampNeg).toInt64) hx hb dX1_compare_74 rfl ?_
        refine W.lcmp hx hb dX1_compare_75 ?_
        have t_212 : ∀ x_211 : Int32, zR 0 1 x_211 → ∀ (H : Heap) (locs : List Loc), va_P D vwCl (zw 81 q (zXd q cA) I_193 R J) H → va_D (zA 81 q sz) (zw 81 q (zXd q cA) I_193 R J) → va_S (zA 81 q sz) s.heap H locs → ∀ ls : Array Slot, lv_has ls 9 [(0, .ref (q 46)), (1, .ref (q 75)), (2, .ref (q 15)), (3, .int (x_191)), (4, .int (x_192)), (5, .int (r_204)), (6, .int (v_207))] → W p l e ({ frames := 2, cells := 0, slots := 0, locals := 45 } : Room) s m ([.ref (q 46), .ref (q 75), .ref (q 15)] : List Value).toArray below meth c H locs 0 0 (MQ below (va_Qv (fun u => xInv F u) (zB D vwCl 81 q (zXd q cA) sz) (zA 81 q sz)) ([.ref (q 46), .ref (q 75), .ref (q 15)] : List Value).toArray s 0 0 (zA 81 q sz)) (F0 m 84 ls [.int (x_211)]) := by
          intro x_211 hx_211 H locs hP hD hS ls hl
          refine lv_istore (lv' := [(7, .int (x_211)), (0, .ref (q 46)), (1, .ref (q 75)), (2, .ref (q 15)), (3, .int (x_191)), (4, .int (x_192)), (5, .int (r_204)), (6, .int (v_207))]) hx hb dX1_compare_84 hl (by decide) rfl (fun ls hl => ?_)
          refine lv_iload hx hb dX1_compare_86 (lv_at hl 0 rfl) ?_
          have t_218 : ∀ x_217 : Int32, zR 0 16777215 x_217 → ∀ (H : Heap) (locs : List Loc), va_P D vwCl (zw 81 q (zXd q cA) I_193 R J) H → va_D (zA 81 q sz) (zw 81 q (zXd q cA) I_193 R J) → va_S (zA 81 q sz) s.heap H locs → ∀ ls : Array Slot, lv_has ls 9 [(0, .ref (q 46)), (1, .ref (q 75)), (2, .ref (q 15)), (3, .int (x_191)), (4, .int (x_192)), (5, .int (r_204)), (6, .int (v_207)), (7, .int (x_211))] → W p l e ({ frames := 2, cells := 0, slots := 0, locals := 45 } : Room) s m ([.ref (q 46), .ref (q 75), .ref (q 15)] : List Value).toArray below meth c H locs 0 0 (MQ below (va_Qv (fun u => xInv F u) (zB D vwCl 81 q (zXd q cA) sz) (zA 81 q sz)) ([.ref (q 46), .ref (q 75), .ref (q 15)] : List Value).toArray s 0 0 (zA 81 q sz)) (F0 m 99 ls [.int (x_217)]) := by
            intro x_217 hx_217 H locs hP hD hS ls hl
            refine lv_istore (lv' := [(8, .int (x_217)), (0, .ref (q 46)), (1, .ref (q 75)), (2, .ref (q 15)), (3, .int (x_191)), (4, .int (x_192)), (5, .int (r_204)), (6, .int (v_207)), (7, .int (x_211))]) hx hb dX1_compare_99 hl (by decide) rfl (fun ls hl => ?_)
            refine lv_iload hx hb dX1_compare_101 (lv_at hl 0 rfl) ?_
            have t_245 : ∀ x_242 : Int32, zR 0 16777215 x_242 → ∀ I_243 : Nat → Nat → Int32, xInv F (I_243, R, J) → zR 4 60 (I_243 75 1) → ∀ (H : Heap) (locs : List Loc), va_P D vwCl (zw 81 q (zXd q cA) I_243 R J) H → va_D (zA 81 q sz) (zw 81 q (zXd q cA) I_243 R J) → va_S (zA 81 q sz) s.heap H locs → ∀ ls : Array Slot, lv_has ls 9 [(0, .ref (q 46)), (1, .ref (q 75)), (2, .ref (q 15)), (3, .int (x_242)), (4, .int (x_192)), (5, .int (r_204)), (6, .int (v_207)), (7, .int (x_211)), (8, .int (x_217))] → W p l e ({ frames := 2, cells := 0, slots := 0, locals := 45 } : Room) s m ([.ref (q 46), .ref (q 75), .ref (q 15)] : List Value).toArray below meth c H locs 0 0 (MQ below (va_Qv (fun u => xInv F u) (zB D vwCl 81 q (zXd q cA) sz) (zA 81 q sz)) ([.ref (q 46), .ref (q 75), .ref (q 15)] : List Value).toArray s 0 0 (zA 81 q sz)) (F0 m 176 ls []) := by
              intro x_242 hx_242 I_243 hI_243 g_244 H locs hP hD hS ls hl
              obtain ⟨v_246, ev_246⟩ : ∃ y : Int32, y = x_192 + nI 4 := ⟨_, rfl⟩
              have hv_246 : zR 4 60 v_246 := ev_246 ▸ zR_add f_202 zk_4 (by decide)
              have mv_246 : v_246.toInt = (x_192).toInt + 4 := by rw [ev_246, zR_addE f_202 zk_4 (by decide)]; rfl
              refine lv_iinc (v := v_246) (lv' := [(4, .int (v_246)), (0, .ref (q 46)), (1, .ref (q 75)), (2, .ref (q 15)), (3, .int (x_242)), (5, .int (r_204)), (6, .int (v_207)), (7, .int (x_211)), (8, .int (x_217))]) hx hb dX1_compare_176 hl (k := 4) rfl (ev_246 ▸ rfl) (by decide) rfl (fun ls hl => ?_)
              refine lv_goto (tgt := 23) hx hb dX1_compare_179 (by decide) ?_
              exact ih_197 (x_242) hx_242 (v_246) (zR_w hv_246 (by decide)) _ hI_243 (xFour_s hx_194 mv_246) (z2_up mv_246 (by decide) hN_196) _ _ hP hD hS _ (lv_sub hl [1, 2, 3, 4, 0] rfl)
            refine lv_if_eq (tgt := 120) hx hb dX1_compare_103 (by decide) (fun c_219 => ?_) (fun c_219 => ?_)
            · have t_c_219 := z_eqT c_219
              have f_247 : zR 0 0 (x_217) := zR_eqx t_c_219 zk_z
              refine lv_aload_n hx hb dX1_compare_120 rfl (lv_at hl 1 rfl) ?_
              refine lv_aload_n hx hb dX1_compare_121 rfl (lv_at hl 1 rfl) ?_
              refine z_get hx hb ht hown hK hP ziX1 rfl 46 (by decide) 0 (by decide) hw_2_34 rfl (v := .int (I_193 46 0)) rfl dX1_compare_122 ?_
              have t_252 : ∀ x_251 : Int32, ∀ (H : Heap) (locs : List Loc), va_P D vwCl (zw 81 q (zXd q cA) I_193 R J) H → va_D (zA 81 q sz) (zw 81 q (zXd q cA) I_193 R J) → va_S (zA 81 q sz) s.heap H locs → ∀ ls : Array Slot, lv_has ls 9 [(0, .ref (q 46)), (1, .ref (q 75)), (2, .ref (q 15)), (3, .int (x_191)), (4, .int (x_192)), (5, .int (r_204)), (6, .int (v_207)), (7, .int (x_211)), (8, .int (x_217))] → W p l e ({ frames := 2, cells := 0, slots := 0, locals := 45 } : Room) s m ([.ref (q 46), .ref (q 75), .ref (q 15)] : List Value).toArray below meth c H locs 0 0 (MQ below (va_Qv (fun u => xInv F u) (zB D vwCl 81 q (zXd q cA) sz) (zA 81 q sz)) ([.ref (q 46), .ref (q 75), .ref (q 15)] : List Value).toArray s 0 0 (zA 81 q sz)) (F0 m 139 ls [.int (x_251), .ref (q 46)]) := by
                intro x_251 H locs hP hD hS ls hl
                refine z_putI hx hb ht hown hK hP hD hS ziX1 tyX1 tyX1_ok nmX1 rfl 46 (by decide) 1 (by decide) hw_2_36 rfl (v := x_251) rfl rfl rfl (Nat.le_of_ble_eq_true rfl) rfl dX1_compare_139 (fun H locs hP hD hS => ?_)
                have hI_253 := xInv_I hI_193 46 1 (x_251) (zR_any (x_251)) rfl
                refine lv_aload_n hx hb dX1_compare_142 rfl (lv_at hl 0 rfl) ?_
                refine lv_dup hx hb dX1_compare_143 rfl ?_
                refine z_get hx hb ht hown hK hP ziX1 rfl 46 (by decide) 0 (by decide) hw_2_34 rfl (v := .int (I_193 46 0)) rfl dX1_compare_144 ?_
                refine lv_iconst (v := nI 1) hx hb dX1_compare_147 (by decide +kernel) ?_
                refine lv_iadd hx hb dX1_compare_148 ?_
                refine z_any (fun v_254 => ?_)
                refine z_putI hx hb ht hown hK hP hD hS ziX1 tyX1 tyX1_ok nmX1 rfl 46 (by decide) 0 (by decide) hw_2_34 rfl (v := v_254) rfl rfl rfl (Nat.le_of_ble_eq_true rfl) rfl dX1_compare_149 (fun H locs hP hD hS => ?_)
                have hI_255 := xInv_I hI_253 46 0 (v_254) (zR_any (v_254)) rfl
                refine lv_aload_n hx hb dX1_compare_152 rfl (lv_at hl 0 rfl) ?_
                refine lv_dup hx hb dX1_compare_153 rfl ?_
                refine z_get hx hb ht hown hK hP ziX1 rfl 46 (by decide) 2 (by decide) hw_2_38 rfl (v := .int (I_193 46 2)) rfl dX1_compare_154 ?_
                refine lv_iload hx hb dX1_compare_157 (lv_at hl 7 rfl) ?_
                have t_263 : ∀ x_262 : Int32, zR 0 1 x_262 → ∀ (H : Heap) (locs : List Loc), va_P D vwCl (zw 81 q (zXd q cA) (zp (zp I_193 46 1 (x_251)) 46 0 (v_254)) R J) H → va_D (zA 81 q sz) (zw 81 q (zXd q cA) (zp (zp I_193 46 1 (x_251)) 46 0 (v_254)) R J) → va_S (zA 81 q sz) s.heap H locs → ∀ ls : Array Slot, lv_has ls 9 [(0, .ref (q 46)), (1, .ref (q 75)), (2, .ref (q 15)), (3, .int (x_191)), (4, .int (x_192)), (5, .int (r_204)), (6, .int (v_207)), (7, .int (x_211)), (8, .int (x_217))] → W p l e ({ frames := 2, cells := 0, slots := 0, locals := 45 } : Room) s m ([.ref (q 46), .ref (q 75), .ref (q 15)] : List Value).toArray below meth c H locs 0 0 (MQ below (va_Qv (fun u => xInv F u) (zB D vwCl 81 q (zXd q cA) sz) (zA 81 q sz)) ([.ref (q 46), .ref (q 75), .ref (q 15)] : List Value).toArray s 0 0 (zA 81 q sz)) (F0 m 172 ls [.int (x_262), .int (I_193 46 2), .ref (q 46)]) := by
                  intro x_262 hx_262 H locs hP hD hS ls hl
                  refine lv_iadd hx hb dX1_compare_172 ?_
                  refine z_any (fun v_264 => ?_)
                  refine z_putI hx hb ht hown hK hP hD hS ziX1 tyX1 tyX1_ok nmX1 rfl 46 (by decide) 2 (by decide) hw_2_38 rfl (v := v_264) rfl rfl rfl (Nat.le_of_ble_eq_true rfl) rfl dX1_compare_173 (fun H locs hP hD hS => ?_)
                  have hI_265 := xInv_I hI_255 46 2 (v_264) (zR_any (v_264)) rfl
                  exact t_245 (x_191) hx_191 _ hI_265 f_203 _ _ hP hD hS _ (lv_sub hl [0, 1, 2, 3, 4, 5, 6, 7, 8] rfl)
                refine lv_if_ne (tgt := 171) hx hb dX1_compare_159 (by decide) (fun c_256 => ?_) (fun c_256 => ?_)
                · have t_c_256 := z_eqF c_256
                  have f_266 : zR 1 1 (x_211) := zR_nex t_c_256 hx_211 zk_z (by decide)
                  refine lv_iconst (v := nI 0) hx hb dX1_compare_171 (by decide +kernel) ?_
                  exact t_263 (nI 0) (zR_w zk_0 (by decide)) _ _ hP hD hS _ (lv_sub hl [0, 1, 2, 3, 4, 5, 6, 7, 8] rfl)
                · have t_c_256 := z_eqT c_256
                  have f_267 : zR 0 0 (x_211) := zR_eqx t_c_256 zk_z
                  refine lv_iload hx hb dX1_compare_162 (lv_at hl 5 rfl) ?_
                  refine lv_if_eq (tgt := 171) hx hb dX1_compare_164 (by decide) (fun c_268 => ?_) (fun c_268 => ?_)
                  · have t_c_268 := z_eqT c_268
                    have f_269 : zR 0 0 (r_204) := zR_eqx t_c_268 zk_z
                    refine lv_iconst (v := nI 0) hx hb dX1_compare_171 (by decide +kernel) ?_
                    exact t_263 (nI 0) (zR_w zk_0 (by decide)) _ _ hP hD hS _ (lv_sub hl [0, 1, 2, 3, 4, 5, 6, 7, 8] rfl)
                  · have t_c_268 := z_eqF c_268
                    have f_270 : zR 1 16777215 (r_204) := zR_nex t_c_268 hr_204 zk_z (by decide)
                    refine lv_iconst (v := nI 1) hx hb dX1_compare_167 (by decide +kernel) ?_
                    refine lv_goto (tgt := 172) hx hb dX1_compare_168 (by decide) ?_
                    exact t_263 (nI 1) (zR_w zk_1 (by decide)) _ _ hP hD hS _ (lv_sub hl [0, 1, 2, 3, 4, 5, 6, 7, 8] rfl)
              refine lv_if_ne (tgt := 135) hx hb dX1_compare_125 (by decide) (fun c_248 => ?_) (fun c_248 => ?_)
              · have t_c_248 := z_eqF c_248
                refine lv_aload_n hx hb dX1_compare_135 rfl (lv_at hl 1 rfl) ?_
                refine z_get hx hb ht hown hK hP ziX1 rfl 46 (by decide) 1 (by decide) hw_2_36 rfl (v := .int (I_193 46 1)) rfl dX1_compare_136 ?_
                exact t_252 (I_193 46 1) _ _ hP hD hS _ (lv_sub hl [1, 2, 3, 4, 5, 6, 7, 8, 0] rfl)
              · have t_c_248 := z_eqT c_248
                have f_271 : zR 0 0 (I_193 46 0) := zR_eqx t_c_248 zk_z
                refine lv_iload hx hb dX1_compare_128 (lv_at hl 5 rfl) ?_
                refine lv_iconst (v := nI 4) hx hb dX1_compare_130 (by decide +kernel) ?_
                refine lv_idiv hx hb dX1_compare_131 (by decide +kernel) ?_
                refine z_rng (a := 0) (b := 14) (zR_divc f_202 zk_4 (by decide)) (fun v_272 hv_272 => ?_)
                refine lv_goto (tgt := 139) hx hb dX1_compare_132 (by decide) ?_
                exact t_252 (v_272) _ _ hP hD hS _ (lv_sub hl [1, 2, 3, 4, 5, 6, 7, 8, 0] rfl)
            · have t_c_219 := z_eqF c_219
              have f_273 : zR 1 16777215 (x_217) := zR_nex t_c_219 hx_217 zk_z (by decide)
              refine lv_iload_n hx hb dX1_compare_106 rfl (lv_at hl 4 rfl) ?_
              refine lv_iload hx hb dX1_compare_107 (lv_at hl 0 rfl) ?_
              refine lv_iload hx hb dX1_compare_109 (lv_at hl 0 rfl) ?_
              refine lv_ineg hx hb dX1_compare_111 ?_
              refine z_any (fun v_274 => ?_)
              refine lv_iand hx hb dX1_compare_112 ?_
              refine z_rng (a := 0) (b := 16777215) (zR_andl f_273 (by decide)) (fun v_275 hv_275 => ?_)
              refine lv_iconst (v := (-1)) hx hb dX1_compare_113 (by decide +kernel) ?_
              refine lv_ixor hx hb dX1_compare_114 ?_
              refine z_any (fun v_276 => ?_)
              refine lv_iand hx hb dX1_compare_115 ?_
              refine z_rng (a := 0) (b := 16777215) (zR_andl hx_191 (by decide)) (fun v_277 hv_277 => ?_)
              refine lv_istore_n (lv' := [(3, .int (v_277)), (8, .int (x_217)), (0, .ref (q 46)), (1, .ref (q 75)), (2, .ref (q 15)), (4, .int (x_192)), (5, .int (r_204)), (6, .int (v_207)), (7, .int (x_211))]) hx hb dX1_compare_116 rfl hl (by decide) rfl (fun ls hl => ?_)
              refine lv_goto (tgt := 176) hx hb dX1_compare_117 (by decide) ?_
              exact t_245 (v_277) hv_277 _ hI_193 f_203 _ _ hP hD hS _ (lv_sub hl [2, 3, 4, 0, 5, 6, 7, 8, 1] rfl)
          refine lv_if_eq (tgt := 98) hx hb dX1_compare_88 (by decide) (fun c_213 => ?_) (fun c_213 => ?_)
          · have t_c_213 := z_eqT c_213
            have f_278 : zR 0 0 (x_211) := zR_eqx t_c_213 zk_z
            refine lv_iconst (v := nI 0) hx hb dX1_compare_98 (by decide +kernel) ?_
            exact t_218 (nI 0) (zR_w zk_0 (by decide)) _ _ hP hD hS _ (lv_sub hl [1, 2, 3, 4, 5, 6, 7, 0] rfl)
          · have t_c_213 := z_eqF c_213
            have f_279 : zR 1 1 (x_211) := zR_nex t_c_213 hx_211 zk_z (by decide)
            refine lv_iload hx hb dX1_compare_91 (lv_at hl 6 rfl) ?_
            refine lv_iload_n hx hb dX1_compare_93 rfl (lv_at hl 4 rfl) ?_
            refine lv_iand hx hb dX1_compare_94 ?_
            refine z_rng (a := 0) (b := 16777215) (zR_andr hx_191 (by decide)) (fun v_280 hv_280 => ?_)
            refine lv_goto (tgt := 99) hx hb dX1_compare_95 (by decide) ?_
            exact t_218 (v_280) hv_280 _ _ hP hD hS _ (lv_sub hl [1, 2, 3, 4, 5, 6, 7, 0] rfl)
        refine lv_if_ne (tgt := 83) hx hb dX1_compare_76 (by decide) (fun c_209 => ?_) (fun c_209 => ?_)
        · have t_c_209 := z_leqF (fun h => c_209 ((lg_cmp_eq _ _).mpr h))
          refine lv_iconst (v := nI 0) hx hb dX1_compare_83 (by decide +kernel) ?_
          exact t_212 (nI 0) (zR_w zk_0 (by decide)) _ _ hP hD hS _ (lv_sub hl [2, 3, 4, 5, 6, 1, 0] rfl)
        · have t_c_209 := z_leqT ((lg_cmp_eq _ _).mp c_209)
          have f_281 : zL (-2147483648) 2147483647 (J 76 (v_208).toNatClampNeg) := zL_eqx t_c_209 (zR_i2l (zR_any (R 6 (v_207).toNatClampNeg)))
          refine lv_iconst (v := nI 1) hx hb dX1_compare_79 (by decide +kernel) ?_
          refine lv_goto (tgt := 84) hx hb dX1_compare_80 (by decide) ?_
          exact t_212 (nI 1) (zR_w zk_1 (by decide)) _ _ hP hD hS _ (lv_sub hl [2, 3, 4, 5, 6, 1, 0] rfl)
  exact loop_195 _ (r_4) hr_4 (nI 0) (zR_w zk_0 (by decide)) _ hI_3 xFour_0 (Nat.lt_succ_self _) _ _ hP hD hS _ (lv_sub hl [2, 3, 4, 1, 0] rfl)
set_option maxHeartbeats 4000000 in
set_option maxRecDepth 100000 in
theorem xk_X6_isThere_2 (l : Launch) (D : va_G) (q : Nat → Nat) (cA : Nat → ClassId) (F : Nat → Nat → Int32) (I R : Nat → Nat → Int32) (J : Nat → Nat → Int64) (hI : xInv F (I, R, J))  : zMi l D vwCl (zXtys cA) 81 q (zXd q cA) yX6_isThere cX6_isThere 1 (some .boolean) ({ frames := 0, cells := 0, slots := 0, locals := 0 } : Room) [.ref (q 77)] (I, R, J) (fun r u => (r = nI 1 ∧ u = (I, R, J) ∧ (I 77 1).toInt ≠ -1) ∨ (r = nI 0 ∧ u = (I, R, J) ∧ (I 77 1).toInt = -1)) := by
  intro sz
  refine z_body (by decide +kernel) (Nat.le_of_ble_eq_true rfl) (fun p e s m below meth c ls hx hb hml hr ht hown hlocks hsz hK hP hD hS hl => ?_)
  have hA : ∀ a, s.heap.size ≤ a → zA 81 q sz a := fun a h => Or.inr (hsz ▸ h)
  have hl : lv_has ls 1 [(0, .ref (q 77))] := hl
  refine lv_aload_n hx hb dX6_isThere_0 rfl (lv_at hl 0 rfl) ?_
  refine z_get hx hb ht hown hK hP ziX6 rfl 77 (by decide) 1 (by decide) hw_2_79 rfl (v := .int (I 77 1)) rfl dX6_isThere_1 ?_
  have f_1 : zR (-1) 60 (I 77 1) := xI hI 77 1
  refine lv_iconst (v := (-1)) hx hb dX6_isThere_4 (by decide +kernel) ?_
  refine lv_icmp_eq (tgt := 12) hx hb dX6_isThere_5 (by decide) (fun c_2 => ?_) (fun c_2 => ?_)
  · have t_c_2 := z_eqT c_2
    have f_3 : zR (-1) (-1) (I 77 1) := zR_eqx t_c_2 zk_m1
    refine lv_iconst (v := nI 0) hx hb dX6_isThere_12 (by decide +kernel) ?_
    exact z_zret (v := nI 0) hx hb hr hlocks hP hD hS (by decide +kernel) dX6_isThere_13 (Or.inr ⟨rfl, rfl, t_c_2.trans (by decide +kernel)⟩)
  · have t_c_2 := z_eqF c_2
    have f_4 : zR 0 60 (I 77 1) := zR_nex t_c_2 f_1 zk_m1 (by decide)
    refine lv_iconst (v := nI 1) hx hb dX6_isThere_8 (by decide +kernel) ?_
    refine lv_goto (tgt := 13) hx hb dX6_isThere_9 (by decide) ?_
    exact z_zret (v := nI 1) hx hb hr hlocks hP hD hS (by decide +kernel) dX6_isThere_13 (Or.inl ⟨rfl, rfl, fun h => t_c_2 (h.trans (by decide +kernel))⟩)
set_option maxHeartbeats 4000000 in
set_option maxRecDepth 100000 in
theorem xk_X1_isSound_2 (l : Launch) (D : va_G) (q : Nat → Nat) (cA : Nat → ClassId) (F : Nat → Nat → Int32) (I R : Nat → Nat → Int32) (J : Nat → Nat → Int64) (hI : xInv F (I, R, J))  : zMi l D vwCl (zXtys cA) 81 q (zXd q cA) yX1_isSound cX1_isSound 4 (some .boolean) ({ frames := 1, cells := 0, slots := 0, locals := 23 } : Room) [.ref (q 46), .ref (q 77), .ref (q 3)] (I, R, J) (fun r u => (r = nI 1 ∧ u = (I, R, J) ∧ xSound (J 78) (F 77 1)) ∨ (r = nI 0 ∧ u = (I, R, J) ∧ True)) := by
  intro sz
  refine z_body (by decide +kernel) (Nat.le_of_ble_eq_true rfl) (fun p e s m below meth c ls hx hb hml hr ht hown hlocks hsz hK hP hD hS hl => ?_)
  have hA : ∀ a, s.heap.size ≤ a → zA 81 q sz a := fun a h => Or.inr (hsz ▸ h)
  have hl : lv_has ls 4 [(0, .ref (q 46)), (1, .ref (q 77)), (2, .ref (q 3))] := hl
  refine lv_aload_n hx hb dX1_isSound_0 rfl (lv_at hl 1 rfl) ?_
  refine z_get hx hb ht hown hK hP ziX6 rfl 77 (by decide) 1 (by decide) hw_2_80 rfl (v := .int (I 77 1)) rfl dX1_isSound_1 ?_
  have f_1 : zR (-1) 60 (I 77 1) := xI hI 77 1
  refine lv_iconst (v := nI 4) hx hb dX1_isSound_4 (by decide +kernel) ?_
  refine lv_irem hx hb dX1_isSound_5 (by decide +kernel) ?_
  refine z_any (fun v_2 => ?_)
  refine lv_if_eq (tgt := 11) hx hb dX1_isSound_6 (by decide) (fun c_3 => ?_) (fun c_3 => ?_)
  · have t_c_3 := z_eqT c_3
    have f_4 : zR 0 0 (v_2) := zR_eqx t_c_3 zk_z
    refine lv_iconst (v := nI 0) hx hb dX1_isSound_11 (by decide +kernel) ?_
    refine lv_istore_n (lv' := [(3, .int (nI 0)), (0, .ref (q 46)), (1, .ref (q 77)), (2, .ref (q 3))]) hx hb dX1_isSound_12 rfl hl (by decide) rfl (fun ls hl => ?_)
    have loop_75 : ∀ N : Nat, ∀ x_73 : Int32, zR 0 60 x_73 → (xSnd (J 78) (x_73)) → (2147483648 - (x_73).toInt).toNat < N → ∀ (H : Heap) (locs : List Loc), va_P D vwCl (zw 81 q (zXd q cA) I R J) H → va_D (zA 81 q sz) (zw 81 q (zXd q cA) I R J) → va_S (zA 81 q sz) s.heap H locs → ∀ ls : Array Slot, lv_has ls 4 [(0, .ref (q 46)), (1, .ref (q 77)), (2, .ref (q 3)), (3, .int (x_73))] → W p l e ({ frames := 1, cells := 0, slots := 0, locals := 23 } : Room) s m ([.ref (q 46), .ref (q 77), .ref (q 3)] : List Value).toArray below meth c H locs 0 0 (MQ below (va_Qi (fun r u => (r = nI 1 ∧ u = (I, R, J) ∧ xSound (J 78) (F 77 1)) ∨ (r = nI 0 ∧ u = (I, R, J) ∧ True)) (zB D vwCl 81 q (zXd q cA) sz) (zA 81 q sz)) ([.ref (q 46), .ref (q 77), .ref (q 3)] : List Value).toArray s 0 0 (zA 81 q sz)) (F0 m 13 ls []) := by
      intro N
      induction N with
      | zero => intro x_73 hx_73 hx_74 hN; exact absurd hN (Nat.not_lt_zero _)
      | succ N ih_77 =>
        intro x_73 hx_73 hx_74 hN_76 H locs hP hD hS ls hl
        refine lv_iload_n hx hb dX1_isSound_13 rfl (lv_at hl 3 rfl) ?_
        refine lv_iconst (v := nI 4) hx hb dX1_isSound_14 (by decide +kernel) ?_
        refine lv_iadd hx hb dX1_isSound_15 ?_
        refine z_addc 4 64 hx_73 zk_4 (by decide) (fun v_78 hv_78 mv_78 => ?_)
        refine lv_aload_n hx hb dX1_isSound_16 rfl (lv_at hl 1 rfl) ?_
        refine z_get hx hb ht hown hK hP ziX6 rfl 77 (by decide) 1 (by decide) hw_2_80 rfl (v := .int (I 77 1)) rfl dX1_isSound_17 ?_
        refine lv_icmp_gt (tgt := 106) hx hb dX1_isSound_20 (by decide) (fun c_79 => ?_) (fun c_79 => ?_)
        · have t_c_79 := z_ltT c_79
          refine lv_iconst (v := nI 1) hx hb dX1_isSound_106 (by decide +kernel) ?_
          exact z_zret (v := nI 1) hx hb hr hlocks hP hD hS (by decide +kernel) dX1_isSound_107 (Or.inl ⟨rfl, rfl, (xFr hI 77 1 rfl) ▸ xSnd_end hx_74 mv_78 t_c_79⟩)
        · have t_c_79 := z_ltF c_79
          have f_80 : zR 4 60 (v_78) := zR_lex t_c_79 hv_78 f_1 (by decide)
          have f_81 : zR 0 56 (x_73) := zR_shift mv_78 f_80 (by decide)
          have f_82 : zR 4 60 (I 77 1) := zR_ley t_c_79 hv_78 f_1 (by decide)
          refine lv_aload_n hx hb dX1_isSound_23 rfl (lv_at hl 1 rfl) ?_
          refine z_get hx hb ht hown hK hP ziX6 rfl 77 (by decide) 2 (by decide) hw_2_83 rfl (v := .ref (q 78)) rfl dX1_isSound_24 ?_
          refine lv_iload_n hx hb dX1_isSound_27 rfl (lv_at hl 3 rfl) ?_
          refine z_lald hx hb hK hP 78 (by decide) 55 rfl rfl (zR_vin f_81 (by decide)) dX1_isSound_28 ?_
          refine z_eql (y := J 78 (x_73).toNatClampNeg) rfl ?_
          refine lv_iconst (v := nI 0) hx hb dX1_isSound_29 (by decide +kernel) ?_
          refine lv_aload_n hx hb dX1_isSound_30 rfl (lv_at hl 2 rfl) ?_
          refine z_get hx hb ht hown hK hP ziX2 rfl 3 (by decide) 4 (by decide) hw_1_82 rfl (v := .int (I 3 4)) rfl dX1_isSound_31 ?_
          have f_83 : zR 0 5 (I 3 4) := xI hI 3 4
          refine lv_iconst (v := nI 1) hx hb dX1_isSound_34 (by decide +kernel) ?_
          refine lv_isub hx hb dX1_isSound_35 ?_
          refine z_subc (-1) 4 (-1) f_83 zk_1 (by decide) (fun v_84 hv_84 mv_84 => ?_)
          refine z_callSi (As := [.long (J 78 (x_73).toNatClampNeg), .int (nI 0), .int (v_84)]) (rest := []) hx hb hml hown ht (xk_X1_isWithin l D q cA F _ _ _ hI (J 78 (x_73).toNatClampNeg) (nI 0) (zR_w zk_0 (by decide)) (v_84) hv_84) hw_5_71 hmX1_isWithin ⟨rfl, rfl⟩ (na := 3) rfl (by decide +kernel) (by decide) hK hP hD hS hA hl.1 rfl (Nat.le_of_ble_eq_true rfl) ⟨Nat.zero_le _, Nat.zero_le _⟩ dX1_isSound_36 (fun r_85 I_85 R_85 J_85 H locs hp_85 hP hD hS _ _ => ?_)
          rcases hp_85 with ⟨rfl, hu_85, f0_85, f2_85⟩ | ⟨rfl, hu_85⟩
          · cases hu_85
            refine lv_if_eq (tgt := 98) hx hb dX1_isSound_39 (by decide) (fun c_0 => absurd c_0 (zD_ne zk_1 zk_z (by decide))) (fun _ => ?_)
            refine lv_aload_n hx hb dX1_isSound_42 rfl (lv_at hl 1 rfl) ?_
            refine z_get hx hb ht hown hK hP ziX6 rfl 77 (by decide) 2 (by decide) hw_2_83 rfl (v := .ref (q 78)) rfl dX1_isSound_43 ?_
            refine lv_iload_n hx hb dX1_isSound_46 rfl (lv_at hl 3 rfl) ?_
            refine lv_iconst (v := nI 1) hx hb dX1_isSound_47 (by decide +kernel) ?_
            refine lv_iadd hx hb dX1_isSound_48 ?_
            refine z_addc 1 57 f_81 zk_1 (by decide) (fun v_86 hv_86 mv_86 => ?_)
            refine z_lald hx hb hK hP 78 (by decide) 55 rfl rfl (zR_vin hv_86 (by decide)) dX1_isSound_49 ?_
            refine z_eql (y := J 78 (v_86).toNatClampNeg) rfl ?_
            refine lv_iconst (v := nI 0) hx hb dX1_isSound_50 (by decide +kernel) ?_
            refine lv_aload_n hx hb dX1_isSound_51 rfl (lv_at hl 2 rfl) ?_
            refine z_get hx hb ht hown hK hP ziX2 rfl 3 (by decide) 5 (by decide) hw_1_88 rfl (v := .int (I 3 5)) rfl dX1_isSound_52 ?_
            have f_87 : zR 0 6 (I 3 5) := xI hI 3 5
            refine lv_iconst (v := nI 1) hx hb dX1_isSound_55 (by decide +kernel) ?_
            refine lv_isub hx hb dX1_isSound_56 ?_
            refine z_subc (-1) 5 (-1) f_87 zk_1 (by decide) (fun v_88 hv_88 mv_88 => ?_)
            refine z_callSi (As := [.long (J 78 (v_86).toNatClampNeg), .int (nI 0), .int (v_88)]) (rest := []) hx hb hml hown ht (xk_X1_isWithin_1 l D q cA F _ _ _ hI (J 78 (v_86).toNatClampNeg) (nI 0) (zR_w zk_0 (by decide)) (v_88) hv_88) hw_5_71 hmX1_isWithin ⟨rfl, rfl⟩ (na := 3) rfl (by decide +kernel) (by decide) hK hP hD hS hA hl.1 rfl (Nat.le_of_ble_eq_true rfl) ⟨Nat.zero_le _, Nat.zero_le _⟩ dX1_isSound_57 (fun r_89 I_89 R_89 J_89 H locs hp_89 hP hD hS _ _ => ?_)
            rcases hp_89 with ⟨rfl, hu_89, f0_89, f2_89⟩ | ⟨rfl, hu_89⟩
            · cases hu_89
              refine lv_if_eq (tgt := 98) hx hb dX1_isSound_60 (by decide) (fun c_0 => absurd c_0 (zD_ne zk_1 zk_z (by decide))) (fun _ => ?_)
              refine lv_aload_n hx hb dX1_isSound_63 rfl (lv_at hl 1 rfl) ?_
              refine z_get hx hb ht hown hK hP ziX6 rfl 77 (by decide) 2 (by decide) hw_2_83 rfl (v := .ref (q 78)) rfl dX1_isSound_64 ?_
              refine lv_iload_n hx hb dX1_isSound_67 rfl (lv_at hl 3 rfl) ?_
              refine lv_iconst (v := nI 2) hx hb dX1_isSound_68 (by decide +kernel) ?_
              refine lv_iadd hx hb dX1_isSound_69 ?_
              refine z_addc 2 58 f_81 zk_2 (by decide) (fun v_90 hv_90 mv_90 => ?_)
              refine z_lald hx hb hK hP 78 (by decide) 55 rfl rfl (zR_vin hv_90 (by decide)) dX1_isSound_70 ?_
              refine z_eql (y := J 78 (v_90).toNatClampNeg) rfl ?_
              refine lv_iconst (v := nI 0) hx hb dX1_isSound_71 (by decide +kernel) ?_
              refine lv_sipush (v := nI 9999) hx hb dX1_isSound_72 (by decide +kernel) ?_
              refine z_callSi (As := [.long (J 78 (v_90).toNatClampNeg), .int (nI 0), .int (nI 9999)]) (rest := []) hx hb hml hown ht (xk_X1_isWithin_2 l D q cA F _ _ _ hI (J 78 (v_90).toNatClampNeg) (nI 0) (zR_w zk_0 (by decide)) (nI 9999) (zR_w zk_9999 (by decide))) hw_5_71 hmX1_isWithin ⟨rfl, rfl⟩ (na := 3) rfl (by decide +kernel) (by decide) hK hP hD hS hA hl.1 rfl (Nat.le_of_ble_eq_true rfl) ⟨Nat.zero_le _, Nat.zero_le _⟩ dX1_isSound_75 (fun r_91 I_91 R_91 J_91 H locs hp_91 hP hD hS _ _ => ?_)
              rcases hp_91 with ⟨rfl, hu_91, f0_91⟩ | ⟨rfl, hu_91⟩
              · cases hu_91
                refine lv_if_eq (tgt := 98) hx hb dX1_isSound_78 (by decide) (fun c_0 => absurd c_0 (zD_ne zk_1 zk_z (by decide))) (fun _ => ?_)
                refine lv_aload_n hx hb dX1_isSound_81 rfl (lv_at hl 1 rfl) ?_
                refine z_get hx hb ht hown hK hP ziX6 rfl 77 (by decide) 2 (by decide) hw_2_83 rfl (v := .ref (q 78)) rfl dX1_isSound_82 ?_
                refine lv_iload_n hx hb dX1_isSound_85 rfl (lv_at hl 3 rfl) ?_
                refine lv_iconst (v := nI 3) hx hb dX1_isSound_86 (by decide +kernel) ?_
                refine lv_iadd hx hb dX1_isSound_87 ?_
                refine z_addc 3 59 f_81 zk_3 (by decide) (fun v_92 hv_92 mv_92 => ?_)
                refine z_lald hx hb hK hP 78 (by decide) 55 rfl rfl (zR_vin hv_92 (by decide)) dX1_isSound_88 ?_
                refine z_eql (y := J 78 (v_92).toNatClampNeg) rfl ?_
                refine lv_iconst (v := nI 1) hx hb dX1_isSound_89 (by decide +kernel) ?_
                refine lv_bipush (v := nI 60) hx hb dX1_isSound_90 (by decide +kernel) ?_
                refine z_callSi (As := [.long (J 78 (v_92).toNatClampNeg), .int (nI 1), .int (nI 60)]) (rest := []) hx hb hml hown ht (xk_X1_isWithin_3 l D q cA F _ _ _ hI (J 78 (v_92).toNatClampNeg) (nI 1) (zR_w zk_1 (by decide)) (nI 60) (zR_w zk_60 (by decide))) hw_5_71 hmX1_isWithin ⟨rfl, rfl⟩ (na := 3) rfl (by decide +kernel) (by decide) hK hP hD hS hA hl.1 rfl (Nat.le_of_ble_eq_true rfl) ⟨Nat.zero_le _, Nat.zero_le _⟩ dX1_isSound_92 (fun r_93 I_93 R_93 J_93 H locs hp_93 hP hD hS _ _ => ?_)
                rcases hp_93 with ⟨rfl, hu_93, f0_93⟩ | ⟨rfl, hu_93⟩
                · cases hu_93
                  refine lv_if_ne (tgt := 100) hx hb dX1_isSound_95 (by decide) (fun _ => ?_) (fun c_0 => absurd c_0 (zD_ne zk_1 zk_z (by decide)))
                  obtain ⟨v_94, ev_94⟩ : ∃ y : Int32, y = x_73 + nI 4 := ⟨_, rfl⟩
                  have hv_94 : zR 4 60 v_94 := ev_94 ▸ zR_add f_81 zk_4 (by decide)
                  have mv_94 : v_94.toInt = (x_73).toInt + 4 := by rw [ev_94, zR_addE f_81 zk_4 (by decide)]; rfl
                  refine lv_iinc (v := v_94) (lv' := [(3, .int (v_94)), (0, .ref (q 46)), (1, .ref (q 77)), (2, .ref (q 3))]) hx hb dX1_isSound_100 hl (k := 3) rfl (ev_94 ▸ rfl) (by decide) rfl (fun ls hl => ?_)
                  refine lv_goto (tgt := 13) hx hb dX1_isSound_103 (by decide) ?_
                  exact ih_77 (v_94) (zR_w hv_94 (by decide)) (xSnd_step hx_74 f0_89 mv_86 mv_94) (z2_up mv_94 (by decide) hN_76) _ _ hP hD hS _ (lv_sub hl [1, 2, 3, 0] rfl)
                · cases hu_93
                  refine lv_if_ne (tgt := 100) hx hb dX1_isSound_95 (by decide) (fun c_0 => absurd (zD_eq zk_0 zk_z) c_0) (fun _ => ?_)
                  refine lv_iconst (v := nI 0) hx hb dX1_isSound_98 (by decide +kernel) ?_
                  exact z_zret (v := nI 0) hx hb hr hlocks hP hD hS (by decide +kernel) dX1_isSound_99 (Or.inr ⟨rfl, rfl, trivial⟩)
              · cases hu_91
                refine lv_if_eq (tgt := 98) hx hb dX1_isSound_78 (by decide) (fun _ => ?_) (fun c_0 => absurd (zD_eq zk_0 zk_z) c_0)
                refine lv_iconst (v := nI 0) hx hb dX1_isSound_98 (by decide +kernel) ?_
                exact z_zret (v := nI 0) hx hb hr hlocks hP hD hS (by decide +kernel) dX1_isSound_99 (Or.inr ⟨rfl, rfl, trivial⟩)
            · cases hu_89
              refine lv_if_eq (tgt := 98) hx hb dX1_isSound_60 (by decide) (fun _ => ?_) (fun c_0 => absurd (zD_eq zk_0 zk_z) c_0)
              refine lv_iconst (v := nI 0) hx hb dX1_isSound_98 (by decide +kernel) ?_
              exact z_zret (v := nI 0) hx hb hr hlocks hP hD hS (by decide +kernel) dX1_isSound_99 (Or.inr ⟨rfl, rfl, trivial⟩)
          · cases hu_85
            refine lv_if_eq (tgt := 98) hx hb dX1_isSound_39 (by decide) (fun _ => ?_) (fun c_0 => absurd (zD_eq zk_0 zk_z) c_0)
            refine lv_iconst (v := nI 0) hx hb dX1_isSound_98 (by decide +kernel) ?_
            exact z_zret (v := nI 0) hx hb hr hlocks hP hD hS (by decide +kernel) dX1_isSound_99 (Or.inr ⟨rfl, rfl, trivial⟩)
    exact loop_75 _ (nI 0) (zR_w zk_0 (by decide)) xSnd_0 (Nat.lt_succ_self _) _ _ hP hD hS _ (lv_sub hl [1, 2, 3, 0] rfl)
  · have t_c_3 := z_eqF c_3
    refine lv_iconst (v := nI 0) hx hb dX1_isSound_9 (by decide +kernel) ?_
    exact z_zret (v := nI 0) hx hb hr hlocks hP hD hS (by decide +kernel) dX1_isSound_10 (Or.inr ⟨rfl, rfl, trivial⟩)
set_option maxHeartbeats 4000000 in
set_option maxRecDepth 100000 in
theorem xk_X1_alike_8 (l : Launch) (D : va_G) (q : Nat → Nat) (cA : Nat → ClassId) (F : Nat → Nat → Int32) (I R : Nat → Nat → Int32) (J : Nat → Nat → Int64) (hI : xInv F (I, R, J)) (pa1 : Int32) (hpa1 : zR 0 56 pa1) : zMi l D vwCl (zXtys cA) 81 q (zXd q cA) yX1_alike cX1_alike 5 (some .int) ({ frames := 1, cells := 0, slots := 0, locals := 21 } : Room) [.ref (q 77), .int (pa1), .ref (q 15)] (I, R, J) (fun r u => zR 0 16777215 r ∧ u = (I, R, J)) := by
  intro sz
  refine z_body (by decide +kernel) (Nat.le_of_ble_eq_true rfl) (fun p e s m below meth c ls hx hb hml hr ht hown hlocks hsz hK hP hD hS hl => ?_)
  have hA : ∀ a, s.heap.size ≤ a → zA 81 q sz a := fun a h => Or.inr (hsz ▸ h)
  have hl : lv_has ls 5 [(0, .ref (q 77)), (1, .int (pa1)), (2, .ref (q 15))] := hl
  refine lv_iconst (v := nI 0) hx hb dX1_alike_0 (by decide +kernel) ?_
  refine lv_istore_n (lv' := [(3, .int (nI 0)), (0, .ref (q 77)), (1, .int (pa1)), (2, .ref (q 15))]) hx hb dX1_alike_1 rfl hl (by decide) rfl (fun ls hl => ?_)
  refine lv_iconst (v := nI 0) hx hb dX1_alike_2 (by decide +kernel) ?_
  refine lv_istore (lv' := [(4, .int (nI 0)), (3, .int (nI 0)), (0, .ref (q 77)), (1, .int (pa1)), (2, .ref (q 15))]) hx hb dX1_alike_3 hl (by decide) rfl (fun ls hl => ?_)
  have loop_103 : ∀ N : Nat, ∀ x_101 : Int32, zR 0 16777215 x_101 → ∀ x_102 : Int32, zR 0 24 x_102 → (2147483648 - (x_102).toInt).toNat < N → ∀ (H : Heap) (locs : List Loc), va_P D vwCl (zw 81 q (zXd q cA) I R J) H → va_D (zA 81 q sz) (zw 81 q (zXd q cA) I R J) → va_S (zA 81 q sz) s.heap H locs → ∀ ls : Array Slot, lv_has ls 5 [(0, .ref (q 77)), (1, .int (pa1)), (2, .ref (q 15)), (3, .int (x_101)), (4, .int (x_102))] → W p l e ({ frames := 1, cells := 0, slots := 0, locals := 21 } : Room) s m ([.ref (q 77), .int (pa1), .ref (q 15)] : List Value).toArray below meth c H locs 0 0 (MQ below (va_Qi (fun r u => zR 0 16777215 r ∧ u = (I, R, J)) (zB D vwCl 81 q (zXd q cA) sz) (zA 81 q sz)) ([.ref (q 77), .int (pa1), .ref (q 15)] : List Value).toArray s 0 0 (zA 81 q sz)) (F0 m 5 ls []) := by
    intro N
    induction N with
    | zero => intro x_101 hx_101 x_102 hx_102 hN; exact absurd hN (Nat.not_lt_zero _)
    | succ N ih_105 =>
      intro x_101 hx_101 x_102 hx_102 hN_104 H locs hP hD hS ls hl
      refine lv_iload hx hb dX1_alike_5 (lv_at hl 4 rfl) ?_
      refine lv_aload_n hx hb dX1_alike_7 rfl (lv_at hl 2 rfl) ?_
      refine z_get hx hb ht hown hK hP ziX9 rfl 15 (by decide) 2 (by decide) hw_1_161 rfl (v := .int (I 15 2)) rfl dX1_alike_8 ?_
      have f_106 : zR 0 24 (I 15 2) := xI hI 15 2
      refine lv_icmp_ge (tgt := 94) hx hb dX1_alike_11 (by decide) (fun c_107 => ?_) (fun c_107 => ?_)
      · have t_c_107 := z_leT c_107
        refine lv_iload_n hx hb dX1_alike_94 rfl (lv_at hl 3 rfl) ?_
        exact z_iret (v := x_101) hx hb hr hlocks hP hD hS dX1_alike_95 ⟨hx_101, rfl⟩
      · have t_c_107 := z_leF c_107
        have f_108 : zR 0 23 (x_102) := zR_ltx t_c_107 hx_102 f_106 (by decide)
        have f_109 : zR 1 24 (I 15 2) := zR_lty t_c_107 hx_102 f_106 (by decide)
        refine lv_aload_n hx hb dX1_alike_14 rfl (lv_at hl 2 rfl) ?_
        refine lv_iload hx hb dX1_alike_15 (lv_at hl 4 rfl) ?_
        have t_124 : ∀ x_123 : Int32, zR 0 16777215 x_123 → ∀ (H : Heap) (locs : List Loc), va_P D vwCl (zw 81 q (zXd q cA) I R J) H → va_D (zA 81 q sz) (zw 81 q (zXd q cA) I R J) → va_S (zA 81 q sz) s.heap H locs → ∀ ls : Array Slot, lv_has ls 5 [(0, .ref (q 77)), (1, .int (pa1)), (2, .ref (q 15)), (3, .int (x_123)), (4, .int (x_102))] → W p l e ({ frames := 1, cells := 0, slots := 0, locals := 21 } : Room) s m ([.ref (q 77), .int (pa1), .ref (q 15)] : List Value).toArray below meth c H locs 0 0 (MQ below (va_Qi (fun r u => zR 0 16777215 r ∧ u = (I, R, J)) (zB D vwCl 81 q (zXd q cA) sz) (zA 81 q sz)) ([.ref (q 77), .int (pa1), .ref (q 15)] : List Value).toArray s 0 0 (zA 81 q sz)) (F0 m 88 ls []) := by
          intro x_123 hx_123 H locs hP hD hS ls hl
          obtain ⟨v_125, ev_125⟩ : ∃ y : Int32, y = x_102 + nI 1 := ⟨_, rfl⟩
          have hv_125 : zR 1 24 v_125 := ev_125 ▸ zR_add f_108 zk_1 (by decide)
          have mv_125 : v_125.toInt = (x_102).toInt + 1 := by rw [ev_125, zR_addE f_108 zk_1 (by decide)]; rfl
          refine lv_iinc (v := v_125) (lv' := [(4, .int (v_125)), (0, .ref (q 77)), (1, .int (pa1)), (2, .ref (q 15)), (3, .int (x_123))]) hx hb dX1_alike_88 hl (k := 4) rfl (ev_125 ▸ rfl) (by decide) rfl (fun ls hl => ?_)
          refine lv_goto (tgt := 5) hx hb dX1_alike_91 (by decide) ?_
          exact ih_105 (x_123) hx_123 (v_125) (zR_w hv_125 (by decide)) (z2_up mv_125 (by decide) hN_104) _ _ hP hD hS _ (lv_sub hl [1, 2, 3, 4, 0] rfl)
        refine z_callVi (k := 15) (As := [.int (x_102)]) (rest := []) hx hb hml hown ht (xk_X9_isOpen_1 l D q cA F _ _ _ hI (x_102) f_108) hw_5_82 hmX9_isOpen ⟨rfl, rfl⟩ (na := 1) rfl (by decide +kernel) (by decide) (by decide) rfl rfl hK hP hD hS hA hl.1 rfl (Nat.le_of_ble_eq_true rfl) ⟨Nat.zero_le _, Nat.zero_le _⟩ dX1_alike_17 (fun r_110 I_110 R_110 J_110 H locs hp_110 hP hD hS _ _ => ?_)
        rcases hp_110 with ⟨rfl, hu_110⟩ | ⟨rfl, hu_110⟩
        · cases hu_110
          refine lv_if_eq (tgt := 88) hx hb dX1_alike_20 (by decide) (fun c_0 => absurd c_0 (zD_ne zk_1 zk_z (by decide))) (fun _ => ?_)
          refine lv_aload_n hx hb dX1_alike_23 rfl (lv_at hl 2 rfl) ?_
          refine z_get hx hb ht hown hK hP ziX9 rfl 15 (by decide) 7 (by decide) hw_1_173 rfl (v := .ref (q 19)) rfl dX1_alike_24 ?_
          refine lv_iload hx hb dX1_alike_27 (lv_at hl 4 rfl) ?_
          refine z_iald hx hb hK hP 19 (by decide) 13 rfl rfl (zR_vin f_108 (by decide)) dX1_alike_29 ?_
          refine z_eqi (y := R 19 (x_102).toNatClampNeg) rfl ?_
          have f_126 : zR 0 4 (R 19 (x_102).toNatClampNeg) := xR hI 19 (x_102).toNatClampNeg
          refine lv_i2l (v := (R 19 (x_102).toNatClampNeg).toInt64) hx hb dX1_alike_30 rfl ?_
          refine lv_aload_n hx hb dX1_alike_31 rfl (lv_at hl 0 rfl) ?_
          refine z_get hx hb ht hown hK hP ziX6 rfl 77 (by decide) 2 (by decide) hw_2_83 rfl (v := .ref (q 78)) rfl dX1_alike_32 ?_
          refine lv_iload_n hx hb dX1_alike_35 rfl (lv_at hl 1 rfl) ?_
          refine z_lald hx hb hK hP 78 (by decide) 55 rfl rfl (zR_vin hpa1 (by decide)) dX1_alike_36 ?_
          refine z_eql (y := J 78 (pa1).toNatClampNeg) rfl ?_
          refine W.lcmp hx hb dX1_alike_37 ?_
          refine lv_if_ne (tgt := 88) hx hb dX1_alike_38 (by decide) (fun c_127 => ?_) (fun c_127 => ?_)
          · have t_c_127 := z_leqF (fun h => c_127 ((lg_cmp_eq _ _).mpr h))
            exact t_124 (x_101) hx_101 _ _ hP hD hS _ (lv_sub hl [0, 1, 2, 3, 4] rfl)
          · have t_c_127 := z_leqT ((lg_cmp_eq _ _).mp c_127)
            have f_128 : zL 0 4 (J 78 (pa1).toNatClampNeg) := zL_eqy t_c_127 (zR_i2l f_126)
            refine lv_aload_n hx hb dX1_alike_41 rfl (lv_at hl 2 rfl) ?_
            refine z_get hx hb ht hown hK hP ziX9 rfl 15 (by decide) 8 (by decide) hw_1_177 rfl (v := .ref (q 20)) rfl dX1_alike_42 ?_
            refine lv_iload hx hb dX1_alike_45 (lv_at hl 4 rfl) ?_
            refine z_iald hx hb hK hP 20 (by decide) 14 rfl rfl (zR_vin f_108 (by decide)) dX1_alike_47 ?_
            refine z_eqi (y := R 20 (x_102).toNatClampNeg) rfl ?_
            have f_129 : zR 0 5 (R 20 (x_102).toNatClampNeg) := xR hI 20 (x_102).toNatClampNeg
            refine lv_i2l (v := (R 20 (x_102).toNatClampNeg).toInt64) hx hb dX1_alike_48 rfl ?_
            refine lv_aload_n hx hb dX1_alike_49 rfl (lv_at hl 0 rfl) ?_
            refine z_get hx hb ht hown hK hP ziX6 rfl 77 (by decide) 2 (by decide) hw_2_83 rfl (v := .ref (q 78)) rfl dX1_alike_50 ?_
            refine lv_iload_n hx hb dX1_alike_53 rfl (lv_at hl 1 rfl) ?_
            refine lv_iconst (v := nI 1) hx hb dX1_alike_54 (by decide +kernel) ?_
            refine lv_iadd hx hb dX1_alike_55 ?_
            refine z_addc 1 57 hpa1 zk_1 (by decide) (fun v_130 hv_130 mv_130 => ?_)
            refine z_lald hx hb hK hP 78 (by decide) 55 rfl rfl (zR_vin hv_130 (by decide)) dX1_alike_56 ?_
            refine z_eql (y := J 78 (v_130).toNatClampNeg) rfl ?_
            refine W.lcmp hx hb dX1_alike_57 ?_
            refine lv_if_ne (tgt := 88) hx hb dX1_alike_58 (by decide) (fun c_131 => ?_) (fun c_131 => ?_)
            · have t_c_131 := z_leqF (fun h => c_131 ((lg_cmp_eq _ _).mpr h))
              exact t_124 (x_101) hx_101 _ _ hP hD hS _ (lv_sub hl [0, 1, 2, 3, 4] rfl)
            · have t_c_131 := z_leqT ((lg_cmp_eq _ _).mp c_131)
              have f_132 : zL 0 5 (J 78 (v_130).toNatClampNeg) := zL_eqy t_c_131 (zR_i2l f_129)
              refine lv_aload_n hx hb dX1_alike_61 rfl (lv_at hl 2 rfl) ?_
              refine z_get hx hb ht hown hK hP ziX9 rfl 15 (by decide) 10 (by decide) hw_1_183 rfl (v := .ref (q 22)) rfl dX1_alike_62 ?_
              refine lv_iload hx hb dX1_alike_65 (lv_at hl 4 rfl) ?_
              refine z_iald hx hb hK hP 22 (by decide) 16 rfl rfl (zR_vin f_108 (by decide)) dX1_alike_67 ?_
              refine z_eqi (y := R 22 (x_102).toNatClampNeg) rfl ?_
              refine lv_i2l (v := (R 22 (x_102).toNatClampNeg).toInt64) hx hb dX1_alike_68 rfl ?_
              refine lv_aload_n hx hb dX1_alike_69 rfl (lv_at hl 0 rfl) ?_
              refine z_get hx hb ht hown hK hP ziX6 rfl 77 (by decide) 2 (by decide) hw_2_83 rfl (v := .ref (q 78)) rfl dX1_alike_70 ?_
              refine lv_iload_n hx hb dX1_alike_73 rfl (lv_at hl 1 rfl) ?_
              refine lv_iconst (v := nI 3) hx hb dX1_alike_74 (by decide +kernel) ?_
              refine lv_iadd hx hb dX1_alike_75 ?_
              refine z_addc 3 59 hpa1 zk_3 (by decide) (fun v_133 hv_133 mv_133 => ?_)
              refine z_lald hx hb hK hP 78 (by decide) 55 rfl rfl (zR_vin hv_133 (by decide)) dX1_alike_76 ?_
              refine z_eql (y := J 78 (v_133).toNatClampNeg) rfl ?_
              refine W.lcmp hx hb dX1_alike_77 ?_
              refine lv_if_ne (tgt := 88) hx hb dX1_alike_78 (by decide) (fun c_134 => ?_) (fun c_134 => ?_)
              · have t_c_134 := z_leqF (fun h => c_134 ((lg_cmp_eq _ _).mpr h))
                exact t_124 (x_101) hx_101 _ _ hP hD hS _ (lv_sub hl [0, 1, 2, 3, 4] rfl)
              · have t_c_134 := z_leqT ((lg_cmp_eq _ _).mp c_134)
                have f_135 : zL (-2147483648) 2147483647 (J 78 (v_133).toNatClampNeg) := zL_eqy t_c_134 (zR_i2l (zR_any (R 22 (x_102).toNatClampNeg)))
                refine lv_iload_n hx hb dX1_alike_81 rfl (lv_at hl 3 rfl) ?_
                refine lv_iconst (v := nI 1) hx hb dX1_alike_82 (by decide +kernel) ?_
                refine lv_iload hx hb dX1_alike_83 (lv_at hl 4 rfl) ?_
                refine lv_ishl hx hb dX1_alike_85 ?_
                refine z_rng (a := 1) (b := 8388608) (zR_shl1 23 f_108 (by decide)) (fun v_136 hv_136 => ?_)
                refine lv_ior hx hb dX1_alike_86 ?_
                refine z_rng (a := 0) (b := 16777215) (zR_or 24 hx_101 hv_136 (by decide)) (fun v_137 hv_137 => ?_)
                refine lv_istore_n (lv' := [(3, .int (v_137)), (0, .ref (q 77)), (1, .int (pa1)), (2, .ref (q 15)), (4, .int (x_102))]) hx hb dX1_alike_87 rfl hl (by decide) rfl (fun ls hl => ?_)
                exact t_124 (v_137) hv_137 _ _ hP hD hS _ (lv_sub hl [1, 2, 3, 0, 4] rfl)
        · cases hu_110
          refine lv_if_eq (tgt := 88) hx hb dX1_alike_20 (by decide) (fun _ => ?_) (fun c_0 => absurd (zD_eq zk_0 zk_z) c_0)
          exact t_124 (x_101) hx_101 _ _ hP hD hS _ (lv_sub hl [0, 1, 2, 3, 4] rfl)
  exact loop_103 _ (nI 0) (zR_w zk_0 (by decide)) (nI 0) (zR_w zk_0 (by decide)) (Nat.lt_succ_self _) _ _ hP hD hS _ (lv_sub hl [2, 3, 4, 1, 0] rfl)
set_option maxHeartbeats 4000000 in
set_option maxRecDepth 100000 in
theorem xk_X1_compare_2 (l : Launch) (D : va_G) (q : Nat → Nat) (cA : Nat → ClassId) (F : Nat → Nat → Int32) (I R : Nat → Nat → Int32) (J : Nat → Nat → Int64) (hI : xInv F (I, R, J)) (hs : xSound (J 78) (F 77 1)) : zMv l D vwCl (zXtys cA) 81 q (zXd q cA) yX1_compare cX1_compare 9 none ({ frames := 2, cells := 0, slots := 0, locals := 45 } : Room) [.ref (q 46), .ref (q 77), .ref (q 15)] (I, R, J) (fun u => xInv F u) := by
  intro sz
  refine z_body (by decide +kernel) (Nat.le_of_ble_eq_true rfl) (fun p e s m below meth c ls hx hb hml hr ht hown hlocks hsz hK hP hD hS hl => ?_)
  have hA : ∀ a, s.heap.size ≤ a → zA 81 q sz a := fun a h => Or.inr (hsz ▸ h)
  have hl : lv_has ls 9 [(0, .ref (q 46)), (1, .ref (q 77)), (2, .ref (q 15))] := hl
  refine lv_aload_n hx hb dX1_compare_0 rfl (lv_at hl 0 rfl) ?_
  refine lv_iconst (v := nI 0) hx hb dX1_compare_1 (by decide +kernel) ?_
  refine z_putI hx hb ht hown hK hP hD hS ziX1 tyX1 tyX1_ok nmX1 rfl 46 (by decide) 0 (by decide) hw_2_34 rfl (v := nI 0) rfl rfl rfl (Nat.le_of_ble_eq_true rfl) rfl dX1_compare_2 (fun H locs hP hD hS => ?_)
  have hI_1 := xInv_I hI 46 0 (nI 0) (zR_any (nI 0)) rfl
  refine lv_aload_n hx hb dX1_compare_5 rfl (lv_at hl 0 rfl) ?_
  refine lv_iconst (v := (-1)) hx hb dX1_compare_6 (by decide +kernel) ?_
  refine z_putI hx hb ht hown hK hP hD hS ziX1 tyX1 tyX1_ok nmX1 rfl 46 (by decide) 1 (by decide) hw_2_36 rfl (v := (-1)) rfl rfl rfl (Nat.le_of_ble_eq_true rfl) rfl dX1_compare_7 (fun H locs hP hD hS => ?_)
  have hI_2 := xInv_I hI_1 46 1 ((-1)) (zR_any ((-1))) rfl
  refine lv_aload_n hx hb dX1_compare_10 rfl (lv_at hl 0 rfl) ?_
  refine lv_iconst (v := nI 0) hx hb dX1_compare_11 (by decide +kernel) ?_
  refine z_putI hx hb ht hown hK hP hD hS ziX1 tyX1 tyX1_ok nmX1 rfl 46 (by decide) 2 (by decide) hw_2_38 rfl (v := nI 0) rfl rfl rfl (Nat.le_of_ble_eq_true rfl) rfl dX1_compare_12 (fun H locs hP hD hS => ?_)
  have hI_3 := xInv_I hI_2 46 2 (nI 0) (zR_any (nI 0)) rfl
  refine lv_aload_n hx hb dX1_compare_15 rfl (lv_at hl 2 rfl) ?_
  refine z_callVi (k := 15) (As := []) (rest := []) hx hb hml hown ht (xk_X9_openPapers l D q cA F _ _ _ hI_3 ) hw_5_78 hmX9_openPapers ⟨rfl, rfl⟩ (na := 0) rfl (by decide +kernel) (by decide) (by decide) rfl rfl hK hP hD hS hA hl.1 rfl (Nat.le_of_ble_eq_true rfl) ⟨Nat.zero_le _, Nat.zero_le _⟩ dX1_compare_16 (fun r_4 I_4 R_4 J_4 H locs hp_4 hP hD hS _ _ => ?_)
  obtain ⟨hr_4, hu_4⟩ := hp_4
  cases hu_4
  refine lv_istore_n (lv' := [(3, .int (r_4)), (0, .ref (q 46)), (1, .ref (q 77)), (2, .ref (q 15))]) hx hb dX1_compare_19 rfl hl (by decide) rfl (fun ls hl => ?_)
  refine lv_iconst (v := nI 0) hx hb dX1_compare_20 (by decide +kernel) ?_
  refine lv_istore (lv' := [(4, .int (nI 0)), (3, .int (r_4)), (0, .ref (q 46)), (1, .ref (q 77)), (2, .ref (q 15))]) hx hb dX1_compare_21 hl (by decide) rfl (fun ls hl => ?_)
  have loop_195 : ∀ N : Nat, ∀ x_191 : Int32, zR 0 16777215 x_191 → ∀ x_192 : Int32, zR 0 60 x_192 → ∀ I_193 : Nat → Nat → Int32, xInv F (I_193, R, J) → (xFour (x_192)) → (2147483648 - (x_192).toInt).toNat < N → ∀ (H : Heap) (locs : List Loc), va_P D vwCl (zw 81 q (zXd q cA) I_193 R J) H → va_D (zA 81 q sz) (zw 81 q (zXd q cA) I_193 R J) → va_S (zA 81 q sz) s.heap H locs → ∀ ls : Array Slot, lv_has ls 9 [(0, .ref (q 46)), (1, .ref (q 77)), (2, .ref (q 15)), (3, .int (x_191)), (4, .int (x_192))] → W p l e ({ frames := 2, cells := 0, slots := 0, locals := 45 } : Room) s m ([.ref (q 46), .ref (q 77), .ref (q 15)] : List Value).toArray below meth c H locs 0 0 (MQ below (va_Qv (fun u => xInv F u) (zB D vwCl 81 q (zXd q cA) sz) (zA 81 q sz)) ([.ref (q 46), .ref (q 77), .ref (q 15)] : List Value).toArray s 0 0 (zA 81 q sz)) (F0 m 23 ls []) := by
    intro N
    induction N with
    | zero => intro x_191 hx_191 x_192 hx_192 I_193 hI_193 hx_194 hN; exact absurd hN (Nat.not_lt_zero _)
    | succ N ih_197 =>
      intro x_191 hx_191 x_192 hx_192 I_193 hI_193 hx_194 hN_196 H locs hP hD hS ls hl
      refine lv_iload hx hb dX1_compare_23 (lv_at hl 4 rfl) ?_
      refine lv_iconst (v := nI 4) hx hb dX1_compare_25 (by decide +kernel) ?_
      refine lv_iadd hx hb dX1_compare_26 ?_
      refine z_addc 4 64 hx_192 zk_4 (by decide) (fun v_198 hv_198 mv_198 => ?_)
      refine lv_aload_n hx hb dX1_compare_27 rfl (lv_at hl 1 rfl) ?_
      refine z_get hx hb ht hown hK hP ziX6 rfl 77 (by decide) 1 (by decide) hw_2_80 rfl (v := .int (I_193 77 1)) rfl dX1_compare_28 ?_
      have f_199 : zR (-1) 60 (I_193 77 1) := xI hI_193 77 1
      refine lv_icmp_gt (tgt := 182) hx hb dX1_compare_31 (by decide) (fun c_200 => ?_) (fun c_200 => ?_)
      · have t_c_200 := z_ltT c_200
        exact z_vret hx hb hr hlocks hP hD hS dX1_compare_182 hI_193
      · have t_c_200 := z_ltF c_200
        have f_201 : zR 4 60 (v_198) := zR_lex t_c_200 hv_198 f_199 (by decide)
        have f_202 : zR 0 56 (x_192) := zR_shift mv_198 f_201 (by decide)
        have f_203 : zR 4 60 (I_193 77 1) := zR_ley t_c_200 hv_198 f_199 (by decide)
        refine lv_aload_n hx hb dX1_compare_34 rfl (lv_at hl 1 rfl) ?_
        refine lv_iload hx hb dX1_compare_35 (lv_at hl 4 rfl) ?_
        refine lv_aload_n hx hb dX1_compare_37 rfl (lv_at hl 2 rfl) ?_
        refine z_callSi (As := [.ref (q 77), .int (x_192), .ref (q 15)]) (rest := []) hx hb hml hown ht (xk_X1_alike_8 l D q cA F _ _ _ hI_193 (x_192) f_202) hw_5_79 hmX1_alike ⟨rfl, rfl⟩ (na := 3) rfl (by decide +kernel) (by decide) hK hP hD hS hA hl.1 rfl (Nat.le_of_ble_eq_true rfl) ⟨Nat.zero_le _, Nat.zero_le _⟩ dX1_compare_38 (fun r_204 I_204 R_204 J_204 H locs hp_204 hP hD hS _ _ => ?_)
        obtain ⟨hr_204, hu_204⟩ := hp_204
        cases hu_204
        refine lv_istore (lv' := [(5, .int (r_204)), (0, .ref (q 46)), (1, .ref (q 77)), (2, .ref (q 15)), (3, .int (x_191)), (4, .int (x_192))]) hx hb dX1_compare_41 hl (by decide) rfl (fun ls hl => ?_)
        refine lv_aload_n hx hb dX1_compare_43 rfl (lv_at hl 2 rfl) ?_
        refine z_get hx hb ht hown hK hP ziX6 rfl 77 (by decide) 2 (by decide) hw_2_83 rfl (v := .ref (q 78)) rfl dX1_compare_44 ?_
        refine lv_iload hx hb dX1_compare_47 (lv_at hl 5 rfl) ?_
        refine lv_iconst (v := nI 1) hx hb dX1_compare_49 (by decide +kernel) ?_
        refine lv_iadd hx hb dX1_compare_50 ?_
        refine z_addc 1 57 f_202 zk_1 (by decide) (fun v_205 hv_205 mv_205 => ?_)
        have f_206 : zL 0 5 (J 78 (v_205).toNatClampNeg) := xSound_at hs hx_194 mv_205 mv_198 t_c_200 (xFr hI_193 77 1 rfl)
        refine z_lald hx hb hK hP 78 (by decide) 55 rfl rfl (zR_vin hv_205 (by decide)) dX1_compare_51 ?_
        refine z_eql (y := J 78 (v_205).toNatClampNeg) rfl ?_
        refine lv_l2i hx hb dX1_compare_52 rfl ?_
        refine z_rng (a := 0) (b := 5) (zL_l2i f_206 (by decide)) (fun v_207 hv_207 => ?_)
        refine lv_istore (lv' := [(6, .int (v_207)), (5, .int (r_204)), (0, .ref (q 46)), (1, .ref (q 77)), (2, .ref (q 15)), (3, .int (x_191)), (4, .int (x_192))]) hx hb dX1_compare_53 hl (by decide) rfl (fun ls hl => ?_)
        refine lv_aload_n hx hb dX1_compare_55 rfl (lv_at hl 3 rfl) ?_
        refine z_get hx hb ht hown hK hP ziX6 rfl 77 (by decide) 2 (by decide) hw_2_83 rfl (v := .ref (q 78)) rfl dX1_compare_56 ?_
        refine lv_iload hx hb dX1_compare_59 (lv_at hl 6 rfl) ?_
        refine lv_iconst (v := nI 2) hx hb dX1_compare_61 (by decide +kernel) ?_
        refine lv_iadd hx hb dX1_compare_62 ?_
        refine z_addc 2 58 f_202 zk_2 (by decide) (fun v_208 hv_208 mv_208 => ?_)
        refine z_lald hx hb hK hP 78 (by decide) 55 rfl rfl (zR_vin hv_208 (by decide)) dX1_compare_63 ?_
        refine z_eql (y := J 78 (v_208).toNatClampNeg) rfl ?_
        refine lv_aload_n hx hb dX1_compare_64 rfl (lv_at hl 4 rfl) ?_
        refine z_get hx hb ht hown hK hP ziX9 rfl 15 (by decide) 0 (by decide) hw_1_155 rfl (v := .ref (q 3)) rfl dX1_compare_65 ?_
        refine z_get hx hb ht hown hK hP ziX2 rfl 3 (by decide) 9 (by decide) hw_1_105 rfl (v := .ref (q 6)) rfl dX1_compare_68 ?_
        refine lv_iload hx hb dX1_compare_71 (lv_at hl 0 rfl) ?_
        refine z_iald hx hb hK hP 6 (by decide) 3 rfl rfl (zR_vin hv_207 (by decide)) dX1_compare_73 ?_
        refine z_eqi (y := R 6 (v_207).toNatClampNeg) rfl ?_
        refine lv_i2l (v := (R 6 (v_207).toNatClampNeg).toInt64) hx hb dX1_compare_74 rfl ?_
        refine W.lcmp hx hb dX1_compare_75 ?_
        have t_212 : ∀ x_211 : Int32, zR 0 1 x_211 → ∀ (H : Heap) (locs : List Loc), va_P D vwCl (zw 81 q (zXd q cA) I_193 R J) H → va_D (zA 81 q sz) (zw 81 q (zXd q cA) I_193 R J) → va_S (zA 81 q sz) s.heap H locs → ∀ ls : Array Slot, lv_has ls 9 [(0, .ref (q 46)), (1, .ref (q 77)), (2, .ref (q 15)), (3, .int (x_191)), (4, .int (x_192)), (5, .int (r_204)), (6, .int (v_207))] → W p l e ({ frames := 2, cells := 0, slots := 0, locals := 45 } : Room) s m ([.ref (q 46), .ref (q 77), .ref (q 15)] : List Value).toArray below meth c H locs 0 0 (MQ below (va_Qv (fun u => xInv F u) (zB D vwCl 81 q (zXd q cA) sz) (zA 81 q sz)) ([.ref (q 46), .ref (q 77), .ref (q 15)] : List Value).toArray s 0 0 (zA 81 q sz)) (F0 m 84 ls [.int (x_211)]) := by
          intro x_211 hx_211 H locs hP hD hS ls hl
          refine lv_istore (lv' := [(7, .int (x_211)), (0, .ref (q 46)), (1, .ref (q 77)), (2, .ref (q 15)), (3, .int (x_191)), (4, .int (x_192)), (5, .int (r_204)), (6, .int (v_207))]) hx hb dX1_compare_84 hl (by decide) rfl (fun ls hl => ?_)
          refine lv_iload hx hb dX1_compare_86 (lv_at hl 0 rfl) ?_
          have t_218 : ∀ x_217 : Int32, zR 0 16777215 x_217 → ∀ (H : Heap) (locs : List Loc), va_P D vwCl (zw 81 q (zXd q cA) I_193 R J) H → va_D (zA 81 q sz) (zw 81 q (zXd q cA) I_193 R J) → va_S (zA 81 q sz) s.heap H locs → ∀ ls : Array Slot, lv_has ls 9 [(0, .ref (q 46)), (1, .ref (q 77)), (2, .ref (q 15)), (3, .int (x_191)), (4, .int (x_192)), (5, .int (r_204)), (6, .int (v_207)), (7, .int (x_211))] → W p l e ({ frames := 2, cells := 0, slots := 0, locals := 45 } : Room) s m ([.ref (q 46), .ref (q 77), .ref (q 15)] : List Value).toArray below meth c H locs 0 0 (MQ below (va_Qv (fun u => xInv F u) (zB D vwCl 81 q (zXd q cA) sz) (zA 81 q sz)) ([.ref (q 46), .ref (q 77), .ref (q 15)] : List Value).toArray s 0 0 (zA 81 q sz)) (F0 m 99 ls [.int (x_217)]) := by
            intro x_217 hx_217 H locs hP hD hS ls hl
            refine lv_istore (lv' := [(8, .int (x_217)), (0, .ref (q 46)), (1, .ref (q 77)), (2, .ref (q 15)), (3, .int (x_191)), (4, .int (x_192)), (5, .int (r_204)), (6, .int (v_207)), (7, .int (x_211))]) hx hb dX1_compare_99 hl (by decide) rfl (fun ls hl => ?_)
            refine lv_iload hx hb dX1_compare_101 (lv_at hl 0 rfl) ?_
            have t_245 : ∀ x_242 : Int32, zR 0 16777215 x_242 → ∀ I_243 : Nat → Nat → Int32, xInv F (I_243, R, J) → zR 4 60 (I_243 77 1) → ∀ (H : Heap) (locs : List Loc), va_P D vwCl (zw 81 q (zXd q cA) I_243 R J) H → va_D (zA 81 q sz) (zw 81 q (zXd q cA) I_243 R J) → va_S (zA 81 q sz) s.heap H locs → ∀ ls : Array Slot, lv_has ls 9 [(0, .ref (q 46)), (1, .ref (q 77)), (2, .ref (q 15)), (3, .int (x_242)), (4, .int (x_192)), (5, .int (r_204)), (6, .int (v_207)), (7, .int (x_211)), (8, .int (x_217))] → W p l e ({ frames := 2, cells := 0, slots := 0, locals := 45 } : Room) s m ([.ref (q 46), .ref (q 77), .ref (q 15)] : List Value).toArray below meth c H locs 0 0 (MQ below (va_Qv (fun u => xInv F u) (zB D vwCl 81 q (zXd q cA) sz) (zA 81 q sz)) ([.ref (q 46), .ref (q 77), .ref (q 15)] : List Value).toArray s 0 0 (zA 81 q sz)) (F0 m 176 ls []) := by
              intro x_242 hx_242 I_243 hI_243 g_244 H locs hP hD hS ls hl
              obtain ⟨v_246, ev_246⟩ : ∃ y : Int32, y = x_192 + nI 4 := ⟨_, rfl⟩
              have hv_246 : zR 4 60 v_246 := ev_246 ▸ zR_add f_202 zk_4 (by decide)
              have mv_246 : v_246.toInt = (x_192).toInt + 4 := by rw [ev_246, zR_addE f_202 zk_4 (by decide)]; rfl
              refine lv_iinc (v := v_246) (lv' := [(4, .int (v_246)), (0, .ref (q 46)), (1, .ref (q 77)), (2, .ref (q 15)), (3, .int (x_242)), (5, .int (r_204)), (6, .int (v_207)), (7, .int (x_211)), (8, .int (x_217))]) hx hb dX1_compare_176 hl (k := 4) rfl (ev_246 ▸ rfl) (by decide) rfl (fun ls hl => ?_)
              refine lv_goto (tgt := 23) hx hb dX1_compare_179 (by decide) ?_
              exact ih_197 (x_242) hx_242 (v_246) (zR_w hv_246 (by decide)) _ hI_243 (xFour_s hx_194 mv_246) (z2_up mv_246 (by decide) hN_196) _ _ hP hD hS _ (lv_sub hl [1, 2, 3, 4, 0] rfl)
            refine lv_if_eq (tgt := 120) hx hb dX1_compare_103 (by decide) (fun c_219 => ?_) (fun c_219 => ?_)
            · have t_c_219 := z_eqT c_219
              have f_247 : zR 0 0 (x_217) := zR_eqx t_c_219 zk_z
              refine lv_aload_n hx hb dX1_compare_120 rfl (lv_at hl 1 rfl) ?_
              refine lv_aload_n hx hb dX1_compare_121 rfl (lv_at hl 1 rfl) ?_
              refine z_get hx hb ht hown hK hP ziX1 rfl 46 (by decide) 0 (by decide) hw_2_34 rfl (v := .int (I_193 46 0)) rfl dX1_compare_122 ?_
              have t_252 : ∀ x_251 : Int32, ∀ (H : Heap) (locs : List Loc), va_P D vwCl (zw 81 q (zXd q cA) I_193 R J) H → va_D (zA 81 q sz) (zw 81 q (zXd q cA) I_193 R J) → va_S (zA 81 q sz) s.heap H locs → ∀ ls : Array Slot, lv_has ls 9 [(0, .ref (q 46)), (1, .ref (q 77)), (2, .ref (q 15)), (3, .int (x_191)), (4, .int (x_192)), (5, .int (r_204)), (6, .int (v_207)), (7, .int (x_211)), (8, .int (x_217))] → W p l e ({ frames := 2, cells := 0, slots := 0, locals := 45 } : Room) s m ([.ref (q 46), .ref (q 77), .ref (q 15)] : List Value).toArray below meth c H locs 0 0 (MQ below (va_Qv (fun u => xInv F u) (zB D vwCl 81 q (zXd q cA) sz) (zA 81 q sz)) ([.ref (q 46), .ref (q 77), .ref (q 15)] : List Value).toArray s 0 0 (zA 81 q sz)) (F0 m 139 ls [.int (x_251), .ref (q 46)]) := by
                intro x_251 H locs hP hD hS ls hl
                refine z_putI hx hb ht hown hK hP hD hS ziX1 tyX1 tyX1_ok nmX1 rfl 46 (by decide) 1 (by decide) hw_2_36 rfl (v := x_251) rfl rfl rfl (Nat.le_of_ble_eq_true rfl) rfl dX1_compare_139 (fun H locs hP hD hS => ?_)
                have hI_253 := xInv_I hI_193 46 1 (x_251) (zR_any (x_251)) rfl
                refine lv_aload_n hx hb dX1_compare_142 rfl (lv_at hl 0 rfl) ?_
                refine lv_dup hx hb dX1_compare_143 rfl ?_
                refine z_get hx hb ht hown hK hP ziX1 rfl 46 (by decide) 0 (by decide) hw_2_34 rfl (v := .int (I_193 46 0)) rfl dX1_compare_144 ?_
                refine lv_iconst (v := nI 1) hx hb dX1_compare_147 (by decide +kernel) ?_
                refine lv_iadd hx hb dX1_compare_148 ?_
                refine z_any (fun v_254 => ?_)
                refine z_putI hx hb ht hown hK hP hD hS ziX1 tyX1 tyX1_ok nmX1 rfl 46 (by decide) 0 (by decide) hw_2_34 rfl (v := v_254) rfl rfl rfl (Nat.le_of_ble_eq_true rfl) rfl dX1_compare_149 (fun H locs hP hD hS => ?_)
                have hI_255 := xInv_I hI_253 46 0 (v_254) (zR_any (v_254)) rfl
                refine lv_aload_n hx hb dX1_compare_152 rfl (lv_at hl 0 rfl) ?_
                refine lv_dup hx hb dX1_compare_153 rfl ?_
                refine z_get hx hb ht hown hK hP ziX1 rfl 46 (by decide) 2 (by decide) hw_2_38 rfl (v := .int (I_193 46 2)) rfl dX1_compare_154 ?_
                refine lv_iload hx hb dX1_compare_157 (lv_at hl 7 rfl) ?_
                have t_263 : ∀ x_262 : Int32, zR 0 1 x_262 → ∀ (H : Heap) (locs : List Loc), va_P D vwCl (zw 81 q (zXd q cA) (zp (zp I_193 46 1 (x_251)) 46 0 (v_254)) R J) H → va_D (zA 81 q sz) (zw 81 q (zXd q cA) (zp (zp I_193 46 1 (x_251)) 46 0 (v_254)) R J) → va_S (zA 81 q sz) s.heap H locs → ∀ ls : Array Slot, lv_has ls 9 [(0, .ref (q 46)), (1, .ref (q 77)), (2, .ref (q 15)), (3, .int (x_191)), (4, .int (x_192)), (5, .int (r_204)), (6, .int (v_207)), (7, .int (x_211)), (8, .int (x_217))] → W p l e ({ frames := 2, cells := 0, slots := 0, locals := 45 } : Room) s m ([.ref (q 46), .ref (q 77), .ref (q 15)] : List Value).toArray below meth c H locs 0 0 (MQ below (va_Qv (fun u => xInv F u) (zB D vwCl 81 q (zXd q cA) sz) (zA 81 q sz)) ([.ref (q 46), .ref (q 77), .ref (q 15)] : List Value).toArray s 0 0 (zA 81 q sz)) (F0 m 172 ls [.int (x_262), .int (I_193 46 2), .ref (q 46)]) := by
                  intro x_262 hx_262 H locs hP hD hS ls hl
                  refine lv_iadd hx hb dX1_compare_172 ?_
                  refine z_any (fun v_264 => ?_)
                  refine z_putI hx hb ht hown hK hP hD hS ziX1 tyX1 tyX1_ok nmX1 rfl 46 (by decide) 2 (by decide) hw_2_38 rfl (v := v_264) rfl rfl rfl (Nat.le_of_ble_eq_true rfl) rfl dX1_compare_173 (fun H locs hP hD hS => ?_)
                  have hI_265 := xInv_I hI_255 46 2 (v_264) (zR_any (v_264)) rfl
                  exact t_245 (x_191) hx_191 _ hI_265 f_203 _ _ hP hD hS _ (lv_sub hl [0, 1, 2, 3, 4, 5, 6, 7, 8] rfl)
                refine lv_if_ne (tgt := 171) hx hb dX1_compare_159 (by decide) (fun c_256 => ?_) (fun c_256 => ?_)
                · have t_c_256 := z_eqF c_256
                  have f_266 : zR 1 1 (x_211) := zR_nex t_c_256 hx_211 zk_z (by decide)
                  refine lv_iconst (v := nI 0) hx hb dX1_compare_171 (by decide +kernel) ?_
                  exact t_263 (nI 0) (zR_w zk_0 (by decide)) _ _ hP hD hS _ (lv_sub hl [0, 1, 2, 3, 4, 5, 6, 7, 8] rfl)
                · have t_c_256 := z_eqT c_256
                  have f_267 : zR 0 0 (x_211) := zR_eqx t_c_256 zk_z
                  refine lv_iload hx hb dX1_compare_162 (lv_at hl 5 rfl) ?_
                  refine lv_if_eq (tgt := 171) hx hb dX1_compare_164 (by decide) (fun c_268 => ?_) (fun c_268 => ?_)
                  · have t_c_268 := z_eqT c_268
                    have f_269 : zR 0 0 (r_204) := zR_eqx t_c_268 zk_z
                    refine lv_iconst (v := nI 0) hx hb dX1_compare_171 (by decide +kernel) ?_
                    exact t_263 (nI 0) (zR_w zk_0 (by decide)) _ _ hP hD hS _ (lv_sub hl [0, 1, 2, 3, 4, 5, 6, 7, 8] rfl)
                  · have t_c_268 := z_eqF c_268
                    have f_270 : zR 1 16777215 (r_204) := zR_nex t_c_268 hr_204 zk_z (by decide)
                    refine lv_iconst (v := nI 1) hx hb dX1_compare_167 (by decide +kernel) ?_
                    refine lv_goto (tgt := 172) hx hb dX1_compare_168 (by decide) ?_
                    exact t_263 (nI 1) (zR_w zk_1 (by decide)) _ _ hP hD hS _ (lv_sub hl [0, 1, 2, 3, 4, 5, 6, 7, 8] rfl)
              refine lv_if_ne (tgt := 135) hx hb dX1_compare_125 (by decide) (fun c_248 => ?_) (fun c_248 => ?_)
              · have t_c_248 := z_eqF c_248
                refine lv_aload_n hx hb dX1_compare_135 rfl (lv_at hl 1 rfl) ?_
                refine z_get hx hb ht hown hK hP ziX1 rfl 46 (by decide) 1 (by decide) hw_2_36 rfl (v := .int (I_193 46 1)) rfl dX1_compare_136 ?_
                exact t_252 (I_193 46 1) _ _ hP hD hS _ (lv_sub hl [1, 2, 3, 4, 5, 6, 7, 8, 0] rfl)
              · have t_c_248 := z_eqT c_248
                have f_271 : zR 0 0 (I_193 46 0) := zR_eqx t_c_248 zk_z
                refine lv_iload hx hb dX1_compare_128 (lv_at hl 5 rfl) ?_
                refine lv_iconst (v := nI 4) hx hb dX1_compare_130 (by decide +kernel) ?_
                refine lv_idiv hx hb dX1_compare_131 (by decide +kernel) ?_
                refine z_rng (a := 0) (b := 14) (zR_divc f_202 zk_4 (by decide)) (fun v_272 hv_272 => ?_)
                refine lv_goto (tgt := 139) hx hb dX1_compare_132 (by decide) ?_
                exact t_252 (v_272) _ _ hP hD hS _ (lv_sub hl [1, 2, 3, 4, 5, 6, 7, 8, 0] rfl)
            · have t_c_219 := z_eqF c_219
              have f_273 : zR 1 16777215 (x_217) := zR_nex t_c_219 hx_217 zk_z (by decide)
              refine lv_iload_n hx hb dX1_compare_106 rfl (lv_at hl 4 rfl) ?_
              refine lv_iload hx hb dX1_compare_107 (lv_at hl 0 rfl) ?_
              refine lv_iload hx hb dX1_compare_109 (lv_at hl 0 rfl) ?_
              refine lv_ineg hx hb dX1_compare_111 ?_
              refine z_any (fun v_274 => ?_)
              refine lv_iand hx hb dX1_compare_112 ?_
              refine z_rng (a := 0) (b := 16777215) (zR_andl f_273 (by decide)) (fun v_275 hv_275 => ?_)
              refine lv_iconst (v := (-1)) hx hb dX1_compare_113 (by decide +kernel) ?_
              refine lv_ixor hx hb dX1_compare_114 ?_
              refine z_any (fun v_276 => ?_)
              refine lv_iand hx hb dX1_compare_115 ?_
              refine z_rng (a := 0) (b := 16777215) (zR_andl hx_191 (by decide)) (fun v_277 hv_277 => ?_)
              refine lv_istore_n (lv' := [(3, .int (v_277)), (8, .int (x_217)), (0, .ref (q 46)), (1, .ref (q 77)), (2, .ref (q 15)), (4, .int (x_192)), (5, .int (r_204)), (6, .int (v_207)), (7, .int (x_211))]) hx hb dX1_compare_116 rfl hl (by decide) rfl (fun ls hl => ?_)
              refine lv_goto (tgt := 176) hx hb dX1_compare_117 (by decide) ?_
              exact t_245 (v_277) hv_277 _ hI_193 f_203 _ _ hP hD hS _ (lv_sub hl [2, 3, 4, 0, 5, 6, 7, 8, 1] rfl)
          refine lv_if_eq (tgt := 98) hx hb dX1_compare_88 (by decide) (fun c_213 => ?_) (fun c_213 => ?_)
          · have t_c_213 := z_eqT c_213
            have f_278 : zR 0 0 (x_211) := zR_eqx t_c_213 zk_z
            refine lv_iconst (v := nI 0) hx hb dX1_compare_98 (by decide +kernel) ?_
            exact t_218 (nI 0) (zR_w zk_0 (by decide)) _ _ hP hD hS _ (lv_sub hl [1, 2, 3, 4, 5, 6, 7, 0] rfl)
          · have t_c_213 := z_eqF c_213
            have f_279 : zR 1 1 (x_211) := zR_nex t_c_213 hx_211 zk_z (by decide)
            refine lv_iload hx hb dX1_compare_91 (lv_at hl 6 rfl) ?_
            refine lv_iload_n hx hb dX1_compare_93 rfl (lv_at hl 4 rfl) ?_
            refine lv_iand hx hb dX1_compare_94 ?_
            refine z_rng (a := 0) (b := 16777215) (zR_andr hx_191 (by decide)) (fun v_280 hv_280 => ?_)
            refine lv_goto (tgt := 99) hx hb dX1_compare_95 (by decide) ?_
            exact t_218 (v_280) hv_280 _ _ hP hD hS _ (lv_sub hl [1, 2, 3, 4, 5, 6, 7, 0] rfl)
        refine lv_if_ne (tgt := 83) hx hb dX1_compare_76 (by decide) (fun c_209 => ?_) (fun c_209 => ?_)
        · have t_c_209 := z_leqF (fun h => c_209 ((lg_cmp_eq _ _).mpr h))
          refine lv_iconst (v := nI 0) hx hb dX1_compare_83 (by decide +kernel) ?_
          exact t_212 (nI 0) (zR_w zk_0 (by decide)) _ _ hP hD hS _ (lv_sub hl [2, 3, 4, 5, 6, 1, 0] rfl)
        · have t_c_209 := z_leqT ((lg_cmp_eq _ _).mp c_209)
          have f_281 : zL (-2147483648) 2147483647 (J 78 (v_208).toNatClampNeg) := zL_eqx t_c_209 (zR_i2l (zR_any (R 6 (v_207).toNatClampNeg)))
          refine lv_iconst (v := nI 1) hx hb dX1_compare_79 (by decide +kernel) ?_
          refine lv_goto (tgt := 84) hx hb dX1_compare_80 (by decide) ?_
          exact t_212 (nI 1) (zR_w zk_1 (by decide)) _ _ hP hD hS _ (lv_sub hl [2, 3, 4, 5, 6, 1, 0] rfl)
  exact loop_195 _ (r_4) hr_4 (nI 0) (zR_w zk_0 (by decide)) _ hI_3 xFour_0 (Nat.lt_succ_self _) _ _ hP hD hS _ (lv_sub hl [2, 3, 4, 1, 0] rfl)
set_option maxHeartbeats 4000000 in
set_option maxRecDepth 100000 in
theorem xk_X6_isThere_3 (l : Launch) (D : va_G) (q : Nat → Nat) (cA : Nat → ClassId) (F : Nat → Nat → Int32) (I R : Nat → Nat → Int32) (J : Nat → Nat → Int64) (hI : xInv F (I, R, J))  : zMi l D vwCl (zXtys cA) 81 q (zXd q cA) yX6_isThere cX6_isThere 1 (some .boolean) ({ frames := 0, cells := 0, slots := 0, locals := 0 } : Room) [.ref (q 79)] (I, R, J) (fun r u => (r = nI 1 ∧ u = (I, R, J) ∧ (I 79 1).toInt ≠ -1) ∨ (r = nI 0 ∧ u = (I, R, J) ∧ (I 79 1).toInt = -1)) := by
  intro sz
  refine z_body (by decide +kernel) (Nat.le_of_ble_eq_true rfl) (fun p e s m below meth c ls hx hb hml hr ht hown hlocks hsz hK hP hD hS hl => ?_)
  have hA : ∀ a, s.heap.size ≤ a → zA 81 q sz a := fun a h => Or.inr (hsz ▸ h)
  have hl : lv_has ls 1 [(0, .ref (q 79))] := hl
  refine lv_aload_n hx hb dX6_isThere_0 rfl (lv_at hl 0 rfl) ?_
  refine z_get hx hb ht hown hK hP ziX6 rfl 79 (by decide) 1 (by decide) hw_2_79 rfl (v := .int (I 79 1)) rfl dX6_isThere_1 ?_
  have f_1 : zR (-1) 60 (I 79 1) := xI hI 79 1
  refine lv_iconst (v := (-1)) hx hb dX6_isThere_4 (by decide +kernel) ?_
  refine lv_icmp_eq (tgt := 12) hx hb dX6_isThere_5 (by decide) (fun c_2 => ?_) (fun c_2 => ?_)
  · have t_c_2 := z_eqT c_2
    have f_3 : zR (-1) (-1) (I 79 1) := zR_eqx t_c_2 zk_m1
    refine lv_iconst (v := nI 0) hx hb dX6_isThere_12 (by decide +kernel) ?_
    exact z_zret (v := nI 0) hx hb hr hlocks hP hD hS (by decide +kernel) dX6_isThere_13 (Or.inr ⟨rfl, rfl, t_c_2.trans (by decide +kernel)⟩)
  · have t_c_2 := z_eqF c_2
    have f_4 : zR 0 60 (I 79 1) := zR_nex t_c_2 f_1 zk_m1 (by decide)
    refine lv_iconst (v := nI 1) hx hb dX6_isThere_8 (by decide +kernel) ?_
    refine lv_goto (tgt := 13) hx hb dX6_isThere_9 (by decide) ?_
    exact z_zret (v := nI 1) hx hb hr hlocks hP hD hS (by decide +kernel) dX6_isThere_13 (Or.inl ⟨rfl, rfl, fun h => t_c_2 (h.trans (by decide +kernel))⟩)
set_option maxHeartbeats 4000000 in
set_option maxRecDepth 100000 in
theorem xk_X1_isSound_3 (l : Launch) (D : va_G) (q : Nat → Nat) (cA : Nat → ClassId) (F : Nat → Nat → Int32) (I R : Nat → Nat → Int32) (J : Nat → Nat → Int64) (hI : xInv F (I, R, J))  : zMi l D vwCl (zXtys cA) 81 q (zXd q cA) yX1_isSound cX1_isSound 4 (some .boolean) ({ frames := 1, cells := 0, slots := 0, locals := 23 } : Room) [.ref (q 46), .ref (q 79), .ref (q 3)] (I, R, J) (fun r u => (r = nI 1 ∧ u = (I, R, J) ∧ xSound (J 80) (F 79 1)) ∨ (r = nI 0 ∧ u = (I, R, J) ∧ True)) := by
  intro sz
  refine z_body (by decide +kernel) (Nat.le_of_ble_eq_true rfl) (fun p e s m below meth c ls hx hb hml hr ht hown hlocks hsz hK hP hD hS hl => ?_)
  have hA : ∀ a, s.heap.size ≤ a → zA 81 q sz a := fun a h => Or.inr (hsz ▸ h)
  have hl : lv_has ls 4 [(0, .ref (q 46)), (1, .ref (q 79)), (2, .ref (q 3))] := hl
  refine lv_aload_n hx hb dX1_isSound_0 rfl (lv_at hl 1 rfl) ?_
  refine z_get hx hb ht hown hK hP ziX6 rfl 79 (by decide) 1 (by decide) hw_2_80 rfl (v := .int (I 79 1)) rfl dX1_isSound_1 ?_
  have f_1 : zR (-1) 60 (I 79 1) := xI hI 79 1
  refine lv_iconst (v := nI 4) hx hb dX1_isSound_4 (by decide +kernel) ?_
  refine lv_irem hx hb dX1_isSound_5 (by decide +kernel) ?_
  refine z_any (fun v_2 => ?_)
  refine lv_if_eq (tgt := 11) hx hb dX1_isSound_6 (by decide) (fun c_3 => ?_) (fun c_3 => ?_)
  · have t_c_3 := z_eqT c_3
    have f_4 : zR 0 0 (v_2) := zR_eqx t_c_3 zk_z
    refine lv_iconst (v := nI 0) hx hb dX1_isSound_11 (by decide +kernel) ?_
    refine lv_istore_n (lv' := [(3, .int (nI 0)), (0, .ref (q 46)), (1, .ref (q 79)), (2, .ref (q 3))]) hx hb dX1_isSound_12 rfl hl (by decide) rfl (fun ls hl => ?_)
    have loop_75 : ∀ N : Nat, ∀ x_73 : Int32, zR 0 60 x_73 → (xSnd (J 80) (x_73)) → (2147483648 - (x_73).toInt).toNat < N → ∀ (H : Heap) (locs : List Loc), va_P D vwCl (zw 81 q (zXd q cA) I R J) H → va_D (zA 81 q sz) (zw 81 q (zXd q cA) I R J) → va_S (zA 81 q sz) s.heap H locs → ∀ ls : Array Slot, lv_has ls 4 [(0, .ref (q 46)), (1, .ref (q 79)), (2, .ref (q 3)), (3, .int (x_73))] → W p l e ({ frames := 1, cells := 0, slots := 0, locals := 23 } : Room) s m ([.ref (q 46), .ref (q 79), .ref (q 3)] : List Value).toArray below meth c H locs 0 0 (MQ below (va_Qi (fun r u => (r = nI 1 ∧ u = (I, R, J) ∧ xSound (J 80) (F 79 1)) ∨ (r = nI 0 ∧ u = (I, R, J) ∧ True)) (zB D vwCl 81 q (zXd q cA) sz) (zA 81 q sz)) ([.ref (q 46), .ref (q 79), .ref (q 3)] : List Value).toArray s 0 0 (zA 81 q sz)) (F0 m 13 ls []) := by
      intro N
      induction N with
      | zero => intro x_73 hx_73 hx_74 hN; exact absurd hN (Nat.not_lt_zero _)
      | succ N ih_77 =>
        intro x_73 hx_73 hx_74 hN_76 H locs hP hD hS ls hl
        refine lv_iload_n hx hb dX1_isSound_13 rfl (lv_at hl 3 rfl) ?_
        refine lv_iconst (v := nI 4) hx hb dX1_isSound_14 (by decide +kernel) ?_
        refine lv_iadd hx hb dX1_isSound_15 ?_
        refine z_addc 4 64 hx_73 zk_4 (by decide) (fun v_78 hv_78 mv_78 => ?_)
        refine lv_aload_n hx hb dX1_isSound_16 rfl (lv_at hl 1 rfl) ?_
        refine z_get hx hb ht hown hK hP ziX6 rfl 79 (by decide) 1 (by decide) hw_2_80 rfl (v := .int (I 79 1)) rfl dX1_isSound_17 ?_
        refine lv_icmp_gt (tgt := 106) hx hb dX1_isSound_20 (by decide) (fun c_79 => ?_) (fun c_79 => ?_)
        · have t_c_79 := z_ltT c_79
          refine lv_iconst (v := nI 1) hx hb dX1_isSound_106 (by decide +kernel) ?_
          exact z_zret (v := nI 1) hx hb hr hlocks hP hD hS (by decide +kernel) dX1_isSound_107 (Or.inl ⟨rfl, rfl, (xFr hI 79 1 rfl) ▸ xSnd_end hx_74 mv_78 t_c_79⟩)
        · have t_c_79 := z_ltF c_79
          have f_80 : zR 4 60 (v_78) := zR_lex t_c_79 hv_78 f_1 (by decide)
          have f_81 : zR 0 56 (x_73) := zR_shift mv_78 f_80 (by decide)
          have f_82 : zR 4 60 (I 79 1) := zR_ley t_c_79 hv_78 f_1 (by decide)
          refine lv_aload_n hx hb dX1_isSound_23 rfl (lv_at hl 1 rfl) ?_
          refine z_get hx hb ht hown hK hP ziX6 rfl 79 (by decide) 2 (by decide) hw_2_83 rfl (v := .ref (q 80)) rfl dX1_isSound_24 ?_
          refine lv_iload_n hx hb dX1_isSound_27 rfl (lv_at hl 3 rfl) ?_
          refine z_lald hx hb hK hP 80 (by decide) 56 rfl rfl (zR_vin f_81 (by decide)) dX1_isSound_28 ?_
          refine z_eql (y := J 80 (x_73).toNatClampNeg) rfl ?_
          refine lv_iconst (v := nI 0) hx hb dX1_isSound_29 (by decide +kernel) ?_
          refine lv_aload_n hx hb dX1_isSound_30 rfl (lv_at hl 2 rfl) ?_
          refine z_get hx hb ht hown hK hP ziX2 rfl 3 (by decide) 4 (by decide) hw_1_82 rfl (v := .int (I 3 4)) rfl dX1_isSound_31 ?_
          have f_83 : zR 0 5 (I 3 4) := xI hI 3 4
          refine lv_iconst (v := nI 1) hx hb dX1_isSound_34 (by decide +kernel) ?_
          refine lv_isub hx hb dX1_isSound_35 ?_
          refine z_subc (-1) 4 (-1) f_83 zk_1 (by decide) (fun v_84 hv_84 mv_84 => ?_)
          refine z_callSi (As := [.long (J 80 (x_73).toNatClampNeg), .int (nI 0), .int (v_84)]) (rest := []) hx hb hml hown ht (xk_X1_isWithin l D q cA F _ _ _ hI (J 80 (x_73).toNatClampNeg) (nI 0) (zR_w zk_0 (by decide)) (v_84) hv_84) hw_5_71 hmX1_isWithin ⟨rfl, rfl⟩ (na := 3) rfl (by decide +kernel) (by decide) hK hP hD hS hA hl.1 rfl (Nat.le_of_ble_eq_true rfl) ⟨Nat.zero_le _, Nat.zero_le _⟩ dX1_isSound_36 (fun r_85 I_85 R_85 J_85 H locs hp_85 hP hD hS _ _ => ?_)
          rcases hp_85 with ⟨rfl, hu_85, f0_85, f2_85⟩ | ⟨rfl, hu_85⟩
          · cases hu_85
            refine lv_if_eq (tgt := 98) hx hb dX1_isSound_39 (by decide) (fun c_0 => absurd c_0 (zD_ne zk_1 zk_z (by decide))) (fun _ => ?_)
            refine lv_aload_n hx hb dX1_isSound_42 rfl (lv_at hl 1 rfl) ?_
            refine z_get hx hb ht hown hK hP ziX6 rfl 79 (by decide) 2 (by decide) hw_2_83 rfl (v := .ref (q 80)) rfl dX1_isSound_43 ?_
            refine lv_iload_n hx hb dX1_isSound_46 rfl (lv_at hl 3 rfl) ?_
            refine lv_iconst (v := nI 1) hx hb dX1_isSound_47 (by decide +kernel) ?_
            refine lv_iadd hx hb dX1_isSound_48 ?_
            refine z_addc 1 57 f_81 zk_1 (by decide) (fun v_86 hv_86 mv_86 => ?_)
            refine z_lald hx hb hK hP 80 (by decide) 56 rfl rfl (zR_vin hv_86 (by decide)) dX1_isSound_49 ?_
            refine z_eql (y := J 80 (v_86).toNatClampNeg) rfl ?_
            refine lv_iconst (v := nI 0) hx hb dX1_isSound_50 (by decide +kernel) ?_
            refine lv_aload_n hx hb dX1_isSound_51 rfl (lv_at hl 2 rfl) ?_
            refine z_get hx hb ht hown hK hP ziX2 rfl 3 (by decide) 5 (by decide) hw_1_88 rfl (v := .int (I 3 5)) rfl dX1_isSound_52 ?_
            have f_87 : zR 0 6 (I 3 5) := xI hI 3 5
            refine lv_iconst (v := nI 1) hx hb dX1_isSound_55 (by decide +kernel) ?_
            refine lv_isub hx hb dX1_isSound_56 ?_
            refine z_subc (-1) 5 (-1) f_87 zk_1 (by decide) (fun v_88 hv_88 mv_88 => ?_)
            refine z_callSi (As := [.long (J 80 (v_86).toNatClampNeg), .int (nI 0), .int (v_88)]) (rest := []) hx hb hml hown ht (xk_X1_isWithin_1 l D q cA F _ _ _ hI (J 80 (v_86).toNatClampNeg) (nI 0) (zR_w zk_0 (by decide)) (v_88) hv_88) hw_5_71 hmX1_isWithin ⟨rfl, rfl⟩ (na := 3) rfl (by decide +kernel) (by decide) hK hP hD hS hA hl.1 rfl (Nat.le_of_ble_eq_true rfl) ⟨Nat.zero_le _, Nat.zero_le _⟩ dX1_isSound_57 (fun r_89 I_89 R_89 J_89 H locs hp_89 hP hD hS _ _ => ?_)
            rcases hp_89 with ⟨rfl, hu_89, f0_89, f2_89⟩ | ⟨rfl, hu_89⟩
            · cases hu_89
              refine lv_if_eq (tgt := 98) hx hb dX1_isSound_60 (by decide) (fun c_0 => absurd c_0 (zD_ne zk_1 zk_z (by decide))) (fun _ => ?_)
              refine lv_aload_n hx hb dX1_isSound_63 rfl (lv_at hl 1 rfl) ?_
              refine z_get hx hb ht hown hK hP ziX6 rfl 79 (by decide) 2 (by decide) hw_2_83 rfl (v := .ref (q 80)) rfl dX1_isSound_64 ?_
              refine lv_iload_n hx hb dX1_isSound_67 rfl (lv_at hl 3 rfl) ?_
              refine lv_iconst (v := nI 2) hx hb dX1_isSound_68 (by decide +kernel) ?_
              refine lv_iadd hx hb dX1_isSound_69 ?_
              refine z_addc 2 58 f_81 zk_2 (by decide) (fun v_90 hv_90 mv_90 => ?_)
              refine z_lald hx hb hK hP 80 (by decide) 56 rfl rfl (zR_vin hv_90 (by decide)) dX1_isSound_70 ?_
              refine z_eql (y := J 80 (v_90).toNatClampNeg) rfl ?_
              refine lv_iconst (v := nI 0) hx hb dX1_isSound_71 (by decide +kernel) ?_
              refine lv_sipush (v := nI 9999) hx hb dX1_isSound_72 (by decide +kernel) ?_
              refine z_callSi (As := [.long (J 80 (v_90).toNatClampNeg), .int (nI 0), .int (nI 9999)]) (rest := []) hx hb hml hown ht (xk_X1_isWithin_2 l D q cA F _ _ _ hI (J 80 (v_90).toNatClampNeg) (nI 0) (zR_w zk_0 (by decide)) (nI 9999) (zR_w zk_9999 (by decide))) hw_5_71 hmX1_isWithin ⟨rfl, rfl⟩ (na := 3) rfl (by decide +kernel) (by decide) hK hP hD hS hA hl.1 rfl (Nat.le_of_ble_eq_true rfl) ⟨Nat.zero_le _, Nat.zero_le _⟩ dX1_isSound_75 (fun r_91 I_91 R_91 J_91 H locs hp_91 hP hD hS _ _ => ?_)
              rcases hp_91 with ⟨rfl, hu_91, f0_91⟩ | ⟨rfl, hu_91⟩
              · cases hu_91
                refine lv_if_eq (tgt := 98) hx hb dX1_isSound_78 (by decide) (fun c_0 => absurd c_0 (zD_ne zk_1 zk_z (by decide))) (fun _ => ?_)
                refine lv_aload_n hx hb dX1_isSound_81 rfl (lv_at hl 1 rfl) ?_
                refine z_get hx hb ht hown hK hP ziX6 rfl 79 (by decide) 2 (by decide) hw_2_83 rfl (v := .ref (q 80)) rfl dX1_isSound_82 ?_
                refine lv_iload_n hx hb dX1_isSound_85 rfl (lv_at hl 3 rfl) ?_
                refine lv_iconst (v := nI 3) hx hb dX1_isSound_86 (by decide +kernel) ?_
                refine lv_iadd hx hb dX1_isSound_87 ?_
                refine z_addc 3 59 f_81 zk_3 (by decide) (fun v_92 hv_92 mv_92 => ?_)
                refine z_lald hx hb hK hP 80 (by decide) 56 rfl rfl (zR_vin hv_92 (by decide)) dX1_isSound_88 ?_
                refine z_eql (y := J 80 (v_92).toNatClampNeg) rfl ?_
                refine lv_iconst (v := nI 1) hx hb dX1_isSound_89 (by decide +kernel) ?_
                refine lv_bipush (v := nI 60) hx hb dX1_isSound_90 (by decide +kernel) ?_
                refine z_callSi (As := [.long (J 80 (v_92).toNatClampNeg), .int (nI 1), .int (nI 60)]) (rest := []) hx hb hml hown ht (xk_X1_isWithin_3 l D q cA F _ _ _ hI (J 80 (v_92).toNatClampNeg) (nI 1) (zR_w zk_1 (by decide)) (nI 60) (zR_w zk_60 (by decide))) hw_5_71 hmX1_isWithin ⟨rfl, rfl⟩ (na := 3) rfl (by decide +kernel) (by decide) hK hP hD hS hA hl.1 rfl (Nat.le_of_ble_eq_true rfl) ⟨Nat.zero_le _, Nat.zero_le _⟩ dX1_isSound_92 (fun r_93 I_93 R_93 J_93 H locs hp_93 hP hD hS _ _ => ?_)
                rcases hp_93 with ⟨rfl, hu_93, f0_93⟩ | ⟨rfl, hu_93⟩
                · cases hu_93
                  refine lv_if_ne (tgt := 100) hx hb dX1_isSound_95 (by decide) (fun _ => ?_) (fun c_0 => absurd c_0 (zD_ne zk_1 zk_z (by decide)))
                  obtain ⟨v_94, ev_94⟩ : ∃ y : Int32, y = x_73 + nI 4 := ⟨_, rfl⟩
                  have hv_94 : zR 4 60 v_94 := ev_94 ▸ zR_add f_81 zk_4 (by decide)
                  have mv_94 : v_94.toInt = (x_73).toInt + 4 := by rw [ev_94, zR_addE f_81 zk_4 (by decide)]; rfl
                  refine lv_iinc (v := v_94) (lv' := [(3, .int (v_94)), (0, .ref (q 46)), (1, .ref (q 79)), (2, .ref (q 3))]) hx hb dX1_isSound_100 hl (k := 3) rfl (ev_94 ▸ rfl) (by decide) rfl (fun ls hl => ?_)
                  refine lv_goto (tgt := 13) hx hb dX1_isSound_103 (by decide) ?_
                  exact ih_77 (v_94) (zR_w hv_94 (by decide)) (xSnd_step hx_74 f0_89 mv_86 mv_94) (z2_up mv_94 (by decide) hN_76) _ _ hP hD hS _ (lv_sub hl [1, 2, 3, 0] rfl)
                · cases hu_93
                  refine lv_if_ne (tgt := 100) hx hb dX1_isSound_95 (by decide) (fun c_0 => absurd (zD_eq zk_0 zk_z) c_0) (fun _ => ?_)
                  refine lv_iconst (v := nI 0) hx hb dX1_isSound_98 (by decide +kernel) ?_
                  exact z_zret (v := nI 0) hx hb hr hlocks hP hD hS (by decide +kernel) dX1_isSound_99 (Or.inr ⟨rfl, rfl, trivial⟩)
              · cases hu_91
                refine lv_if_eq (tgt := 98) hx hb dX1_isSound_78 (by decide) (fun _ => ?_) (fun c_0 => absurd (zD_eq zk_0 zk_z) c_0)
                refine lv_iconst (v := nI 0) hx hb dX1_isSound_98 (by decide +kernel) ?_
                exact z_zret (v := nI 0) hx hb hr hlocks hP hD hS (by decide +kernel) dX1_isSound_99 (Or.inr ⟨rfl, rfl, trivial⟩)
            · cases hu_89
              refine lv_if_eq (tgt := 98) hx hb dX1_isSound_60 (by decide) (fun _ => ?_) (fun c_0 => absurd (zD_eq zk_0 zk_z) c_0)
              refine lv_iconst (v := nI 0) hx hb dX1_isSound_98 (by decide +kernel) ?_
              exact z_zret (v := nI 0) hx hb hr hlocks hP hD hS (by decide +kernel) dX1_isSound_99 (Or.inr ⟨rfl, rfl, trivial⟩)
          · cases hu_85
            refine lv_if_eq (tgt := 98) hx hb dX1_isSound_39 (by decide) (fun _ => ?_) (fun c_0 => absurd (zD_eq zk_0 zk_z) c_0)
            refine lv_iconst (v := nI 0) hx hb dX1_isSound_98 (by decide +kernel) ?_
            exact z_zret (v := nI 0) hx hb hr hlocks hP hD hS (by decide +kernel) dX1_isSound_99 (Or.inr ⟨rfl, rfl, trivial⟩)
    exact loop_75 _ (nI 0) (zR_w zk_0 (by decide)) xSnd_0 (Nat.lt_succ_self _) _ _ hP hD hS _ (lv_sub hl [1, 2, 3, 0] rfl)
  · have t_c_3 := z_eqF c_3
    refine lv_iconst (v := nI 0) hx hb dX1_isSound_9 (by decide +kernel) ?_
    exact z_zret (v := nI 0) hx hb hr hlocks hP hD hS (by decide +kernel) dX1_isSound_10 (Or.inr ⟨rfl, rfl, trivial⟩)
set_option maxHeartbeats 4000000 in
set_option maxRecDepth 100000 in
theorem xk_X1_alike_11 (l : Launch) (D : va_G) (q : Nat → Nat) (cA : Nat → ClassId) (F : Nat → Nat → Int32) (I R : Nat → Nat → Int32) (J : Nat → Nat → Int64) (hI : xInv F (I, R, J)) (pa1 : Int32) (hpa1 : zR 0 56 pa1) : zMi l D vwCl (zXtys cA) 81 q (zXd q cA) yX1_alike cX1_alike 5 (some .int) ({ frames := 1, cells := 0, slots := 0, locals := 21 } : Room) [.ref (q 79), .int (pa1), .ref (q 15)] (I, R, J) (fun r u => zR 0 16777215 r ∧ u = (I, R, J)) := by
  intro sz
  refine z_body (by decide +kernel) (Nat.le_of_ble_eq_true rfl) (fun p e s m below meth c ls hx hb hml hr ht hown hlocks hsz hK hP hD hS hl => ?_)
  have hA : ∀ a, s.heap.size ≤ a → zA 81 q sz a := fun a h => Or.inr (hsz ▸ h)
  have hl : lv_has ls 5 [(0, .ref (q 79)), (1, .int (pa1)), (2, .ref (q 15))] := hl
  refine lv_iconst (v := nI 0) hx hb dX1_alike_0 (by decide +kernel) ?_
  refine lv_istore_n (lv' := [(3, .int (nI 0)), (0, .ref (q 79)), (1, .int (pa1)), (2, .ref (q 15))]) hx hb dX1_alike_1 rfl hl (by decide) rfl (fun ls hl => ?_)
  refine lv_iconst (v := nI 0) hx hb dX1_alike_2 (by decide +kernel) ?_
  refine lv_istore (lv' := [(4, .int (nI 0)), (3, .int (nI 0)), (0, .ref (q 79)), (1, .int (pa1)), (2, .ref (q 15))]) hx hb dX1_alike_3 hl (by decide) rfl (fun ls hl => ?_)
  have loop_103 : ∀ N : Nat, ∀ x_101 : Int32, zR 0 16777215 x_101 → ∀ x_102 : Int32, zR 0 24 x_102 → (2147483648 - (x_102).toInt).toNat < N → ∀ (H : Heap) (locs : List Loc), va_P D vwCl (zw 81 q (zXd q cA) I R J) H → va_D (zA 81 q sz) (zw 81 q (zXd q cA) I R J) → va_S (zA 81 q sz) s.heap H locs → ∀ ls : Array Slot, lv_has ls 5 [(0, .ref (q 79)), (1, .int (pa1)), (2, .ref (q 15)), (3, .int (x_101)), (4, .int (x_102))] → W p l e ({ frames := 1, cells := 0, slots := 0, locals := 21 } : Room) s m ([.ref (q 79), .int (pa1), .ref (q 15)] : List Value).toArray below meth c H locs 0 0 (MQ below (va_Qi (fun r u => zR 0 16777215 r ∧ u = (I, R, J)) (zB D vwCl 81 q (zXd q cA) sz) (zA 81 q sz)) ([.ref (q 79), .int (pa1), .ref (q 15)] : List Value).toArray s 0 0 (zA 81 q sz)) (F0 m 5 ls []) := by
    intro N
    induction N with
    | zero => intro x_101 hx_101 x_102 hx_102 hN; exact absurd hN (Nat.not_lt_zero _)
    | succ N ih_105 =>
      intro x_101 hx_101 x_102 hx_102 hN_104 H locs hP hD hS ls hl
      refine lv_iload hx hb dX1_alike_5 (lv_at hl 4 rfl) ?_
      refine lv_aload_n hx hb dX1_alike_7 rfl (lv_at hl 2 rfl) ?_
      refine z_get hx hb ht hown hK hP ziX9 rfl 15 (by decide) 2 (by decide) hw_1_161 rfl (v := .int (I 15 2)) rfl dX1_alike_8 ?_
      have f_106 : zR 0 24 (I 15 2) := xI hI 15 2
      refine lv_icmp_ge (tgt := 94) hx hb dX1_alike_11 (by decide) (fun c_107 => ?_) (fun c_107 => ?_)
      · have t_c_107 := z_leT c_107
        refine lv_iload_n hx hb dX1_alike_94 rfl (lv_at hl 3 rfl) ?_
        exact z_iret (v := x_101) hx hb hr hlocks hP hD hS dX1_alike_95 ⟨hx_101, rfl⟩
      · have t_c_107 := z_leF c_107
        have f_108 : zR 0 23 (x_102) := zR_ltx t_c_107 hx_102 f_106 (by decide)
        have f_109 : zR 1 24 (I 15 2) := zR_lty t_c_107 hx_102 f_106 (by decide)
        refine lv_aload_n hx hb dX1_alike_14 rfl (lv_at hl 2 rfl) ?_
        refine lv_iload hx hb dX1_alike_15 (lv_at hl 4 rfl) ?_
        have t_124 : ∀ x_123 : Int32, zR 0 16777215 x_123 → ∀ (H : Heap) (locs : List Loc), va_P D vwCl (zw 81 q (zXd q cA) I R J) H → va_D (zA 81 q sz) (zw 81 q (zXd q cA) I R J) → va_S (zA 81 q sz) s.heap H locs → ∀ ls : Array Slot, lv_has ls 5 [(0, .ref (q 79)), (1, .int (pa1)), (2, .ref (q 15)), (3, .int (x_123)), (4, .int (x_102))] → W p l e ({ frames := 1, cells := 0, slots := 0, locals := 21 } : Room) s m ([.ref (q 79), .int (pa1), .ref (q 15)] : List Value).toArray below meth c H locs 0 0 (MQ below (va_Qi (fun r u => zR 0 16777215 r ∧ u = (I, R, J)) (zB D vwCl 81 q (zXd q cA) sz) (zA 81 q sz)) ([.ref (q 79), .int (pa1), .ref (q 15)] : List Value).toArray s 0 0 (zA 81 q sz)) (F0 m 88 ls []) := by
          intro x_123 hx_123 H locs hP hD hS ls hl
          obtain ⟨v_125, ev_125⟩ : ∃ y : Int32, y = x_102 + nI 1 := ⟨_, rfl⟩
          have hv_125 : zR 1 24 v_125 := ev_125 ▸ zR_add f_108 zk_1 (by decide)
          have mv_125 : v_125.toInt = (x_102).toInt + 1 := by rw [ev_125, zR_addE f_108 zk_1 (by decide)]; rfl
          refine lv_iinc (v := v_125) (lv' := [(4, .int (v_125)), (0, .ref (q 79)), (1, .int (pa1)), (2, .ref (q 15)), (3, .int (x_123))]) hx hb dX1_alike_88 hl (k := 4) rfl (ev_125 ▸ rfl) (by decide) rfl (fun ls hl => ?_)
          refine lv_goto (tgt := 5) hx hb dX1_alike_91 (by decide) ?_
          exact ih_105 (x_123) hx_123 (v_125) (zR_w hv_125 (by decide)) (z2_up mv_125 (by decide) hN_104) _ _ hP hD hS _ (lv_sub hl [1, 2, 3, 4, 0] rfl)
        refine z_callVi (k := 15) (As := [.int (x_102)]) (rest := []) hx hb hml hown ht (xk_X9_isOpen_1 l D q cA F _ _ _ hI (x_102) f_108) hw_5_82 hmX9_isOpen ⟨rfl, rfl⟩ (na := 1) rfl (by decide +kernel) (by decide) (by decide) rfl rfl hK hP hD hS hA hl.1 rfl (Nat.le_of_ble_eq_true rfl) ⟨Nat.zero_le _, Nat.zero_le _⟩ dX1_alike_17 (fun r_110 I_110 R_110 J_110 H locs hp_110 hP hD hS _ _ => ?_)
        rcases hp_110 with ⟨rfl, hu_110⟩ | ⟨rfl, hu_110⟩
        · cases hu_110
          refine lv_if_eq (tgt := 88) hx hb dX1_alike_20 (by decide) (fun c_0 => absurd c_0 (zD_ne zk_1 zk_z (by decide))) (fun _ => ?_)
          refine lv_aload_n hx hb dX1_alike_23 rfl (lv_at hl 2 rfl) ?_
          refine z_get hx hb ht hown hK hP ziX9 rfl 15 (by decide) 7 (by decide) hw_1_173 rfl (v := .ref (q 19)) rfl dX1_alike_24 ?_
          refine lv_iload hx hb dX1_alike_27 (lv_at hl 4 rfl) ?_
          refine z_iald hx hb hK hP 19 (by decide) 13 rfl rfl (zR_vin f_108 (by decide)) dX1_alike_29 ?_
          refine z_eqi (y := R 19 (x_102).toNatClampNeg) rfl ?_
          have f_126 : zR 0 4 (R 19 (x_102).toNatClampNeg) := xR hI 19 (x_102).toNatClampNeg
          refine lv_i2l (v := (R 19 (x_102).toNatClampNeg).toInt64) hx hb dX1_alike_30 rfl ?_
          refine lv_aload_n hx hb dX1_alike_31 rfl (lv_at hl 0 rfl) ?_
          refine z_get hx hb ht hown hK hP ziX6 rfl 79 (by decide) 2 (by decide) hw_2_83 rfl (v := .ref (q 80)) rfl dX1_alike_32 ?_
          refine lv_iload_n hx hb dX1_alike_35 rfl (lv_at hl 1 rfl) ?_
          refine z_lald hx hb hK hP 80 (by decide) 56 rfl rfl (zR_vin hpa1 (by decide)) dX1_alike_36 ?_
          refine z_eql (y := J 80 (pa1).toNatClampNeg) rfl ?_
          refine W.lcmp hx hb dX1_alike_37 ?_
          refine lv_if_ne (tgt := 88) hx hb dX1_alike_38 (by decide) (fun c_127 => ?_) (fun c_127 => ?_)
          · have t_c_127 := z_leqF (fun h => c_127 ((lg_cmp_eq _ _).mpr h))
            exact t_124 (x_101) hx_101 _ _ hP hD hS _ (lv_sub hl [0, 1, 2, 3, 4] rfl)
          · have t_c_127 := z_leqT ((lg_cmp_eq _ _).mp c_127)
            have f_128 : zL 0 4 (J 80 (pa1).toNatClampNeg) := zL_eqy t_c_127 (zR_i2l f_126)
            refine lv_aload_n hx hb dX1_alike_41 rfl (lv_at hl 2 rfl) ?_
            refine z_get hx hb ht hown hK hP ziX9 rfl 15 (by decide) 8 (by decide) hw_1_177 rfl (v := .ref (q 20)) rfl dX1_alike_42 ?_
            refine lv_iload hx hb dX1_alike_45 (lv_at hl 4 rfl) ?_
            refine z_iald hx hb hK hP 20 (by decide) 14 rfl rfl (zR_vin f_108 (by decide)) dX1_alike_47 ?_
            refine z_eqi (y := R 20 (x_102).toNatClampNeg) rfl ?_
            have f_129 : zR 0 5 (R 20 (x_102).toNatClampNeg) := xR hI 20 (x_102).toNatClampNeg
            refine lv_i2l (v := (R 20 (x_102).toNatClampNeg).toInt64) hx hb dX1_alike_48 rfl ?_
            refine lv_aload_n hx hb dX1_alike_49 rfl (lv_at hl 0 rfl) ?_
            refine z_get hx hb ht hown hK hP ziX6 rfl 79 (by decide) 2 (by decide) hw_2_83 rfl (v := .ref (q 80)) rfl dX1_alike_50 ?_
            refine lv_iload_n hx hb dX1_alike_53 rfl (lv_at hl 1 rfl) ?_
            refine lv_iconst (v := nI 1) hx hb dX1_alike_54 (by decide +kernel) ?_
            refine lv_iadd hx hb dX1_alike_55 ?_
            refine z_addc 1 57 hpa1 zk_1 (by decide) (fun v_130 hv_130 mv_130 => ?_)
            refine z_lald hx hb hK hP 80 (by decide) 56 rfl rfl (zR_vin hv_130 (by decide)) dX1_alike_56 ?_
            refine z_eql (y := J 80 (v_130).toNatClampNeg) rfl ?_
            refine W.lcmp hx hb dX1_alike_57 ?_
            refine lv_if_ne (tgt := 88) hx hb dX1_alike_58 (by decide) (fun c_131 => ?_) (fun c_131 => ?_)
            · have t_c_131 := z_leqF (fun h => c_131 ((lg_cmp_eq _ _).mpr h))
              exact t_124 (x_101) hx_101 _ _ hP hD hS _ (lv_sub hl [0, 1, 2, 3, 4] rfl)
            · have t_c_131 := z_leqT ((lg_cmp_eq _ _).mp c_131)
              have f_132 : zL 0 5 (J 80 (v_130).toNatClampNeg) := zL_eqy t_c_131 (zR_i2l f_129)
              refine lv_aload_n hx hb dX1_alike_61 rfl (lv_at hl 2 rfl) ?_
              refine z_get hx hb ht hown hK hP ziX9 rfl 15 (by decide) 10 (by decide) hw_1_183 rfl (v := .ref (q 22)) rfl dX1_alike_62 ?_
              refine lv_iload hx hb dX1_alike_65 (lv_at hl 4 rfl) ?_
              refine z_iald hx hb hK hP 22 (by decide) 16 rfl rfl (zR_vin f_108 (by decide)) dX1_alike_67 ?_
              refine z_eqi (y := R 22 (x_102).toNatClampNeg) rfl ?_
              refine lv_i2l (v := (R 22 (x_102).toNatClampNeg).toInt64) hx hb dX1_alike_68 rfl ?_
              refine lv_aload_n hx hb dX1_alike_69 rfl (lv_at hl 0 rfl) ?_
              refine z_get hx hb ht hown hK hP ziX6 rfl 79 (by decide) 2 (by decide) hw_2_83 rfl (v := .ref (q 80)) rfl dX1_alike_70 ?_
              refine lv_iload_n hx hb dX1_alike_73 rfl (lv_at hl 1 rfl) ?_
              refine lv_iconst (v := nI 3) hx hb dX1_alike_74 (by decide +kernel) ?_
              refine lv_iadd hx hb dX1_alike_75 ?_
              refine z_addc 3 59 hpa1 zk_3 (by decide) (fun v_133 hv_133 mv_133 => ?_)
              refine z_lald hx hb hK hP 80 (by decide) 56 rfl rfl (zR_vin hv_133 (by decide)) dX1_alike_76 ?_
              refine z_eql (y := J 80 (v_133).toNatClampNeg) rfl ?_
              refine W.lcmp hx hb dX1_alike_77 ?_
              refine lv_if_ne (tgt := 88) hx hb dX1_alike_78 (by decide) (fun c_134 => ?_) (fun c_134 => ?_)
              · have t_c_134 := z_leqF (fun h => c_134 ((lg_cmp_eq _ _).mpr h))
                exact t_124 (x_101) hx_101 _ _ hP hD hS _ (lv_sub hl [0, 1, 2, 3, 4] rfl)
              · have t_c_134 := z_leqT ((lg_cmp_eq _ _).mp c_134)
                have f_135 : zL (-2147483648) 2147483647 (J 80 (v_133).toNatClampNeg) := zL_eqy t_c_134 (zR_i2l (zR_any (R 22 (x_102).toNatClampNeg)))
                refine lv_iload_n hx hb dX1_alike_81 rfl (lv_at hl 3 rfl) ?_
                refine lv_iconst (v := nI 1) hx hb dX1_alike_82 (by decide +kernel) ?_
                refine lv_iload hx hb dX1_alike_83 (lv_at hl 4 rfl) ?_
                refine lv_ishl hx hb dX1_alike_85 ?_
                refine z_rng (a := 1) (b := 8388608) (zR_shl1 23 f_108 (by decide)) (fun v_136 hv_136 => ?_)
                refine lv_ior hx hb dX1_alike_86 ?_
                refine z_rng (a := 0) (b := 16777215) (zR_or 24 hx_101 hv_136 (by decide)) (fun v_137 hv_137 => ?_)
                refine lv_istore_n (lv' := [(3, .int (v_137)), (0, .ref (q 79)), (1, .int (pa1)), (2, .ref (q 15)), (4, .int (x_102))]) hx hb dX1_alike_87 rfl hl (by decide) rfl (fun ls hl => ?_)
                exact t_124 (v_137) hv_137 _ _ hP hD hS _ (lv_sub hl [1, 2, 3, 0, 4] rfl)
        · cases hu_110
          refine lv_if_eq (tgt := 88) hx hb dX1_alike_20 (by decide) (fun _ => ?_) (fun c_0 => absurd (zD_eq zk_0 zk_z) c_0)
          exact t_124 (x_101) hx_101 _ _ hP hD hS _ (lv_sub hl [0, 1, 2, 3, 4] rfl)
  exact loop_103 _ (nI 0) (zR_w zk_0 (by decide)) (nI 0) (zR_w zk_0 (by decide)) (Nat.lt_succ_self _) _ _ hP hD hS _ (lv_sub hl [2, 3, 4, 1, 0] rfl)
set_option maxHeartbeats 4000000 in
set_option maxRecDepth 100000 in
theorem xk_X1_compare_3 (l : Launch) (D : va_G) (q : Nat → Nat) (cA : Nat → ClassId) (F : Nat → Nat → Int32) (I R : Nat → Nat → Int32) (J : Nat → Nat → Int64) (hI : xInv F (I, R, J)) (hs : xSound (J 80) (F 79 1)) : zMv l D vwCl (zXtys cA) 81 q (zXd q cA) yX1_compare cX1_compare 9 none ({ frames := 2, cells := 0, slots := 0, locals := 45 } : Room) [.ref (q 46), .ref (q 79), .ref (q 15)] (I, R, J) (fun u => xInv F u) := by
  intro sz
  refine z_body (by decide +kernel) (Nat.le_of_ble_eq_true rfl) (fun p e s m below meth c ls hx hb hml hr ht hown hlocks hsz hK hP hD hS hl => ?_)
  have hA : ∀ a, s.heap.size ≤ a → zA 81 q sz a := fun a h => Or.inr (hsz ▸ h)
  have hl : lv_has ls 9 [(0, .ref (q 46)), (1, .ref (q 79)), (2, .ref (q 15))] := hl
  refine lv_aload_n hx hb dX1_compare_0 rfl (lv_at hl 0 rfl) ?_
  refine lv_iconst (v := nI 0) hx hb dX1_compare_1 (by decide +kernel) ?_
  refine z_putI hx hb ht hown hK hP hD hS ziX1 tyX1 tyX1_ok nmX1 rfl 46 (by decide) 0 (by decide) hw_2_34 rfl (v := nI 0) rfl rfl rfl (Nat.le_of_ble_eq_true rfl) rfl dX1_compare_2 (fun H locs hP hD hS => ?_)
  have hI_1 := xInv_I hI 46 0 (nI 0) (zR_any (nI 0)) rfl
  refine lv_aload_n hx hb dX1_compare_5 rfl (lv_at hl 0 rfl) ?_
  refine lv_iconst (v := (-1)) hx hb dX1_compare_6 (by decide +kernel) ?_
  refine z_putI hx hb ht hown hK hP hD hS ziX1 tyX1 tyX1_ok nmX1 rfl 46 (by decide) 1 (by decide) hw_2_36 rfl (v := (-1)) rfl rfl rfl (Nat.le_of_ble_eq_true rfl) rfl dX1_compare_7 (fun H locs hP hD hS => ?_)
  have hI_2 := xInv_I hI_1 46 1 ((-1)) (zR_any ((-1))) rfl
  refine lv_aload_n hx hb dX1_compare_10 rfl (lv_at hl 0 rfl) ?_
  refine lv_iconst (v := nI 0) hx hb dX1_compare_11 (by decide +kernel) ?_
  refine z_putI hx hb ht hown hK hP hD hS ziX1 tyX1 tyX1_ok nmX1 rfl 46 (by decide) 2 (by decide) hw_2_38 rfl (v := nI 0) rfl rfl rfl (Nat.le_of_ble_eq_true rfl) rfl dX1_compare_12 (fun H locs hP hD hS => ?_)
  have hI_3 := xInv_I hI_2 46 2 (nI 0) (zR_any (nI 0)) rfl
  refine lv_aload_n hx hb dX1_compare_15 rfl (lv_at hl 2 rfl) ?_
  refine z_callVi (k := 15) (As := []) (rest := []) hx hb hml hown ht (xk_X9_openPapers l D q cA F _ _ _ hI_3 ) hw_5_78 hmX9_openPapers ⟨rfl, rfl⟩ (na := 0) rfl (by decide +kernel) (by decide) (by decide) rfl rfl hK hP hD hS hA hl.1 rfl (Nat.le_of_ble_eq_true rfl) ⟨Nat.zero_le _, Nat.zero_le _⟩ dX1_compare_16 (fun r_4 I_4 R_4 J_4 H locs hp_4 hP hD hS _ _ => ?_)
  obtain ⟨hr_4, hu_4⟩ := hp_4
  cases hu_4
  refine lv_istore_n (lv' := [(3, .int (r_4)), (0, .ref (q 46)), (1, .ref (q 79)), (2, .ref (q 15))]) hx hb dX1_compare_19 rfl hl (by decide) rfl (fun ls hl => ?_)
  refine lv_iconst (v := nI 0) hx hb dX1_compare_20 (by decide +kernel) ?_
  refine lv_istore (lv' := [(4, .int (nI 0)), (3, .int (r_4)), (0, .ref (q 46)), (1, .ref (q 79)), (2, .ref (q 15))]) hx hb dX1_compare_21 hl (by decide) rfl (fun ls hl => ?_)
  have loop_195 : ∀ N : Nat, ∀ x_191 : Int32, zR 0 16777215 x_191 → ∀ x_192 : Int32, zR 0 60 x_192 → ∀ I_193 : Nat → Nat → Int32, xInv F (I_193, R, J) → (xFour (x_192)) → (2147483648 - (x_192).toInt).toNat < N → ∀ (H : Heap) (locs : List Loc), va_P D vwCl (zw 81 q (zXd q cA) I_193 R J) H → va_D (zA 81 q sz) (zw 81 q (zXd q cA) I_193 R J) → va_S (zA 81 q sz) s.heap H locs → ∀ ls : Array Slot, lv_has ls 9 [(0, .ref (q 46)), (1, .ref (q 79)), (2, .ref (q 15)), (3, .int (x_191)), (4, .int (x_192))] → W p l e ({ frames := 2, cells := 0, slots := 0, locals := 45 } : Room) s m ([.ref (q 46), .ref (q 79), .ref (q 15)] : List Value).toArray below meth c H locs 0 0 (MQ below (va_Qv (fun u => xInv F u) (zB D vwCl 81 q (zXd q cA) sz) (zA 81 q sz)) ([.ref (q 46), .ref (q 79), .ref (q 15)] : List Value).toArray s 0 0 (zA 81 q sz)) (F0 m 23 ls []) := by
    intro N
    induction N with
    | zero => intro x_191 hx_191 x_192 hx_192 I_193 hI_193 hx_194 hN; exact absurd hN (Nat.not_lt_zero _)
    | succ N ih_197 =>
      intro x_191 hx_191 x_192 hx_192 I_193 hI_193 hx_194 hN_196 H locs hP hD hS ls hl
      refine lv_iload hx hb dX1_compare_23 (lv_at hl 4 rfl) ?_
      refine lv_iconst (v := nI 4) hx hb dX1_compare_25 (by decide +kernel) ?_
      refine lv_iadd hx hb dX1_compare_26 ?_
      refine z_addc 4 64 hx_192 zk_4 (by decide) (fun v_198 hv_198 mv_198 => ?_)
      refine lv_aload_n hx hb dX1_compare_27 rfl (lv_at hl 1 rfl) ?_
      refine z_get hx hb ht hown hK hP ziX6 rfl 79 (by decide) 1 (by decide) hw_2_80 rfl (v := .int (I_193 79 1)) rfl dX1_compare_28 ?_
      have f_199 : zR (-1) 60 (I_193 79 1) := xI hI_193 79 1
      refine lv_icmp_gt (tgt := 182) hx hb dX1_compare_31 (by decide) (fun c_200 => ?_) (fun c_200 => ?_)
      · have t_c_200 := z_ltT c_200
        exact z_vret hx hb hr hlocks hP hD hS dX1_compare_182 hI_193
      · have t_c_200 := z_ltF c_200
        have f_201 : zR 4 60 (v_198) := zR_lex t_c_200 hv_198 f_199 (by decide)
        have f_202 : zR 0 56 (x_192) := zR_shift mv_198 f_201 (by decide)
        have f_203 : zR 4 60 (I_193 79 1) := zR_ley t_c_200 hv_198 f_199 (by decide)
        refine lv_aload_n hx hb dX1_compare_34 rfl (lv_at hl 1 rfl) ?_
        refine lv_iload hx hb dX1_compare_35 (lv_at hl 4 rfl) ?_
        refine lv_aload_n hx hb dX1_compare_37 rfl (lv_at hl 2 rfl) ?_
        refine z_callSi (As := [.ref (q 79), .int (x_192), .ref (q 15)]) (rest := []) hx hb hml hown ht (xk_X1_alike_11 l D q cA F _ _ _ hI_193 (x_192) f_202) hw_5_79 hmX1_alike ⟨rfl, rfl⟩ (na := 3) rfl (by decide +kernel) (by decide) hK hP hD hS hA hl.1 rfl (Nat.le_of_ble_eq_true rfl) ⟨Nat.zero_le _, Nat.zero_le _⟩ dX1_compare_38 (fun r_204 I_204 R_204 J_204 H locs hp_204 hP hD hS _ _ => ?_)
        obtain ⟨hr_204, hu_204⟩ := hp_204
        cases hu_204
        refine lv_istore (lv' := [(5, .int (r_204)), (0, .ref (q 46)), (1, .ref (q 79)), (2, .ref (q 15)), (3, .int (x_191)), (4, .int (x_192))]) hx hb dX1_compare_41 hl (by decide) rfl (fun ls hl => ?_)
        refine lv_aload_n hx hb dX1_compare_43 rfl (lv_at hl 2 rfl) ?_
        refine z_get hx hb ht hown hK hP ziX6 rfl 79 (by decide) 2 (by decide) hw_2_83 rfl (v := .ref (q 80)) rfl dX1_compare_44 ?_
        refine lv_iload hx hb dX1_compare_47 (lv_at hl 5 rfl) ?_
        refine lv_iconst (v := nI 1) hx hb dX1_compare_49 (by decide +kernel) ?_
        refine lv_iadd hx hb dX1_compare_50 ?_
        refine z_addc 1 57 f_202 zk_1 (by decide) (fun v_205 hv_205 mv_205 => ?_)
        have f_206 : zL 0 5 (J 80 (v_205).toNatClampNeg) := xSound_at hs hx_194 mv_205 mv_198 t_c_200 (xFr hI_193 79 1 rfl)
        refine z_lald hx hb hK hP 80 (by decide) 56 rfl rfl (zR_vin hv_205 (by decide)) dX1_compare_51 ?_
        refine z_eql (y := J 80 (v_205).toNatClampNeg) rfl ?_
        refine lv_l2i hx hb dX1_compare_52 rfl ?_
        refine z_rng (a := 0) (b := 5) (zL_l2i f_206 (by decide)) (fun v_207 hv_207 => ?_)
        refine lv_istore (lv' := [(6, .int (v_207)), (5, .int (r_204)), (0, .ref (q 46)), (1, .ref (q 79)), (2, .ref (q 15)), (3, .int (x_191)), (4, .int (x_192))]) hx hb dX1_compare_53 hl (by decide) rfl (fun ls hl => ?_)
        refine lv_aload_n hx hb dX1_compare_55 rfl (lv_at hl 3 rfl) ?_
        refine z_get hx hb ht hown hK hP ziX6 rfl 79 (by decide) 2 (by decide) hw_2_83 rfl (v := .ref (q 80)) rfl dX1_compare_56 ?_
        refine lv_iload hx hb dX1_compare_59 (lv_at hl 6 rfl) ?_
        refine lv_iconst (v := nI 2) hx hb dX1_compare_61 (by decide +kernel) ?_
        refine lv_iadd hx hb dX1_compare_62 ?_
        refine z_addc 2 58 f_202 zk_2 (by decide) (fun v_208 hv_208 mv_208 => ?_)
        refine z_lald hx hb hK hP 80 (by decide) 56 rfl rfl (zR_vin hv_208 (by decide)) dX1_compare_63 ?_
        refine z_eql (y := J 80 (v_208).toNatClampNeg) rfl ?_
        refine lv_aload_n hx hb dX1_compare_64 rfl (lv_at hl 4 rfl) ?_
        refine z_get hx hb ht hown hK hP ziX9 rfl 15 (by decide) 0 (by decide) hw_1_155 rfl (v := .ref (q 3)) rfl dX1_compare_65 ?_
        refine z_get hx hb ht hown hK hP ziX2 rfl 3 (by decide) 9 (by decide) hw_1_105 rfl (v := .ref (q 6)) rfl dX1_compare_68 ?_
        refine lv_iload hx hb dX1_compare_71 (lv_at hl 0 rfl) ?_
        refine z_iald hx hb hK hP 6 (by decide) 3 rfl rfl (zR_vin hv_207 (by decide)) dX1_compare_73 ?_
        refine z_eqi (y := R 6 (v_207).toNatClampNeg) rfl ?_
        refine lv_i2l (v := (R 6 (v_207).toNatClampNeg).toInt64) hx hb dX1_compare_74 rfl ?_
        refine W.lcmp hx hb dX1_compare_75 ?_
        have t_212 : ∀ x_211 : Int32, zR 0 1 x_211 → ∀ (H : Heap) (locs : List Loc), va_P D vwCl (zw 81 q (zXd q cA) I_193 R J) H → va_D (zA 81 q sz) (zw 81 q (zXd q cA) I_193 R J) → va_S (zA 81 q sz) s.heap H locs → ∀ ls : Array Slot, lv_has ls 9 [(0, .ref (q 46)), (1, .ref (q 79)), (2, .ref (q 15)), (3, .int (x_191)), (4, .int (x_192)), (5, .int (r_204)), (6, .int (v_207))] → W p l e ({ frames := 2, cells := 0, slots := 0, locals := 45 } : Room) s m ([.ref (q 46), .ref (q 79), .ref (q 15)] : List Value).toArray below meth c H locs 0 0 (MQ below (va_Qv (fun u => xInv F u) (zB D vwCl 81 q (zXd q cA) sz) (zA 81 q sz)) ([.ref (q 46), .ref (q 79), .ref (q 15)] : List Value).toArray s 0 0 (zA 81 q sz)) (F0 m 84 ls [.int (x_211)]) := by
          intro x_211 hx_211 H locs hP hD hS ls hl
          refine lv_istore (lv' := [(7, .int (x_211)), (0, .ref (q 46)), (1, .ref (q 79)), (2, .ref (q 15)), (3, .int (x_191)), (4, .int (x_192)), (5, .int (r_204)), (6, .int (v_207))]) hx hb dX1_compare_84 hl (by decide) rfl (fun ls hl => ?_)
          refine lv_iload hx hb dX1_compare_86 (lv_at hl 0 rfl) ?_
          have t_218 : ∀ x_217 : Int32, zR 0 16777215 x_217 → ∀ (H : Heap) (locs : List Loc), va_P D vwCl (zw 81 q (zXd q cA) I_193 R J) H → va_D (zA 81 q sz) (zw 81 q (zXd q cA) I_193 R J) → va_S (zA 81 q sz) s.heap H locs → ∀ ls : Array Slot, lv_has ls 9 [(0, .ref (q 46)), (1, .ref (q 79)), (2, .ref (q 15)), (3, .int (x_191)), (4, .int (x_192)), (5, .int (r_204)), (6, .int (v_207)), (7, .int (x_211))] → W p l e ({ frames := 2, cells := 0, slots := 0, locals := 45 } : Room) s m ([.ref (q 46), .ref (q 79), .ref (q 15)] : List Value).toArray below meth c H locs 0 0 (MQ below (va_Qv (fun u => xInv F u) (zB D vwCl 81 q (zXd q cA) sz) (zA 81 q sz)) ([.ref (q 46), .ref (q 79), .ref (q 15)] : List Value).toArray s 0 0 (zA 81 q sz)) (F0 m 99 ls [.int (x_217)]) := by
            intro x_217 hx_217 H locs hP hD hS ls hl
            refine lv_istore (lv' := [(8, .int (x_217)), (0, .ref (q 46)), (1, .ref (q 79)), (2, .ref (q 15)), (3, .int (x_191)), (4, .int (x_192)), (5, .int (r_204)), (6, .int (v_207)), (7, .int (x_211))]) hx hb dX1_compare_99 hl (by decide) rfl (fun ls hl => ?_)
            refine lv_iload hx hb dX1_compare_101 (lv_at hl 0 rfl) ?_
            have t_245 : ∀ x_242 : Int32, zR 0 16777215 x_242 → ∀ I_243 : Nat → Nat → Int32, xInv F (I_243, R, J) → zR 4 60 (I_243 79 1) → ∀ (H : Heap) (locs : List Loc), va_P D vwCl (zw 81 q (zXd q cA) I_243 R J) H → va_D (zA 81 q sz) (zw 81 q (zXd q cA) I_243 R J) → va_S (zA 81 q sz) s.heap H locs → ∀ ls : Array Slot, lv_has ls 9 [(0, .ref (q 46)), (1, .ref (q 79)), (2, .ref (q 15)), (3, .int (x_242)), (4, .int (x_192)), (5, .int (r_204)), (6, .int (v_207)), (7, .int (x_211)), (8, .int (x_217))] → W p l e ({ frames := 2, cells := 0, slots := 0, locals := 45 } : Room) s m ([.ref (q 46), .ref (q 79), .ref (q 15)] : List Value).toArray below meth c H locs 0 0 (MQ below (va_Qv (fun u => xInv F u) (zB D vwCl 81 q (zXd q cA) sz) (zA 81 q sz)) ([.ref (q 46), .ref (q 79), .ref (q 15)] : List Value).toArray s 0 0 (zA 81 q sz)) (F0 m 176 ls []) := by
              intro x_242 hx_242 I_243 hI_243 g_244 H locs hP hD hS ls hl
              obtain ⟨v_246, ev_246⟩ : ∃ y : Int32, y = x_192 + nI 4 := ⟨_, rfl⟩
              have hv_246 : zR 4 60 v_246 := ev_246 ▸ zR_add f_202 zk_4 (by decide)
              have mv_246 : v_246.toInt = (x_192).toInt + 4 := by rw [ev_246, zR_addE f_202 zk_4 (by decide)]; rfl
              refine lv_iinc (v := v_246) (lv' := [(4, .int (v_246)), (0, .ref (q 46)), (1, .ref (q 79)), (2, .ref (q 15)), (3, .int (x_242)), (5, .int (r_204)), (6, .int (v_207)), (7, .int (x_211)), (8, .int (x_217))]) hx hb dX1_compare_176 hl (k := 4) rfl (ev_246 ▸ rfl) (by decide) rfl (fun ls hl => ?_)
              refine lv_goto (tgt := 23) hx hb dX1_compare_179 (by decide) ?_
              exact ih_197 (x_242) hx_242 (v_246) (zR_w hv_246 (by decide)) _ hI_243 (xFour_s hx_194 mv_246) (z2_up mv_246 (by decide) hN_196) _ _ hP hD hS _ (lv_sub hl [1, 2, 3, 4, 0] rfl)
            refine lv_if_eq (tgt := 120) hx hb dX1_compare_103 (by decide) (fun c_219 => ?_) (fun c_219 => ?_)
            · have t_c_219 := z_eqT c_219
              have f_247 : zR 0 0 (x_217) := zR_eqx t_c_219 zk_z
              refine lv_aload_n hx hb dX1_compare_120 rfl (lv_at hl 1 rfl) ?_
              refine lv_aload_n hx hb dX1_compare_121 rfl (lv_at hl 1 rfl) ?_
              refine z_get hx hb ht hown hK hP ziX1 rfl 46 (by decide) 0 (by decide) hw_2_34 rfl (v := .int (I_193 46 0)) rfl dX1_compare_122 ?_
              have t_252 : ∀ x_251 : Int32, ∀ (H : Heap) (locs : List Loc), va_P D vwCl (zw 81 q (zXd q cA) I_193 R J) H → va_D (zA 81 q sz) (zw 81 q (zXd q cA) I_193 R J) → va_S (zA 81 q sz) s.heap H locs → ∀ ls : Array Slot, lv_has ls 9 [(0, .ref (q 46)), (1, .ref (q 79)), (2, .ref (q 15)), (3, .int (x_191)), (4, .int (x_192)), (5, .int (r_204)), (6, .int (v_207)), (7, .int (x_211)), (8, .int (x_217))] → W p l e ({ frames := 2, cells := 0, slots := 0, locals := 45 } : Room) s m ([.ref (q 46), .ref (q 79), .ref (q 15)] : List Value).toArray below meth c H locs 0 0 (MQ below (va_Qv (fun u => xInv F u) (zB D vwCl 81 q (zXd q cA) sz) (zA 81 q sz)) ([.ref (q 46), .ref (q 79), .ref (q 15)] : List Value).toArray s 0 0 (zA 81 q sz)) (F0 m 139 ls [.int (x_251), .ref (q 46)]) := by
                intro x_251 H locs hP hD hS ls hl
                refine z_putI hx hb ht hown hK hP hD hS ziX1 tyX1 tyX1_ok nmX1 rfl 46 (by decide) 1 (by decide) hw_2_36 rfl (v := x_251) rfl rfl rfl (Nat.le_of_ble_eq_true rfl) rfl dX1_compare_139 (fun H locs hP hD hS => ?_)
                have hI_253 := xInv_I hI_193 46 1 (x_251) (zR_any (x_251)) rfl
                refine lv_aload_n hx hb dX1_compare_142 rfl (lv_at hl 0 rfl) ?_
                refine lv_dup hx hb dX1_compare_143 rfl ?_
                refine z_get hx hb ht hown hK hP ziX1 rfl 46 (by decide) 0 (by decide) hw_2_34 rfl (v := .int (I_193 46 0)) rfl dX1_compare_144 ?_
                refine lv_iconst (v := nI 1) hx hb dX1_compare_147 (by decide +kernel) ?_
                refine lv_iadd hx hb dX1_compare_148 ?_
                refine z_any (fun v_254 => ?_)
                refine z_putI hx hb ht hown hK hP hD hS ziX1 tyX1 tyX1_ok nmX1 rfl 46 (by decide) 0 (by decide) hw_2_34 rfl (v := v_254) rfl rfl rfl (Nat.le_of_ble_eq_true rfl) rfl dX1_compare_149 (fun H locs hP hD hS => ?_)
                have hI_255 := xInv_I hI_253 46 0 (v_254) (zR_any (v_254)) rfl
                refine lv_aload_n hx hb dX1_compare_152 rfl (lv_at hl 0 rfl) ?_
                refine lv_dup hx hb dX1_compare_153 rfl ?_
                refine z_get hx hb ht hown hK hP ziX1 rfl 46 (by decide) 2 (by decide) hw_2_38 rfl (v := .int (I_193 46 2)) rfl dX1_compare_154 ?_
                refine lv_iload hx hb dX1_compare_157 (lv_at hl 7 rfl) ?_
                have t_263 : ∀ x_262 : Int32, zR 0 1 x_262 → ∀ (H : Heap) (locs : List Loc), va_P D vwCl (zw 81 q (zXd q cA) (zp (zp I_193 46 1 (x_251)) 46 0 (v_254)) R J) H → va_D (zA 81 q sz) (zw 81 q (zXd q cA) (zp (zp I_193 46 1 (x_251)) 46 0 (v_254)) R J) → va_S (zA 81 q sz) s.heap H locs → ∀ ls : Array Slot, lv_has ls 9 [(0, .ref (q 46)), (1, .ref (q 79)), (2, .ref (q 15)), (3, .int (x_191)), (4, .int (x_192)), (5, .int (r_204)), (6, .int (v_207)), (7, .int (x_211)), (8, .int (x_217))] → W p l e ({ frames := 2, cells := 0, slots := 0, locals := 45 } : Room) s m ([.ref (q 46), .ref (q 79), .ref (q 15)] : List Value).toArray below meth c H locs 0 0 (MQ below (va_Qv (fun u => xInv F u) (zB D vwCl 81 q (zXd q cA) sz) (zA 81 q sz)) ([.ref (q 46), .ref (q 79), .ref (q 15)] : List Value).toArray s 0 0 (zA 81 q sz)) (F0 m 172 ls [.int (x_262), .int (I_193 46 2), .ref (q 46)]) := by
                  intro x_262 hx_262 H locs hP hD hS ls hl
                  refine lv_iadd hx hb dX1_compare_172 ?_
                  refine z_any (fun v_264 => ?_)
                  refine z_putI hx hb ht hown hK hP hD hS ziX1 tyX1 tyX1_ok nmX1 rfl 46 (by decide) 2 (by decide) hw_2_38 rfl (v := v_264) rfl rfl rfl (Nat.le_of_ble_eq_true rfl) rfl dX1_compare_173 (fun H locs hP hD hS => ?_)
                  have hI_265 := xInv_I hI_255 46 2 (v_264) (zR_any (v_264)) rfl
                  exact t_245 (x_191) hx_191 _ hI_265 f_203 _ _ hP hD hS _ (lv_sub hl [0, 1, 2, 3, 4, 5, 6, 7, 8] rfl)
                refine lv_if_ne (tgt := 171) hx hb dX1_compare_159 (by decide) (fun c_256 => ?_) (fun c_256 => ?_)
                · have t_c_256 := z_eqF c_256
                  have f_266 : zR 1 1 (x_211) := zR_nex t_c_256 hx_211 zk_z (by decide)
                  refine lv_iconst (v := nI 0) hx hb dX1_compare_171 (by decide +kernel) ?_
                  exact t_263 (nI 0) (zR_w zk_0 (by decide)) _ _ hP hD hS _ (lv_sub hl [0, 1, 2, 3, 4, 5, 6, 7, 8] rfl)
                · have t_c_256 := z_eqT c_256
                  have f_267 : zR 0 0 (x_211) := zR_eqx t_c_256 zk_z
                  refine lv_iload hx hb dX1_compare_162 (lv_at hl 5 rfl) ?_
                  refine lv_if_eq (tgt := 171) hx hb dX1_compare_164 (by decide) (fun c_268 => ?_) (fun c_268 => ?_)
                  · have t_c_268 := z_eqT c_268
                    have f_269 : zR 0 0 (r_204) := zR_eqx t_c_268 zk_z
                    refine lv_iconst (v := nI 0) hx hb dX1_compare_171 (by decide +kernel) ?_
                    exact t_263 (nI 0) (zR_w zk_0 (by decide)) _ _ hP hD hS _ (lv_sub hl [0, 1, 2, 3, 4, 5, 6, 7, 8] rfl)
                  · have t_c_268 := z_eqF c_268
                    have f_270 : zR 1 16777215 (r_204) := zR_nex t_c_268 hr_204 zk_z (by decide)
                    refine lv_iconst (v := nI 1) hx hb dX1_compare_167 (by decide +kernel) ?_
                    refine lv_goto (tgt := 172) hx hb dX1_compare_168 (by decide) ?_
                    exact t_263 (nI 1) (zR_w zk_1 (by decide)) _ _ hP hD hS _ (lv_sub hl [0, 1, 2, 3, 4, 5, 6, 7, 8] rfl)
              refine lv_if_ne (tgt := 135) hx hb dX1_compare_125 (by decide) (fun c_248 => ?_) (fun c_248 => ?_)
              · have t_c_248 := z_eqF c_248
                refine lv_aload_n hx hb dX1_compare_135 rfl (lv_at hl 1 rfl) ?_
                refine z_get hx hb ht hown hK hP ziX1 rfl 46 (by decide) 1 (by decide) hw_2_36 rfl (v := .int (I_193 46 1)) rfl dX1_compare_136 ?_
                exact t_252 (I_193 46 1) _ _ hP hD hS _ (lv_sub hl [1, 2, 3, 4, 5, 6, 7, 8, 0] rfl)
              · have t_c_248 := z_eqT c_248
                have f_271 : zR 0 0 (I_193 46 0) := zR_eqx t_c_248 zk_z
                refine lv_iload hx hb dX1_compare_128 (lv_at hl 5 rfl) ?_
                refine lv_iconst (v := nI 4) hx hb dX1_compare_130 (by decide +kernel) ?_
                refine lv_idiv hx hb dX1_compare_131 (by decide +kernel) ?_
                refine z_rng (a := 0) (b := 14) (zR_divc f_202 zk_4 (by decide)) (fun v_272 hv_272 => ?_)
                refine lv_goto (tgt := 139) hx hb dX1_compare_132 (by decide) ?_
                exact t_252 (v_272) _ _ hP hD hS _ (lv_sub hl [1, 2, 3, 4, 5, 6, 7, 8, 0] rfl)
            · have t_c_219 := z_eqF c_219
              have f_273 : zR 1 16777215 (x_217) := zR_nex t_c_219 hx_217 zk_z (by decide)
              refine lv_iload_n hx hb dX1_compare_106 rfl (lv_at hl 4 rfl) ?_
              refine lv_iload hx hb dX1_compare_107 (lv_at hl 0 rfl) ?_
              refine lv_iload hx hb dX1_compare_109 (lv_at hl 0 rfl) ?_
              refine lv_ineg hx hb dX1_compare_111 ?_
              refine z_any (fun v_274 => ?_)
              refine lv_iand hx hb dX1_compare_112 ?_
              refine z_rng (a := 0) (b := 16777215) (zR_andl f_273 (by decide)) (fun v_275 hv_275 => ?_)
              refine lv_iconst (v := (-1)) hx hb dX1_compare_113 (by decide +kernel) ?_
              refine lv_ixor hx hb dX1_compare_114 ?_
              refine z_any (fun v_276 => ?_)
              refine lv_iand hx hb dX1_compare_115 ?_
              refine z_rng (a := 0) (b := 16777215) (zR_andl hx_191 (by decide)) (fun v_277 hv_277 => ?_)
              refine lv_istore_n (lv' := [(3, .int (v_277)), (8, .int (x_217)), (0, .ref (q 46)), (1, .ref (q 79)), (2, .ref (q 15)), (4, .int (x_192)), (5, .int (r_204)), (6, .int (v_207)), (7, .int (x_211))]) hx hb dX1_compare_116 rfl hl (by decide) rfl (fun ls hl => ?_)
              refine lv_goto (tgt := 176) hx hb dX1_compare_117 (by decide) ?_
              exact t_245 (v_277) hv_277 _ hI_193 f_203 _ _ hP hD hS _ (lv_sub hl [2, 3, 4, 0, 5, 6, 7, 8, 1] rfl)
          refine lv_if_eq (tgt := 98) hx hb dX1_compare_88 (by decide) (fun c_213 => ?_) (fun c_213 => ?_)
          · have t_c_213 := z_eqT c_213
            have f_278 : zR 0 0 (x_211) := zR_eqx t_c_213 zk_z
            refine lv_iconst (v := nI 0) hx hb dX1_compare_98 (by decide +kernel) ?_
            exact t_218 (nI 0) (zR_w zk_0 (by decide)) _ _ hP hD hS _ (lv_sub hl [1, 2, 3, 4, 5, 6, 7, 0] rfl)
          · have t_c_213 := z_eqF c_213
            have f_279 : zR 1 1 (x_211) := zR_nex t_c_213 hx_211 zk_z (by decide)
            refine lv_iload hx hb dX1_compare_91 (lv_at hl 6 rfl) ?_
            refine lv_iload_n hx hb dX1_compare_93 rfl (lv_at hl 4 rfl) ?_
            refine lv_iand hx hb dX1_compare_94 ?_
            refine z_rng (a := 0) (b := 16777215) (zR_andr hx_191 (by decide)) (fun v_280 hv_280 => ?_)
            refine lv_goto (tgt := 99) hx hb dX1_compare_95 (by decide) ?_
            exact t_218 (v_280) hv_280 _ _ hP hD hS _ (lv_sub hl [1, 2, 3, 4, 5, 6, 7, 0] rfl)
        refine lv_if_ne (tgt := 83) hx hb dX1_compare_76 (by decide) (fun c_209 => ?_) (fun c_209 => ?_)
        · have t_c_209 := z_leqF (fun h => c_209 ((lg_cmp_eq _ _).mpr h))
          refine lv_iconst (v := nI 0) hx hb dX1_compare_83 (by decide +kernel) ?_
          exact t_212 (nI 0) (zR_w zk_0 (by decide)) _ _ hP hD hS _ (lv_sub hl [2, 3, 4, 5, 6, 1, 0] rfl)
        · have t_c_209 := z_leqT ((lg_cmp_eq _ _).mp c_209)
          have f_281 : zL (-2147483648) 2147483647 (J 80 (v_208).toNatClampNeg) := zL_eqx t_c_209 (zR_i2l (zR_any (R 6 (v_207).toNatClampNeg)))
          refine lv_iconst (v := nI 1) hx hb dX1_compare_79 (by decide +kernel) ?_
          refine lv_goto (tgt := 84) hx hb dX1_compare_80 (by decide) ?_
          exact t_212 (nI 1) (zR_w zk_1 (by decide)) _ _ hP hD hS _ (lv_sub hl [2, 3, 4, 5, 6, 1, 0] rfl)
  exact loop_195 _ (r_4) hr_4 (nI 0) (zR_w zk_0 (by decide)) _ hI_3 xFour_0 (Nat.lt_succ_self _) _ _ hP hD hS _ (lv_sub hl [2, 3, 4, 1, 0] rfl)
set_option maxHeartbeats 4000000 in
set_option maxRecDepth 100000 in
theorem xk_X10_look (l : Launch) (D : va_G) (q : Nat → Nat) (cA : Nat → ClassId) (F : Nat → Nat → Int32) (I R : Nat → Nat → Int32) (J : Nat → Nat → Int64) (hI : xInv F (I, R, J)) (pa0 : Int32) : zMi l D vwCl (zXtys cA) 81 q (zXd q cA) yX10_look cX10_look 3 (some .int) ({ frames := 3, cells := 0, slots := 0, locals := 73 } : Room) [.ref (q 0), .int (pa0)] (I, R, J) (fun r u => zR (-6) 0 r ∧ xInv F u) := by
  intro sz
  refine z_body (by decide +kernel) (Nat.le_of_ble_eq_true rfl) (fun p e s m below meth c ls hx hb hml hr ht hown hlocks hsz hK hP hD hS hl => ?_)
  have hA : ∀ a, s.heap.size ≤ a → zA 81 q sz a := fun a h => Or.inr (hsz ▸ h)
  have hl : lv_has ls 3 [(0, .ref (q 0)), (1, .int (pa0))] := hl
  refine lv_iload_n hx hb dX10_look_0 rfl (lv_at hl 1 rfl) ?_
  refine z_callSi (As := [.int (pa0)]) (rest := []) hx hb hml hown ht (xk_X10_isSlot l D q cA F _ _ _ hI (pa0)) hw_5_60 hmX10_isSlot ⟨rfl, rfl⟩ (na := 1) rfl (by decide +kernel) (by decide) hK hP hD hS hA hl.1 rfl (Nat.le_of_ble_eq_true rfl) ⟨Nat.zero_le _, Nat.zero_le _⟩ dX10_look_1 (fun r_1 I_1 R_1 J_1 H locs hp_1 hP hD hS _ _ => ?_)
  rcases hp_1 with ⟨rfl, hu_1, f0_1⟩ | ⟨rfl, hu_1, nn_1⟩
  · cases hu_1
    refine lv_if_eq (tgt := 14) hx hb dX10_look_4 (by decide) (fun c_0 => absurd c_0 (zD_ne zk_1 zk_z (by decide))) (fun _ => ?_)
    refine lv_aload_n hx hb dX10_look_7 rfl (lv_at hl 0 rfl) ?_
    refine z_callVi (k := 0) (As := []) (rest := []) hx hb hml hown ht (xk_X10_hasCity l D q cA F _ _ _ hI ) hw_4_0 hmX10_hasCity ⟨rfl, rfl⟩ (na := 0) rfl (by decide +kernel) (by decide) (by decide) rfl rfl hK hP hD hS hA hl.1 rfl (Nat.le_of_ble_eq_true rfl) ⟨Nat.zero_le _, Nat.zero_le _⟩ dX10_look_8 (fun r_2 I_2 R_2 J_2 H locs hp_2 hP hD hS _ _ => ?_)
    rcases hp_2 with ⟨rfl, hu_2⟩ | ⟨rfl, hu_2⟩
    · cases hu_2
      refine lv_if_ne (tgt := 17) hx hb dX10_look_11 (by decide) (fun _ => ?_) (fun c_0 => absurd c_0 (zD_ne zk_1 zk_z (by decide)))
      refine lv_aload_n hx hb dX10_look_17 rfl (lv_at hl 0 rfl) ?_
      refine z_get hx hb ht hown hK hP ziX10 rfl 0 (by decide) 11 (by decide) hw_2_104 rfl (v := .ref (q 72)) rfl dX10_look_18 ?_
      refine lv_iload_n hx hb dX10_look_21 rfl (lv_at hl 1 rfl) ?_
      obtain ⟨n_3, hn_3, rfl⟩ := z_ex (x := pa0) (N := 4) (zR_w f0_1 (a' := 0) (b' := 3) (by decide)).1 (Int.lt_of_le_of_lt (zR_w f0_1 (a' := 0) (b' := 3) (by decide)).2 (by decide))
      rcases (show n_3 = 0 ∨ n_3 = 1 ∨ n_3 = 2 ∨ n_3 = 3 by omega) with rfl | rfl | rfl | rfl
      · refine va_aldq hx hb hK hP 72 52 (zw_at (by decide) rfl) rfl (vp_in_nI (by decide) (by decide)) dX10_look_22 ?_
        refine W.eq (g2 := F0 m 23 ls (.ref (q 73) :: [])) rfl ?_
        refine lv_astore_n (lv' := [(2, .ref (q 73)), (0, .ref (q 0)), (1, .int (nI 0))]) hx hb dX10_look_23 rfl hl (by decide) rfl (fun ls hl => ?_)
        refine lv_aload_n hx hb dX10_look_24 rfl (lv_at hl 0 rfl) ?_
        refine z_callVi (k := 73) (As := []) (rest := []) hx hb hml hown ht (xk_X6_isThere l D q cA F _ _ _ hI ) hw_5_63 hmX6_isThere ⟨rfl, rfl⟩ (na := 0) rfl (by decide +kernel) (by decide) (by decide) rfl rfl hK hP hD hS hA hl.1 rfl (Nat.le_of_ble_eq_true rfl) ⟨Nat.zero_le _, Nat.zero_le _⟩ dX10_look_25 (fun r_4 I_4 R_4 J_4 H locs hp_4 hP hD hS _ _ => ?_)
        rcases hp_4 with ⟨rfl, hu_4, nn_4⟩ | ⟨rfl, hu_4, nn_4⟩
        · cases hu_4
          have f_5 : zR 0 60 (I 73 1) := x_there (xI hI 73 1) nn_4
          refine lv_if_ne (tgt := 34) hx hb dX10_look_28 (by decide) (fun _ => ?_) (fun c_0 => absurd c_0 (zD_ne zk_1 zk_z (by decide)))
          refine lv_aload_n hx hb dX10_look_34 rfl (lv_at hl 1 rfl) ?_
          refine z_get hx hb ht hown hK hP ziX10 rfl 0 (by decide) 9 (by decide) hw_2_102 rfl (v := .ref (q 46)) rfl dX10_look_35 ?_
          refine lv_aload_n hx hb dX10_look_38 rfl (lv_at hl 0 rfl) ?_
          refine lv_aload_n hx hb dX10_look_39 rfl (lv_at hl 1 rfl) ?_
          refine z_get hx hb ht hown hK hP ziX10 rfl 0 (by decide) 1 (by decide) hw_2_94 rfl (v := .ref (q 3)) rfl dX10_look_40 ?_
          refine z_callVi (k := 46) (As := [.ref (q 73), .ref (q 3)]) (rest := []) hx hb hml hown ht (xk_X1_isSound l D q cA F _ _ _ hI ) hw_5_67 hmX1_isSound ⟨rfl, rfl⟩ (na := 2) rfl (by decide +kernel) (by decide) (by decide) rfl rfl hK hP hD hS hA hl.1 rfl (Nat.le_of_ble_eq_true rfl) ⟨Nat.zero_le _, Nat.zero_le _⟩ dX10_look_43 (fun r_6 I_6 R_6 J_6 H locs hp_6 hP hD hS _ _ => ?_)
          rcases hp_6 with ⟨rfl, hu_6, nn_6⟩ | ⟨rfl, hu_6, nn_6⟩
          · cases hu_6
            refine lv_if_ne (tgt := 52) hx hb dX10_look_46 (by decide) (fun _ => ?_) (fun c_0 => absurd c_0 (zD_ne zk_1 zk_z (by decide)))
            refine lv_aload_n hx hb dX10_look_52 rfl (lv_at hl 1 rfl) ?_
            refine z_get hx hb ht hown hK hP ziX10 rfl 0 (by decide) 9 (by decide) hw_2_102 rfl (v := .ref (q 46)) rfl dX10_look_53 ?_
            refine lv_aload_n hx hb dX10_look_56 rfl (lv_at hl 0 rfl) ?_
            refine lv_aload_n hx hb dX10_look_57 rfl (lv_at hl 1 rfl) ?_
            refine z_get hx hb ht hown hK hP ziX10 rfl 0 (by decide) 4 (by decide) hw_2_97 rfl (v := .ref (q 15)) rfl dX10_look_58 ?_
            refine z_callVv (k := 46) (As := [.ref (q 73), .ref (q 15)]) (rest := []) hx hb hml hown ht (xk_X1_compare l D q cA F _ _ _ hI nn_6) hw_5_74 hmX1_compare ⟨rfl, rfl⟩ (na := 2) rfl (by decide +kernel) (by decide) (by decide) rfl rfl hK hP hD hS hA hl.1 rfl (Nat.le_of_ble_eq_true rfl) ⟨Nat.zero_le _, Nat.zero_le _⟩ dX10_look_61 (fun I_7 R_7 J_7 H locs hp_7 hP hD hS _ _ => ?_)
            refine lv_iconst (v := nI 0) hx hb dX10_look_64 (by decide +kernel) ?_
            exact z_iret (v := nI 0) hx hb hr hlocks hP hD hS dX10_look_65 ⟨(zR_w zk_0 (by decide)), hp_7⟩
          · cases hu_6
            refine lv_if_ne (tgt := 52) hx hb dX10_look_46 (by decide) (fun c_0 => absurd (zD_eq zk_0 zk_z) c_0) (fun _ => ?_)
            refine lv_bipush (v := (-2)) hx hb dX10_look_49 (by decide +kernel) ?_
            exact z_iret (v := (-2)) hx hb hr hlocks hP hD hS dX10_look_51 ⟨(zR_w zk_m2 (by decide)), hI⟩
        · cases hu_4
          refine lv_if_ne (tgt := 34) hx hb dX10_look_28 (by decide) (fun c_0 => absurd (zD_eq zk_0 zk_z) c_0) (fun _ => ?_)
          refine lv_bipush (v := (-6)) hx hb dX10_look_31 (by decide +kernel) ?_
          exact z_iret (v := (-6)) hx hb hr hlocks hP hD hS dX10_look_33 ⟨(zR_w zk_m6 (by decide)), hI⟩
      · refine va_aldq hx hb hK hP 72 52 (zw_at (by decide) rfl) rfl (vp_in_nI (by decide) (by decide)) dX10_look_22 ?_
        refine W.eq (g2 := F0 m 23 ls (.ref (q 75) :: [])) rfl ?_
        refine lv_astore_n (lv' := [(2, .ref (q 75)), (0, .ref (q 0)), (1, .int (nI 1))]) hx hb dX10_look_23 rfl hl (by decide) rfl (fun ls hl => ?_)
        refine lv_aload_n hx hb dX10_look_24 rfl (lv_at hl 0 rfl) ?_
        refine z_callVi (k := 75) (As := []) (rest := []) hx hb hml hown ht (xk_X6_isThere_1 l D q cA F _ _ _ hI ) hw_5_63 hmX6_isThere ⟨rfl, rfl⟩ (na := 0) rfl (by decide +kernel) (by decide) (by decide) rfl rfl hK hP hD hS hA hl.1 rfl (Nat.le_of_ble_eq_true rfl) ⟨Nat.zero_le _, Nat.zero_le _⟩ dX10_look_25 (fun r_8 I_8 R_8 J_8 H locs hp_8 hP hD hS _ _ => ?_)
        rcases hp_8 with ⟨rfl, hu_8, nn_8⟩ | ⟨rfl, hu_8, nn_8⟩
        · cases hu_8
          have f_9 : zR 0 60 (I 75 1) := x_there (xI hI 75 1) nn_8
          refine lv_if_ne (tgt := 34) hx hb dX10_look_28 (by decide) (fun _ => ?_) (fun c_0 => absurd c_0 (zD_ne zk_1 zk_z (by decide)))
          refine lv_aload_n hx hb dX10_look_34 rfl (lv_at hl 1 rfl) ?_
          refine z_get hx hb ht hown hK hP ziX10 rfl 0 (by decide) 9 (by decide) hw_2_102 rfl (v := .ref (q 46)) rfl dX10_look_35 ?_
          refine lv_aload_n hx hb dX10_look_38 rfl (lv_at hl 0 rfl) ?_
          refine lv_aload_n hx hb dX10_look_39 rfl (lv_at hl 1 rfl) ?_
          refine z_get hx hb ht hown hK hP ziX10 rfl 0 (by decide) 1 (by decide) hw_2_94 rfl (v := .ref (q 3)) rfl dX10_look_40 ?_
          refine z_callVi (k := 46) (As := [.ref (q 75), .ref (q 3)]) (rest := []) hx hb hml hown ht (xk_X1_isSound_1 l D q cA F _ _ _ hI ) hw_5_67 hmX1_isSound ⟨rfl, rfl⟩ (na := 2) rfl (by decide +kernel) (by decide) (by decide) rfl rfl hK hP hD hS hA hl.1 rfl (Nat.le_of_ble_eq_true rfl) ⟨Nat.zero_le _, Nat.zero_le _⟩ dX10_look_43 (fun r_10 I_10 R_10 J_10 H locs hp_10 hP hD hS _ _ => ?_)
          rcases hp_10 with ⟨rfl, hu_10, nn_10⟩ | ⟨rfl, hu_10, nn_10⟩
          · cases hu_10
            refine lv_if_ne (tgt := 52) hx hb dX10_look_46 (by decide) (fun _ => ?_) (fun c_0 => absurd c_0 (zD_ne zk_1 zk_z (by decide)))
            refine lv_aload_n hx hb dX10_look_52 rfl (lv_at hl 1 rfl) ?_
            refine z_get hx hb ht hown hK hP ziX10 rfl 0 (by decide) 9 (by decide) hw_2_102 rfl (v := .ref (q 46)) rfl dX10_look_53 ?_
            refine lv_aload_n hx hb dX10_look_56 rfl (lv_at hl 0 rfl) ?_
            refine lv_aload_n hx hb dX10_look_57 rfl (lv_at hl 1 rfl) ?_
            refine z_get hx hb ht hown hK hP ziX10 rfl 0 (by decide) 4 (by decide) hw_2_97 rfl (v := .ref (q 15)) rfl dX10_look_58 ?_
            refine z_callVv (k := 46) (As := [.ref (q 75), .ref (q 15)]) (rest := []) hx hb hml hown ht (xk_X1_compare_1 l D q cA F _ _ _ hI nn_10) hw_5_74 hmX1_compare ⟨rfl, rfl⟩ (na := 2) rfl (by decide +kernel) (by decide) (by decide) rfl rfl hK hP hD hS hA hl.1 rfl (Nat.le_of_ble_eq_true rfl) ⟨Nat.zero_le _, Nat.zero_le _⟩ dX10_look_61 (fun I_11 R_11 J_11 H locs hp_11 hP hD hS _ _ => ?_)
            refine lv_iconst (v := nI 0) hx hb dX10_look_64 (by decide +kernel) ?_
            exact z_iret (v := nI 0) hx hb hr hlocks hP hD hS dX10_look_65 ⟨(zR_w zk_0 (by decide)), hp_11⟩
          · cases hu_10
            refine lv_if_ne (tgt := 52) hx hb dX10_look_46 (by decide) (fun c_0 => absurd (zD_eq zk_0 zk_z) c_0) (fun _ => ?_)
            refine lv_bipush (v := (-2)) hx hb dX10_look_49 (by decide +kernel) ?_
            exact z_iret (v := (-2)) hx hb hr hlocks hP hD hS dX10_look_51 ⟨(zR_w zk_m2 (by decide)), hI⟩
        · cases hu_8
          refine lv_if_ne (tgt := 34) hx hb dX10_look_28 (by decide) (fun c_0 => absurd (zD_eq zk_0 zk_z) c_0) (fun _ => ?_)
          refine lv_bipush (v := (-6)) hx hb dX10_look_31 (by decide +kernel) ?_
          exact z_iret (v := (-6)) hx hb hr hlocks hP hD hS dX10_look_33 ⟨(zR_w zk_m6 (by decide)), hI⟩
      · refine va_aldq hx hb hK hP 72 52 (zw_at (by decide) rfl) rfl (vp_in_nI (by decide) (by decide)) dX10_look_22 ?_
        refine W.eq (g2 := F0 m 23 ls (.ref (q 77) :: [])) rfl ?_
        refine lv_astore_n (lv' := [(2, .ref (q 77)), (0, .ref (q 0)), (1, .int (nI 2))]) hx hb dX10_look_23 rfl hl (by decide) rfl (fun ls hl => ?_)
        refine lv_aload_n hx hb dX10_look_24 rfl (lv_at hl 0 rfl) ?_
        refine z_callVi (k := 77) (As := []) (rest := []) hx hb hml hown ht (xk_X6_isThere_2 l D q cA F _ _ _ hI ) hw_5_63 hmX6_isThere ⟨rfl, rfl⟩ (na := 0) rfl (by decide +kernel) (by decide) (by decide) rfl rfl hK hP hD hS hA hl.1 rfl (Nat.le_of_ble_eq_true rfl) ⟨Nat.zero_le _, Nat.zero_le _⟩ dX10_look_25 (fun r_12 I_12 R_12 J_12 H locs hp_12 hP hD hS _ _ => ?_)
        rcases hp_12 with ⟨rfl, hu_12, nn_12⟩ | ⟨rfl, hu_12, nn_12⟩
        · cases hu_12
          have f_13 : zR 0 60 (I 77 1) := x_there (xI hI 77 1) nn_12
          refine lv_if_ne (tgt := 34) hx hb dX10_look_28 (by decide) (fun _ => ?_) (fun c_0 => absurd c_0 (zD_ne zk_1 zk_z (by decide)))
          refine lv_aload_n hx hb dX10_look_34 rfl (lv_at hl 1 rfl) ?_
          refine z_get hx hb ht hown hK hP ziX10 rfl 0 (by decide) 9 (by decide) hw_2_102 rfl (v := .ref (q 46)) rfl dX10_look_35 ?_
          refine lv_aload_n hx hb dX10_look_38 rfl (lv_at hl 0 rfl) ?_
          refine lv_aload_n hx hb dX10_look_39 rfl (lv_at hl 1 rfl) ?_
          refine z_get hx hb ht hown hK hP ziX10 rfl 0 (by decide) 1 (by decide) hw_2_94 rfl (v := .ref (q 3)) rfl dX10_look_40 ?_
          refine z_callVi (k := 46) (As := [.ref (q 77), .ref (q 3)]) (rest := []) hx hb hml hown ht (xk_X1_isSound_2 l D q cA F _ _ _ hI ) hw_5_67 hmX1_isSound ⟨rfl, rfl⟩ (na := 2) rfl (by decide +kernel) (by decide) (by decide) rfl rfl hK hP hD hS hA hl.1 rfl (Nat.le_of_ble_eq_true rfl) ⟨Nat.zero_le _, Nat.zero_le _⟩ dX10_look_43 (fun r_14 I_14 R_14 J_14 H locs hp_14 hP hD hS _ _ => ?_)
          rcases hp_14 with ⟨rfl, hu_14, nn_14⟩ | ⟨rfl, hu_14, nn_14⟩
          · cases hu_14
            refine lv_if_ne (tgt := 52) hx hb dX10_look_46 (by decide) (fun _ => ?_) (fun c_0 => absurd c_0 (zD_ne zk_1 zk_z (by decide)))
            refine lv_aload_n hx hb dX10_look_52 rfl (lv_at hl 1 rfl) ?_
            refine z_get hx hb ht hown hK hP ziX10 rfl 0 (by decide) 9 (by decide) hw_2_102 rfl (v := .ref (q 46)) rfl dX10_look_53 ?_
            refine lv_aload_n hx hb dX10_look_56 rfl (lv_at hl 0 rfl) ?_
            refine lv_aload_n hx hb dX10_look_57 rfl (lv_at hl 1 rfl) ?_
            refine z_get hx hb ht hown hK hP ziX10 rfl 0 (by decide) 4 (by decide) hw_2_97 rfl (v := .ref (q 15)) rfl dX10_look_58 ?_
            refine z_callVv (k := 46) (As := [.ref (q 77), .ref (q 15)]) (rest := []) hx hb hml hown ht (xk_X1_compare_2 l D q cA F _ _ _ hI nn_14) hw_5_74 hmX1_compare ⟨rfl, rfl⟩ (na := 2) rfl (by decide +kernel) (by decide) (by decide) rfl rfl hK hP hD hS hA hl.1 rfl (Nat.le_of_ble_eq_true rfl) ⟨Nat.zero_le _, Nat.zero_le _⟩ dX10_look_61 (fun I_15 R_15 J_15 H locs hp_15 hP hD hS _ _ => ?_)
            refine lv_iconst (v := nI 0) hx hb dX10_look_64 (by decide +kernel) ?_
            exact z_iret (v := nI 0) hx hb hr hlocks hP hD hS dX10_look_65 ⟨(zR_w zk_0 (by decide)), hp_15⟩
          · cases hu_14
            refine lv_if_ne (tgt := 52) hx hb dX10_look_46 (by decide) (fun c_0 => absurd (zD_eq zk_0 zk_z) c_0) (fun _ => ?_)
            refine lv_bipush (v := (-2)) hx hb dX10_look_49 (by decide +kernel) ?_
            exact z_iret (v := (-2)) hx hb hr hlocks hP hD hS dX10_look_51 ⟨(zR_w zk_m2 (by decide)), hI⟩
        · cases hu_12
          refine lv_if_ne (tgt := 34) hx hb dX10_look_28 (by decide) (fun c_0 => absurd (zD_eq zk_0 zk_z) c_0) (fun _ => ?_)
          refine lv_bipush (v := (-6)) hx hb dX10_look_31 (by decide +kernel) ?_
          exact z_iret (v := (-6)) hx hb hr hlocks hP hD hS dX10_look_33 ⟨(zR_w zk_m6 (by decide)), hI⟩
      · refine va_aldq hx hb hK hP 72 52 (zw_at (by decide) rfl) rfl (vp_in_nI (by decide) (by decide)) dX10_look_22 ?_
        refine W.eq (g2 := F0 m 23 ls (.ref (q 79) :: [])) rfl ?_
        refine lv_astore_n (lv' := [(2, .ref (q 79)), (0, .ref (q 0)), (1, .int (nI 3))]) hx hb dX10_look_23 rfl hl (by decide) rfl (fun ls hl => ?_)
        refine lv_aload_n hx hb dX10_look_24 rfl (lv_at hl 0 rfl) ?_
        refine z_callVi (k := 79) (As := []) (rest := []) hx hb hml hown ht (xk_X6_isThere_3 l D q cA F _ _ _ hI ) hw_5_63 hmX6_isThere ⟨rfl, rfl⟩ (na := 0) rfl (by decide +kernel) (by decide) (by decide) rfl rfl hK hP hD hS hA hl.1 rfl (Nat.le_of_ble_eq_true rfl) ⟨Nat.zero_le _, Nat.zero_le _⟩ dX10_look_25 (fun r_16 I_16 R_16 J_16 H locs hp_16 hP hD hS _ _ => ?_)
        rcases hp_16 with ⟨rfl, hu_16, nn_16⟩ | ⟨rfl, hu_16, nn_16⟩
        · cases hu_16
          have f_17 : zR 0 60 (I 79 1) := x_there (xI hI 79 1) nn_16
          refine lv_if_ne (tgt := 34) hx hb dX10_look_28 (by decide) (fun _ => ?_) (fun c_0 => absurd c_0 (zD_ne zk_1 zk_z (by decide)))
          refine lv_aload_n hx hb dX10_look_34 rfl (lv_at hl 1 rfl) ?_
          refine z_get hx hb ht hown hK hP ziX10 rfl 0 (by decide) 9 (by decide) hw_2_102 rfl (v := .ref (q 46)) rfl dX10_look_35 ?_
          refine lv_aload_n hx hb dX10_look_38 rfl (lv_at hl 0 rfl) ?_
          refine lv_aload_n hx hb dX10_look_39 rfl (lv_at hl 1 rfl) ?_
          refine z_get hx hb ht hown hK hP ziX10 rfl 0 (by decide) 1 (by decide) hw_2_94 rfl (v := .ref (q 3)) rfl dX10_look_40 ?_
          refine z_callVi (k := 46) (As := [.ref (q 79), .ref (q 3)]) (rest := []) hx hb hml hown ht (xk_X1_isSound_3 l D q cA F _ _ _ hI ) hw_5_67 hmX1_isSound ⟨rfl, rfl⟩ (na := 2) rfl (by decide +kernel) (by decide) (by decide) rfl rfl hK hP hD hS hA hl.1 rfl (Nat.le_of_ble_eq_true rfl) ⟨Nat.zero_le _, Nat.zero_le _⟩ dX10_look_43 (fun r_18 I_18 R_18 J_18 H locs hp_18 hP hD hS _ _ => ?_)
          rcases hp_18 with ⟨rfl, hu_18, nn_18⟩ | ⟨rfl, hu_18, nn_18⟩
          · cases hu_18
            refine lv_if_ne (tgt := 52) hx hb dX10_look_46 (by decide) (fun _ => ?_) (fun c_0 => absurd c_0 (zD_ne zk_1 zk_z (by decide)))
            refine lv_aload_n hx hb dX10_look_52 rfl (lv_at hl 1 rfl) ?_
            refine z_get hx hb ht hown hK hP ziX10 rfl 0 (by decide) 9 (by decide) hw_2_102 rfl (v := .ref (q 46)) rfl dX10_look_53 ?_
            refine lv_aload_n hx hb dX10_look_56 rfl (lv_at hl 0 rfl) ?_
            refine lv_aload_n hx hb dX10_look_57 rfl (lv_at hl 1 rfl) ?_
            refine z_get hx hb ht hown hK hP ziX10 rfl 0 (by decide) 4 (by decide) hw_2_97 rfl (v := .ref (q 15)) rfl dX10_look_58 ?_
            refine z_callVv (k := 46) (As := [.ref (q 79), .ref (q 15)]) (rest := []) hx hb hml hown ht (xk_X1_compare_3 l D q cA F _ _ _ hI nn_18) hw_5_74 hmX1_compare ⟨rfl, rfl⟩ (na := 2) rfl (by decide +kernel) (by decide) (by decide) rfl rfl hK hP hD hS hA hl.1 rfl (Nat.le_of_ble_eq_true rfl) ⟨Nat.zero_le _, Nat.zero_le _⟩ dX10_look_61 (fun I_19 R_19 J_19 H locs hp_19 hP hD hS _ _ => ?_)
            refine lv_iconst (v := nI 0) hx hb dX10_look_64 (by decide +kernel) ?_
            exact z_iret (v := nI 0) hx hb hr hlocks hP hD hS dX10_look_65 ⟨(zR_w zk_0 (by decide)), hp_19⟩
          · cases hu_18
            refine lv_if_ne (tgt := 52) hx hb dX10_look_46 (by decide) (fun c_0 => absurd (zD_eq zk_0 zk_z) c_0) (fun _ => ?_)
            refine lv_bipush (v := (-2)) hx hb dX10_look_49 (by decide +kernel) ?_
            exact z_iret (v := (-2)) hx hb hr hlocks hP hD hS dX10_look_51 ⟨(zR_w zk_m2 (by decide)), hI⟩
        · cases hu_16
          refine lv_if_ne (tgt := 34) hx hb dX10_look_28 (by decide) (fun c_0 => absurd (zD_eq zk_0 zk_z) c_0) (fun _ => ?_)
          refine lv_bipush (v := (-6)) hx hb dX10_look_31 (by decide +kernel) ?_
          exact z_iret (v := (-6)) hx hb hr hlocks hP hD hS dX10_look_33 ⟨(zR_w zk_m6 (by decide)), hI⟩
    · cases hu_2
      refine lv_if_ne (tgt := 17) hx hb dX10_look_11 (by decide) (fun c_0 => absurd (zD_eq zk_0 zk_z) c_0) (fun _ => ?_)
      refine lv_bipush (v := (-2)) hx hb dX10_look_14 (by decide +kernel) ?_
      exact z_iret (v := (-2)) hx hb hr hlocks hP hD hS dX10_look_16 ⟨(zR_w zk_m2 (by decide)), hI⟩
  · cases hu_1
    refine lv_if_eq (tgt := 14) hx hb dX10_look_4 (by decide) (fun _ => ?_) (fun c_0 => absurd (zD_eq zk_0 zk_z) c_0)
    refine lv_bipush (v := (-2)) hx hb dX10_look_14 (by decide +kernel) ?_
    exact z_iret (v := (-2)) hx hb hr hlocks hP hD hS dX10_look_16 ⟨(zR_w zk_m2 (by decide)), hI⟩
