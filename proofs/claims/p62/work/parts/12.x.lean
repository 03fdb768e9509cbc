set_option maxHeartbeats 4000000 in
set_option maxRecDepth 100000 in
theorem xk_X9_openPapers (l : Launch) (D : va_G) (q : Nat → Nat) (cA : Nat → ClassId) (F : Nat → Nat → Int32) (I R : Nat → Nat → Int32) (J : Nat → Nat → Int64) (hI : xInv F (I, R, J))  : zMi l D vwCl (zXtys cA) 81 q (zXd q cA) yX9_openPapers cX9_openPapers 3 (some .int) ({ frames := 1, cells := 0, slots := 0, locals := 21 } : Room) [.ref (q 15)] (I, R, J) (fun r u => zR 0 16777215 r ∧ u = (I, R, J)) := by
  intro sz
  refine z_body (by decide +kernel) (Nat.le_of_ble_eq_true rfl) (fun p e s m below meth c ls hx hb hml hr ht hown hlocks hsz hK hP hD hS hl => ?_)
  have hA : ∀ a, s.heap.size ≤ a → zA 81 q sz a := fun a h => Or.inr (hsz ▸ h)
  have hl : lv_has ls 3 [(0, .ref (q 15))] := hl
  refine lv_iconst (v := nI 0) hx hb dX9_openPapers_0 (by decide +kernel) ?_
  refine lv_istore_n (lv' := [(1, .int (nI 0)), (0, .ref (q 15))]) hx hb dX9_openPapers_1 rfl hl (by decide) rfl (fun ls hl => ?_)
  refine lv_iconst (v := nI 0) hx hb dX9_openPapers_2 (by decide +kernel) ?_
  refine lv_istore_n (lv' := [(2, .int (nI 0)), (1, .int (nI 0)), (0, .ref (q 15))]) hx hb dX9_openPapers_3 rfl hl (by decide) rfl (fun ls hl => ?_)
  have loop_54 : ∀ N : Nat, ∀ x_52 : Int32, zR 0 16777215 x_52 → ∀ x_53 : Int32, zR 0 24 x_53 → (2147483648 - (x_53).toInt).toNat < N → ∀ (H : Heap) (locs : List Loc), va_P D vwCl (zw 81 q (zXd q cA) I R J) H → va_D (zA 81 q sz) (zw 81 q (zXd q cA) I R J) → va_S (zA 81 q sz) s.heap H locs → ∀ ls : Array Slot, lv_has ls 3 [(0, .ref (q 15)), (1, .int (x_52)), (2, .int (x_53))] → W p l e ({ frames := 1, cells := 0, slots := 0, locals := 21 } : Room) s m ([.ref (q 15)] : List Value).toArray below meth c H locs 0 0 (MQ below (va_Qi (fun r u => zR 0 16777215 r ∧ u = (I, R, J)) (zB D vwCl 81 q (zXd q cA) sz) (zA 81 q sz)) ([.ref (q 15)] : List Value).toArray s 0 0 (zA 81 q sz)) (F0 m 4 ls []) := by
    intro N
    induction N with
    | zero => intro x_52 hx_52 x_53 hx_53 hN; exact absurd hN (Nat.not_lt_zero _)
    | succ N ih_56 =>
      intro x_52 hx_52 x_53 hx_53 hN_55 H locs hP hD hS ls hl
      refine lv_iload_n hx hb dX9_openPapers_4 rfl (lv_at hl 2 rfl) ?_
      refine lv_aload_n hx hb dX9_openPapers_5 rfl (lv_at hl 0 rfl) ?_
      refine z_get hx hb ht hown hK hP ziX9 rfl 15 (by decide) 2 (by decide) hw_1_159 rfl (v := .int (I 15 2)) rfl dX9_openPapers_6 ?_
      have f_57 : zR 0 24 (I 15 2) := xI hI 15 2
      refine lv_icmp_ge (tgt := 36) hx hb dX9_openPapers_9 (by decide) (fun c_58 => ?_) (fun c_58 => ?_)
      · have t_c_58 := z_leT c_58
        refine lv_iload_n hx hb dX9_openPapers_36 rfl (lv_at hl 1 rfl) ?_
        exact z_iret (v := x_52) hx hb hr hlocks hP hD hS dX9_openPapers_37 ⟨hx_52, rfl⟩
      · have t_c_58 := z_leF c_58
        have f_59 : zR 0 23 (x_53) := zR_ltx t_c_58 hx_53 f_57 (by decide)
        have f_60 : zR 1 24 (I 15 2) := zR_lty t_c_58 hx_53 f_57 (by decide)
        refine lv_iload_n hx hb dX9_openPapers_12 rfl (lv_at hl 1 rfl) ?_
        refine lv_aload_n hx hb dX9_openPapers_13 rfl (lv_at hl 0 rfl) ?_
        refine lv_iload_n hx hb dX9_openPapers_14 rfl (lv_at hl 2 rfl) ?_
        have t_64 : ∀ x_63 : Int32, zR 0 8388608 x_63 → ∀ (H : Heap) (locs : List Loc), va_P D vwCl (zw 81 q (zXd q cA) I R J) H → va_D (zA 81 q sz) (zw 81 q (zXd q cA) I R J) → va_S (zA 81 q sz) s.heap H locs → ∀ ls : Array Slot, lv_has ls 3 [(0, .ref (q 15)), (1, .int (x_52)), (2, .int (x_53))] → W p l e ({ frames := 1, cells := 0, slots := 0, locals := 21 } : Room) s m ([.ref (q 15)] : List Value).toArray below meth c H locs 0 0 (MQ below (va_Qi (fun r u => zR 0 16777215 r ∧ u = (I, R, J)) (zB D vwCl 81 q (zXd q cA) sz) (zA 81 q sz)) ([.ref (q 15)] : List Value).toArray s 0 0 (zA 81 q sz)) (F0 m 28 ls [.int (x_63), .int (x_52)]) := by
          intro x_63 hx_63 H locs hP hD hS ls hl
          refine lv_ior hx hb dX9_openPapers_28 ?_
          refine z_rng (a := 0) (b := 16777215) (zR_or 24 hx_52 hx_63 (by decide)) (fun v_65 hv_65 => ?_)
          refine lv_istore_n (lv' := [(1, .int (v_65)), (0, .ref (q 15)), (2, .int (x_53))]) hx hb dX9_openPapers_29 rfl hl (by decide) rfl (fun ls hl => ?_)
          obtain ⟨v_66, ev_66⟩ : ∃ y : Int32, y = x_53 + nI 1 := ⟨_, rfl⟩
          have hv_66 : zR 1 24 v_66 := ev_66 ▸ zR_add f_59 zk_1 (by decide)
          have mv_66 : v_66.toInt = (x_53).toInt + 1 := by rw [ev_66, zR_addE f_59 zk_1 (by decide)]; rfl
          refine lv_iinc (v := v_66) (lv' := [(2, .int (v_66)), (1, .int (v_65)), (0, .ref (q 15))]) hx hb dX9_openPapers_30 hl (k := 2) rfl (ev_66 ▸ rfl) (by decide) rfl (fun ls hl => ?_)
          refine lv_goto (tgt := 4) hx hb dX9_openPapers_33 (by decide) ?_
          exact ih_56 (v_65) hv_65 (v_66) (zR_w hv_66 (by decide)) (z2_up mv_66 (by decide) hN_55) _ _ hP hD hS _ (lv_sub hl [2, 1, 0] rfl)
        refine z_callVi (k := 15) (As := [.int (x_53)]) (rest := [.int (x_52)]) hx hb hml hown ht (xk_X9_isOpen_1 l D q cA F _ _ _ hI (x_53) f_59) hw_3_75 hmX9_isOpen ⟨rfl, rfl⟩ (na := 1) rfl (by decide +kernel) (by decide) (by decide) rfl rfl hK hP hD hS hA hl.1 rfl (Nat.le_of_ble_eq_true rfl) ⟨Nat.zero_le _, Nat.zero_le _⟩ dX9_openPapers_15 (fun r_61 I_61 R_61 J_61 H locs hp_61 hP hD hS _ _ => ?_)
        rcases hp_61 with ⟨rfl, hu_61⟩ | ⟨rfl, hu_61⟩
        · cases hu_61
          refine lv_if_eq (tgt := 27) hx hb dX9_openPapers_18 (by decide) (fun c_0 => absurd c_0 (zD_ne zk_1 zk_z (by decide))) (fun _ => ?_)
          refine lv_iconst (v := nI 1) hx hb dX9_openPapers_21 (by decide +kernel) ?_
          refine lv_iload_n hx hb dX9_openPapers_22 rfl (lv_at hl 2 rfl) ?_
          refine lv_ishl hx hb dX9_openPapers_23 ?_
          refine z_rng (a := 1) (b := 8388608) (zR_shl1 23 f_59 (by decide)) (fun v_67 hv_67 => ?_)
          refine lv_goto (tgt := 28) hx hb dX9_openPapers_24 (by decide) ?_
          exact t_64 (v_67) (zR_w hv_67 (by decide)) _ _ hP hD hS _ (lv_sub hl [0, 1, 2] rfl)
        · cases hu_61
          refine lv_if_eq (tgt := 27) hx hb dX9_openPapers_18 (by decide) (fun _ => ?_) (fun c_0 => absurd (zD_eq zk_0 zk_z) c_0)
          refine lv_iconst (v := nI 0) hx hb dX9_openPapers_27 (by decide +kernel) ?_
          exact t_64 (nI 0) (zR_w zk_0 (by decide)) _ _ hP hD hS _ (lv_sub hl [0, 1, 2] rfl)
  exact loop_54 _ (nI 0) (zR_w zk_0 (by decide)) (nI 0) (zR_w zk_0 (by decide)) (Nat.lt_succ_self _) _ _ hP hD hS _ (lv_sub hl [2, 1, 0] rfl)
set_option maxHeartbeats 4000000 in
set_option maxRecDepth 100000 in
theorem xk_J6_bitCount_0f7a4 (l : Launch) (D : va_G) (q : Nat → Nat) (cA : Nat → ClassId) (F : Nat → Nat → Int32) (I R : Nat → Nat → Int32) (J : Nat → Nat → Int64) (hI : xInv F (I, R, J)) (pa0 : Int32) : zMi l D vwCl (zXtys cA) 81 q (zXd q cA) yJ6_bitCount_0f7a4 cJ6_bitCount_0f7a4 1 (some .int) ({ frames := 0, cells := 0, slots := 0, locals := 0 } : Room) [.int (pa0)] (I, R, J) (fun r u => zR 0 63 r ∧ u = (I, R, J)) := by
  intro sz
  refine z_body (by decide +kernel) (Nat.le_of_ble_eq_true rfl) (fun p e s m below meth c ls hx hb hml hr ht hown hlocks hsz hK hP hD hS hl => ?_)
  have hA : ∀ a, s.heap.size ≤ a → zA 81 q sz a := fun a h => Or.inr (hsz ▸ h)
  have hl : lv_has ls 1 [(0, .int (pa0))] := hl
  refine lv_iload_n hx hb dJ6_bitCount_0f7a4_0 rfl (lv_at hl 0 rfl) ?_
  refine lv_iload_n hx hb dJ6_bitCount_0f7a4_1 rfl (lv_at hl 0 rfl) ?_
  refine lv_iconst (v := nI 1) hx hb dJ6_bitCount_0f7a4_2 (by decide +kernel) ?_
  refine lv_iushr hx hb dJ6_bitCount_0f7a4_3 rfl ?_
  refine z_any (fun v_1 => ?_)
  refine lv_ldcw (v := nI 1431655765) hx hb hown (ht _ hw_3_197) dJ6_bitCount_0f7a4_4 ?_
  refine lv_iand hx hb dJ6_bitCount_0f7a4_7 ?_
  refine z_rng (a := 0) (b := 1431655765) (zR_andr zk_1431655765 (by decide)) (fun v_2 hv_2 => ?_)
  refine lv_isub hx hb dJ6_bitCount_0f7a4_8 ?_
  refine z_any (fun v_3 => ?_)
  refine lv_istore_n (lv' := [(0, .int (v_3))]) hx hb dJ6_bitCount_0f7a4_9 rfl hl (by decide) rfl (fun ls hl => ?_)
  refine lv_iload_n hx hb dJ6_bitCount_0f7a4_10 rfl (lv_at hl 0 rfl) ?_
  refine lv_ldcw (v := nI 858993459) hx hb hown (ht _ hw_3_198) dJ6_bitCount_0f7a4_11 ?_
  refine lv_iand hx hb dJ6_bitCount_0f7a4_14 ?_
  refine z_rng (a := 0) (b := 858993459) (zR_andr zk_858993459 (by decide)) (fun v_4 hv_4 => ?_)
  refine lv_iload_n hx hb dJ6_bitCount_0f7a4_15 rfl (lv_at hl 0 rfl) ?_
  refine lv_iconst (v := nI 2) hx hb dJ6_bitCount_0f7a4_16 (by decide +kernel) ?_
  refine lv_iushr hx hb dJ6_bitCount_0f7a4_17 rfl ?_
  refine z_any (fun v_5 => ?_)
  refine lv_ldcw (v := nI 858993459) hx hb hown (ht _ hw_3_198) dJ6_bitCount_0f7a4_18 ?_
  refine lv_iand hx hb dJ6_bitCount_0f7a4_21 ?_
  refine z_rng (a := 0) (b := 858993459) (zR_andr zk_858993459 (by decide)) (fun v_6 hv_6 => ?_)
  refine lv_iadd hx hb dJ6_bitCount_0f7a4_22 ?_
  refine z_rng (a := 0) (b := 1717986918) (zR_add hv_4 hv_6 (by decide)) (fun v_7 hv_7 => ?_)
  refine lv_istore_n (lv' := [(0, .int (v_7))]) hx hb dJ6_bitCount_0f7a4_23 rfl hl (by decide) rfl (fun ls hl => ?_)
  refine lv_iload_n hx hb dJ6_bitCount_0f7a4_24 rfl (lv_at hl 0 rfl) ?_
  refine lv_iload_n hx hb dJ6_bitCount_0f7a4_25 rfl (lv_at hl 0 rfl) ?_
  refine lv_iconst (v := nI 4) hx hb dJ6_bitCount_0f7a4_26 (by decide +kernel) ?_
  refine lv_iushr hx hb dJ6_bitCount_0f7a4_27 rfl ?_
  refine z_any (fun v_8 => ?_)
  refine lv_iadd hx hb dJ6_bitCount_0f7a4_28 ?_
  refine z_any (fun v_9 => ?_)
  refine lv_ldcw (v := nI 252645135) hx hb hown (ht _ hw_3_199) dJ6_bitCount_0f7a4_29 ?_
  refine lv_iand hx hb dJ6_bitCount_0f7a4_32 ?_
  refine z_rng (a := 0) (b := 252645135) (zR_andr zk_252645135 (by decide)) (fun v_10 hv_10 => ?_)
  refine lv_istore_n (lv' := [(0, .int (v_10))]) hx hb dJ6_bitCount_0f7a4_33 rfl hl (by decide) rfl (fun ls hl => ?_)
  refine lv_iload_n hx hb dJ6_bitCount_0f7a4_34 rfl (lv_at hl 0 rfl) ?_
  refine lv_iload_n hx hb dJ6_bitCount_0f7a4_35 rfl (lv_at hl 0 rfl) ?_
  refine lv_bipush (v := nI 8) hx hb dJ6_bitCount_0f7a4_36 (by decide +kernel) ?_
  refine lv_iushr hx hb dJ6_bitCount_0f7a4_38 rfl ?_
  refine z_any (fun v_11 => ?_)
  refine lv_iadd hx hb dJ6_bitCount_0f7a4_39 ?_
  refine z_any (fun v_12 => ?_)
  refine lv_istore_n (lv' := [(0, .int (v_12))]) hx hb dJ6_bitCount_0f7a4_40 rfl hl (by decide) rfl (fun ls hl => ?_)
  refine lv_iload_n hx hb dJ6_bitCount_0f7a4_41 rfl (lv_at hl 0 rfl) ?_
  refine lv_iload_n hx hb dJ6_bitCount_0f7a4_42 rfl (lv_at hl 0 rfl) ?_
  refine lv_bipush (v := nI 16) hx hb dJ6_bitCount_0f7a4_43 (by decide +kernel) ?_
  refine lv_iushr hx hb dJ6_bitCount_0f7a4_45 rfl ?_
  refine z_any (fun v_13 => ?_)
  refine lv_iadd hx hb dJ6_bitCount_0f7a4_46 ?_
  refine z_any (fun v_14 => ?_)
  refine lv_istore_n (lv' := [(0, .int (v_14))]) hx hb dJ6_bitCount_0f7a4_47 rfl hl (by decide) rfl (fun ls hl => ?_)
  refine lv_iload_n hx hb dJ6_bitCount_0f7a4_48 rfl (lv_at hl 0 rfl) ?_
  refine lv_bipush (v := nI 63) hx hb dJ6_bitCount_0f7a4_49 (by decide +kernel) ?_
  refine lv_iand hx hb dJ6_bitCount_0f7a4_51 ?_
  refine z_rng (a := 0) (b := 63) (zR_andr zk_63 (by decide)) (fun v_15 hv_15 => ?_)
  exact z_iret (v := v_15) hx hb hr hlocks hP hD hS dJ6_bitCount_0f7a4_52 ⟨hv_15, rfl⟩
set_option maxHeartbeats 4000000 in
set_option maxRecDepth 100000 in
theorem xk_X9_cross (l : Launch) (D : va_G) (q : Nat → Nat) (cA : Nat → ClassId) (F : Nat → Nat → Int32) (I R : Nat → Nat → Int32) (J : Nat → Nat → Int64) (hI : xInv F (I, R, J)) (pa0 : Int32) (hpa0 : zR 0 23 pa0) : zMi l D vwCl (zXtys cA) 81 q (zXd q cA) yX9_cross cX9_cross 2 (some .int) ({ frames := 2, cells := 0, slots := 0, locals := 43 } : Room) [.ref (q 15), .int (pa0)] (I, R, J) (fun r u => zR 0 63 r ∧ xInv F u) := by
  intro sz
  refine z_body (by decide +kernel) (Nat.le_of_ble_eq_true rfl) (fun p e s m below meth c ls hx hb hml hr ht hown hlocks hsz hK hP hD hS hl => ?_)
  have hA : ∀ a, s.heap.size ≤ a → zA 81 q sz a := fun a h => Or.inr (hsz ▸ h)
  have hl : lv_has ls 2 [(0, .ref (q 15)), (1, .int (pa0))] := hl
  refine lv_aload_n hx hb dX9_cross_0 rfl (lv_at hl 0 rfl) ?_
  refine z_get hx hb ht hown hK hP ziX9 rfl 15 (by decide) 11 (by decide) hw_1_185 rfl (v := .ref (q 23)) rfl dX9_cross_1 ?_
  refine lv_iload_n hx hb dX9_cross_4 rfl (lv_at hl 1 rfl) ?_
  refine lv_iconst (v := nI 4) hx hb dX9_cross_5 (by decide +kernel) ?_
  refine z_iast hx hb hK hP hD hS 23 (by decide) 17 (fun _ => rfl) rfl (zR_vin hpa0 (by decide)) dX9_cross_6 (fun H locs hP hD hS => ?_)
  have hI_1 := xInv_R hI 23 (pa0).toNatClampNeg (nI 4) (zR_any _) rfl
  refine lv_aload_n hx hb dX9_cross_7 rfl (lv_at hl 0 rfl) ?_
  refine z_callVi (k := 15) (As := []) (rest := []) hx hb hml hown ht (xk_X9_openPapers l D q cA F _ _ _ hI_1 ) hw_3_190 hmX9_openPapers ⟨rfl, rfl⟩ (na := 0) rfl (by decide +kernel) (by decide) (by decide) rfl rfl hK hP hD hS hA hl.1 rfl (Nat.le_of_ble_eq_true rfl) ⟨Nat.zero_le _, Nat.zero_le _⟩ dX9_cross_8 (fun r_2 I_2 R_2 J_2 H locs hp_2 hP hD hS _ _ => ?_)
  obtain ⟨hr_2, hu_2⟩ := hp_2
  cases hu_2
  refine z_callSi (As := [.int (r_2)]) (rest := []) hx hb hml hown ht (xk_J6_bitCount_0f7a4 l D q cA F _ _ _ hI_1 (r_2)) hw_3_194 hmJ6_bitCount_0f7a4 ⟨rfl, rfl⟩ (na := 1) rfl (by decide +kernel) (by decide) hK hP hD hS hA hl.1 rfl (Nat.le_of_ble_eq_true rfl) ⟨Nat.zero_le _, Nat.zero_le _⟩ dX9_cross_11 (fun r_3 I_3 R_3 J_3 H locs hp_3 hP hD hS _ _ => ?_)
  obtain ⟨hr_3, hu_3⟩ := hp_3
  cases hu_3
  exact z_iret (v := r_3) hx hb hr hlocks hP hD hS dX9_cross_14 ⟨hr_3, hI_1⟩
set_option maxHeartbeats 4000000 in
set_option maxRecDepth 100000 in
theorem xk_X9_act_3 (l : Launch) (D : va_G) (q : Nat → Nat) (cA : Nat → ClassId) (F : Nat → Nat → Int32) (I R : Nat → Nat → Int32) (J : Nat → Nat → Int64) (hI : xInv F (I, R, J)) (pa1 : Int32) (hpa1 : zR 0 23 pa1) (pa2 : Int32) (hpa2 : zR 0 1 pa2) (pa3 : Int32) (hpa3 : zR 0 1 pa3) : zMi l D vwCl (zXtys cA) 81 q (zXd q cA) yX9_act cX9_act 5 (some .int) ({ frames := 3, cells := 0, slots := 0, locals := 64 } : Room) [.ref (q 15), .int (nI 3), .int (pa1), .int (pa2), .int (pa3)] (I, R, J) (fun r u => zR 0 63 r ∧ xInv F u) := by
  intro sz
  refine z_body (by decide +kernel) (Nat.le_of_ble_eq_true rfl) (fun p e s m below meth c ls hx hb hml hr ht hown hlocks hsz hK hP hD hS hl => ?_)
  have hA : ∀ a, s.heap.size ≤ a → zA 81 q sz a := fun a h => Or.inr (hsz ▸ h)
  have hl : lv_has ls 5 [(0, .ref (q 15)), (1, .int (nI 3)), (2, .int (pa1)), (3, .int (pa2)), (4, .int (pa3))] := hl
  refine lv_iload_n hx hb dX9_act_0 rfl (lv_at hl 1 rfl) ?_
  refine lv_tableIn (off := 61) (tgt := 62) hx hb dX9_act_1 (by decide +kernel) (by decide +kernel) (by decide +kernel) (by decide) ?_
  refine lv_aload_n hx hb dX9_act_62 rfl (lv_at hl 0 rfl) ?_
  refine lv_iload_n hx hb dX9_act_63 rfl (lv_at hl 2 rfl) ?_
  refine z_callVi (k := 15) (As := [.int (pa1)]) (rest := []) hx hb hml hown ht (xk_X9_cross l D q cA F _ _ _ hI (pa1) hpa1) hw_3_186 hmX9_cross ⟨rfl, rfl⟩ (na := 1) rfl (by decide +kernel) (by decide) (by decide) rfl rfl hK hP hD hS hA hl.1 rfl (Nat.le_of_ble_eq_true rfl) ⟨Nat.zero_le _, Nat.zero_le _⟩ dX9_act_64 (fun r_1 I_1 R_1 J_1 H locs hp_1 hP hD hS _ _ => ?_)
  obtain ⟨hr_1, hu_1⟩ := hp_1
  exact z_iret (v := r_1) hx hb hr hlocks hP hD hS dX9_act_67 ⟨hr_1, hu_1⟩
set_option maxHeartbeats 4000000 in
set_option maxRecDepth 100000 in
theorem xk_X10_perform_3 (l : Launch) (D : va_G) (q : Nat → Nat) (cA : Nat → ClassId) (F : Nat → Nat → Int32) (I R : Nat → Nat → Int32) (J : Nat → Nat → Int64) (hI : xInv F (I, R, J)) (pa1 : Int32) (hpa1 : zR 0 23 pa1) (pa2 : Int32) (hpa2 : zR 0 1 pa2) (pa3 : Int32) (hpa3 : zR 0 1 pa3) : zMi l D vwCl (zXtys cA) 81 q (zXd q cA) yX10_perform cX10_perform 5 (some .int) ({ frames := 4, cells := 0, slots := 0, locals := 88 } : Room) [.ref (q 0), .int (nI 3), .int (pa1), .int (pa2), .int (pa3)] (I, R, J) (fun r u => zR 0 63 r ∧ xInv F u) := by
  intro sz
  refine z_body (by decide +kernel) (Nat.le_of_ble_eq_true rfl) (fun p e s m below meth c ls hx hb hml hr ht hown hlocks hsz hK hP hD hS hl => ?_)
  have hA : ∀ a, s.heap.size ≤ a → zA 81 q sz a := fun a h => Or.inr (hsz ▸ h)
  have hl : lv_has ls 5 [(0, .ref (q 0)), (1, .int (nI 3)), (2, .int (pa1)), (3, .int (pa2)), (4, .int (pa3))] := hl
  refine lv_aload_n hx hb dX10_perform_0 rfl (lv_at hl 0 rfl) ?_
  refine z_get hx hb ht hown hK hP ziX10 rfl 0 (by decide) 3 (by decide) hw_2_96 rfl (v := .ref (q 13)) rfl dX10_perform_1 ?_
  refine lv_iload_n hx hb dX10_perform_4 rfl (lv_at hl 1 rfl) ?_
  refine lv_iload_n hx hb dX10_perform_5 rfl (lv_at hl 2 rfl) ?_
  refine lv_iload_n hx hb dX10_perform_6 rfl (lv_at hl 3 rfl) ?_
  refine lv_iload hx hb dX10_perform_7 (lv_at hl 4 rfl) ?_
  refine z_callVv (k := 13) (As := [.int (nI 3), .int (pa1), .int (pa2), .int (pa3)]) (rest := []) hx hb hml hown ht (xk_X0_add l D q cA F _ _ _ hI (nI 3) (pa1) (pa2) (pa3) (xRec_3 zk_3 hpa1)) hw_3_157 hmX0_add ⟨rfl, rfl⟩ (na := 4) rfl (by decide +kernel) (by decide) (by decide) rfl rfl hK hP hD hS hA hl.1 rfl (Nat.le_of_ble_eq_true rfl) ⟨Nat.zero_le _, Nat.zero_le _⟩ dX10_perform_9 (fun I_1 R_1 J_1 H locs hp_1 hP hD hS _ _ => ?_)
  refine lv_aload_n hx hb dX10_perform_12 rfl (lv_at hl 0 rfl) ?_
  refine z_get hx hb ht hown hK hP ziX10 rfl 0 (by decide) 4 (by decide) hw_2_97 rfl (v := .ref (q 15)) rfl dX10_perform_13 ?_
  refine lv_iload_n hx hb dX10_perform_16 rfl (lv_at hl 1 rfl) ?_
  refine lv_iload_n hx hb dX10_perform_17 rfl (lv_at hl 2 rfl) ?_
  refine lv_iload_n hx hb dX10_perform_18 rfl (lv_at hl 3 rfl) ?_
  refine lv_iload hx hb dX10_perform_19 (lv_at hl 4 rfl) ?_
  refine z_callVi (k := 15) (As := [.int (nI 3), .int (pa1), .int (pa2), .int (pa3)]) (rest := []) hx hb hml hown ht (xk_X9_act_3 l D q cA F _ _ _ hp_1 (pa1) hpa1 (pa2) hpa2 (pa3) hpa3) hw_3_161 hmX9_act ⟨rfl, rfl⟩ (na := 4) rfl (by decide +kernel) (by decide) (by decide) rfl rfl hK hP hD hS hA hl.1 rfl (Nat.le_of_ble_eq_true rfl) ⟨Nat.zero_le _, Nat.zero_le _⟩ dX10_perform_21 (fun r_2 I_2 R_2 J_2 H locs hp_2 hP hD hS _ _ => ?_)
  obtain ⟨hr_2, hu_2⟩ := hp_2
  exact z_iret (v := r_2) hx hb hr hlocks hP hD hS dX10_perform_24 ⟨hr_2, hu_2⟩
set_option maxHeartbeats 4000000 in
set_option maxRecDepth 100000 in
theorem xk_X10_strike (l : Launch) (D : va_G) (q : Nat → Nat) (cA : Nat → ClassId) (F : Nat → Nat → Int32) (I R : Nat → Nat → Int32) (J : Nat → Nat → Int64) (hI : xInv F (I, R, J)) (pa0 : Int32) : zMi l D vwCl (zXtys cA) 81 q (zXd q cA) yX10_strike cX10_strike 2 (some .int) ({ frames := 5, cells := 0, slots := 0, locals := 112 } : Room) [.ref (q 0), .int (pa0)] (I, R, J) (fun r u => zR (-5) 63 r ∧ xInv F u) := by
  intro sz
  refine z_body (by decide +kernel) (Nat.le_of_ble_eq_true rfl) (fun p e s m below meth c ls hx hb hml hr ht hown hlocks hsz hK hP hD hS hl => ?_)
  have hA : ∀ a, s.heap.size ≤ a → zA 81 q sz a := fun a h => Or.inr (hsz ▸ h)
  have hl : lv_has ls 2 [(0, .ref (q 0)), (1, .int (pa0))] := hl
  refine lv_aload_n hx hb dX10_strike_0 rfl (lv_at hl 0 rfl) ?_
  refine lv_iload_n hx hb dX10_strike_1 rfl (lv_at hl 1 rfl) ?_
  refine z_callVi (k := 0) (As := [.int (pa0)]) (rest := []) hx hb hml hown ht (xk_X10_isPaper l D q cA F _ _ _ hI (pa0)) hw_3_107 hmX10_isPaper ⟨rfl, rfl⟩ (na := 1) rfl (by decide +kernel) (by decide) (by decide) rfl rfl hK hP hD hS hA hl.1 rfl (Nat.le_of_ble_eq_true rfl) ⟨Nat.zero_le _, Nat.zero_le _⟩ dX10_strike_2 (fun r_1 I_1 R_1 J_1 H locs hp_1 hP hD hS _ _ => ?_)
  rcases hp_1 with ⟨rfl, hu_1, f0_1⟩ | ⟨rfl, hu_1⟩
  · cases hu_1
    refine lv_if_ne (tgt := 11) hx hb dX10_strike_5 (by decide) (fun _ => ?_) (fun c_0 => absurd c_0 (zD_ne zk_1 zk_z (by decide)))
    refine lv_aload_n hx hb dX10_strike_11 rfl (lv_at hl 0 rfl) ?_
    refine z_callVi (k := 0) (As := []) (rest := []) hx hb hml hown ht (xk_X10_isFull l D q cA F _ _ _ hI ) hw_3_144 hmX10_isFull ⟨rfl, rfl⟩ (na := 0) rfl (by decide +kernel) (by decide) (by decide) rfl rfl hK hP hD hS hA hl.1 rfl (Nat.le_of_ble_eq_true rfl) ⟨Nat.zero_le _, Nat.zero_le _⟩ dX10_strike_12 (fun r_2 I_2 R_2 J_2 H locs hp_2 hP hD hS _ _ => ?_)
    rcases hp_2 with ⟨rfl, hu_2⟩ | ⟨rfl, hu_2⟩
    · cases hu_2
      refine lv_if_ne (tgt := 29) hx hb dX10_strike_15 (by decide) (fun _ => ?_) (fun c_0 => absurd c_0 (zD_ne zk_1 zk_z (by decide)))
      refine lv_bipush (v := (-5)) hx hb dX10_strike_29 (by decide +kernel) ?_
      exact z_iret (v := (-5)) hx hb hr hlocks hP hD hS dX10_strike_31 ⟨(zR_w zk_m5 (by decide)), hI⟩
    · cases hu_2
      refine lv_if_ne (tgt := 29) hx hb dX10_strike_15 (by decide) (fun c_0 => absurd (zD_eq zk_0 zk_z) c_0) (fun _ => ?_)
      refine lv_aload_n hx hb dX10_strike_18 rfl (lv_at hl 0 rfl) ?_
      refine z_get hx hb ht hown hK hP ziX10 rfl 0 (by decide) 4 (by decide) hw_2_97 rfl (v := .ref (q 15)) rfl dX10_strike_19 ?_
      refine lv_iload_n hx hb dX10_strike_22 rfl (lv_at hl 1 rfl) ?_
      refine z_callVi (k := 15) (As := [.int (pa0)]) (rest := []) hx hb hml hown ht (xk_X9_isOpen_1 l D q cA F _ _ _ hI (pa0) f0_1) hw_3_115 hmX9_isOpen ⟨rfl, rfl⟩ (na := 1) rfl (by decide +kernel) (by decide) (by decide) rfl rfl hK hP hD hS hA hl.1 rfl (Nat.le_of_ble_eq_true rfl) ⟨Nat.zero_le _, Nat.zero_le _⟩ dX10_strike_23 (fun r_3 I_3 R_3 J_3 H locs hp_3 hP hD hS _ _ => ?_)
      rcases hp_3 with ⟨rfl, hu_3⟩ | ⟨rfl, hu_3⟩
      · cases hu_3
        refine lv_if_ne (tgt := 32) hx hb dX10_strike_26 (by decide) (fun _ => ?_) (fun c_0 => absurd c_0 (zD_ne zk_1 zk_z (by decide)))
        refine lv_aload_n hx hb dX10_strike_32 rfl (lv_at hl 0 rfl) ?_
        refine lv_iconst (v := nI 3) hx hb dX10_strike_33 (by decide +kernel) ?_
        refine lv_iload_n hx hb dX10_strike_34 rfl (lv_at hl 1 rfl) ?_
        refine lv_iconst (v := nI 0) hx hb dX10_strike_35 (by decide +kernel) ?_
        refine lv_iconst (v := nI 0) hx hb dX10_strike_36 (by decide +kernel) ?_
        refine z_callVi (k := 0) (As := [.int (nI 3), .int (pa0), .int (nI 0), .int (nI 0)]) (rest := []) hx hb hml hown ht (xk_X10_perform_3 l D q cA F _ _ _ hI (pa0) f0_1 (nI 0) (zR_w zk_0 (by decide)) (nI 0) (zR_w zk_0 (by decide))) hw_3_153 hmX10_perform ⟨rfl, rfl⟩ (na := 4) rfl (by decide +kernel) (by decide) (by decide) rfl rfl hK hP hD hS hA hl.1 rfl (Nat.le_of_ble_eq_true rfl) ⟨Nat.zero_le _, Nat.zero_le _⟩ dX10_strike_37 (fun r_4 I_4 R_4 J_4 H locs hp_4 hP hD hS _ _ => ?_)
        obtain ⟨hr_4, hu_4⟩ := hp_4
        exact z_iret (v := r_4) hx hb hr hlocks hP hD hS dX10_strike_40 ⟨(zR_w hr_4 (by decide)), hu_4⟩
      · cases hu_3
        refine lv_if_ne (tgt := 32) hx hb dX10_strike_26 (by decide) (fun c_0 => absurd (zD_eq zk_0 zk_z) c_0) (fun _ => ?_)
        refine lv_bipush (v := (-5)) hx hb dX10_strike_29 (by decide +kernel) ?_
        exact z_iret (v := (-5)) hx hb hr hlocks hP hD hS dX10_strike_31 ⟨(zR_w zk_m5 (by decide)), hI⟩
  · cases hu_1
    refine lv_if_ne (tgt := 11) hx hb dX10_strike_5 (by decide) (fun c_0 => absurd (zD_eq zk_0 zk_z) c_0) (fun _ => ?_)
    refine lv_bipush (v := (-2)) hx hb dX10_strike_8 (by decide +kernel) ?_
    exact z_iret (v := (-2)) hx hb hr hlocks hP hD hS dX10_strike_10 ⟨(zR_w zk_m2 (by decide)), hI⟩
set_option maxHeartbeats 4000000 in
set_option maxRecDepth 100000 in
theorem xk_X9_turnKey (l : Launch) (D : va_G) (q : Nat → Nat) (cA : Nat → ClassId) (F : Nat → Nat → Int32) (I R : Nat → Nat → Int32) (J : Nat → Nat → Int64) (hI : xInv F (I, R, J)) (pa0 : Int32) (hpa0 : zR 0 4 pa0) (pa1 : Int32) (hpa1 : zR 0 1 pa1) : zMi l D vwCl (zXtys cA) 81 q (zXd q cA) yX9_turnKey cX9_turnKey 4 (some .int) ({ frames := 0, cells := 0, slots := 0, locals := 0 } : Room) [.ref (q 15), .int (pa0), .int (pa1)] (I, R, J) (fun r u => zR 0 1 r ∧ xInv F u) := by
  intro sz
  refine z_body (by decide +kernel) (Nat.le_of_ble_eq_true rfl) (fun p e s m below meth c ls hx hb hml hr ht hown hlocks hsz hK hP hD hS hl => ?_)
  have hA : ∀ a, s.heap.size ≤ a → zA 81 q sz a := fun a h => Or.inr (hsz ▸ h)
  have hl : lv_has ls 4 [(0, .ref (q 15)), (1, .int (pa0)), (2, .int (pa1))] := hl
  refine lv_aload_n hx hb dX9_turnKey_0 rfl (lv_at hl 0 rfl) ?_
  refine z_get hx hb ht hown hK hP ziX9 rfl 15 (by decide) 3 (by decide) hw_1_163 rfl (v := .int (I 15 3)) rfl dX9_turnKey_1 ?_
  refine lv_iload_n hx hb dX9_turnKey_4 rfl (lv_at hl 1 rfl) ?_
  refine lv_ishr hx hb dX9_turnKey_5 ?_
  refine z_any (fun v_1 => ?_)
  refine lv_iconst (v := nI 1) hx hb dX9_turnKey_6 (by decide +kernel) ?_
  refine lv_iand hx hb dX9_turnKey_7 ?_
  refine z_rng (a := 0) (b := 1) (zR_andr zk_1 (by decide)) (fun v_2 hv_2 => ?_)
  refine lv_istore_n (lv' := [(3, .int (v_2)), (0, .ref (q 15)), (1, .int (pa0)), (2, .int (pa1))]) hx hb dX9_turnKey_8 rfl hl (by decide) rfl (fun ls hl => ?_)
  refine lv_aload_n hx hb dX9_turnKey_9 rfl (lv_at hl 1 rfl) ?_
  refine lv_aload_n hx hb dX9_turnKey_10 rfl (lv_at hl 1 rfl) ?_
  refine z_get hx hb ht hown hK hP ziX9 rfl 15 (by decide) 3 (by decide) hw_1_163 rfl (v := .int (I 15 3)) rfl dX9_turnKey_11 ?_
  refine lv_iconst (v := nI 1) hx hb dX9_turnKey_14 (by decide +kernel) ?_
  refine lv_iload_n hx hb dX9_turnKey_15 rfl (lv_at hl 2 rfl) ?_
  refine lv_ishl hx hb dX9_turnKey_16 ?_
  refine z_rng (a := 1) (b := 16) (zR_shl1 4 hpa0 (by decide)) (fun v_3 hv_3 => ?_)
  refine lv_iconst (v := (-1)) hx hb dX9_turnKey_17 (by decide +kernel) ?_
  refine lv_ixor hx hb dX9_turnKey_18 ?_
  refine z_any (fun v_4 => ?_)
  refine lv_iand hx hb dX9_turnKey_19 ?_
  refine z_any (fun v_5 => ?_)
  refine lv_iload_n hx hb dX9_turnKey_20 rfl (lv_at hl 3 rfl) ?_
  refine lv_iload_n hx hb dX9_turnKey_21 rfl (lv_at hl 2 rfl) ?_
  refine lv_ishl hx hb dX9_turnKey_22 ?_
  refine z_any (fun v_6 => ?_)
  refine lv_ior hx hb dX9_turnKey_23 ?_
  refine z_any (fun v_7 => ?_)
  refine z_putI hx hb ht hown hK hP hD hS ziX9 tyX9 tyX9_ok nmX9 rfl 15 (by decide) 3 (by decide) hw_1_163 rfl (v := v_7) rfl rfl rfl (Nat.le_of_ble_eq_true rfl) rfl dX9_turnKey_24 (fun H locs hP hD hS => ?_)
  have hI_8 := xInv_I hI 15 3 (v_7) (zR_any (v_7)) rfl
  refine lv_iload_n hx hb dX9_turnKey_27 rfl (lv_at hl 0 rfl) ?_
  exact z_iret (v := v_2) hx hb hr hlocks hP hD hS dX9_turnKey_28 ⟨hv_2, hI_8⟩
set_option maxHeartbeats 4000000 in
set_option maxRecDepth 100000 in
theorem xk_X9_act_4 (l : Launch) (D : va_G) (q : Nat → Nat) (cA : Nat → ClassId) (F : Nat → Nat → Int32) (I R : Nat → Nat → Int32) (J : Nat → Nat → Int64) (hI : xInv F (I, R, J)) (pa1 : Int32) (hpa1 : zR 0 4 pa1) (pa2 : Int32) (hpa2 : zR 0 1 pa2) (pa3 : Int32) (hpa3 : zR 0 1 pa3) : zMi l D vwCl (zXtys cA) 81 q (zXd q cA) yX9_act cX9_act 5 (some .int) ({ frames := 1, cells := 0, slots := 0, locals := 23 } : Room) [.ref (q 15), .int (nI 4), .int (pa1), .int (pa2), .int (pa3)] (I, R, J) (fun r u => zR 0 1 r ∧ xInv F u) := by
  intro sz
  refine z_body (by decide +kernel) (Nat.le_of_ble_eq_true rfl) (fun p e s m below meth c ls hx hb hml hr ht hown hlocks hsz hK hP hD hS hl => ?_)
  have hA : ∀ a, s.heap.size ≤ a → zA 81 q sz a := fun a h => Or.inr (hsz ▸ h)
  have hl : lv_has ls 5 [(0, .ref (q 15)), (1, .int (nI 4)), (2, .int (pa1)), (3, .int (pa2)), (4, .int (pa3))] := hl
  refine lv_iload_n hx hb dX9_act_0 rfl (lv_at hl 1 rfl) ?_
  refine lv_tableIn (off := 67) (tgt := 68) hx hb dX9_act_1 (by decide +kernel) (by decide +kernel) (by decide +kernel) (by decide) ?_
  refine lv_aload_n hx hb dX9_act_68 rfl (lv_at hl 0 rfl) ?_
  refine lv_iload_n hx hb dX9_act_69 rfl (lv_at hl 2 rfl) ?_
  refine lv_iload_n hx hb dX9_act_70 rfl (lv_at hl 3 rfl) ?_
  refine z_callVi (k := 15) (As := [.int (pa1), .int (pa2)]) (rest := []) hx hb hml hown ht (xk_X9_turnKey l D q cA F _ _ _ hI (pa1) hpa1 (pa2) hpa2) hw_3_200 hmX9_turnKey ⟨rfl, rfl⟩ (na := 2) rfl (by decide +kernel) (by decide) (by decide) rfl rfl hK hP hD hS hA hl.1 rfl (Nat.le_of_ble_eq_true rfl) ⟨Nat.zero_le _, Nat.zero_le _⟩ dX9_act_71 (fun r_1 I_1 R_1 J_1 H locs hp_1 hP hD hS _ _ => ?_)
  obtain ⟨hr_1, hu_1⟩ := hp_1
  exact z_iret (v := r_1) hx hb hr hlocks hP hD hS dX9_act_74 ⟨hr_1, hu_1⟩
set_option maxHeartbeats 4000000 in
set_option maxRecDepth 100000 in
theorem xk_X10_perform_4 (l : Launch) (D : va_G) (q : Nat → Nat) (cA : Nat → ClassId) (F : Nat → Nat → Int32) (I R : Nat → Nat → Int32) (J : Nat → Nat → Int64) (hI : xInv F (I, R, J)) (pa1 : Int32) (hpa1 : zR 0 4 pa1) (pa2 : Int32) (hpa2 : zR 0 1 pa2) (pa3 : Int32) (hpa3 : zR 0 1 pa3) : zMi l D vwCl (zXtys cA) 81 q (zXd q cA) yX10_perform cX10_perform 5 (some .int) ({ frames := 2, cells := 0, slots := 0, locals := 47 } : Room) [.ref (q 0), .int (nI 4), .int (pa1), .int (pa2), .int (pa3)] (I, R, J) (fun r u => zR 0 1 r ∧ xInv F u) := by
  intro sz
  refine z_body (by decide +kernel) (Nat.le_of_ble_eq_true rfl) (fun p e s m below meth c ls hx hb hml hr ht hown hlocks hsz hK hP hD hS hl => ?_)
  have hA : ∀ a, s.heap.size ≤ a → zA 81 q sz a := fun a h => Or.inr (hsz ▸ h)
  have hl : lv_has ls 5 [(0, .ref (q 0)), (1, .int (nI 4)), (2, .int (pa1)), (3, .int (pa2)), (4, .int (pa3))] := hl
  refine lv_aload_n hx hb dX10_perform_0 rfl (lv_at hl 0 rfl) ?_
  refine z_get hx hb ht hown hK hP ziX10 rfl 0 (by decide) 3 (by decide) hw_2_96 rfl (v := .ref (q 13)) rfl dX10_perform_1 ?_
  refine lv_iload_n hx hb dX10_perform_4 rfl (lv_at hl 1 rfl) ?_
  refine lv_iload_n hx hb dX10_perform_5 rfl (lv_at hl 2 rfl) ?_
  refine lv_iload_n hx hb dX10_perform_6 rfl (lv_at hl 3 rfl) ?_
  refine lv_iload hx hb dX10_perform_7 (lv_at hl 4 rfl) ?_
  refine z_callVv (k := 13) (As := [.int (nI 4), .int (pa1), .int (pa2), .int (pa3)]) (rest := []) hx hb hml hown ht (xk_X0_add l D q cA F _ _ _ hI (nI 4) (pa1) (pa2) (pa3) (xRec_n zk_4 (by decide))) hw_3_157 hmX0_add ⟨rfl, rfl⟩ (na := 4) rfl (by decide +kernel) (by decide) (by decide) rfl rfl hK hP hD hS hA hl.1 rfl (Nat.le_of_ble_eq_true rfl) ⟨Nat.zero_le _, Nat.zero_le _⟩ dX10_perform_9 (fun I_1 R_1 J_1 H locs hp_1 hP hD hS _ _ => ?_)
  refine lv_aload_n hx hb dX10_perform_12 rfl (lv_at hl 0 rfl) ?_
  refine z_get hx hb ht hown hK hP ziX10 rfl 0 (by decide) 4 (by decide) hw_2_97 rfl (v := .ref (q 15)) rfl dX10_perform_13 ?_
  refine lv_iload_n hx hb dX10_perform_16 rfl (lv_at hl 1 rfl) ?_
  refine lv_iload_n hx hb dX10_perform_17 rfl (lv_at hl 2 rfl) ?_
  refine lv_iload_n hx hb dX10_perform_18 rfl (lv_at hl 3 rfl) ?_
  refine lv_iload hx hb dX10_perform_19 (lv_at hl 4 rfl) ?_
  refine z_callVi (k := 15) (As := [.int (nI 4), .int (pa1), .int (pa2), .int (pa3)]) (rest := []) hx hb hml hown ht (xk_X9_act_4 l D q cA F _ _ _ hp_1 (pa1) hpa1 (pa2) hpa2 (pa3) hpa3) hw_3_161 hmX9_act ⟨rfl, rfl⟩ (na := 4) rfl (by decide +kernel) (by decide) (by decide) rfl rfl hK hP hD hS hA hl.1 rfl (Nat.le_of_ble_eq_true rfl) ⟨Nat.zero_le _, Nat.zero_le _⟩ dX10_perform_21 (fun r_2 I_2 R_2 J_2 H locs hp_2 hP hD hS _ _ => ?_)
  obtain ⟨hr_2, hu_2⟩ := hp_2
  exact z_iret (v := r_2) hx hb hr hlocks hP hD hS dX10_perform_24 ⟨hr_2, hu_2⟩
set_option maxHeartbeats 4000000 in
set_option maxRecDepth 100000 in
theorem xk_X10_lock (l : Launch) (D : va_G) (q : Nat → Nat) (cA : Nat → ClassId) (F : Nat → Nat → Int32) (I R : Nat → Nat → Int32) (J : Nat → Nat → Int64) (hI : xInv F (I, R, J)) (pa0 : Int32) (pa1 : Int32) : zMi l D vwCl (zXtys cA) 81 q (zXd q cA) yX10_lock cX10_lock 3 (some .int) ({ frames := 3, cells := 0, slots := 0, locals := 71 } : Room) [.ref (q 0), .int (pa0), .int (pa1)] (I, R, J) (fun r u => zR (-5) 1 r ∧ xInv F u) := by
  intro sz
  refine z_body (by decide +kernel) (Nat.le_of_ble_eq_true rfl) (fun p e s m below meth c ls hx hb hml hr ht hown hlocks hsz hK hP hD hS hl => ?_)
  have hA : ∀ a, s.heap.size ≤ a → zA 81 q sz a := fun a h => Or.inr (hsz ▸ h)
  have hl : lv_has ls 3 [(0, .ref (q 0)), (1, .int (pa0)), (2, .int (pa1))] := hl
  refine lv_aload_n hx hb dX10_lock_0 rfl (lv_at hl 0 rfl) ?_
  refine lv_iload_n hx hb dX10_lock_1 rfl (lv_at hl 1 rfl) ?_
  refine z_callVi (k := 0) (As := [.int (pa0)]) (rest := []) hx hb hml hown ht (xk_X10_isHouse l D q cA F _ _ _ hI (pa0)) hw_3_59 hmX10_isHouse ⟨rfl, rfl⟩ (na := 1) rfl (by decide +kernel) (by decide) (by decide) rfl rfl hK hP hD hS hA hl.1 rfl (Nat.le_of_ble_eq_true rfl) ⟨Nat.zero_le _, Nat.zero_le _⟩ dX10_lock_2 (fun r_1 I_1 R_1 J_1 H locs hp_1 hP hD hS _ _ => ?_)
  rcases hp_1 with ⟨rfl, hu_1, f0_1⟩ | ⟨rfl, hu_1⟩
  · cases hu_1
    refine lv_if_eq (tgt := 17) hx hb dX10_lock_5 (by decide) (fun c_0 => absurd c_0 (zD_ne zk_1 zk_z (by decide))) (fun _ => ?_)
    refine lv_iload_n hx hb dX10_lock_8 rfl (lv_at hl 2 rfl) ?_
    refine lv_if_lt (tgt := 17) hx hb dX10_lock_9 (by decide) (fun c_2 => ?_) (fun c_2 => ?_)
    · have t_c_2 := z_ltT c_2
      have f_3 : zR (-2147483648) (-1) (pa1) := zR_ltx t_c_2 (zR_any (pa1)) zk_z (by decide)
      refine lv_bipush (v := (-2)) hx hb dX10_lock_17 (by decide +kernel) ?_
      exact z_iret (v := (-2)) hx hb hr hlocks hP hD hS dX10_lock_19 ⟨(zR_w zk_m2 (by decide)), hI⟩
    · have t_c_2 := z_ltF c_2
      have f_4 : zR 0 2147483647 (pa1) := zR_ley t_c_2 zk_z (zR_any (pa1)) (by decide)
      refine lv_iload_n hx hb dX10_lock_12 rfl (lv_at hl 2 rfl) ?_
      refine lv_iconst (v := nI 1) hx hb dX10_lock_13 (by decide +kernel) ?_
      refine lv_icmp_le (tgt := 20) hx hb dX10_lock_14 (by decide) (fun c_5 => ?_) (fun c_5 => ?_)
      · have t_c_5 := z_leT c_5
        have f_6 : zR 0 1 (pa1) := zR_lex t_c_5 f_4 zk_1 (by decide)
        refine lv_aload_n hx hb dX10_lock_20 rfl (lv_at hl 0 rfl) ?_
        refine z_callVi (k := 0) (As := []) (rest := []) hx hb hml hown ht (xk_X10_isFull l D q cA F _ _ _ hI ) hw_3_144 hmX10_isFull ⟨rfl, rfl⟩ (na := 0) rfl (by decide +kernel) (by decide) (by decide) rfl rfl hK hP hD hS hA hl.1 rfl (Nat.le_of_ble_eq_true rfl) ⟨Nat.zero_le _, Nat.zero_le _⟩ dX10_lock_21 (fun r_7 I_7 R_7 J_7 H locs hp_7 hP hD hS _ _ => ?_)
        rcases hp_7 with ⟨rfl, hu_7⟩ | ⟨rfl, hu_7⟩
        · cases hu_7
          refine lv_if_eq (tgt := 32) hx hb dX10_lock_24 (by decide) (fun c_0 => absurd c_0 (zD_ne zk_1 zk_z (by decide))) (fun _ => ?_)
          refine lv_bipush (v := (-5)) hx hb dX10_lock_27 (by decide +kernel) ?_
          refine lv_goto (tgt := 40) hx hb dX10_lock_29 (by decide) ?_
          exact z_iret (v := (-5)) hx hb hr hlocks hP hD hS dX10_lock_40 ⟨(zR_w zk_m5 (by decide)), hI⟩
        · cases hu_7
          refine lv_if_eq (tgt := 32) hx hb dX10_lock_24 (by decide) (fun _ => ?_) (fun c_0 => absurd (zD_eq zk_0 zk_z) c_0)
          refine lv_aload_n hx hb dX10_lock_32 rfl (lv_at hl 0 rfl) ?_
          refine lv_iconst (v := nI 4) hx hb dX10_lock_33 (by decide +kernel) ?_
          refine lv_iload_n hx hb dX10_lock_34 rfl (lv_at hl 1 rfl) ?_
          refine lv_iload_n hx hb dX10_lock_35 rfl (lv_at hl 2 rfl) ?_
          refine lv_iconst (v := nI 0) hx hb dX10_lock_36 (by decide +kernel) ?_
          refine z_callVi (k := 0) (As := [.int (nI 4), .int (pa0), .int (pa1), .int (nI 0)]) (rest := []) hx hb hml hown ht (xk_X10_perform_4 l D q cA F _ _ _ hI (pa0) f0_1 (pa1) f_6 (nI 0) (zR_w zk_0 (by decide))) hw_3_153 hmX10_perform ⟨rfl, rfl⟩ (na := 4) rfl (by decide +kernel) (by decide) (by decide) rfl rfl hK hP hD hS hA hl.1 rfl (Nat.le_of_ble_eq_true rfl) ⟨Nat.zero_le _, Nat.zero_le _⟩ dX10_lock_37 (fun r_8 I_8 R_8 J_8 H locs hp_8 hP hD hS _ _ => ?_)
          obtain ⟨hr_8, hu_8⟩ := hp_8
          exact z_iret (v := r_8) hx hb hr hlocks hP hD hS dX10_lock_40 ⟨(zR_w hr_8 (by decide)), hu_8⟩
      · have t_c_5 := z_leF c_5
        have f_9 : zR 2 2147483647 (pa1) := zR_lty t_c_5 zk_1 f_4 (by decide)
        refine lv_bipush (v := (-2)) hx hb dX10_lock_17 (by decide +kernel) ?_
        exact z_iret (v := (-2)) hx hb hr hlocks hP hD hS dX10_lock_19 ⟨(zR_w zk_m2 (by decide)), hI⟩
  · cases hu_1
    refine lv_if_eq (tgt := 17) hx hb dX10_lock_5 (by decide) (fun _ => ?_) (fun c_0 => absurd (zD_eq zk_0 zk_z) c_0)
    refine lv_bipush (v := (-2)) hx hb dX10_lock_17 (by decide +kernel) ?_
    exact z_iret (v := (-2)) hx hb hr hlocks hP hD hS dX10_lock_19 ⟨(zR_w zk_m2 (by decide)), hI⟩
set_option maxHeartbeats 4000000 in
set_option maxRecDepth 100000 in
theorem xk_X10_hasCity (l : Launch) (D : va_G) (q : Nat → Nat) (cA : Nat → ClassId) (F : Nat → Nat → Int32) (I R : Nat → Nat → Int32) (J : Nat → Nat → Int64) (hI : xInv F (I, R, J))  : zMi l D vwCl (zXtys cA) 81 q (zXd q cA) yX10_hasCity cX10_hasCity 1 (some .boolean) ({ frames := 0, cells := 0, slots := 0, locals := 0 } : Room) [.ref (q 0)] (I, R, J) (fun r u => (r = nI 1 ∧ u = (I, R, J)) ∨ (r = nI 0 ∧ u = (I, R, J))) := by
  intro sz
  refine z_body (by decide +kernel) (Nat.le_of_ble_eq_true rfl) (fun p e s m below meth c ls hx hb hml hr ht hown hlocks hsz hK hP hD hS hl => ?_)
  have hA : ∀ a, s.heap.size ≤ a → zA 81 q sz a := fun a h => Or.inr (hsz ▸ h)
  have hl : lv_has ls 1 [(0, .ref (q 0))] := hl
  refine lv_aload_n hx hb dX10_hasCity_0 rfl (lv_at hl 0 rfl) ?_
  refine z_get hx hb ht hown hK hP ziX10 rfl 0 (by decide) 1 (by decide) hw_2_94 rfl (v := .ref (q 3)) rfl dX10_hasCity_1 ?_
  refine z_get hx hb ht hown hK hP ziX2 rfl 3 (by decide) 0 (by decide) hw_1_68 rfl (v := .int (I 3 0)) rfl dX10_hasCity_4 ?_
  refine lv_if_le (tgt := 14) hx hb dX10_hasCity_7 (by decide) (fun c_1 => ?_) (fun c_1 => ?_)
  · have t_c_1 := z_leT c_1
    have f_2 : zR (-2147483648) 0 (I 3 0) := zR_lex t_c_1 (zR_any (I 3 0)) zk_z (by decide)
    refine lv_iconst (v := nI 0) hx hb dX10_hasCity_14 (by decide +kernel) ?_
    exact z_zret (v := nI 0) hx hb hr hlocks hP hD hS (by decide +kernel) dX10_hasCity_15 (Or.inr ⟨rfl, rfl⟩)
  · have t_c_1 := z_leF c_1
    have f_3 : zR 1 2147483647 (I 3 0) := zR_lty t_c_1 zk_z (zR_any (I 3 0)) (by decide)
    refine lv_iconst (v := nI 1) hx hb dX10_hasCity_10 (by decide +kernel) ?_
    refine lv_goto (tgt := 15) hx hb dX10_hasCity_11 (by decide) ?_
    exact z_zret (v := nI 1) hx hb hr hlocks hP hD hS (by decide +kernel) dX10_hasCity_15 (Or.inl ⟨rfl, rfl⟩)
set_option maxHeartbeats 4000000 in
set_option maxRecDepth 100000 in
theorem xk_J7_fill_53178_2 (l : Launch) (D : va_G) (q : Nat → Nat) (cA : Nat → ClassId) (F : Nat → Nat → Int32) (I R : Nat → Nat → Int32) (J : Nat → Nat → Int64) (hI : xInv F (I, R, J)) (pa1 : Int32) (hpa1 : zR 0 1 pa1) : zMv l D vwCl (zXtys cA) 81 q (zXd q cA) yJ7_fill_53178 cJ7_fill_53178 4 none ({ frames := 0, cells := 0, slots := 0, locals := 0 } : Room) [.ref (q 25), .int (pa1)] (I, R, J) (fun u => xInv F u) := by
  intro sz
  refine z_body (by decide +kernel) (Nat.le_of_ble_eq_true rfl) (fun p e s m below meth c ls hx hb hml hr ht hown hlocks hsz hK hP hD hS hl => ?_)
  have hA : ∀ a, s.heap.size ≤ a → zA 81 q sz a := fun a h => Or.inr (hsz ▸ h)
  have hl : lv_has ls 4 [(0, .ref (q 25)), (1, .int (pa1))] := hl
  refine lv_iconst (v := nI 0) hx hb dJ7_fill_53178_0 (by decide +kernel) ?_
  refine lv_istore_n (lv' := [(2, .int (nI 0)), (0, .ref (q 25)), (1, .int (pa1))]) hx hb dJ7_fill_53178_1 rfl hl (by decide) rfl (fun ls hl => ?_)
  refine lv_aload_n hx hb dJ7_fill_53178_2 rfl (lv_at hl 1 rfl) ?_
  refine z_alen hx hb hK hP 25 (by decide) 19 rfl rfl dJ7_fill_53178_3 ?_
  refine lv_istore_n (lv' := [(3, .int (nI 5)), (2, .int (nI 0)), (0, .ref (q 25)), (1, .int (pa1))]) hx hb dJ7_fill_53178_4 rfl hl (by decide) rfl (fun ls hl => ?_)
  have loop_22 : ∀ N : Nat, ∀ x_20 : Int32, zR 0 5 x_20 → ∀ R_21 : Nat → Nat → Int32, xInv F (I, R_21, J) → (2147483648 - (x_20).toInt).toNat < N → ∀ (H : Heap) (locs : List Loc), va_P D vwCl (zw 81 q (zXd q cA) I R_21 J) H → va_D (zA 81 q sz) (zw 81 q (zXd q cA) I R_21 J) → va_S (zA 81 q sz) s.heap H locs → ∀ ls : Array Slot, lv_has ls 4 [(0, .ref (q 25)), (1, .int (pa1)), (2, .int (x_20)), (3, .int (nI 5))] → W p l e ({ frames := 0, cells := 0, slots := 0, locals := 0 } : Room) s m ([.ref (q 25), .int (pa1)] : List Value).toArray below meth c H locs 0 0 (MQ below (va_Qv (fun u => xInv F u) (zB D vwCl 81 q (zXd q cA) sz) (zA 81 q sz)) ([.ref (q 25), .int (pa1)] : List Value).toArray s 0 0 (zA 81 q sz)) (F0 m 5 ls []) := by
    intro N
    induction N with
    | zero => intro x_20 hx_20 R_21 hI_21 hN; exact absurd hN (Nat.not_lt_zero _)
    | succ N ih_24 =>
      intro x_20 hx_20 R_21 hI_21 hN_23 H locs hP hD hS ls hl
      refine lv_iload_n hx hb dJ7_fill_53178_5 rfl (lv_at hl 2 rfl) ?_
      refine lv_iload_n hx hb dJ7_fill_53178_6 rfl (lv_at hl 3 rfl) ?_
      refine lv_icmp_ge (tgt := 20) hx hb dJ7_fill_53178_7 (by decide) (fun c_25 => ?_) (fun c_25 => ?_)
      · have t_c_25 := z_leT c_25
        have f_26 : zR 5 5 (x_20) := zR_ley t_c_25 zk_5 hx_20 (by decide)
        exact z_vret hx hb hr hlocks hP hD hS dJ7_fill_53178_20 hI_21
      · have t_c_25 := z_leF c_25
        have f_27 : zR 0 4 (x_20) := zR_ltx t_c_25 hx_20 zk_5 (by decide)
        refine lv_aload_n hx hb dJ7_fill_53178_10 rfl (lv_at hl 0 rfl) ?_
        refine lv_iload_n hx hb dJ7_fill_53178_11 rfl (lv_at hl 2 rfl) ?_
        refine lv_iload_n hx hb dJ7_fill_53178_12 rfl (lv_at hl 1 rfl) ?_
        refine z_iast hx hb hK hP hD hS 25 (by decide) 19 (fun _ => rfl) rfl (zR_vin f_27 (by decide)) dJ7_fill_53178_13 (fun H locs hP hD hS => ?_)
        have hI_28 := xInv_R hI_21 25 (x_20).toNatClampNeg (pa1) (zR_any _) rfl
        obtain ⟨v_29, ev_29⟩ : ∃ y : Int32, y = x_20 + nI 1 := ⟨_, rfl⟩
        have hv_29 : zR 1 5 v_29 := ev_29 ▸ zR_add f_27 zk_1 (by decide)
        have mv_29 : v_29.toInt = (x_20).toInt + 1 := by rw [ev_29, zR_addE f_27 zk_1 (by decide)]; rfl
        refine lv_iinc (v := v_29) (lv' := [(2, .int (v_29)), (0, .ref (q 25)), (1, .int (pa1)), (3, .int (nI 5))]) hx hb dJ7_fill_53178_14 hl (k := 2) rfl (ev_29 ▸ rfl) (by decide) rfl (fun ls hl => ?_)
        refine lv_goto (tgt := 5) hx hb dJ7_fill_53178_17 (by decide) ?_
        exact ih_24 (v_29) (zR_w hv_29 (by decide)) _ hI_28 (z2_up mv_29 (by decide) hN_23) _ _ hP hD hS _ (lv_sub hl [1, 2, 0, 3] rfl)
  exact loop_22 _ (nI 0) (zR_w zk_0 (by decide)) _ hI (Nat.lt_succ_self _) _ _ hP hD hS _ (lv_sub hl [2, 3, 1, 0] rfl)
set_option maxHeartbeats 4000000 in
set_option maxRecDepth 100000 in
theorem xk_X9_settle_1 (l : Launch) (D : va_G) (q : Nat → Nat) (cA : Nat → ClassId) (F : Nat → Nat → Int32) (I R : Nat → Nat → Int32) (J : Nat → Nat → Int64) (hI : xInv F (I, R, J)) (pa0 : Int32) (hpa0 : zR 0 23 pa0) : zMv l D vwCl (zXtys cA) 81 q (zXd q cA) yX9_settle cX9_settle 4 none ({ frames := 2, cells := 0, slots := 0, locals := 64 } : Room) [.ref (q 15), .int (pa0)] (I, R, J) (fun u => xInv F u) := by
  intro sz
  refine z_body (by decide +kernel) (Nat.le_of_ble_eq_true rfl) (fun p e s m below meth c ls hx hb hml hr ht hown hlocks hsz hK hP hD hS hl => ?_)
  have hA : ∀ a, s.heap.size ≤ a → zA 81 q sz a := fun a h => Or.inr (hsz ▸ h)
  have hl : lv_has ls 4 [(0, .ref (q 15)), (1, .int (pa0))] := hl
  refine lv_aload_n hx hb dX9_settle_0 rfl (lv_at hl 0 rfl) ?_
  refine z_get hx hb ht hown hK hP ziX9 rfl 15 (by decide) 7 (by decide) hw_1_171 rfl (v := .ref (q 19)) rfl dX9_settle_1 ?_
  refine lv_iload_n hx hb dX9_settle_4 rfl (lv_at hl 1 rfl) ?_
  refine z_iald hx hb hK hP 19 (by decide) 13 rfl rfl (zR_vin hpa0 (by decide)) dX9_settle_5 ?_
  refine z_eqi (y := R 19 (pa0).toNatClampNeg) rfl ?_
  have f_1 : zR 0 4 (R 19 (pa0).toNatClampNeg) := xR hI 19 (pa0).toNatClampNeg
  refine lv_istore_n (lv' := [(2, .int (R 19 (pa0).toNatClampNeg)), (0, .ref (q 15)), (1, .int (pa0))]) hx hb dX9_settle_6 rfl hl (by decide) rfl (fun ls hl => ?_)
  refine lv_aload_n hx hb dX9_settle_7 rfl (lv_at hl 1 rfl) ?_
  refine z_get hx hb ht hown hK hP ziX9 rfl 15 (by decide) 4 (by decide) hw_1_164 rfl (v := .ref (q 16)) rfl dX9_settle_8 ?_
  refine lv_iload_n hx hb dX9_settle_11 rfl (lv_at hl 0 rfl) ?_
  refine z_iald hx hb hK hP 16 (by decide) 10 rfl rfl (zR_vin f_1 (by decide)) dX9_settle_12 ?_
  refine z_eqi (y := R 16 (R 19 (pa0).toNatClampNeg).toNatClampNeg) rfl ?_
  refine lv_aload_n hx hb dX9_settle_13 rfl (lv_at hl 1 rfl) ?_
  refine lv_iload_n hx hb dX9_settle_14 rfl (lv_at hl 2 rfl) ?_
  refine z_callVi (k := 15) (As := [.int (pa0)]) (rest := [.int (R 16 (R 19 (pa0).toNatClampNeg).toNatClampNeg)]) hx hb hml hown ht (xk_X9_worthOf l D q cA F _ _ _ hI (pa0) hpa0) hw_3_120 hmX9_worthOf ⟨rfl, rfl⟩ (na := 1) rfl (by decide +kernel) (by decide) (by decide) rfl rfl hK hP hD hS hA hl.1 rfl (Nat.le_of_ble_eq_true rfl) ⟨Nat.zero_le _, Nat.zero_le _⟩ dX9_settle_15 (fun r_2 I_2 R_2 J_2 H locs hp_2 hP hD hS _ _ => ?_)
  cases hp_2
  refine lv_isub hx hb dX9_settle_18 ?_
  refine z_any (fun v_3 => ?_)
  refine lv_istore_n (lv' := [(3, .int (v_3)), (2, .int (R 19 (pa0).toNatClampNeg)), (0, .ref (q 15)), (1, .int (pa0))]) hx hb dX9_settle_19 rfl hl (by decide) rfl (fun ls hl => ?_)
  refine lv_aload_n hx hb dX9_settle_20 rfl (lv_at hl 2 rfl) ?_
  refine lv_iload_n hx hb dX9_settle_21 rfl (lv_at hl 3 rfl) ?_
  refine z_callVi (k := 15) (As := [.int (pa0)]) (rest := []) hx hb hml hown ht (xk_X9_thiefHasIt l D q cA F _ _ _ hI (pa0) hpa0) hw_3_212 hmX9_thiefHasIt ⟨rfl, rfl⟩ (na := 1) rfl (by decide +kernel) (by decide) (by decide) rfl rfl hK hP hD hS hA hl.1 rfl (Nat.le_of_ble_eq_true rfl) ⟨Nat.zero_le _, Nat.zero_le _⟩ dX9_settle_22 (fun r_4 I_4 R_4 J_4 H locs hp_4 hP hD hS _ _ => ?_)
  rcases hp_4 with ⟨rfl, hu_4⟩ | ⟨rfl, hu_4⟩
  · cases hu_4
    refine lv_if_eq (tgt := 63) hx hb dX9_settle_25 (by decide) (fun c_0 => absurd c_0 (zD_ne zk_1 zk_z (by decide))) (fun _ => ?_)
    refine lv_aload_n hx hb dX9_settle_28 rfl (lv_at hl 2 rfl) ?_
    refine z_get hx hb ht hown hK hP ziX9 rfl 15 (by decide) 13 (by decide) hw_1_188 rfl (v := .ref (q 25)) rfl dX9_settle_29 ?_
    refine lv_iload_n hx hb dX9_settle_32 rfl (lv_at hl 1 rfl) ?_
    refine z_iald hx hb hK hP 25 (by decide) 19 rfl rfl (zR_vin f_1 (by decide)) dX9_settle_33 ?_
    refine z_eqi (y := R 25 (R 19 (pa0).toNatClampNeg).toNatClampNeg) rfl ?_
    refine lv_aload_n hx hb dX9_settle_34 rfl (lv_at hl 2 rfl) ?_
    refine z_get hx hb ht hown hK hP ziX9 rfl 15 (by decide) 0 (by decide) hw_1_154 rfl (v := .ref (q 3)) rfl dX9_settle_35 ?_
    refine z_get hx hb ht hown hK hP ziX2 rfl 3 (by decide) 2 (by decide) hw_1_76 rfl (v := .int (I 3 2)) rfl dX9_settle_38 ?_
    refine lv_icmp_ge (tgt := 63) hx hb dX9_settle_41 (by decide) (fun c_5 => ?_) (fun c_5 => ?_)
    · have t_c_5 := z_leT c_5
      refine lv_iload_n hx hb dX9_settle_63 rfl (lv_at hl 0 rfl) ?_
      refine lv_if_lt (tgt := 109) hx hb dX9_settle_64 (by decide) (fun c_6 => ?_) (fun c_6 => ?_)
      · have t_c_6 := z_ltT c_6
        have f_7 : zR (-2147483648) (-1) (v_3) := zR_ltx t_c_6 (zR_any (v_3)) zk_z (by decide)
        refine lv_aload_n hx hb dX9_settle_109 rfl (lv_at hl 2 rfl) ?_
        refine z_get hx hb ht hown hK hP ziX9 rfl 15 (by decide) 11 (by decide) hw_1_185 rfl (v := .ref (q 23)) rfl dX9_settle_110 ?_
        refine lv_iload_n hx hb dX9_settle_113 rfl (lv_at hl 3 rfl) ?_
        refine lv_iconst (v := nI 3) hx hb dX9_settle_114 (by decide +kernel) ?_
        refine z_iast hx hb hK hP hD hS 23 (by decide) 17 (fun _ => rfl) rfl (zR_vin hpa0 (by decide)) dX9_settle_115 (fun H locs hP hD hS => ?_)
        have hI_8 := xInv_R hI 23 (pa0).toNatClampNeg (nI 3) (zR_any _) rfl
        exact z_vret hx hb hr hlocks hP hD hS dX9_settle_116 hI_8
      · have t_c_6 := z_ltF c_6
        have f_9 : zR 0 2147483647 (v_3) := zR_ley t_c_6 zk_z (zR_any (v_3)) (by decide)
        refine lv_aload_n hx hb dX9_settle_67 rfl (lv_at hl 2 rfl) ?_
        refine z_get hx hb ht hown hK hP ziX9 rfl 15 (by decide) 14 (by decide) hw_1_189 rfl (v := .ref (q 26)) rfl dX9_settle_68 ?_
        refine lv_iload_n hx hb dX9_settle_71 rfl (lv_at hl 1 rfl) ?_
        refine lv_aload_n hx hb dX9_settle_72 rfl (lv_at hl 2 rfl) ?_
        refine z_get hx hb ht hown hK hP ziX9 rfl 15 (by decide) 14 (by decide) hw_1_189 rfl (v := .ref (q 26)) rfl dX9_settle_73 ?_
        refine lv_iload_n hx hb dX9_settle_76 rfl (lv_at hl 1 rfl) ?_
        refine z_iald hx hb hK hP 26 (by decide) 20 rfl rfl (zR_vin f_1 (by decide)) dX9_settle_77 ?_
        refine z_eqi (y := R 26 (R 19 (pa0).toNatClampNeg).toNatClampNeg) rfl ?_
        refine lv_iload_n hx hb dX9_settle_78 rfl (lv_at hl 0 rfl) ?_
        refine va_mmin hx hb (hml.trans hl.1.symm) hown (ht _ hw_3_216) (ht _ hw_3_217) (ht _ hw_1_19) (ht _ hw_3_218) (by decide) (Nat.le_of_ble_eq_true rfl) (Nat.zero_le _) (Nat.zero_le _) dX9_settle_79 ?_
        refine z_any (fun v_10 => ?_)
        refine z_iast hx hb hK hP hD hS 26 (by decide) 20 (fun _ => rfl) rfl (zR_vin f_1 (by decide)) dX9_settle_82 (fun H locs hP hD hS => ?_)
        have hI_11 := xInv_R hI 26 (R 19 (pa0).toNatClampNeg).toNatClampNeg (v_10) (zR_any _) rfl
        refine lv_aload_n hx hb dX9_settle_83 rfl (lv_at hl 2 rfl) ?_
        refine lv_iload_n hx hb dX9_settle_84 rfl (lv_at hl 1 rfl) ?_
        refine lv_aload_n hx hb dX9_settle_85 rfl (lv_at hl 2 rfl) ?_
        refine z_get hx hb ht hown hK hP ziX9 rfl 15 (by decide) 9 (by decide) hw_1_179 rfl (v := .ref (q 21)) rfl dX9_settle_86 ?_
        refine lv_iload_n hx hb dX9_settle_89 rfl (lv_at hl 3 rfl) ?_
        refine z_iald hx hb hK hP 21 (by decide) 15 rfl rfl (zR_vin hpa0 (by decide)) dX9_settle_90 ?_
        refine z_eqi (y := R 21 (pa0).toNatClampNeg) rfl ?_
        have f_12 : zR 0 4 (R 21 (pa0).toNatClampNeg) := xR hI 21 (pa0).toNatClampNeg
        refine lv_aload_n hx hb dX9_settle_91 rfl (lv_at hl 2 rfl) ?_
        refine lv_iload_n hx hb dX9_settle_92 rfl (lv_at hl 3 rfl) ?_
        refine z_callVi (k := 15) (As := [.int (pa0)]) (rest := [.int (R 21 (pa0).toNatClampNeg), .int (R 19 (pa0).toNatClampNeg), .ref (q 15)]) hx hb hml hown ht (xk_X9_worthOf l D q cA F _ _ _ hI_11 (pa0) hpa0) hw_3_120 hmX9_worthOf ⟨rfl, rfl⟩ (na := 1) rfl (by decide +kernel) (by decide) (by decide) rfl rfl hK hP hD hS hA hl.1 rfl (Nat.le_of_ble_eq_true rfl) ⟨Nat.zero_le _, Nat.zero_le _⟩ dX9_settle_93 (fun r_13 I_13 R_13 J_13 H locs hp_13 hP hD hS _ _ => ?_)
        cases hp_13
        refine z_callVv (k := 15) (As := [.int (R 19 (pa0).toNatClampNeg), .int (R 21 (pa0).toNatClampNeg), .int (r_13)]) (rest := []) hx hb hml hown ht (xk_X9_pay l D q cA F _ _ _ hI_11 (R 19 (pa0).toNatClampNeg) f_1 (R 21 (pa0).toNatClampNeg) f_12 (r_13)) hw_3_178 hmX9_pay ⟨rfl, rfl⟩ (na := 3) rfl (by decide +kernel) (by decide) (by decide) rfl rfl hK hP hD hS hA hl.1 rfl (Nat.le_of_ble_eq_true rfl) ⟨Nat.zero_le _, Nat.zero_le _⟩ dX9_settle_96 (fun I_14 R_14 J_14 H locs hp_14 hP hD hS _ _ => ?_)
        refine lv_aload_n hx hb dX9_settle_99 rfl (lv_at hl 2 rfl) ?_
        refine z_get hx hb ht hown hK hP ziX9 rfl 15 (by decide) 11 (by decide) hw_1_185 rfl (v := .ref (q 23)) rfl dX9_settle_100 ?_
        refine lv_iload_n hx hb dX9_settle_103 rfl (lv_at hl 3 rfl) ?_
        refine lv_iconst (v := nI 2) hx hb dX9_settle_104 (by decide +kernel) ?_
        refine z_iast hx hb hK hP hD hS 23 (by decide) 17 (fun _ => rfl) rfl (zR_vin hpa0 (by decide)) dX9_settle_105 (fun H locs hP hD hS => ?_)
        have hI_15 := xInv_R hp_14 23 (pa0).toNatClampNeg (nI 2) (zR_any _) rfl
        refine lv_goto (tgt := 116) hx hb dX9_settle_106 (by decide) ?_
        exact z_vret hx hb hr hlocks hP hD hS dX9_settle_116 hI_15
    · have t_c_5 := z_leF c_5
      have f_16 : zR (-2147483648) 2147483646 (R 25 (R 19 (pa0).toNatClampNeg).toNatClampNeg) := zR_ltx t_c_5 (zR_any (R 25 (R 19 (pa0).toNatClampNeg).toNatClampNeg)) (zR_any (I 3 2)) (by decide)
      have f_17 : zR (-2147483647) 2147483647 (I 3 2) := zR_lty t_c_5 (zR_any (R 25 (R 19 (pa0).toNatClampNeg).toNatClampNeg)) (zR_any (I 3 2)) (by decide)
      refine lv_aload_n hx hb dX9_settle_44 rfl (lv_at hl 2 rfl) ?_
      refine z_get hx hb ht hown hK hP ziX9 rfl 15 (by decide) 13 (by decide) hw_1_188 rfl (v := .ref (q 25)) rfl dX9_settle_45 ?_
      refine lv_iload_n hx hb dX9_settle_48 rfl (lv_at hl 1 rfl) ?_
      refine lv_dup2_11 hx hb dX9_settle_49 rfl rfl ?_
      refine z_iald hx hb hK hP 25 (by decide) 19 rfl rfl (zR_vin f_1 (by decide)) dX9_settle_50 ?_
      refine z_eqi (y := R 25 (R 19 (pa0).toNatClampNeg).toNatClampNeg) rfl ?_
      refine lv_iconst (v := nI 1) hx hb dX9_settle_51 (by decide +kernel) ?_
      refine lv_iadd hx hb dX9_settle_52 ?_
      refine z_addc (-2147483647) 2147483647 f_16 zk_1 (by decide) (fun v_18 hv_18 mv_18 => ?_)
      refine z_iast hx hb hK hP hD hS 25 (by decide) 19 (fun _ => rfl) rfl (zR_vin f_1 (by decide)) dX9_settle_53 (fun H locs hP hD hS => ?_)
      have hI_19 := xInv_R hI 25 (R 19 (pa0).toNatClampNeg).toNatClampNeg (v_18) (zR_any _) rfl
      refine lv_aload_n hx hb dX9_settle_54 rfl (lv_at hl 2 rfl) ?_
      refine lv_iload_n hx hb dX9_settle_55 rfl (lv_at hl 3 rfl) ?_
      refine z_callVi (k := 15) (As := [.int (pa0)]) (rest := []) hx hb hml hown ht (xk_X9_giveBack l D q cA F _ _ _ hI_19 (pa0) hpa0) hw_3_182 hmX9_giveBack ⟨rfl, rfl⟩ (na := 1) rfl (by decide +kernel) (by decide) (by decide) rfl rfl hK hP hD hS hA hl.1 rfl (Nat.le_of_ble_eq_true rfl) ⟨Nat.zero_le _, Nat.zero_le _⟩ dX9_settle_56 (fun r_20 I_20 R_20 J_20 H locs hp_20 hP hD hS _ _ => ?_)
      obtain ⟨hr_20, hu_20⟩ := hp_20
      refine lv_pop hx hb dX9_settle_59 rfl ?_
      refine lv_goto (tgt := 116) hx hb dX9_settle_60 (by decide) ?_
      exact z_vret hx hb hr hlocks hP hD hS dX9_settle_116 hu_20
  · cases hu_4
    refine lv_if_eq (tgt := 63) hx hb dX9_settle_25 (by decide) (fun _ => ?_) (fun c_0 => absurd (zD_eq zk_0 zk_z) c_0)
    refine lv_iload_n hx hb dX9_settle_63 rfl (lv_at hl 0 rfl) ?_
    refine lv_if_lt (tgt := 109) hx hb dX9_settle_64 (by decide) (fun c_21 => ?_) (fun c_21 => ?_)
    · have t_c_21 := z_ltT c_21
      have f_22 : zR (-2147483648) (-1) (v_3) := zR_ltx t_c_21 (zR_any (v_3)) zk_z (by decide)
      refine lv_aload_n hx hb dX9_settle_109 rfl (lv_at hl 2 rfl) ?_
      refine z_get hx hb ht hown hK hP ziX9 rfl 15 (by decide) 11 (by decide) hw_1_185 rfl (v := .ref (q 23)) rfl dX9_settle_110 ?_
      refine lv_iload_n hx hb dX9_settle_113 rfl (lv_at hl 3 rfl) ?_
      refine lv_iconst (v := nI 3) hx hb dX9_settle_114 (by decide +kernel) ?_
      refine z_iast hx hb hK hP hD hS 23 (by decide) 17 (fun _ => rfl) rfl (zR_vin hpa0 (by decide)) dX9_settle_115 (fun H locs hP hD hS => ?_)
      have hI_23 := xInv_R hI 23 (pa0).toNatClampNeg (nI 3) (zR_any _) rfl
      exact z_vret hx hb hr hlocks hP hD hS dX9_settle_116 hI_23
    · have t_c_21 := z_ltF c_21
      have f_24 : zR 0 2147483647 (v_3) := zR_ley t_c_21 zk_z (zR_any (v_3)) (by decide)
      refine lv_aload_n hx hb dX9_settle_67 rfl (lv_at hl 2 rfl) ?_
      refine z_get hx hb ht hown hK hP ziX9 rfl 15 (by decide) 14 (by decide) hw_1_189 rfl (v := .ref (q 26)) rfl dX9_settle_68 ?_
      refine lv_iload_n hx hb dX9_settle_71 rfl (lv_at hl 1 rfl) ?_
      refine lv_aload_n hx hb dX9_settle_72 rfl (lv_at hl 2 rfl) ?_
      refine z_get hx hb ht hown hK hP ziX9 rfl 15 (by decide) 14 (by decide) hw_1_189 rfl (v := .ref (q 26)) rfl dX9_settle_73 ?_
      refine lv_iload_n hx hb dX9_settle_76 rfl (lv_at hl 1 rfl) ?_
      refine z_iald hx hb hK hP 26 (by decide) 20 rfl rfl (zR_vin f_1 (by decide)) dX9_settle_77 ?_
      refine z_eqi (y := R 26 (R 19 (pa0).toNatClampNeg).toNatClampNeg) rfl ?_
      refine lv_iload_n hx hb dX9_settle_78 rfl (lv_at hl 0 rfl) ?_
      refine va_mmin hx hb (hml.trans hl.1.symm) hown (ht _ hw_3_216) (ht _ hw_3_217) (ht _ hw_1_19) (ht _ hw_3_218) (by decide) (Nat.le_of_ble_eq_true rfl) (Nat.zero_le _) (Nat.zero_le _) dX9_settle_79 ?_
      refine z_any (fun v_25 => ?_)
      refine z_iast hx hb hK hP hD hS 26 (by decide) 20 (fun _ => rfl) rfl (zR_vin f_1 (by decide)) dX9_settle_82 (fun H locs hP hD hS => ?_)
      have hI_26 := xInv_R hI 26 (R 19 (pa0).toNatClampNeg).toNatClampNeg (v_25) (zR_any _) rfl
      refine lv_aload_n hx hb dX9_settle_83 rfl (lv_at hl 2 rfl) ?_
      refine lv_iload_n hx hb dX9_settle_84 rfl (lv_at hl 1 rfl) ?_
      refine lv_aload_n hx hb dX9_settle_85 rfl (lv_at hl 2 rfl) ?_
      refine z_get hx hb ht hown hK hP ziX9 rfl 15 (by decide) 9 (by decide) hw_1_179 rfl (v := .ref (q 21)) rfl dX9_settle_86 ?_
      refine lv_iload_n hx hb dX9_settle_89 rfl (lv_at hl 3 rfl) ?_
      refine z_iald hx hb hK hP 21 (by decide) 15 rfl rfl (zR_vin hpa0 (by decide)) dX9_settle_90 ?_
      refine z_eqi (y := R 21 (pa0).toNatClampNeg) rfl ?_
      have f_27 : zR 0 4 (R 21 (pa0).toNatClampNeg) := xR hI 21 (pa0).toNatClampNeg
      refine lv_aload_n hx hb dX9_settle_91 rfl (lv_at hl 2 rfl) ?_
      refine lv_iload_n hx hb dX9_settle_92 rfl (lv_at hl 3 rfl) ?_
      refine z_callVi (k := 15) (As := [.int (pa0)]) (rest := [.int (R 21 (pa0).toNatClampNeg), .int (R 19 (pa0).toNatClampNeg), .ref (q 15)]) hx hb hml hown ht (xk_X9_worthOf l D q cA F _ _ _ hI_26 (pa0) hpa0) hw_3_120 hmX9_worthOf ⟨rfl, rfl⟩ (na := 1) rfl (by decide +kernel) (by decide) (by decide) rfl rfl hK hP hD hS hA hl.1 rfl (Nat.le_of_ble_eq_true rfl) ⟨Nat.zero_le _, Nat.zero_le _⟩ dX9_settle_93 (fun r_28 I_28 R_28 J_28 H locs hp_28 hP hD hS _ _ => ?_)
      cases hp_28
      refine z_callVv (k := 15) (As := [.int (R 19 (pa0).toNatClampNeg), .int (R 21 (pa0).toNatClampNeg), .int (r_28)]) (rest := []) hx hb hml hown ht (xk_X9_pay l D q cA F _ _ _ hI_26 (R 19 (pa0).toNatClampNeg) f_1 (R 21 (pa0).toNatClampNeg) f_27 (r_28)) hw_3_178 hmX9_pay ⟨rfl, rfl⟩ (na := 3) rfl (by decide +kernel) (by decide) (by decide) rfl rfl hK hP hD hS hA hl.1 rfl (Nat.le_of_ble_eq_true rfl) ⟨Nat.zero_le _, Nat.zero_le _⟩ dX9_settle_96 (fun I_29 R_29 J_29 H locs hp_29 hP hD hS _ _ => ?_)
      refine lv_aload_n hx hb dX9_settle_99 rfl (lv_at hl 2 rfl) ?_
      refine z_get hx hb ht hown hK hP ziX9 rfl 15 (by decide) 11 (by decide) hw_1_185 rfl (v := .ref (q 23)) rfl dX9_settle_100 ?_
      refine lv_iload_n hx hb dX9_settle_103 rfl (lv_at hl 3 rfl) ?_
      refine lv_iconst (v := nI 2) hx hb dX9_settle_104 (by decide +kernel) ?_
      refine z_iast hx hb hK hP hD hS 23 (by decide) 17 (fun _ => rfl) rfl (zR_vin hpa0 (by decide)) dX9_settle_105 (fun H locs hP hD hS => ?_)
      have hI_30 := xInv_R hp_29 23 (pa0).toNatClampNeg (nI 2) (zR_any _) rfl
      refine lv_goto (tgt := 116) hx hb dX9_settle_106 (by decide) ?_
      exact z_vret hx hb hr hlocks hP hD hS dX9_settle_116 hI_30
set_option maxHeartbeats 4000000 in
set_option maxRecDepth 100000 in
theorem xk_X9_passNight (l : Launch) (D : va_G) (q : Nat → Nat) (cA : Nat → ClassId) (F : Nat → Nat → Int32) (I R : Nat → Nat → Int32) (J : Nat → Nat → Int64) (hI : xInv F (I, R, J))  : zMi l D vwCl (zXtys cA) 81 q (zXd q cA) yX9_passNight cX9_passNight 3 (some .int) ({ frames := 3, cells := 0, slots := 0, locals := 87 } : Room) [.ref (q 15)] (I, R, J) (fun r u => zR 0 16777215 r ∧ xInv F u) := by
  intro sz
  refine z_body (by decide +kernel) (Nat.le_of_ble_eq_true rfl) (fun p e s m below meth c ls hx hb hml hr ht hown hlocks hsz hK hP hD hS hl => ?_)
  have hA : ∀ a, s.heap.size ≤ a → zA 81 q sz a := fun a h => Or.inr (hsz ▸ h)
  have hl : lv_has ls 3 [(0, .ref (q 15))] := hl
  refine lv_aload_n hx hb dX9_passNight_0 rfl (lv_at hl 0 rfl) ?_
  refine lv_dup hx hb dX9_passNight_1 rfl ?_
  refine z_get hx hb ht hown hK hP ziX9 rfl 15 (by decide) 1 (by decide) hw_1_157 rfl (v := .int (I 15 1)) rfl dX9_passNight_2 ?_
  refine lv_iconst (v := nI 1) hx hb dX9_passNight_5 (by decide +kernel) ?_
  refine lv_iadd hx hb dX9_passNight_6 ?_
  refine z_any (fun v_1 => ?_)
  refine z_putI hx hb ht hown hK hP hD hS ziX9 tyX9 tyX9_ok nmX9 rfl 15 (by decide) 1 (by decide) hw_1_157 rfl (v := v_1) rfl rfl rfl (Nat.le_of_ble_eq_true rfl) rfl dX9_passNight_7 (fun H locs hP hD hS => ?_)
  have hI_2 := xInv_I hI 15 1 (v_1) (zR_any (v_1)) rfl
  refine lv_aload_n hx hb dX9_passNight_10 rfl (lv_at hl 0 rfl) ?_
  refine z_get hx hb ht hown hK hP ziX9 rfl 15 (by decide) 13 (by decide) hw_1_188 rfl (v := .ref (q 25)) rfl dX9_passNight_11 ?_
  refine lv_iconst (v := nI 0) hx hb dX9_passNight_14 (by decide +kernel) ?_
  refine z_callSv (As := [.ref (q 25), .int (nI 0)]) (rest := []) hx hb hml hown ht (xk_J7_fill_53178_2 l D q cA F _ _ _ hI_2 (nI 0) (zR_w zk_0 (by decide))) hw_3_50 hmJ7_fill_53178 ⟨rfl, rfl⟩ (na := 2) rfl (by decide +kernel) (by decide) hK hP hD hS hA hl.1 rfl (Nat.le_of_ble_eq_true rfl) ⟨Nat.zero_le _, Nat.zero_le _⟩ dX9_passNight_15 (fun I_3 R_3 J_3 H locs hp_3 hP hD hS _ _ => ?_)
  refine lv_iconst (v := nI 0) hx hb dX9_passNight_18 (by decide +kernel) ?_
  refine lv_istore_n (lv' := [(1, .int (nI 0)), (0, .ref (q 15))]) hx hb dX9_passNight_19 rfl hl (by decide) rfl (fun ls hl => ?_)
  refine lv_iconst (v := nI 0) hx hb dX9_passNight_20 (by decide +kernel) ?_
  refine lv_istore_n (lv' := [(2, .int (nI 0)), (1, .int (nI 0)), (0, .ref (q 15))]) hx hb dX9_passNight_21 rfl hl (by decide) rfl (fun ls hl => ?_)
  have loop_92 : ∀ N : Nat, ∀ x_89 : Int32, zR 0 16777215 x_89 → ∀ x_90 : Int32, zR 0 24 x_90 → ∀ I_91 : Nat → Nat → Int32, ∀ R_91 : Nat → Nat → Int32, ∀ J_91 : Nat → Nat → Int64, xInv F (I_91, R_91, J_91) → (2147483648 - (x_90).toInt).toNat < N → ∀ (H : Heap) (locs : List Loc), va_P D vwCl (zw 81 q (zXd q cA) I_91 R_91 J_91) H → va_D (zA 81 q sz) (zw 81 q (zXd q cA) I_91 R_91 J_91) → va_S (zA 81 q sz) s.heap H locs → ∀ ls : Array Slot, lv_has ls 3 [(0, .ref (q 15)), (1, .int (x_89)), (2, .int (x_90))] → W p l e ({ frames := 3, cells := 0, slots := 0, locals := 87 } : Room) s m ([.ref (q 15)] : List Value).toArray below meth c H locs 0 0 (MQ below (va_Qi (fun r u => zR 0 16777215 r ∧ xInv F u) (zB D vwCl 81 q (zXd q cA) sz) (zA 81 q sz)) ([.ref (q 15)] : List Value).toArray s 0 0 (zA 81 q sz)) (F0 m 22 ls []) := by
    intro N
    induction N with
    | zero => intro x_89 hx_89 x_90 hx_90 I_91 R_91 J_91 hI_91 hN; exact absurd hN (Nat.not_lt_zero _)
    | succ N ih_94 =>
      intro x_89 hx_89 x_90 hx_90 I_91 R_91 J_91 hI_91 hN_93 H locs hP hD hS ls hl
      refine lv_iload_n hx hb dX9_passNight_22 rfl (lv_at hl 2 rfl) ?_
      refine lv_aload_n hx hb dX9_passNight_23 rfl (lv_at hl 0 rfl) ?_
      refine z_get hx hb ht hown hK hP ziX9 rfl 15 (by decide) 2 (by decide) hw_1_159 rfl (v := .int (I_91 15 2)) rfl dX9_passNight_24 ?_
      have f_95 : zR 0 24 (I_91 15 2) := xI hI_91 15 2
      refine lv_icmp_ge (tgt := 82) hx hb dX9_passNight_27 (by decide) (fun c_96 => ?_) (fun c_96 => ?_)
      · have t_c_96 := z_leT c_96
        refine lv_iload_n hx hb dX9_passNight_82 rfl (lv_at hl 1 rfl) ?_
        exact z_iret (v := x_89) hx hb hr hlocks hP hD hS dX9_passNight_83 ⟨hx_89, hI_91⟩
      · have t_c_96 := z_leF c_96
        have f_97 : zR 0 23 (x_90) := zR_ltx t_c_96 hx_90 f_95 (by decide)
        have f_98 : zR 1 24 (I_91 15 2) := zR_lty t_c_96 hx_90 f_95 (by decide)
        refine lv_aload_n hx hb dX9_passNight_30 rfl (lv_at hl 0 rfl) ?_
        refine z_get hx hb ht hown hK hP ziX9 rfl 15 (by decide) 10 (by decide) hw_1_182 rfl (v := .ref (q 22)) rfl dX9_passNight_31 ?_
        refine lv_iload_n hx hb dX9_passNight_34 rfl (lv_at hl 2 rfl) ?_
        refine z_iald hx hb hK hP 22 (by decide) 16 rfl rfl (zR_vin f_97 (by decide)) dX9_passNight_35 ?_
        refine z_eqi (y := R_91 22 (x_90).toNatClampNeg) rfl ?_
        refine lv_aload_n hx hb dX9_passNight_36 rfl (lv_at hl 0 rfl) ?_
        refine z_get hx hb ht hown hK hP ziX9 rfl 15 (by decide) 1 (by decide) hw_1_157 rfl (v := .int (I_91 15 1)) rfl dX9_passNight_37 ?_
        have t_109 : ∀ x_107 : Int32, zR 0 16777215 x_107 → ∀ I_108 : Nat → Nat → Int32, ∀ R_108 : Nat → Nat → Int32, ∀ J_108 : Nat → Nat → Int64, xInv F (I_108, R_108, J_108) → ∀ (H : Heap) (locs : List Loc), va_P D vwCl (zw 81 q (zXd q cA) I_108 R_108 J_108) H → va_D (zA 81 q sz) (zw 81 q (zXd q cA) I_108 R_108 J_108) → va_S (zA 81 q sz) s.heap H locs → ∀ ls : Array Slot, lv_has ls 3 [(0, .ref (q 15)), (1, .int (x_107)), (2, .int (x_90))] → W p l e ({ frames := 3, cells := 0, slots := 0, locals := 87 } : Room) s m ([.ref (q 15)] : List Value).toArray below meth c H locs 0 0 (MQ below (va_Qi (fun r u => zR 0 16777215 r ∧ xInv F u) (zB D vwCl 81 q (zXd q cA) sz) (zA 81 q sz)) ([.ref (q 15)] : List Value).toArray s 0 0 (zA 81 q sz)) (F0 m 76 ls []) := by
          intro x_107 hx_107 I_108 R_108 J_108 hI_108 H locs hP hD hS ls hl
          obtain ⟨v_110, ev_110⟩ : ∃ y : Int32, y = x_90 + nI 1 := ⟨_, rfl⟩
          have hv_110 : zR 1 24 v_110 := ev_110 ▸ zR_add f_97 zk_1 (by decide)
          have mv_110 : v_110.toInt = (x_90).toInt + 1 := by rw [ev_110, zR_addE f_97 zk_1 (by decide)]; rfl
          refine lv_iinc (v := v_110) (lv' := [(2, .int (v_110)), (0, .ref (q 15)), (1, .int (x_107))]) hx hb dX9_passNight_76 hl (k := 2) rfl (ev_110 ▸ rfl) (by decide) rfl (fun ls hl => ?_)
          refine lv_goto (tgt := 22) hx hb dX9_passNight_79 (by decide) ?_
          exact ih_94 (x_107) hx_107 (v_110) (zR_w hv_110 (by decide)) _ _ _ hI_108 (z2_up mv_110 (by decide) hN_93) _ _ hP hD hS _ (lv_sub hl [1, 2, 0] rfl)
        refine lv_icmp_ne (tgt := 76) hx hb dX9_passNight_40 (by decide) (fun c_99 => ?_) (fun c_99 => ?_)
        · have t_c_99 := z_eqF c_99
          exact t_109 (x_89) hx_89 _ _ _ hI_91 _ _ hP hD hS _ (lv_sub hl [0, 1, 2] rfl)
        · have t_c_99 := z_eqT c_99
          refine lv_aload_n hx hb dX9_passNight_43 rfl (lv_at hl 0 rfl) ?_
          refine lv_iload_n hx hb dX9_passNight_44 rfl (lv_at hl 2 rfl) ?_
          refine z_callVi (k := 15) (As := [.int (x_90)]) (rest := []) hx hb hml hown ht (xk_X9_isOpen_1 l D q cA F _ _ _ hI_91 (x_90) f_97) hw_3_75 hmX9_isOpen ⟨rfl, rfl⟩ (na := 1) rfl (by decide +kernel) (by decide) (by decide) rfl rfl hK hP hD hS hA hl.1 rfl (Nat.le_of_ble_eq_true rfl) ⟨Nat.zero_le _, Nat.zero_le _⟩ dX9_passNight_45 (fun r_111 I_111 R_111 J_111 H locs hp_111 hP hD hS _ _ => ?_)
          rcases hp_111 with ⟨rfl, hu_111⟩ | ⟨rfl, hu_111⟩
          · cases hu_111
            refine lv_if_eq (tgt := 76) hx hb dX9_passNight_48 (by decide) (fun c_0 => absurd c_0 (zD_ne zk_1 zk_z (by decide))) (fun _ => ?_)
            refine lv_aload_n hx hb dX9_passNight_51 rfl (lv_at hl 0 rfl) ?_
            refine lv_iload_n hx hb dX9_passNight_52 rfl (lv_at hl 2 rfl) ?_
            refine z_callVv (k := 15) (As := [.int (x_90)]) (rest := []) hx hb hml hown ht (xk_X9_settle_1 l D q cA F _ _ _ hI_91 (x_90) f_97) hw_3_208 hmX9_settle ⟨rfl, rfl⟩ (na := 1) rfl (by decide +kernel) (by decide) (by decide) rfl rfl hK hP hD hS hA hl.1 rfl (Nat.le_of_ble_eq_true rfl) ⟨Nat.zero_le _, Nat.zero_le _⟩ dX9_passNight_53 (fun I_112 R_112 J_112 H locs hp_112 hP hD hS _ _ => ?_)
            refine lv_iload_n hx hb dX9_passNight_56 rfl (lv_at hl 1 rfl) ?_
            refine lv_aload_n hx hb dX9_passNight_57 rfl (lv_at hl 0 rfl) ?_
            refine z_get hx hb ht hown hK hP ziX9 rfl 15 (by decide) 11 (by decide) hw_1_185 rfl (v := .ref (q 23)) rfl dX9_passNight_58 ?_
            refine lv_iload_n hx hb dX9_passNight_61 rfl (lv_at hl 2 rfl) ?_
            refine z_iald hx hb hK hP 23 (by decide) 17 rfl rfl (zR_vin f_97 (by decide)) dX9_passNight_62 ?_
            refine z_eqi (y := R_112 23 (x_90).toNatClampNeg) rfl ?_
            refine lv_iconst (v := nI 3) hx hb dX9_passNight_63 (by decide +kernel) ?_
            have t_117 : ∀ x_116 : Int32, zR 0 8388608 x_116 → ∀ (H : Heap) (locs : List Loc), va_P D vwCl (zw 81 q (zXd q cA) I_112 R_112 J_112) H → va_D (zA 81 q sz) (zw 81 q (zXd q cA) I_112 R_112 J_112) → va_S (zA 81 q sz) s.heap H locs → ∀ ls : Array Slot, lv_has ls 3 [(0, .ref (q 15)), (1, .int (x_89)), (2, .int (x_90))] → W p l e ({ frames := 3, cells := 0, slots := 0, locals := 87 } : Room) s m ([.ref (q 15)] : List Value).toArray below meth c H locs 0 0 (MQ below (va_Qi (fun r u => zR 0 16777215 r ∧ xInv F u) (zB D vwCl 81 q (zXd q cA) sz) (zA 81 q sz)) ([.ref (q 15)] : List Value).toArray s 0 0 (zA 81 q sz)) (F0 m 74 ls [.int (x_116), .int (x_89)]) := by
              intro x_116 hx_116 H locs hP hD hS ls hl
              refine lv_ior hx hb dX9_passNight_74 ?_
              refine z_rng (a := 0) (b := 16777215) (zR_or 24 hx_89 hx_116 (by decide)) (fun v_118 hv_118 => ?_)
              refine lv_istore_n (lv' := [(1, .int (v_118)), (0, .ref (q 15)), (2, .int (x_90))]) hx hb dX9_passNight_75 rfl hl (by decide) rfl (fun ls hl => ?_)
              exact t_109 (v_118) hv_118 _ _ _ hp_112 _ _ hP hD hS _ (lv_sub hl [1, 0, 2] rfl)
            refine lv_icmp_ne (tgt := 73) hx hb dX9_passNight_64 (by decide) (fun c_113 => ?_) (fun c_113 => ?_)
            · have t_c_113 := z_eqF c_113
              refine lv_iconst (v := nI 0) hx hb dX9_passNight_73 (by decide +kernel) ?_
              exact t_117 (nI 0) (zR_w zk_0 (by decide)) _ _ hP hD hS _ (lv_sub hl [0, 1, 2] rfl)
            · have t_c_113 := z_eqT c_113
              have f_119 : zR 3 3 (R_112 23 (x_90).toNatClampNeg) := zR_eqx t_c_113 zk_3
              refine lv_iconst (v := nI 1) hx hb dX9_passNight_67 (by decide +kernel) ?_
              refine lv_iload_n hx hb dX9_passNight_68 rfl (lv_at hl 2 rfl) ?_
              refine lv_ishl hx hb dX9_passNight_69 ?_
              refine z_rng (a := 1) (b := 8388608) (zR_shl1 23 f_97 (by decide)) (fun v_120 hv_120 => ?_)
              refine lv_goto (tgt := 74) hx hb dX9_passNight_70 (by decide) ?_
              exact t_117 (v_120) (zR_w hv_120 (by decide)) _ _ hP hD hS _ (lv_sub hl [0, 1, 2] rfl)
          · cases hu_111
            refine lv_if_eq (tgt := 76) hx hb dX9_passNight_48 (by decide) (fun _ => ?_) (fun c_0 => absurd (zD_eq zk_0 zk_z) c_0)
            exact t_109 (x_89) hx_89 _ _ _ hI_91 _ _ hP hD hS _ (lv_sub hl [0, 1, 2] rfl)
  exact loop_92 _ (nI 0) (zR_w zk_0 (by decide)) (nI 0) (zR_w zk_0 (by decide)) _ _ _ hp_3 (Nat.lt_succ_self _) _ _ hP hD hS _ (lv_sub hl [2, 1, 0] rfl)
set_option maxHeartbeats 4000000 in
set_option maxRecDepth 100000 in
theorem xk_X9_act_5 (l : Launch) (D : va_G) (q : Nat → Nat) (cA : Nat → ClassId) (F : Nat → Nat → Int32) (I R : Nat → Nat → Int32) (J : Nat → Nat → Int64) (hI : xInv F (I, R, J)) (pa1 : Int32) (hpa1 : zR 0 1 pa1) (pa2 : Int32) (hpa2 : zR 0 1 pa2) (pa3 : Int32) (hpa3 : zR 0 1 pa3) : zMi l D vwCl (zXtys cA) 81 q (zXd q cA) yX9_act cX9_act 5 (some .int) ({ frames := 4, cells := 0, slots := 0, locals := 109 } : Room) [.ref (q 15), .int (nI 5), .int (pa1), .int (pa2), .int (pa3)] (I, R, J) (fun r u => zR 0 63 r ∧ xInv F u) := by
  intro sz
  refine z_body (by decide +kernel) (Nat.le_of_ble_eq_true rfl) (fun p e s m below meth c ls hx hb hml hr ht hown hlocks hsz hK hP hD hS hl => ?_)
  have hA : ∀ a, s.heap.size ≤ a → zA 81 q sz a := fun a h => Or.inr (hsz ▸ h)
  have hl : lv_has ls 5 [(0, .ref (q 15)), (1, .int (nI 5)), (2, .int (pa1)), (3, .int (pa2)), (4, .int (pa3))] := hl
  refine lv_iload_n hx hb dX9_act_0 rfl (lv_at hl 1 rfl) ?_
  refine lv_tableIn (off := 74) (tgt := 75) hx hb dX9_act_1 (by decide +kernel) (by decide +kernel) (by decide +kernel) (by decide) ?_
  refine lv_aload_n hx hb dX9_act_75 rfl (lv_at hl 0 rfl) ?_
  refine z_callVi (k := 15) (As := []) (rest := []) hx hb hml hown ht (xk_X9_passNight l D q cA F _ _ _ hI ) hw_3_204 hmX9_passNight ⟨rfl, rfl⟩ (na := 0) rfl (by decide +kernel) (by decide) (by decide) rfl rfl hK hP hD hS hA hl.1 rfl (Nat.le_of_ble_eq_true rfl) ⟨Nat.zero_le _, Nat.zero_le _⟩ dX9_act_76 (fun r_1 I_1 R_1 J_1 H locs hp_1 hP hD hS _ _ => ?_)
  obtain ⟨hr_1, hu_1⟩ := hp_1
  refine z_callSi (As := [.int (r_1)]) (rest := []) hx hb hml hown ht (xk_J6_bitCount_0f7a4 l D q cA F _ _ _ hu_1 (r_1)) hw_3_194 hmJ6_bitCount_0f7a4 ⟨rfl, rfl⟩ (na := 1) rfl (by decide +kernel) (by decide) hK hP hD hS hA hl.1 rfl (Nat.le_of_ble_eq_true rfl) ⟨Nat.zero_le _, Nat.zero_le _⟩ dX9_act_79 (fun r_2 I_2 R_2 J_2 H locs hp_2 hP hD hS _ _ => ?_)
  obtain ⟨hr_2, hu_2⟩ := hp_2
  cases hu_2
  exact z_iret (v := r_2) hx hb hr hlocks hP hD hS dX9_act_82 ⟨hr_2, hu_1⟩
set_option maxHeartbeats 4000000 in
set_option maxRecDepth 100000 in
theorem xk_X10_perform_5 (l : Launch) (D : va_G) (q : Nat → Nat) (cA : Nat → ClassId) (F : Nat → Nat → Int32) (I R : Nat → Nat → Int32) (J : Nat → Nat → Int64) (hI : xInv F (I, R, J)) (pa1 : Int32) (hpa1 : zR 0 1 pa1) (pa2 : Int32) (hpa2 : zR 0 1 pa2) (pa3 : Int32) (hpa3 : zR 0 1 pa3) : zMi l D vwCl (zXtys cA) 81 q (zXd q cA) yX10_perform cX10_perform 5 (some .int) ({ frames := 5, cells := 0, slots := 0, locals := 133 } : Room) [.ref (q 0), .int (nI 5), .int (pa1), .int (pa2), .int (pa3)] (I, R, J) (fun r u => zR 0 63 r ∧ xInv F u) := by
  intro sz
  refine z_body (by decide +kernel) (Nat.le_of_ble_eq_true rfl) (fun p e s m below meth c ls hx hb hml hr ht hown hlocks hsz hK hP hD hS hl => ?_)
  have hA : ∀ a, s.heap.size ≤ a → zA 81 q sz a := fun a h => Or.inr (hsz ▸ h)
  have hl : lv_has ls 5 [(0, .ref (q 0)), (1, .int (nI 5)), (2, .int (pa1)), (3, .int (pa2)), (4, .int (pa3))] := hl
  refine lv_aload_n hx hb dX10_perform_0 rfl (lv_at hl 0 rfl) ?_
  refine z_get hx hb ht hown hK hP ziX10 rfl 0 (by decide) 3 (by decide) hw_2_96 rfl (v := .ref (q 13)) rfl dX10_perform_1 ?_
  refine lv_iload_n hx hb dX10_perform_4 rfl (lv_at hl 1 rfl) ?_
  refine lv_iload_n hx hb dX10_perform_5 rfl (lv_at hl 2 rfl) ?_
  refine lv_iload_n hx hb dX10_perform_6 rfl (lv_at hl 3 rfl) ?_
  refine lv_iload hx hb dX10_perform_7 (lv_at hl 4 rfl) ?_
  refine z_callVv (k := 13) (As := [.int (nI 5), .int (pa1), .int (pa2), .int (pa3)]) (rest := []) hx hb hml hown ht (xk_X0_add l D q cA F _ _ _ hI (nI 5) (pa1) (pa2) (pa3) (xRec_n zk_5 (by decide))) hw_3_157 hmX0_add ⟨rfl, rfl⟩ (na := 4) rfl (by decide +kernel) (by decide) (by decide) rfl rfl hK hP hD hS hA hl.1 rfl (Nat.le_of_ble_eq_true rfl) ⟨Nat.zero_le _, Nat.zero_le _⟩ dX10_perform_9 (fun I_1 R_1 J_1 H locs hp_1 hP hD hS _ _ => ?_)
  refine lv_aload_n hx hb dX10_perform_12 rfl (lv_at hl 0 rfl) ?_
  refine z_get hx hb ht hown hK hP ziX10 rfl 0 (by decide) 4 (by decide) hw_2_97 rfl (v := .ref (q 15)) rfl dX10_perform_13 ?_
  refine lv_iload_n hx hb dX10_perform_16 rfl (lv_at hl 1 rfl) ?_
  refine lv_iload_n hx hb dX10_perform_17 rfl (lv_at hl 2 rfl) ?_
  refine lv_iload_n hx hb dX10_perform_18 rfl (lv_at hl 3 rfl) ?_
  refine lv_iload hx hb dX10_perform_19 (lv_at hl 4 rfl) ?_
  refine z_callVi (k := 15) (As := [.int (nI 5), .int (pa1), .int (pa2), .int (pa3)]) (rest := []) hx hb hml hown ht (xk_X9_act_5 l D q cA F _ _ _ hp_1 (pa1) hpa1 (pa2) hpa2 (pa3) hpa3) hw_3_161 hmX9_act ⟨rfl, rfl⟩ (na := 4) rfl (by decide +kernel) (by decide) (by decide) rfl rfl hK hP hD hS hA hl.1 rfl (Nat.le_of_ble_eq_true rfl) ⟨Nat.zero_le _, Nat.zero_le _⟩ dX10_perform_21 (fun r_2 I_2 R_2 J_2 H locs hp_2 hP hD hS _ _ => ?_)
  obtain ⟨hr_2, hu_2⟩ := hp_2
  exact z_iret (v := r_2) hx hb hr hlocks hP hD hS dX10_perform_24 ⟨hr_2, hu_2⟩
set_option maxHeartbeats 4000000 in
set_option maxRecDepth 100000 in
theorem xk_X10_night (l : Launch) (D : va_G) (q : Nat → Nat) (cA : Nat → ClassId) (F : Nat → Nat → Int32) (I R : Nat → Nat → Int32) (J : Nat → Nat → Int64) (hI : xInv F (I, R, J))  : zMi l D vwCl (zXtys cA) 81 q (zXd q cA) yX10_night cX10_night 1 (some .int) ({ frames := 6, cells := 0, slots := 0, locals := 157 } : Room) [.ref (q 0)] (I, R, J) (fun r u => zR (-5) 63 r ∧ xInv F u) := by
  intro sz
  refine z_body (by decide +kernel) (Nat.le_of_ble_eq_true rfl) (fun p e s m below meth c ls hx hb hml hr ht hown hlocks hsz hK hP hD hS hl => ?_)
  have hA : ∀ a, s.heap.size ≤ a → zA 81 q sz a := fun a h => Or.inr (hsz ▸ h)
  have hl : lv_has ls 1 [(0, .ref (q 0))] := hl
  refine lv_aload_n hx hb dX10_night_0 rfl (lv_at hl 0 rfl) ?_
  refine z_callVi (k := 0) (As := []) (rest := []) hx hb hml hown ht (xk_X10_hasCity l D q cA F _ _ _ hI ) hw_4_0 hmX10_hasCity ⟨rfl, rfl⟩ (na := 0) rfl (by decide +kernel) (by decide) (by decide) rfl rfl hK hP hD hS hA hl.1 rfl (Nat.le_of_ble_eq_true rfl) ⟨Nat.zero_le _, Nat.zero_le _⟩ dX10_night_1 (fun r_1 I_1 R_1 J_1 H locs hp_1 hP hD hS _ _ => ?_)
  rcases hp_1 with ⟨rfl, hu_1⟩ | ⟨rfl, hu_1⟩
  · cases hu_1
    refine lv_if_ne (tgt := 10) hx hb dX10_night_4 (by decide) (fun _ => ?_) (fun c_0 => absurd c_0 (zD_ne zk_1 zk_z (by decide)))
    refine lv_aload_n hx hb dX10_night_10 rfl (lv_at hl 0 rfl) ?_
    refine z_callVi (k := 0) (As := []) (rest := []) hx hb hml hown ht (xk_X10_isFull l D q cA F _ _ _ hI ) hw_3_144 hmX10_isFull ⟨rfl, rfl⟩ (na := 0) rfl (by decide +kernel) (by decide) (by decide) rfl rfl hK hP hD hS hA hl.1 rfl (Nat.le_of_ble_eq_true rfl) ⟨Nat.zero_le _, Nat.zero_le _⟩ dX10_night_11 (fun r_2 I_2 R_2 J_2 H locs hp_2 hP hD hS _ _ => ?_)
    rcases hp_2 with ⟨rfl, hu_2⟩ | ⟨rfl, hu_2⟩
    · cases hu_2
      refine lv_if_eq (tgt := 22) hx hb dX10_night_14 (by decide) (fun c_0 => absurd c_0 (zD_ne zk_1 zk_z (by decide))) (fun _ => ?_)
      refine lv_bipush (v := (-5)) hx hb dX10_night_17 (by decide +kernel) ?_
      refine lv_goto (tgt := 30) hx hb dX10_night_19 (by decide) ?_
      exact z_iret (v := (-5)) hx hb hr hlocks hP hD hS dX10_night_30 ⟨(zR_w zk_m5 (by decide)), hI⟩
    · cases hu_2
      refine lv_if_eq (tgt := 22) hx hb dX10_night_14 (by decide) (fun _ => ?_) (fun c_0 => absurd (zD_eq zk_0 zk_z) c_0)
      refine lv_aload_n hx hb dX10_night_22 rfl (lv_at hl 0 rfl) ?_
      refine lv_iconst (v := nI 5) hx hb dX10_night_23 (by decide +kernel) ?_
      refine lv_iconst (v := nI 0) hx hb dX10_night_24 (by decide +kernel) ?_
      refine lv_iconst (v := nI 0) hx hb dX10_night_25 (by decide +kernel) ?_
      refine lv_iconst (v := nI 0) hx hb dX10_night_26 (by decide +kernel) ?_
      refine z_callVi (k := 0) (As := [.int (nI 5), .int (nI 0), .int (nI 0), .int (nI 0)]) (rest := []) hx hb hml hown ht (xk_X10_perform_5 l D q cA F _ _ _ hI (nI 0) (zR_w zk_0 (by decide)) (nI 0) (zR_w zk_0 (by decide)) (nI 0) (zR_w zk_0 (by decide))) hw_3_153 hmX10_perform ⟨rfl, rfl⟩ (na := 4) rfl (by decide +kernel) (by decide) (by decide) rfl rfl hK hP hD hS hA hl.1 rfl (Nat.le_of_ble_eq_true rfl) ⟨Nat.zero_le _, Nat.zero_le _⟩ dX10_night_27 (fun r_3 I_3 R_3 J_3 H locs hp_3 hP hD hS _ _ => ?_)
      obtain ⟨hr_3, hu_3⟩ := hp_3
      exact z_iret (v := r_3) hx hb hr hlocks hP hD hS dX10_night_30 ⟨(zR_w hr_3 (by decide)), hu_3⟩
  · cases hu_1
    refine lv_if_ne (tgt := 10) hx hb dX10_night_4 (by decide) (fun c_0 => absurd (zD_eq zk_0 zk_z) c_0) (fun _ => ?_)
    refine lv_bipush (v := (-2)) hx hb dX10_night_7 (by decide +kernel) ?_
    exact z_iret (v := (-2)) hx hb hr hlocks hP hD hS dX10_night_9 ⟨(zR_w zk_m2 (by decide)), hI⟩
set_option maxHeartbeats 4000000 in
set_option maxRecDepth 100000 in
theorem xk_X9_take_1 (l : Launch) (D : va_G) (q : Nat → Nat) (cA : Nat → ClassId) (F : Nat → Nat → Int32) (I R : Nat → Nat → Int32) (J : Nat → Nat → Int64) (hI : xInv F (I, R, J)) (pa0 : Int32) (hpa0 : zR 0 4 pa0) (pa1 : Int32) (hpa1 : zR 0 5 pa1) (pa2 : Int32) : zMi l D vwCl (zXtys cA) 81 q (zXd q cA) yX9_take cX9_take 5 (some .int) ({ frames := 1, cells := 0, slots := 0, locals := 22 } : Room) [.ref (q 15), .int (pa0), .int (pa1), .int (pa2)] (I, R, J) (fun r u => zR (-5) 23 r ∧ xInv F u) := by
  intro sz
  refine z_body (by decide +kernel) (Nat.le_of_ble_eq_true rfl) (fun p e s m below meth c ls hx hb hml hr ht hown hlocks hsz hK hP hD hS hl => ?_)
  have hA : ∀ a, s.heap.size ≤ a → zA 81 q sz a := fun a h => Or.inr (hsz ▸ h)
  have hl : lv_has ls 5 [(0, .ref (q 15)), (1, .int (pa0)), (2, .int (pa1)), (3, .int (pa2))] := hl
  refine lv_aload_n hx hb dX9_take_0 rfl (lv_at hl 0 rfl) ?_
  refine z_get hx hb ht hown hK hP ziX9 rfl 15 (by decide) 2 (by decide) hw_1_159 rfl (v := .int (I 15 2)) rfl dX9_take_1 ?_
  have f_1 : zR 0 24 (I 15 2) := xI hI 15 2
  refine lv_bipush (v := nI 24) hx hb dX9_take_4 (by decide +kernel) ?_
  refine lv_icmp_lt (tgt := 12) hx hb dX9_take_6 (by decide) (fun c_2 => ?_) (fun c_2 => ?_)
  · have t_c_2 := z_ltT c_2
    have f_3 : zR 0 23 (I 15 2) := zR_ltx t_c_2 f_1 zk_24 (by decide)
    refine lv_aload_n hx hb dX9_take_12 rfl (lv_at hl 0 rfl) ?_
    refine z_get hx hb ht hown hK hP ziX9 rfl 15 (by decide) 2 (by decide) hw_1_159 rfl (v := .int (I 15 2)) rfl dX9_take_13 ?_
    refine lv_istore (lv' := [(4, .int (I 15 2)), (0, .ref (q 15)), (1, .int (pa0)), (2, .int (pa1)), (3, .int (pa2))]) hx hb dX9_take_16 hl (by decide) rfl (fun ls hl => ?_)
    refine lv_aload_n hx hb dX9_take_18 rfl (lv_at hl 1 rfl) ?_
    refine z_get hx hb ht hown hK hP ziX9 rfl 15 (by decide) 7 (by decide) hw_1_171 rfl (v := .ref (q 19)) rfl dX9_take_19 ?_
    refine lv_iload hx hb dX9_take_22 (lv_at hl 0 rfl) ?_
    refine lv_iload_n hx hb dX9_take_24 rfl (lv_at hl 2 rfl) ?_
    refine z_iast hx hb hK hP hD hS 19 (by decide) 13 (fun _ => rfl) rfl (zR_vin f_3 (by decide)) dX9_take_25 (fun H locs hP hD hS => ?_)
    have hI_4 := xInv_R hI 19 (I 15 2).toNatClampNeg (pa0) hpa0 rfl
    refine lv_aload_n hx hb dX9_take_26 rfl (lv_at hl 1 rfl) ?_
    refine z_get hx hb ht hown hK hP ziX9 rfl 15 (by decide) 8 (by decide) hw_1_175 rfl (v := .ref (q 20)) rfl dX9_take_27 ?_
    refine lv_iload hx hb dX9_take_30 (lv_at hl 0 rfl) ?_
    refine lv_iload_n hx hb dX9_take_32 rfl (lv_at hl 3 rfl) ?_
    refine z_iast hx hb hK hP hD hS 20 (by decide) 14 (fun _ => rfl) rfl (zR_vin f_3 (by decide)) dX9_take_33 (fun H locs hP hD hS => ?_)
    have hI_5 := xInv_R hI_4 20 (I 15 2).toNatClampNeg (pa1) hpa1 rfl
    refine lv_aload_n hx hb dX9_take_34 rfl (lv_at hl 1 rfl) ?_
    refine z_get hx hb ht hown hK hP ziX9 rfl 15 (by decide) 9 (by decide) hw_1_179 rfl (v := .ref (q 21)) rfl dX9_take_35 ?_
    refine lv_iload hx hb dX9_take_38 (lv_at hl 0 rfl) ?_
    refine lv_aload_n hx hb dX9_take_40 rfl (lv_at hl 1 rfl) ?_
    refine z_get hx hb ht hown hK hP ziX9 rfl 15 (by decide) 5 (by decide) hw_1_166 rfl (v := .ref (q 17)) rfl dX9_take_41 ?_
    refine lv_iload_n hx hb dX9_take_44 rfl (lv_at hl 3 rfl) ?_
    refine z_iald hx hb hK hP 17 (by decide) 11 rfl rfl (zR_vin hpa1 (by decide)) dX9_take_45 ?_
    refine z_eqi (y := R 17 (pa1).toNatClampNeg) rfl ?_
    have f_6 : zR 0 4 (R 17 (pa1).toNatClampNeg) := xR hI 17 (pa1).toNatClampNeg
    refine z_iast hx hb hK hP hD hS 21 (by decide) 15 (fun _ => rfl) rfl (zR_vin f_3 (by decide)) dX9_take_46 (fun H locs hP hD hS => ?_)
    have hI_7 := xInv_R hI_5 21 (I 15 2).toNatClampNeg (R 17 (pa1).toNatClampNeg) f_6 rfl
    refine lv_aload_n hx hb dX9_take_47 rfl (lv_at hl 1 rfl) ?_
    refine z_get hx hb ht hown hK hP ziX9 rfl 15 (by decide) 10 (by decide) hw_1_182 rfl (v := .ref (q 22)) rfl dX9_take_48 ?_
    refine lv_iload hx hb dX9_take_51 (lv_at hl 0 rfl) ?_
    refine lv_iload_n hx hb dX9_take_53 rfl (lv_at hl 4 rfl) ?_
    refine z_iast hx hb hK hP hD hS 22 (by decide) 16 (fun _ => rfl) rfl (zR_vin f_3 (by decide)) dX9_take_54 (fun H locs hP hD hS => ?_)
    have hI_8 := xInv_R hI_7 22 (I 15 2).toNatClampNeg (pa2) (zR_any _) rfl
    refine lv_aload_n hx hb dX9_take_55 rfl (lv_at hl 1 rfl) ?_
    refine z_get hx hb ht hown hK hP ziX9 rfl 15 (by decide) 11 (by decide) hw_1_185 rfl (v := .ref (q 23)) rfl dX9_take_56 ?_
    refine lv_iload hx hb dX9_take_59 (lv_at hl 0 rfl) ?_
    refine lv_iconst (v := nI 0) hx hb dX9_take_61 (by decide +kernel) ?_
    refine z_iast hx hb hK hP hD hS 23 (by decide) 17 (fun _ => rfl) rfl (zR_vin f_3 (by decide)) dX9_take_62 (fun H locs hP hD hS => ?_)
    have hI_9 := xInv_R hI_8 23 (I 15 2).toNatClampNeg (nI 0) (zR_any _) rfl
    refine lv_aload_n hx hb dX9_take_63 rfl (lv_at hl 1 rfl) ?_
    refine lv_dup hx hb dX9_take_64 rfl ?_
    refine z_get hx hb ht hown hK hP ziX9 rfl 15 (by decide) 2 (by decide) hw_1_159 rfl (v := .int (I 15 2)) rfl dX9_take_65 ?_
    refine lv_iconst (v := nI 1) hx hb dX9_take_68 (by decide +kernel) ?_
    refine lv_iadd hx hb dX9_take_69 ?_
    refine z_addc 1 24 f_3 zk_1 (by decide) (fun v_10 hv_10 mv_10 => ?_)
    refine z_putI hx hb ht hown hK hP hD hS ziX9 tyX9 tyX9_ok nmX9 rfl 15 (by decide) 2 (by decide) hw_1_159 rfl (v := v_10) rfl rfl rfl (Nat.le_of_ble_eq_true rfl) rfl dX9_take_70 (fun H locs hP hD hS => ?_)
    have hI_11 := xInv_I hI_9 15 2 (v_10) (zR_w hv_10 (by decide)) rfl
    refine lv_aload_n hx hb dX9_take_73 rfl (lv_at hl 1 rfl) ?_
    refine lv_iload_n hx hb dX9_take_74 rfl (lv_at hl 3 rfl) ?_
    refine lv_iload_n hx hb dX9_take_75 rfl (lv_at hl 2 rfl) ?_
    refine z_callVv (k := 15) (As := [.int (pa1), .int (pa0)]) (rest := []) hx hb hml hown ht (xk_X9_move l D q cA F _ _ _ hI_11 (pa1) hpa1 (pa0) hpa0) hw_3_169 hmX9_move ⟨rfl, rfl⟩ (na := 2) rfl (by decide +kernel) (by decide) (by decide) rfl rfl hK hP hD hS hA hl.1 rfl (Nat.le_of_ble_eq_true rfl) ⟨Nat.zero_le _, Nat.zero_le _⟩ dX9_take_76 (fun I_12 R_12 J_12 H locs hp_12 hP hD hS _ _ => ?_)
    refine lv_iload hx hb dX9_take_79 (lv_at hl 0 rfl) ?_
    exact z_iret (v := I 15 2) hx hb hr hlocks hP hD hS dX9_take_81 ⟨(zR_w f_3 (by decide)), hp_12⟩
  · have t_c_2 := z_ltF c_2
    have f_13 : zR 24 24 (I 15 2) := zR_ley t_c_2 zk_24 f_1 (by decide)
    refine lv_bipush (v := (-5)) hx hb dX9_take_9 (by decide +kernel) ?_
    exact z_iret (v := (-5)) hx hb hr hlocks hP hD hS dX9_take_11 ⟨(zR_w zk_m5 (by decide)), hI⟩
set_option maxHeartbeats 4000000 in
set_option maxRecDepth 100000 in
theorem xk_X9_turnKey_1 (l : Launch) (D : va_G) (q : Nat → Nat) (cA : Nat → ClassId) (F : Nat → Nat → Int32) (I R : Nat → Nat → Int32) (J : Nat → Nat → Int64) (hI : xInv F (I, R, J)) (pa0 : Int32) (pa1 : Int32) : zMi l D vwCl (zXtys cA) 81 q (zXd q cA) yX9_turnKey cX9_turnKey 4 (some .int) ({ frames := 0, cells := 0, slots := 0, locals := 0 } : Room) [.ref (q 15), .int (pa0), .int (pa1)] (I, R, J) (fun r u => zR 0 1 r ∧ xInv F u) := by
  intro sz
  refine z_body (by decide +kernel) (Nat.le_of_ble_eq_true rfl) (fun p e s m below meth c ls hx hb hml hr ht hown hlocks hsz hK hP hD hS hl => ?_)
  have hA : ∀ a, s.heap.size ≤ a → zA 81 q sz a := fun a h => Or.inr (hsz ▸ h)
  have hl : lv_has ls 4 [(0, .ref (q 15)), (1, .int (pa0)), (2, .int (pa1))] := hl
  refine lv_aload_n hx hb dX9_turnKey_0 rfl (lv_at hl 0 rfl) ?_
  refine z_get hx hb ht hown hK hP ziX9 rfl 15 (by decide) 3 (by decide) hw_1_163 rfl (v := .int (I 15 3)) rfl dX9_turnKey_1 ?_
  refine lv_iload_n hx hb dX9_turnKey_4 rfl (lv_at hl 1 rfl) ?_
  refine lv_ishr hx hb dX9_turnKey_5 ?_
  refine z_any (fun v_1 => ?_)
  refine lv_iconst (v := nI 1) hx hb dX9_turnKey_6 (by decide +kernel) ?_
  refine lv_iand hx hb dX9_turnKey_7 ?_
  refine z_rng (a := 0) (b := 1) (zR_andr zk_1 (by decide)) (fun v_2 hv_2 => ?_)
  refine lv_istore_n (lv' := [(3, .int (v_2)), (0, .ref (q 15)), (1, .int (pa0)), (2, .int (pa1))]) hx hb dX9_turnKey_8 rfl hl (by decide) rfl (fun ls hl => ?_)
  refine lv_aload_n hx hb dX9_turnKey_9 rfl (lv_at hl 1 rfl) ?_
  refine lv_aload_n hx hb dX9_turnKey_10 rfl (lv_at hl 1 rfl) ?_
  refine z_get hx hb ht hown hK hP ziX9 rfl 15 (by decide) 3 (by decide) hw_1_163 rfl (v := .int (I 15 3)) rfl dX9_turnKey_11 ?_
  refine lv_iconst (v := nI 1) hx hb dX9_turnKey_14 (by decide +kernel) ?_
  refine lv_iload_n hx hb dX9_turnKey_15 rfl (lv_at hl 2 rfl) ?_
  refine lv_ishl hx hb dX9_turnKey_16 ?_
  refine z_any (fun v_3 => ?_)
  refine lv_iconst (v := (-1)) hx hb dX9_turnKey_17 (by decide +kernel) ?_
  refine lv_ixor hx hb dX9_turnKey_18 ?_
  refine z_any (fun v_4 => ?_)
  refine lv_iand hx hb dX9_turnKey_19 ?_
  refine z_any (fun v_5 => ?_)
  refine lv_iload_n hx hb dX9_turnKey_20 rfl (lv_at hl 3 rfl) ?_
  refine lv_iload_n hx hb dX9_turnKey_21 rfl (lv_at hl 2 rfl) ?_
  refine lv_ishl hx hb dX9_turnKey_22 ?_
  refine z_any (fun v_6 => ?_)
  refine lv_ior hx hb dX9_turnKey_23 ?_
  refine z_any (fun v_7 => ?_)
  refine z_putI hx hb ht hown hK hP hD hS ziX9 tyX9 tyX9_ok nmX9 rfl 15 (by decide) 3 (by decide) hw_1_163 rfl (v := v_7) rfl rfl rfl (Nat.le_of_ble_eq_true rfl) rfl dX9_turnKey_24 (fun H locs hP hD hS => ?_)
  have hI_8 := xInv_I hI 15 3 (v_7) (zR_any (v_7)) rfl
  refine lv_iload_n hx hb dX9_turnKey_27 rfl (lv_at hl 0 rfl) ?_
  exact z_iret (v := v_2) hx hb hr hlocks hP hD hS dX9_turnKey_28 ⟨hv_2, hI_8⟩
set_option maxHeartbeats 4000000 in
set_option maxRecDepth 100000 in
theorem xk_X9_act_6 (l : Launch) (D : va_G) (q : Nat → Nat) (cA : Nat → ClassId) (F : Nat → Nat → Int32) (I R : Nat → Nat → Int32) (J : Nat → Nat → Int64) (hI : xInv F (I, R, J)) (pa0 : Int32) (pa1 : Int32) (pa2 : Int32) (pa3 : Int32) (hrec : xRec (pa0) (pa1) (pa2)) : zMi l D vwCl (zXtys cA) 81 q (zXd q cA) yX9_act cX9_act 5 (some .int) ({ frames := 4, cells := 0, slots := 0, locals := 109 } : Room) [.ref (q 15), .int (pa0), .int (pa1), .int (pa2), .int (pa3)] (I, R, J) (fun _ u => xInv F u) := by
  intro sz
  refine z_body (by decide +kernel) (Nat.le_of_ble_eq_true rfl) (fun p e s m below meth c ls hx hb hml hr ht hown hlocks hsz hK hP hD hS hl => ?_)
  have hA : ∀ a, s.heap.size ≤ a → zA 81 q sz a := fun a h => Or.inr (hsz ▸ h)
  have hl : lv_has ls 5 [(0, .ref (q 15)), (1, .int (pa0)), (2, .int (pa1)), (3, .int (pa2)), (4, .int (pa3))] := hl
  refine lv_iload_n hx hb dX9_act_0 rfl (lv_at hl 1 rfl) ?_
  rcases (show ((pa0).toInt < 0 ∨ 5 < (pa0).toInt) ∨ (pa0).toInt = 0 ∨ (pa0).toInt = 1 ∨ (pa0).toInt = 2 ∨ (pa0).toInt = 3 ∨ (pa0).toInt = 4 ∨ (pa0).toInt = 5 by omega) with c_1 | k_2 | k_2 | k_2 | k_2 | k_2 | k_2
  · refine lv_tableOut (tgt := 83) hx hb dX9_act_1 c_1 (by decide) ?_
    refine lv_bipush (v := (-2)) hx hb dX9_act_83 (by decide +kernel) ?_
    exact z_iret (v := (-2)) hx hb hr hlocks hP hD hS dX9_act_85 hI
  · refine lv_tableIn (off := 39) (tgt := 40) hx hb dX9_act_1 (by omega) (by omega) (by rw [k_2]; decide +kernel) (by decide) ?_
    have f_3 : zR 0 4 (pa1) := (hrec.1 k_2).1
    have f_4 : zR 0 5 (pa2) := (hrec.1 k_2).2
    refine lv_aload_n hx hb dX9_act_40 rfl (lv_at hl 0 rfl) ?_
    refine lv_iload_n hx hb dX9_act_41 rfl (lv_at hl 2 rfl) ?_
    refine lv_iload_n hx hb dX9_act_42 rfl (lv_at hl 3 rfl) ?_
    refine lv_iload hx hb dX9_act_43 (lv_at hl 4 rfl) ?_
    refine z_callVi (k := 15) (As := [.int (pa1), .int (pa2), .int (pa3)]) (rest := []) hx hb hml hown ht (xk_X9_take_1 l D q cA F _ _ _ hI (pa1) f_3 (pa2) f_4 (pa3)) hw_3_165 hmX9_take ⟨rfl, rfl⟩ (na := 3) rfl (by decide +kernel) (by decide) (by decide) rfl rfl hK hP hD hS hA hl.1 rfl (Nat.le_of_ble_eq_true rfl) ⟨Nat.zero_le _, Nat.zero_le _⟩ dX9_act_45 (fun r_5 I_5 R_5 J_5 H locs hp_5 hP hD hS _ _ => ?_)
    obtain ⟨hr_5, hu_5⟩ := hp_5
    exact z_iret (v := r_5) hx hb hr hlocks hP hD hS dX9_act_48 hu_5
  · refine lv_tableIn (off := 48) (tgt := 49) hx hb dX9_act_1 (by omega) (by omega) (by rw [k_2]; decide +kernel) (by decide) ?_
    have f_6 : zR 0 23 (pa1) := (hrec.2.1 k_2).1
    have f_7 : zR 0 4 (pa2) := (hrec.2.1 k_2).2
    refine lv_aload_n hx hb dX9_act_49 rfl (lv_at hl 0 rfl) ?_
    refine lv_iload_n hx hb dX9_act_50 rfl (lv_at hl 2 rfl) ?_
    refine lv_iload_n hx hb dX9_act_51 rfl (lv_at hl 3 rfl) ?_
    refine z_callVi (k := 15) (As := [.int (pa1), .int (pa2)]) (rest := []) hx hb hml hown ht (xk_X9_handOn l D q cA F _ _ _ hI (pa1) f_6 (pa2) f_7) hw_3_173 hmX9_handOn ⟨rfl, rfl⟩ (na := 2) rfl (by decide +kernel) (by decide) (by decide) rfl rfl hK hP hD hS hA hl.1 rfl (Nat.le_of_ble_eq_true rfl) ⟨Nat.zero_le _, Nat.zero_le _⟩ dX9_act_52 (fun r_8 I_8 R_8 J_8 H locs hp_8 hP hD hS _ _ => ?_)
    exact z_iret (v := r_8) hx hb hr hlocks hP hD hS dX9_act_55 hp_8
  · refine lv_tableIn (off := 55) (tgt := 56) hx hb dX9_act_1 (by omega) (by omega) (by rw [k_2]; decide +kernel) (by decide) ?_
    have f_9 : zR 0 23 (pa1) := (hrec.2.2.1 k_2)
    refine lv_aload_n hx hb dX9_act_56 rfl (lv_at hl 0 rfl) ?_
    refine lv_iload_n hx hb dX9_act_57 rfl (lv_at hl 2 rfl) ?_
    refine z_callVi (k := 15) (As := [.int (pa1)]) (rest := []) hx hb hml hown ht (xk_X9_giveBack l D q cA F _ _ _ hI (pa1) f_9) hw_3_182 hmX9_giveBack ⟨rfl, rfl⟩ (na := 1) rfl (by decide +kernel) (by decide) (by decide) rfl rfl hK hP hD hS hA hl.1 rfl (Nat.le_of_ble_eq_true rfl) ⟨Nat.zero_le _, Nat.zero_le _⟩ dX9_act_58 (fun r_10 I_10 R_10 J_10 H locs hp_10 hP hD hS _ _ => ?_)
    obtain ⟨hr_10, hu_10⟩ := hp_10
    exact z_iret (v := r_10) hx hb hr hlocks hP hD hS dX9_act_61 hu_10
  · refine lv_tableIn (off := 61) (tgt := 62) hx hb dX9_act_1 (by omega) (by omega) (by rw [k_2]; decide +kernel) (by decide) ?_
    have f_11 : zR 0 23 (pa1) := (hrec.2.2.2 k_2)
    refine lv_aload_n hx hb dX9_act_62 rfl (lv_at hl 0 rfl) ?_
    refine lv_iload_n hx hb dX9_act_63 rfl (lv_at hl 2 rfl) ?_
    refine z_callVi (k := 15) (As := [.int (pa1)]) (rest := []) hx hb hml hown ht (xk_X9_cross l D q cA F _ _ _ hI (pa1) f_11) hw_3_186 hmX9_cross ⟨rfl, rfl⟩ (na := 1) rfl (by decide +kernel) (by decide) (by decide) rfl rfl hK hP hD hS hA hl.1 rfl (Nat.le_of_ble_eq_true rfl) ⟨Nat.zero_le _, Nat.zero_le _⟩ dX9_act_64 (fun r_12 I_12 R_12 J_12 H locs hp_12 hP hD hS _ _ => ?_)
    obtain ⟨hr_12, hu_12⟩ := hp_12
    exact z_iret (v := r_12) hx hb hr hlocks hP hD hS dX9_act_67 hu_12
  · refine lv_tableIn (off := 67) (tgt := 68) hx hb dX9_act_1 (by omega) (by omega) (by rw [k_2]; decide +kernel) (by decide) ?_
    refine lv_aload_n hx hb dX9_act_68 rfl (lv_at hl 0 rfl) ?_
    refine lv_iload_n hx hb dX9_act_69 rfl (lv_at hl 2 rfl) ?_
    refine lv_iload_n hx hb dX9_act_70 rfl (lv_at hl 3 rfl) ?_
    refine z_callVi (k := 15) (As := [.int (pa1), .int (pa2)]) (rest := []) hx hb hml hown ht (xk_X9_turnKey_1 l D q cA F _ _ _ hI (pa1) (pa2)) hw_3_200 hmX9_turnKey ⟨rfl, rfl⟩ (na := 2) rfl (by decide +kernel) (by decide) (by decide) rfl rfl hK hP hD hS hA hl.1 rfl (Nat.le_of_ble_eq_true rfl) ⟨Nat.zero_le _, Nat.zero_le _⟩ dX9_act_71 (fun r_13 I_13 R_13 J_13 H locs hp_13 hP hD hS _ _ => ?_)
    obtain ⟨hr_13, hu_13⟩ := hp_13
    exact z_iret (v := r_13) hx hb hr hlocks hP hD hS dX9_act_74 hu_13
  · refine lv_tableIn (off := 74) (tgt := 75) hx hb dX9_act_1 (by omega) (by omega) (by rw [k_2]; decide +kernel) (by decide) ?_
    refine lv_aload_n hx hb dX9_act_75 rfl (lv_at hl 0 rfl) ?_
    refine z_callVi (k := 15) (As := []) (rest := []) hx hb hml hown ht (xk_X9_passNight l D q cA F _ _ _ hI ) hw_3_204 hmX9_passNight ⟨rfl, rfl⟩ (na := 0) rfl (by decide +kernel) (by decide) (by decide) rfl rfl hK hP hD hS hA hl.1 rfl (Nat.le_of_ble_eq_true rfl) ⟨Nat.zero_le _, Nat.zero_le _⟩ dX9_act_76 (fun r_14 I_14 R_14 J_14 H locs hp_14 hP hD hS _ _ => ?_)
    obtain ⟨hr_14, hu_14⟩ := hp_14
    refine z_callSi (As := [.int (r_14)]) (rest := []) hx hb hml hown ht (xk_J6_bitCount_0f7a4 l D q cA F _ _ _ hu_14 (r_14)) hw_3_194 hmJ6_bitCount_0f7a4 ⟨rfl, rfl⟩ (na := 1) rfl (by decide +kernel) (by decide) hK hP hD hS hA hl.1 rfl (Nat.le_of_ble_eq_true rfl) ⟨Nat.zero_le _, Nat.zero_le _⟩ dX9_act_79 (fun r_15 I_15 R_15 J_15 H locs hp_15 hP hD hS _ _ => ?_)
    obtain ⟨hr_15, hu_15⟩ := hp_15
    cases hu_15
    exact z_iret (v := r_15) hx hb hr hlocks hP hD hS dX9_act_82 hu_14
set_option maxHeartbeats 4000000 in
set_option maxRecDepth 100000 in
theorem xk_X0_replay (l : Launch) (D : va_G) (q : Nat → Nat) (cA : Nat → ClassId) (F : Nat → Nat → Int32) (I R : Nat → Nat → Int32) (J : Nat → Nat → Int64) (hI : xInv F (I, R, J))  : zMv l D vwCl (zXtys cA) 81 q (zXd q cA) yX0_replay cX0_replay 4 none ({ frames := 5, cells := 0, slots := 0, locals := 133 } : Room) [.ref (q 13), .ref (q 15)] (I, R, J) (fun u => xInv F u) := by
  intro sz
  refine z_body (by decide +kernel) (Nat.le_of_ble_eq_true rfl) (fun p e s m below meth c ls hx hb hml hr ht hown hlocks hsz hK hP hD hS hl => ?_)
  have hA : ∀ a, s.heap.size ≤ a → zA 81 q sz a := fun a h => Or.inr (hsz ▸ h)
  have hl : lv_has ls 4 [(0, .ref (q 13)), (1, .ref (q 15))] := hl
  refine lv_aload_n hx hb dX0_replay_0 rfl (lv_at hl 1 rfl) ?_
  refine z_callVv (k := 15) (As := []) (rest := []) hx hb hml hown ht (xk_X9_begin l D q cA F _ _ _ hI ) hw_4_12 hmX9_begin ⟨rfl, rfl⟩ (na := 0) rfl (by decide +kernel) (by decide) (by decide) rfl rfl hK hP hD hS hA hl.1 rfl (Nat.le_of_ble_eq_true rfl) ⟨Nat.zero_le _, Nat.zero_le _⟩ dX0_replay_1 (fun I_1 R_1 J_1 H locs hp_1 hP hD hS _ _ => ?_)
  refine lv_iconst (v := nI 0) hx hb dX0_replay_4 (by decide +kernel) ?_
  refine lv_istore_n (lv' := [(2, .int (nI 0)), (0, .ref (q 13)), (1, .ref (q 15))]) hx hb dX0_replay_5 rfl hl (by decide) rfl (fun ls hl => ?_)
  have loop_45 : ∀ N : Nat, ∀ x_43 : Int32, zR 0 60 x_43 → ∀ I_44 : Nat → Nat → Int32, ∀ R_44 : Nat → Nat → Int32, ∀ J_44 : Nat → Nat → Int64, xInv F (I_44, R_44, J_44) → (2147483648 - (x_43).toInt).toNat < N → ∀ (H : Heap) (locs : List Loc), va_P D vwCl (zw 81 q (zXd q cA) I_44 R_44 J_44) H → va_D (zA 81 q sz) (zw 81 q (zXd q cA) I_44 R_44 J_44) → va_S (zA 81 q sz) s.heap H locs → ∀ ls : Array Slot, lv_has ls 4 [(0, .ref (q 13)), (1, .ref (q 15)), (2, .int (x_43))] → W p l e ({ frames := 5, cells := 0, slots := 0, locals := 133 } : Room) s m ([.ref (q 13), .ref (q 15)] : List Value).toArray below meth c H locs 0 0 (MQ below (va_Qv (fun u => xInv F u) (zB D vwCl 81 q (zXd q cA) sz) (zA 81 q sz)) ([.ref (q 13), .ref (q 15)] : List Value).toArray s 0 0 (zA 81 q sz)) (F0 m 6 ls []) := by
    intro N
    induction N with
    | zero => intro x_43 hx_43 I_44 R_44 J_44 hI_44 hN; exact absurd hN (Nat.not_lt_zero _)
    | succ N ih_47 =>
      intro x_43 hx_43 I_44 R_44 J_44 hI_44 hN_46 H locs hP hD hS ls hl
      refine lv_iload_n hx hb dX0_replay_6 rfl (lv_at hl 2 rfl) ?_
      refine lv_aload_n hx hb dX0_replay_7 rfl (lv_at hl 0 rfl) ?_
      refine z_get hx hb ht hown hK hP ziX0 rfl 13 (by decide) 0 (by decide) hw_1_140 rfl (v := .int (I_44 13 0)) rfl dX0_replay_8 ?_
      have f_48 : zR 0 60 (I_44 13 0) := xI hI_44 13 0
      refine lv_icmp_ge (tgt := 59) hx hb dX0_replay_11 (by decide) (fun c_49 => ?_) (fun c_49 => ?_)
      · have t_c_49 := z_leT c_49
        exact z_vret hx hb hr hlocks hP hD hS dX0_replay_59 hI_44
      · have t_c_49 := z_leF c_49
        have f_50 : zR 0 59 (x_43) := zR_ltx t_c_49 hx_43 f_48 (by decide)
        have f_51 : zR 1 60 (I_44 13 0) := zR_lty t_c_49 hx_43 f_48 (by decide)
        refine lv_iload_n hx hb dX0_replay_14 rfl (lv_at hl 2 rfl) ?_
        refine lv_iconst (v := nI 4) hx hb dX0_replay_15 (by decide +kernel) ?_
        refine lv_imul hx hb dX0_replay_16 ?_
        refine lv_topi (fun v_52 ev_52 => ?_)
        have hv_52 : zR 0 236 v_52 := ev_52 ▸ zR_mul f_50 zk_4 (by decide)
        refine lv_istore_n (lv' := [(3, .int (v_52)), (0, .ref (q 13)), (1, .ref (q 15)), (2, .int (x_43))]) hx hb dX0_replay_17 rfl hl (by decide) rfl (fun ls hl => ?_)
        refine lv_aload_n hx hb dX0_replay_18 rfl (lv_at hl 2 rfl) ?_
        refine lv_aload_n hx hb dX0_replay_19 rfl (lv_at hl 1 rfl) ?_
        refine z_get hx hb ht hown hK hP ziX0 rfl 13 (by decide) 1 (by decide) hw_1_142 rfl (v := .ref (q 14)) rfl dX0_replay_20 ?_
        refine lv_iload_n hx hb dX0_replay_23 rfl (lv_at hl 0 rfl) ?_
        refine z_iald hx hb hK hP 14 (by decide) 9 rfl rfl (zR_vin hv_52 (by decide)) dX0_replay_24 ?_
        refine z_eqi (y := R_44 14 (v_52).toNatClampNeg) rfl ?_
        refine lv_aload_n hx hb dX0_replay_25 rfl (lv_at hl 1 rfl) ?_
        refine z_get hx hb ht hown hK hP ziX0 rfl 13 (by decide) 1 (by decide) hw_1_142 rfl (v := .ref (q 14)) rfl dX0_replay_26 ?_
        refine lv_iload_n hx hb dX0_replay_29 rfl (lv_at hl 0 rfl) ?_
        refine lv_iconst (v := nI 1) hx hb dX0_replay_30 (by decide +kernel) ?_
        refine lv_iadd hx hb dX0_replay_31 ?_
        refine z_addc 1 237 hv_52 zk_1 (by decide) (fun v_53 hv_53 mv_53 => ?_)
        refine z_iald hx hb hK hP 14 (by decide) 9 rfl rfl (zR_vin hv_53 (by decide)) dX0_replay_32 ?_
        refine z_eqi (y := R_44 14 (v_53).toNatClampNeg) rfl ?_
        refine lv_aload_n hx hb dX0_replay_33 rfl (lv_at hl 1 rfl) ?_
        refine z_get hx hb ht hown hK hP ziX0 rfl 13 (by decide) 1 (by decide) hw_1_142 rfl (v := .ref (q 14)) rfl dX0_replay_34 ?_
        refine lv_iload_n hx hb dX0_replay_37 rfl (lv_at hl 0 rfl) ?_
        refine lv_iconst (v := nI 2) hx hb dX0_replay_38 (by decide +kernel) ?_
        refine lv_iadd hx hb dX0_replay_39 ?_
        refine z_addc 2 238 hv_52 zk_2 (by decide) (fun v_54 hv_54 mv_54 => ?_)
        refine z_iald hx hb hK hP 14 (by decide) 9 rfl rfl (zR_vin hv_54 (by decide)) dX0_replay_40 ?_
        refine z_eqi (y := R_44 14 (v_54).toNatClampNeg) rfl ?_
        refine lv_aload_n hx hb dX0_replay_41 rfl (lv_at hl 1 rfl) ?_
        refine z_get hx hb ht hown hK hP ziX0 rfl 13 (by decide) 1 (by decide) hw_1_142 rfl (v := .ref (q 14)) rfl dX0_replay_42 ?_
        refine lv_iload_n hx hb dX0_replay_45 rfl (lv_at hl 0 rfl) ?_
        refine lv_iconst (v := nI 3) hx hb dX0_replay_46 (by decide +kernel) ?_
        refine lv_iadd hx hb dX0_replay_47 ?_
        refine z_addc 3 239 hv_52 zk_3 (by decide) (fun v_55 hv_55 mv_55 => ?_)
        refine z_iald hx hb hK hP 14 (by decide) 9 rfl rfl (zR_vin hv_55 (by decide)) dX0_replay_48 ?_
        refine z_eqi (y := R_44 14 (v_55).toNatClampNeg) rfl ?_
        refine z_callVi (k := 15) (As := [.int (R_44 14 (v_52).toNatClampNeg), .int (R_44 14 (v_53).toNatClampNeg), .int (R_44 14 (v_54).toNatClampNeg), .int (R_44 14 (v_55).toNatClampNeg)]) (rest := []) hx hb hml hown ht (xk_X9_act_6 l D q cA F _ _ _ hI_44 (R_44 14 (v_52).toNatClampNeg) (R_44 14 (v_53).toNatClampNeg) (R_44 14 (v_54).toNatClampNeg) (R_44 14 (v_55).toNatClampNeg) (xRec_at hI_44 (k := 14) rfl f_50 ev_52 mv_53 mv_54)) hw_4_13 hmX9_act ⟨rfl, rfl⟩ (na := 4) rfl (by decide +kernel) (by decide) (by decide) rfl rfl hK hP hD hS hA hl.1 rfl (Nat.le_of_ble_eq_true rfl) ⟨Nat.zero_le _, Nat.zero_le _⟩ dX0_replay_49 (fun r_56 I_56 R_56 J_56 H locs hp_56 hP hD hS _ _ => ?_)
        refine lv_pop hx hb dX0_replay_52 rfl ?_
        obtain ⟨v_57, ev_57⟩ : ∃ y : Int32, y = x_43 + nI 1 := ⟨_, rfl⟩
        have hv_57 : zR 1 60 v_57 := ev_57 ▸ zR_add f_50 zk_1 (by decide)
        have mv_57 : v_57.toInt = (x_43).toInt + 1 := by rw [ev_57, zR_addE f_50 zk_1 (by decide)]; rfl
        refine lv_iinc (v := v_57) (lv' := [(2, .int (v_57)), (3, .int (v_52)), (0, .ref (q 13)), (1, .ref (q 15))]) hx hb dX0_replay_53 hl (k := 3) rfl (ev_57 ▸ rfl) (by decide) rfl (fun ls hl => ?_)
        refine lv_goto (tgt := 6) hx hb dX0_replay_56 (by decide) ?_
        exact ih_47 (v_57) (zR_w hv_57 (by decide)) _ _ _ hp_56 (z2_up mv_57 (by decide) hN_46) _ _ hP hD hS _ (lv_sub hl [2, 3, 0] rfl)
  exact loop_45 _ (nI 0) (zR_w zk_0 (by decide)) _ _ _ hp_1 (Nat.lt_succ_self _) _ _ hP hD hS _ (lv_sub hl [1, 2, 0] rfl)
set_option maxHeartbeats 4000000 in
set_option maxRecDepth 100000 in
theorem xk_X10_undo (l : Launch) (D : va_G) (q : Nat → Nat) (cA : Nat → ClassId) (F : Nat → Nat → Int32) (I R : Nat → Nat → Int32) (J : Nat → Nat → Int64) (hI : xInv F (I, R, J))  : zMi l D vwCl (zXtys cA) 81 q (zXd q cA) yX10_undo cX10_undo 1 (some .int) ({ frames := 6, cells := 0, slots := 0, locals := 156 } : Room) [.ref (q 0)] (I, R, J) (fun r u => zR (-5) 60 r ∧ xInv F u) := by
  intro sz
  refine z_body (by decide +kernel) (Nat.le_of_ble_eq_true rfl) (fun p e s m below meth c ls hx hb hml hr ht hown hlocks hsz hK hP hD hS hl => ?_)
  have hA : ∀ a, s.heap.size ≤ a → zA 81 q sz a := fun a h => Or.inr (hsz ▸ h)
  have hl : lv_has ls 1 [(0, .ref (q 0))] := hl
  refine lv_aload_n hx hb dX10_undo_0 rfl (lv_at hl 0 rfl) ?_
  refine z_callVi (k := 0) (As := []) (rest := []) hx hb hml hown ht (xk_X10_hasCity l D q cA F _ _ _ hI ) hw_4_0 hmX10_hasCity ⟨rfl, rfl⟩ (na := 0) rfl (by decide +kernel) (by decide) (by decide) rfl rfl hK hP hD hS hA hl.1 rfl (Nat.le_of_ble_eq_true rfl) ⟨Nat.zero_le _, Nat.zero_le _⟩ dX10_undo_1 (fun r_1 I_1 R_1 J_1 H locs hp_1 hP hD hS _ _ => ?_)
  rcases hp_1 with ⟨rfl, hu_1⟩ | ⟨rfl, hu_1⟩
  · cases hu_1
    refine lv_if_ne (tgt := 10) hx hb dX10_undo_4 (by decide) (fun _ => ?_) (fun c_0 => absurd c_0 (zD_ne zk_1 zk_z (by decide)))
    refine lv_aload_n hx hb dX10_undo_10 rfl (lv_at hl 0 rfl) ?_
    refine z_get hx hb ht hown hK hP ziX10 rfl 0 (by decide) 3 (by decide) hw_2_96 rfl (v := .ref (q 13)) rfl dX10_undo_11 ?_
    refine z_get hx hb ht hown hK hP ziX0 rfl 13 (by decide) 0 (by decide) hw_1_141 rfl (v := .int (I 13 0)) rfl dX10_undo_14 ?_
    have f_2 : zR 0 60 (I 13 0) := xI hI 13 0
    refine lv_if_ne (tgt := 23) hx hb dX10_undo_17 (by decide) (fun c_3 => ?_) (fun c_3 => ?_)
    · have t_c_3 := z_eqF c_3
      have f_4 : zR 1 60 (I 13 0) := zR_nex t_c_3 f_2 zk_z (by decide)
      refine lv_aload_n hx hb dX10_undo_23 rfl (lv_at hl 0 rfl) ?_
      refine z_get hx hb ht hown hK hP ziX10 rfl 0 (by decide) 3 (by decide) hw_2_96 rfl (v := .ref (q 13)) rfl dX10_undo_24 ?_
      refine lv_dup hx hb dX10_undo_27 rfl ?_
      refine z_get hx hb ht hown hK hP ziX0 rfl 13 (by decide) 0 (by decide) hw_1_141 rfl (v := .int (I 13 0)) rfl dX10_undo_28 ?_
      refine lv_iconst (v := nI 1) hx hb dX10_undo_31 (by decide +kernel) ?_
      refine lv_isub hx hb dX10_undo_32 ?_
      refine z_subc 0 59 (-1) f_4 zk_1 (by decide) (fun v_5 hv_5 mv_5 => ?_)
      refine z_putI hx hb ht hown hK hP hD hS ziX0 tyX0 tyX0_ok nmX0 rfl 13 (by decide) 0 (by decide) hw_1_141 rfl (v := v_5) rfl rfl rfl (Nat.le_of_ble_eq_true rfl) rfl dX10_undo_33 (fun H locs hP hD hS => ?_)
      have hI_6 := xInv_I hI 13 0 (v_5) (zR_w hv_5 (by decide)) rfl
      refine lv_aload_n hx hb dX10_undo_36 rfl (lv_at hl 0 rfl) ?_
      refine z_get hx hb ht hown hK hP ziX10 rfl 0 (by decide) 3 (by decide) hw_2_96 rfl (v := .ref (q 13)) rfl dX10_undo_37 ?_
      refine lv_aload_n hx hb dX10_undo_40 rfl (lv_at hl 0 rfl) ?_
      refine z_get hx hb ht hown hK hP ziX10 rfl 0 (by decide) 4 (by decide) hw_2_97 rfl (v := .ref (q 15)) rfl dX10_undo_41 ?_
      refine z_callVv (k := 13) (As := [.ref (q 15)]) (rest := []) hx hb hml hown ht (xk_X0_replay l D q cA F _ _ _ hI_6 ) hw_4_8 hmX0_replay ⟨rfl, rfl⟩ (na := 1) rfl (by decide +kernel) (by decide) (by decide) rfl rfl hK hP hD hS hA hl.1 rfl (Nat.le_of_ble_eq_true rfl) ⟨Nat.zero_le _, Nat.zero_le _⟩ dX10_undo_44 (fun I_7 R_7 J_7 H locs hp_7 hP hD hS _ _ => ?_)
      refine lv_aload_n hx hb dX10_undo_47 rfl (lv_at hl 0 rfl) ?_
      refine z_get hx hb ht hown hK hP ziX10 rfl 0 (by decide) 3 (by decide) hw_2_96 rfl (v := .ref (q 13)) rfl dX10_undo_48 ?_
      refine z_get hx hb ht hown hK hP ziX0 rfl 13 (by decide) 0 (by decide) hw_1_141 rfl (v := .int (I_7 13 0)) rfl dX10_undo_51 ?_
      have f_8 : zR 0 60 (I_7 13 0) := xI hp_7 13 0
      exact z_iret (v := I_7 13 0) hx hb hr hlocks hP hD hS dX10_undo_54 ⟨(zR_w f_8 (by decide)), hp_7⟩
    · have t_c_3 := z_eqT c_3
      have f_9 : zR 0 0 (I 13 0) := zR_eqx t_c_3 zk_z
      refine lv_bipush (v := (-5)) hx hb dX10_undo_20 (by decide +kernel) ?_
      exact z_iret (v := (-5)) hx hb hr hlocks hP hD hS dX10_undo_22 ⟨(zR_w zk_m5 (by decide)), hI⟩
  · cases hu_1
    refine lv_if_ne (tgt := 10) hx hb dX10_undo_4 (by decide) (fun c_0 => absurd (zD_eq zk_0 zk_z) c_0) (fun _ => ?_)
    refine lv_bipush (v := (-2)) hx hb dX10_undo_7 (by decide +kernel) ?_
    exact z_iret (v := (-2)) hx hb hr hlocks hP hD hS dX10_undo_9 ⟨(zR_w zk_m2 (by decide)), hI⟩
set_option maxHeartbeats 4000000 in
set_option maxRecDepth 100000 in
theorem xk_X10_anew (l : Launch) (D : va_G) (q : Nat → Nat) (cA : Nat → ClassId) (F : Nat → Nat → Int32) (I R : Nat → Nat → Int32) (J : Nat → Nat → Int64) (hI : xInv F (I, R, J))  : zMi l D vwCl (zXtys cA) 81 q (zXd q cA) yX10_anew cX10_anew 2 (some .int) ({ frames := 2, cells := 0, slots := 0, locals := 85 } : Room) [.ref (q 0)] (I, R, J) (fun r u => zR (-2) 60 r ∧ xInv F u) := by
  intro sz
  refine z_body (by decide +kernel) (Nat.le_of_ble_eq_true rfl) (fun p e s m below meth c ls hx hb hml hr ht hown hlocks hsz hK hP hD hS hl => ?_)
  have hA : ∀ a, s.heap.size ≤ a → zA 81 q sz a := fun a h => Or.inr (hsz ▸ h)
  have hl : lv_has ls 2 [(0, .ref (q 0))] := hl
  refine lv_aload_n hx hb dX10_anew_0 rfl (lv_at hl 0 rfl) ?_
  refine z_callVi (k := 0) (As := []) (rest := []) hx hb hml hown ht (xk_X10_hasCity l D q cA F _ _ _ hI ) hw_4_0 hmX10_hasCity ⟨rfl, rfl⟩ (na := 0) rfl (by decide +kernel) (by decide) (by decide) rfl rfl hK hP hD hS hA hl.1 rfl (Nat.le_of_ble_eq_true rfl) ⟨Nat.zero_le _, Nat.zero_le _⟩ dX10_anew_1 (fun r_1 I_1 R_1 J_1 H locs hp_1 hP hD hS _ _ => ?_)
  rcases hp_1 with ⟨rfl, hu_1⟩ | ⟨rfl, hu_1⟩
  · cases hu_1
    refine lv_if_ne (tgt := 10) hx hb dX10_anew_4 (by decide) (fun _ => ?_) (fun c_0 => absurd c_0 (zD_ne zk_1 zk_z (by decide)))
    refine lv_aload_n hx hb dX10_anew_10 rfl (lv_at hl 0 rfl) ?_
    refine z_get hx hb ht hown hK hP ziX10 rfl 0 (by decide) 3 (by decide) hw_2_96 rfl (v := .ref (q 13)) rfl dX10_anew_11 ?_
    refine z_get hx hb ht hown hK hP ziX0 rfl 13 (by decide) 0 (by decide) hw_1_141 rfl (v := .int (I 13 0)) rfl dX10_anew_14 ?_
    have f_2 : zR 0 60 (I 13 0) := xI hI 13 0
    refine lv_istore_n (lv' := [(1, .int (I 13 0)), (0, .ref (q 0))]) hx hb dX10_anew_17 rfl hl (by decide) rfl (fun ls hl => ?_)
    refine lv_aload_n hx hb dX10_anew_18 rfl (lv_at hl 1 rfl) ?_
    refine z_get hx hb ht hown hK hP ziX10 rfl 0 (by decide) 3 (by decide) hw_2_96 rfl (v := .ref (q 13)) rfl dX10_anew_19 ?_
    refine lv_iconst (v := nI 0) hx hb dX10_anew_22 (by decide +kernel) ?_
    refine z_putI hx hb ht hown hK hP hD hS ziX0 tyX0 tyX0_ok nmX0 rfl 13 (by decide) 0 (by decide) hw_1_141 rfl (v := nI 0) rfl rfl rfl (Nat.le_of_ble_eq_true rfl) rfl dX10_anew_23 (fun H locs hP hD hS => ?_)
    have hI_3 := xInv_I hI 13 0 (nI 0) (zR_w zk_0 (by decide)) rfl
    refine lv_aload_n hx hb dX10_anew_26 rfl (lv_at hl 1 rfl) ?_
    refine z_get hx hb ht hown hK hP ziX10 rfl 0 (by decide) 4 (by decide) hw_2_97 rfl (v := .ref (q 15)) rfl dX10_anew_27 ?_
    refine z_callVv (k := 15) (As := []) (rest := []) hx hb hml hown ht (xk_X9_begin l D q cA F _ _ _ hI_3 ) hw_3_45 hmX9_begin ⟨rfl, rfl⟩ (na := 0) rfl (by decide +kernel) (by decide) (by decide) rfl rfl hK hP hD hS hA hl.1 rfl (Nat.le_of_ble_eq_true rfl) ⟨Nat.zero_le _, Nat.zero_le _⟩ dX10_anew_30 (fun I_4 R_4 J_4 H locs hp_4 hP hD hS _ _ => ?_)
    refine lv_iload_n hx hb dX10_anew_33 rfl (lv_at hl 0 rfl) ?_
    exact z_iret (v := I 13 0) hx hb hr hlocks hP hD hS dX10_anew_34 ⟨(zR_w f_2 (by decide)), hp_4⟩
  · cases hu_1
    refine lv_if_ne (tgt := 10) hx hb dX10_anew_4 (by decide) (fun c_0 => absurd (zD_eq zk_0 zk_z) c_0) (fun _ => ?_)
    refine lv_bipush (v := (-2)) hx hb dX10_anew_7 (by decide +kernel) ?_
    exact z_iret (v := (-2)) hx hb hr hlocks hP hD hS dX10_anew_9 ⟨(zR_w zk_m2 (by decide)), hI⟩
set_option maxHeartbeats 4000000 in
set_option maxRecDepth 100000 in
theorem xk_X9_failedSoFar (l : Launch) (D : va_G) (q : Nat → Nat) (cA : Nat → ClassId) (F : Nat → Nat → Int32) (I R : Nat → Nat → Int32) (J : Nat → Nat → Int64) (hI : xInv F (I, R, J))  : zMi l D vwCl (zXtys cA) 81 q (zXd q cA) yX9_failedSoFar cX9_failedSoFar 3 (some .int) ({ frames := 0, cells := 0, slots := 0, locals := 0 } : Room) [.ref (q 15)] (I, R, J) (fun _ u => u = (I, R, J)) := by
  intro sz
  refine z_body (by decide +kernel) (Nat.le_of_ble_eq_true rfl) (fun p e s m below meth c ls hx hb hml hr ht hown hlocks hsz hK hP hD hS hl => ?_)
  have hA : ∀ a, s.heap.size ≤ a → zA 81 q sz a := fun a h => Or.inr (hsz ▸ h)
  have hl : lv_has ls 3 [(0, .ref (q 15))] := hl
  refine lv_iconst (v := nI 0) hx hb dX9_failedSoFar_0 (by decide +kernel) ?_
  refine lv_istore_n (lv' := [(1, .int (nI 0)), (0, .ref (q 15))]) hx hb dX9_failedSoFar_1 rfl hl (by decide) rfl (fun ls hl => ?_)
  refine lv_iconst (v := nI 0) hx hb dX9_failedSoFar_2 (by decide +kernel) ?_
  refine lv_istore_n (lv' := [(2, .int (nI 0)), (1, .int (nI 0)), (0, .ref (q 15))]) hx hb dX9_failedSoFar_3 rfl hl (by decide) rfl (fun ls hl => ?_)
  have loop_121 : ∀ N : Nat, ∀ x_119 : Int32, ∀ x_120 : Int32, zR 0 24 x_120 → (2147483648 - (x_120).toInt).toNat < N → ∀ (H : Heap) (locs : List Loc), va_P D vwCl (zw 81 q (zXd q cA) I R J) H → va_D (zA 81 q sz) (zw 81 q (zXd q cA) I R J) → va_S (zA 81 q sz) s.heap H locs → ∀ ls : Array Slot, lv_has ls 3 [(0, .ref (q 15)), (1, .int (x_119)), (2, .int (x_120))] → W p l e ({ frames := 0, cells := 0, slots := 0, locals := 0 } : Room) s m ([.ref (q 15)] : List Value).toArray below meth c H locs 0 0 (MQ below (va_Qi (fun _ u => u = (I, R, J)) (zB D vwCl 81 q (zXd q cA) sz) (zA 81 q sz)) ([.ref (q 15)] : List Value).toArray s 0 0 (zA 81 q sz)) (F0 m 4 ls []) := by
    intro N
    induction N with
    | zero => intro x_119 x_120 hx_120 hN; exact absurd hN (Nat.not_lt_zero _)
    | succ N ih_123 =>
      intro x_119 x_120 hx_120 hN_122 H locs hP hD hS ls hl
      refine lv_iload_n hx hb dX9_failedSoFar_4 rfl (lv_at hl 2 rfl) ?_
      refine lv_aload_n hx hb dX9_failedSoFar_5 rfl (lv_at hl 0 rfl) ?_
      refine z_get hx hb ht hown hK hP ziX9 rfl 15 (by decide) 2 (by decide) hw_1_159 rfl (v := .int (I 15 2)) rfl dX9_failedSoFar_6 ?_
      have f_124 : zR 0 24 (I 15 2) := xI hI 15 2
      refine lv_icmp_ge (tgt := 36) hx hb dX9_failedSoFar_9 (by decide) (fun c_125 => ?_) (fun c_125 => ?_)
      · have t_c_125 := z_leT c_125
        refine lv_iload_n hx hb dX9_failedSoFar_36 rfl (lv_at hl 1 rfl) ?_
        exact z_iret (v := x_119) hx hb hr hlocks hP hD hS dX9_failedSoFar_37 rfl
      · have t_c_125 := z_leF c_125
        have f_126 : zR 0 23 (x_120) := zR_ltx t_c_125 hx_120 f_124 (by decide)
        have f_127 : zR 1 24 (I 15 2) := zR_lty t_c_125 hx_120 f_124 (by decide)
        refine lv_iload_n hx hb dX9_failedSoFar_12 rfl (lv_at hl 1 rfl) ?_
        refine lv_aload_n hx hb dX9_failedSoFar_13 rfl (lv_at hl 0 rfl) ?_
        refine z_get hx hb ht hown hK hP ziX9 rfl 15 (by decide) 11 (by decide) hw_1_185 rfl (v := .ref (q 23)) rfl dX9_failedSoFar_14 ?_
        refine lv_iload_n hx hb dX9_failedSoFar_17 rfl (lv_at hl 2 rfl) ?_
        refine z_iald hx hb hK hP 23 (by decide) 17 rfl rfl (zR_vin f_126 (by decide)) dX9_failedSoFar_18 ?_
        refine z_eqi (y := R 23 (x_120).toNatClampNeg) rfl ?_
        refine lv_iconst (v := nI 3) hx hb dX9_failedSoFar_19 (by decide +kernel) ?_
        have t_131 : ∀ x_130 : Int32, zR 0 1 x_130 → ∀ (H : Heap) (locs : List Loc), va_P D vwCl (zw 81 q (zXd q cA) I R J) H → va_D (zA 81 q sz) (zw 81 q (zXd q cA) I R J) → va_S (zA 81 q sz) s.heap H locs → ∀ ls : Array Slot, lv_has ls 3 [(0, .ref (q 15)), (1, .int (x_119)), (2, .int (x_120))] → W p l e ({ frames := 0, cells := 0, slots := 0, locals := 0 } : Room) s m ([.ref (q 15)] : List Value).toArray below meth c H locs 0 0 (MQ below (va_Qi (fun _ u => u = (I, R, J)) (zB D vwCl 81 q (zXd q cA) sz) (zA 81 q sz)) ([.ref (q 15)] : List Value).toArray s 0 0 (zA 81 q sz)) (F0 m 28 ls [.int (x_130), .int (x_119)]) := by
          intro x_130 hx_130 H locs hP hD hS ls hl
          refine lv_iadd hx hb dX9_failedSoFar_28 ?_
          refine z_any (fun v_132 => ?_)
          refine lv_istore_n (lv' := [(1, .int (v_132)), (0, .ref (q 15)), (2, .int (x_120))]) hx hb dX9_failedSoFar_29 rfl hl (by decide) rfl (fun ls hl => ?_)
          obtain ⟨v_133, ev_133⟩ : ∃ y : Int32, y = x_120 + nI 1 := ⟨_, rfl⟩
          have hv_133 : zR 1 24 v_133 := ev_133 ▸ zR_add f_126 zk_1 (by decide)
          have mv_133 : v_133.toInt = (x_120).toInt + 1 := by rw [ev_133, zR_addE f_126 zk_1 (by decide)]; rfl
          refine lv_iinc (v := v_133) (lv' := [(2, .int (v_133)), (1, .int (v_132)), (0, .ref (q 15))]) hx hb dX9_failedSoFar_30 hl (k := 2) rfl (ev_133 ▸ rfl) (by decide) rfl (fun ls hl => ?_)
          refine lv_goto (tgt := 4) hx hb dX9_failedSoFar_33 (by decide) ?_
          exact ih_123 (v_132) (v_133) (zR_w hv_133 (by decide)) (z2_up mv_133 (by decide) hN_122) _ _ hP hD hS _ (lv_sub hl [2, 1, 0] rfl)
        refine lv_icmp_ne (tgt := 27) hx hb dX9_failedSoFar_20 (by decide) (fun c_128 => ?_) (fun c_128 => ?_)
        · have t_c_128 := z_eqF c_128
          refine lv_iconst (v := nI 0) hx hb dX9_failedSoFar_27 (by decide +kernel) ?_
          exact t_131 (nI 0) (zR_w zk_0 (by decide)) _ _ hP hD hS _ (lv_sub hl [0, 1, 2] rfl)
        · have t_c_128 := z_eqT c_128
          have f_134 : zR 3 3 (R 23 (x_120).toNatClampNeg) := zR_eqx t_c_128 zk_3
          refine lv_iconst (v := nI 1) hx hb dX9_failedSoFar_23 (by decide +kernel) ?_
          refine lv_goto (tgt := 28) hx hb dX9_failedSoFar_24 (by decide) ?_
          exact t_131 (nI 1) (zR_w zk_1 (by decide)) _ _ hP hD hS _ (lv_sub hl [0, 1, 2] rfl)
  exact loop_121 _ (nI 0) (nI 0) (zR_w zk_0 (by decide)) (Nat.lt_succ_self _) _ _ hP hD hS _ (lv_sub hl [2, 1, 0] rfl)
set_option maxHeartbeats 4000000 in
set_option maxRecDepth 100000 in
theorem xk_X9_allPurses (l : Launch) (D : va_G) (q : Nat → Nat) (cA : Nat → ClassId) (F : Nat → Nat → Int32) (I R : Nat → Nat → Int32) (J : Nat → Nat → Int64) (hI : xInv F (I, R, J))  : zMi l D vwCl (zXtys cA) 81 q (zXd q cA) yX9_allPurses cX9_allPurses 3 (some .int) ({ frames := 0, cells := 0, slots := 0, locals := 0 } : Room) [.ref (q 15)] (I, R, J) (fun _ u => u = (I, R, J)) := by
  intro sz
  refine z_body (by decide +kernel) (Nat.le_of_ble_eq_true rfl) (fun p e s m below meth c ls hx hb hml hr ht hown hlocks hsz hK hP hD hS hl => ?_)
  have hA : ∀ a, s.heap.size ≤ a → zA 81 q sz a := fun a h => Or.inr (hsz ▸ h)
  have hl : lv_has ls 3 [(0, .ref (q 15))] := hl
  refine lv_iconst (v := nI 0) hx hb dX9_allPurses_0 (by decide +kernel) ?_
  refine lv_istore_n (lv' := [(1, .int (nI 0)), (0, .ref (q 15))]) hx hb dX9_allPurses_1 rfl hl (by decide) rfl (fun ls hl => ?_)
  refine lv_iconst (v := nI 0) hx hb dX9_allPurses_2 (by decide +kernel) ?_
  refine lv_istore_n (lv' := [(2, .int (nI 0)), (1, .int (nI 0)), (0, .ref (q 15))]) hx hb dX9_allPurses_3 rfl hl (by decide) rfl (fun ls hl => ?_)
  have loop_32 : ∀ N : Nat, ∀ x_30 : Int32, ∀ x_31 : Int32, zR 0 5 x_31 → (2147483648 - (x_31).toInt).toNat < N → ∀ (H : Heap) (locs : List Loc), va_P D vwCl (zw 81 q (zXd q cA) I R J) H → va_D (zA 81 q sz) (zw 81 q (zXd q cA) I R J) → va_S (zA 81 q sz) s.heap H locs → ∀ ls : Array Slot, lv_has ls 3 [(0, .ref (q 15)), (1, .int (x_30)), (2, .int (x_31))] → W p l e ({ frames := 0, cells := 0, slots := 0, locals := 0 } : Room) s m ([.ref (q 15)] : List Value).toArray below meth c H locs 0 0 (MQ below (va_Qi (fun _ u => u = (I, R, J)) (zB D vwCl 81 q (zXd q cA) sz) (zA 81 q sz)) ([.ref (q 15)] : List Value).toArray s 0 0 (zA 81 q sz)) (F0 m 4 ls []) := by
    intro N
    induction N with
    | zero => intro x_30 x_31 hx_31 hN; exact absurd hN (Nat.not_lt_zero _)
    | succ N ih_34 =>
      intro x_30 x_31 hx_31 hN_33 H locs hP hD hS ls hl
      refine lv_iload_n hx hb dX9_allPurses_4 rfl (lv_at hl 2 rfl) ?_
      refine lv_aload_n hx hb dX9_allPurses_5 rfl (lv_at hl 0 rfl) ?_
      refine z_get hx hb ht hown hK hP ziX9 rfl 15 (by decide) 0 (by decide) hw_1_154 rfl (v := .ref (q 3)) rfl dX9_allPurses_6 ?_
      refine z_get hx hb ht hown hK hP ziX2 rfl 3 (by decide) 4 (by decide) hw_1_86 rfl (v := .int (I 3 4)) rfl dX9_allPurses_9 ?_
      have f_35 : zR 0 5 (I 3 4) := xI hI 3 4
      refine lv_icmp_ge (tgt := 30) hx hb dX9_allPurses_12 (by decide) (fun c_36 => ?_) (fun c_36 => ?_)
      · have t_c_36 := z_leT c_36
        refine lv_iload_n hx hb dX9_allPurses_30 rfl (lv_at hl 1 rfl) ?_
        exact z_iret (v := x_30) hx hb hr hlocks hP hD hS dX9_allPurses_31 rfl
      · have t_c_36 := z_leF c_36
        have f_37 : zR 0 4 (x_31) := zR_ltx t_c_36 hx_31 f_35 (by decide)
        have f_38 : zR 1 5 (I 3 4) := zR_lty t_c_36 hx_31 f_35 (by decide)
        refine lv_iload_n hx hb dX9_allPurses_15 rfl (lv_at hl 1 rfl) ?_
        refine lv_aload_n hx hb dX9_allPurses_16 rfl (lv_at hl 0 rfl) ?_
        refine z_get hx hb ht hown hK hP ziX9 rfl 15 (by decide) 4 (by decide) hw_1_164 rfl (v := .ref (q 16)) rfl dX9_allPurses_17 ?_
        refine lv_iload_n hx hb dX9_allPurses_20 rfl (lv_at hl 2 rfl) ?_
        refine z_iald hx hb hK hP 16 (by decide) 10 rfl rfl (zR_vin f_37 (by decide)) dX9_allPurses_21 ?_
        refine z_eqi (y := R 16 (x_31).toNatClampNeg) rfl ?_
        refine lv_iadd hx hb dX9_allPurses_22 ?_
        refine z_any (fun v_39 => ?_)
        refine lv_istore_n (lv' := [(1, .int (v_39)), (0, .ref (q 15)), (2, .int (x_31))]) hx hb dX9_allPurses_23 rfl hl (by decide) rfl (fun ls hl => ?_)
        obtain ⟨v_40, ev_40⟩ : ∃ y : Int32, y = x_31 + nI 1 := ⟨_, rfl⟩
        have hv_40 : zR 1 5 v_40 := ev_40 ▸ zR_add f_37 zk_1 (by decide)
        have mv_40 : v_40.toInt = (x_31).toInt + 1 := by rw [ev_40, zR_addE f_37 zk_1 (by decide)]; rfl
        refine lv_iinc (v := v_40) (lv' := [(2, .int (v_40)), (1, .int (v_39)), (0, .ref (q 15))]) hx hb dX9_allPurses_24 hl (k := 2) rfl (ev_40 ▸ rfl) (by decide) rfl (fun ls hl => ?_)
        refine lv_goto (tgt := 4) hx hb dX9_allPurses_27 (by decide) ?_
        exact ih_34 (v_39) (v_40) (zR_w hv_40 (by decide)) (z2_up mv_40 (by decide) hN_33) _ _ hP hD hS _ (lv_sub hl [2, 1, 0] rfl)
  exact loop_32 _ (nI 0) (nI 0) (zR_w zk_0 (by decide)) (Nat.lt_succ_self _) _ _ hP hD hS _ (lv_sub hl [2, 1, 0] rfl)
set_option maxHeartbeats 4000000 in
set_option maxRecDepth 100000 in
theorem xk_X10_now (l : Launch) (D : va_G) (q : Nat → Nat) (cA : Nat → ClassId) (F : Nat → Nat → Int32) (I R : Nat → Nat → Int32) (J : Nat → Nat → Int64) (hI : xInv F (I, R, J)) (pa0 : Int32) : zMi l D vwCl (zXtys cA) 81 q (zXd q cA) yX10_now cX10_now 2 (some .int) ({ frames := 2, cells := 0, slots := 0, locals := 43 } : Room) [.ref (q 0), .int (pa0)] (I, R, J) (fun _ u => u = (I, R, J)) := by
  intro sz
  refine z_body (by decide +kernel) (Nat.le_of_ble_eq_true rfl) (fun p e s m below meth c ls hx hb hml hr ht hown hlocks hsz hK hP hD hS hl => ?_)
  have hA : ∀ a, s.heap.size ≤ a → zA 81 q sz a := fun a h => Or.inr (hsz ▸ h)
  have hl : lv_has ls 2 [(0, .ref (q 0)), (1, .int (pa0))] := hl
  refine lv_aload_n hx hb dX10_now_0 rfl (lv_at hl 0 rfl) ?_
  refine z_callVi (k := 0) (As := []) (rest := []) hx hb hml hown ht (xk_X10_hasCity l D q cA F _ _ _ hI ) hw_4_0 hmX10_hasCity ⟨rfl, rfl⟩ (na := 0) rfl (by decide +kernel) (by decide) (by decide) rfl rfl hK hP hD hS hA hl.1 rfl (Nat.le_of_ble_eq_true rfl) ⟨Nat.zero_le _, Nat.zero_le _⟩ dX10_now_1 (fun r_1 I_1 R_1 J_1 H locs hp_1 hP hD hS _ _ => ?_)
  rcases hp_1 with ⟨rfl, hu_1⟩ | ⟨rfl, hu_1⟩
  · cases hu_1
    refine lv_if_ne (tgt := 10) hx hb dX10_now_4 (by decide) (fun _ => ?_) (fun c_0 => absurd c_0 (zD_ne zk_1 zk_z (by decide)))
    refine lv_iload_n hx hb dX10_now_10 rfl (lv_at hl 1 rfl) ?_
    rcases (show ((pa0).toInt < 0 ∨ 3 < (pa0).toInt) ∨ (pa0).toInt = 0 ∨ (pa0).toInt = 1 ∨ (pa0).toInt = 2 ∨ (pa0).toInt = 3 by omega) with c_2 | k_3 | k_3 | k_3 | k_3
    · refine lv_tableOut (tgt := 72) hx hb dX10_now_11 c_2 (by decide) ?_
      refine lv_bipush (v := (-2)) hx hb dX10_now_72 (by decide +kernel) ?_
      exact z_iret (v := (-2)) hx hb hr hlocks hP hD hS dX10_now_74 rfl
    · refine lv_tableIn (off := 29) (tgt := 40) hx hb dX10_now_11 (by omega) (by omega) (by rw [k_3]; decide +kernel) (by decide) ?_
      refine lv_aload_n hx hb dX10_now_40 rfl (lv_at hl 0 rfl) ?_
      refine z_get hx hb ht hown hK hP ziX10 rfl 0 (by decide) 4 (by decide) hw_2_97 rfl (v := .ref (q 15)) rfl dX10_now_41 ?_
      refine z_get hx hb ht hown hK hP ziX9 rfl 15 (by decide) 1 (by decide) hw_1_158 rfl (v := .int (I 15 1)) rfl dX10_now_44 ?_
      exact z_iret (v := I 15 1) hx hb hr hlocks hP hD hS dX10_now_47 rfl
    · refine lv_tableIn (off := 37) (tgt := 48) hx hb dX10_now_11 (by omega) (by omega) (by rw [k_3]; decide +kernel) (by decide) ?_
      refine lv_aload_n hx hb dX10_now_48 rfl (lv_at hl 0 rfl) ?_
      refine z_get hx hb ht hown hK hP ziX10 rfl 0 (by decide) 4 (by decide) hw_2_97 rfl (v := .ref (q 15)) rfl dX10_now_49 ?_
      refine z_callVi (k := 15) (As := []) (rest := []) hx hb hml hown ht (xk_X9_openPapers l D q cA F _ _ _ hI ) hw_4_22 hmX9_openPapers ⟨rfl, rfl⟩ (na := 0) rfl (by decide +kernel) (by decide) (by decide) rfl rfl hK hP hD hS hA hl.1 rfl (Nat.le_of_ble_eq_true rfl) ⟨Nat.zero_le _, Nat.zero_le _⟩ dX10_now_52 (fun r_4 I_4 R_4 J_4 H locs hp_4 hP hD hS _ _ => ?_)
      obtain ⟨hr_4, hu_4⟩ := hp_4
      cases hu_4
      exact z_iret (v := r_4) hx hb hr hlocks hP hD hS dX10_now_55 rfl
    · refine lv_tableIn (off := 45) (tgt := 56) hx hb dX10_now_11 (by omega) (by omega) (by rw [k_3]; decide +kernel) (by decide) ?_
      refine lv_aload_n hx hb dX10_now_56 rfl (lv_at hl 0 rfl) ?_
      refine z_get hx hb ht hown hK hP ziX10 rfl 0 (by decide) 4 (by decide) hw_2_97 rfl (v := .ref (q 15)) rfl dX10_now_57 ?_
      refine z_callVi (k := 15) (As := []) (rest := []) hx hb hml hown ht (xk_X9_failedSoFar l D q cA F _ _ _ hI ) hw_4_23 hmX9_failedSoFar ⟨rfl, rfl⟩ (na := 0) rfl (by decide +kernel) (by decide) (by decide) rfl rfl hK hP hD hS hA hl.1 rfl (Nat.le_of_ble_eq_true rfl) ⟨Nat.zero_le _, Nat.zero_le _⟩ dX10_now_60 (fun r_5 I_5 R_5 J_5 H locs hp_5 hP hD hS _ _ => ?_)
      cases hp_5
      exact z_iret (v := r_5) hx hb hr hlocks hP hD hS dX10_now_63 rfl
    · refine lv_tableIn (off := 53) (tgt := 64) hx hb dX10_now_11 (by omega) (by omega) (by rw [k_3]; decide +kernel) (by decide) ?_
      refine lv_aload_n hx hb dX10_now_64 rfl (lv_at hl 0 rfl) ?_
      refine z_get hx hb ht hown hK hP ziX10 rfl 0 (by decide) 4 (by decide) hw_2_97 rfl (v := .ref (q 15)) rfl dX10_now_65 ?_
      refine z_callVi (k := 15) (As := []) (rest := []) hx hb hml hown ht (xk_X9_allPurses l D q cA F _ _ _ hI ) hw_4_27 hmX9_allPurses ⟨rfl, rfl⟩ (na := 0) rfl (by decide +kernel) (by decide) (by decide) rfl rfl hK hP hD hS hA hl.1 rfl (Nat.le_of_ble_eq_true rfl) ⟨Nat.zero_le _, Nat.zero_le _⟩ dX10_now_68 (fun r_6 I_6 R_6 J_6 H locs hp_6 hP hD hS _ _ => ?_)
      cases hp_6
      exact z_iret (v := r_6) hx hb hr hlocks hP hD hS dX10_now_71 rfl
  · cases hu_1
    refine lv_if_ne (tgt := 10) hx hb dX10_now_4 (by decide) (fun c_0 => absurd (zD_eq zk_0 zk_z) c_0) (fun _ => ?_)
    refine lv_bipush (v := (-2)) hx hb dX10_now_7 (by decide +kernel) ?_
    exact z_iret (v := (-2)) hx hb hr hlocks hP hD hS dX10_now_9 rfl
set_option maxHeartbeats 4000000 in
set_option maxRecDepth 100000 in
theorem xk_X9_binds (l : Launch) (D : va_G) (q : Nat → Nat) (cA : Nat → ClassId) (F : Nat → Nat → Int32) (I R : Nat → Nat → Int32) (J : Nat → Nat → Int64) (hI : xInv F (I, R, J)) (pa0 : Int32) (hpa0 : zR 0 23 pa0) : zMi l D vwCl (zXtys cA) 81 q (zXd q cA) yX9_binds cX9_binds 2 (some .boolean) ({ frames := 1, cells := 0, slots := 0, locals := 21 } : Room) [.ref (q 15), .int (pa0)] (I, R, J) (fun r u => (r = nI 1 ∧ u = (I, R, J)) ∨ (r = nI 0 ∧ u = (I, R, J))) := by
  intro sz
  refine z_body (by decide +kernel) (Nat.le_of_ble_eq_true rfl) (fun p e s m below meth c ls hx hb hml hr ht hown hlocks hsz hK hP hD hS hl => ?_)
  have hA : ∀ a, s.heap.size ≤ a → zA 81 q sz a := fun a h => Or.inr (hsz ▸ h)
  have hl : lv_has ls 2 [(0, .ref (q 15)), (1, .int (pa0))] := hl
  refine lv_aload_n hx hb dX9_binds_0 rfl (lv_at hl 0 rfl) ?_
  refine lv_iload_n hx hb dX9_binds_1 rfl (lv_at hl 1 rfl) ?_
  refine z_callVi (k := 15) (As := [.int (pa0)]) (rest := []) hx hb hml hown ht (xk_X9_isOpen_1 l D q cA F _ _ _ hI (pa0) hpa0) hw_3_75 hmX9_isOpen ⟨rfl, rfl⟩ (na := 1) rfl (by decide +kernel) (by decide) (by decide) rfl rfl hK hP hD hS hA hl.1 rfl (Nat.le_of_ble_eq_true rfl) ⟨Nat.zero_le _, Nat.zero_le _⟩ dX9_binds_2 (fun r_1 I_1 R_1 J_1 H locs hp_1 hP hD hS _ _ => ?_)
  rcases hp_1 with ⟨rfl, hu_1⟩ | ⟨rfl, hu_1⟩
  · cases hu_1
    refine lv_if_eq (tgt := 27) hx hb dX9_binds_5 (by decide) (fun c_0 => absurd c_0 (zD_ne zk_1 zk_z (by decide))) (fun _ => ?_)
    refine lv_aload_n hx hb dX9_binds_8 rfl (lv_at hl 0 rfl) ?_
    refine z_get hx hb ht hown hK hP ziX9 rfl 15 (by decide) 9 (by decide) hw_1_179 rfl (v := .ref (q 21)) rfl dX9_binds_9 ?_
    refine lv_iload_n hx hb dX9_binds_12 rfl (lv_at hl 1 rfl) ?_
    refine z_iald hx hb hK hP 21 (by decide) 15 rfl rfl (zR_vin hpa0 (by decide)) dX9_binds_13 ?_
    refine z_eqi (y := R 21 (pa0).toNatClampNeg) rfl ?_
    have f_2 : zR 0 4 (R 21 (pa0).toNatClampNeg) := xR hI 21 (pa0).toNatClampNeg
    refine lv_aload_n hx hb dX9_binds_14 rfl (lv_at hl 0 rfl) ?_
    refine z_get hx hb ht hown hK hP ziX9 rfl 15 (by decide) 7 (by decide) hw_1_171 rfl (v := .ref (q 19)) rfl dX9_binds_15 ?_
    refine lv_iload_n hx hb dX9_binds_18 rfl (lv_at hl 1 rfl) ?_
    refine z_iald hx hb hK hP 19 (by decide) 13 rfl rfl (zR_vin hpa0 (by decide)) dX9_binds_19 ?_
    refine z_eqi (y := R 19 (pa0).toNatClampNeg) rfl ?_
    have f_3 : zR 0 4 (R 19 (pa0).toNatClampNeg) := xR hI 19 (pa0).toNatClampNeg
    refine lv_icmp_eq (tgt := 27) hx hb dX9_binds_20 (by decide) (fun c_4 => ?_) (fun c_4 => ?_)
    · have t_c_4 := z_eqT c_4
      refine lv_iconst (v := nI 0) hx hb dX9_binds_27 (by decide +kernel) ?_
      exact z_zret (v := nI 0) hx hb hr hlocks hP hD hS (by decide +kernel) dX9_binds_28 (Or.inr ⟨rfl, rfl⟩)
    · have t_c_4 := z_eqF c_4
      refine lv_iconst (v := nI 1) hx hb dX9_binds_23 (by decide +kernel) ?_
      refine lv_goto (tgt := 28) hx hb dX9_binds_24 (by decide) ?_
      exact z_zret (v := nI 1) hx hb hr hlocks hP hD hS (by decide +kernel) dX9_binds_28 (Or.inl ⟨rfl, rfl⟩)
  · cases hu_1
    refine lv_if_eq (tgt := 27) hx hb dX9_binds_5 (by decide) (fun _ => ?_) (fun c_0 => absurd (zD_eq zk_0 zk_z) c_0)
    refine lv_iconst (v := nI 0) hx hb dX9_binds_27 (by decide +kernel) ?_
    exact z_zret (v := nI 0) hx hb hr hlocks hP hD hS (by decide +kernel) dX9_binds_28 (Or.inr ⟨rfl, rfl⟩)
set_option maxHeartbeats 4000000 in
set_option maxRecDepth 100000 in
theorem xk_X8_behind (l : Launch) (D : va_G) (q : Nat → Nat) (cA : Nat → ClassId) (F : Nat → Nat → Int32) (I R : Nat → Nat → Int32) (J : Nat → Nat → Int64) (hI : xInv F (I, R, J)) (pa1 : Int32) (hpa1 : zR 0 4 pa1) (pa2 : Int32) (hpa2 : zR 0 5 pa2) : zMi l D vwCl (zXtys cA) 81 q (zXd q cA) yX8_behind cX8_behind 4 (some .int) ({ frames := 2, cells := 0, slots := 0, locals := 42 } : Room) [.ref (q 15), .int (pa1), .int (pa2)] (I, R, J) (fun r u => zR (-1) 4 r ∧ u = (I, R, J)) := by
  intro sz
  refine z_body (by decide +kernel) (Nat.le_of_ble_eq_true rfl) (fun p e s m below meth c ls hx hb hml hr ht hown hlocks hsz hK hP hD hS hl => ?_)
  have hA : ∀ a, s.heap.size ≤ a → zA 81 q sz a := fun a h => Or.inr (hsz ▸ h)
  have hl : lv_has ls 4 [(0, .ref (q 15)), (1, .int (pa1)), (2, .int (pa2))] := hl
  refine lv_aload_n hx hb dX8_behind_0 rfl (lv_at hl 0 rfl) ?_
  refine z_get hx hb ht hown hK hP ziX9 rfl 15 (by decide) 2 (by decide) hw_1_160 rfl (v := .int (I 15 2)) rfl dX8_behind_1 ?_
  have f_1 : zR 0 24 (I 15 2) := xI hI 15 2
  refine lv_iconst (v := nI 1) hx hb dX8_behind_4 (by decide +kernel) ?_
  refine lv_isub hx hb dX8_behind_5 ?_
  refine z_subc (-1) 23 (-1) f_1 zk_1 (by decide) (fun v_2 hv_2 mv_2 => ?_)
  refine lv_istore_n (lv' := [(3, .int (v_2)), (0, .ref (q 15)), (1, .int (pa1)), (2, .int (pa2))]) hx hb dX8_behind_6 rfl hl (by decide) rfl (fun ls hl => ?_)
  have loop_29 : ∀ N : Nat, ∀ x_28 : Int32, zR (-1) 23 x_28 → ((x_28).toInt + 2147483649).toNat < N → ∀ (H : Heap) (locs : List Loc), va_P D vwCl (zw 81 q (zXd q cA) I R J) H → va_D (zA 81 q sz) (zw 81 q (zXd q cA) I R J) → va_S (zA 81 q sz) s.heap H locs → ∀ ls : Array Slot, lv_has ls 4 [(0, .ref (q 15)), (1, .int (pa1)), (2, .int (pa2)), (3, .int (x_28))] → W p l e ({ frames := 2, cells := 0, slots := 0, locals := 42 } : Room) s m ([.ref (q 15), .int (pa1), .int (pa2)] : List Value).toArray below meth c H locs 0 0 (MQ below (va_Qi (fun r u => zR (-1) 4 r ∧ u = (I, R, J)) (zB D vwCl 81 q (zXd q cA) sz) (zA 81 q sz)) ([.ref (q 15), .int (pa1), .int (pa2)] : List Value).toArray s 0 0 (zA 81 q sz)) (F0 m 7 ls []) := by
    intro N
    induction N with
    | zero => intro x_28 hx_28 hN; exact absurd hN (Nat.not_lt_zero _)
    | succ N ih_31 =>
      intro x_28 hx_28 hN_30 H locs hP hD hS ls hl
      refine lv_iload_n hx hb dX8_behind_7 rfl (lv_at hl 3 rfl) ?_
      refine lv_if_lt (tgt := 52) hx hb dX8_behind_8 (by decide) (fun c_32 => ?_) (fun c_32 => ?_)
      · have t_c_32 := z_ltT c_32
        have f_33 : zR (-1) (-1) (x_28) := zR_ltx t_c_32 hx_28 zk_z (by decide)
        refine lv_iconst (v := (-1)) hx hb dX8_behind_52 (by decide +kernel) ?_
        exact z_iret (v := (-1)) hx hb hr hlocks hP hD hS dX8_behind_53 ⟨(zR_w zk_m1 (by decide)), rfl⟩
      · have t_c_32 := z_ltF c_32
        have f_34 : zR 0 23 (x_28) := zR_ley t_c_32 zk_z hx_28 (by decide)
        refine lv_aload_n hx hb dX8_behind_11 rfl (lv_at hl 0 rfl) ?_
        refine z_get hx hb ht hown hK hP ziX9 rfl 15 (by decide) 7 (by decide) hw_1_172 rfl (v := .ref (q 19)) rfl dX8_behind_12 ?_
        refine lv_iload_n hx hb dX8_behind_15 rfl (lv_at hl 3 rfl) ?_
        refine z_iald hx hb hK hP 19 (by decide) 13 rfl rfl (zR_vin f_34 (by decide)) dX8_behind_16 ?_
        refine z_eqi (y := R 19 (x_28).toNatClampNeg) rfl ?_
        have f_35 : zR 0 4 (R 19 (x_28).toNatClampNeg) := xR hI 19 (x_28).toNatClampNeg
        refine lv_iload_n hx hb dX8_behind_17 rfl (lv_at hl 1 rfl) ?_
        refine lv_icmp_ne (tgt := 46) hx hb dX8_behind_18 (by decide) (fun c_36 => ?_) (fun c_36 => ?_)
        · have t_c_36 := z_eqF c_36
          obtain ⟨v_37, ev_37⟩ : ∃ y : Int32, y = x_28 + (-1) := ⟨_, rfl⟩
          have hv_37 : zR (-1) 22 v_37 := ev_37 ▸ zR_add f_34 zk_m1 (by decide)
          have mv_37 : v_37.toInt = (x_28).toInt + (-1) := by rw [ev_37, zR_addE f_34 zk_m1 (by decide)]; rfl
          refine lv_iinc (v := v_37) (lv' := [(3, .int (v_37)), (0, .ref (q 15)), (1, .int (pa1)), (2, .int (pa2))]) hx hb dX8_behind_46 hl (k := 3) rfl (ev_37 ▸ rfl) (by decide) rfl (fun ls hl => ?_)
          refine lv_goto (tgt := 7) hx hb dX8_behind_49 (by decide) ?_
          exact ih_31 (v_37) (zR_w hv_37 (by decide)) (z2_dn mv_37 (by decide) hN_30) _ _ hP hD hS _ (lv_sub hl [1, 2, 3, 0] rfl)
        · have t_c_36 := z_eqT c_36
          refine lv_aload_n hx hb dX8_behind_21 rfl (lv_at hl 0 rfl) ?_
          refine z_get hx hb ht hown hK hP ziX9 rfl 15 (by decide) 8 (by decide) hw_1_176 rfl (v := .ref (q 20)) rfl dX8_behind_22 ?_
          refine lv_iload_n hx hb dX8_behind_25 rfl (lv_at hl 3 rfl) ?_
          refine z_iald hx hb hK hP 20 (by decide) 14 rfl rfl (zR_vin f_34 (by decide)) dX8_behind_26 ?_
          refine z_eqi (y := R 20 (x_28).toNatClampNeg) rfl ?_
          have f_38 : zR 0 5 (R 20 (x_28).toNatClampNeg) := xR hI 20 (x_28).toNatClampNeg
          refine lv_iload_n hx hb dX8_behind_27 rfl (lv_at hl 2 rfl) ?_
          refine lv_icmp_ne (tgt := 46) hx hb dX8_behind_28 (by decide) (fun c_39 => ?_) (fun c_39 => ?_)
          · have t_c_39 := z_eqF c_39
            obtain ⟨v_40, ev_40⟩ : ∃ y : Int32, y = x_28 + (-1) := ⟨_, rfl⟩
            have hv_40 : zR (-1) 22 v_40 := ev_40 ▸ zR_add f_34 zk_m1 (by decide)
            have mv_40 : v_40.toInt = (x_28).toInt + (-1) := by rw [ev_40, zR_addE f_34 zk_m1 (by decide)]; rfl
            refine lv_iinc (v := v_40) (lv' := [(3, .int (v_40)), (0, .ref (q 15)), (1, .int (pa1)), (2, .int (pa2))]) hx hb dX8_behind_46 hl (k := 3) rfl (ev_40 ▸ rfl) (by decide) rfl (fun ls hl => ?_)
            refine lv_goto (tgt := 7) hx hb dX8_behind_49 (by decide) ?_
            exact ih_31 (v_40) (zR_w hv_40 (by decide)) (z2_dn mv_40 (by decide) hN_30) _ _ hP hD hS _ (lv_sub hl [1, 2, 3, 0] rfl)
          · have t_c_39 := z_eqT c_39
            refine lv_aload_n hx hb dX8_behind_31 rfl (lv_at hl 0 rfl) ?_
            refine lv_iload_n hx hb dX8_behind_32 rfl (lv_at hl 3 rfl) ?_
            refine z_callVi (k := 15) (As := [.int (x_28)]) (rest := []) hx hb hml hown ht (xk_X9_binds l D q cA F _ _ _ hI (x_28) f_34) hw_4_42 hmX9_binds ⟨rfl, rfl⟩ (na := 1) rfl (by decide +kernel) (by decide) (by decide) rfl rfl hK hP hD hS hA hl.1 rfl (Nat.le_of_ble_eq_true rfl) ⟨Nat.zero_le _, Nat.zero_le _⟩ dX8_behind_33 (fun r_41 I_41 R_41 J_41 H locs hp_41 hP hD hS _ _ => ?_)
            rcases hp_41 with ⟨rfl, hu_41⟩ | ⟨rfl, hu_41⟩
            · cases hu_41
              refine lv_if_eq (tgt := 46) hx hb dX8_behind_36 (by decide) (fun c_0 => absurd c_0 (zD_ne zk_1 zk_z (by decide))) (fun _ => ?_)
              refine lv_aload_n hx hb dX8_behind_39 rfl (lv_at hl 0 rfl) ?_
              refine z_get hx hb ht hown hK hP ziX9 rfl 15 (by decide) 9 (by decide) hw_1_180 rfl (v := .ref (q 21)) rfl dX8_behind_40 ?_
              refine lv_iload_n hx hb dX8_behind_43 rfl (lv_at hl 3 rfl) ?_
              refine z_iald hx hb hK hP 21 (by decide) 15 rfl rfl (zR_vin f_34 (by decide)) dX8_behind_44 ?_
              refine z_eqi (y := R 21 (x_28).toNatClampNeg) rfl ?_
              have f_42 : zR 0 4 (R 21 (x_28).toNatClampNeg) := xR hI 21 (x_28).toNatClampNeg
              exact z_iret (v := R 21 (x_28).toNatClampNeg) hx hb hr hlocks hP hD hS dX8_behind_45 ⟨(zR_w f_42 (by decide)), rfl⟩
            · cases hu_41
              refine lv_if_eq (tgt := 46) hx hb dX8_behind_36 (by decide) (fun _ => ?_) (fun c_0 => absurd (zD_eq zk_0 zk_z) c_0)
              obtain ⟨v_43, ev_43⟩ : ∃ y : Int32, y = x_28 + (-1) := ⟨_, rfl⟩
              have hv_43 : zR (-1) 22 v_43 := ev_43 ▸ zR_add f_34 zk_m1 (by decide)
              have mv_43 : v_43.toInt = (x_28).toInt + (-1) := by rw [ev_43, zR_addE f_34 zk_m1 (by decide)]; rfl
              refine lv_iinc (v := v_43) (lv' := [(3, .int (v_43)), (0, .ref (q 15)), (1, .int (pa1)), (2, .int (pa2))]) hx hb dX8_behind_46 hl (k := 3) rfl (ev_43 ▸ rfl) (by decide) rfl (fun ls hl => ?_)
              refine lv_goto (tgt := 7) hx hb dX8_behind_49 (by decide) ?_
              exact ih_31 (v_43) (zR_w hv_43 (by decide)) (z2_dn mv_43 (by decide) hN_30) _ _ hP hD hS _ (lv_sub hl [1, 2, 3, 0] rfl)
  exact loop_29 _ (v_2) hv_2 (Nat.lt_succ_self _) _ _ hP hD hS _ (lv_sub hl [1, 2, 3, 0] rfl)
set_option maxHeartbeats 4000000 in
set_option maxRecDepth 100000 in
theorem xk_X8_follow (l : Launch) (D : va_G) (q : Nat → Nat) (cA : Nat → ClassId) (F : Nat → Nat → Int32) (I R : Nat → Nat → Int32) (J : Nat → Nat → Int64) (hI : xInv F (I, R, J)) (pa1 : Int32) (hpa1 : zR 0 5 pa1) : zMv l D vwCl (zXtys cA) 81 q (zXd q cA) yX8_follow cX8_follow 6 none ({ frames := 3, cells := 0, slots := 0, locals := 65 } : Room) [.ref (q 39), .ref (q 15), .int (pa1)] (I, R, J) (fun u => xInv F u) := by
  intro sz
  refine z_body (by decide +kernel) (Nat.le_of_ble_eq_true rfl) (fun p e s m below meth c ls hx hb hml hr ht hown hlocks hsz hK hP hD hS hl => ?_)
  have hA : ∀ a, s.heap.size ≤ a → zA 81 q sz a := fun a h => Or.inr (hsz ▸ h)
  have hl : lv_has ls 6 [(0, .ref (q 39)), (1, .ref (q 15)), (2, .int (pa1))] := hl
  refine lv_aload_n hx hb dX8_follow_0 rfl (lv_at hl 0 rfl) ?_
  refine lv_iconst (v := nI 0) hx hb dX8_follow_1 (by decide +kernel) ?_
  refine z_putI hx hb ht hown hK hP hD hS ziX8 tyX8 tyX8_ok nmX8 rfl 39 (by decide) 0 (by decide) hw_1_227 rfl (v := nI 0) rfl rfl rfl (Nat.le_of_ble_eq_true rfl) rfl dX8_follow_2 (fun H locs hP hD hS => ?_)
  have hI_1 := xInv_I hI 39 0 (nI 0) (zR_w zk_0 (by decide)) rfl
  refine lv_aload_n hx hb dX8_follow_5 rfl (lv_at hl 0 rfl) ?_
  refine lv_iconst (v := nI 0) hx hb dX8_follow_6 (by decide +kernel) ?_
  refine z_putI hx hb ht hown hK hP hD hS ziX8 tyX8 tyX8_ok nmX8 rfl 39 (by decide) 2 (by decide) hw_1_231 rfl (v := nI 0) (by decide +kernel) (by decide +kernel) rfl (Nat.le_of_ble_eq_true rfl) rfl dX8_follow_7 (fun H locs hP hD hS => ?_)
  have hI_2 := xInv_I hI_1 39 2 (nI 0) (zR_w zk_0 (by decide)) rfl
  refine lv_iconst (v := nI 0) hx hb dX8_follow_10 (by decide +kernel) ?_
  refine lv_istore_n (lv' := [(3, .int (nI 0)), (0, .ref (q 39)), (1, .ref (q 15)), (2, .int (pa1))]) hx hb dX8_follow_11 rfl hl (by decide) rfl (fun ls hl => ?_)
  refine lv_aload_n hx hb dX8_follow_12 rfl (lv_at hl 2 rfl) ?_
  refine z_get hx hb ht hown hK hP ziX9 rfl 15 (by decide) 5 (by decide) hw_1_167 rfl (v := .ref (q 17)) rfl dX8_follow_13 ?_
  refine lv_iload_n hx hb dX8_follow_16 rfl (lv_at hl 3 rfl) ?_
  refine z_iald hx hb hK hP 17 (by decide) 11 rfl rfl (zR_vin hpa1 (by decide)) dX8_follow_17 ?_
  refine z_eqi (y := R 17 (pa1).toNatClampNeg) rfl ?_
  have f_3 : zR 0 4 (R 17 (pa1).toNatClampNeg) := xR hI 17 (pa1).toNatClampNeg
  refine lv_istore (lv' := [(4, .int (R 17 (pa1).toNatClampNeg)), (3, .int (nI 0)), (0, .ref (q 39)), (1, .ref (q 15)), (2, .int (pa1))]) hx hb dX8_follow_18 hl (by decide) rfl (fun ls hl => ?_)
  refine lv_iconst (v := nI 0) hx hb dX8_follow_20 (by decide +kernel) ?_
  refine lv_istore (lv' := [(5, .int (nI 0)), (4, .int (R 17 (pa1).toNatClampNeg)), (3, .int (nI 0)), (0, .ref (q 39)), (1, .ref (q 15)), (2, .int (pa1))]) hx hb dX8_follow_21 hl (by decide) rfl (fun ls hl => ?_)
  have t_121 : ∀ x_117 : Int32, zR 0 31 x_117 → ∀ x_118 : Int32, zR (-1) 4 x_118 → ∀ x_119 : Int32, zR 0 5 x_119 → ∀ I_120 : Nat → Nat → Int32, ∀ R_120 : Nat → Nat → Int32, xInv F (I_120, R_120, J) → ∀ (H : Heap) (locs : List Loc), va_P D vwCl (zw 81 q (zXd q cA) I_120 R_120 J) H → va_D (zA 81 q sz) (zw 81 q (zXd q cA) I_120 R_120 J) → va_S (zA 81 q sz) s.heap H locs → ∀ ls : Array Slot, lv_has ls 6 [(0, .ref (q 39)), (1, .ref (q 15)), (2, .int (pa1)), (3, .int (x_117)), (4, .int (x_118)), (5, .int (x_119))] → W p l e ({ frames := 3, cells := 0, slots := 0, locals := 65 } : Room) s m ([.ref (q 39), .ref (q 15), .int (pa1)] : List Value).toArray below meth c H locs 0 0 (MQ below (va_Qv (fun u => xInv F u) (zB D vwCl 81 q (zXd q cA) sz) (zA 81 q sz)) ([.ref (q 39), .ref (q 15), .int (pa1)] : List Value).toArray s 0 0 (zA 81 q sz)) (F0 m 109 ls []) := by
    intro x_117 hx_117 x_118 hx_118 x_119 hx_119 I_120 R_120 hI_120 H locs hP hD hS ls hl
    exact z_vret hx hb hr hlocks hP hD hS dX8_follow_109 hI_120
  have loop_127 : ∀ N : Nat, ∀ x_122 : Int32, zR 0 31 x_122 → ∀ x_123 : Int32, zR (-1) 4 x_123 → ∀ x_124 : Int32, zR 0 5 x_124 → ∀ I_125 : Nat → Nat → Int32, ∀ R_125 : Nat → Nat → Int32, xInv F (I_125, R_125, J) → ((I_125 39 0).toInt = (x_124).toInt) → (2147483648 - (x_124).toInt).toNat < N → ∀ (H : Heap) (locs : List Loc), va_P D vwCl (zw 81 q (zXd q cA) I_125 R_125 J) H → va_D (zA 81 q sz) (zw 81 q (zXd q cA) I_125 R_125 J) → va_S (zA 81 q sz) s.heap H locs → ∀ ls : Array Slot, lv_has ls 6 [(0, .ref (q 39)), (1, .ref (q 15)), (2, .int (pa1)), (3, .int (x_122)), (4, .int (x_123)), (5, .int (x_124))] → W p l e ({ frames := 3, cells := 0, slots := 0, locals := 65 } : Room) s m ([.ref (q 39), .ref (q 15), .int (pa1)] : List Value).toArray below meth c H locs 0 0 (MQ below (va_Qv (fun u => xInv F u) (zB D vwCl 81 q (zXd q cA) sz) (zA 81 q sz)) ([.ref (q 39), .ref (q 15), .int (pa1)] : List Value).toArray s 0 0 (zA 81 q sz)) (F0 m 23 ls []) := by
    intro N
    induction N with
    | zero => intro x_122 hx_122 x_123 hx_123 x_124 hx_124 I_125 R_125 hI_125 hx_126 hN; exact absurd hN (Nat.not_lt_zero _)
    | succ N ih_129 =>
      intro x_122 hx_122 x_123 hx_123 x_124 hx_124 I_125 R_125 hI_125 hx_126 hN_128 H locs hP hD hS ls hl
      refine lv_iload hx hb dX8_follow_23 (lv_at hl 5 rfl) ?_
      refine lv_iconst (v := nI 5) hx hb dX8_follow_25 (by decide +kernel) ?_
      refine lv_icmp_ge (tgt := 109) hx hb dX8_follow_26 (by decide) (fun c_130 => ?_) (fun c_130 => ?_)
      · have t_c_130 := z_leT c_130
        have f_131 : zR 5 5 (x_124) := zR_ley t_c_130 zk_5 hx_124 (by decide)
        exact t_121 (x_122) hx_122 (x_123) hx_123 (x_124) (zR_w f_131 (by decide)) _ _ hI_125 _ _ hP hD hS _ (lv_sub hl [0, 1, 2, 3, 4, 5] rfl)
      · have t_c_130 := z_leF c_130
        have f_132 : zR 0 4 (x_124) := zR_ltx t_c_130 hx_124 zk_5 (by decide)
        refine lv_iload hx hb dX8_follow_29 (lv_at hl 4 rfl) ?_
        refine lv_iconst (v := (-1)) hx hb dX8_follow_31 (by decide +kernel) ?_
        refine lv_icmp_eq (tgt := 109) hx hb dX8_follow_32 (by decide) (fun c_133 => ?_) (fun c_133 => ?_)
        · have t_c_133 := z_eqT c_133
          have f_134 : zR (-1) (-1) (x_123) := zR_eqx t_c_133 zk_m1
          exact t_121 (x_122) hx_122 (x_123) (zR_w f_134 (by decide)) (x_124) (zR_w f_132 (by decide)) _ _ hI_125 _ _ hP hD hS _ (lv_sub hl [0, 1, 2, 3, 4, 5] rfl)
        · have t_c_133 := z_eqF c_133
          have f_135 : zR 0 4 (x_123) := zR_nex t_c_133 hx_123 zk_m1 (by decide)
          refine lv_aload_n hx hb dX8_follow_35 rfl (lv_at hl 0 rfl) ?_
          refine z_get hx hb ht hown hK hP ziX8 rfl 39 (by decide) 2 (by decide) hw_1_231 rfl (v := .int (I_125 39 2)) rfl dX8_follow_36 ?_
          have f_136 : zR 0 1 (I_125 39 2) := xI hI_125 39 2
          refine lv_if_ne (tgt := 109) hx hb dX8_follow_39 (by decide) (fun c_137 => ?_) (fun c_137 => ?_)
          · have t_c_137 := z_eqF c_137
            have f_138 : zR 1 1 (I_125 39 2) := zR_nex t_c_137 f_136 zk_z (by decide)
            exact t_121 (x_122) hx_122 (x_123) (zR_w f_135 (by decide)) (x_124) (zR_w f_132 (by decide)) _ _ hI_125 _ _ hP hD hS _ (lv_sub hl [0, 1, 2, 3, 4, 5] rfl)
          · have t_c_137 := z_eqT c_137
            have f_139 : zR 0 0 (I_125 39 2) := zR_eqx t_c_137 zk_z
            have f_140 : zR 0 4 (I_125 39 0) := zR_eqx hx_126 f_132
            refine lv_aload_n hx hb dX8_follow_42 rfl (lv_at hl 0 rfl) ?_
            refine z_get hx hb ht hown hK hP ziX8 rfl 39 (by decide) 1 (by decide) hw_1_229 rfl (v := .ref (q 40)) rfl dX8_follow_43 ?_
            refine lv_aload_n hx hb dX8_follow_46 rfl (lv_at hl 0 rfl) ?_
            refine z_get hx hb ht hown hK hP ziX8 rfl 39 (by decide) 0 (by decide) hw_1_227 rfl (v := .int (I_125 39 0)) rfl dX8_follow_47 ?_
            refine lv_iload hx hb dX8_follow_50 (lv_at hl 4 rfl) ?_
            refine z_iast hx hb hK hP hD hS 40 (by decide) 32 (fun _ => rfl) rfl (zR_vin f_140 (by decide)) dX8_follow_52 (fun H locs hP hD hS => ?_)
            have hI_141 := xInv_R hI_125 40 (I_125 39 0).toNatClampNeg (x_123) (zR_any _) rfl
            refine lv_aload_n hx hb dX8_follow_53 rfl (lv_at hl 0 rfl) ?_
            refine lv_dup hx hb dX8_follow_54 rfl ?_
            refine z_get hx hb ht hown hK hP ziX8 rfl 39 (by decide) 0 (by decide) hw_1_227 rfl (v := .int (I_125 39 0)) rfl dX8_follow_55 ?_
            refine lv_iconst (v := nI 1) hx hb dX8_follow_58 (by decide +kernel) ?_
            refine lv_iadd hx hb dX8_follow_59 ?_
            refine z_addc 1 5 f_140 zk_1 (by decide) (fun v_142 hv_142 mv_142 => ?_)
            refine z_putI hx hb ht hown hK hP hD hS ziX8 tyX8 tyX8_ok nmX8 rfl 39 (by decide) 0 (by decide) hw_1_227 rfl (v := v_142) rfl rfl rfl (Nat.le_of_ble_eq_true rfl) rfl dX8_follow_60 (fun H locs hP hD hS => ?_)
            have hI_143 := xInv_I hI_141 39 0 (v_142) (zR_w hv_142 (by decide)) rfl
            refine lv_iload_n hx hb dX8_follow_63 rfl (lv_at hl 3 rfl) ?_
            refine lv_iconst (v := nI 1) hx hb dX8_follow_64 (by decide +kernel) ?_
            refine lv_iload hx hb dX8_follow_65 (lv_at hl 4 rfl) ?_
            refine lv_ishl hx hb dX8_follow_67 ?_
            refine z_rng (a := 1) (b := 16) (zR_shl1 4 f_135 (by decide)) (fun v_144 hv_144 => ?_)
            refine lv_ior hx hb dX8_follow_68 ?_
            refine z_rng (a := 0) (b := 31) (zR_or 5 hx_122 hv_144 (by decide)) (fun v_145 hv_145 => ?_)
            refine lv_istore_n (lv' := [(3, .int (v_145)), (0, .ref (q 39)), (1, .ref (q 15)), (2, .int (pa1)), (4, .int (x_123)), (5, .int (x_124))]) hx hb dX8_follow_69 rfl hl (by decide) rfl (fun ls hl => ?_)
            refine lv_aload_n hx hb dX8_follow_70 rfl (lv_at hl 2 rfl) ?_
            refine lv_iload hx hb dX8_follow_71 (lv_at hl 4 rfl) ?_
            refine lv_iload_n hx hb dX8_follow_73 rfl (lv_at hl 3 rfl) ?_
            refine z_callSi (As := [.ref (q 15), .int (x_123), .int (pa1)]) (rest := []) hx hb hml hown ht (xk_X8_behind l D q cA F _ _ _ hI_143 (x_123) f_135 (pa1) hpa1) hw_4_39 hmX8_behind ⟨rfl, rfl⟩ (na := 3) rfl (by decide +kernel) (by decide) hK hP hD hS hA hl.1 rfl (Nat.le_of_ble_eq_true rfl) ⟨Nat.zero_le _, Nat.zero_le _⟩ dX8_follow_74 (fun r_146 I_146 R_146 J_146 H locs hp_146 hP hD hS _ _ => ?_)
            obtain ⟨hr_146, hu_146⟩ := hp_146
            cases hu_146
            refine lv_istore (lv' := [(4, .int (r_146)), (3, .int (v_145)), (0, .ref (q 39)), (1, .ref (q 15)), (2, .int (pa1)), (5, .int (x_124))]) hx hb dX8_follow_77 hl (by decide) rfl (fun ls hl => ?_)
            refine lv_aload_n hx hb dX8_follow_79 rfl (lv_at hl 2 rfl) ?_
            refine lv_iload hx hb dX8_follow_80 (lv_at hl 0 rfl) ?_
            refine lv_iconst (v := (-1)) hx hb dX8_follow_82 (by decide +kernel) ?_
            have t_156 : ∀ x_155 : Int32, zR 0 1 x_155 → ∀ (H : Heap) (locs : List Loc), va_P D vwCl (zw 81 q (zXd q cA) (zp I_125 39 0 (v_142)) (zp R_125 40 (I_125 39 0).toNatClampNeg (x_123)) J) H → va_D (zA 81 q sz) (zw 81 q (zXd q cA) (zp I_125 39 0 (v_142)) (zp R_125 40 (I_125 39 0).toNatClampNeg (x_123)) J) → va_S (zA 81 q sz) s.heap H locs → ∀ ls : Array Slot, lv_has ls 6 [(0, .ref (q 39)), (1, .ref (q 15)), (2, .int (pa1)), (3, .int (v_145)), (4, .int (r_146)), (5, .int (x_124))] → W p l e ({ frames := 3, cells := 0, slots := 0, locals := 65 } : Room) s m ([.ref (q 39), .ref (q 15), .int (pa1)] : List Value).toArray below meth c H locs 0 0 (MQ below (va_Qv (fun u => xInv F u) (zB D vwCl 81 q (zXd q cA) sz) (zA 81 q sz)) ([.ref (q 39), .ref (q 15), .int (pa1)] : List Value).toArray s 0 0 (zA 81 q sz)) (F0 m 100 ls [.int (x_155), .ref (q 39)]) := by
              intro x_155 hx_155 H locs hP hD hS ls hl
              refine z_putI hx hb ht hown hK hP hD hS ziX8 tyX8 tyX8_ok nmX8 rfl 39 (by decide) 2 (by decide) hw_1_231 rfl (v := x_155) (zR_bool (a := 0) (b := 1) hx_155 (by decide)).1 (zR_bool (a := 0) (b := 1) hx_155 (by decide)).2 rfl (Nat.le_of_ble_eq_true rfl) rfl dX8_follow_100 (fun H locs hP hD hS => ?_)
              have hI_157 := xInv_I hI_143 39 2 (x_155) hx_155 rfl
              obtain ⟨v_158, ev_158⟩ : ∃ y : Int32, y = x_124 + nI 1 := ⟨_, rfl⟩
              have hv_158 : zR 1 5 v_158 := ev_158 ▸ zR_add f_132 zk_1 (by decide)
              have mv_158 : v_158.toInt = (x_124).toInt + 1 := by rw [ev_158, zR_addE f_132 zk_1 (by decide)]; rfl
              refine lv_iinc (v := v_158) (lv' := [(5, .int (v_158)), (0, .ref (q 39)), (1, .ref (q 15)), (2, .int (pa1)), (3, .int (v_145)), (4, .int (r_146))]) hx hb dX8_follow_103 hl (k := 5) rfl (ev_158 ▸ rfl) (by decide) rfl (fun ls hl => ?_)
              refine lv_goto (tgt := 23) hx hb dX8_follow_106 (by decide) ?_
              exact ih_129 (v_145) hv_145 (r_146) hr_146 (v_158) (zR_w hv_158 (by decide)) _ _ hI_157 (mv_142.trans ((congrArg (fun z => z + 1) hx_126).trans mv_158.symm)) (z2_up mv_158 (by decide) hN_128) _ _ hP hD hS _ (lv_sub hl [1, 2, 3, 4, 5, 0] rfl)
            refine lv_icmp_eq (tgt := 99) hx hb dX8_follow_83 (by decide) (fun c_147 => ?_) (fun c_147 => ?_)
            · have t_c_147 := z_eqT c_147
              have f_159 : zR (-1) (-1) (r_146) := zR_eqx t_c_147 zk_m1
              refine lv_iconst (v := nI 0) hx hb dX8_follow_99 (by decide +kernel) ?_
              exact t_156 (nI 0) (zR_w zk_0 (by decide)) _ _ hP hD hS _ (lv_sub hl [2, 3, 4, 1, 0, 5] rfl)
            · have t_c_147 := z_eqF c_147
              have f_160 : zR 0 4 (r_146) := zR_nex t_c_147 hr_146 zk_m1 (by decide)
              refine lv_iload_n hx hb dX8_follow_86 rfl (lv_at hl 1 rfl) ?_
              refine lv_iload hx hb dX8_follow_87 (lv_at hl 0 rfl) ?_
              refine lv_ishr hx hb dX8_follow_89 ?_
              refine z_any (fun v_161 => ?_)
              refine lv_iconst (v := nI 1) hx hb dX8_follow_90 (by decide +kernel) ?_
              refine lv_iand hx hb dX8_follow_91 ?_
              refine z_rng (a := 0) (b := 1) (zR_andr zk_1 (by decide)) (fun v_162 hv_162 => ?_)
              refine lv_if_eq (tgt := 99) hx hb dX8_follow_92 (by decide) (fun c_163 => ?_) (fun c_163 => ?_)
              · have t_c_163 := z_eqT c_163
                have f_164 : zR 0 0 (v_162) := zR_eqx t_c_163 zk_z
                refine lv_iconst (v := nI 0) hx hb dX8_follow_99 (by decide +kernel) ?_
                exact t_156 (nI 0) (zR_w zk_0 (by decide)) _ _ hP hD hS _ (lv_sub hl [2, 3, 4, 1, 0, 5] rfl)
              · have t_c_163 := z_eqF c_163
                have f_165 : zR 1 1 (v_162) := zR_nex t_c_163 hv_162 zk_z (by decide)
                refine lv_iconst (v := nI 1) hx hb dX8_follow_95 (by decide +kernel) ?_
                refine lv_goto (tgt := 100) hx hb dX8_follow_96 (by decide) ?_
                exact t_156 (nI 1) (zR_w zk_1 (by decide)) _ _ hP hD hS _ (lv_sub hl [2, 3, 4, 1, 0, 5] rfl)
  exact loop_127 _ (nI 0) (zR_w zk_0 (by decide)) (R 17 (pa1).toNatClampNeg) (zR_w f_3 (by decide)) (nI 0) (zR_w zk_0 (by decide)) _ _ hI_2 rfl (Nat.lt_succ_self _) _ _ hP hD hS _ (lv_sub hl [3, 4, 5, 2, 1, 0] rfl)
set_option maxHeartbeats 4000000 in
set_option maxRecDepth 100000 in
theorem xk_X8_last (l : Launch) (D : va_G) (q : Nat → Nat) (cA : Nat → ClassId) (F : Nat → Nat → Int32) (I R : Nat → Nat → Int32) (J : Nat → Nat → Int64) (hI : xInv F (I, R, J))  : zMi l D vwCl (zXtys cA) 81 q (zXd q cA) yX8_last cX8_last 1 (some .int) ({ frames := 0, cells := 0, slots := 0, locals := 0 } : Room) [.ref (q 39)] (I, R, J) (fun _ u => u = (I, R, J)) := by
  intro sz
  refine z_body (by decide +kernel) (Nat.le_of_ble_eq_true rfl) (fun p e s m below meth c ls hx hb hml hr ht hown hlocks hsz hK hP hD hS hl => ?_)
  have hA : ∀ a, s.heap.size ≤ a → zA 81 q sz a := fun a h => Or.inr (hsz ▸ h)
  have hl : lv_has ls 1 [(0, .ref (q 39))] := hl
  refine lv_aload_n hx hb dX8_last_0 rfl (lv_at hl 0 rfl) ?_
  refine z_get hx hb ht hown hK hP ziX8 rfl 39 (by decide) 2 (by decide) hw_1_231 rfl (v := .int (I 39 2)) rfl dX8_last_1 ?_
  have f_1 : zR 0 1 (I 39 2) := xI hI 39 2
  refine lv_if_ne (tgt := 14) hx hb dX8_last_4 (by decide) (fun c_2 => ?_) (fun c_2 => ?_)
  · have t_c_2 := z_eqF c_2
    have f_3 : zR 1 1 (I 39 2) := zR_nex t_c_2 f_1 zk_z (by decide)
    refine lv_iconst (v := (-1)) hx hb dX8_last_14 (by decide +kernel) ?_
    refine lv_goto (tgt := 29) hx hb dX8_last_15 (by decide) ?_
    exact z_iret (v := (-1)) hx hb hr hlocks hP hD hS dX8_last_29 rfl
  · have t_c_2 := z_eqT c_2
    have f_4 : zR 0 0 (I 39 2) := zR_eqx t_c_2 zk_z
    refine lv_aload_n hx hb dX8_last_7 rfl (lv_at hl 0 rfl) ?_
    refine z_get hx hb ht hown hK hP ziX8 rfl 39 (by decide) 0 (by decide) hw_1_227 rfl (v := .int (I 39 0)) rfl dX8_last_8 ?_
    have f_5 : zR 0 5 (I 39 0) := xI hI 39 0
    refine lv_if_ne (tgt := 18) hx hb dX8_last_11 (by decide) (fun c_6 => ?_) (fun c_6 => ?_)
    · have t_c_6 := z_eqF c_6
      have f_7 : zR 1 5 (I 39 0) := zR_nex t_c_6 f_5 zk_z (by decide)
      refine lv_aload_n hx hb dX8_last_18 rfl (lv_at hl 0 rfl) ?_
      refine z_get hx hb ht hown hK hP ziX8 rfl 39 (by decide) 1 (by decide) hw_1_229 rfl (v := .ref (q 40)) rfl dX8_last_19 ?_
      refine lv_aload_n hx hb dX8_last_22 rfl (lv_at hl 0 rfl) ?_
      refine z_get hx hb ht hown hK hP ziX8 rfl 39 (by decide) 0 (by decide) hw_1_227 rfl (v := .int (I 39 0)) rfl dX8_last_23 ?_
      refine lv_iconst (v := nI 1) hx hb dX8_last_26 (by decide +kernel) ?_
      refine lv_isub hx hb dX8_last_27 ?_
      refine z_subc 0 4 (-1) f_7 zk_1 (by decide) (fun v_8 hv_8 mv_8 => ?_)
      refine z_iald hx hb hK hP 40 (by decide) 32 rfl rfl (zR_vin hv_8 (by decide)) dX8_last_28 ?_
      refine z_eqi (y := R 40 (v_8).toNatClampNeg) rfl ?_
      exact z_iret (v := R 40 (v_8).toNatClampNeg) hx hb hr hlocks hP hD hS dX8_last_29 rfl
    · have t_c_6 := z_eqT c_6
      have f_9 : zR 0 0 (I 39 0) := zR_eqx t_c_6 zk_z
      refine lv_iconst (v := (-1)) hx hb dX8_last_14 (by decide +kernel) ?_
      refine lv_goto (tgt := 29) hx hb dX8_last_15 (by decide) ?_
      exact z_iret (v := (-1)) hx hb hr hlocks hP hD hS dX8_last_29 rfl
set_option maxHeartbeats 4000000 in
set_option maxRecDepth 100000 in
theorem xk_X10_owner (l : Launch) (D : va_G) (q : Nat → Nat) (cA : Nat → ClassId) (F : Nat → Nat → Int32) (I R : Nat → Nat → Int32) (J : Nat → Nat → Int64) (hI : xInv F (I, R, J)) (pa0 : Int32) : zMi l D vwCl (zXtys cA) 81 q (zXd q cA) yX10_owner cX10_owner 2 (some .int) ({ frames := 4, cells := 0, slots := 0, locals := 90 } : Room) [.ref (q 0), .int (pa0)] (I, R, J) (fun _ u => xInv F u) := by
  intro sz
  refine z_body (by decide +kernel) (Nat.le_of_ble_eq_true rfl) (fun p e s m below meth c ls hx hb hml hr ht hown hlocks hsz hK hP hD hS hl => ?_)
  have hA : ∀ a, s.heap.size ≤ a → zA 81 q sz a := fun a h => Or.inr (hsz ▸ h)
  have hl : lv_has ls 2 [(0, .ref (q 0)), (1, .int (pa0))] := hl
  refine lv_aload_n hx hb dX10_owner_0 rfl (lv_at hl 0 rfl) ?_
  refine lv_iload_n hx hb dX10_owner_1 rfl (lv_at hl 1 rfl) ?_
  refine z_callVi (k := 0) (As := [.int (pa0)]) (rest := []) hx hb hml hown ht (xk_X10_isThing l D q cA F _ _ _ hI (pa0)) hw_3_87 hmX10_isThing ⟨rfl, rfl⟩ (na := 1) rfl (by decide +kernel) (by decide) (by decide) rfl rfl hK hP hD hS hA hl.1 rfl (Nat.le_of_ble_eq_true rfl) ⟨Nat.zero_le _, Nat.zero_le _⟩ dX10_owner_2 (fun r_1 I_1 R_1 J_1 H locs hp_1 hP hD hS _ _ => ?_)
  rcases hp_1 with ⟨rfl, hu_1, f0_1⟩ | ⟨rfl, hu_1⟩
  · cases hu_1
    refine lv_if_ne (tgt := 11) hx hb dX10_owner_5 (by decide) (fun _ => ?_) (fun c_0 => absurd c_0 (zD_ne zk_1 zk_z (by decide)))
    refine lv_aload_n hx hb dX10_owner_11 rfl (lv_at hl 0 rfl) ?_
    refine z_get hx hb ht hown hK hP ziX10 rfl 0 (by decide) 6 (by decide) hw_2_99 rfl (v := .ref (q 39)) rfl dX10_owner_12 ?_
    refine lv_aload_n hx hb dX10_owner_15 rfl (lv_at hl 0 rfl) ?_
    refine z_get hx hb ht hown hK hP ziX10 rfl 0 (by decide) 4 (by decide) hw_2_97 rfl (v := .ref (q 15)) rfl dX10_owner_16 ?_
    refine lv_iload_n hx hb dX10_owner_19 rfl (lv_at hl 1 rfl) ?_
    refine z_callVv (k := 39) (As := [.ref (q 15), .int (pa0)]) (rest := []) hx hb hml hown ht (xk_X8_follow l D q cA F _ _ _ hI (pa0) f0_1) hw_4_35 hmX8_follow ⟨rfl, rfl⟩ (na := 2) rfl (by decide +kernel) (by decide) (by decide) rfl rfl hK hP hD hS hA hl.1 rfl (Nat.le_of_ble_eq_true rfl) ⟨Nat.zero_le _, Nat.zero_le _⟩ dX10_owner_20 (fun I_2 R_2 J_2 H locs hp_2 hP hD hS _ _ => ?_)
    refine lv_aload_n hx hb dX10_owner_23 rfl (lv_at hl 0 rfl) ?_
    refine z_get hx hb ht hown hK hP ziX10 rfl 0 (by decide) 6 (by decide) hw_2_99 rfl (v := .ref (q 39)) rfl dX10_owner_24 ?_
    refine z_callVi (k := 39) (As := []) (rest := []) hx hb hml hown ht (xk_X8_last l D q cA F _ _ _ hp_2 ) hw_4_46 hmX8_last ⟨rfl, rfl⟩ (na := 0) rfl (by decide +kernel) (by decide) (by decide) rfl rfl hK hP hD hS hA hl.1 rfl (Nat.le_of_ble_eq_true rfl) ⟨Nat.zero_le _, Nat.zero_le _⟩ dX10_owner_27 (fun r_3 I_3 R_3 J_3 H locs hp_3 hP hD hS _ _ => ?_)
    cases hp_3
    exact z_iret (v := r_3) hx hb hr hlocks hP hD hS dX10_owner_30 hp_2
  · cases hu_1
    refine lv_if_ne (tgt := 11) hx hb dX10_owner_5 (by decide) (fun c_0 => absurd (zD_eq zk_0 zk_z) c_0) (fun _ => ?_)
    refine lv_bipush (v := (-2)) hx hb dX10_owner_8 (by decide +kernel) ?_
    exact z_iret (v := (-2)) hx hb hr hlocks hP hD hS dX10_owner_10 hI
set_option maxHeartbeats 4000000 in
set_option maxRecDepth 100000 in
theorem xk_X10_chain (l : Launch) (D : va_G) (q : Nat → Nat) (cA : Nat → ClassId) (F : Nat → Nat → Int32) (I R : Nat → Nat → Int32) (J : Nat → Nat → Int64) (hI : xInv F (I, R, J)) (pa0 : Int32) (pa1 : Int32) : zMi l D vwCl (zXtys cA) 81 q (zXd q cA) yX10_chain cX10_chain 3 (some .int) ({ frames := 4, cells := 0, slots := 0, locals := 90 } : Room) [.ref (q 0), .int (pa0), .int (pa1)] (I, R, J) (fun _ u => xInv F u) := by
  intro sz
  refine z_body (by decide +kernel) (Nat.le_of_ble_eq_true rfl) (fun p e s m below meth c ls hx hb hml hr ht hown hlocks hsz hK hP hD hS hl => ?_)
  have hA : ∀ a, s.heap.size ≤ a → zA 81 q sz a := fun a h => Or.inr (hsz ▸ h)
  have hl : lv_has ls 3 [(0, .ref (q 0)), (1, .int (pa0)), (2, .int (pa1))] := hl
  refine lv_aload_n hx hb dX10_chain_0 rfl (lv_at hl 0 rfl) ?_
  refine lv_iload_n hx hb dX10_chain_1 rfl (lv_at hl 1 rfl) ?_
  refine z_callVi (k := 0) (As := [.int (pa0)]) (rest := []) hx hb hml hown ht (xk_X10_isThing l D q cA F _ _ _ hI (pa0)) hw_3_87 hmX10_isThing ⟨rfl, rfl⟩ (na := 1) rfl (by decide +kernel) (by decide) (by decide) rfl rfl hK hP hD hS hA hl.1 rfl (Nat.le_of_ble_eq_true rfl) ⟨Nat.zero_le _, Nat.zero_le _⟩ dX10_chain_2 (fun r_1 I_1 R_1 J_1 H locs hp_1 hP hD hS _ _ => ?_)
  rcases hp_1 with ⟨rfl, hu_1, f0_1⟩ | ⟨rfl, hu_1⟩
  · cases hu_1
    refine lv_if_ne (tgt := 11) hx hb dX10_chain_5 (by decide) (fun _ => ?_) (fun c_0 => absurd c_0 (zD_ne zk_1 zk_z (by decide)))
    refine lv_aload_n hx hb dX10_chain_11 rfl (lv_at hl 0 rfl) ?_
    refine z_get hx hb ht hown hK hP ziX10 rfl 0 (by decide) 6 (by decide) hw_2_99 rfl (v := .ref (q 39)) rfl dX10_chain_12 ?_
    refine lv_aload_n hx hb dX10_chain_15 rfl (lv_at hl 0 rfl) ?_
    refine z_get hx hb ht hown hK hP ziX10 rfl 0 (by decide) 4 (by decide) hw_2_97 rfl (v := .ref (q 15)) rfl dX10_chain_16 ?_
    refine lv_iload_n hx hb dX10_chain_19 rfl (lv_at hl 1 rfl) ?_
    refine z_callVv (k := 39) (As := [.ref (q 15), .int (pa0)]) (rest := []) hx hb hml hown ht (xk_X8_follow l D q cA F _ _ _ hI (pa0) f0_1) hw_4_35 hmX8_follow ⟨rfl, rfl⟩ (na := 2) rfl (by decide +kernel) (by decide) (by decide) rfl rfl hK hP hD hS hA hl.1 rfl (Nat.le_of_ble_eq_true rfl) ⟨Nat.zero_le _, Nat.zero_le _⟩ dX10_chain_20 (fun I_2 R_2 J_2 H locs hp_2 hP hD hS _ _ => ?_)
    refine lv_iload_n hx hb dX10_chain_23 rfl (lv_at hl 2 rfl) ?_
    refine lv_if_lt (tgt := 50) hx hb dX10_chain_24 (by decide) (fun c_3 => ?_) (fun c_3 => ?_)
    · have t_c_3 := z_ltT c_3
      have f_4 : zR (-2147483648) (-1) (pa1) := zR_ltx t_c_3 (zR_any (pa1)) zk_z (by decide)
      refine lv_iconst (v := (-1)) hx hb dX10_chain_50 (by decide +kernel) ?_
      exact z_iret (v := (-1)) hx hb hr hlocks hP hD hS dX10_chain_51 hp_2
    · have t_c_3 := z_ltF c_3
      have f_5 : zR 0 2147483647 (pa1) := zR_ley t_c_3 zk_z (zR_any (pa1)) (by decide)
      refine lv_iload_n hx hb dX10_chain_27 rfl (lv_at hl 2 rfl) ?_
      refine lv_aload_n hx hb dX10_chain_28 rfl (lv_at hl 0 rfl) ?_
      refine z_get hx hb ht hown hK hP ziX10 rfl 0 (by decide) 6 (by decide) hw_2_99 rfl (v := .ref (q 39)) rfl dX10_chain_29 ?_
      refine z_get hx hb ht hown hK hP ziX8 rfl 39 (by decide) 0 (by decide) hw_1_228 rfl (v := .int (I_2 39 0)) rfl dX10_chain_32 ?_
      have f_6 : zR 0 5 (I_2 39 0) := xI hp_2 39 0
      refine lv_icmp_ge (tgt := 50) hx hb dX10_chain_35 (by decide) (fun c_7 => ?_) (fun c_7 => ?_)
      · have t_c_7 := z_leT c_7
        refine lv_iconst (v := (-1)) hx hb dX10_chain_50 (by decide +kernel) ?_
        exact z_iret (v := (-1)) hx hb hr hlocks hP hD hS dX10_chain_51 hp_2
      · have t_c_7 := z_leF c_7
        have f_8 : zR 0 4 (pa1) := zR_ltx t_c_7 f_5 f_6 (by decide)
        have f_9 : zR 1 5 (I_2 39 0) := zR_lty t_c_7 f_5 f_6 (by decide)
        refine lv_aload_n hx hb dX10_chain_38 rfl (lv_at hl 0 rfl) ?_
        refine z_get hx hb ht hown hK hP ziX10 rfl 0 (by decide) 6 (by decide) hw_2_99 rfl (v := .ref (q 39)) rfl dX10_chain_39 ?_
        refine z_get hx hb ht hown hK hP ziX8 rfl 39 (by decide) 1 (by decide) hw_1_230 rfl (v := .ref (q 40)) rfl dX10_chain_42 ?_
        refine lv_iload_n hx hb dX10_chain_45 rfl (lv_at hl 2 rfl) ?_
        refine z_iald hx hb hK hP 40 (by decide) 32 rfl rfl (zR_vin f_8 (by decide)) dX10_chain_46 ?_
        refine z_eqi (y := R_2 40 (pa1).toNatClampNeg) rfl ?_
        refine lv_goto (tgt := 51) hx hb dX10_chain_47 (by decide) ?_
        exact z_iret (v := R_2 40 (pa1).toNatClampNeg) hx hb hr hlocks hP hD hS dX10_chain_51 hp_2
  · cases hu_1
    refine lv_if_ne (tgt := 11) hx hb dX10_chain_5 (by decide) (fun c_0 => absurd (zD_eq zk_0 zk_z) c_0) (fun _ => ?_)
    refine lv_bipush (v := (-2)) hx hb dX10_chain_8 (by decide +kernel) ?_
    exact z_iret (v := (-2)) hx hb hr hlocks hP hD hS dX10_chain_10 hI
set_option maxHeartbeats 4000000 in
set_option maxRecDepth 100000 in
theorem xk_X10_thingsOwnedBy (l : Launch) (D : va_G) (q : Nat → Nat) (cA : Nat → ClassId) (F : Nat → Nat → Int32) (I R : Nat → Nat → Int32) (J : Nat → Nat → Int64) (hI : xInv F (I, R, J)) (pa0 : Int32) (hpa0 : zR (-1) 4 pa0) : zMi l D vwCl (zXtys cA) 81 q (zXd q cA) yX10_thingsOwnedBy cX10_thingsOwnedBy 4 (some .int) ({ frames := 4, cells := 0, slots := 0, locals := 90 } : Room) [.ref (q 0), .int (pa0)] (I, R, J) (fun r u => zR 0 63 r ∧ xInv F u) := by
  intro sz
  refine z_body (by decide +kernel) (Nat.le_of_ble_eq_true rfl) (fun p e s m below meth c ls hx hb hml hr ht hown hlocks hsz hK hP hD hS hl => ?_)
  have hA : ∀ a, s.heap.size ≤ a → zA 81 q sz a := fun a h => Or.inr (hsz ▸ h)
  have hl : lv_has ls 4 [(0, .ref (q 0)), (1, .int (pa0))] := hl
  refine lv_iconst (v := nI 0) hx hb dX10_thingsOwnedBy_0 (by decide +kernel) ?_
  refine lv_istore_n (lv' := [(2, .int (nI 0)), (0, .ref (q 0)), (1, .int (pa0))]) hx hb dX10_thingsOwnedBy_1 rfl hl (by decide) rfl (fun ls hl => ?_)
  refine lv_iconst (v := nI 0) hx hb dX10_thingsOwnedBy_2 (by decide +kernel) ?_
  refine lv_istore_n (lv' := [(3, .int (nI 0)), (2, .int (nI 0)), (0, .ref (q 0)), (1, .int (pa0))]) hx hb dX10_thingsOwnedBy_3 rfl hl (by decide) rfl (fun ls hl => ?_)
  have loop_73 : ∀ N : Nat, ∀ x_70 : Int32, zR 0 63 x_70 → ∀ x_71 : Int32, zR 0 6 x_71 → ∀ I_72 : Nat → Nat → Int32, ∀ R_72 : Nat → Nat → Int32, ∀ J_72 : Nat → Nat → Int64, xInv F (I_72, R_72, J_72) → (2147483648 - (x_71).toInt).toNat < N → ∀ (H : Heap) (locs : List Loc), va_P D vwCl (zw 81 q (zXd q cA) I_72 R_72 J_72) H → va_D (zA 81 q sz) (zw 81 q (zXd q cA) I_72 R_72 J_72) → va_S (zA 81 q sz) s.heap H locs → ∀ ls : Array Slot, lv_has ls 4 [(0, .ref (q 0)), (1, .int (pa0)), (2, .int (x_70)), (3, .int (x_71))] → W p l e ({ frames := 4, cells := 0, slots := 0, locals := 90 } : Room) s m ([.ref (q 0), .int (pa0)] : List Value).toArray below meth c H locs 0 0 (MQ below (va_Qi (fun r u => zR 0 63 r ∧ xInv F u) (zB D vwCl 81 q (zXd q cA) sz) (zA 81 q sz)) ([.ref (q 0), .int (pa0)] : List Value).toArray s 0 0 (zA 81 q sz)) (F0 m 4 ls []) := by
    intro N
    induction N with
    | zero => intro x_70 hx_70 x_71 hx_71 I_72 R_72 J_72 hI_72 hN; exact absurd hN (Nat.not_lt_zero _)
    | succ N ih_75 =>
      intro x_70 hx_70 x_71 hx_71 I_72 R_72 J_72 hI_72 hN_74 H locs hP hD hS ls hl
      refine lv_iload_n hx hb dX10_thingsOwnedBy_4 rfl (lv_at hl 3 rfl) ?_
      refine lv_aload_n hx hb dX10_thingsOwnedBy_5 rfl (lv_at hl 0 rfl) ?_
      refine z_get hx hb ht hown hK hP ziX10 rfl 0 (by decide) 1 (by decide) hw_2_94 rfl (v := .ref (q 3)) rfl dX10_thingsOwnedBy_6 ?_
      refine z_get hx hb ht hown hK hP ziX2 rfl 3 (by decide) 5 (by decide) hw_1_93 rfl (v := .int (I_72 3 5)) rfl dX10_thingsOwnedBy_9 ?_
      have f_76 : zR 0 6 (I_72 3 5) := xI hI_72 3 5
      refine lv_icmp_ge (tgt := 50) hx hb dX10_thingsOwnedBy_12 (by decide) (fun c_77 => ?_) (fun c_77 => ?_)
      · have t_c_77 := z_leT c_77
        refine lv_iload_n hx hb dX10_thingsOwnedBy_50 rfl (lv_at hl 2 rfl) ?_
        exact z_iret (v := x_70) hx hb hr hlocks hP hD hS dX10_thingsOwnedBy_51 ⟨hx_70, hI_72⟩
      · have t_c_77 := z_leF c_77
        have f_78 : zR 0 5 (x_71) := zR_ltx t_c_77 hx_71 f_76 (by decide)
        have f_79 : zR 1 6 (I_72 3 5) := zR_lty t_c_77 hx_71 f_76 (by decide)
        refine lv_aload_n hx hb dX10_thingsOwnedBy_15 rfl (lv_at hl 0 rfl) ?_
        refine z_get hx hb ht hown hK hP ziX10 rfl 0 (by decide) 6 (by decide) hw_2_99 rfl (v := .ref (q 39)) rfl dX10_thingsOwnedBy_16 ?_
        refine lv_aload_n hx hb dX10_thingsOwnedBy_19 rfl (lv_at hl 0 rfl) ?_
        refine z_get hx hb ht hown hK hP ziX10 rfl 0 (by decide) 4 (by decide) hw_2_97 rfl (v := .ref (q 15)) rfl dX10_thingsOwnedBy_20 ?_
        refine lv_iload_n hx hb dX10_thingsOwnedBy_23 rfl (lv_at hl 3 rfl) ?_
        refine z_callVv (k := 39) (As := [.ref (q 15), .int (x_71)]) (rest := []) hx hb hml hown ht (xk_X8_follow l D q cA F _ _ _ hI_72 (x_71) f_78) hw_4_35 hmX8_follow ⟨rfl, rfl⟩ (na := 2) rfl (by decide +kernel) (by decide) (by decide) rfl rfl hK hP hD hS hA hl.1 rfl (Nat.le_of_ble_eq_true rfl) ⟨Nat.zero_le _, Nat.zero_le _⟩ dX10_thingsOwnedBy_24 (fun I_80 R_80 J_80 H locs hp_80 hP hD hS _ _ => ?_)
        refine lv_aload_n hx hb dX10_thingsOwnedBy_27 rfl (lv_at hl 0 rfl) ?_
        refine z_get hx hb ht hown hK hP ziX10 rfl 0 (by decide) 6 (by decide) hw_2_99 rfl (v := .ref (q 39)) rfl dX10_thingsOwnedBy_28 ?_
        refine z_callVi (k := 39) (As := []) (rest := []) hx hb hml hown ht (xk_X8_last l D q cA F _ _ _ hp_80 ) hw_4_46 hmX8_last ⟨rfl, rfl⟩ (na := 0) rfl (by decide +kernel) (by decide) (by decide) rfl rfl hK hP hD hS hA hl.1 rfl (Nat.le_of_ble_eq_true rfl) ⟨Nat.zero_le _, Nat.zero_le _⟩ dX10_thingsOwnedBy_31 (fun r_81 I_81 R_81 J_81 H locs hp_81 hP hD hS _ _ => ?_)
        cases hp_81
        refine lv_iload_n hx hb dX10_thingsOwnedBy_34 rfl (lv_at hl 1 rfl) ?_
        have t_87 : ∀ x_86 : Int32, zR 0 63 x_86 → ∀ (H : Heap) (locs : List Loc), va_P D vwCl (zw 81 q (zXd q cA) I_80 R_80 J_80) H → va_D (zA 81 q sz) (zw 81 q (zXd q cA) I_80 R_80 J_80) → va_S (zA 81 q sz) s.heap H locs → ∀ ls : Array Slot, lv_has ls 4 [(0, .ref (q 0)), (1, .int (pa0)), (2, .int (x_86)), (3, .int (x_71))] → W p l e ({ frames := 4, cells := 0, slots := 0, locals := 90 } : Room) s m ([.ref (q 0), .int (pa0)] : List Value).toArray below meth c H locs 0 0 (MQ below (va_Qi (fun r u => zR 0 63 r ∧ xInv F u) (zB D vwCl 81 q (zXd q cA) sz) (zA 81 q sz)) ([.ref (q 0), .int (pa0)] : List Value).toArray s 0 0 (zA 81 q sz)) (F0 m 44 ls []) := by
          intro x_86 hx_86 H locs hP hD hS ls hl
          obtain ⟨v_88, ev_88⟩ : ∃ y : Int32, y = x_71 + nI 1 := ⟨_, rfl⟩
          have hv_88 : zR 1 6 v_88 := ev_88 ▸ zR_add f_78 zk_1 (by decide)
          have mv_88 : v_88.toInt = (x_71).toInt + 1 := by rw [ev_88, zR_addE f_78 zk_1 (by decide)]; rfl
          refine lv_iinc (v := v_88) (lv' := [(3, .int (v_88)), (0, .ref (q 0)), (1, .int (pa0)), (2, .int (x_86))]) hx hb dX10_thingsOwnedBy_44 hl (k := 3) rfl (ev_88 ▸ rfl) (by decide) rfl (fun ls hl => ?_)
          refine lv_goto (tgt := 4) hx hb dX10_thingsOwnedBy_47 (by decide) ?_
          exact ih_75 (x_86) hx_86 (v_88) (zR_w hv_88 (by decide)) _ _ _ hp_80 (z2_up mv_88 (by decide) hN_74) _ _ hP hD hS _ (lv_sub hl [1, 2, 3, 0] rfl)
        refine lv_icmp_ne (tgt := 44) hx hb dX10_thingsOwnedBy_35 (by decide) (fun c_82 => ?_) (fun c_82 => ?_)
        · have t_c_82 := z_eqF c_82
          exact t_87 (x_70) hx_70 _ _ hP hD hS _ (lv_sub hl [0, 1, 2, 3] rfl)
        · have t_c_82 := z_eqT c_82
          have f_89 : zR (-1) 4 (r_81) := zR_eqx t_c_82 hpa0
          refine lv_iload_n hx hb dX10_thingsOwnedBy_38 rfl (lv_at hl 2 rfl) ?_
          refine lv_iconst (v := nI 1) hx hb dX10_thingsOwnedBy_39 (by decide +kernel) ?_
          refine lv_iload_n hx hb dX10_thingsOwnedBy_40 rfl (lv_at hl 3 rfl) ?_
          refine lv_ishl hx hb dX10_thingsOwnedBy_41 ?_
          refine z_rng (a := 1) (b := 32) (zR_shl1 5 f_78 (by decide)) (fun v_90 hv_90 => ?_)
          refine lv_ior hx hb dX10_thingsOwnedBy_42 ?_
          refine z_rng (a := 0) (b := 63) (zR_or 6 hx_70 hv_90 (by decide)) (fun v_91 hv_91 => ?_)
          refine lv_istore_n (lv' := [(2, .int (v_91)), (0, .ref (q 0)), (1, .int (pa0)), (3, .int (x_71))]) hx hb dX10_thingsOwnedBy_43 rfl hl (by decide) rfl (fun ls hl => ?_)
          exact t_87 (v_91) hv_91 _ _ hP hD hS _ (lv_sub hl [1, 2, 0, 3] rfl)
  exact loop_73 _ (nI 0) (zR_w zk_0 (by decide)) (nI 0) (zR_w zk_0 (by decide)) _ _ _ hI (Nat.lt_succ_self _) _ _ hP hD hS _ (lv_sub hl [2, 3, 1, 0] rfl)
set_option maxHeartbeats 4000000 in
set_option maxRecDepth 100000 in
theorem xk_X10_rings (l : Launch) (D : va_G) (q : Nat → Nat) (cA : Nat → ClassId) (F : Nat → Nat → Int32) (I R : Nat → Nat → Int32) (J : Nat → Nat → Int64) (hI : xInv F (I, R, J))  : zMi l D vwCl (zXtys cA) 81 q (zXd q cA) yX10_rings cX10_rings 1 (some .int) ({ frames := 5, cells := 0, slots := 0, locals := 113 } : Room) [.ref (q 0)] (I, R, J) (fun r u => zR (-2) 63 r ∧ xInv F u) := by
  intro sz
  refine z_body (by decide +kernel) (Nat.le_of_ble_eq_true rfl) (fun p e s m below meth c ls hx hb hml hr ht hown hlocks hsz hK hP hD hS hl => ?_)
  have hA : ∀ a, s.heap.size ≤ a → zA 81 q sz a := fun a h => Or.inr (hsz ▸ h)
  have hl : lv_has ls 1 [(0, .ref (q 0))] := hl
  refine lv_aload_n hx hb dX10_rings_0 rfl (lv_at hl 0 rfl) ?_
  refine z_callVi (k := 0) (As := []) (rest := []) hx hb hml hown ht (xk_X10_hasCity l D q cA F _ _ _ hI ) hw_4_0 hmX10_hasCity ⟨rfl, rfl⟩ (na := 0) rfl (by decide +kernel) (by decide) (by decide) rfl rfl hK hP hD hS hA hl.1 rfl (Nat.le_of_ble_eq_true rfl) ⟨Nat.zero_le _, Nat.zero_le _⟩ dX10_rings_1 (fun r_1 I_1 R_1 J_1 H locs hp_1 hP hD hS _ _ => ?_)
  rcases hp_1 with ⟨rfl, hu_1⟩ | ⟨rfl, hu_1⟩
  · cases hu_1
    refine lv_if_eq (tgt := 15) hx hb dX10_rings_4 (by decide) (fun c_0 => absurd c_0 (zD_ne zk_1 zk_z (by decide))) (fun _ => ?_)
    refine lv_aload_n hx hb dX10_rings_7 rfl (lv_at hl 0 rfl) ?_
    refine lv_iconst (v := (-1)) hx hb dX10_rings_8 (by decide +kernel) ?_
    refine z_callVi (k := 0) (As := [.int ((-1))]) (rest := []) hx hb hml hown ht (xk_X10_thingsOwnedBy l D q cA F _ _ _ hI ((-1)) (zR_w zk_m1 (by decide))) hw_4_58 hmX10_thingsOwnedBy ⟨rfl, rfl⟩ (na := 1) rfl (by decide +kernel) (by decide) (by decide) rfl rfl hK hP hD hS hA hl.1 rfl (Nat.le_of_ble_eq_true rfl) ⟨Nat.zero_le _, Nat.zero_le _⟩ dX10_rings_9 (fun r_2 I_2 R_2 J_2 H locs hp_2 hP hD hS _ _ => ?_)
    obtain ⟨hr_2, hu_2⟩ := hp_2
    refine lv_goto (tgt := 17) hx hb dX10_rings_12 (by decide) ?_
    exact z_iret (v := r_2) hx hb hr hlocks hP hD hS dX10_rings_17 ⟨(zR_w hr_2 (by decide)), hu_2⟩
  · cases hu_1
    refine lv_if_eq (tgt := 15) hx hb dX10_rings_4 (by decide) (fun _ => ?_) (fun c_0 => absurd (zD_eq zk_0 zk_z) c_0)
    refine lv_bipush (v := (-2)) hx hb dX10_rings_15 (by decide +kernel) ?_
    exact z_iret (v := (-2)) hx hb hr hlocks hP hD hS dX10_rings_17 ⟨(zR_w zk_m2 (by decide)), hI⟩
set_option maxHeartbeats 4000000 in
set_option maxRecDepth 100000 in
theorem xk_X10_thingsOwnedBy_1 (l : Launch) (D : va_G) (q : Nat → Nat) (cA : Nat → ClassId) (F : Nat → Nat → Int32) (I R : Nat → Nat → Int32) (J : Nat → Nat → Int64) (hI : xInv F (I, R, J)) (pa0 : Int32) (hpa0 : zR 0 4 pa0) : zMi l D vwCl (zXtys cA) 81 q (zXd q cA) yX10_thingsOwnedBy cX10_thingsOwnedBy 4 (some .int) ({ frames := 4, cells := 0, slots := 0, locals := 90 } : Room) [.ref (q 0), .int (pa0)] (I, R, J) (fun r u => zR 0 63 r ∧ xInv F u) := by
  intro sz
  refine z_body (by decide +kernel) (Nat.le_of_ble_eq_true rfl) (fun p e s m below meth c ls hx hb hml hr ht hown hlocks hsz hK hP hD hS hl => ?_)
  have hA : ∀ a, s.heap.size ≤ a → zA 81 q sz a := fun a h => Or.inr (hsz ▸ h)
  have hl : lv_has ls 4 [(0, .ref (q 0)), (1, .int (pa0))] := hl
  refine lv_iconst (v := nI 0) hx hb dX10_thingsOwnedBy_0 (by decide +kernel) ?_
  refine lv_istore_n (lv' := [(2, .int (nI 0)), (0, .ref (q 0)), (1, .int (pa0))]) hx hb dX10_thingsOwnedBy_1 rfl hl (by decide) rfl (fun ls hl => ?_)
  refine lv_iconst (v := nI 0) hx hb dX10_thingsOwnedBy_2 (by decide +kernel) ?_
  refine lv_istore_n (lv' := [(3, .int (nI 0)), (2, .int (nI 0)), (0, .ref (q 0)), (1, .int (pa0))]) hx hb dX10_thingsOwnedBy_3 rfl hl (by decide) rfl (fun ls hl => ?_)
  have loop_73 : ∀ N : Nat, ∀ x_70 : Int32, zR 0 63 x_70 → ∀ x_71 : Int32, zR 0 6 x_71 → ∀ I_72 : Nat → Nat → Int32, ∀ R_72 : Nat → Nat → Int32, ∀ J_72 : Nat → Nat → Int64, xInv F (I_72, R_72, J_72) → (2147483648 - (x_71).toInt).toNat < N → ∀ (H : Heap) (locs : List Loc), va_P D vwCl (zw 81 q (zXd q cA) I_72 R_72 J_72) H → va_D (zA 81 q sz) (zw 81 q (zXd q cA) I_72 R_72 J_72) → va_S (zA 81 q sz) s.heap H locs → ∀ ls : Array Slot, lv_has ls 4 [(0, .ref (q 0)), (1, .int (pa0)), (2, .int (x_70)), (3, .int (x_71))] → W p l e ({ frames := 4, cells := 0, slots := 0, locals := 90 } : Room) s m ([.ref (q 0), .int (pa0)] : List Value).toArray below meth c H locs 0 0 (MQ below (va_Qi (fun r u => zR 0 63 r ∧ xInv F u) (zB D vwCl 81 q (zXd q cA) sz) (zA 81 q sz)) ([.ref (q 0), .int (pa0)] : List Value).toArray s 0 0 (zA 81 q sz)) (F0 m 4 ls []) := by
    intro N
    induction N with
    | zero => intro x_70 hx_70 x_71 hx_71 I_72 R_72 J_72 hI_72 hN; exact absurd hN (Nat.not_lt_zero _)
    | succ N ih_75 =>
      intro x_70 hx_70 x_71 hx_71 I_72 R_72 J_72 hI_72 hN_74 H locs hP hD hS ls hl
      refine lv_iload_n hx hb dX10_thingsOwnedBy_4 rfl (lv_at hl 3 rfl) ?_
      refine lv_aload_n hx hb dX10_thingsOwnedBy_5 rfl (lv_at hl 0 rfl) ?_
      refine z_get hx hb ht hown hK hP ziX10 rfl 0 (by decide) 1 (by decide) hw_2_94 rfl (v := .ref (q 3)) rfl dX10_thingsOwnedBy_6 ?_
      refine z_get hx hb ht hown hK hP ziX2 rfl 3 (by decide) 5 (by decide) hw_1_93 rfl (v := .int (I_72 3 5)) rfl dX10_thingsOwnedBy_9 ?_
      have f_76 : zR 0 6 (I_72 3 5) := xI hI_72 3 5
      refine lv_icmp_ge (tgt := 50) hx hb dX10_thingsOwnedBy_12 (by decide) (fun c_77 => ?_) (fun c_77 => ?_)
      · have t_c_77 := z_leT c_77
        refine lv_iload_n hx hb dX10_thingsOwnedBy_50 rfl (lv_at hl 2 rfl) ?_
        exact z_iret (v := x_70) hx hb hr hlocks hP hD hS dX10_thingsOwnedBy_51 ⟨hx_70, hI_72⟩
      · have t_c_77 := z_leF c_77
        have f_78 : zR 0 5 (x_71) := zR_ltx t_c_77 hx_71 f_76 (by decide)
        have f_79 : zR 1 6 (I_72 3 5) := zR_lty t_c_77 hx_71 f_76 (by decide)
        refine lv_aload_n hx hb dX10_thingsOwnedBy_15 rfl (lv_at hl 0 rfl) ?_
        refine z_get hx hb ht hown hK hP ziX10 rfl 0 (by decide) 6 (by decide) hw_2_99 rfl (v := .ref (q 39)) rfl dX10_thingsOwnedBy_16 ?_
        refine lv_aload_n hx hb dX10_thingsOwnedBy_19 rfl (lv_at hl 0 rfl) ?_
        refine z_get hx hb ht hown hK hP ziX10 rfl 0 (by decide) 4 (by decide) hw_2_97 rfl (v := .ref (q 15)) rfl dX10_thingsOwnedBy_20 ?_
        refine lv_iload_n hx hb dX10_thingsOwnedBy_23 rfl (lv_at hl 3 rfl) ?_
        refine z_callVv (k := 39) (As := [.ref (q 15), .int (x_71)]) (rest := []) hx hb hml hown ht (xk_X8_follow l D q cA F _ _ _ hI_72 (x_71) f_78) hw_4_35 hmX8_follow ⟨rfl, rfl⟩ (na := 2) rfl (by decide +kernel) (by decide) (by decide) rfl rfl hK hP hD hS hA hl.1 rfl (Nat.le_of_ble_eq_true rfl) ⟨Nat.zero_le _, Nat.zero_le _⟩ dX10_thingsOwnedBy_24 (fun I_80 R_80 J_80 H locs hp_80 hP hD hS _ _ => ?_)
        refine lv_aload_n hx hb dX10_thingsOwnedBy_27 rfl (lv_at hl 0 rfl) ?_
        refine z_get hx hb ht hown hK hP ziX10 rfl 0 (by decide) 6 (by decide) hw_2_99 rfl (v := .ref (q 39)) rfl dX10_thingsOwnedBy_28 ?_
        refine z_callVi (k := 39) (As := []) (rest := []) hx hb hml hown ht (xk_X8_last l D q cA F _ _ _ hp_80 ) hw_4_46 hmX8_last ⟨rfl, rfl⟩ (na := 0) rfl (by decide +kernel) (by decide) (by decide) rfl rfl hK hP hD hS hA hl.1 rfl (Nat.le_of_ble_eq_true rfl) ⟨Nat.zero_le _, Nat.zero_le _⟩ dX10_thingsOwnedBy_31 (fun r_81 I_81 R_81 J_81 H locs hp_81 hP hD hS _ _ => ?_)
        cases hp_81
        refine lv_iload_n hx hb dX10_thingsOwnedBy_34 rfl (lv_at hl 1 rfl) ?_
        have t_87 : ∀ x_86 : Int32, zR 0 63 x_86 → ∀ (H : Heap) (locs : List Loc), va_P D vwCl (zw 81 q (zXd q cA) I_80 R_80 J_80) H → va_D (zA 81 q sz) (zw 81 q (zXd q cA) I_80 R_80 J_80) → va_S (zA 81 q sz) s.heap H locs → ∀ ls : Array Slot, lv_has ls 4 [(0, .ref (q 0)), (1, .int (pa0)), (2, .int (x_86)), (3, .int (x_71))] → W p l e ({ frames := 4, cells := 0, slots := 0, locals := 90 } : Room) s m ([.ref (q 0), .int (pa0)] : List Value).toArray below meth c H locs 0 0 (MQ below (va_Qi (fun r u => zR 0 63 r ∧ xInv F u) (zB D vwCl 81 q (zXd q cA) sz) (zA 81 q sz)) ([.ref (q 0), .int (pa0)] : List Value).toArray s 0 0 (zA 81 q sz)) (F0 m 44 ls []) := by
          intro x_86 hx_86 H locs hP hD hS ls hl
          obtain ⟨v_88, ev_88⟩ : ∃ y : Int32, y = x_71 + nI 1 := ⟨_, rfl⟩
          have hv_88 : zR 1 6 v_88 := ev_88 ▸ zR_add f_78 zk_1 (by decide)
          have mv_88 : v_88.toInt = (x_71).toInt + 1 := by rw [ev_88, zR_addE f_78 zk_1 (by decide)]; rfl
          refine lv_iinc (v := v_88) (lv' := [(3, .int (v_88)), (0, .ref (q 0)), (1, .int (pa0)), (2, .int (x_86))]) hx hb dX10_thingsOwnedBy_44 hl (k := 3) rfl (ev_88 ▸ rfl) (by decide) rfl (fun ls hl => ?_)
          refine lv_goto (tgt := 4) hx hb dX10_thingsOwnedBy_47 (by decide) ?_
          exact ih_75 (x_86) hx_86 (v_88) (zR_w hv_88 (by decide)) _ _ _ hp_80 (z2_up mv_88 (by decide) hN_74) _ _ hP hD hS _ (lv_sub hl [1, 2, 3, 0] rfl)
        refine lv_icmp_ne (tgt := 44) hx hb dX10_thingsOwnedBy_35 (by decide) (fun c_82 => ?_) (fun c_82 => ?_)
        · have t_c_82 := z_eqF c_82
          exact t_87 (x_70) hx_70 _ _ hP hD hS _ (lv_sub hl [0, 1, 2, 3] rfl)
        · have t_c_82 := z_eqT c_82
          have f_89 : zR 0 4 (r_81) := zR_eqx t_c_82 hpa0
          refine lv_iload_n hx hb dX10_thingsOwnedBy_38 rfl (lv_at hl 2 rfl) ?_
          refine lv_iconst (v := nI 1) hx hb dX10_thingsOwnedBy_39 (by decide +kernel) ?_
          refine lv_iload_n hx hb dX10_thingsOwnedBy_40 rfl (lv_at hl 3 rfl) ?_
          refine lv_ishl hx hb dX10_thingsOwnedBy_41 ?_
          refine z_rng (a := 1) (b := 32) (zR_shl1 5 f_78 (by decide)) (fun v_90 hv_90 => ?_)
          refine lv_ior hx hb dX10_thingsOwnedBy_42 ?_
          refine z_rng (a := 0) (b := 63) (zR_or 6 hx_70 hv_90 (by decide)) (fun v_91 hv_91 => ?_)
          refine lv_istore_n (lv' := [(2, .int (v_91)), (0, .ref (q 0)), (1, .int (pa0)), (3, .int (x_71))]) hx hb dX10_thingsOwnedBy_43 rfl hl (by decide) rfl (fun ls hl => ?_)
          exact t_87 (v_91) hv_91 _ _ hP hD hS _ (lv_sub hl [1, 2, 0, 3] rfl)
  exact loop_73 _ (nI 0) (zR_w zk_0 (by decide)) (nI 0) (zR_w zk_0 (by decide)) _ _ _ hI (Nat.lt_succ_self _) _ _ hP hD hS _ (lv_sub hl [2, 3, 1, 0] rfl)
set_option maxHeartbeats 4000000 in
set_option maxRecDepth 100000 in
theorem xk_X10_owns (l : Launch) (D : va_G) (q : Nat → Nat) (cA : Nat → ClassId) (F : Nat → Nat → Int32) (I R : Nat → Nat → Int32) (J : Nat → Nat → Int64) (hI : xInv F (I, R, J)) (pa0 : Int32) : zMi l D vwCl (zXtys cA) 81 q (zXd q cA) yX10_owns cX10_owns 2 (some .int) ({ frames := 5, cells := 0, slots := 0, locals := 113 } : Room) [.ref (q 0), .int (pa0)] (I, R, J) (fun r u => zR (-2) 63 r ∧ xInv F u) := by
  intro sz
  refine z_body (by decide +kernel) (Nat.le_of_ble_eq_true rfl) (fun p e s m below meth c ls hx hb hml hr ht hown hlocks hsz hK hP hD hS hl => ?_)
  have hA : ∀ a, s.heap.size ≤ a → zA 81 q sz a := fun a h => Or.inr (hsz ▸ h)
  have hl : lv_has ls 2 [(0, .ref (q 0)), (1, .int (pa0))] := hl
  refine lv_aload_n hx hb dX10_owns_0 rfl (lv_at hl 0 rfl) ?_
  refine lv_iload_n hx hb dX10_owns_1 rfl (lv_at hl 1 rfl) ?_
  refine z_callVi (k := 0) (As := [.int (pa0)]) (rest := []) hx hb hml hown ht (xk_X10_isHouse l D q cA F _ _ _ hI (pa0)) hw_3_59 hmX10_isHouse ⟨rfl, rfl⟩ (na := 1) rfl (by decide +kernel) (by decide) (by decide) rfl rfl hK hP hD hS hA hl.1 rfl (Nat.le_of_ble_eq_true rfl) ⟨Nat.zero_le _, Nat.zero_le _⟩ dX10_owns_2 (fun r_1 I_1 R_1 J_1 H locs hp_1 hP hD hS _ _ => ?_)
  rcases hp_1 with ⟨rfl, hu_1, f0_1⟩ | ⟨rfl, hu_1⟩
  · cases hu_1
    refine lv_if_eq (tgt := 16) hx hb dX10_owns_5 (by decide) (fun c_0 => absurd c_0 (zD_ne zk_1 zk_z (by decide))) (fun _ => ?_)
    refine lv_aload_n hx hb dX10_owns_8 rfl (lv_at hl 0 rfl) ?_
    refine lv_iload_n hx hb dX10_owns_9 rfl (lv_at hl 1 rfl) ?_
    refine z_callVi (k := 0) (As := [.int (pa0)]) (rest := []) hx hb hml hown ht (xk_X10_thingsOwnedBy_1 l D q cA F _ _ _ hI (pa0) f0_1) hw_4_58 hmX10_thingsOwnedBy ⟨rfl, rfl⟩ (na := 1) rfl (by decide +kernel) (by decide) (by decide) rfl rfl hK hP hD hS hA hl.1 rfl (Nat.le_of_ble_eq_true rfl) ⟨Nat.zero_le _, Nat.zero_le _⟩ dX10_owns_10 (fun r_2 I_2 R_2 J_2 H locs hp_2 hP hD hS _ _ => ?_)
    obtain ⟨hr_2, hu_2⟩ := hp_2
    refine lv_goto (tgt := 18) hx hb dX10_owns_13 (by decide) ?_
    exact z_iret (v := r_2) hx hb hr hlocks hP hD hS dX10_owns_18 ⟨(zR_w hr_2 (by decide)), hu_2⟩
  · cases hu_1
    refine lv_if_eq (tgt := 16) hx hb dX10_owns_5 (by decide) (fun _ => ?_) (fun c_0 => absurd (zD_eq zk_0 zk_z) c_0)
    refine lv_bipush (v := (-2)) hx hb dX10_owns_16 (by decide +kernel) ?_
    exact z_iret (v := (-2)) hx hb hr hlocks hP hD hS dX10_owns_18 ⟨(zR_w zk_m2 (by decide)), hI⟩
set_option maxHeartbeats 4000000 in
set_option maxRecDepth 100000 in
theorem xk_X8_contradict_2 (l : Launch) (D : va_G) (q : Nat → Nat) (cA : Nat → ClassId) (F : Nat → Nat → Int32) (I R : Nat → Nat → Int32) (J : Nat → Nat → Int64) (hI : xInv F (I, R, J)) (pa1 : Int32) (hpa1 : zR 0 23 pa1) (pa2 : Int32) (hpa2 : zR 0 23 pa2) : zMi l D vwCl (zXtys cA) 81 q (zXd q cA) yX8_contradict cX8_contradict 3 (some .boolean) ({ frames := 2, cells := 0, slots := 0, locals := 42 } : Room) [.ref (q 15), .int (pa1), .int (pa2)] (I, R, J) (fun r u => (r = nI 1 ∧ u = (I, R, J)) ∨ (r = nI 0 ∧ u = (I, R, J))) := by
  intro sz
  refine z_body (by decide +kernel) (Nat.le_of_ble_eq_true rfl) (fun p e s m below meth c ls hx hb hml hr ht hown hlocks hsz hK hP hD hS hl => ?_)
  have hA : ∀ a, s.heap.size ≤ a → zA 81 q sz a := fun a h => Or.inr (hsz ▸ h)
  have hl : lv_has ls 3 [(0, .ref (q 15)), (1, .int (pa1)), (2, .int (pa2))] := hl
  refine lv_aload_n hx hb dX8_contradict_0 rfl (lv_at hl 0 rfl) ?_
  refine z_get hx hb ht hown hK hP ziX9 rfl 15 (by decide) 7 (by decide) hw_1_172 rfl (v := .ref (q 19)) rfl dX8_contradict_1 ?_
  refine lv_iload_n hx hb dX8_contradict_4 rfl (lv_at hl 1 rfl) ?_
  refine z_iald hx hb hK hP 19 (by decide) 13 rfl rfl (zR_vin hpa1 (by decide)) dX8_contradict_5 ?_
  refine z_eqi (y := R 19 (pa1).toNatClampNeg) rfl ?_
  have f_1 : zR 0 4 (R 19 (pa1).toNatClampNeg) := xR hI 19 (pa1).toNatClampNeg
  refine lv_aload_n hx hb dX8_contradict_6 rfl (lv_at hl 0 rfl) ?_
  refine z_get hx hb ht hown hK hP ziX9 rfl 15 (by decide) 7 (by decide) hw_1_172 rfl (v := .ref (q 19)) rfl dX8_contradict_7 ?_
  refine lv_iload_n hx hb dX8_contradict_10 rfl (lv_at hl 2 rfl) ?_
  refine z_iald hx hb hK hP 19 (by decide) 13 rfl rfl (zR_vin hpa2 (by decide)) dX8_contradict_11 ?_
  refine z_eqi (y := R 19 (pa2).toNatClampNeg) rfl ?_
  have f_2 : zR 0 4 (R 19 (pa2).toNatClampNeg) := xR hI 19 (pa2).toNatClampNeg
  refine lv_icmp_ne (tgt := 50) hx hb dX8_contradict_12 (by decide) (fun c_3 => ?_) (fun c_3 => ?_)
  · have t_c_3 := z_eqF c_3
    refine lv_iconst (v := nI 0) hx hb dX8_contradict_50 (by decide +kernel) ?_
    exact z_zret (v := nI 0) hx hb hr hlocks hP hD hS (by decide +kernel) dX8_contradict_51 (Or.inr ⟨rfl, rfl⟩)
  · have t_c_3 := z_eqT c_3
    refine lv_aload_n hx hb dX8_contradict_15 rfl (lv_at hl 0 rfl) ?_
    refine z_get hx hb ht hown hK hP ziX9 rfl 15 (by decide) 8 (by decide) hw_1_176 rfl (v := .ref (q 20)) rfl dX8_contradict_16 ?_
    refine lv_iload_n hx hb dX8_contradict_19 rfl (lv_at hl 1 rfl) ?_
    refine z_iald hx hb hK hP 20 (by decide) 14 rfl rfl (zR_vin hpa1 (by decide)) dX8_contradict_20 ?_
    refine z_eqi (y := R 20 (pa1).toNatClampNeg) rfl ?_
    have f_4 : zR 0 5 (R 20 (pa1).toNatClampNeg) := xR hI 20 (pa1).toNatClampNeg
    refine lv_aload_n hx hb dX8_contradict_21 rfl (lv_at hl 0 rfl) ?_
    refine z_get hx hb ht hown hK hP ziX9 rfl 15 (by decide) 8 (by decide) hw_1_176 rfl (v := .ref (q 20)) rfl dX8_contradict_22 ?_
    refine lv_iload_n hx hb dX8_contradict_25 rfl (lv_at hl 2 rfl) ?_
    refine z_iald hx hb hK hP 20 (by decide) 14 rfl rfl (zR_vin hpa2 (by decide)) dX8_contradict_26 ?_
    refine z_eqi (y := R 20 (pa2).toNatClampNeg) rfl ?_
    have f_5 : zR 0 5 (R 20 (pa2).toNatClampNeg) := xR hI 20 (pa2).toNatClampNeg
    refine lv_icmp_ne (tgt := 50) hx hb dX8_contradict_27 (by decide) (fun c_6 => ?_) (fun c_6 => ?_)
    · have t_c_6 := z_eqF c_6
      refine lv_iconst (v := nI 0) hx hb dX8_contradict_50 (by decide +kernel) ?_
      exact z_zret (v := nI 0) hx hb hr hlocks hP hD hS (by decide +kernel) dX8_contradict_51 (Or.inr ⟨rfl, rfl⟩)
    · have t_c_6 := z_eqT c_6
      refine lv_aload_n hx hb dX8_contradict_30 rfl (lv_at hl 0 rfl) ?_
      refine lv_iload_n hx hb dX8_contradict_31 rfl (lv_at hl 1 rfl) ?_
      refine z_callVi (k := 15) (As := [.int (pa1)]) (rest := []) hx hb hml hown ht (xk_X9_binds l D q cA F _ _ _ hI (pa1) hpa1) hw_4_42 hmX9_binds ⟨rfl, rfl⟩ (na := 1) rfl (by decide +kernel) (by decide) (by decide) rfl rfl hK hP hD hS hA hl.1 rfl (Nat.le_of_ble_eq_true rfl) ⟨Nat.zero_le _, Nat.zero_le _⟩ dX8_contradict_32 (fun r_7 I_7 R_7 J_7 H locs hp_7 hP hD hS _ _ => ?_)
      rcases hp_7 with ⟨rfl, hu_7⟩ | ⟨rfl, hu_7⟩
      · cases hu_7
        refine lv_if_eq (tgt := 50) hx hb dX8_contradict_35 (by decide) (fun c_0 => absurd c_0 (zD_ne zk_1 zk_z (by decide))) (fun _ => ?_)
        refine lv_aload_n hx hb dX8_contradict_38 rfl (lv_at hl 0 rfl) ?_
        refine lv_iload_n hx hb dX8_contradict_39 rfl (lv_at hl 2 rfl) ?_
        refine z_callVi (k := 15) (As := [.int (pa2)]) (rest := []) hx hb hml hown ht (xk_X9_binds l D q cA F _ _ _ hI (pa2) hpa2) hw_4_42 hmX9_binds ⟨rfl, rfl⟩ (na := 1) rfl (by decide +kernel) (by decide) (by decide) rfl rfl hK hP hD hS hA hl.1 rfl (Nat.le_of_ble_eq_true rfl) ⟨Nat.zero_le _, Nat.zero_le _⟩ dX8_contradict_40 (fun r_8 I_8 R_8 J_8 H locs hp_8 hP hD hS _ _ => ?_)
        rcases hp_8 with ⟨rfl, hu_8⟩ | ⟨rfl, hu_8⟩
        · cases hu_8
          refine lv_if_eq (tgt := 50) hx hb dX8_contradict_43 (by decide) (fun c_0 => absurd c_0 (zD_ne zk_1 zk_z (by decide))) (fun _ => ?_)
          refine lv_iconst (v := nI 1) hx hb dX8_contradict_46 (by decide +kernel) ?_
          refine lv_goto (tgt := 51) hx hb dX8_contradict_47 (by decide) ?_
          exact z_zret (v := nI 1) hx hb hr hlocks hP hD hS (by decide +kernel) dX8_contradict_51 (Or.inl ⟨rfl, rfl⟩)
        · cases hu_8
          refine lv_if_eq (tgt := 50) hx hb dX8_contradict_43 (by decide) (fun _ => ?_) (fun c_0 => absurd (zD_eq zk_0 zk_z) c_0)
          refine lv_iconst (v := nI 0) hx hb dX8_contradict_50 (by decide +kernel) ?_
          exact z_zret (v := nI 0) hx hb hr hlocks hP hD hS (by decide +kernel) dX8_contradict_51 (Or.inr ⟨rfl, rfl⟩)
      · cases hu_7
        refine lv_if_eq (tgt := 50) hx hb dX8_contradict_35 (by decide) (fun _ => ?_) (fun c_0 => absurd (zD_eq zk_0 zk_z) c_0)
        refine lv_iconst (v := nI 0) hx hb dX8_contradict_50 (by decide +kernel) ?_
        exact z_zret (v := nI 0) hx hb hr hlocks hP hD hS (by decide +kernel) dX8_contradict_51 (Or.inr ⟨rfl, rfl⟩)
set_option maxHeartbeats 4000000 in
set_option maxRecDepth 100000 in
theorem xk_X8_pairs (l : Launch) (D : va_G) (q : Nat → Nat) (cA : Nat → ClassId) (F : Nat → Nat → Int32) (I R : Nat → Nat → Int32) (J : Nat → Nat → Int64) (hI : xInv F (I, R, J))  : zMi l D vwCl (zXtys cA) 81 q (zXd q cA) yX8_pairs cX8_pairs 5 (some .int) ({ frames := 3, cells := 0, slots := 0, locals := 64 } : Room) [.ref (q 39), .ref (q 15)] (I, R, J) (fun _ u => u = (I, R, J)) := by
  intro sz
  refine z_body (by decide +kernel) (Nat.le_of_ble_eq_true rfl) (fun p e s m below meth c ls hx hb hml hr ht hown hlocks hsz hK hP hD hS hl => ?_)
  have hA : ∀ a, s.heap.size ≤ a → zA 81 q sz a := fun a h => Or.inr (hsz ▸ h)
  have hl : lv_has ls 5 [(0, .ref (q 39)), (1, .ref (q 15))] := hl
  refine lv_iconst (v := nI 0) hx hb dX8_pairs_0 (by decide +kernel) ?_
  refine lv_istore_n (lv' := [(2, .int (nI 0)), (0, .ref (q 39)), (1, .ref (q 15))]) hx hb dX8_pairs_1 rfl hl (by decide) rfl (fun ls hl => ?_)
  refine lv_iconst (v := nI 0) hx hb dX8_pairs_2 (by decide +kernel) ?_
  refine lv_istore_n (lv' := [(3, .int (nI 0)), (2, .int (nI 0)), (0, .ref (q 39)), (1, .ref (q 15))]) hx hb dX8_pairs_3 rfl hl (by decide) rfl (fun ls hl => ?_)
  have loop_186 : ∀ N : Nat, ∀ x_184 : Int32, ∀ x_185 : Int32, zR 0 24 x_185 → (2147483648 - (x_185).toInt).toNat < N → ∀ (H : Heap) (locs : List Loc), va_P D vwCl (zw 81 q (zXd q cA) I R J) H → va_D (zA 81 q sz) (zw 81 q (zXd q cA) I R J) → va_S (zA 81 q sz) s.heap H locs → ∀ ls : Array Slot, lv_has ls 5 [(0, .ref (q 39)), (1, .ref (q 15)), (2, .int (x_184)), (3, .int (x_185))] → W p l e ({ frames := 3, cells := 0, slots := 0, locals := 64 } : Room) s m ([.ref (q 39), .ref (q 15)] : List Value).toArray below meth c H locs 0 0 (MQ below (va_Qi (fun _ u => u = (I, R, J)) (zB D vwCl 81 q (zXd q cA) sz) (zA 81 q sz)) ([.ref (q 39), .ref (q 15)] : List Value).toArray s 0 0 (zA 81 q sz)) (F0 m 4 ls []) := by
    intro N
    induction N with
    | zero => intro x_184 x_185 hx_185 hN; exact absurd hN (Nat.not_lt_zero _)
    | succ N ih_188 =>
      intro x_184 x_185 hx_185 hN_187 H locs hP hD hS ls hl
      refine lv_iload_n hx hb dX8_pairs_4 rfl (lv_at hl 3 rfl) ?_
      refine lv_aload_n hx hb dX8_pairs_5 rfl (lv_at hl 1 rfl) ?_
      refine z_get hx hb ht hown hK hP ziX9 rfl 15 (by decide) 2 (by decide) hw_1_160 rfl (v := .int (I 15 2)) rfl dX8_pairs_6 ?_
      have f_189 : zR 0 24 (I 15 2) := xI hI 15 2
      refine lv_icmp_ge (tgt := 51) hx hb dX8_pairs_9 (by decide) (fun c_190 => ?_) (fun c_190 => ?_)
      · have t_c_190 := z_leT c_190
        refine lv_iload_n hx hb dX8_pairs_51 rfl (lv_at hl 2 rfl) ?_
        exact z_iret (v := x_184) hx hb hr hlocks hP hD hS dX8_pairs_52 rfl
      · have t_c_190 := z_leF c_190
        have f_191 : zR 0 23 (x_185) := zR_ltx t_c_190 hx_185 f_189 (by decide)
        have f_192 : zR 1 24 (I 15 2) := zR_lty t_c_190 hx_185 f_189 (by decide)
        refine lv_iconst (v := nI 0) hx hb dX8_pairs_12 (by decide +kernel) ?_
        refine lv_istore (lv' := [(4, .int (nI 0)), (0, .ref (q 39)), (1, .ref (q 15)), (2, .int (x_184)), (3, .int (x_185))]) hx hb dX8_pairs_13 hl (by decide) rfl (fun ls hl => ?_)
        have loop_228 : ∀ N : Nat, ∀ x_226 : Int32, ∀ x_227 : Int32, zR 0 23 x_227 → (2147483648 - (x_227).toInt).toNat < N → ∀ (H : Heap) (locs : List Loc), va_P D vwCl (zw 81 q (zXd q cA) I R J) H → va_D (zA 81 q sz) (zw 81 q (zXd q cA) I R J) → va_S (zA 81 q sz) s.heap H locs → ∀ ls : Array Slot, lv_has ls 5 [(0, .ref (q 39)), (1, .ref (q 15)), (2, .int (x_226)), (3, .int (x_185)), (4, .int (x_227))] → W p l e ({ frames := 3, cells := 0, slots := 0, locals := 64 } : Room) s m ([.ref (q 39), .ref (q 15)] : List Value).toArray below meth c H locs 0 0 (MQ below (va_Qi (fun _ u => u = (I, R, J)) (zB D vwCl 81 q (zXd q cA) sz) (zA 81 q sz)) ([.ref (q 39), .ref (q 15)] : List Value).toArray s 0 0 (zA 81 q sz)) (F0 m 15 ls []) := by
          intro N
          induction N with
          | zero => intro x_226 x_227 hx_227 hN; exact absurd hN (Nat.not_lt_zero _)
          | succ N ih_230 =>
            intro x_226 x_227 hx_227 hN_229 H locs hP hD hS ls hl
            refine lv_iload hx hb dX8_pairs_15 (lv_at hl 4 rfl) ?_
            refine lv_iload_n hx hb dX8_pairs_17 rfl (lv_at hl 3 rfl) ?_
            refine lv_icmp_ge (tgt := 45) hx hb dX8_pairs_18 (by decide) (fun c_231 => ?_) (fun c_231 => ?_)
            · have t_c_231 := z_leT c_231
              obtain ⟨v_238, ev_238⟩ : ∃ y : Int32, y = x_185 + nI 1 := ⟨_, rfl⟩
              have hv_238 : zR 1 24 v_238 := ev_238 ▸ zR_add f_191 zk_1 (by decide)
              have mv_238 : v_238.toInt = (x_185).toInt + 1 := by rw [ev_238, zR_addE f_191 zk_1 (by decide)]; rfl
              refine lv_iinc (v := v_238) (lv' := [(3, .int (v_238)), (0, .ref (q 39)), (1, .ref (q 15)), (2, .int (x_226)), (4, .int (x_227))]) hx hb dX8_pairs_45 hl (k := 3) rfl (ev_238 ▸ rfl) (by decide) rfl (fun ls hl => ?_)
              refine lv_goto (tgt := 4) hx hb dX8_pairs_48 (by decide) ?_
              exact ih_188 (x_226) (v_238) (zR_w hv_238 (by decide)) (z2_up mv_238 (by decide) hN_187) _ _ hP hD hS _ (lv_sub hl [1, 2, 3, 0] rfl)
            · have t_c_231 := z_leF c_231
              have f_239 : zR 0 22 (x_227) := zR_ltx t_c_231 hx_227 f_191 (by decide)
              have f_240 : zR 1 23 (x_185) := zR_lty t_c_231 hx_227 f_191 (by decide)
              refine lv_iload_n hx hb dX8_pairs_21 rfl (lv_at hl 2 rfl) ?_
              refine lv_aload_n hx hb dX8_pairs_22 rfl (lv_at hl 1 rfl) ?_
              refine lv_iload_n hx hb dX8_pairs_23 rfl (lv_at hl 3 rfl) ?_
              refine lv_iload hx hb dX8_pairs_24 (lv_at hl 4 rfl) ?_
              have t_243 : ∀ x_242 : Int32, zR 0 1 x_242 → ∀ (H : Heap) (locs : List Loc), va_P D vwCl (zw 81 q (zXd q cA) I R J) H → va_D (zA 81 q sz) (zw 81 q (zXd q cA) I R J) → va_S (zA 81 q sz) s.heap H locs → ∀ ls : Array Slot, lv_has ls 5 [(0, .ref (q 39)), (1, .ref (q 15)), (2, .int (x_226)), (3, .int (x_185)), (4, .int (x_227))] → W p l e ({ frames := 3, cells := 0, slots := 0, locals := 64 } : Room) s m ([.ref (q 39), .ref (q 15)] : List Value).toArray below meth c H locs 0 0 (MQ below (va_Qi (fun _ u => u = (I, R, J)) (zB D vwCl 81 q (zXd q cA) sz) (zA 81 q sz)) ([.ref (q 39), .ref (q 15)] : List Value).toArray s 0 0 (zA 81 q sz)) (F0 m 37 ls [.int (x_242), .int (x_226)]) := by
                intro x_242 hx_242 H locs hP hD hS ls hl
                refine lv_iadd hx hb dX8_pairs_37 ?_
                refine z_any (fun v_244 => ?_)
                refine lv_istore_n (lv' := [(2, .int (v_244)), (0, .ref (q 39)), (1, .ref (q 15)), (3, .int (x_185)), (4, .int (x_227))]) hx hb dX8_pairs_38 rfl hl (by decide) rfl (fun ls hl => ?_)
                obtain ⟨v_245, ev_245⟩ : ∃ y : Int32, y = x_227 + nI 1 := ⟨_, rfl⟩
                have hv_245 : zR 1 23 v_245 := ev_245 ▸ zR_add f_239 zk_1 (by decide)
                have mv_245 : v_245.toInt = (x_227).toInt + 1 := by rw [ev_245, zR_addE f_239 zk_1 (by decide)]; rfl
                refine lv_iinc (v := v_245) (lv' := [(4, .int (v_245)), (2, .int (v_244)), (0, .ref (q 39)), (1, .ref (q 15)), (3, .int (x_185))]) hx hb dX8_pairs_39 hl (k := 4) rfl (ev_245 ▸ rfl) (by decide) rfl (fun ls hl => ?_)
                refine lv_goto (tgt := 15) hx hb dX8_pairs_42 (by decide) ?_
                exact ih_230 (v_244) (v_245) (zR_w hv_245 (by decide)) (z2_up mv_245 (by decide) hN_229) _ _ hP hD hS _ (lv_sub hl [2, 3, 1, 4, 0] rfl)
              refine z_callSi (As := [.ref (q 15), .int (x_185), .int (x_227)]) (rest := [.int (x_226)]) hx hb hml hown ht (xk_X8_contradict_2 l D q cA F _ _ _ hI (x_185) (zR_w f_240 (by decide)) (x_227) (zR_w f_239 (by decide))) hw_4_74 hmX8_contradict ⟨rfl, rfl⟩ (na := 3) rfl (by decide +kernel) (by decide) hK hP hD hS hA hl.1 rfl (Nat.le_of_ble_eq_true rfl) ⟨Nat.zero_le _, Nat.zero_le _⟩ dX8_pairs_26 (fun r_241 I_241 R_241 J_241 H locs hp_241 hP hD hS _ _ => ?_)
              rcases hp_241 with ⟨rfl, hu_241⟩ | ⟨rfl, hu_241⟩
              · cases hu_241
                refine lv_if_eq (tgt := 36) hx hb dX8_pairs_29 (by decide) (fun c_0 => absurd c_0 (zD_ne zk_1 zk_z (by decide))) (fun _ => ?_)
                refine lv_iconst (v := nI 1) hx hb dX8_pairs_32 (by decide +kernel) ?_
                refine lv_goto (tgt := 37) hx hb dX8_pairs_33 (by decide) ?_
                exact t_243 (nI 1) (zR_w zk_1 (by decide)) _ _ hP hD hS _ (lv_sub hl [0, 1, 2, 3, 4] rfl)
              · cases hu_241
                refine lv_if_eq (tgt := 36) hx hb dX8_pairs_29 (by decide) (fun _ => ?_) (fun c_0 => absurd (zD_eq zk_0 zk_z) c_0)
                refine lv_iconst (v := nI 0) hx hb dX8_pairs_36 (by decide +kernel) ?_
                exact t_243 (nI 0) (zR_w zk_0 (by decide)) _ _ hP hD hS _ (lv_sub hl [0, 1, 2, 3, 4] rfl)
        exact loop_228 _ (x_184) (nI 0) (zR_w zk_0 (by decide)) (Nat.lt_succ_self _) _ _ hP hD hS _ (lv_sub hl [1, 2, 3, 4, 0] rfl)
  exact loop_186 _ (nI 0) (nI 0) (zR_w zk_0 (by decide)) (Nat.lt_succ_self _) _ _ hP hD hS _ (lv_sub hl [2, 3, 1, 0] rfl)
set_option maxHeartbeats 4000000 in
set_option maxRecDepth 100000 in
theorem xk_X10_twice (l : Launch) (D : va_G) (q : Nat → Nat) (cA : Nat → ClassId) (F : Nat → Nat → Int32) (I R : Nat → Nat → Int32) (J : Nat → Nat → Int64) (hI : xInv F (I, R, J))  : zMi l D vwCl (zXtys cA) 81 q (zXd q cA) yX10_twice cX10_twice 1 (some .int) ({ frames := 4, cells := 0, slots := 0, locals := 88 } : Room) [.ref (q 0)] (I, R, J) (fun _ u => u = (I, R, J)) := by
  intro sz
  refine z_body (by decide +kernel) (Nat.le_of_ble_eq_true rfl) (fun p e s m below meth c ls hx hb hml hr ht hown hlocks hsz hK hP hD hS hl => ?_)
  have hA : ∀ a, s.heap.size ≤ a → zA 81 q sz a := fun a h => Or.inr (hsz ▸ h)
  have hl : lv_has ls 1 [(0, .ref (q 0))] := hl
  refine lv_aload_n hx hb dX10_twice_0 rfl (lv_at hl 0 rfl) ?_
  refine z_callVi (k := 0) (As := []) (rest := []) hx hb hml hown ht (xk_X10_hasCity l D q cA F _ _ _ hI ) hw_4_0 hmX10_hasCity ⟨rfl, rfl⟩ (na := 0) rfl (by decide +kernel) (by decide) (by decide) rfl rfl hK hP hD hS hA hl.1 rfl (Nat.le_of_ble_eq_true rfl) ⟨Nat.zero_le _, Nat.zero_le _⟩ dX10_twice_1 (fun r_1 I_1 R_1 J_1 H locs hp_1 hP hD hS _ _ => ?_)
  rcases hp_1 with ⟨rfl, hu_1⟩ | ⟨rfl, hu_1⟩
  · cases hu_1
    refine lv_if_eq (tgt := 21) hx hb dX10_twice_4 (by decide) (fun c_0 => absurd c_0 (zD_ne zk_1 zk_z (by decide))) (fun _ => ?_)
    refine lv_aload_n hx hb dX10_twice_7 rfl (lv_at hl 0 rfl) ?_
    refine z_get hx hb ht hown hK hP ziX10 rfl 0 (by decide) 6 (by decide) hw_2_99 rfl (v := .ref (q 39)) rfl dX10_twice_8 ?_
    refine lv_aload_n hx hb dX10_twice_11 rfl (lv_at hl 0 rfl) ?_
    refine z_get hx hb ht hown hK hP ziX10 rfl 0 (by decide) 4 (by decide) hw_2_97 rfl (v := .ref (q 15)) rfl dX10_twice_12 ?_
    refine z_callVi (k := 39) (As := [.ref (q 15)]) (rest := []) hx hb hml hown ht (xk_X8_pairs l D q cA F _ _ _ hI ) hw_4_70 hmX8_pairs ⟨rfl, rfl⟩ (na := 1) rfl (by decide +kernel) (by decide) (by decide) rfl rfl hK hP hD hS hA hl.1 rfl (Nat.le_of_ble_eq_true rfl) ⟨Nat.zero_le _, Nat.zero_le _⟩ dX10_twice_15 (fun r_2 I_2 R_2 J_2 H locs hp_2 hP hD hS _ _ => ?_)
    cases hp_2
    refine lv_goto (tgt := 23) hx hb dX10_twice_18 (by decide) ?_
    exact z_iret (v := r_2) hx hb hr hlocks hP hD hS dX10_twice_23 rfl
  · cases hu_1
    refine lv_if_eq (tgt := 21) hx hb dX10_twice_4 (by decide) (fun _ => ?_) (fun c_0 => absurd (zD_eq zk_0 zk_z) c_0)
    refine lv_bipush (v := (-2)) hx hb dX10_twice_21 (by decide +kernel) ?_
    exact z_iret (v := (-2)) hx hb hr hlocks hP hD hS dX10_twice_23 rfl
set_option maxHeartbeats 4000000 in
set_option maxRecDepth 100000 in
theorem xk_J7_fill_53178_3 (l : Launch) (D : va_G) (q : Nat → Nat) (cA : Nat → ClassId) (F : Nat → Nat → Int32) (I R : Nat → Nat → Int32) (J : Nat → Nat → Int64) (hI : xInv F (I, R, J)) (pa1 : Int32) (hpa1 : zR (-1) 4 pa1) : zMv l D vwCl (zXtys cA) 81 q (zXd q cA) yJ7_fill_53178 cJ7_fill_53178 4 none ({ frames := 0, cells := 0, slots := 0, locals := 0 } : Room) [.ref (q 41), .int (pa1)] (I, R, J) (fun u => xInv F u) := by
  intro sz
  refine z_body (by decide +kernel) (Nat.le_of_ble_eq_true rfl) (fun p e s m below meth c ls hx hb hml hr ht hown hlocks hsz hK hP hD hS hl => ?_)
  have hA : ∀ a, s.heap.size ≤ a → zA 81 q sz a := fun a h => Or.inr (hsz ▸ h)
  have hl : lv_has ls 4 [(0, .ref (q 41)), (1, .int (pa1))] := hl
  refine lv_iconst (v := nI 0) hx hb dJ7_fill_53178_0 (by decide +kernel) ?_
  refine lv_istore_n (lv' := [(2, .int (nI 0)), (0, .ref (q 41)), (1, .int (pa1))]) hx hb dJ7_fill_53178_1 rfl hl (by decide) rfl (fun ls hl => ?_)
  refine lv_aload_n hx hb dJ7_fill_53178_2 rfl (lv_at hl 1 rfl) ?_
  refine z_alen hx hb hK hP 41 (by decide) 33 rfl rfl dJ7_fill_53178_3 ?_
  refine lv_istore_n (lv' := [(3, .int (nI 25)), (2, .int (nI 0)), (0, .ref (q 41)), (1, .int (pa1))]) hx hb dJ7_fill_53178_4 rfl hl (by decide) rfl (fun ls hl => ?_)
  have loop_22 : ∀ N : Nat, ∀ x_20 : Int32, zR 0 25 x_20 → ∀ R_21 : Nat → Nat → Int32, xInv F (I, R_21, J) → (2147483648 - (x_20).toInt).toNat < N → ∀ (H : Heap) (locs : List Loc), va_P D vwCl (zw 81 q (zXd q cA) I R_21 J) H → va_D (zA 81 q sz) (zw 81 q (zXd q cA) I R_21 J) → va_S (zA 81 q sz) s.heap H locs → ∀ ls : Array Slot, lv_has ls 4 [(0, .ref (q 41)), (1, .int (pa1)), (2, .int (x_20)), (3, .int (nI 25))] → W p l e ({ frames := 0, cells := 0, slots := 0, locals := 0 } : Room) s m ([.ref (q 41), .int (pa1)] : List Value).toArray below meth c H locs 0 0 (MQ below (va_Qv (fun u => xInv F u) (zB D vwCl 81 q (zXd q cA) sz) (zA 81 q sz)) ([.ref (q 41), .int (pa1)] : List Value).toArray s 0 0 (zA 81 q sz)) (F0 m 5 ls []) := by
    intro N
    induction N with
    | zero => intro x_20 hx_20 R_21 hI_21 hN; exact absurd hN (Nat.not_lt_zero _)
    | succ N ih_24 =>
      intro x_20 hx_20 R_21 hI_21 hN_23 H locs hP hD hS ls hl
      refine lv_iload_n hx hb dJ7_fill_53178_5 rfl (lv_at hl 2 rfl) ?_
      refine lv_iload_n hx hb dJ7_fill_53178_6 rfl (lv_at hl 3 rfl) ?_
      refine lv_icmp_ge (tgt := 20) hx hb dJ7_fill_53178_7 (by decide) (fun c_25 => ?_) (fun c_25 => ?_)
      · have t_c_25 := z_leT c_25
        have f_26 : zR 25 25 (x_20) := zR_ley t_c_25 zk_25 hx_20 (by decide)
        exact z_vret hx hb hr hlocks hP hD hS dJ7_fill_53178_20 hI_21
      · have t_c_25 := z_leF c_25
        have f_27 : zR 0 24 (x_20) := zR_ltx t_c_25 hx_20 zk_25 (by decide)
        refine lv_aload_n hx hb dJ7_fill_53178_10 rfl (lv_at hl 0 rfl) ?_
        refine lv_iload_n hx hb dJ7_fill_53178_11 rfl (lv_at hl 2 rfl) ?_
        refine lv_iload_n hx hb dJ7_fill_53178_12 rfl (lv_at hl 1 rfl) ?_
        refine z_iast hx hb hK hP hD hS 41 (by decide) 33 (fun _ => rfl) rfl (zR_vin f_27 (by decide)) dJ7_fill_53178_13 (fun H locs hP hD hS => ?_)
        have hI_28 := xInv_R hI_21 41 (x_20).toNatClampNeg (pa1) (show zR (-1) 23 (pa1) from zR_w hpa1 (by decide)) rfl
        obtain ⟨v_29, ev_29⟩ : ∃ y : Int32, y = x_20 + nI 1 := ⟨_, rfl⟩
        have hv_29 : zR 1 25 v_29 := ev_29 ▸ zR_add f_27 zk_1 (by decide)
        have mv_29 : v_29.toInt = (x_20).toInt + 1 := by rw [ev_29, zR_addE f_27 zk_1 (by decide)]; rfl
        refine lv_iinc (v := v_29) (lv' := [(2, .int (v_29)), (0, .ref (q 41)), (1, .int (pa1)), (3, .int (nI 25))]) hx hb dJ7_fill_53178_14 hl (k := 2) rfl (ev_29 ▸ rfl) (by decide) rfl (fun ls hl => ?_)
        refine lv_goto (tgt := 5) hx hb dJ7_fill_53178_17 (by decide) ?_
        exact ih_24 (v_29) (zR_w hv_29 (by decide)) _ hI_28 (z2_up mv_29 (by decide) hN_23) _ _ hP hD hS _ (lv_sub hl [1, 2, 0, 3] rfl)
  exact loop_22 _ (nI 0) (zR_w zk_0 (by decide)) _ hI (Nat.lt_succ_self _) _ _ hP hD hS _ (lv_sub hl [2, 3, 1, 0] rfl)
set_option maxHeartbeats 4000000 in
set_option maxRecDepth 100000 in
theorem xk_J7_fill_53178_4 (l : Launch) (D : va_G) (q : Nat → Nat) (cA : Nat → ClassId) (F : Nat → Nat → Int32) (I R : Nat → Nat → Int32) (J : Nat → Nat → Int64) (hI : xInv F (I, R, J)) (pa1 : Int32) (hpa1 : zR (-1) 4 pa1) : zMv l D vwCl (zXtys cA) 81 q (zXd q cA) yJ7_fill_53178 cJ7_fill_53178 4 none ({ frames := 0, cells := 0, slots := 0, locals := 0 } : Room) [.ref (q 42), .int (pa1)] (I, R, J) (fun u => xInv F u) := by
  intro sz
  refine z_body (by decide +kernel) (Nat.le_of_ble_eq_true rfl) (fun p e s m below meth c ls hx hb hml hr ht hown hlocks hsz hK hP hD hS hl => ?_)
  have hA : ∀ a, s.heap.size ≤ a → zA 81 q sz a := fun a h => Or.inr (hsz ▸ h)
  have hl : lv_has ls 4 [(0, .ref (q 42)), (1, .int (pa1))] := hl
  refine lv_iconst (v := nI 0) hx hb dJ7_fill_53178_0 (by decide +kernel) ?_
  refine lv_istore_n (lv' := [(2, .int (nI 0)), (0, .ref (q 42)), (1, .int (pa1))]) hx hb dJ7_fill_53178_1 rfl hl (by decide) rfl (fun ls hl => ?_)
  refine lv_aload_n hx hb dJ7_fill_53178_2 rfl (lv_at hl 1 rfl) ?_
  refine z_alen hx hb hK hP 42 (by decide) 34 rfl rfl dJ7_fill_53178_3 ?_
  refine lv_istore_n (lv' := [(3, .int (nI 5)), (2, .int (nI 0)), (0, .ref (q 42)), (1, .int (pa1))]) hx hb dJ7_fill_53178_4 rfl hl (by decide) rfl (fun ls hl => ?_)
  have loop_22 : ∀ N : Nat, ∀ x_20 : Int32, zR 0 5 x_20 → ∀ R_21 : Nat → Nat → Int32, xInv F (I, R_21, J) → (2147483648 - (x_20).toInt).toNat < N → ∀ (H : Heap) (locs : List Loc), va_P D vwCl (zw 81 q (zXd q cA) I R_21 J) H → va_D (zA 81 q sz) (zw 81 q (zXd q cA) I R_21 J) → va_S (zA 81 q sz) s.heap H locs → ∀ ls : Array Slot, lv_has ls 4 [(0, .ref (q 42)), (1, .int (pa1)), (2, .int (x_20)), (3, .int (nI 5))] → W p l e ({ frames := 0, cells := 0, slots := 0, locals := 0 } : Room) s m ([.ref (q 42), .int (pa1)] : List Value).toArray below meth c H locs 0 0 (MQ below (va_Qv (fun u => xInv F u) (zB D vwCl 81 q (zXd q cA) sz) (zA 81 q sz)) ([.ref (q 42), .int (pa1)] : List Value).toArray s 0 0 (zA 81 q sz)) (F0 m 5 ls []) := by
    intro N
    induction N with
    | zero => intro x_20 hx_20 R_21 hI_21 hN; exact absurd hN (Nat.not_lt_zero _)
    | succ N ih_24 =>
      intro x_20 hx_20 R_21 hI_21 hN_23 H locs hP hD hS ls hl
      refine lv_iload_n hx hb dJ7_fill_53178_5 rfl (lv_at hl 2 rfl) ?_
      refine lv_iload_n hx hb dJ7_fill_53178_6 rfl (lv_at hl 3 rfl) ?_
      refine lv_icmp_ge (tgt := 20) hx hb dJ7_fill_53178_7 (by decide) (fun c_25 => ?_) (fun c_25 => ?_)
      · have t_c_25 := z_leT c_25
        have f_26 : zR 5 5 (x_20) := zR_ley t_c_25 zk_5 hx_20 (by decide)
        exact z_vret hx hb hr hlocks hP hD hS dJ7_fill_53178_20 hI_21
      · have t_c_25 := z_leF c_25
        have f_27 : zR 0 4 (x_20) := zR_ltx t_c_25 hx_20 zk_5 (by decide)
        refine lv_aload_n hx hb dJ7_fill_53178_10 rfl (lv_at hl 0 rfl) ?_
        refine lv_iload_n hx hb dJ7_fill_53178_11 rfl (lv_at hl 2 rfl) ?_
        refine lv_iload_n hx hb dJ7_fill_53178_12 rfl (lv_at hl 1 rfl) ?_
        refine z_iast hx hb hK hP hD hS 42 (by decide) 34 (fun _ => rfl) rfl (zR_vin f_27 (by decide)) dJ7_fill_53178_13 (fun H locs hP hD hS => ?_)
        have hI_28 := xInv_R hI_21 42 (x_20).toNatClampNeg (pa1) hpa1 rfl
        obtain ⟨v_29, ev_29⟩ : ∃ y : Int32, y = x_20 + nI 1 := ⟨_, rfl⟩
        have hv_29 : zR 1 5 v_29 := ev_29 ▸ zR_add f_27 zk_1 (by decide)
        have mv_29 : v_29.toInt = (x_20).toInt + 1 := by rw [ev_29, zR_addE f_27 zk_1 (by decide)]; rfl
        refine lv_iinc (v := v_29) (lv' := [(2, .int (v_29)), (0, .ref (q 42)), (1, .int (pa1)), (3, .int (nI 5))]) hx hb dJ7_fill_53178_14 hl (k := 2) rfl (ev_29 ▸ rfl) (by decide) rfl (fun ls hl => ?_)
        refine lv_goto (tgt := 5) hx hb dJ7_fill_53178_17 (by decide) ?_
        exact ih_24 (v_29) (zR_w hv_29 (by decide)) _ hI_28 (z2_up mv_29 (by decide) hN_23) _ _ hP hD hS _ (lv_sub hl [1, 2, 0, 3] rfl)
  exact loop_22 _ (nI 0) (zR_w zk_0 (by decide)) _ hI (Nat.lt_succ_self _) _ _ hP hD hS _ (lv_sub hl [2, 3, 1, 0] rfl)
set_option maxHeartbeats 4000000 in
set_option maxRecDepth 100000 in
theorem xk_J6_bitCount_0f7a4_1 (l : Launch) (D : va_G) (q : Nat → Nat) (cA : Nat → ClassId) (F : Nat → Nat → Int32) (I R : Nat → Nat → Int32) (J : Nat → Nat → Int64) (hI : xInv F (I, R, J)) (pa0 : Int32) (hpa0 : zR 0 1 pa0) : zMi l D vwCl (zXtys cA) 81 q (zXd q cA) yJ6_bitCount_0f7a4 cJ6_bitCount_0f7a4 1 (some .int) ({ frames := 0, cells := 0, slots := 0, locals := 0 } : Room) [.int (pa0)] (I, R, J) (fun r u => zR 0 63 r ∧ u = (I, R, J)) := by
  intro sz
  refine z_body (by decide +kernel) (Nat.le_of_ble_eq_true rfl) (fun p e s m below meth c ls hx hb hml hr ht hown hlocks hsz hK hP hD hS hl => ?_)
  have hA : ∀ a, s.heap.size ≤ a → zA 81 q sz a := fun a h => Or.inr (hsz ▸ h)
  have hl : lv_has ls 1 [(0, .int (pa0))] := hl
  refine lv_iload_n hx hb dJ6_bitCount_0f7a4_0 rfl (lv_at hl 0 rfl) ?_
  refine lv_iload_n hx hb dJ6_bitCount_0f7a4_1 rfl (lv_at hl 0 rfl) ?_
  refine lv_iconst (v := nI 1) hx hb dJ6_bitCount_0f7a4_2 (by decide +kernel) ?_
  refine lv_iushr hx hb dJ6_bitCount_0f7a4_3 rfl ?_
  refine z_any (fun v_1 => ?_)
  refine lv_ldcw (v := nI 1431655765) hx hb hown (ht _ hw_3_197) dJ6_bitCount_0f7a4_4 ?_
  refine lv_iand hx hb dJ6_bitCount_0f7a4_7 ?_
  refine z_rng (a := 0) (b := 1431655765) (zR_andr zk_1431655765 (by decide)) (fun v_2 hv_2 => ?_)
  refine lv_isub hx hb dJ6_bitCount_0f7a4_8 ?_
  refine z_rng (a := (-1431655765)) (b := 1) (zR_sub hpa0 hv_2 (by decide)) (fun v_3 hv_3 => ?_)
  refine lv_istore_n (lv' := [(0, .int (v_3))]) hx hb dJ6_bitCount_0f7a4_9 rfl hl (by decide) rfl (fun ls hl => ?_)
  refine lv_iload_n hx hb dJ6_bitCount_0f7a4_10 rfl (lv_at hl 0 rfl) ?_
  refine lv_ldcw (v := nI 858993459) hx hb hown (ht _ hw_3_198) dJ6_bitCount_0f7a4_11 ?_
  refine lv_iand hx hb dJ6_bitCount_0f7a4_14 ?_
  refine z_rng (a := 0) (b := 858993459) (zR_andr zk_858993459 (by decide)) (fun v_4 hv_4 => ?_)
  refine lv_iload_n hx hb dJ6_bitCount_0f7a4_15 rfl (lv_at hl 0 rfl) ?_
  refine lv_iconst (v := nI 2) hx hb dJ6_bitCount_0f7a4_16 (by decide +kernel) ?_
  refine lv_iushr hx hb dJ6_bitCount_0f7a4_17 rfl ?_
  refine z_any (fun v_5 => ?_)
  refine lv_ldcw (v := nI 858993459) hx hb hown (ht _ hw_3_198) dJ6_bitCount_0f7a4_18 ?_
  refine lv_iand hx hb dJ6_bitCount_0f7a4_21 ?_
  refine z_rng (a := 0) (b := 858993459) (zR_andr zk_858993459 (by decide)) (fun v_6 hv_6 => ?_)
  refine lv_iadd hx hb dJ6_bitCount_0f7a4_22 ?_
  refine z_rng (a := 0) (b := 1717986918) (zR_add hv_4 hv_6 (by decide)) (fun v_7 hv_7 => ?_)
  refine lv_istore_n (lv' := [(0, .int (v_7))]) hx hb dJ6_bitCount_0f7a4_23 rfl hl (by decide) rfl (fun ls hl => ?_)
  refine lv_iload_n hx hb dJ6_bitCount_0f7a4_24 rfl (lv_at hl 0 rfl) ?_
  refine lv_iload_n hx hb dJ6_bitCount_0f7a4_25 rfl (lv_at hl 0 rfl) ?_
  refine lv_iconst (v := nI 4) hx hb dJ6_bitCount_0f7a4_26 (by decide +kernel) ?_
  refine lv_iushr hx hb dJ6_bitCount_0f7a4_27 rfl ?_
  refine z_any (fun v_8 => ?_)
  refine lv_iadd hx hb dJ6_bitCount_0f7a4_28 ?_
  refine z_any (fun v_9 => ?_)
  refine lv_ldcw (v := nI 252645135) hx hb hown (ht _ hw_3_199) dJ6_bitCount_0f7a4_29 ?_
  refine lv_iand hx hb dJ6_bitCount_0f7a4_32 ?_
  refine z_rng (a := 0) (b := 252645135) (zR_andr zk_252645135 (by decide)) (fun v_10 hv_10 => ?_)
  refine lv_istore_n (lv' := [(0, .int (v_10))]) hx hb dJ6_bitCount_0f7a4_33 rfl hl (by decide) rfl (fun ls hl => ?_)
  refine lv_iload_n hx hb dJ6_bitCount_0f7a4_34 rfl (lv_at hl 0 rfl) ?_
  refine lv_iload_n hx hb dJ6_bitCount_0f7a4_35 rfl (lv_at hl 0 rfl) ?_
  refine lv_bipush (v := nI 8) hx hb dJ6_bitCount_0f7a4_36 (by decide +kernel) ?_
  refine lv_iushr hx hb dJ6_bitCount_0f7a4_38 rfl ?_
  refine z_any (fun v_11 => ?_)
  refine lv_iadd hx hb dJ6_bitCount_0f7a4_39 ?_
  refine z_any (fun v_12 => ?_)
  refine lv_istore_n (lv' := [(0, .int (v_12))]) hx hb dJ6_bitCount_0f7a4_40 rfl hl (by decide) rfl (fun ls hl => ?_)
  refine lv_iload_n hx hb dJ6_bitCount_0f7a4_41 rfl (lv_at hl 0 rfl) ?_
  refine lv_iload_n hx hb dJ6_bitCount_0f7a4_42 rfl (lv_at hl 0 rfl) ?_
  refine lv_bipush (v := nI 16) hx hb dJ6_bitCount_0f7a4_43 (by decide +kernel) ?_
  refine lv_iushr hx hb dJ6_bitCount_0f7a4_45 rfl ?_
  refine z_any (fun v_13 => ?_)
  refine lv_iadd hx hb dJ6_bitCount_0f7a4_46 ?_
  refine z_any (fun v_14 => ?_)
  refine lv_istore_n (lv' := [(0, .int (v_14))]) hx hb dJ6_bitCount_0f7a4_47 rfl hl (by decide) rfl (fun ls hl => ?_)
  refine lv_iload_n hx hb dJ6_bitCount_0f7a4_48 rfl (lv_at hl 0 rfl) ?_
  refine lv_bipush (v := nI 63) hx hb dJ6_bitCount_0f7a4_49 (by decide +kernel) ?_
  refine lv_iand hx hb dJ6_bitCount_0f7a4_51 ?_
  refine z_rng (a := 0) (b := 63) (zR_andr zk_63 (by decide)) (fun v_15 hv_15 => ?_)
  exact z_iret (v := v_15) hx hb hr hlocks hP hD hS dJ6_bitCount_0f7a4_52 ⟨hv_15, rfl⟩
set_option maxHeartbeats 4000000 in
set_option maxRecDepth 100000 in
theorem xk_X8_isBetter (l : Launch) (D : va_G) (q : Nat → Nat) (cA : Nat → ClassId) (F : Nat → Nat → Int32) (I R : Nat → Nat → Int32) (J : Nat → Nat → Int64) (hI : xInv F (I, R, J)) (pa0 : Int32) : zMi l D vwCl (zXtys cA) 81 q (zXd q cA) yX8_isBetter cX8_isBetter 3 (some .boolean) ({ frames := 1, cells := 0, slots := 0, locals := 20 } : Room) [.ref (q 39), .int (pa0)] (I, R, J) (fun r u => (r = nI 1 ∧ u = (I, R, J)) ∨ (r = nI 0 ∧ u = (I, R, J))) := by
  intro sz
  refine z_body (by decide +kernel) (Nat.le_of_ble_eq_true rfl) (fun p e s m below meth c ls hx hb hml hr ht hown hlocks hsz hK hP hD hS hl => ?_)
  have hA : ∀ a, s.heap.size ≤ a → zA 81 q sz a := fun a h => Or.inr (hsz ▸ h)
  have hl : lv_has ls 3 [(0, .ref (q 39)), (1, .int (pa0))] := hl
  refine lv_iload_n hx hb dX8_isBetter_0 rfl (lv_at hl 1 rfl) ?_
  refine z_callSi (As := [.int (pa0)]) (rest := []) hx hb hml hown ht (xk_J6_bitCount_0f7a4 l D q cA F _ _ _ hI (pa0)) hw_4_98 hmJ6_bitCount_0f7a4 ⟨rfl, rfl⟩ (na := 1) rfl (by decide +kernel) (by decide) hK hP hD hS hA hl.1 rfl (Nat.le_of_ble_eq_true rfl) ⟨Nat.zero_le _, Nat.zero_le _⟩ dX8_isBetter_1 (fun r_1 I_1 R_1 J_1 H locs hp_1 hP hD hS _ _ => ?_)
  obtain ⟨hr_1, hu_1⟩ := hp_1
  cases hu_1
  refine lv_aload_n hx hb dX8_isBetter_4 rfl (lv_at hl 0 rfl) ?_
  refine z_get hx hb ht hown hK hP ziX8 rfl 39 (by decide) 5 (by decide) hw_1_234 rfl (v := .int (I 39 5)) rfl dX8_isBetter_5 ?_
  refine z_callSi (As := [.int (I 39 5)]) (rest := [.int (r_1)]) hx hb hml hown ht (xk_J6_bitCount_0f7a4 l D q cA F _ _ _ hI (I 39 5)) hw_4_98 hmJ6_bitCount_0f7a4 ⟨rfl, rfl⟩ (na := 1) rfl (by decide +kernel) (by decide) hK hP hD hS hA hl.1 rfl (Nat.le_of_ble_eq_true rfl) ⟨Nat.zero_le _, Nat.zero_le _⟩ dX8_isBetter_8 (fun r_2 I_2 R_2 J_2 H locs hp_2 hP hD hS _ _ => ?_)
  obtain ⟨hr_2, hu_2⟩ := hp_2
  cases hu_2
  refine lv_isub hx hb dX8_isBetter_11 ?_
  refine z_rng (a := (-63)) (b := 63) (zR_sub hr_1 hr_2 (by decide)) (fun v_3 hv_3 => ?_)
  refine lv_istore_n (lv' := [(2, .int (v_3)), (0, .ref (q 39)), (1, .int (pa0))]) hx hb dX8_isBetter_12 rfl hl (by decide) rfl (fun ls hl => ?_)
  refine lv_iload_n hx hb dX8_isBetter_13 rfl (lv_at hl 0 rfl) ?_
  refine lv_if_gt (tgt := 29) hx hb dX8_isBetter_14 (by decide) (fun c_4 => ?_) (fun c_4 => ?_)
  · have t_c_4 := z_ltT c_4
    have f_5 : zR 1 63 (v_3) := zR_lty t_c_4 zk_z hv_3 (by decide)
    refine lv_iconst (v := nI 1) hx hb dX8_isBetter_29 (by decide +kernel) ?_
    refine lv_goto (tgt := 34) hx hb dX8_isBetter_30 (by decide) ?_
    exact z_zret (v := nI 1) hx hb hr hlocks hP hD hS (by decide +kernel) dX8_isBetter_34 (Or.inl ⟨rfl, rfl⟩)
  · have t_c_4 := z_ltF c_4
    have f_6 : zR (-63) 0 (v_3) := zR_lex t_c_4 hv_3 zk_z (by decide)
    refine lv_iload_n hx hb dX8_isBetter_17 rfl (lv_at hl 0 rfl) ?_
    refine lv_if_ne (tgt := 33) hx hb dX8_isBetter_18 (by decide) (fun c_7 => ?_) (fun c_7 => ?_)
    · have t_c_7 := z_eqF c_7
      have f_8 : zR (-63) (-1) (v_3) := zR_nex t_c_7 f_6 zk_z (by decide)
      refine lv_iconst (v := nI 0) hx hb dX8_isBetter_33 (by decide +kernel) ?_
      exact z_zret (v := nI 0) hx hb hr hlocks hP hD hS (by decide +kernel) dX8_isBetter_34 (Or.inr ⟨rfl, rfl⟩)
    · have t_c_7 := z_eqT c_7
      have f_9 : zR 0 0 (v_3) := zR_eqx t_c_7 zk_z
      refine lv_iload_n hx hb dX8_isBetter_21 rfl (lv_at hl 2 rfl) ?_
      refine lv_aload_n hx hb dX8_isBetter_22 rfl (lv_at hl 1 rfl) ?_
      refine z_get hx hb ht hown hK hP ziX8 rfl 39 (by decide) 5 (by decide) hw_1_234 rfl (v := .int (I 39 5)) rfl dX8_isBetter_23 ?_
      refine lv_icmp_le (tgt := 33) hx hb dX8_isBetter_26 (by decide) (fun c_10 => ?_) (fun c_10 => ?_)
      · have t_c_10 := z_leT c_10
        refine lv_iconst (v := nI 0) hx hb dX8_isBetter_33 (by decide +kernel) ?_
        exact z_zret (v := nI 0) hx hb hr hlocks hP hD hS (by decide +kernel) dX8_isBetter_34 (Or.inr ⟨rfl, rfl⟩)
      · have t_c_10 := z_leF c_10
        have f_11 : zR (-2147483648) 2147483646 (I 39 5) := zR_ltx t_c_10 (zR_any (I 39 5)) (zR_any (pa0)) (by decide)
        have f_12 : zR (-2147483647) 2147483647 (pa0) := zR_lty t_c_10 (zR_any (I 39 5)) (zR_any (pa0)) (by decide)
        refine lv_iconst (v := nI 1) hx hb dX8_isBetter_29 (by decide +kernel) ?_
        refine lv_goto (tgt := 34) hx hb dX8_isBetter_30 (by decide) ?_
        exact z_zret (v := nI 1) hx hb hr hlocks hP hD hS (by decide +kernel) dX8_isBetter_34 (Or.inl ⟨rfl, rfl⟩)
set_option maxHeartbeats 4000000 in
set_option maxRecDepth 100000 in
theorem xk_X8_keep_5 (l : Launch) (D : va_G) (q : Nat → Nat) (cA : Nat → ClassId) (F : Nat → Nat → Int32) (I R : Nat → Nat → Int32) (J : Nat → Nat → Int64) (hI : xInv F (I, R, J)) (pa1 : Int32) : zMv l D vwCl (zXtys cA) 81 q (zXd q cA) yX8_keep cX8_keep 5 none ({ frames := 2, cells := 0, slots := 0, locals := 42 } : Room) [.ref (q 39), .int (nI 5), .int (pa1)] (I, R, J) (fun u => xInv F u) := by
  intro sz
  refine z_body (by decide +kernel) (Nat.le_of_ble_eq_true rfl) (fun p e s m below meth c ls hx hb hml hr ht hown hlocks hsz hK hP hD hS hl => ?_)
  have hA : ∀ a, s.heap.size ≤ a → zA 81 q sz a := fun a h => Or.inr (hsz ▸ h)
  have hl : lv_has ls 5 [(0, .ref (q 39)), (1, .int (nI 5)), (2, .int (pa1))] := hl
  refine lv_iload_n hx hb dX8_keep_0 rfl (lv_at hl 1 rfl) ?_
  refine lv_iconst (v := nI 5) hx hb dX8_keep_1 (by decide +kernel) ?_
  refine lv_icmp_lt (tgt := 19) hx hb dX8_keep_2 (by decide) (fun c_0 => absurd c_0 (zD_nlt zk_5 zk_5 (by decide))) (fun _ => ?_)
  refine lv_aload_n hx hb dX8_keep_5 rfl (lv_at hl 0 rfl) ?_
  refine lv_iload_n hx hb dX8_keep_6 rfl (lv_at hl 2 rfl) ?_
  refine z_callVi (k := 39) (As := [.int (pa1)]) (rest := []) hx hb hml hown ht (xk_X8_isBetter l D q cA F _ _ _ hI (pa1)) hw_4_94 hmX8_isBetter ⟨rfl, rfl⟩ (na := 1) rfl (by decide +kernel) (by decide) (by decide) rfl rfl hK hP hD hS hA hl.1 rfl (Nat.le_of_ble_eq_true rfl) ⟨Nat.zero_le _, Nat.zero_le _⟩ dX8_keep_7 (fun r_1 I_1 R_1 J_1 H locs hp_1 hP hD hS _ _ => ?_)
  rcases hp_1 with ⟨rfl, hu_1⟩ | ⟨rfl, hu_1⟩
  · cases hu_1
    refine lv_if_eq (tgt := 18) hx hb dX8_keep_10 (by decide) (fun c_0 => absurd c_0 (zD_ne zk_1 zk_z (by decide))) (fun _ => ?_)
    refine lv_aload_n hx hb dX8_keep_13 rfl (lv_at hl 0 rfl) ?_
    refine lv_iload_n hx hb dX8_keep_14 rfl (lv_at hl 2 rfl) ?_
    refine z_putI hx hb ht hown hK hP hD hS ziX8 tyX8 tyX8_ok nmX8 rfl 39 (by decide) 5 (by decide) hw_1_234 rfl (v := pa1) rfl rfl rfl (Nat.le_of_ble_eq_true rfl) rfl dX8_keep_15 (fun H locs hP hD hS => ?_)
    have hI_2 := xInv_I hI 39 5 (pa1) (zR_any (pa1)) rfl
    exact z_vret hx hb hr hlocks hP hD hS dX8_keep_18 hI_2
  · cases hu_1
    refine lv_if_eq (tgt := 18) hx hb dX8_keep_10 (by decide) (fun _ => ?_) (fun c_0 => absurd (zD_eq zk_0 zk_z) c_0)
    exact z_vret hx hb hr hlocks hP hD hS dX8_keep_18 hI
set_option maxHeartbeats 4000000 in
set_option maxRecDepth 100000 in
theorem xk_X8_leads_4 (l : Launch) (D : va_G) (q : Nat → Nat) (cA : Nat → ClassId) (F : Nat → Nat → Int32) (I R : Nat → Nat → Int32) (J : Nat → Nat → Int64) (hI : xInv F (I, R, J)) (pa0 : Int32) (hpa0 : zR 0 4 pa0) (pa1 : Int32) (hpa1 : zR 0 4 pa1) : zMi l D vwCl (zXtys cA) 81 q (zXd q cA) yX8_leads cX8_leads 5 (some .boolean) ({ frames := 0, cells := 0, slots := 0, locals := 0 } : Room) [.ref (q 39), .int (pa0), .int (pa1)] (I, R, J) (fun r u => (r = nI 1 ∧ u = (I, R, J)) ∨ (r = nI 0 ∧ u = (I, R, J))) := by
  intro sz
  refine z_body (by decide +kernel) (Nat.le_of_ble_eq_true rfl) (fun p e s m below meth c ls hx hb hml hr ht hown hlocks hsz hK hP hD hS hl => ?_)
  have hA : ∀ a, s.heap.size ≤ a → zA 81 q sz a := fun a h => Or.inr (hsz ▸ h)
  have hl : lv_has ls 5 [(0, .ref (q 39)), (1, .int (pa0)), (2, .int (pa1))] := hl
  refine lv_iload_n hx hb dX8_leads_0 rfl (lv_at hl 1 rfl) ?_
  refine lv_istore_n (lv' := [(3, .int (pa0)), (0, .ref (q 39)), (1, .int (pa0)), (2, .int (pa1))]) hx hb dX8_leads_1 rfl hl (by decide) rfl (fun ls hl => ?_)
  refine lv_iconst (v := nI 0) hx hb dX8_leads_2 (by decide +kernel) ?_
  refine lv_istore (lv' := [(4, .int (nI 0)), (3, .int (pa0)), (0, .ref (q 39)), (1, .int (pa0)), (2, .int (pa1))]) hx hb dX8_leads_3 hl (by decide) rfl (fun ls hl => ?_)
  have loop_35 : ∀ N : Nat, ∀ x_33 : Int32, zR (-1) 4 x_33 → ∀ x_34 : Int32, zR 0 5 x_34 → (2147483648 - (x_34).toInt).toNat < N → ∀ (H : Heap) (locs : List Loc), va_P D vwCl (zw 81 q (zXd q cA) I R J) H → va_D (zA 81 q sz) (zw 81 q (zXd q cA) I R J) → va_S (zA 81 q sz) s.heap H locs → ∀ ls : Array Slot, lv_has ls 5 [(0, .ref (q 39)), (1, .int (pa0)), (2, .int (pa1)), (3, .int (x_33)), (4, .int (x_34))] → W p l e ({ frames := 0, cells := 0, slots := 0, locals := 0 } : Room) s m ([.ref (q 39), .int (pa0), .int (pa1)] : List Value).toArray below meth c H locs 0 0 (MQ below (va_Qi (fun r u => (r = nI 1 ∧ u = (I, R, J)) ∨ (r = nI 0 ∧ u = (I, R, J))) (zB D vwCl 81 q (zXd q cA) sz) (zA 81 q sz)) ([.ref (q 39), .int (pa0), .int (pa1)] : List Value).toArray s 0 0 (zA 81 q sz)) (F0 m 5 ls []) := by
    intro N
    induction N with
    | zero => intro x_33 hx_33 x_34 hx_34 hN; exact absurd hN (Nat.not_lt_zero _)
    | succ N ih_37 =>
      intro x_33 hx_33 x_34 hx_34 hN_36 H locs hP hD hS ls hl
      refine lv_iload hx hb dX8_leads_5 (lv_at hl 4 rfl) ?_
      refine lv_iconst (v := nI 5) hx hb dX8_leads_7 (by decide +kernel) ?_
      refine lv_icmp_ge (tgt := 36) hx hb dX8_leads_8 (by decide) (fun c_38 => ?_) (fun c_38 => ?_)
      · have t_c_38 := z_leT c_38
        have f_39 : zR 5 5 (x_34) := zR_ley t_c_38 zk_5 hx_34 (by decide)
        refine lv_iconst (v := nI 0) hx hb dX8_leads_36 (by decide +kernel) ?_
        exact z_zret (v := nI 0) hx hb hr hlocks hP hD hS (by decide +kernel) dX8_leads_37 (Or.inr ⟨rfl, rfl⟩)
      · have t_c_38 := z_leF c_38
        have f_40 : zR 0 4 (x_34) := zR_ltx t_c_38 hx_34 zk_5 (by decide)
        refine lv_iload_n hx hb dX8_leads_11 rfl (lv_at hl 3 rfl) ?_
        refine lv_iconst (v := (-1)) hx hb dX8_leads_12 (by decide +kernel) ?_
        refine lv_icmp_eq (tgt := 36) hx hb dX8_leads_13 (by decide) (fun c_41 => ?_) (fun c_41 => ?_)
        · have t_c_41 := z_eqT c_41
          have f_42 : zR (-1) (-1) (x_33) := zR_eqx t_c_41 zk_m1
          refine lv_iconst (v := nI 0) hx hb dX8_leads_36 (by decide +kernel) ?_
          exact z_zret (v := nI 0) hx hb hr hlocks hP hD hS (by decide +kernel) dX8_leads_37 (Or.inr ⟨rfl, rfl⟩)
        · have t_c_41 := z_eqF c_41
          have f_43 : zR 0 4 (x_33) := zR_nex t_c_41 hx_33 zk_m1 (by decide)
          refine lv_iload_n hx hb dX8_leads_16 rfl (lv_at hl 3 rfl) ?_
          refine lv_iload_n hx hb dX8_leads_17 rfl (lv_at hl 2 rfl) ?_
          refine lv_icmp_ne (tgt := 23) hx hb dX8_leads_18 (by decide) (fun c_44 => ?_) (fun c_44 => ?_)
          · have t_c_44 := z_eqF c_44
            refine lv_aload_n hx hb dX8_leads_23 rfl (lv_at hl 0 rfl) ?_
            refine z_get hx hb ht hown hK hP ziX8 rfl 39 (by decide) 4 (by decide) hw_1_233 rfl (v := .ref (q 42)) rfl dX8_leads_24 ?_
            refine lv_iload_n hx hb dX8_leads_27 rfl (lv_at hl 3 rfl) ?_
            refine z_iald hx hb hK hP 42 (by decide) 34 rfl rfl (zR_vin f_43 (by decide)) dX8_leads_28 ?_
            refine z_eqi (y := R 42 (x_33).toNatClampNeg) rfl ?_
            have f_45 : zR (-1) 4 (R 42 (x_33).toNatClampNeg) := xR hI 42 (x_33).toNatClampNeg
            refine lv_istore_n (lv' := [(3, .int (R 42 (x_33).toNatClampNeg)), (0, .ref (q 39)), (1, .int (pa0)), (2, .int (pa1)), (4, .int (x_34))]) hx hb dX8_leads_29 rfl hl (by decide) rfl (fun ls hl => ?_)
            obtain ⟨v_46, ev_46⟩ : ∃ y : Int32, y = x_34 + nI 1 := ⟨_, rfl⟩
            have hv_46 : zR 1 5 v_46 := ev_46 ▸ zR_add f_40 zk_1 (by decide)
            have mv_46 : v_46.toInt = (x_34).toInt + 1 := by rw [ev_46, zR_addE f_40 zk_1 (by decide)]; rfl
            refine lv_iinc (v := v_46) (lv' := [(4, .int (v_46)), (3, .int (R 42 (x_33).toNatClampNeg)), (0, .ref (q 39)), (1, .int (pa0)), (2, .int (pa1))]) hx hb dX8_leads_30 hl (k := 4) rfl (ev_46 ▸ rfl) (by decide) rfl (fun ls hl => ?_)
            refine lv_goto (tgt := 5) hx hb dX8_leads_33 (by decide) ?_
            exact ih_37 (R 42 (x_33).toNatClampNeg) f_45 (v_46) (zR_w hv_46 (by decide)) (z2_up mv_46 (by decide) hN_36) _ _ hP hD hS _ (lv_sub hl [2, 3, 4, 1, 0] rfl)
          · have t_c_44 := z_eqT c_44
            refine lv_iconst (v := nI 1) hx hb dX8_leads_21 (by decide +kernel) ?_
            exact z_zret (v := nI 1) hx hb hr hlocks hP hD hS (by decide +kernel) dX8_leads_22 (Or.inl ⟨rfl, rfl⟩)
  exact loop_35 _ (pa0) (zR_w hpa0 (by decide)) (nI 0) (zR_w zk_0 (by decide)) (Nat.lt_succ_self _) _ _ hP hD hS _ (lv_sub hl [2, 3, 4, 1, 0] rfl)
set_option maxHeartbeats 4000000 in
set_option maxRecDepth 100000 in
theorem xk_X8_keep_4 (l : Launch) (D : va_G) (q : Nat → Nat) (cA : Nat → ClassId) (F : Nat → Nat → Int32) (I R : Nat → Nat → Int32) (J : Nat → Nat → Int64) (hI : xInv F (I, R, J)) (pa1 : Int32) : zMv l D vwCl (zXtys cA) 81 q (zXd q cA) yX8_keep cX8_keep 5 none ({ frames := 3, cells := 0, slots := 0, locals := 66 } : Room) [.ref (q 39), .int (nI 4), .int (pa1)] (I, R, J) (fun u => xInv F u) := by
  intro sz
  refine z_body (by decide +kernel) (Nat.le_of_ble_eq_true rfl) (fun p e s m below meth c ls hx hb hml hr ht hown hlocks hsz hK hP hD hS hl => ?_)
  have hA : ∀ a, s.heap.size ≤ a → zA 81 q sz a := fun a h => Or.inr (hsz ▸ h)
  have hl : lv_has ls 5 [(0, .ref (q 39)), (1, .int (nI 4)), (2, .int (pa1))] := hl
  refine lv_iload_n hx hb dX8_keep_0 rfl (lv_at hl 1 rfl) ?_
  refine lv_iconst (v := nI 5) hx hb dX8_keep_1 (by decide +kernel) ?_
  refine lv_icmp_lt (tgt := 19) hx hb dX8_keep_2 (by decide) (fun _ => ?_) (fun c_0 => absurd (zD_lt zk_4 zk_5 (by decide)) c_0)
  refine lv_iload_n hx hb dX8_keep_19 rfl (lv_at hl 2 rfl) ?_
  refine z_callSi (As := [.int (pa1)]) (rest := []) hx hb hml hown ht (xk_J6_bitCount_0f7a4 l D q cA F _ _ _ hI (pa1)) hw_4_98 hmJ6_bitCount_0f7a4 ⟨rfl, rfl⟩ (na := 1) rfl (by decide +kernel) (by decide) hK hP hD hS hA hl.1 rfl (Nat.le_of_ble_eq_true rfl) ⟨Nat.zero_le _, Nat.zero_le _⟩ dX8_keep_20 (fun r_1 I_1 R_1 J_1 H locs hp_1 hP hD hS _ _ => ?_)
  obtain ⟨hr_1, hu_1⟩ := hp_1
  cases hu_1
  refine lv_iconst (v := nI 5) hx hb dX8_keep_23 (by decide +kernel) ?_
  refine lv_iadd hx hb dX8_keep_24 ?_
  refine z_addc 5 68 hr_1 zk_5 (by decide) (fun v_2 hv_2 mv_2 => ?_)
  refine lv_iload_n hx hb dX8_keep_25 rfl (lv_at hl 1 rfl) ?_
  refine lv_isub hx hb dX8_keep_26 ?_
  refine z_subc 1 64 (-4) hv_2 zk_4 (by decide) (fun v_3 hv_3 mv_3 => ?_)
  refine lv_aload_n hx hb dX8_keep_27 rfl (lv_at hl 0 rfl) ?_
  refine z_get hx hb ht hown hK hP ziX8 rfl 39 (by decide) 5 (by decide) hw_1_234 rfl (v := .int (I 39 5)) rfl dX8_keep_28 ?_
  refine z_callSi (As := [.int (I 39 5)]) (rest := [.int (v_3)]) hx hb hml hown ht (xk_J6_bitCount_0f7a4 l D q cA F _ _ _ hI (I 39 5)) hw_4_98 hmJ6_bitCount_0f7a4 ⟨rfl, rfl⟩ (na := 1) rfl (by decide +kernel) (by decide) hK hP hD hS hA hl.1 rfl (Nat.le_of_ble_eq_true rfl) ⟨Nat.zero_le _, Nat.zero_le _⟩ dX8_keep_31 (fun r_4 I_4 R_4 J_4 H locs hp_4 hP hD hS _ _ => ?_)
  obtain ⟨hr_4, hu_4⟩ := hp_4
  cases hu_4
  refine lv_icmp_ge (tgt := 38) hx hb dX8_keep_34 (by decide) (fun c_5 => ?_) (fun c_5 => ?_)
  · have t_c_5 := z_leT c_5
    refine lv_iconst (v := nI 0) hx hb dX8_keep_38 (by decide +kernel) ?_
    refine lv_istore_n (lv' := [(3, .int (nI 0)), (0, .ref (q 39)), (1, .int (nI 4)), (2, .int (pa1))]) hx hb dX8_keep_39 rfl hl (by decide) rfl (fun ls hl => ?_)
    have loop_70 : ∀ N : Nat, ∀ x_68 : Int32, zR 0 5 x_68 → ∀ I_69 : Nat → Nat → Int32, ∀ R_69 : Nat → Nat → Int32, ∀ J_69 : Nat → Nat → Int64, xInv F (I_69, R_69, J_69) → (2147483648 - (x_68).toInt).toNat < N → ∀ (H : Heap) (locs : List Loc), va_P D vwCl (zw 81 q (zXd q cA) I_69 R_69 J_69) H → va_D (zA 81 q sz) (zw 81 q (zXd q cA) I_69 R_69 J_69) → va_S (zA 81 q sz) s.heap H locs → ∀ ls : Array Slot, lv_has ls 5 [(0, .ref (q 39)), (1, .int (nI 4)), (2, .int (pa1)), (3, .int (x_68))] → W p l e ({ frames := 3, cells := 0, slots := 0, locals := 66 } : Room) s m ([.ref (q 39), .int (nI 4), .int (pa1)] : List Value).toArray below meth c H locs 0 0 (MQ below (va_Qv (fun u => xInv F u) (zB D vwCl 81 q (zXd q cA) sz) (zA 81 q sz)) ([.ref (q 39), .int (nI 4), .int (pa1)] : List Value).toArray s 0 0 (zA 81 q sz)) (F0 m 40 ls []) := by
      intro N
      induction N with
      | zero => intro x_68 hx_68 I_69 R_69 J_69 hI_69 hN; exact absurd hN (Nat.not_lt_zero _)
      | succ N ih_72 =>
        intro x_68 hx_68 I_69 R_69 J_69 hI_69 hN_71 H locs hP hD hS ls hl
        refine lv_iload_n hx hb dX8_keep_40 rfl (lv_at hl 3 rfl) ?_
        refine lv_iconst (v := nI 5) hx hb dX8_keep_41 (by decide +kernel) ?_
        refine lv_icmp_ge (tgt := 105) hx hb dX8_keep_42 (by decide) (fun c_73 => ?_) (fun c_73 => ?_)
        · have t_c_73 := z_leT c_73
          have f_89 : zR 5 5 (x_68) := zR_ley t_c_73 zk_5 hx_68 (by decide)
          refine lv_aload_n hx hb dX8_keep_105 rfl (lv_at hl 0 rfl) ?_
          refine lv_iload_n hx hb dX8_keep_106 rfl (lv_at hl 1 rfl) ?_
          refine lv_iconst (v := nI 1) hx hb dX8_keep_107 (by decide +kernel) ?_
          refine lv_iadd hx hb dX8_keep_108 ?_
          refine z_eqi (y := nI 5) (by decide +kernel) ?_
          refine lv_iload_n hx hb dX8_keep_109 rfl (lv_at hl 2 rfl) ?_
          refine z_callVv (k := 39) (As := [.int (nI 5), .int (pa1)]) (rest := []) hx hb hml hown ht (xk_X8_keep_5 l D q cA F _ _ _ hI_69 (pa1)) hw_4_90 hmX8_keep ⟨rfl, rfl⟩ (na := 2) rfl (by decide +kernel) (by decide) (by decide) rfl rfl hK hP hD hS hA hl.1 rfl (Nat.le_of_ble_eq_true rfl) ⟨Nat.zero_le _, Nat.zero_le _⟩ dX8_keep_110 (fun I_90 R_90 J_90 H locs hp_90 hP hD hS _ _ => ?_)
          exact z_vret hx hb hr hlocks hP hD hS dX8_keep_113 hp_90
        · have t_c_73 := z_leF c_73
          have f_91 : zR 0 4 (x_68) := zR_ltx t_c_73 hx_68 zk_5 (by decide)
          refine lv_aload_n hx hb dX8_keep_45 rfl (lv_at hl 0 rfl) ?_
          refine z_get hx hb ht hown hK hP ziX8 rfl 39 (by decide) 3 (by decide) hw_1_232 rfl (v := .ref (q 41)) rfl dX8_keep_46 ?_
          refine lv_iload_n hx hb dX8_keep_49 rfl (lv_at hl 1 rfl) ?_
          refine lv_iconst (v := nI 5) hx hb dX8_keep_50 (by decide +kernel) ?_
          refine lv_imul hx hb dX8_keep_51 ?_
          refine z_eqi (y := nI 20) (by decide +kernel) ?_
          refine lv_iload_n hx hb dX8_keep_52 rfl (lv_at hl 3 rfl) ?_
          refine lv_iadd hx hb dX8_keep_53 ?_
          refine z_cadd 20 24 zk_20 f_91 (by decide) (fun v_92 hv_92 mv_92 => ?_)
          refine z_iald hx hb hK hP 41 (by decide) 33 rfl rfl (zR_vin hv_92 (by decide)) dX8_keep_54 ?_
          refine z_eqi (y := R_69 41 (v_92).toNatClampNeg) rfl ?_
          have f_93 : zR (-1) 23 (R_69 41 (v_92).toNatClampNeg) := xR hI_69 41 (v_92).toNatClampNeg
          refine lv_istore (lv' := [(4, .int (R_69 41 (v_92).toNatClampNeg)), (0, .ref (q 39)), (1, .int (nI 4)), (2, .int (pa1)), (3, .int (x_68))]) hx hb dX8_keep_55 hl (by decide) rfl (fun ls hl => ?_)
          refine lv_iload hx hb dX8_keep_57 (lv_at hl 0 rfl) ?_
          refine lv_iconst (v := (-1)) hx hb dX8_keep_59 (by decide +kernel) ?_
          have t_104 : ∀ I_103 : Nat → Nat → Int32, ∀ R_103 : Nat → Nat → Int32, ∀ J_103 : Nat → Nat → Int64, xInv F (I_103, R_103, J_103) → ∀ (H : Heap) (locs : List Loc), va_P D vwCl (zw 81 q (zXd q cA) I_103 R_103 J_103) H → va_D (zA 81 q sz) (zw 81 q (zXd q cA) I_103 R_103 J_103) → va_S (zA 81 q sz) s.heap H locs → ∀ ls : Array Slot, lv_has ls 5 [(0, .ref (q 39)), (1, .int (nI 4)), (2, .int (pa1)), (3, .int (x_68)), (4, .int (R_69 41 (v_92).toNatClampNeg))] → W p l e ({ frames := 3, cells := 0, slots := 0, locals := 66 } : Room) s m ([.ref (q 39), .int (nI 4), .int (pa1)] : List Value).toArray below meth c H locs 0 0 (MQ below (va_Qv (fun u => xInv F u) (zB D vwCl 81 q (zXd q cA) sz) (zA 81 q sz)) ([.ref (q 39), .int (nI 4), .int (pa1)] : List Value).toArray s 0 0 (zA 81 q sz)) (F0 m 99 ls []) := by
            intro I_103 R_103 J_103 hI_103 H locs hP hD hS ls hl
            obtain ⟨v_105, ev_105⟩ : ∃ y : Int32, y = x_68 + nI 1 := ⟨_, rfl⟩
            have hv_105 : zR 1 5 v_105 := ev_105 ▸ zR_add f_91 zk_1 (by decide)
            have mv_105 : v_105.toInt = (x_68).toInt + 1 := by rw [ev_105, zR_addE f_91 zk_1 (by decide)]; rfl
            refine lv_iinc (v := v_105) (lv' := [(3, .int (v_105)), (0, .ref (q 39)), (1, .int (nI 4)), (2, .int (pa1)), (4, .int (R_69 41 (v_92).toNatClampNeg))]) hx hb dX8_keep_99 hl (k := 3) rfl (ev_105 ▸ rfl) (by decide) rfl (fun ls hl => ?_)
            refine lv_goto (tgt := 40) hx hb dX8_keep_102 (by decide) ?_
            exact ih_72 (v_105) (zR_w hv_105 (by decide)) _ _ _ hI_103 (z2_up mv_105 (by decide) hN_71) _ _ hP hD hS _ (lv_sub hl [1, 2, 3, 0] rfl)
          refine lv_icmp_eq (tgt := 99) hx hb dX8_keep_60 (by decide) (fun c_94 => ?_) (fun c_94 => ?_)
          · have t_c_94 := z_eqT c_94
            have f_106 : zR (-1) (-1) (R_69 41 (v_92).toNatClampNeg) := zR_eqx t_c_94 zk_m1
            exact t_104 _ _ _ hI_69 _ _ hP hD hS _ (lv_sub hl [1, 2, 3, 4, 0] rfl)
          · have t_c_94 := z_eqF c_94
            have f_107 : zR 0 23 (R_69 41 (v_92).toNatClampNeg) := zR_nex t_c_94 f_93 zk_m1 (by decide)
            refine lv_aload_n hx hb dX8_keep_63 rfl (lv_at hl 1 rfl) ?_
            refine lv_iload_n hx hb dX8_keep_64 rfl (lv_at hl 4 rfl) ?_
            refine lv_iload_n hx hb dX8_keep_65 rfl (lv_at hl 2 rfl) ?_
            refine z_callVi (k := 39) (As := [.int (x_68), .int (nI 4)]) (rest := []) hx hb hml hown ht (xk_X8_leads_4 l D q cA F _ _ _ hI_69 (x_68) f_91 (nI 4) (zR_w zk_4 (by decide))) hw_4_99 hmX8_leads ⟨rfl, rfl⟩ (na := 2) rfl (by decide +kernel) (by decide) (by decide) rfl rfl hK hP hD hS hA hl.1 rfl (Nat.le_of_ble_eq_true rfl) ⟨Nat.zero_le _, Nat.zero_le _⟩ dX8_keep_66 (fun r_108 I_108 R_108 J_108 H locs hp_108 hP hD hS _ _ => ?_)
            rcases hp_108 with ⟨rfl, hu_108⟩ | ⟨rfl, hu_108⟩
            · cases hu_108
              refine lv_if_ne (tgt := 99) hx hb dX8_keep_69 (by decide) (fun _ => ?_) (fun c_0 => absurd c_0 (zD_ne zk_1 zk_z (by decide)))
              exact t_104 _ _ _ hI_69 _ _ hP hD hS _ (lv_sub hl [1, 2, 3, 4, 0] rfl)
            · cases hu_108
              refine lv_if_ne (tgt := 99) hx hb dX8_keep_69 (by decide) (fun c_0 => absurd (zD_eq zk_0 zk_z) c_0) (fun _ => ?_)
              refine lv_aload_n hx hb dX8_keep_72 rfl (lv_at hl 1 rfl) ?_
              refine z_get hx hb ht hown hK hP ziX8 rfl 39 (by decide) 4 (by decide) hw_1_233 rfl (v := .ref (q 42)) rfl dX8_keep_73 ?_
              refine lv_iload_n hx hb dX8_keep_76 rfl (lv_at hl 2 rfl) ?_
              refine lv_iload_n hx hb dX8_keep_77 rfl (lv_at hl 4 rfl) ?_
              refine z_iast hx hb hK hP hD hS 42 (by decide) 34 (fun _ => rfl) rfl (zR_vin zk_4 (by decide)) dX8_keep_78 (fun H locs hP hD hS => ?_)
              have hI_109 := xInv_R hI_69 42 (nI 4).toNatClampNeg (x_68) (show zR (-1) 4 (x_68) from zR_w f_91 (by decide)) rfl
              refine lv_aload_n hx hb dX8_keep_79 rfl (lv_at hl 1 rfl) ?_
              refine lv_iload_n hx hb dX8_keep_80 rfl (lv_at hl 2 rfl) ?_
              refine lv_iconst (v := nI 1) hx hb dX8_keep_81 (by decide +kernel) ?_
              refine lv_iadd hx hb dX8_keep_82 ?_
              refine z_eqi (y := nI 5) (by decide +kernel) ?_
              refine lv_iload_n hx hb dX8_keep_83 rfl (lv_at hl 3 rfl) ?_
              refine lv_iconst (v := nI 1) hx hb dX8_keep_84 (by decide +kernel) ?_
              refine lv_iload hx hb dX8_keep_85 (lv_at hl 0 rfl) ?_
              refine lv_ishl hx hb dX8_keep_87 ?_
              refine z_rng (a := 1) (b := 8388608) (zR_shl1 23 f_107 (by decide)) (fun v_110 hv_110 => ?_)
              refine lv_ior hx hb dX8_keep_88 ?_
              refine z_any (fun v_111 => ?_)
              refine z_callVv (k := 39) (As := [.int (nI 5), .int (v_111)]) (rest := []) hx hb hml hown ht (xk_X8_keep_5 l D q cA F _ _ _ hI_109 (v_111)) hw_4_90 hmX8_keep ⟨rfl, rfl⟩ (na := 2) rfl (by decide +kernel) (by decide) (by decide) rfl rfl hK hP hD hS hA hl.1 rfl (Nat.le_of_ble_eq_true rfl) ⟨Nat.zero_le _, Nat.zero_le _⟩ dX8_keep_89 (fun I_112 R_112 J_112 H locs hp_112 hP hD hS _ _ => ?_)
              refine lv_aload_n hx hb dX8_keep_92 rfl (lv_at hl 1 rfl) ?_
              refine z_get hx hb ht hown hK hP ziX8 rfl 39 (by decide) 4 (by decide) hw_1_233 rfl (v := .ref (q 42)) rfl dX8_keep_93 ?_
              refine lv_iload_n hx hb dX8_keep_96 rfl (lv_at hl 2 rfl) ?_
              refine lv_iconst (v := (-1)) hx hb dX8_keep_97 (by decide +kernel) ?_
              refine z_iast hx hb hK hP hD hS 42 (by decide) 34 (fun _ => rfl) rfl (zR_vin zk_4 (by decide)) dX8_keep_98 (fun H locs hP hD hS => ?_)
              have hI_113 := xInv_R hp_112 42 (nI 4).toNatClampNeg ((-1)) (show zR (-1) 4 ((-1)) from zR_w zk_m1 (by decide)) rfl
              exact t_104 _ _ _ hI_113 _ _ hP hD hS _ (lv_sub hl [1, 2, 3, 4, 0] rfl)
    exact loop_70 _ (nI 0) (zR_w zk_0 (by decide)) _ _ _ hI (Nat.lt_succ_self _) _ _ hP hD hS _ (lv_sub hl [1, 2, 3, 0] rfl)
  · have t_c_5 := z_leF c_5
    have f_114 : zR 1 62 (v_3) := zR_ltx t_c_5 hv_3 hr_4 (by decide)
    have f_115 : zR 5 66 (v_2) := zR_shift mv_3 f_114 (by decide)
    have f_116 : zR 2 63 (r_4) := zR_lty t_c_5 hv_3 hr_4 (by decide)
    exact z_vret hx hb hr hlocks hP hD hS dX8_keep_37 hI
set_option maxHeartbeats 4000000 in
set_option maxRecDepth 100000 in
theorem xk_X8_leads_5 (l : Launch) (D : va_G) (q : Nat → Nat) (cA : Nat → ClassId) (F : Nat → Nat → Int32) (I R : Nat → Nat → Int32) (J : Nat → Nat → Int64) (hI : xInv F (I, R, J)) (pa0 : Int32) (hpa0 : zR 0 4 pa0) (pa1 : Int32) (hpa1 : zR 0 3 pa1) : zMi l D vwCl (zXtys cA) 81 q (zXd q cA) yX8_leads cX8_leads 5 (some .boolean) ({ frames := 0, cells := 0, slots := 0, locals := 0 } : Room) [.ref (q 39), .int (pa0), .int (pa1)] (I, R, J) (fun r u => (r = nI 1 ∧ u = (I, R, J)) ∨ (r = nI 0 ∧ u = (I, R, J))) := by
  intro sz
  refine z_body (by decide +kernel) (Nat.le_of_ble_eq_true rfl) (fun p e s m below meth c ls hx hb hml hr ht hown hlocks hsz hK hP hD hS hl => ?_)
  have hA : ∀ a, s.heap.size ≤ a → zA 81 q sz a := fun a h => Or.inr (hsz ▸ h)
  have hl : lv_has ls 5 [(0, .ref (q 39)), (1, .int (pa0)), (2, .int (pa1))] := hl
  refine lv_iload_n hx hb dX8_leads_0 rfl (lv_at hl 1 rfl) ?_
  refine lv_istore_n (lv' := [(3, .int (pa0)), (0, .ref (q 39)), (1, .int (pa0)), (2, .int (pa1))]) hx hb dX8_leads_1 rfl hl (by decide) rfl (fun ls hl => ?_)
  refine lv_iconst (v := nI 0) hx hb dX8_leads_2 (by decide +kernel) ?_
  refine lv_istore (lv' := [(4, .int (nI 0)), (3, .int (pa0)), (0, .ref (q 39)), (1, .int (pa0)), (2, .int (pa1))]) hx hb dX8_leads_3 hl (by decide) rfl (fun ls hl => ?_)
  have loop_39 : ∀ N : Nat, ∀ x_37 : Int32, zR (-1) 4 x_37 → ∀ x_38 : Int32, zR 0 5 x_38 → (2147483648 - (x_38).toInt).toNat < N → ∀ (H : Heap) (locs : List Loc), va_P D vwCl (zw 81 q (zXd q cA) I R J) H → va_D (zA 81 q sz) (zw 81 q (zXd q cA) I R J) → va_S (zA 81 q sz) s.heap H locs → ∀ ls : Array Slot, lv_has ls 5 [(0, .ref (q 39)), (1, .int (pa0)), (2, .int (pa1)), (3, .int (x_37)), (4, .int (x_38))] → W p l e ({ frames := 0, cells := 0, slots := 0, locals := 0 } : Room) s m ([.ref (q 39), .int (pa0), .int (pa1)] : List Value).toArray below meth c H locs 0 0 (MQ below (va_Qi (fun r u => (r = nI 1 ∧ u = (I, R, J)) ∨ (r = nI 0 ∧ u = (I, R, J))) (zB D vwCl 81 q (zXd q cA) sz) (zA 81 q sz)) ([.ref (q 39), .int (pa0), .int (pa1)] : List Value).toArray s 0 0 (zA 81 q sz)) (F0 m 5 ls []) := by
    intro N
    induction N with
    | zero => intro x_37 hx_37 x_38 hx_38 hN; exact absurd hN (Nat.not_lt_zero _)
    | succ N ih_41 =>
      intro x_37 hx_37 x_38 hx_38 hN_40 H locs hP hD hS ls hl
      refine lv_iload hx hb dX8_leads_5 (lv_at hl 4 rfl) ?_
      refine lv_iconst (v := nI 5) hx hb dX8_leads_7 (by decide +kernel) ?_
      refine lv_icmp_ge (tgt := 36) hx hb dX8_leads_8 (by decide) (fun c_42 => ?_) (fun c_42 => ?_)
      · have t_c_42 := z_leT c_42
        have f_43 : zR 5 5 (x_38) := zR_ley t_c_42 zk_5 hx_38 (by decide)
        refine lv_iconst (v := nI 0) hx hb dX8_leads_36 (by decide +kernel) ?_
        exact z_zret (v := nI 0) hx hb hr hlocks hP hD hS (by decide +kernel) dX8_leads_37 (Or.inr ⟨rfl, rfl⟩)
      · have t_c_42 := z_leF c_42
        have f_44 : zR 0 4 (x_38) := zR_ltx t_c_42 hx_38 zk_5 (by decide)
        refine lv_iload_n hx hb dX8_leads_11 rfl (lv_at hl 3 rfl) ?_
        refine lv_iconst (v := (-1)) hx hb dX8_leads_12 (by decide +kernel) ?_
        refine lv_icmp_eq (tgt := 36) hx hb dX8_leads_13 (by decide) (fun c_45 => ?_) (fun c_45 => ?_)
        · have t_c_45 := z_eqT c_45
          have f_46 : zR (-1) (-1) (x_37) := zR_eqx t_c_45 zk_m1
          refine lv_iconst (v := nI 0) hx hb dX8_leads_36 (by decide +kernel) ?_
          exact z_zret (v := nI 0) hx hb hr hlocks hP hD hS (by decide +kernel) dX8_leads_37 (Or.inr ⟨rfl, rfl⟩)
        · have t_c_45 := z_eqF c_45
          have f_47 : zR 0 4 (x_37) := zR_nex t_c_45 hx_37 zk_m1 (by decide)
          refine lv_iload_n hx hb dX8_leads_16 rfl (lv_at hl 3 rfl) ?_
          refine lv_iload_n hx hb dX8_leads_17 rfl (lv_at hl 2 rfl) ?_
          refine lv_icmp_ne (tgt := 23) hx hb dX8_leads_18 (by decide) (fun c_48 => ?_) (fun c_48 => ?_)
          · have t_c_48 := z_eqF c_48
            refine lv_aload_n hx hb dX8_leads_23 rfl (lv_at hl 0 rfl) ?_
            refine z_get hx hb ht hown hK hP ziX8 rfl 39 (by decide) 4 (by decide) hw_1_233 rfl (v := .ref (q 42)) rfl dX8_leads_24 ?_
            refine lv_iload_n hx hb dX8_leads_27 rfl (lv_at hl 3 rfl) ?_
            refine z_iald hx hb hK hP 42 (by decide) 34 rfl rfl (zR_vin f_47 (by decide)) dX8_leads_28 ?_
            refine z_eqi (y := R 42 (x_37).toNatClampNeg) rfl ?_
            have f_49 : zR (-1) 4 (R 42 (x_37).toNatClampNeg) := xR hI 42 (x_37).toNatClampNeg
            refine lv_istore_n (lv' := [(3, .int (R 42 (x_37).toNatClampNeg)), (0, .ref (q 39)), (1, .int (pa0)), (2, .int (pa1)), (4, .int (x_38))]) hx hb dX8_leads_29 rfl hl (by decide) rfl (fun ls hl => ?_)
            obtain ⟨v_50, ev_50⟩ : ∃ y : Int32, y = x_38 + nI 1 := ⟨_, rfl⟩
            have hv_50 : zR 1 5 v_50 := ev_50 ▸ zR_add f_44 zk_1 (by decide)
            have mv_50 : v_50.toInt = (x_38).toInt + 1 := by rw [ev_50, zR_addE f_44 zk_1 (by decide)]; rfl
            refine lv_iinc (v := v_50) (lv' := [(4, .int (v_50)), (3, .int (R 42 (x_37).toNatClampNeg)), (0, .ref (q 39)), (1, .int (pa0)), (2, .int (pa1))]) hx hb dX8_leads_30 hl (k := 4) rfl (ev_50 ▸ rfl) (by decide) rfl (fun ls hl => ?_)
            refine lv_goto (tgt := 5) hx hb dX8_leads_33 (by decide) ?_
            exact ih_41 (R 42 (x_37).toNatClampNeg) f_49 (v_50) (zR_w hv_50 (by decide)) (z2_up mv_50 (by decide) hN_40) _ _ hP hD hS _ (lv_sub hl [2, 3, 4, 1, 0] rfl)
          · have t_c_48 := z_eqT c_48
            have f_51 : zR 0 3 (x_37) := zR_eqx t_c_48 hpa1
            refine lv_iconst (v := nI 1) hx hb dX8_leads_21 (by decide +kernel) ?_
            exact z_zret (v := nI 1) hx hb hr hlocks hP hD hS (by decide +kernel) dX8_leads_22 (Or.inl ⟨rfl, rfl⟩)
  exact loop_39 _ (pa0) (zR_w hpa0 (by decide)) (nI 0) (zR_w zk_0 (by decide)) (Nat.lt_succ_self _) _ _ hP hD hS _ (lv_sub hl [2, 3, 4, 1, 0] rfl)
set_option maxHeartbeats 4000000 in
set_option maxRecDepth 100000 in
theorem xk_X8_keep_3 (l : Launch) (D : va_G) (q : Nat → Nat) (cA : Nat → ClassId) (F : Nat → Nat → Int32) (I R : Nat → Nat → Int32) (J : Nat → Nat → Int64) (hI : xInv F (I, R, J)) (pa1 : Int32) : zMv l D vwCl (zXtys cA) 81 q (zXd q cA) yX8_keep cX8_keep 5 none ({ frames := 4, cells := 0, slots := 0, locals := 90 } : Room) [.ref (q 39), .int (nI 3), .int (pa1)] (I, R, J) (fun u => xInv F u) := by
  intro sz
  refine z_body (by decide +kernel) (Nat.le_of_ble_eq_true rfl) (fun p e s m below meth c ls hx hb hml hr ht hown hlocks hsz hK hP hD hS hl => ?_)
  have hA : ∀ a, s.heap.size ≤ a → zA 81 q sz a := fun a h => Or.inr (hsz ▸ h)
  have hl : lv_has ls 5 [(0, .ref (q 39)), (1, .int (nI 3)), (2, .int (pa1))] := hl
  refine lv_iload_n hx hb dX8_keep_0 rfl (lv_at hl 1 rfl) ?_
  refine lv_iconst (v := nI 5) hx hb dX8_keep_1 (by decide +kernel) ?_
  refine lv_icmp_lt (tgt := 19) hx hb dX8_keep_2 (by decide) (fun _ => ?_) (fun c_0 => absurd (zD_lt zk_3 zk_5 (by decide)) c_0)
  refine lv_iload_n hx hb dX8_keep_19 rfl (lv_at hl 2 rfl) ?_
  refine z_callSi (As := [.int (pa1)]) (rest := []) hx hb hml hown ht (xk_J6_bitCount_0f7a4 l D q cA F _ _ _ hI (pa1)) hw_4_98 hmJ6_bitCount_0f7a4 ⟨rfl, rfl⟩ (na := 1) rfl (by decide +kernel) (by decide) hK hP hD hS hA hl.1 rfl (Nat.le_of_ble_eq_true rfl) ⟨Nat.zero_le _, Nat.zero_le _⟩ dX8_keep_20 (fun r_1 I_1 R_1 J_1 H locs hp_1 hP hD hS _ _ => ?_)
  obtain ⟨hr_1, hu_1⟩ := hp_1
  cases hu_1
  refine lv_iconst (v := nI 5) hx hb dX8_keep_23 (by decide +kernel) ?_
  refine lv_iadd hx hb dX8_keep_24 ?_
  refine z_addc 5 68 hr_1 zk_5 (by decide) (fun v_2 hv_2 mv_2 => ?_)
  refine lv_iload_n hx hb dX8_keep_25 rfl (lv_at hl 1 rfl) ?_
  refine lv_isub hx hb dX8_keep_26 ?_
  refine z_subc 2 65 (-3) hv_2 zk_3 (by decide) (fun v_3 hv_3 mv_3 => ?_)
  refine lv_aload_n hx hb dX8_keep_27 rfl (lv_at hl 0 rfl) ?_
  refine z_get hx hb ht hown hK hP ziX8 rfl 39 (by decide) 5 (by decide) hw_1_234 rfl (v := .int (I 39 5)) rfl dX8_keep_28 ?_
  refine z_callSi (As := [.int (I 39 5)]) (rest := [.int (v_3)]) hx hb hml hown ht (xk_J6_bitCount_0f7a4 l D q cA F _ _ _ hI (I 39 5)) hw_4_98 hmJ6_bitCount_0f7a4 ⟨rfl, rfl⟩ (na := 1) rfl (by decide +kernel) (by decide) hK hP hD hS hA hl.1 rfl (Nat.le_of_ble_eq_true rfl) ⟨Nat.zero_le _, Nat.zero_le _⟩ dX8_keep_31 (fun r_4 I_4 R_4 J_4 H locs hp_4 hP hD hS _ _ => ?_)
  obtain ⟨hr_4, hu_4⟩ := hp_4
  cases hu_4
  refine lv_icmp_ge (tgt := 38) hx hb dX8_keep_34 (by decide) (fun c_5 => ?_) (fun c_5 => ?_)
  · have t_c_5 := z_leT c_5
    refine lv_iconst (v := nI 0) hx hb dX8_keep_38 (by decide +kernel) ?_
    refine lv_istore_n (lv' := [(3, .int (nI 0)), (0, .ref (q 39)), (1, .int (nI 3)), (2, .int (pa1))]) hx hb dX8_keep_39 rfl hl (by decide) rfl (fun ls hl => ?_)
    have loop_70 : ∀ N : Nat, ∀ x_68 : Int32, zR 0 5 x_68 → ∀ I_69 : Nat → Nat → Int32, ∀ R_69 : Nat → Nat → Int32, ∀ J_69 : Nat → Nat → Int64, xInv F (I_69, R_69, J_69) → (2147483648 - (x_68).toInt).toNat < N → ∀ (H : Heap) (locs : List Loc), va_P D vwCl (zw 81 q (zXd q cA) I_69 R_69 J_69) H → va_D (zA 81 q sz) (zw 81 q (zXd q cA) I_69 R_69 J_69) → va_S (zA 81 q sz) s.heap H locs → ∀ ls : Array Slot, lv_has ls 5 [(0, .ref (q 39)), (1, .int (nI 3)), (2, .int (pa1)), (3, .int (x_68))] → W p l e ({ frames := 4, cells := 0, slots := 0, locals := 90 } : Room) s m ([.ref (q 39), .int (nI 3), .int (pa1)] : List Value).toArray below meth c H locs 0 0 (MQ below (va_Qv (fun u => xInv F u) (zB D vwCl 81 q (zXd q cA) sz) (zA 81 q sz)) ([.ref (q 39), .int (nI 3), .int (pa1)] : List Value).toArray s 0 0 (zA 81 q sz)) (F0 m 40 ls []) := by
      intro N
      induction N with
      | zero => intro x_68 hx_68 I_69 R_69 J_69 hI_69 hN; exact absurd hN (Nat.not_lt_zero _)
      | succ N ih_72 =>
        intro x_68 hx_68 I_69 R_69 J_69 hI_69 hN_71 H locs hP hD hS ls hl
        refine lv_iload_n hx hb dX8_keep_40 rfl (lv_at hl 3 rfl) ?_
        refine lv_iconst (v := nI 5) hx hb dX8_keep_41 (by decide +kernel) ?_
        refine lv_icmp_ge (tgt := 105) hx hb dX8_keep_42 (by decide) (fun c_73 => ?_) (fun c_73 => ?_)
        · have t_c_73 := z_leT c_73
          have f_89 : zR 5 5 (x_68) := zR_ley t_c_73 zk_5 hx_68 (by decide)
          refine lv_aload_n hx hb dX8_keep_105 rfl (lv_at hl 0 rfl) ?_
          refine lv_iload_n hx hb dX8_keep_106 rfl (lv_at hl 1 rfl) ?_
          refine lv_iconst (v := nI 1) hx hb dX8_keep_107 (by decide +kernel) ?_
          refine lv_iadd hx hb dX8_keep_108 ?_
          refine z_eqi (y := nI 4) (by decide +kernel) ?_
          refine lv_iload_n hx hb dX8_keep_109 rfl (lv_at hl 2 rfl) ?_
          refine z_callVv (k := 39) (As := [.int (nI 4), .int (pa1)]) (rest := []) hx hb hml hown ht (xk_X8_keep_4 l D q cA F _ _ _ hI_69 (pa1)) hw_4_90 hmX8_keep ⟨rfl, rfl⟩ (na := 2) rfl (by decide +kernel) (by decide) (by decide) rfl rfl hK hP hD hS hA hl.1 rfl (Nat.le_of_ble_eq_true rfl) ⟨Nat.zero_le _, Nat.zero_le _⟩ dX8_keep_110 (fun I_90 R_90 J_90 H locs hp_90 hP hD hS _ _ => ?_)
          exact z_vret hx hb hr hlocks hP hD hS dX8_keep_113 hp_90
        · have t_c_73 := z_leF c_73
          have f_91 : zR 0 4 (x_68) := zR_ltx t_c_73 hx_68 zk_5 (by decide)
          refine lv_aload_n hx hb dX8_keep_45 rfl (lv_at hl 0 rfl) ?_
          refine z_get hx hb ht hown hK hP ziX8 rfl 39 (by decide) 3 (by decide) hw_1_232 rfl (v := .ref (q 41)) rfl dX8_keep_46 ?_
          refine lv_iload_n hx hb dX8_keep_49 rfl (lv_at hl 1 rfl) ?_
          refine lv_iconst (v := nI 5) hx hb dX8_keep_50 (by decide +kernel) ?_
          refine lv_imul hx hb dX8_keep_51 ?_
          refine z_eqi (y := nI 15) (by decide +kernel) ?_
          refine lv_iload_n hx hb dX8_keep_52 rfl (lv_at hl 3 rfl) ?_
          refine lv_iadd hx hb dX8_keep_53 ?_
          refine z_cadd 15 19 zk_15 f_91 (by decide) (fun v_92 hv_92 mv_92 => ?_)
          refine z_iald hx hb hK hP 41 (by decide) 33 rfl rfl (zR_vin hv_92 (by decide)) dX8_keep_54 ?_
          refine z_eqi (y := R_69 41 (v_92).toNatClampNeg) rfl ?_
          have f_93 : zR (-1) 23 (R_69 41 (v_92).toNatClampNeg) := xR hI_69 41 (v_92).toNatClampNeg
          refine lv_istore (lv' := [(4, .int (R_69 41 (v_92).toNatClampNeg)), (0, .ref (q 39)), (1, .int (nI 3)), (2, .int (pa1)), (3, .int (x_68))]) hx hb dX8_keep_55 hl (by decide) rfl (fun ls hl => ?_)
          refine lv_iload hx hb dX8_keep_57 (lv_at hl 0 rfl) ?_
          refine lv_iconst (v := (-1)) hx hb dX8_keep_59 (by decide +kernel) ?_
          have t_104 : ∀ I_103 : Nat → Nat → Int32, ∀ R_103 : Nat → Nat → Int32, ∀ J_103 : Nat → Nat → Int64, xInv F (I_103, R_103, J_103) → ∀ (H : Heap) (locs : List Loc), va_P D vwCl (zw 81 q (zXd q cA) I_103 R_103 J_103) H → va_D (zA 81 q sz) (zw 81 q (zXd q cA) I_103 R_103 J_103) → va_S (zA 81 q sz) s.heap H locs → ∀ ls : Array Slot, lv_has ls 5 [(0, .ref (q 39)), (1, .int (nI 3)), (2, .int (pa1)), (3, .int (x_68)), (4, .int (R_69 41 (v_92).toNatClampNeg))] → W p l e ({ frames := 4, cells := 0, slots := 0, locals := 90 } : Room) s m ([.ref (q 39), .int (nI 3), .int (pa1)] : List Value).toArray below meth c H locs 0 0 (MQ below (va_Qv (fun u => xInv F u) (zB D vwCl 81 q (zXd q cA) sz) (zA 81 q sz)) ([.ref (q 39), .int (nI 3), .int (pa1)] : List Value).toArray s 0 0 (zA 81 q sz)) (F0 m 99 ls []) := by
            intro I_103 R_103 J_103 hI_103 H locs hP hD hS ls hl
            obtain ⟨v_105, ev_105⟩ : ∃ y : Int32, y = x_68 + nI 1 := ⟨_, rfl⟩
            have hv_105 : zR 1 5 v_105 := ev_105 ▸ zR_add f_91 zk_1 (by decide)
            have mv_105 : v_105.toInt = (x_68).toInt + 1 := by rw [ev_105, zR_addE f_91 zk_1 (by decide)]; rfl
            refine lv_iinc (v := v_105) (lv' := [(3, .int (v_105)), (0, .ref (q 39)), (1, .int (nI 3)), (2, .int (pa1)), (4, .int (R_69 41 (v_92).toNatClampNeg))]) hx hb dX8_keep_99 hl (k := 3) rfl (ev_105 ▸ rfl) (by decide) rfl (fun ls hl => ?_)
            refine lv_goto (tgt := 40) hx hb dX8_keep_102 (by decide) ?_
            exact ih_72 (v_105) (zR_w hv_105 (by decide)) _ _ _ hI_103 (z2_up mv_105 (by decide) hN_71) _ _ hP hD hS _ (lv_sub hl [1, 2, 3, 0] rfl)
          refine lv_icmp_eq (tgt := 99) hx hb dX8_keep_60 (by decide) (fun c_94 => ?_) (fun c_94 => ?_)
          · have t_c_94 := z_eqT c_94
            have f_106 : zR (-1) (-1) (R_69 41 (v_92).toNatClampNeg) := zR_eqx t_c_94 zk_m1
            exact t_104 _ _ _ hI_69 _ _ hP hD hS _ (lv_sub hl [1, 2, 3, 4, 0] rfl)
          · have t_c_94 := z_eqF c_94
            have f_107 : zR 0 23 (R_69 41 (v_92).toNatClampNeg) := zR_nex t_c_94 f_93 zk_m1 (by decide)
            refine lv_aload_n hx hb dX8_keep_63 rfl (lv_at hl 1 rfl) ?_
            refine lv_iload_n hx hb dX8_keep_64 rfl (lv_at hl 4 rfl) ?_
            refine lv_iload_n hx hb dX8_keep_65 rfl (lv_at hl 2 rfl) ?_
            refine z_callVi (k := 39) (As := [.int (x_68), .int (nI 3)]) (rest := []) hx hb hml hown ht (xk_X8_leads_5 l D q cA F _ _ _ hI_69 (x_68) f_91 (nI 3) (zR_w zk_3 (by decide))) hw_4_99 hmX8_leads ⟨rfl, rfl⟩ (na := 2) rfl (by decide +kernel) (by decide) (by decide) rfl rfl hK hP hD hS hA hl.1 rfl (Nat.le_of_ble_eq_true rfl) ⟨Nat.zero_le _, Nat.zero_le _⟩ dX8_keep_66 (fun r_108 I_108 R_108 J_108 H locs hp_108 hP hD hS _ _ => ?_)
            rcases hp_108 with ⟨rfl, hu_108⟩ | ⟨rfl, hu_108⟩
            · cases hu_108
              refine lv_if_ne (tgt := 99) hx hb dX8_keep_69 (by decide) (fun _ => ?_) (fun c_0 => absurd c_0 (zD_ne zk_1 zk_z (by decide)))
              exact t_104 _ _ _ hI_69 _ _ hP hD hS _ (lv_sub hl [1, 2, 3, 4, 0] rfl)
            · cases hu_108
              refine lv_if_ne (tgt := 99) hx hb dX8_keep_69 (by decide) (fun c_0 => absurd (zD_eq zk_0 zk_z) c_0) (fun _ => ?_)
              refine lv_aload_n hx hb dX8_keep_72 rfl (lv_at hl 1 rfl) ?_
              refine z_get hx hb ht hown hK hP ziX8 rfl 39 (by decide) 4 (by decide) hw_1_233 rfl (v := .ref (q 42)) rfl dX8_keep_73 ?_
              refine lv_iload_n hx hb dX8_keep_76 rfl (lv_at hl 2 rfl) ?_
              refine lv_iload_n hx hb dX8_keep_77 rfl (lv_at hl 4 rfl) ?_
              refine z_iast hx hb hK hP hD hS 42 (by decide) 34 (fun _ => rfl) rfl (zR_vin zk_3 (by decide)) dX8_keep_78 (fun H locs hP hD hS => ?_)
              have hI_109 := xInv_R hI_69 42 (nI 3).toNatClampNeg (x_68) (show zR (-1) 4 (x_68) from zR_w f_91 (by decide)) rfl
              refine lv_aload_n hx hb dX8_keep_79 rfl (lv_at hl 1 rfl) ?_
              refine lv_iload_n hx hb dX8_keep_80 rfl (lv_at hl 2 rfl) ?_
              refine lv_iconst (v := nI 1) hx hb dX8_keep_81 (by decide +kernel) ?_
              refine lv_iadd hx hb dX8_keep_82 ?_
              refine z_eqi (y := nI 4) (by decide +kernel) ?_
              refine lv_iload_n hx hb dX8_keep_83 rfl (lv_at hl 3 rfl) ?_
              refine lv_iconst (v := nI 1) hx hb dX8_keep_84 (by decide +kernel) ?_
              refine lv_iload hx hb dX8_keep_85 (lv_at hl 0 rfl) ?_
              refine lv_ishl hx hb dX8_keep_87 ?_
              refine z_rng (a := 1) (b := 8388608) (zR_shl1 23 f_107 (by decide)) (fun v_110 hv_110 => ?_)
              refine lv_ior hx hb dX8_keep_88 ?_
              refine z_any (fun v_111 => ?_)
              refine z_callVv (k := 39) (As := [.int (nI 4), .int (v_111)]) (rest := []) hx hb hml hown ht (xk_X8_keep_4 l D q cA F _ _ _ hI_109 (v_111)) hw_4_90 hmX8_keep ⟨rfl, rfl⟩ (na := 2) rfl (by decide +kernel) (by decide) (by decide) rfl rfl hK hP hD hS hA hl.1 rfl (Nat.le_of_ble_eq_true rfl) ⟨Nat.zero_le _, Nat.zero_le _⟩ dX8_keep_89 (fun I_112 R_112 J_112 H locs hp_112 hP hD hS _ _ => ?_)
              refine lv_aload_n hx hb dX8_keep_92 rfl (lv_at hl 1 rfl) ?_
              refine z_get hx hb ht hown hK hP ziX8 rfl 39 (by decide) 4 (by decide) hw_1_233 rfl (v := .ref (q 42)) rfl dX8_keep_93 ?_
              refine lv_iload_n hx hb dX8_keep_96 rfl (lv_at hl 2 rfl) ?_
              refine lv_iconst (v := (-1)) hx hb dX8_keep_97 (by decide +kernel) ?_
              refine z_iast hx hb hK hP hD hS 42 (by decide) 34 (fun _ => rfl) rfl (zR_vin zk_3 (by decide)) dX8_keep_98 (fun H locs hP hD hS => ?_)
              have hI_113 := xInv_R hp_112 42 (nI 3).toNatClampNeg ((-1)) (show zR (-1) 4 ((-1)) from zR_w zk_m1 (by decide)) rfl
              exact t_104 _ _ _ hI_113 _ _ hP hD hS _ (lv_sub hl [1, 2, 3, 4, 0] rfl)
    exact loop_70 _ (nI 0) (zR_w zk_0 (by decide)) _ _ _ hI (Nat.lt_succ_self _) _ _ hP hD hS _ (lv_sub hl [1, 2, 3, 0] rfl)
  · have t_c_5 := z_leF c_5
    have f_114 : zR 2 62 (v_3) := zR_ltx t_c_5 hv_3 hr_4 (by decide)
    have f_115 : zR 5 65 (v_2) := zR_shift mv_3 f_114 (by decide)
    have f_116 : zR 3 63 (r_4) := zR_lty t_c_5 hv_3 hr_4 (by decide)
    exact z_vret hx hb hr hlocks hP hD hS dX8_keep_37 hI
set_option maxHeartbeats 4000000 in
set_option maxRecDepth 100000 in
theorem xk_X8_leads_6 (l : Launch) (D : va_G) (q : Nat → Nat) (cA : Nat → ClassId) (F : Nat → Nat → Int32) (I R : Nat → Nat → Int32) (J : Nat → Nat → Int64) (hI : xInv F (I, R, J)) (pa0 : Int32) (hpa0 : zR 0 4 pa0) (pa1 : Int32) (hpa1 : zR 0 2 pa1) : zMi l D vwCl (zXtys cA) 81 q (zXd q cA) yX8_leads cX8_leads 5 (some .boolean) ({ frames := 0, cells := 0, slots := 0, locals := 0 } : Room) [.ref (q 39), .int (pa0), .int (pa1)] (I, R, J) (fun r u => (r = nI 1 ∧ u = (I, R, J)) ∨ (r = nI 0 ∧ u = (I, R, J))) := by
  intro sz
  refine z_body (by decide +kernel) (Nat.le_of_ble_eq_true rfl) (fun p e s m below meth c ls hx hb hml hr ht hown hlocks hsz hK hP hD hS hl => ?_)
  have hA : ∀ a, s.heap.size ≤ a → zA 81 q sz a := fun a h => Or.inr (hsz ▸ h)
  have hl : lv_has ls 5 [(0, .ref (q 39)), (1, .int (pa0)), (2, .int (pa1))] := hl
  refine lv_iload_n hx hb dX8_leads_0 rfl (lv_at hl 1 rfl) ?_
  refine lv_istore_n (lv' := [(3, .int (pa0)), (0, .ref (q 39)), (1, .int (pa0)), (2, .int (pa1))]) hx hb dX8_leads_1 rfl hl (by decide) rfl (fun ls hl => ?_)
  refine lv_iconst (v := nI 0) hx hb dX8_leads_2 (by decide +kernel) ?_
  refine lv_istore (lv' := [(4, .int (nI 0)), (3, .int (pa0)), (0, .ref (q 39)), (1, .int (pa0)), (2, .int (pa1))]) hx hb dX8_leads_3 hl (by decide) rfl (fun ls hl => ?_)
  have loop_39 : ∀ N : Nat, ∀ x_37 : Int32, zR (-1) 4 x_37 → ∀ x_38 : Int32, zR 0 5 x_38 → (2147483648 - (x_38).toInt).toNat < N → ∀ (H : Heap) (locs : List Loc), va_P D vwCl (zw 81 q (zXd q cA) I R J) H → va_D (zA 81 q sz) (zw 81 q (zXd q cA) I R J) → va_S (zA 81 q sz) s.heap H locs → ∀ ls : Array Slot, lv_has ls 5 [(0, .ref (q 39)), (1, .int (pa0)), (2, .int (pa1)), (3, .int (x_37)), (4, .int (x_38))] → W p l e ({ frames := 0, cells := 0, slots := 0, locals := 0 } : Room) s m ([.ref (q 39), .int (pa0), .int (pa1)] : List Value).toArray below meth c H locs 0 0 (MQ below (va_Qi (fun r u => (r = nI 1 ∧ u = (I, R, J)) ∨ (r = nI 0 ∧ u = (I, R, J))) (zB D vwCl 81 q (zXd q cA) sz) (zA 81 q sz)) ([.ref (q 39), .int (pa0), .int (pa1)] : List Value).toArray s 0 0 (zA 81 q sz)) (F0 m 5 ls []) := by
    intro N
    induction N with
    | zero => intro x_37 hx_37 x_38 hx_38 hN; exact absurd hN (Nat.not_lt_zero _)
    | succ N ih_41 =>
      intro x_37 hx_37 x_38 hx_38 hN_40 H locs hP hD hS ls hl
      refine lv_iload hx hb dX8_leads_5 (lv_at hl 4 rfl) ?_
      refine lv_iconst (v := nI 5) hx hb dX8_leads_7 (by decide +kernel) ?_
      refine lv_icmp_ge (tgt := 36) hx hb dX8_leads_8 (by decide) (fun c_42 => ?_) (fun c_42 => ?_)
      · have t_c_42 := z_leT c_42
        have f_43 : zR 5 5 (x_38) := zR_ley t_c_42 zk_5 hx_38 (by decide)
        refine lv_iconst (v := nI 0) hx hb dX8_leads_36 (by decide +kernel) ?_
        exact z_zret (v := nI 0) hx hb hr hlocks hP hD hS (by decide +kernel) dX8_leads_37 (Or.inr ⟨rfl, rfl⟩)
      · have t_c_42 := z_leF c_42
        have f_44 : zR 0 4 (x_38) := zR_ltx t_c_42 hx_38 zk_5 (by decide)
        refine lv_iload_n hx hb dX8_leads_11 rfl (lv_at hl 3 rfl) ?_
        refine lv_iconst (v := (-1)) hx hb dX8_leads_12 (by decide +kernel) ?_
        refine lv_icmp_eq (tgt := 36) hx hb dX8_leads_13 (by decide) (fun c_45 => ?_) (fun c_45 => ?_)
        · have t_c_45 := z_eqT c_45
          have f_46 : zR (-1) (-1) (x_37) := zR_eqx t_c_45 zk_m1
          refine lv_iconst (v := nI 0) hx hb dX8_leads_36 (by decide +kernel) ?_
          exact z_zret (v := nI 0) hx hb hr hlocks hP hD hS (by decide +kernel) dX8_leads_37 (Or.inr ⟨rfl, rfl⟩)
        · have t_c_45 := z_eqF c_45
          have f_47 : zR 0 4 (x_37) := zR_nex t_c_45 hx_37 zk_m1 (by decide)
          refine lv_iload_n hx hb dX8_leads_16 rfl (lv_at hl 3 rfl) ?_
          refine lv_iload_n hx hb dX8_leads_17 rfl (lv_at hl 2 rfl) ?_
          refine lv_icmp_ne (tgt := 23) hx hb dX8_leads_18 (by decide) (fun c_48 => ?_) (fun c_48 => ?_)
          · have t_c_48 := z_eqF c_48
            refine lv_aload_n hx hb dX8_leads_23 rfl (lv_at hl 0 rfl) ?_
            refine z_get hx hb ht hown hK hP ziX8 rfl 39 (by decide) 4 (by decide) hw_1_233 rfl (v := .ref (q 42)) rfl dX8_leads_24 ?_
            refine lv_iload_n hx hb dX8_leads_27 rfl (lv_at hl 3 rfl) ?_
            refine z_iald hx hb hK hP 42 (by decide) 34 rfl rfl (zR_vin f_47 (by decide)) dX8_leads_28 ?_
            refine z_eqi (y := R 42 (x_37).toNatClampNeg) rfl ?_
            have f_49 : zR (-1) 4 (R 42 (x_37).toNatClampNeg) := xR hI 42 (x_37).toNatClampNeg
            refine lv_istore_n (lv' := [(3, .int (R 42 (x_37).toNatClampNeg)), (0, .ref (q 39)), (1, .int (pa0)), (2, .int (pa1)), (4, .int (x_38))]) hx hb dX8_leads_29 rfl hl (by decide) rfl (fun ls hl => ?_)
            obtain ⟨v_50, ev_50⟩ : ∃ y : Int32, y = x_38 + nI 1 := ⟨_, rfl⟩
            have hv_50 : zR 1 5 v_50 := ev_50 ▸ zR_add f_44 zk_1 (by decide)
            have mv_50 : v_50.toInt = (x_38).toInt + 1 := by rw [ev_50, zR_addE f_44 zk_1 (by decide)]; rfl
            refine lv_iinc (v := v_50) (lv' := [(4, .int (v_50)), (3, .int (R 42 (x_37).toNatClampNeg)), (0, .ref (q 39)), (1, .int (pa0)), (2, .int (pa1))]) hx hb dX8_leads_30 hl (k := 4) rfl (ev_50 ▸ rfl) (by decide) rfl (fun ls hl => ?_)
            refine lv_goto (tgt := 5) hx hb dX8_leads_33 (by decide) ?_
            exact ih_41 (R 42 (x_37).toNatClampNeg) f_49 (v_50) (zR_w hv_50 (by decide)) (z2_up mv_50 (by decide) hN_40) _ _ hP hD hS _ (lv_sub hl [2, 3, 4, 1, 0] rfl)
          · have t_c_48 := z_eqT c_48
            have f_51 : zR 0 2 (x_37) := zR_eqx t_c_48 hpa1
            refine lv_iconst (v := nI 1) hx hb dX8_leads_21 (by decide +kernel) ?_
            exact z_zret (v := nI 1) hx hb hr hlocks hP hD hS (by decide +kernel) dX8_leads_22 (Or.inl ⟨rfl, rfl⟩)
  exact loop_39 _ (pa0) (zR_w hpa0 (by decide)) (nI 0) (zR_w zk_0 (by decide)) (Nat.lt_succ_self _) _ _ hP hD hS _ (lv_sub hl [2, 3, 4, 1, 0] rfl)
set_option maxHeartbeats 4000000 in
set_option maxRecDepth 100000 in
theorem xk_X8_keep_2 (l : Launch) (D : va_G) (q : Nat → Nat) (cA : Nat → ClassId) (F : Nat → Nat → Int32) (I R : Nat → Nat → Int32) (J : Nat → Nat → Int64) (hI : xInv F (I, R, J)) (pa1 : Int32) : zMv l D vwCl (zXtys cA) 81 q (zXd q cA) yX8_keep cX8_keep 5 none ({ frames := 5, cells := 0, slots := 0, locals := 114 } : Room) [.ref (q 39), .int (nI 2), .int (pa1)] (I, R, J) (fun u => xInv F u) := by
  intro sz
  refine z_body (by decide +kernel) (Nat.le_of_ble_eq_true rfl) (fun p e s m below meth c ls hx hb hml hr ht hown hlocks hsz hK hP hD hS hl => ?_)
  have hA : ∀ a, s.heap.size ≤ a → zA 81 q sz a := fun a h => Or.inr (hsz ▸ h)
  have hl : lv_has ls 5 [(0, .ref (q 39)), (1, .int (nI 2)), (2, .int (pa1))] := hl
  refine lv_iload_n hx hb dX8_keep_0 rfl (lv_at hl 1 rfl) ?_
  refine lv_iconst (v := nI 5) hx hb dX8_keep_1 (by decide +kernel) ?_
  refine lv_icmp_lt (tgt := 19) hx hb dX8_keep_2 (by decide) (fun _ => ?_) (fun c_0 => absurd (zD_lt zk_2 zk_5 (by decide)) c_0)
  refine lv_iload_n hx hb dX8_keep_19 rfl (lv_at hl 2 rfl) ?_
  refine z_callSi (As := [.int (pa1)]) (rest := []) hx hb hml hown ht (xk_J6_bitCount_0f7a4 l D q cA F _ _ _ hI (pa1)) hw_4_98 hmJ6_bitCount_0f7a4 ⟨rfl, rfl⟩ (na := 1) rfl (by decide +kernel) (by decide) hK hP hD hS hA hl.1 rfl (Nat.le_of_ble_eq_true rfl) ⟨Nat.zero_le _, Nat.zero_le _⟩ dX8_keep_20 (fun r_1 I_1 R_1 J_1 H locs hp_1 hP hD hS _ _ => ?_)
  obtain ⟨hr_1, hu_1⟩ := hp_1
  cases hu_1
  refine lv_iconst (v := nI 5) hx hb dX8_keep_23 (by decide +kernel) ?_
  refine lv_iadd hx hb dX8_keep_24 ?_
  refine z_addc 5 68 hr_1 zk_5 (by decide) (fun v_2 hv_2 mv_2 => ?_)
  refine lv_iload_n hx hb dX8_keep_25 rfl (lv_at hl 1 rfl) ?_
  refine lv_isub hx hb dX8_keep_26 ?_
  refine z_subc 3 66 (-2) hv_2 zk_2 (by decide) (fun v_3 hv_3 mv_3 => ?_)
  refine lv_aload_n hx hb dX8_keep_27 rfl (lv_at hl 0 rfl) ?_
  refine z_get hx hb ht hown hK hP ziX8 rfl 39 (by decide) 5 (by decide) hw_1_234 rfl (v := .int (I 39 5)) rfl dX8_keep_28 ?_
  refine z_callSi (As := [.int (I 39 5)]) (rest := [.int (v_3)]) hx hb hml hown ht (xk_J6_bitCount_0f7a4 l D q cA F _ _ _ hI (I 39 5)) hw_4_98 hmJ6_bitCount_0f7a4 ⟨rfl, rfl⟩ (na := 1) rfl (by decide +kernel) (by decide) hK hP hD hS hA hl.1 rfl (Nat.le_of_ble_eq_true rfl) ⟨Nat.zero_le _, Nat.zero_le _⟩ dX8_keep_31 (fun r_4 I_4 R_4 J_4 H locs hp_4 hP hD hS _ _ => ?_)
  obtain ⟨hr_4, hu_4⟩ := hp_4
  cases hu_4
  refine lv_icmp_ge (tgt := 38) hx hb dX8_keep_34 (by decide) (fun c_5 => ?_) (fun c_5 => ?_)
  · have t_c_5 := z_leT c_5
    refine lv_iconst (v := nI 0) hx hb dX8_keep_38 (by decide +kernel) ?_
    refine lv_istore_n (lv' := [(3, .int (nI 0)), (0, .ref (q 39)), (1, .int (nI 2)), (2, .int (pa1))]) hx hb dX8_keep_39 rfl hl (by decide) rfl (fun ls hl => ?_)
    have loop_70 : ∀ N : Nat, ∀ x_68 : Int32, zR 0 5 x_68 → ∀ I_69 : Nat → Nat → Int32, ∀ R_69 : Nat → Nat → Int32, ∀ J_69 : Nat → Nat → Int64, xInv F (I_69, R_69, J_69) → (2147483648 - (x_68).toInt).toNat < N → ∀ (H : Heap) (locs : List Loc), va_P D vwCl (zw 81 q (zXd q cA) I_69 R_69 J_69) H → va_D (zA 81 q sz) (zw 81 q (zXd q cA) I_69 R_69 J_69) → va_S (zA 81 q sz) s.heap H locs → ∀ ls : Array Slot, lv_has ls 5 [(0, .ref (q 39)), (1, .int (nI 2)), (2, .int (pa1)), (3, .int (x_68))] → W p l e ({ frames := 5, cells := 0, slots := 0, locals := 114 } : Room) s m ([.ref (q 39), .int (nI 2), .int (pa1)] : List Value).toArray below meth c H locs 0 0 (MQ below (va_Qv (fun u => xInv F u) (zB D vwCl 81 q (zXd q cA) sz) (zA 81 q sz)) ([.ref (q 39), .int (nI 2), .int (pa1)] : List Value).toArray s 0 0 (zA 81 q sz)) (F0 m 40 ls []) := by
      intro N
      induction N with
      | zero => intro x_68 hx_68 I_69 R_69 J_69 hI_69 hN; exact absurd hN (Nat.not_lt_zero _)
      | succ N ih_72 =>
        intro x_68 hx_68 I_69 R_69 J_69 hI_69 hN_71 H locs hP hD hS ls hl
        refine lv_iload_n hx hb dX8_keep_40 rfl (lv_at hl 3 rfl) ?_
        refine lv_iconst (v := nI 5) hx hb dX8_keep_41 (by decide +kernel) ?_
        refine lv_icmp_ge (tgt := 105) hx hb dX8_keep_42 (by decide) (fun c_73 => ?_) (fun c_73 => ?_)
        · have t_c_73 := z_leT c_73
          have f_89 : zR 5 5 (x_68) := zR_ley t_c_73 zk_5 hx_68 (by decide)
          refine lv_aload_n hx hb dX8_keep_105 rfl (lv_at hl 0 rfl) ?_
          refine lv_iload_n hx hb dX8_keep_106 rfl (lv_at hl 1 rfl) ?_
          refine lv_iconst (v := nI 1) hx hb dX8_keep_107 (by decide +kernel) ?_
          refine lv_iadd hx hb dX8_keep_108 ?_
          refine z_eqi (y := nI 3) (by decide +kernel) ?_
          refine lv_iload_n hx hb dX8_keep_109 rfl (lv_at hl 2 rfl) ?_
          refine z_callVv (k := 39) (As := [.int (nI 3), .int (pa1)]) (rest := []) hx hb hml hown ht (xk_X8_keep_3 l D q cA F _ _ _ hI_69 (pa1)) hw_4_90 hmX8_keep ⟨rfl, rfl⟩ (na := 2) rfl (by decide +kernel) (by decide) (by decide) rfl rfl hK hP hD hS hA hl.1 rfl (Nat.le_of_ble_eq_true rfl) ⟨Nat.zero_le _, Nat.zero_le _⟩ dX8_keep_110 (fun I_90 R_90 J_90 H locs hp_90 hP hD hS _ _ => ?_)
          exact z_vret hx hb hr hlocks hP hD hS dX8_keep_113 hp_90
        · have t_c_73 := z_leF c_73
          have f_91 : zR 0 4 (x_68) := zR_ltx t_c_73 hx_68 zk_5 (by decide)
          refine lv_aload_n hx hb dX8_keep_45 rfl (lv_at hl 0 rfl) ?_
          refine z_get hx hb ht hown hK hP ziX8 rfl 39 (by decide) 3 (by decide) hw_1_232 rfl (v := .ref (q 41)) rfl dX8_keep_46 ?_
          refine lv_iload_n hx hb dX8_keep_49 rfl (lv_at hl 1 rfl) ?_
          refine lv_iconst (v := nI 5) hx hb dX8_keep_50 (by decide +kernel) ?_
          refine lv_imul hx hb dX8_keep_51 ?_
          refine z_eqi (y := nI 10) (by decide +kernel) ?_
          refine lv_iload_n hx hb dX8_keep_52 rfl (lv_at hl 3 rfl) ?_
          refine lv_iadd hx hb dX8_keep_53 ?_
          refine z_cadd 10 14 zk_10 f_91 (by decide) (fun v_92 hv_92 mv_92 => ?_)
          refine z_iald hx hb hK hP 41 (by decide) 33 rfl rfl (zR_vin hv_92 (by decide)) dX8_keep_54 ?_
          refine z_eqi (y := R_69 41 (v_92).toNatClampNeg) rfl ?_
          have f_93 : zR (-1) 23 (R_69 41 (v_92).toNatClampNeg) := xR hI_69 41 (v_92).toNatClampNeg
          refine lv_istore (lv' := [(4, .int (R_69 41 (v_92).toNatClampNeg)), (0, .ref (q 39)), (1, .int (nI 2)), (2, .int (pa1)), (3, .int (x_68))]) hx hb dX8_keep_55 hl (by decide) rfl (fun ls hl => ?_)
          refine lv_iload hx hb dX8_keep_57 (lv_at hl 0 rfl) ?_
          refine lv_iconst (v := (-1)) hx hb dX8_keep_59 (by decide +kernel) ?_
          have t_104 : ∀ I_103 : Nat → Nat → Int32, ∀ R_103 : Nat → Nat → Int32, ∀ J_103 : Nat → Nat → Int64, xInv F (I_103, R_103, J_103) → ∀ (H : Heap) (locs : List Loc), va_P D vwCl (zw 81 q (zXd q cA) I_103 R_103 J_103) H → va_D (zA 81 q sz) (zw 81 q (zXd q cA) I_103 R_103 J_103) → va_S (zA 81 q sz) s.heap H locs → ∀ ls : Array Slot, lv_has ls 5 [(0, .ref (q 39)), (1, .int (nI 2)), (2, .int (pa1)), (3, .int (x_68)), (4, .int (R_69 41 (v_92).toNatClampNeg))] → W p l e ({ frames := 5, cells := 0, slots := 0, locals := 114 } : Room) s m ([.ref (q 39), .int (nI 2), .int (pa1)] : List Value).toArray below meth c H locs 0 0 (MQ below (va_Qv (fun u => xInv F u) (zB D vwCl 81 q (zXd q cA) sz) (zA 81 q sz)) ([.ref (q 39), .int (nI 2), .int (pa1)] : List Value).toArray s 0 0 (zA 81 q sz)) (F0 m 99 ls []) := by
            intro I_103 R_103 J_103 hI_103 H locs hP hD hS ls hl
            obtain ⟨v_105, ev_105⟩ : ∃ y : Int32, y = x_68 + nI 1 := ⟨_, rfl⟩
            have hv_105 : zR 1 5 v_105 := ev_105 ▸ zR_add f_91 zk_1 (by decide)
            have mv_105 : v_105.toInt = (x_68).toInt + 1 := by rw [ev_105, zR_addE f_91 zk_1 (by decide)]; rfl
            refine lv_iinc (v := v_105) (lv' := [(3, .int (v_105)), (0, .ref (q 39)), (1, .int (nI 2)), (2, .int (pa1)), (4, .int (R_69 41 (v_92).toNatClampNeg))]) hx hb dX8_keep_99 hl (k := 3) rfl (ev_105 ▸ rfl) (by decide) rfl (fun ls hl => ?_)
            refine lv_goto (tgt := 40) hx hb dX8_keep_102 (by decide) ?_
            exact ih_72 (v_105) (zR_w hv_105 (by decide)) _ _ _ hI_103 (z2_up mv_105 (by decide) hN_71) _ _ hP hD hS _ (lv_sub hl [1, 2, 3, 0] rfl)
          refine lv_icmp_eq (tgt := 99) hx hb dX8_keep_60 (by decide) (fun c_94 => ?_) (fun c_94 => ?_)
          · have t_c_94 := z_eqT c_94
            have f_106 : zR (-1) (-1) (R_69 41 (v_92).toNatClampNeg) := zR_eqx t_c_94 zk_m1
            exact t_104 _ _ _ hI_69 _ _ hP hD hS _ (lv_sub hl [1, 2, 3, 4, 0] rfl)
          · have t_c_94 := z_eqF c_94
            have f_107 : zR 0 23 (R_69 41 (v_92).toNatClampNeg) := zR_nex t_c_94 f_93 zk_m1 (by decide)
            refine lv_aload_n hx hb dX8_keep_63 rfl (lv_at hl 1 rfl) ?_
            refine lv_iload_n hx hb dX8_keep_64 rfl (lv_at hl 4 rfl) ?_
            refine lv_iload_n hx hb dX8_keep_65 rfl (lv_at hl 2 rfl) ?_
            refine z_callVi (k := 39) (As := [.int (x_68), .int (nI 2)]) (rest := []) hx hb hml hown ht (xk_X8_leads_6 l D q cA F _ _ _ hI_69 (x_68) f_91 (nI 2) (zR_w zk_2 (by decide))) hw_4_99 hmX8_leads ⟨rfl, rfl⟩ (na := 2) rfl (by decide +kernel) (by decide) (by decide) rfl rfl hK hP hD hS hA hl.1 rfl (Nat.le_of_ble_eq_true rfl) ⟨Nat.zero_le _, Nat.zero_le _⟩ dX8_keep_66 (fun r_108 I_108 R_108 J_108 H locs hp_108 hP hD hS _ _ => ?_)
            rcases hp_108 with ⟨rfl, hu_108⟩ | ⟨rfl, hu_108⟩
            · cases hu_108
              refine lv_if_ne (tgt := 99) hx hb dX8_keep_69 (by decide) (fun _ => ?_) (fun c_0 => absurd c_0 (zD_ne zk_1 zk_z (by decide)))
              exact t_104 _ _ _ hI_69 _ _ hP hD hS _ (lv_sub hl [1, 2, 3, 4, 0] rfl)
            · cases hu_108
              refine lv_if_ne (tgt := 99) hx hb dX8_keep_69 (by decide) (fun c_0 => absurd (zD_eq zk_0 zk_z) c_0) (fun _ => ?_)
              refine lv_aload_n hx hb dX8_keep_72 rfl (lv_at hl 1 rfl) ?_
              refine z_get hx hb ht hown hK hP ziX8 rfl 39 (by decide) 4 (by decide) hw_1_233 rfl (v := .ref (q 42)) rfl dX8_keep_73 ?_
              refine lv_iload_n hx hb dX8_keep_76 rfl (lv_at hl 2 rfl) ?_
              refine lv_iload_n hx hb dX8_keep_77 rfl (lv_at hl 4 rfl) ?_
              refine z_iast hx hb hK hP hD hS 42 (by decide) 34 (fun _ => rfl) rfl (zR_vin zk_2 (by decide)) dX8_keep_78 (fun H locs hP hD hS => ?_)
              have hI_109 := xInv_R hI_69 42 (nI 2).toNatClampNeg (x_68) (show zR (-1) 4 (x_68) from zR_w f_91 (by decide)) rfl
              refine lv_aload_n hx hb dX8_keep_79 rfl (lv_at hl 1 rfl) ?_
              refine lv_iload_n hx hb dX8_keep_80 rfl (lv_at hl 2 rfl) ?_
              refine lv_iconst (v := nI 1) hx hb dX8_keep_81 (by decide +kernel) ?_
              refine lv_iadd hx hb dX8_keep_82 ?_
              refine z_eqi (y := nI 3) (by decide +kernel) ?_
              refine lv_iload_n hx hb dX8_keep_83 rfl (lv_at hl 3 rfl) ?_
              refine lv_iconst (v := nI 1) hx hb dX8_keep_84 (by decide +kernel) ?_
              refine lv_iload hx hb dX8_keep_85 (lv_at hl 0 rfl) ?_
              refine lv_ishl hx hb dX8_keep_87 ?_
              refine z_rng (a := 1) (b := 8388608) (zR_shl1 23 f_107 (by decide)) (fun v_110 hv_110 => ?_)
              refine lv_ior hx hb dX8_keep_88 ?_
              refine z_any (fun v_111 => ?_)
              refine z_callVv (k := 39) (As := [.int (nI 3), .int (v_111)]) (rest := []) hx hb hml hown ht (xk_X8_keep_3 l D q cA F _ _ _ hI_109 (v_111)) hw_4_90 hmX8_keep ⟨rfl, rfl⟩ (na := 2) rfl (by decide +kernel) (by decide) (by decide) rfl rfl hK hP hD hS hA hl.1 rfl (Nat.le_of_ble_eq_true rfl) ⟨Nat.zero_le _, Nat.zero_le _⟩ dX8_keep_89 (fun I_112 R_112 J_112 H locs hp_112 hP hD hS _ _ => ?_)
              refine lv_aload_n hx hb dX8_keep_92 rfl (lv_at hl 1 rfl) ?_
              refine z_get hx hb ht hown hK hP ziX8 rfl 39 (by decide) 4 (by decide) hw_1_233 rfl (v := .ref (q 42)) rfl dX8_keep_93 ?_
              refine lv_iload_n hx hb dX8_keep_96 rfl (lv_at hl 2 rfl) ?_
              refine lv_iconst (v := (-1)) hx hb dX8_keep_97 (by decide +kernel) ?_
              refine z_iast hx hb hK hP hD hS 42 (by decide) 34 (fun _ => rfl) rfl (zR_vin zk_2 (by decide)) dX8_keep_98 (fun H locs hP hD hS => ?_)
              have hI_113 := xInv_R hp_112 42 (nI 2).toNatClampNeg ((-1)) (show zR (-1) 4 ((-1)) from zR_w zk_m1 (by decide)) rfl
              exact t_104 _ _ _ hI_113 _ _ hP hD hS _ (lv_sub hl [1, 2, 3, 4, 0] rfl)
    exact loop_70 _ (nI 0) (zR_w zk_0 (by decide)) _ _ _ hI (Nat.lt_succ_self _) _ _ hP hD hS _ (lv_sub hl [1, 2, 3, 0] rfl)
  · have t_c_5 := z_leF c_5
    have f_114 : zR 3 62 (v_3) := zR_ltx t_c_5 hv_3 hr_4 (by decide)
    have f_115 : zR 5 64 (v_2) := zR_shift mv_3 f_114 (by decide)
    have f_116 : zR 4 63 (r_4) := zR_lty t_c_5 hv_3 hr_4 (by decide)
    exact z_vret hx hb hr hlocks hP hD hS dX8_keep_37 hI
set_option maxHeartbeats 4000000 in
set_option maxRecDepth 100000 in
theorem xk_X8_leads_7 (l : Launch) (D : va_G) (q : Nat → Nat) (cA : Nat → ClassId) (F : Nat → Nat → Int32) (I R : Nat → Nat → Int32) (J : Nat → Nat → Int64) (hI : xInv F (I, R, J)) (pa0 : Int32) (hpa0 : zR 0 4 pa0) (pa1 : Int32) (hpa1 : zR 0 1 pa1) : zMi l D vwCl (zXtys cA) 81 q (zXd q cA) yX8_leads cX8_leads 5 (some .boolean) ({ frames := 0, cells := 0, slots := 0, locals := 0 } : Room) [.ref (q 39), .int (pa0), .int (pa1)] (I, R, J) (fun r u => (r = nI 1 ∧ u = (I, R, J)) ∨ (r = nI 0 ∧ u = (I, R, J))) := by
  intro sz
  refine z_body (by decide +kernel) (Nat.le_of_ble_eq_true rfl) (fun p e s m below meth c ls hx hb hml hr ht hown hlocks hsz hK hP hD hS hl => ?_)
  have hA : ∀ a, s.heap.size ≤ a → zA 81 q sz a := fun a h => Or.inr (hsz ▸ h)
  have hl : lv_has ls 5 [(0, .ref (q 39)), (1, .int (pa0)), (2, .int (pa1))] := hl
  refine lv_iload_n hx hb dX8_leads_0 rfl (lv_at hl 1 rfl) ?_
  refine lv_istore_n (lv' := [(3, .int (pa0)), (0, .ref (q 39)), (1, .int (pa0)), (2, .int (pa1))]) hx hb dX8_leads_1 rfl hl (by decide) rfl (fun ls hl => ?_)
  refine lv_iconst (v := nI 0) hx hb dX8_leads_2 (by decide +kernel) ?_
  refine lv_istore (lv' := [(4, .int (nI 0)), (3, .int (pa0)), (0, .ref (q 39)), (1, .int (pa0)), (2, .int (pa1))]) hx hb dX8_leads_3 hl (by decide) rfl (fun ls hl => ?_)
  have loop_39 : ∀ N : Nat, ∀ x_37 : Int32, zR (-1) 4 x_37 → ∀ x_38 : Int32, zR 0 5 x_38 → (2147483648 - (x_38).toInt).toNat < N → ∀ (H : Heap) (locs : List Loc), va_P D vwCl (zw 81 q (zXd q cA) I R J) H → va_D (zA 81 q sz) (zw 81 q (zXd q cA) I R J) → va_S (zA 81 q sz) s.heap H locs → ∀ ls : Array Slot, lv_has ls 5 [(0, .ref (q 39)), (1, .int (pa0)), (2, .int (pa1)), (3, .int (x_37)), (4, .int (x_38))] → W p l e ({ frames := 0, cells := 0, slots := 0, locals := 0 } : Room) s m ([.ref (q 39), .int (pa0), .int (pa1)] : List Value).toArray below meth c H locs 0 0 (MQ below (va_Qi (fun r u => (r = nI 1 ∧ u = (I, R, J)) ∨ (r = nI 0 ∧ u = (I, R, J))) (zB D vwCl 81 q (zXd q cA) sz) (zA 81 q sz)) ([.ref (q 39), .int (pa0), .int (pa1)] : List Value).toArray s 0 0 (zA 81 q sz)) (F0 m 5 ls []) := by
    intro N
    induction N with
    | zero => intro x_37 hx_37 x_38 hx_38 hN; exact absurd hN (Nat.not_lt_zero _)
    | succ N ih_41 =>
      intro x_37 hx_37 x_38 hx_38 hN_40 H locs hP hD hS ls hl
      refine lv_iload hx hb dX8_leads_5 (lv_at hl 4 rfl) ?_
      refine lv_iconst (v := nI 5) hx hb dX8_leads_7 (by decide +kernel) ?_
      refine lv_icmp_ge (tgt := 36) hx hb dX8_leads_8 (by decide) (fun c_42 => ?_) (fun c_42 => ?_)
      · have t_c_42 := z_leT c_42
        have f_43 : zR 5 5 (x_38) := zR_ley t_c_42 zk_5 hx_38 (by decide)
        refine lv_iconst (v := nI 0) hx hb dX8_leads_36 (by decide +kernel) ?_
        exact z_zret (v := nI 0) hx hb hr hlocks hP hD hS (by decide +kernel) dX8_leads_37 (Or.inr ⟨rfl, rfl⟩)
      · have t_c_42 := z_leF c_42
        have f_44 : zR 0 4 (x_38) := zR_ltx t_c_42 hx_38 zk_5 (by decide)
        refine lv_iload_n hx hb dX8_leads_11 rfl (lv_at hl 3 rfl) ?_
        refine lv_iconst (v := (-1)) hx hb dX8_leads_12 (by decide +kernel) ?_
        refine lv_icmp_eq (tgt := 36) hx hb dX8_leads_13 (by decide) (fun c_45 => ?_) (fun c_45 => ?_)
        · have t_c_45 := z_eqT c_45
          have f_46 : zR (-1) (-1) (x_37) := zR_eqx t_c_45 zk_m1
          refine lv_iconst (v := nI 0) hx hb dX8_leads_36 (by decide +kernel) ?_
          exact z_zret (v := nI 0) hx hb hr hlocks hP hD hS (by decide +kernel) dX8_leads_37 (Or.inr ⟨rfl, rfl⟩)
        · have t_c_45 := z_eqF c_45
          have f_47 : zR 0 4 (x_37) := zR_nex t_c_45 hx_37 zk_m1 (by decide)
          refine lv_iload_n hx hb dX8_leads_16 rfl (lv_at hl 3 rfl) ?_
          refine lv_iload_n hx hb dX8_leads_17 rfl (lv_at hl 2 rfl) ?_
          refine lv_icmp_ne (tgt := 23) hx hb dX8_leads_18 (by decide) (fun c_48 => ?_) (fun c_48 => ?_)
          · have t_c_48 := z_eqF c_48
            refine lv_aload_n hx hb dX8_leads_23 rfl (lv_at hl 0 rfl) ?_
            refine z_get hx hb ht hown hK hP ziX8 rfl 39 (by decide) 4 (by decide) hw_1_233 rfl (v := .ref (q 42)) rfl dX8_leads_24 ?_
            refine lv_iload_n hx hb dX8_leads_27 rfl (lv_at hl 3 rfl) ?_
            refine z_iald hx hb hK hP 42 (by decide) 34 rfl rfl (zR_vin f_47 (by decide)) dX8_leads_28 ?_
            refine z_eqi (y := R 42 (x_37).toNatClampNeg) rfl ?_
            have f_49 : zR (-1) 4 (R 42 (x_37).toNatClampNeg) := xR hI 42 (x_37).toNatClampNeg
            refine lv_istore_n (lv' := [(3, .int (R 42 (x_37).toNatClampNeg)), (0, .ref (q 39)), (1, .int (pa0)), (2, .int (pa1)), (4, .int (x_38))]) hx hb dX8_leads_29 rfl hl (by decide) rfl (fun ls hl => ?_)
            obtain ⟨v_50, ev_50⟩ : ∃ y : Int32, y = x_38 + nI 1 := ⟨_, rfl⟩
            have hv_50 : zR 1 5 v_50 := ev_50 ▸ zR_add f_44 zk_1 (by decide)
            have mv_50 : v_50.toInt = (x_38).toInt + 1 := by rw [ev_50, zR_addE f_44 zk_1 (by decide)]; rfl
            refine lv_iinc (v := v_50) (lv' := [(4, .int (v_50)), (3, .int (R 42 (x_37).toNatClampNeg)), (0, .ref (q 39)), (1, .int (pa0)), (2, .int (pa1))]) hx hb dX8_leads_30 hl (k := 4) rfl (ev_50 ▸ rfl) (by decide) rfl (fun ls hl => ?_)
            refine lv_goto (tgt := 5) hx hb dX8_leads_33 (by decide) ?_
            exact ih_41 (R 42 (x_37).toNatClampNeg) f_49 (v_50) (zR_w hv_50 (by decide)) (z2_up mv_50 (by decide) hN_40) _ _ hP hD hS _ (lv_sub hl [2, 3, 4, 1, 0] rfl)
          · have t_c_48 := z_eqT c_48
            have f_51 : zR 0 1 (x_37) := zR_eqx t_c_48 hpa1
            refine lv_iconst (v := nI 1) hx hb dX8_leads_21 (by decide +kernel) ?_
            exact z_zret (v := nI 1) hx hb hr hlocks hP hD hS (by decide +kernel) dX8_leads_22 (Or.inl ⟨rfl, rfl⟩)
  exact loop_39 _ (pa0) (zR_w hpa0 (by decide)) (nI 0) (zR_w zk_0 (by decide)) (Nat.lt_succ_self _) _ _ hP hD hS _ (lv_sub hl [2, 3, 4, 1, 0] rfl)
set_option maxHeartbeats 4000000 in
set_option maxRecDepth 100000 in
theorem xk_X8_keep_1 (l : Launch) (D : va_G) (q : Nat → Nat) (cA : Nat → ClassId) (F : Nat → Nat → Int32) (I R : Nat → Nat → Int32) (J : Nat → Nat → Int64) (hI : xInv F (I, R, J)) (pa1 : Int32) : zMv l D vwCl (zXtys cA) 81 q (zXd q cA) yX8_keep cX8_keep 5 none ({ frames := 6, cells := 0, slots := 0, locals := 138 } : Room) [.ref (q 39), .int (nI 1), .int (pa1)] (I, R, J) (fun u => xInv F u) := by
  intro sz
  refine z_body (by decide +kernel) (Nat.le_of_ble_eq_true rfl) (fun p e s m below meth c ls hx hb hml hr ht hown hlocks hsz hK hP hD hS hl => ?_)
  have hA : ∀ a, s.heap.size ≤ a → zA 81 q sz a := fun a h => Or.inr (hsz ▸ h)
  have hl : lv_has ls 5 [(0, .ref (q 39)), (1, .int (nI 1)), (2, .int (pa1))] := hl
  refine lv_iload_n hx hb dX8_keep_0 rfl (lv_at hl 1 rfl) ?_
  refine lv_iconst (v := nI 5) hx hb dX8_keep_1 (by decide +kernel) ?_
  refine lv_icmp_lt (tgt := 19) hx hb dX8_keep_2 (by decide) (fun _ => ?_) (fun c_0 => absurd (zD_lt zk_1 zk_5 (by decide)) c_0)
  refine lv_iload_n hx hb dX8_keep_19 rfl (lv_at hl 2 rfl) ?_
  refine z_callSi (As := [.int (pa1)]) (rest := []) hx hb hml hown ht (xk_J6_bitCount_0f7a4 l D q cA F _ _ _ hI (pa1)) hw_4_98 hmJ6_bitCount_0f7a4 ⟨rfl, rfl⟩ (na := 1) rfl (by decide +kernel) (by decide) hK hP hD hS hA hl.1 rfl (Nat.le_of_ble_eq_true rfl) ⟨Nat.zero_le _, Nat.zero_le _⟩ dX8_keep_20 (fun r_1 I_1 R_1 J_1 H locs hp_1 hP hD hS _ _ => ?_)
  obtain ⟨hr_1, hu_1⟩ := hp_1
  cases hu_1
  refine lv_iconst (v := nI 5) hx hb dX8_keep_23 (by decide +kernel) ?_
  refine lv_iadd hx hb dX8_keep_24 ?_
  refine z_addc 5 68 hr_1 zk_5 (by decide) (fun v_2 hv_2 mv_2 => ?_)
  refine lv_iload_n hx hb dX8_keep_25 rfl (lv_at hl 1 rfl) ?_
  refine lv_isub hx hb dX8_keep_26 ?_
  refine z_subc 4 67 (-1) hv_2 zk_1 (by decide) (fun v_3 hv_3 mv_3 => ?_)
  refine lv_aload_n hx hb dX8_keep_27 rfl (lv_at hl 0 rfl) ?_
  refine z_get hx hb ht hown hK hP ziX8 rfl 39 (by decide) 5 (by decide) hw_1_234 rfl (v := .int (I 39 5)) rfl dX8_keep_28 ?_
  refine z_callSi (As := [.int (I 39 5)]) (rest := [.int (v_3)]) hx hb hml hown ht (xk_J6_bitCount_0f7a4 l D q cA F _ _ _ hI (I 39 5)) hw_4_98 hmJ6_bitCount_0f7a4 ⟨rfl, rfl⟩ (na := 1) rfl (by decide +kernel) (by decide) hK hP hD hS hA hl.1 rfl (Nat.le_of_ble_eq_true rfl) ⟨Nat.zero_le _, Nat.zero_le _⟩ dX8_keep_31 (fun r_4 I_4 R_4 J_4 H locs hp_4 hP hD hS _ _ => ?_)
  obtain ⟨hr_4, hu_4⟩ := hp_4
  cases hu_4
  refine lv_icmp_ge (tgt := 38) hx hb dX8_keep_34 (by decide) (fun c_5 => ?_) (fun c_5 => ?_)
  · have t_c_5 := z_leT c_5
    refine lv_iconst (v := nI 0) hx hb dX8_keep_38 (by decide +kernel) ?_
    refine lv_istore_n (lv' := [(3, .int (nI 0)), (0, .ref (q 39)), (1, .int (nI 1)), (2, .int (pa1))]) hx hb dX8_keep_39 rfl hl (by decide) rfl (fun ls hl => ?_)
    have loop_70 : ∀ N : Nat, ∀ x_68 : Int32, zR 0 5 x_68 → ∀ I_69 : Nat → Nat → Int32, ∀ R_69 : Nat → Nat → Int32, ∀ J_69 : Nat → Nat → Int64, xInv F (I_69, R_69, J_69) → (2147483648 - (x_68).toInt).toNat < N → ∀ (H : Heap) (locs : List Loc), va_P D vwCl (zw 81 q (zXd q cA) I_69 R_69 J_69) H → va_D (zA 81 q sz) (zw 81 q (zXd q cA) I_69 R_69 J_69) → va_S (zA 81 q sz) s.heap H locs → ∀ ls : Array Slot, lv_has ls 5 [(0, .ref (q 39)), (1, .int (nI 1)), (2, .int (pa1)), (3, .int (x_68))] → W p l e ({ frames := 6, cells := 0, slots := 0, locals := 138 } : Room) s m ([.ref (q 39), .int (nI 1), .int (pa1)] : List Value).toArray below meth c H locs 0 0 (MQ below (va_Qv (fun u => xInv F u) (zB D vwCl 81 q (zXd q cA) sz) (zA 81 q sz)) ([.ref (q 39), .int (nI 1), .int (pa1)] : List Value).toArray s 0 0 (zA 81 q sz)) (F0 m 40 ls []) := by
      intro N
      induction N with
      | zero => intro x_68 hx_68 I_69 R_69 J_69 hI_69 hN; exact absurd hN (Nat.not_lt_zero _)
      | succ N ih_72 =>
        intro x_68 hx_68 I_69 R_69 J_69 hI_69 hN_71 H locs hP hD hS ls hl
        refine lv_iload_n hx hb dX8_keep_40 rfl (lv_at hl 3 rfl) ?_
        refine lv_iconst (v := nI 5) hx hb dX8_keep_41 (by decide +kernel) ?_
        refine lv_icmp_ge (tgt := 105) hx hb dX8_keep_42 (by decide) (fun c_73 => ?_) (fun c_73 => ?_)
        · have t_c_73 := z_leT c_73
          have f_89 : zR 5 5 (x_68) := zR_ley t_c_73 zk_5 hx_68 (by decide)
          refine lv_aload_n hx hb dX8_keep_105 rfl (lv_at hl 0 rfl) ?_
          refine lv_iload_n hx hb dX8_keep_106 rfl (lv_at hl 1 rfl) ?_
          refine lv_iconst (v := nI 1) hx hb dX8_keep_107 (by decide +kernel) ?_
          refine lv_iadd hx hb dX8_keep_108 ?_
          refine z_eqi (y := nI 2) (by decide +kernel) ?_
          refine lv_iload_n hx hb dX8_keep_109 rfl (lv_at hl 2 rfl) ?_
          refine z_callVv (k := 39) (As := [.int (nI 2), .int (pa1)]) (rest := []) hx hb hml hown ht (xk_X8_keep_2 l D q cA F _ _ _ hI_69 (pa1)) hw_4_90 hmX8_keep ⟨rfl, rfl⟩ (na := 2) rfl (by decide +kernel) (by decide) (by decide) rfl rfl hK hP hD hS hA hl.1 rfl (Nat.le_of_ble_eq_true rfl) ⟨Nat.zero_le _, Nat.zero_le _⟩ dX8_keep_110 (fun I_90 R_90 J_90 H locs hp_90 hP hD hS _ _ => ?_)
          exact z_vret hx hb hr hlocks hP hD hS dX8_keep_113 hp_90
        · have t_c_73 := z_leF c_73
          have f_91 : zR 0 4 (x_68) := zR_ltx t_c_73 hx_68 zk_5 (by decide)
          refine lv_aload_n hx hb dX8_keep_45 rfl (lv_at hl 0 rfl) ?_
          refine z_get hx hb ht hown hK hP ziX8 rfl 39 (by decide) 3 (by decide) hw_1_232 rfl (v := .ref (q 41)) rfl dX8_keep_46 ?_
          refine lv_iload_n hx hb dX8_keep_49 rfl (lv_at hl 1 rfl) ?_
          refine lv_iconst (v := nI 5) hx hb dX8_keep_50 (by decide +kernel) ?_
          refine lv_imul hx hb dX8_keep_51 ?_
          refine z_eqi (y := nI 5) (by decide +kernel) ?_
          refine lv_iload_n hx hb dX8_keep_52 rfl (lv_at hl 3 rfl) ?_
          refine lv_iadd hx hb dX8_keep_53 ?_
          refine z_cadd 5 9 zk_5 f_91 (by decide) (fun v_92 hv_92 mv_92 => ?_)
          refine z_iald hx hb hK hP 41 (by decide) 33 rfl rfl (zR_vin hv_92 (by decide)) dX8_keep_54 ?_
          refine z_eqi (y := R_69 41 (v_92).toNatClampNeg) rfl ?_
          have f_93 : zR (-1) 23 (R_69 41 (v_92).toNatClampNeg) := xR hI_69 41 (v_92).toNatClampNeg
          refine lv_istore (lv' := [(4, .int (R_69 41 (v_92).toNatClampNeg)), (0, .ref (q 39)), (1, .int (nI 1)), (2, .int (pa1)), (3, .int (x_68))]) hx hb dX8_keep_55 hl (by decide) rfl (fun ls hl => ?_)
          refine lv_iload hx hb dX8_keep_57 (lv_at hl 0 rfl) ?_
          refine lv_iconst (v := (-1)) hx hb dX8_keep_59 (by decide +kernel) ?_
          have t_104 : ∀ I_103 : Nat → Nat → Int32, ∀ R_103 : Nat → Nat → Int32, ∀ J_103 : Nat → Nat → Int64, xInv F (I_103, R_103, J_103) → ∀ (H : Heap) (locs : List Loc), va_P D vwCl (zw 81 q (zXd q cA) I_103 R_103 J_103) H → va_D (zA 81 q sz) (zw 81 q (zXd q cA) I_103 R_103 J_103) → va_S (zA 81 q sz) s.heap H locs → ∀ ls : Array Slot, lv_has ls 5 [(0, .ref (q 39)), (1, .int (nI 1)), (2, .int (pa1)), (3, .int (x_68)), (4, .int (R_69 41 (v_92).toNatClampNeg))] → W p l e ({ frames := 6, cells := 0, slots := 0, locals := 138 } : Room) s m ([.ref (q 39), .int (nI 1), .int (pa1)] : List Value).toArray below meth c H locs 0 0 (MQ below (va_Qv (fun u => xInv F u) (zB D vwCl 81 q (zXd q cA) sz) (zA 81 q sz)) ([.ref (q 39), .int (nI 1), .int (pa1)] : List Value).toArray s 0 0 (zA 81 q sz)) (F0 m 99 ls []) := by
            intro I_103 R_103 J_103 hI_103 H locs hP hD hS ls hl
            obtain ⟨v_105, ev_105⟩ : ∃ y : Int32, y = x_68 + nI 1 := ⟨_, rfl⟩
            have hv_105 : zR 1 5 v_105 := ev_105 ▸ zR_add f_91 zk_1 (by decide)
            have mv_105 : v_105.toInt = (x_68).toInt + 1 := by rw [ev_105, zR_addE f_91 zk_1 (by decide)]; rfl
            refine lv_iinc (v := v_105) (lv' := [(3, .int (v_105)), (0, .ref (q 39)), (1, .int (nI 1)), (2, .int (pa1)), (4, .int (R_69 41 (v_92).toNatClampNeg))]) hx hb dX8_keep_99 hl (k := 3) rfl (ev_105 ▸ rfl) (by decide) rfl (fun ls hl => ?_)
            refine lv_goto (tgt := 40) hx hb dX8_keep_102 (by decide) ?_
            exact ih_72 (v_105) (zR_w hv_105 (by decide)) _ _ _ hI_103 (z2_up mv_105 (by decide) hN_71) _ _ hP hD hS _ (lv_sub hl [1, 2, 3, 0] rfl)
          refine lv_icmp_eq (tgt := 99) hx hb dX8_keep_60 (by decide) (fun c_94 => ?_) (fun c_94 => ?_)
          · have t_c_94 := z_eqT c_94
            have f_106 : zR (-1) (-1) (R_69 41 (v_92).toNatClampNeg) := zR_eqx t_c_94 zk_m1
            exact t_104 _ _ _ hI_69 _ _ hP hD hS _ (lv_sub hl [1, 2, 3, 4, 0] rfl)
          · have t_c_94 := z_eqF c_94
            have f_107 : zR 0 23 (R_69 41 (v_92).toNatClampNeg) := zR_nex t_c_94 f_93 zk_m1 (by decide)
            refine lv_aload_n hx hb dX8_keep_63 rfl (lv_at hl 1 rfl) ?_
            refine lv_iload_n hx hb dX8_keep_64 rfl (lv_at hl 4 rfl) ?_
            refine lv_iload_n hx hb dX8_keep_65 rfl (lv_at hl 2 rfl) ?_
            refine z_callVi (k := 39) (As := [.int (x_68), .int (nI 1)]) (rest := []) hx hb hml hown ht (xk_X8_leads_7 l D q cA F _ _ _ hI_69 (x_68) f_91 (nI 1) (zR_w zk_1 (by decide))) hw_4_99 hmX8_leads ⟨rfl, rfl⟩ (na := 2) rfl (by decide +kernel) (by decide) (by decide) rfl rfl hK hP hD hS hA hl.1 rfl (Nat.le_of_ble_eq_true rfl) ⟨Nat.zero_le _, Nat.zero_le _⟩ dX8_keep_66 (fun r_108 I_108 R_108 J_108 H locs hp_108 hP hD hS _ _ => ?_)
            rcases hp_108 with ⟨rfl, hu_108⟩ | ⟨rfl, hu_108⟩
            · cases hu_108
              refine lv_if_ne (tgt := 99) hx hb dX8_keep_69 (by decide) (fun _ => ?_) (fun c_0 => absurd c_0 (zD_ne zk_1 zk_z (by decide)))
              exact t_104 _ _ _ hI_69 _ _ hP hD hS _ (lv_sub hl [1, 2, 3, 4, 0] rfl)
            · cases hu_108
              refine lv_if_ne (tgt := 99) hx hb dX8_keep_69 (by decide) (fun c_0 => absurd (zD_eq zk_0 zk_z) c_0) (fun _ => ?_)
              refine lv_aload_n hx hb dX8_keep_72 rfl (lv_at hl 1 rfl) ?_
              refine z_get hx hb ht hown hK hP ziX8 rfl 39 (by decide) 4 (by decide) hw_1_233 rfl (v := .ref (q 42)) rfl dX8_keep_73 ?_
              refine lv_iload_n hx hb dX8_keep_76 rfl (lv_at hl 2 rfl) ?_
              refine lv_iload_n hx hb dX8_keep_77 rfl (lv_at hl 4 rfl) ?_
              refine z_iast hx hb hK hP hD hS 42 (by decide) 34 (fun _ => rfl) rfl (zR_vin zk_1 (by decide)) dX8_keep_78 (fun H locs hP hD hS => ?_)
              have hI_109 := xInv_R hI_69 42 (nI 1).toNatClampNeg (x_68) (show zR (-1) 4 (x_68) from zR_w f_91 (by decide)) rfl
              refine lv_aload_n hx hb dX8_keep_79 rfl (lv_at hl 1 rfl) ?_
              refine lv_iload_n hx hb dX8_keep_80 rfl (lv_at hl 2 rfl) ?_
              refine lv_iconst (v := nI 1) hx hb dX8_keep_81 (by decide +kernel) ?_
              refine lv_iadd hx hb dX8_keep_82 ?_
              refine z_eqi (y := nI 2) (by decide +kernel) ?_
              refine lv_iload_n hx hb dX8_keep_83 rfl (lv_at hl 3 rfl) ?_
              refine lv_iconst (v := nI 1) hx hb dX8_keep_84 (by decide +kernel) ?_
              refine lv_iload hx hb dX8_keep_85 (lv_at hl 0 rfl) ?_
              refine lv_ishl hx hb dX8_keep_87 ?_
              refine z_rng (a := 1) (b := 8388608) (zR_shl1 23 f_107 (by decide)) (fun v_110 hv_110 => ?_)
              refine lv_ior hx hb dX8_keep_88 ?_
              refine z_any (fun v_111 => ?_)
              refine z_callVv (k := 39) (As := [.int (nI 2), .int (v_111)]) (rest := []) hx hb hml hown ht (xk_X8_keep_2 l D q cA F _ _ _ hI_109 (v_111)) hw_4_90 hmX8_keep ⟨rfl, rfl⟩ (na := 2) rfl (by decide +kernel) (by decide) (by decide) rfl rfl hK hP hD hS hA hl.1 rfl (Nat.le_of_ble_eq_true rfl) ⟨Nat.zero_le _, Nat.zero_le _⟩ dX8_keep_89 (fun I_112 R_112 J_112 H locs hp_112 hP hD hS _ _ => ?_)
              refine lv_aload_n hx hb dX8_keep_92 rfl (lv_at hl 1 rfl) ?_
              refine z_get hx hb ht hown hK hP ziX8 rfl 39 (by decide) 4 (by decide) hw_1_233 rfl (v := .ref (q 42)) rfl dX8_keep_93 ?_
              refine lv_iload_n hx hb dX8_keep_96 rfl (lv_at hl 2 rfl) ?_
              refine lv_iconst (v := (-1)) hx hb dX8_keep_97 (by decide +kernel) ?_
              refine z_iast hx hb hK hP hD hS 42 (by decide) 34 (fun _ => rfl) rfl (zR_vin zk_1 (by decide)) dX8_keep_98 (fun H locs hP hD hS => ?_)
              have hI_113 := xInv_R hp_112 42 (nI 1).toNatClampNeg ((-1)) (show zR (-1) 4 ((-1)) from zR_w zk_m1 (by decide)) rfl
              exact t_104 _ _ _ hI_113 _ _ hP hD hS _ (lv_sub hl [1, 2, 3, 4, 0] rfl)
    exact loop_70 _ (nI 0) (zR_w zk_0 (by decide)) _ _ _ hI (Nat.lt_succ_self _) _ _ hP hD hS _ (lv_sub hl [1, 2, 3, 0] rfl)
  · have t_c_5 := z_leF c_5
    have f_114 : zR 4 62 (v_3) := zR_ltx t_c_5 hv_3 hr_4 (by decide)
    have f_115 : zR 5 63 (v_2) := zR_shift mv_3 f_114 (by decide)
    have f_116 : zR 5 63 (r_4) := zR_lty t_c_5 hv_3 hr_4 (by decide)
    exact z_vret hx hb hr hlocks hP hD hS dX8_keep_37 hI
set_option maxHeartbeats 4000000 in
set_option maxRecDepth 100000 in
theorem xk_X8_isBetter_1 (l : Launch) (D : va_G) (q : Nat → Nat) (cA : Nat → ClassId) (F : Nat → Nat → Int32) (I R : Nat → Nat → Int32) (J : Nat → Nat → Int64) (hI : xInv F (I, R, J)) (pa0 : Int32) (hpa0 : zR 0 1 pa0) : zMi l D vwCl (zXtys cA) 81 q (zXd q cA) yX8_isBetter cX8_isBetter 3 (some .boolean) ({ frames := 1, cells := 0, slots := 0, locals := 20 } : Room) [.ref (q 39), .int (pa0)] (I, R, J) (fun r u => (r = nI 1 ∧ u = (I, R, J)) ∨ (r = nI 0 ∧ u = (I, R, J))) := by
  intro sz
  refine z_body (by decide +kernel) (Nat.le_of_ble_eq_true rfl) (fun p e s m below meth c ls hx hb hml hr ht hown hlocks hsz hK hP hD hS hl => ?_)
  have hA : ∀ a, s.heap.size ≤ a → zA 81 q sz a := fun a h => Or.inr (hsz ▸ h)
  have hl : lv_has ls 3 [(0, .ref (q 39)), (1, .int (pa0))] := hl
  refine lv_iload_n hx hb dX8_isBetter_0 rfl (lv_at hl 1 rfl) ?_
  refine z_callSi (As := [.int (pa0)]) (rest := []) hx hb hml hown ht (xk_J6_bitCount_0f7a4_1 l D q cA F _ _ _ hI (pa0) hpa0) hw_4_98 hmJ6_bitCount_0f7a4 ⟨rfl, rfl⟩ (na := 1) rfl (by decide +kernel) (by decide) hK hP hD hS hA hl.1 rfl (Nat.le_of_ble_eq_true rfl) ⟨Nat.zero_le _, Nat.zero_le _⟩ dX8_isBetter_1 (fun r_1 I_1 R_1 J_1 H locs hp_1 hP hD hS _ _ => ?_)
  obtain ⟨hr_1, hu_1⟩ := hp_1
  cases hu_1
  refine lv_aload_n hx hb dX8_isBetter_4 rfl (lv_at hl 0 rfl) ?_
  refine z_get hx hb ht hown hK hP ziX8 rfl 39 (by decide) 5 (by decide) hw_1_234 rfl (v := .int (I 39 5)) rfl dX8_isBetter_5 ?_
  refine z_callSi (As := [.int (I 39 5)]) (rest := [.int (r_1)]) hx hb hml hown ht (xk_J6_bitCount_0f7a4 l D q cA F _ _ _ hI (I 39 5)) hw_4_98 hmJ6_bitCount_0f7a4 ⟨rfl, rfl⟩ (na := 1) rfl (by decide +kernel) (by decide) hK hP hD hS hA hl.1 rfl (Nat.le_of_ble_eq_true rfl) ⟨Nat.zero_le _, Nat.zero_le _⟩ dX8_isBetter_8 (fun r_2 I_2 R_2 J_2 H locs hp_2 hP hD hS _ _ => ?_)
  obtain ⟨hr_2, hu_2⟩ := hp_2
  cases hu_2
  refine lv_isub hx hb dX8_isBetter_11 ?_
  refine z_rng (a := (-63)) (b := 63) (zR_sub hr_1 hr_2 (by decide)) (fun v_3 hv_3 => ?_)
  refine lv_istore_n (lv' := [(2, .int (v_3)), (0, .ref (q 39)), (1, .int (pa0))]) hx hb dX8_isBetter_12 rfl hl (by decide) rfl (fun ls hl => ?_)
  refine lv_iload_n hx hb dX8_isBetter_13 rfl (lv_at hl 0 rfl) ?_
  refine lv_if_gt (tgt := 29) hx hb dX8_isBetter_14 (by decide) (fun c_4 => ?_) (fun c_4 => ?_)
  · have t_c_4 := z_ltT c_4
    have f_5 : zR 1 63 (v_3) := zR_lty t_c_4 zk_z hv_3 (by decide)
    refine lv_iconst (v := nI 1) hx hb dX8_isBetter_29 (by decide +kernel) ?_
    refine lv_goto (tgt := 34) hx hb dX8_isBetter_30 (by decide) ?_
    exact z_zret (v := nI 1) hx hb hr hlocks hP hD hS (by decide +kernel) dX8_isBetter_34 (Or.inl ⟨rfl, rfl⟩)
  · have t_c_4 := z_ltF c_4
    have f_6 : zR (-63) 0 (v_3) := zR_lex t_c_4 hv_3 zk_z (by decide)
    refine lv_iload_n hx hb dX8_isBetter_17 rfl (lv_at hl 0 rfl) ?_
    refine lv_if_ne (tgt := 33) hx hb dX8_isBetter_18 (by decide) (fun c_7 => ?_) (fun c_7 => ?_)
    · have t_c_7 := z_eqF c_7
      have f_8 : zR (-63) (-1) (v_3) := zR_nex t_c_7 f_6 zk_z (by decide)
      refine lv_iconst (v := nI 0) hx hb dX8_isBetter_33 (by decide +kernel) ?_
      exact z_zret (v := nI 0) hx hb hr hlocks hP hD hS (by decide +kernel) dX8_isBetter_34 (Or.inr ⟨rfl, rfl⟩)
    · have t_c_7 := z_eqT c_7
      have f_9 : zR 0 0 (v_3) := zR_eqx t_c_7 zk_z
      refine lv_iload_n hx hb dX8_isBetter_21 rfl (lv_at hl 2 rfl) ?_
      refine lv_aload_n hx hb dX8_isBetter_22 rfl (lv_at hl 1 rfl) ?_
      refine z_get hx hb ht hown hK hP ziX8 rfl 39 (by decide) 5 (by decide) hw_1_234 rfl (v := .int (I 39 5)) rfl dX8_isBetter_23 ?_
      refine lv_icmp_le (tgt := 33) hx hb dX8_isBetter_26 (by decide) (fun c_10 => ?_) (fun c_10 => ?_)
      · have t_c_10 := z_leT c_10
        have f_11 : zR 0 2147483647 (I 39 5) := zR_ley t_c_10 hpa0 (zR_any (I 39 5)) (by decide)
        refine lv_iconst (v := nI 0) hx hb dX8_isBetter_33 (by decide +kernel) ?_
        exact z_zret (v := nI 0) hx hb hr hlocks hP hD hS (by decide +kernel) dX8_isBetter_34 (Or.inr ⟨rfl, rfl⟩)
      · have t_c_10 := z_leF c_10
        have f_12 : zR (-2147483648) 0 (I 39 5) := zR_ltx t_c_10 (zR_any (I 39 5)) hpa0 (by decide)
        refine lv_iconst (v := nI 1) hx hb dX8_isBetter_29 (by decide +kernel) ?_
        refine lv_goto (tgt := 34) hx hb dX8_isBetter_30 (by decide) ?_
        exact z_zret (v := nI 1) hx hb hr hlocks hP hD hS (by decide +kernel) dX8_isBetter_34 (Or.inl ⟨rfl, rfl⟩)
set_option maxHeartbeats 4000000 in
set_option maxRecDepth 100000 in
theorem xk_X8_keep_10 (l : Launch) (D : va_G) (q : Nat → Nat) (cA : Nat → ClassId) (F : Nat → Nat → Int32) (I R : Nat → Nat → Int32) (J : Nat → Nat → Int64) (hI : xInv F (I, R, J)) (pa1 : Int32) (hpa1 : zR 0 1 pa1) : zMv l D vwCl (zXtys cA) 81 q (zXd q cA) yX8_keep cX8_keep 5 none ({ frames := 2, cells := 0, slots := 0, locals := 42 } : Room) [.ref (q 39), .int (nI 5), .int (pa1)] (I, R, J) (fun u => xInv F u) := by
  intro sz
  refine z_body (by decide +kernel) (Nat.le_of_ble_eq_true rfl) (fun p e s m below meth c ls hx hb hml hr ht hown hlocks hsz hK hP hD hS hl => ?_)
  have hA : ∀ a, s.heap.size ≤ a → zA 81 q sz a := fun a h => Or.inr (hsz ▸ h)
  have hl : lv_has ls 5 [(0, .ref (q 39)), (1, .int (nI 5)), (2, .int (pa1))] := hl
  refine lv_iload_n hx hb dX8_keep_0 rfl (lv_at hl 1 rfl) ?_
  refine lv_iconst (v := nI 5) hx hb dX8_keep_1 (by decide +kernel) ?_
  refine lv_icmp_lt (tgt := 19) hx hb dX8_keep_2 (by decide) (fun c_0 => absurd c_0 (zD_nlt zk_5 zk_5 (by decide))) (fun _ => ?_)
  refine lv_aload_n hx hb dX8_keep_5 rfl (lv_at hl 0 rfl) ?_
  refine lv_iload_n hx hb dX8_keep_6 rfl (lv_at hl 2 rfl) ?_
  refine z_callVi (k := 39) (As := [.int (pa1)]) (rest := []) hx hb hml hown ht (xk_X8_isBetter_1 l D q cA F _ _ _ hI (pa1) hpa1) hw_4_94 hmX8_isBetter ⟨rfl, rfl⟩ (na := 1) rfl (by decide +kernel) (by decide) (by decide) rfl rfl hK hP hD hS hA hl.1 rfl (Nat.le_of_ble_eq_true rfl) ⟨Nat.zero_le _, Nat.zero_le _⟩ dX8_keep_7 (fun r_1 I_1 R_1 J_1 H locs hp_1 hP hD hS _ _ => ?_)
  rcases hp_1 with ⟨rfl, hu_1⟩ | ⟨rfl, hu_1⟩
  · cases hu_1
    refine lv_if_eq (tgt := 18) hx hb dX8_keep_10 (by decide) (fun c_0 => absurd c_0 (zD_ne zk_1 zk_z (by decide))) (fun _ => ?_)
    refine lv_aload_n hx hb dX8_keep_13 rfl (lv_at hl 0 rfl) ?_
    refine lv_iload_n hx hb dX8_keep_14 rfl (lv_at hl 2 rfl) ?_
    refine z_putI hx hb ht hown hK hP hD hS ziX8 tyX8 tyX8_ok nmX8 rfl 39 (by decide) 5 (by decide) hw_1_234 rfl (v := pa1) rfl rfl rfl (Nat.le_of_ble_eq_true rfl) rfl dX8_keep_15 (fun H locs hP hD hS => ?_)
    have hI_2 := xInv_I hI 39 5 (pa1) (zR_any (pa1)) rfl
    exact z_vret hx hb hr hlocks hP hD hS dX8_keep_18 hI_2
  · cases hu_1
    refine lv_if_eq (tgt := 18) hx hb dX8_keep_10 (by decide) (fun _ => ?_) (fun c_0 => absurd (zD_eq zk_0 zk_z) c_0)
    exact z_vret hx hb hr hlocks hP hD hS dX8_keep_18 hI
