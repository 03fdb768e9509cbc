set_option maxHeartbeats 4000000 in
set_option maxRecDepth 100000 in
theorem mk_X11_needs_ (l : Launch) (D : va_G) (q : Nat → Nat) (cA : Nat → ClassId) (F : Nat → Nat → Int32) (I R : Nat → Nat → Int32) (J : Nat → Nat → Int64) (hI : mInv F (I, R, J)) (pa0 : Int32) : zMi l D vwCl (zMtys cA) 25 q (zMd q cA) yX11_needs_ cX11_needs_ 3 (some .int) ({ frames := 6, cells := 0, slots := 0, locals := 155 } : Room) [.ref (q 0), .int (pa0)] (I, R, J) (fun _ u => (mInv F u ∧ u.2.2 = J)) := by
  intro sz
  refine z_body (by decide +kernel) (Nat.le_of_ble_eq_true rfl) (fun p e s m below meth c ls hx hb hml hr ht hown hlocks hsz hK hP hD hS hl => ?_)
  have hA : ∀ a, s.heap.size ≤ a → zA 25 q sz a := fun a h => Or.inr (hsz ▸ h)
  have hl : lv_has ls 3 [(0, .ref (q 0)), (1, .int (pa0))] := hl
  refine lv_aload_n hx hb dX11_needs__0 rfl (lv_at hl 0 rfl) ?_
  refine lv_iload_n hx hb dX11_needs__1 rfl (lv_at hl 1 rfl) ?_
  refine lv_i2l (v := (pa0).toInt64) hx hb dX11_needs__2 rfl ?_
  refine z_callVi (k := 0) (As := [.long ((pa0).toInt64)]) (rest := []) hx hb hml hown ht (mk_X11_isHouse l D q cA F _ _ _ hI ((pa0).toInt64) (zR_i2l (zR_any (pa0)))) hw_6_176 hmX11_isHouse ⟨rfl, rfl⟩ (na := 1) rfl (by decide +kernel) (by decide) (by decide) rfl rfl hK hP hD hS hA hl.1 rfl (Nat.le_of_ble_eq_true rfl) ⟨Nat.zero_le _, Nat.zero_le _⟩ dX11_needs__3 (fun r_1 I_1 R_1 J_1 H locs hp_1 hP hD hS _ _ => ?_)
  rcases hp_1 with ⟨rfl, hu_1, f0_1⟩ | ⟨rfl, hu_1⟩
  · cases hu_1
    have f_2 : zR 0 4 (pa0) := zL_back f0_1
    refine lv_if_ne (tgt := 12) hx hb dX11_needs__6 (by decide) (fun _ => ?_) (fun c_0 => absurd c_0 (zD_ne zk_1 zk_z (by decide)))
    refine lv_aload_n hx hb dX11_needs__12 rfl (lv_at hl 0 rfl) ?_
    refine z_callVv (k := 0) (As := []) (rest := []) hx hb hml hown ht (mk_X11_asItIs l D q cA F _ _ _ hI ) hw_6_181 hmX11_asItIs ⟨rfl, rfl⟩ (na := 0) rfl (by decide +kernel) (by decide) (by decide) rfl rfl hK hP hD hS hA hl.1 rfl (Nat.le_of_ble_eq_true rfl) ⟨Nat.zero_le _, Nat.zero_le _⟩ dX11_needs__13 (fun I_3 R_3 J_3 H locs hp_3 hP hD hS _ _ => ?_)
    obtain ⟨hv_3, hj_3, hs_3⟩ := hp_3
    try dsimp only at hj_3
    subst J_3
    refine lv_aload_n hx hb dX11_needs__16 rfl (lv_at hl 0 rfl) ?_
    refine z_get hx hb ht hown hK hP ziX11 rfl 0 (by decide) 15 (by decide) hw_5_202 rfl (v := .ref (q 7)) rfl dX11_needs__17 ?_
    refine lv_iload_n hx hb dX11_needs__20 rfl (lv_at hl 1 rfl) ?_
    refine lv_ldcw (v := nI 100000) hx hb hown (ht _ hw_7_192) dX11_needs__21 ?_
    refine z_iast hx hb hK hP hD hS 7 (by decide) 6 (fun _ => rfl) rfl (zR_vin f_2 (by decide)) dX11_needs__24 (fun H locs hP hD hS => ?_)
    have hI_4 := mInv_R hv_3 7 (pa0).toNatClampNeg (nI 100000) (zR_any _) rfl
    refine lv_aload_n hx hb dX11_needs__25 rfl (lv_at hl 0 rfl) ?_
    refine lv_iload_n hx hb dX11_needs__26 rfl (lv_at hl 1 rfl) ?_
    refine z_putI hx hb ht hown hK hP hD hS ziX11 tyX11 tyX11_ok nmX11 rfl 0 (by decide) 29 (by decide) hw_5_216 rfl (v := pa0) rfl rfl rfl (Nat.le_of_ble_eq_true rfl) rfl dX11_needs__27 (fun H locs hP hD hS => ?_)
    have hI_5 := mInv_I hI_4 0 29 (pa0) (zR_any (pa0)) rfl
    refine lv_aload_n hx hb dX11_needs__30 rfl (lv_at hl 0 rfl) ?_
    refine lv_ldcw (v := nI 100000) hx hb hown (ht _ hw_7_192) dX11_needs__31 ?_
    refine z_putI hx hb ht hown hK hP hD hS ziX11 tyX11 tyX11_ok nmX11 rfl 0 (by decide) 28 (by decide) hw_5_215 rfl (v := nI 100000) rfl rfl rfl (Nat.le_of_ble_eq_true rfl) rfl dX11_needs__34 (fun H locs hP hD hS => ?_)
    have hI_6 := mInv_I hI_5 0 28 (nI 100000) (zR_any (nI 100000)) rfl
    refine lv_iconst (v := nI 0) hx hb dX11_needs__37 (by decide +kernel) ?_
    refine lv_istore_n (lv' := [(2, .int (nI 0)), (0, .ref (q 0)), (1, .int (pa0))]) hx hb dX11_needs__38 rfl hl (by decide) rfl (fun ls hl => ?_)
    have loop_28 : ∀ N : Nat, ∀ x_26 : Int32, zR 0 60 x_26 → ∀ I_27 : Nat → Nat → Int32, ∀ R_27 : Nat → Nat → Int32, mInv F (I_27, R_27, J) → (2147483648 - (x_26).toInt).toNat < N → ∀ (H : Heap) (locs : List Loc), va_P D vwCl (zw 25 q (zMd q cA) I_27 R_27 J) H → va_D (zA 25 q sz) (zw 25 q (zMd q cA) I_27 R_27 J) → va_S (zA 25 q sz) s.heap H locs → ∀ ls : Array Slot, lv_has ls 3 [(0, .ref (q 0)), (1, .int (pa0)), (2, .int (x_26))] → W p l e ({ frames := 6, cells := 0, slots := 0, locals := 155 } : Room) s m ([.ref (q 0), .int (pa0)] : List Value).toArray below meth c H locs 0 0 (MQ below (va_Qi (fun _ u => (mInv F u ∧ u.2.2 = J)) (zB D vwCl 25 q (zMd q cA) sz) (zA 25 q sz)) ([.ref (q 0), .int (pa0)] : List Value).toArray s 0 0 (zA 25 q sz)) (F0 m 39 ls []) := by
      intro N
      induction N with
      | zero => intro x_26 hx_26 I_27 R_27 hI_27 hN; exact absurd hN (Nat.not_lt_zero _)
      | succ N ih_30 =>
        intro x_26 hx_26 I_27 R_27 hI_27 hN_29 H locs hP hD hS ls hl
        refine lv_iload_n hx hb dX11_needs__39 rfl (lv_at hl 2 rfl) ?_
        refine lv_bipush (v := nI 60) hx hb dX11_needs__40 (by decide +kernel) ?_
        refine lv_icmp_ge (tgt := 56) hx hb dX11_needs__42 (by decide) (fun c_31 => ?_) (fun c_31 => ?_)
        · have t_c_31 := z_leT c_31
          have f_36 : zR 60 60 (x_26) := zR_ley t_c_31 zk_60 hx_26 (by decide)
          refine lv_ldcw (v := nI 100000) hx hb hown (ht _ hw_7_192) dX11_needs__56 ?_
          refine lv_aload_n hx hb dX11_needs__59 rfl (lv_at hl 0 rfl) ?_
          refine z_get hx hb ht hown hK hP ziX11 rfl 0 (by decide) 28 (by decide) hw_5_215 rfl (v := .int (I_27 0 28)) rfl dX11_needs__60 ?_
          refine lv_isub hx hb dX11_needs__63 ?_
          refine z_any (fun v_37 => ?_)
          exact z_iret (v := v_37) hx hb hr hlocks hP hD hS dX11_needs__64 ⟨hI_27, rfl⟩
        · have t_c_31 := z_leF c_31
          have f_38 : zR 0 59 (x_26) := zR_ltx t_c_31 hx_26 zk_60 (by decide)
          refine lv_aload_n hx hb dX11_needs__45 rfl (lv_at hl 0 rfl) ?_
          refine z_callVi (k := 0) (As := []) (rest := []) hx hb hml hown ht (mk_X11_night0 l D q cA F _ _ _ hI_27 ) hw_6_222 hmX11_night0 ⟨rfl, rfl⟩ (na := 0) rfl (by decide +kernel) (by decide) (by decide) rfl rfl hK hP hD hS hA hl.1 rfl (Nat.le_of_ble_eq_true rfl) ⟨Nat.zero_le _, Nat.zero_le _⟩ dX11_needs__46 (fun r_39 I_39 R_39 J_39 H locs hp_39 hP hD hS _ _ => ?_)
          obtain ⟨hv_39, hj_39, hk26_39⟩ := hp_39
          try dsimp only at hj_39
          subst J_39
          refine lv_pop hx hb dX11_needs__49 rfl ?_
          obtain ⟨v_40, ev_40⟩ : ∃ y : Int32, y = x_26 + nI 1 := ⟨_, rfl⟩
          have hv_40 : zR 1 60 v_40 := ev_40 ▸ zR_add f_38 zk_1 (by decide)
          have mv_40 : v_40.toInt = (x_26).toInt + 1 := by rw [ev_40, zR_addE f_38 zk_1 (by decide)]; rfl
          refine lv_iinc (v := v_40) (lv' := [(2, .int (v_40)), (0, .ref (q 0)), (1, .int (pa0))]) hx hb dX11_needs__50 hl (k := 2) rfl (ev_40 ▸ rfl) (by decide) rfl (fun ls hl => ?_)
          refine lv_goto (tgt := 39) hx hb dX11_needs__53 (by decide) ?_
          exact ih_30 (v_40) (zR_w hv_40 (by decide)) _ _ hv_39 (z2_up mv_40 (by decide) hN_29) _ _ hP hD hS _ (lv_sub hl [1, 2, 0] rfl)
    exact loop_28 _ (nI 0) (zR_w zk_0 (by decide)) _ _ hI_6 (Nat.lt_succ_self _) _ _ hP hD hS _ (lv_sub hl [1, 2, 0] rfl)
  · cases hu_1
    refine lv_if_ne (tgt := 12) hx hb dX11_needs__6 (by decide) (fun c_0 => absurd (zD_eq zk_0 zk_z) c_0) (fun _ => ?_)
    refine lv_bipush (v := (-2)) hx hb dX11_needs__9 (by decide +kernel) ?_
    exact z_iret (v := (-2)) hx hb hr hlocks hP hD hS dX11_needs__11 ⟨hI, rfl⟩
set_option maxHeartbeats 4000000 in
set_option maxRecDepth 100000 in
theorem mk_X11_areNights (l : Launch) (D : va_G) (q : Nat → Nat) (cA : Nat → ClassId) (F : Nat → Nat → Int32) (I R : Nat → Nat → Int32) (J : Nat → Nat → Int64) (hI : mInv F (I, R, J)) (pa0 : Int32) : zMi l D vwCl (zMtys cA) 25 q (zMd q cA) yX11_areNights cX11_areNights 1 (some .boolean) ({ frames := 1, cells := 0, slots := 0, locals := 25 } : Room) [.int (pa0)] (I, R, J) (fun r u => (r = nI 1 ∧ u = (I, R, J) ∧ zR 0 60 pa0) ∨ (r = nI 0 ∧ u = (I, R, J) ∧ (pa0.toInt < 0 ∨ 60 < pa0.toInt))) := by
  intro sz
  refine z_body (by decide +kernel) (Nat.le_of_ble_eq_true rfl) (fun p e s m below meth c ls hx hb hml hr ht hown hlocks hsz hK hP hD hS hl => ?_)
  have hA : ∀ a, s.heap.size ≤ a → zA 25 q sz a := fun a h => Or.inr (hsz ▸ h)
  have hl : lv_has ls 1 [(0, .int (pa0))] := hl
  refine lv_iload_n hx hb dX11_areNights_0 rfl (lv_at hl 0 rfl) ?_
  refine lv_i2l (v := (pa0).toInt64) hx hb dX11_areNights_1 rfl ?_
  refine lv_lconst (v := (0 : Int64)) hx hb dX11_areNights_2 (by decide +kernel) ?_
  refine lv_ldc2 (v := (60 : Int64)) hx hb hown (ht _ hw_7_39) dX11_areNights_3 ?_
  refine z_callSi (As := [.long ((pa0).toInt64), .long ((0 : Int64)), .long ((60 : Int64))]) (rest := []) hx hb hml hown ht (mk_X11_in l D q cA F _ _ _ hI ((pa0).toInt64) ((0 : Int64)) ((60 : Int64))) hw_6_86 hmX11_in ⟨rfl, rfl⟩ (na := 3) rfl (by decide +kernel) (by decide) hK hP hD hS hA hl.1 rfl (Nat.le_of_ble_eq_true rfl) ⟨Nat.zero_le _, Nat.zero_le _⟩ dX11_areNights_6 (fun r_1 I_1 R_1 J_1 H locs hp_1 hP hD hS _ _ => ?_)
  rcases hp_1 with ⟨rfl, hu_1, h1_1, h2_1⟩ | ⟨rfl, hu_1, h1_1 | h2_1⟩
  · cases hu_1
    have f_2 : zL 0 2147483647 ((pa0).toInt64) := zL_ley h1_1 zkl_0 (zR_i2l (zR_any (pa0))) (by decide)
    have f_3 : zR 0 2147483647 (pa0) := zL_back f_2
    have f_4 : zL 0 60 ((pa0).toInt64) := zL_lex h2_1 f_2 zkl_60 (by decide)
    have f_5 : zR 0 60 (pa0) := zL_back f_4
    exact z_zret (v := nI 1) hx hb hr hlocks hP hD hS (by decide +kernel) dX11_areNights_9 (Or.inl ⟨rfl, rfl, f_5⟩)
  · cases hu_1
    have f_6 : zL (-2147483648) (-1) ((pa0).toInt64) := zL_ltx h1_1 (zR_i2l (zR_any (pa0))) zkl_0 (by decide)
    have f_7 : zR (-2147483648) (-1) (pa0) := zL_back f_6
    exact z_zret (v := nI 0) hx hb hr hlocks hP hD hS (by decide +kernel) dX11_areNights_9 (Or.inr ⟨rfl, rfl, (Or.inl (Int.lt_of_le_of_lt f_7.2 (by decide)))⟩)
  · cases hu_1
    have f_8 : zL 61 2147483647 ((pa0).toInt64) := zL_lty h2_1 zkl_60 (zR_i2l (zR_any (pa0))) (by decide)
    have f_9 : zR 61 2147483647 (pa0) := zL_back f_8
    exact z_zret (v := nI 0) hx hb hr hlocks hP hD hS (by decide +kernel) dX11_areNights_9 (Or.inr ⟨rfl, rfl, (Or.inr (Int.lt_of_lt_of_le (by decide) f_9.1))⟩)
set_option maxHeartbeats 4000000 in
set_option maxRecDepth 100000 in
theorem mk_X11_failedSet (l : Launch) (D : va_G) (q : Nat → Nat) (cA : Nat → ClassId) (F : Nat → Nat → Int32) (I R : Nat → Nat → Int32) (J : Nat → Nat → Int64) (hI : mInv F (I, R, J))  : zMi l D vwCl (zMtys cA) 25 q (zMd q cA) yX11_failedSet cX11_failedSet 3 (some .int) ({ frames := 0, cells := 0, slots := 0, locals := 0 } : Room) [.ref (q 0)] (I, R, J) (fun r u => zR 0 16777215 r ∧ u = (I, R, J)) := by
  intro sz
  refine z_body (by decide +kernel) (Nat.le_of_ble_eq_true rfl) (fun p e s m below meth c ls hx hb hml hr ht hown hlocks hsz hK hP hD hS hl => ?_)
  have hA : ∀ a, s.heap.size ≤ a → zA 25 q sz a := fun a h => Or.inr (hsz ▸ h)
  have hl : lv_has ls 3 [(0, .ref (q 0))] := hl
  refine lv_iconst (v := nI 0) hx hb dX11_failedSet_0 (by decide +kernel) ?_
  refine lv_istore_n (lv' := [(1, .int (nI 0)), (0, .ref (q 0))]) hx hb dX11_failedSet_1 rfl hl (by decide) rfl (fun ls hl => ?_)
  refine lv_iconst (v := nI 0) hx hb dX11_failedSet_2 (by decide +kernel) ?_
  refine lv_istore_n (lv' := [(2, .int (nI 0)), (1, .int (nI 0)), (0, .ref (q 0))]) hx hb dX11_failedSet_3 rfl hl (by decide) rfl (fun ls hl => ?_)
  have loop_59 : ∀ N : Nat, ∀ x_57 : Int32, zR 0 16777215 x_57 → ∀ x_58 : Int32, zR 0 24 x_58 → (2147483648 - (x_58).toInt).toNat < N → ∀ (H : Heap) (locs : List Loc), va_P D vwCl (zw 25 q (zMd q cA) I R J) H → va_D (zA 25 q sz) (zw 25 q (zMd q cA) I R J) → va_S (zA 25 q sz) s.heap H locs → ∀ ls : Array Slot, lv_has ls 3 [(0, .ref (q 0)), (1, .int (x_57)), (2, .int (x_58))] → W p l e ({ frames := 0, cells := 0, slots := 0, locals := 0 } : Room) s m ([.ref (q 0)] : List Value).toArray below meth c H locs 0 0 (MQ below (va_Qi (fun r u => zR 0 16777215 r ∧ u = (I, R, J)) (zB D vwCl 25 q (zMd q cA) sz) (zA 25 q sz)) ([.ref (q 0)] : List Value).toArray s 0 0 (zA 25 q sz)) (F0 m 4 ls []) := by
    intro N
    induction N with
    | zero => intro x_57 hx_57 x_58 hx_58 hN; exact absurd hN (Nat.not_lt_zero _)
    | succ N ih_61 =>
      intro x_57 hx_57 x_58 hx_58 hN_60 H locs hP hD hS ls hl
      refine lv_iload_n hx hb dX11_failedSet_4 rfl (lv_at hl 2 rfl) ?_
      refine lv_aload_n hx hb dX11_failedSet_5 rfl (lv_at hl 0 rfl) ?_
      refine z_get hx hb ht hown hK hP ziX11 rfl 0 (by decide) 26 (by decide) hw_5_213 rfl (v := .int (I 0 26)) rfl dX11_failedSet_6 ?_
      have f_62 : zR 0 24 (I 0 26) := mI hI 0 26
      refine lv_icmp_ge (tgt := 38) hx hb dX11_failedSet_9 (by decide) (fun c_63 => ?_) (fun c_63 => ?_)
      · have t_c_63 := z_leT c_63
        refine lv_iload_n hx hb dX11_failedSet_38 rfl (lv_at hl 1 rfl) ?_
        exact z_iret (v := x_57) hx hb hr hlocks hP hD hS dX11_failedSet_39 ⟨hx_57, rfl⟩
      · have t_c_63 := z_leF c_63
        have f_64 : zR 0 23 (x_58) := zR_ltx t_c_63 hx_58 f_62 (by decide)
        have f_65 : zR 1 24 (I 0 26) := zR_lty t_c_63 hx_58 f_62 (by decide)
        refine lv_iload_n hx hb dX11_failedSet_12 rfl (lv_at hl 1 rfl) ?_
        refine lv_aload_n hx hb dX11_failedSet_13 rfl (lv_at hl 0 rfl) ?_
        refine z_get hx hb ht hown hK hP ziX11 rfl 0 (by decide) 22 (by decide) hw_5_209 rfl (v := .ref (q 14)) rfl dX11_failedSet_14 ?_
        refine lv_iload_n hx hb dX11_failedSet_17 rfl (lv_at hl 2 rfl) ?_
        refine z_iald hx hb hK hP 14 (by decide) 13 rfl rfl (zR_vin f_64 (by decide)) dX11_failedSet_18 ?_
        refine z_eqi (y := R 14 (x_58).toNatClampNeg) rfl ?_
        refine lv_iconst (v := nI 3) hx hb dX11_failedSet_19 (by decide +kernel) ?_
        have t_70 : ∀ x_69 : Int32, zR 0 8388608 x_69 → ∀ (H : Heap) (locs : List Loc), va_P D vwCl (zw 25 q (zMd q cA) I R J) H → va_D (zA 25 q sz) (zw 25 q (zMd q cA) I R J) → va_S (zA 25 q sz) s.heap H locs → ∀ ls : Array Slot, lv_has ls 3 [(0, .ref (q 0)), (1, .int (x_57)), (2, .int (x_58))] → W p l e ({ frames := 0, cells := 0, slots := 0, locals := 0 } : Room) s m ([.ref (q 0)] : List Value).toArray below meth c H locs 0 0 (MQ below (va_Qi (fun r u => zR 0 16777215 r ∧ u = (I, R, J)) (zB D vwCl 25 q (zMd q cA) sz) (zA 25 q sz)) ([.ref (q 0)] : List Value).toArray s 0 0 (zA 25 q sz)) (F0 m 30 ls [.int (x_69), .int (x_57)]) := by
          intro x_69 hx_69 H locs hP hD hS ls hl
          refine lv_ior hx hb dX11_failedSet_30 ?_
          refine z_rng (a := 0) (b := 16777215) (zR_or 24 hx_57 hx_69 (by decide)) (fun v_71 hv_71 => ?_)
          refine lv_istore_n (lv' := [(1, .int (v_71)), (0, .ref (q 0)), (2, .int (x_58))]) hx hb dX11_failedSet_31 rfl hl (by decide) rfl (fun ls hl => ?_)
          obtain ⟨v_72, ev_72⟩ : ∃ y : Int32, y = x_58 + nI 1 := ⟨_, rfl⟩
          have hv_72 : zR 1 24 v_72 := ev_72 ▸ zR_add f_64 zk_1 (by decide)
          have mv_72 : v_72.toInt = (x_58).toInt + 1 := by rw [ev_72, zR_addE f_64 zk_1 (by decide)]; rfl
          refine lv_iinc (v := v_72) (lv' := [(2, .int (v_72)), (1, .int (v_71)), (0, .ref (q 0))]) hx hb dX11_failedSet_32 hl (k := 2) rfl (ev_72 ▸ rfl) (by decide) rfl (fun ls hl => ?_)
          refine lv_goto (tgt := 4) hx hb dX11_failedSet_35 (by decide) ?_
          exact ih_61 (v_71) hv_71 (v_72) (zR_w hv_72 (by decide)) (z2_up mv_72 (by decide) hN_60) _ _ hP hD hS _ (lv_sub hl [2, 1, 0] rfl)
        refine lv_icmp_ne (tgt := 29) hx hb dX11_failedSet_20 (by decide) (fun c_66 => ?_) (fun c_66 => ?_)
        · have t_c_66 := z_eqF c_66
          refine lv_iconst (v := nI 0) hx hb dX11_failedSet_29 (by decide +kernel) ?_
          exact t_70 (nI 0) (zR_w zk_0 (by decide)) _ _ hP hD hS _ (lv_sub hl [0, 1, 2] rfl)
        · have t_c_66 := z_eqT c_66
          have f_73 : zR 3 3 (R 14 (x_58).toNatClampNeg) := zR_eqx t_c_66 zk_3
          refine lv_iconst (v := nI 1) hx hb dX11_failedSet_23 (by decide +kernel) ?_
          refine lv_iload_n hx hb dX11_failedSet_24 rfl (lv_at hl 2 rfl) ?_
          refine lv_ishl hx hb dX11_failedSet_25 ?_
          refine z_rng (a := 1) (b := 8388608) (zR_shl1 23 f_64 (by decide)) (fun v_74 hv_74 => ?_)
          refine lv_goto (tgt := 30) hx hb dX11_failedSet_26 (by decide) ?_
          exact t_70 (v_74) (zR_w hv_74 (by decide)) _ _ hP hD hS _ (lv_sub hl [0, 1, 2] rfl)
  exact loop_59 _ (nI 0) (zR_w zk_0 (by decide)) (nI 0) (zR_w zk_0 (by decide)) (Nat.lt_succ_self _) _ _ hP hD hS _ (lv_sub hl [2, 1, 0] rfl)
set_option maxHeartbeats 4000000 in
set_option maxRecDepth 100000 in
theorem mk_X11_goNights (l : Launch) (D : va_G) (q : Nat → Nat) (cA : Nat → ClassId) (F : Nat → Nat → Int32) (I R : Nat → Nat → Int32) (J : Nat → Nat → Int64) (hI : mInv F (I, R, J)) (pa0 : Int32) (hpa0 : zR 0 60 pa0) : zMi l D vwCl (zMtys cA) 25 q (zMd q cA) yX11_goNights cX11_goNights 4 (some .int) ({ frames := 6, cells := 0, slots := 0, locals := 155 } : Room) [.ref (q 0), .int (pa0)] (I, R, J) (fun r u => zR 0 16777215 r ∧ (mInv F u ∧ u.2.2 = J)) := by
  intro sz
  refine z_body (by decide +kernel) (Nat.le_of_ble_eq_true rfl) (fun p e s m below meth c ls hx hb hml hr ht hown hlocks hsz hK hP hD hS hl => ?_)
  have hA : ∀ a, s.heap.size ≤ a → zA 25 q sz a := fun a h => Or.inr (hsz ▸ h)
  have hl : lv_has ls 4 [(0, .ref (q 0)), (1, .int (pa0))] := hl
  refine lv_aload_n hx hb dX11_goNights_0 rfl (lv_at hl 0 rfl) ?_
  refine z_callVv (k := 0) (As := []) (rest := []) hx hb hml hown ht (mk_X11_asItIs l D q cA F _ _ _ hI ) hw_6_181 hmX11_asItIs ⟨rfl, rfl⟩ (na := 0) rfl (by decide +kernel) (by decide) (by decide) rfl rfl hK hP hD hS hA hl.1 rfl (Nat.le_of_ble_eq_true rfl) ⟨Nat.zero_le _, Nat.zero_le _⟩ dX11_goNights_1 (fun I_1 R_1 J_1 H locs hp_1 hP hD hS _ _ => ?_)
  obtain ⟨hv_1, hj_1, hs_1⟩ := hp_1
  try dsimp only at hj_1
  subst J_1
  refine lv_aload_n hx hb dX11_goNights_4 rfl (lv_at hl 0 rfl) ?_
  refine z_callVi (k := 0) (As := []) (rest := []) hx hb hml hown ht (mk_X11_failedSet l D q cA F _ _ _ hv_1 ) hw_7_204 hmX11_failedSet ⟨rfl, rfl⟩ (na := 0) rfl (by decide +kernel) (by decide) (by decide) rfl rfl hK hP hD hS hA hl.1 rfl (Nat.le_of_ble_eq_true rfl) ⟨Nat.zero_le _, Nat.zero_le _⟩ dX11_goNights_5 (fun r_2 I_2 R_2 J_2 H locs hp_2 hP hD hS _ _ => ?_)
  obtain ⟨hr_2, hu_2⟩ := hp_2
  cases hu_2
  refine lv_istore_n (lv' := [(2, .int (r_2)), (0, .ref (q 0)), (1, .int (pa0))]) hx hb dX11_goNights_8 rfl hl (by decide) rfl (fun ls hl => ?_)
  refine lv_iconst (v := nI 0) hx hb dX11_goNights_9 (by decide +kernel) ?_
  refine lv_istore_n (lv' := [(3, .int (nI 0)), (2, .int (r_2)), (0, .ref (q 0)), (1, .int (pa0))]) hx hb dX11_goNights_10 rfl hl (by decide) rfl (fun ls hl => ?_)
  have loop_30 : ∀ N : Nat, ∀ x_28 : Int32, zR 0 60 x_28 → ∀ I_29 : Nat → Nat → Int32, ∀ R_29 : Nat → Nat → Int32, mInv F (I_29, R_29, J) → (2147483648 - (x_28).toInt).toNat < N → ∀ (H : Heap) (locs : List Loc), va_P D vwCl (zw 25 q (zMd q cA) I_29 R_29 J) H → va_D (zA 25 q sz) (zw 25 q (zMd q cA) I_29 R_29 J) → va_S (zA 25 q sz) s.heap H locs → ∀ ls : Array Slot, lv_has ls 4 [(0, .ref (q 0)), (1, .int (pa0)), (2, .int (r_2)), (3, .int (x_28))] → W p l e ({ frames := 6, cells := 0, slots := 0, locals := 155 } : Room) s m ([.ref (q 0), .int (pa0)] : List Value).toArray below meth c H locs 0 0 (MQ below (va_Qi (fun r u => zR 0 16777215 r ∧ (mInv F u ∧ u.2.2 = J)) (zB D vwCl 25 q (zMd q cA) sz) (zA 25 q sz)) ([.ref (q 0), .int (pa0)] : List Value).toArray s 0 0 (zA 25 q sz)) (F0 m 11 ls []) := by
    intro N
    induction N with
    | zero => intro x_28 hx_28 I_29 R_29 hI_29 hN; exact absurd hN (Nat.not_lt_zero _)
    | succ N ih_32 =>
      intro x_28 hx_28 I_29 R_29 hI_29 hN_31 H locs hP hD hS ls hl
      refine lv_iload_n hx hb dX11_goNights_11 rfl (lv_at hl 3 rfl) ?_
      refine lv_iload_n hx hb dX11_goNights_12 rfl (lv_at hl 1 rfl) ?_
      refine lv_icmp_ge (tgt := 27) hx hb dX11_goNights_13 (by decide) (fun c_33 => ?_) (fun c_33 => ?_)
      · have t_c_33 := z_leT c_33
        refine lv_aload_n hx hb dX11_goNights_27 rfl (lv_at hl 0 rfl) ?_
        refine z_callVi (k := 0) (As := []) (rest := []) hx hb hml hown ht (mk_X11_failedSet l D q cA F _ _ _ hI_29 ) hw_7_204 hmX11_failedSet ⟨rfl, rfl⟩ (na := 0) rfl (by decide +kernel) (by decide) (by decide) rfl rfl hK hP hD hS hA hl.1 rfl (Nat.le_of_ble_eq_true rfl) ⟨Nat.zero_le _, Nat.zero_le _⟩ dX11_goNights_28 (fun r_38 I_38 R_38 J_38 H locs hp_38 hP hD hS _ _ => ?_)
        obtain ⟨hr_38, hu_38⟩ := hp_38
        cases hu_38
        refine lv_iload_n hx hb dX11_goNights_31 rfl (lv_at hl 2 rfl) ?_
        refine lv_iconst (v := (-1)) hx hb dX11_goNights_32 (by decide +kernel) ?_
        refine lv_ixor hx hb dX11_goNights_33 ?_
        refine z_any (fun v_39 => ?_)
        refine lv_iand hx hb dX11_goNights_34 ?_
        refine z_rng (a := 0) (b := 16777215) (zR_andl hr_38 (by decide)) (fun v_40 hv_40 => ?_)
        exact z_iret (v := v_40) hx hb hr hlocks hP hD hS dX11_goNights_35 ⟨hv_40, ⟨hI_29, rfl⟩⟩
      · have t_c_33 := z_leF c_33
        have f_41 : zR 0 59 (x_28) := zR_ltx t_c_33 hx_28 hpa0 (by decide)
        have f_42 : zR 1 60 (pa0) := zR_lty t_c_33 hx_28 hpa0 (by decide)
        refine lv_aload_n hx hb dX11_goNights_16 rfl (lv_at hl 0 rfl) ?_
        refine z_callVi (k := 0) (As := []) (rest := []) hx hb hml hown ht (mk_X11_night0 l D q cA F _ _ _ hI_29 ) hw_6_222 hmX11_night0 ⟨rfl, rfl⟩ (na := 0) rfl (by decide +kernel) (by decide) (by decide) rfl rfl hK hP hD hS hA hl.1 rfl (Nat.le_of_ble_eq_true rfl) ⟨Nat.zero_le _, Nat.zero_le _⟩ dX11_goNights_17 (fun r_43 I_43 R_43 J_43 H locs hp_43 hP hD hS _ _ => ?_)
        obtain ⟨hv_43, hj_43, hk26_43⟩ := hp_43
        try dsimp only at hj_43
        subst J_43
        refine lv_pop hx hb dX11_goNights_20 rfl ?_
        obtain ⟨v_44, ev_44⟩ : ∃ y : Int32, y = x_28 + nI 1 := ⟨_, rfl⟩
        have hv_44 : zR 1 60 v_44 := ev_44 ▸ zR_add f_41 zk_1 (by decide)
        have mv_44 : v_44.toInt = (x_28).toInt + 1 := by rw [ev_44, zR_addE f_41 zk_1 (by decide)]; rfl
        refine lv_iinc (v := v_44) (lv' := [(3, .int (v_44)), (0, .ref (q 0)), (1, .int (pa0)), (2, .int (r_2))]) hx hb dX11_goNights_21 hl (k := 3) rfl (ev_44 ▸ rfl) (by decide) rfl (fun ls hl => ?_)
        refine lv_goto (tgt := 11) hx hb dX11_goNights_24 (by decide) ?_
        exact ih_32 (v_44) (zR_w hv_44 (by decide)) _ _ hv_43 (z2_up mv_44 (by decide) hN_31) _ _ hP hD hS _ (lv_sub hl [1, 2, 3, 0] rfl)
  exact loop_30 _ (nI 0) (zR_w zk_0 (by decide)) _ _ hv_1 (Nat.lt_succ_self _) _ _ hP hD hS _ (lv_sub hl [2, 3, 1, 0] rfl)
set_option maxHeartbeats 4000000 in
set_option maxRecDepth 100000 in
theorem mk_X11_fails (l : Launch) (D : va_G) (q : Nat → Nat) (cA : Nat → ClassId) (F : Nat → Nat → Int32) (I R : Nat → Nat → Int32) (J : Nat → Nat → Int64) (hI : mInv F (I, R, J)) (pa0 : Int32) : zMi l D vwCl (zMtys cA) 25 q (zMd q cA) yX11_fails cX11_fails 2 (some .int) ({ frames := 7, cells := 0, slots := 0, locals := 178 } : Room) [.ref (q 0), .int (pa0)] (I, R, J) (fun r u => zR (-2) 16777215 r ∧ (mInv F u ∧ u.2.2 = J)) := by
  intro sz
  refine z_body (by decide +kernel) (Nat.le_of_ble_eq_true rfl) (fun p e s m below meth c ls hx hb hml hr ht hown hlocks hsz hK hP hD hS hl => ?_)
  have hA : ∀ a, s.heap.size ≤ a → zA 25 q sz a := fun a h => Or.inr (hsz ▸ h)
  have hl : lv_has ls 2 [(0, .ref (q 0)), (1, .int (pa0))] := hl
  refine lv_aload_n hx hb dX11_fails_0 rfl (lv_at hl 0 rfl) ?_
  refine z_callVi (k := 0) (As := []) (rest := []) hx hb hml hown ht (mk_X11_isCity l D q cA F _ _ _ hI ) hw_7_75 hmX11_isCity ⟨rfl, rfl⟩ (na := 0) rfl (by decide +kernel) (by decide) (by decide) rfl rfl hK hP hD hS hA hl.1 rfl (Nat.le_of_ble_eq_true rfl) ⟨Nat.zero_le _, Nat.zero_le _⟩ dX11_fails_1 (fun r_1 I_1 R_1 J_1 H locs hp_1 hP hD hS _ _ => ?_)
  rcases hp_1 with ⟨rfl, hu_1⟩ | ⟨rfl, hu_1⟩
  · cases hu_1
    refine lv_if_eq (tgt := 22) hx hb dX11_fails_4 (by decide) (fun c_0 => absurd c_0 (zD_ne zk_1 zk_z (by decide))) (fun _ => ?_)
    refine lv_iload_n hx hb dX11_fails_7 rfl (lv_at hl 1 rfl) ?_
    refine z_callSi (As := [.int (pa0)]) (rest := []) hx hb hml hown ht (mk_X11_areNights l D q cA F _ _ _ hI (pa0)) hw_7_197 hmX11_areNights ⟨rfl, rfl⟩ (na := 1) rfl (by decide +kernel) (by decide) hK hP hD hS hA hl.1 rfl (Nat.le_of_ble_eq_true rfl) ⟨Nat.zero_le _, Nat.zero_le _⟩ dX11_fails_8 (fun r_2 I_2 R_2 J_2 H locs hp_2 hP hD hS _ _ => ?_)
    rcases hp_2 with ⟨rfl, hu_2, f0_2⟩ | ⟨rfl, hu_2, nn_2⟩
    · cases hu_2
      refine lv_if_eq (tgt := 22) hx hb dX11_fails_11 (by decide) (fun c_0 => absurd c_0 (zD_ne zk_1 zk_z (by decide))) (fun _ => ?_)
      refine lv_aload_n hx hb dX11_fails_14 rfl (lv_at hl 0 rfl) ?_
      refine lv_iload_n hx hb dX11_fails_15 rfl (lv_at hl 1 rfl) ?_
      refine z_callVi (k := 0) (As := [.int (pa0)]) (rest := []) hx hb hml hown ht (mk_X11_goNights l D q cA F _ _ _ hI (pa0) f0_2) hw_7_200 hmX11_goNights ⟨rfl, rfl⟩ (na := 1) rfl (by decide +kernel) (by decide) (by decide) rfl rfl hK hP hD hS hA hl.1 rfl (Nat.le_of_ble_eq_true rfl) ⟨Nat.zero_le _, Nat.zero_le _⟩ dX11_fails_16 (fun r_3 I_3 R_3 J_3 H locs hp_3 hP hD hS _ _ => ?_)
      obtain ⟨hr_3, hu_3⟩ := hp_3
      obtain ⟨hv_3, hj_3⟩ := hu_3
      try dsimp only at hj_3
      subst J_3
      refine lv_goto (tgt := 24) hx hb dX11_fails_19 (by decide) ?_
      exact z_iret (v := r_3) hx hb hr hlocks hP hD hS dX11_fails_24 ⟨(zR_w hr_3 (by decide)), ⟨hv_3, rfl⟩⟩
    · cases hu_2
      refine lv_if_eq (tgt := 22) hx hb dX11_fails_11 (by decide) (fun _ => ?_) (fun c_0 => absurd (zD_eq zk_0 zk_z) c_0)
      refine lv_bipush (v := (-2)) hx hb dX11_fails_22 (by decide +kernel) ?_
      exact z_iret (v := (-2)) hx hb hr hlocks hP hD hS dX11_fails_24 ⟨(zR_w zk_m2 (by decide)), ⟨hI, rfl⟩⟩
  · cases hu_1
    refine lv_if_eq (tgt := 22) hx hb dX11_fails_4 (by decide) (fun _ => ?_) (fun c_0 => absurd (zD_eq zk_0 zk_z) c_0)
    refine lv_bipush (v := (-2)) hx hb dX11_fails_22 (by decide +kernel) ?_
    exact z_iret (v := (-2)) hx hb hr hlocks hP hD hS dX11_fails_24 ⟨(zR_w zk_m2 (by decide)), ⟨hI, rfl⟩⟩
set_option maxHeartbeats 4000000 in
set_option maxRecDepth 100000 in
theorem mk_X11_later (l : Launch) (D : va_G) (q : Nat → Nat) (cA : Nat → ClassId) (F : Nat → Nat → Int32) (I R : Nat → Nat → Int32) (J : Nat → Nat → Int64) (hI : mInv F (I, R, J)) (pa0 : Int32) (pa1 : Int32) : zMi l D vwCl (zMtys cA) 25 q (zMd q cA) yX11_later cX11_later 3 (some .int) ({ frames := 7, cells := 0, slots := 0, locals := 178 } : Room) [.ref (q 0), .int (pa0), .int (pa1)] (I, R, J) (fun r u => zR (-2) 4 r ∧ (mInv F u ∧ u.2.2 = J)) := by
  intro sz
  refine z_body (by decide +kernel) (Nat.le_of_ble_eq_true rfl) (fun p e s m below meth c ls hx hb hml hr ht hown hlocks hsz hK hP hD hS hl => ?_)
  have hA : ∀ a, s.heap.size ≤ a → zA 25 q sz a := fun a h => Or.inr (hsz ▸ h)
  have hl : lv_has ls 3 [(0, .ref (q 0)), (1, .int (pa0)), (2, .int (pa1))] := hl
  refine lv_aload_n hx hb dX11_later_0 rfl (lv_at hl 0 rfl) ?_
  refine lv_iload_n hx hb dX11_later_1 rfl (lv_at hl 1 rfl) ?_
  refine lv_i2l (v := (pa0).toInt64) hx hb dX11_later_2 rfl ?_
  refine z_callVi (k := 0) (As := [.long ((pa0).toInt64)]) (rest := []) hx hb hml hown ht (mk_X11_isThing l D q cA F _ _ _ hI ((pa0).toInt64) (zR_i2l (zR_any (pa0)))) hw_6_238 hmX11_isThing ⟨rfl, rfl⟩ (na := 1) rfl (by decide +kernel) (by decide) (by decide) rfl rfl hK hP hD hS hA hl.1 rfl (Nat.le_of_ble_eq_true rfl) ⟨Nat.zero_le _, Nat.zero_le _⟩ dX11_later_3 (fun r_1 I_1 R_1 J_1 H locs hp_1 hP hD hS _ _ => ?_)
  rcases hp_1 with ⟨rfl, hu_1, f0_1⟩ | ⟨rfl, hu_1⟩
  · cases hu_1
    have f_2 : zR 0 5 (pa0) := zL_back f0_1
    refine lv_if_eq (tgt := 16) hx hb dX11_later_6 (by decide) (fun c_0 => absurd c_0 (zD_ne zk_1 zk_z (by decide))) (fun _ => ?_)
    refine lv_iload_n hx hb dX11_later_9 rfl (lv_at hl 2 rfl) ?_
    refine z_callSi (As := [.int (pa1)]) (rest := []) hx hb hml hown ht (mk_X11_areNights l D q cA F _ _ _ hI (pa1)) hw_7_197 hmX11_areNights ⟨rfl, rfl⟩ (na := 1) rfl (by decide +kernel) (by decide) hK hP hD hS hA hl.1 rfl (Nat.le_of_ble_eq_true rfl) ⟨Nat.zero_le _, Nat.zero_le _⟩ dX11_later_10 (fun r_3 I_3 R_3 J_3 H locs hp_3 hP hD hS _ _ => ?_)
    rcases hp_3 with ⟨rfl, hu_3, f0_3⟩ | ⟨rfl, hu_3, nn_3⟩
    · cases hu_3
      refine lv_if_ne (tgt := 19) hx hb dX11_later_13 (by decide) (fun _ => ?_) (fun c_0 => absurd c_0 (zD_ne zk_1 zk_z (by decide)))
      refine lv_aload_n hx hb dX11_later_19 rfl (lv_at hl 0 rfl) ?_
      refine lv_iload_n hx hb dX11_later_20 rfl (lv_at hl 2 rfl) ?_
      refine z_callVi (k := 0) (As := [.int (pa1)]) (rest := []) hx hb hml hown ht (mk_X11_goNights l D q cA F _ _ _ hI (pa1) f0_3) hw_7_200 hmX11_goNights ⟨rfl, rfl⟩ (na := 1) rfl (by decide +kernel) (by decide) (by decide) rfl rfl hK hP hD hS hA hl.1 rfl (Nat.le_of_ble_eq_true rfl) ⟨Nat.zero_le _, Nat.zero_le _⟩ dX11_later_21 (fun r_4 I_4 R_4 J_4 H locs hp_4 hP hD hS _ _ => ?_)
      obtain ⟨hr_4, hu_4⟩ := hp_4
      obtain ⟨hv_4, hj_4⟩ := hu_4
      try dsimp only at hj_4
      subst J_4
      refine lv_pop hx hb dX11_later_24 rfl ?_
      refine lv_aload_n hx hb dX11_later_25 rfl (lv_at hl 0 rfl) ?_
      refine z_get hx hb ht hown hK hP ziX11 rfl 0 (by decide) 17 (by decide) hw_5_204 rfl (v := .ref (q 9)) rfl dX11_later_26 ?_
      refine lv_iload_n hx hb dX11_later_29 rfl (lv_at hl 1 rfl) ?_
      refine z_iald hx hb hK hP 9 (by decide) 8 rfl rfl (zR_vin f_2 (by decide)) dX11_later_30 ?_
      refine z_eqi (y := R_4 9 (pa0).toNatClampNeg) rfl ?_
      have f_5 : zR 0 4 (R_4 9 (pa0).toNatClampNeg) := mR hv_4 9 (pa0).toNatClampNeg
      exact z_iret (v := R_4 9 (pa0).toNatClampNeg) hx hb hr hlocks hP hD hS dX11_later_31 ⟨(zR_w f_5 (by decide)), ⟨hv_4, rfl⟩⟩
    · cases hu_3
      refine lv_if_ne (tgt := 19) hx hb dX11_later_13 (by decide) (fun c_0 => absurd (zD_eq zk_0 zk_z) c_0) (fun _ => ?_)
      refine lv_bipush (v := (-2)) hx hb dX11_later_16 (by decide +kernel) ?_
      exact z_iret (v := (-2)) hx hb hr hlocks hP hD hS dX11_later_18 ⟨(zR_w zk_m2 (by decide)), ⟨hI, rfl⟩⟩
  · cases hu_1
    refine lv_if_eq (tgt := 16) hx hb dX11_later_6 (by decide) (fun _ => ?_) (fun c_0 => absurd (zD_eq zk_0 zk_z) c_0)
    refine lv_bipush (v := (-2)) hx hb dX11_later_16 (by decide +kernel) ?_
    exact z_iret (v := (-2)) hx hb hr hlocks hP hD hS dX11_later_18 ⟨(zR_w zk_m2 (by decide)), ⟨hI, rfl⟩⟩
set_option maxHeartbeats 4000000 in
set_option maxRecDepth 100000 in
theorem mk_X11_purse (l : Launch) (D : va_G) (q : Nat → Nat) (cA : Nat → ClassId) (F : Nat → Nat → Int32) (I R : Nat → Nat → Int32) (J : Nat → Nat → Int64) (hI : mInv F (I, R, J)) (pa0 : Int32) (pa1 : Int32) : zMi l D vwCl (zMtys cA) 25 q (zMd q cA) yX11_purse cX11_purse 3 (some .int) ({ frames := 7, cells := 0, slots := 0, locals := 178 } : Room) [.ref (q 0), .int (pa0), .int (pa1)] (I, R, J) (fun _ u => (mInv F u ∧ u.2.2 = J)) := by
  intro sz
  refine z_body (by decide +kernel) (Nat.le_of_ble_eq_true rfl) (fun p e s m below meth c ls hx hb hml hr ht hown hlocks hsz hK hP hD hS hl => ?_)
  have hA : ∀ a, s.heap.size ≤ a → zA 25 q sz a := fun a h => Or.inr (hsz ▸ h)
  have hl : lv_has ls 3 [(0, .ref (q 0)), (1, .int (pa0)), (2, .int (pa1))] := hl
  refine lv_aload_n hx hb dX11_purse_0 rfl (lv_at hl 0 rfl) ?_
  refine lv_iload_n hx hb dX11_purse_1 rfl (lv_at hl 1 rfl) ?_
  refine lv_i2l (v := (pa0).toInt64) hx hb dX11_purse_2 rfl ?_
  refine z_callVi (k := 0) (As := [.long ((pa0).toInt64)]) (rest := []) hx hb hml hown ht (mk_X11_isHouse l D q cA F _ _ _ hI ((pa0).toInt64) (zR_i2l (zR_any (pa0)))) hw_6_176 hmX11_isHouse ⟨rfl, rfl⟩ (na := 1) rfl (by decide +kernel) (by decide) (by decide) rfl rfl hK hP hD hS hA hl.1 rfl (Nat.le_of_ble_eq_true rfl) ⟨Nat.zero_le _, Nat.zero_le _⟩ dX11_purse_3 (fun r_1 I_1 R_1 J_1 H locs hp_1 hP hD hS _ _ => ?_)
  rcases hp_1 with ⟨rfl, hu_1, f0_1⟩ | ⟨rfl, hu_1⟩
  · cases hu_1
    have f_2 : zR 0 4 (pa0) := zL_back f0_1
    refine lv_if_eq (tgt := 16) hx hb dX11_purse_6 (by decide) (fun c_0 => absurd c_0 (zD_ne zk_1 zk_z (by decide))) (fun _ => ?_)
    refine lv_iload_n hx hb dX11_purse_9 rfl (lv_at hl 2 rfl) ?_
    refine z_callSi (As := [.int (pa1)]) (rest := []) hx hb hml hown ht (mk_X11_areNights l D q cA F _ _ _ hI (pa1)) hw_7_197 hmX11_areNights ⟨rfl, rfl⟩ (na := 1) rfl (by decide +kernel) (by decide) hK hP hD hS hA hl.1 rfl (Nat.le_of_ble_eq_true rfl) ⟨Nat.zero_le _, Nat.zero_le _⟩ dX11_purse_10 (fun r_3 I_3 R_3 J_3 H locs hp_3 hP hD hS _ _ => ?_)
    rcases hp_3 with ⟨rfl, hu_3, f0_3⟩ | ⟨rfl, hu_3, nn_3⟩
    · cases hu_3
      refine lv_if_ne (tgt := 19) hx hb dX11_purse_13 (by decide) (fun _ => ?_) (fun c_0 => absurd c_0 (zD_ne zk_1 zk_z (by decide)))
      refine lv_aload_n hx hb dX11_purse_19 rfl (lv_at hl 0 rfl) ?_
      refine lv_iload_n hx hb dX11_purse_20 rfl (lv_at hl 2 rfl) ?_
      refine z_callVi (k := 0) (As := [.int (pa1)]) (rest := []) hx hb hml hown ht (mk_X11_goNights l D q cA F _ _ _ hI (pa1) f0_3) hw_7_200 hmX11_goNights ⟨rfl, rfl⟩ (na := 1) rfl (by decide +kernel) (by decide) (by decide) rfl rfl hK hP hD hS hA hl.1 rfl (Nat.le_of_ble_eq_true rfl) ⟨Nat.zero_le _, Nat.zero_le _⟩ dX11_purse_21 (fun r_4 I_4 R_4 J_4 H locs hp_4 hP hD hS _ _ => ?_)
      obtain ⟨hr_4, hu_4⟩ := hp_4
      obtain ⟨hv_4, hj_4⟩ := hu_4
      try dsimp only at hj_4
      subst J_4
      refine lv_pop hx hb dX11_purse_24 rfl ?_
      refine lv_aload_n hx hb dX11_purse_25 rfl (lv_at hl 0 rfl) ?_
      refine z_get hx hb ht hown hK hP ziX11 rfl 0 (by decide) 15 (by decide) hw_5_202 rfl (v := .ref (q 7)) rfl dX11_purse_26 ?_
      refine lv_iload_n hx hb dX11_purse_29 rfl (lv_at hl 1 rfl) ?_
      refine z_iald hx hb hK hP 7 (by decide) 6 rfl rfl (zR_vin f_2 (by decide)) dX11_purse_30 ?_
      refine z_eqi (y := R_4 7 (pa0).toNatClampNeg) rfl ?_
      exact z_iret (v := R_4 7 (pa0).toNatClampNeg) hx hb hr hlocks hP hD hS dX11_purse_31 ⟨hv_4, rfl⟩
    · cases hu_3
      refine lv_if_ne (tgt := 19) hx hb dX11_purse_13 (by decide) (fun c_0 => absurd (zD_eq zk_0 zk_z) c_0) (fun _ => ?_)
      refine lv_bipush (v := (-2)) hx hb dX11_purse_16 (by decide +kernel) ?_
      exact z_iret (v := (-2)) hx hb hr hlocks hP hD hS dX11_purse_18 ⟨hI, rfl⟩
  · cases hu_1
    refine lv_if_eq (tgt := 16) hx hb dX11_purse_6 (by decide) (fun _ => ?_) (fun c_0 => absurd (zD_eq zk_0 zk_z) c_0)
    refine lv_bipush (v := (-2)) hx hb dX11_purse_16 (by decide +kernel) ?_
    exact z_iret (v := (-2)) hx hb hr hlocks hP hD hS dX11_purse_18 ⟨hI, rfl⟩
set_option maxHeartbeats 4000000 in
set_option maxRecDepth 100000 in
theorem mk_X11_bit_1 (l : Launch) (D : va_G) (q : Nat → Nat) (cA : Nat → ClassId) (F : Nat → Nat → Int32) (I R : Nat → Nat → Int32) (J : Nat → Nat → Int64) (hI : mInv F (I, R, J)) (pa0 : Int32) (pa1 : Int32) (hpa1 : zR 0 23 pa1) : zMi l D vwCl (zMtys cA) 25 q (zMd q cA) yX11_bit cX11_bit 2 (some .int) ({ frames := 0, cells := 0, slots := 0, locals := 0 } : Room) [.int (pa0), .int (pa1)] (I, R, J) (fun r u => zR 0 1 r ∧ u = (I, R, J)) := by
  intro sz
  refine z_body (by decide +kernel) (Nat.le_of_ble_eq_true rfl) (fun p e s m below meth c ls hx hb hml hr ht hown hlocks hsz hK hP hD hS hl => ?_)
  have hA : ∀ a, s.heap.size ≤ a → zA 25 q sz a := fun a h => Or.inr (hsz ▸ h)
  have hl : lv_has ls 2 [(0, .int (pa0)), (1, .int (pa1))] := hl
  refine lv_iload_n hx hb dX11_bit_0 rfl (lv_at hl 0 rfl) ?_
  refine lv_iload_n hx hb dX11_bit_1 rfl (lv_at hl 1 rfl) ?_
  refine lv_ishr hx hb dX11_bit_2 ?_
  refine z_any (fun v_1 => ?_)
  refine lv_iconst (v := nI 1) hx hb dX11_bit_3 (by decide +kernel) ?_
  refine lv_iand hx hb dX11_bit_4 ?_
  refine z_rng (a := 0) (b := 1) (zR_andr zk_1 (by decide)) (fun v_2 hv_2 => ?_)
  exact z_iret (v := v_2) hx hb hr hlocks hP hD hS dX11_bit_5 ⟨hv_2, rfl⟩
set_option maxHeartbeats 4000000 in
set_option maxRecDepth 100000 in
theorem mk_X11_run (l : Launch) (D : va_G) (q : Nat → Nat) (cA : Nat → ClassId) (F : Nat → Nat → Int32) (I R : Nat → Nat → Int32) (J : Nat → Nat → Int64) (hI : mInv F (I, R, J))  : zMi l D vwCl (zMtys cA) 25 q (zMd q cA) yX11_run cX11_run 4 (some .int) ({ frames := 6, cells := 0, slots := 0, locals := 155 } : Room) [.ref (q 0)] (I, R, J) (fun _ u => (mInv F u ∧ u.2.2 = J)) := by
  intro sz
  refine z_body (by decide +kernel) (Nat.le_of_ble_eq_true rfl) (fun p e s m below meth c ls hx hb hml hr ht hown hlocks hsz hK hP hD hS hl => ?_)
  have hA : ∀ a, s.heap.size ≤ a → zA 25 q sz a := fun a h => Or.inr (hsz ▸ h)
  have hl : lv_has ls 4 [(0, .ref (q 0))] := hl
  refine lv_aload_n hx hb dX11_run_0 rfl (lv_at hl 0 rfl) ?_
  refine z_callVi (k := 0) (As := []) (rest := []) hx hb hml hown ht (mk_X11_isCity l D q cA F _ _ _ hI ) hw_7_75 hmX11_isCity ⟨rfl, rfl⟩ (na := 0) rfl (by decide +kernel) (by decide) (by decide) rfl rfl hK hP hD hS hA hl.1 rfl (Nat.le_of_ble_eq_true rfl) ⟨Nat.zero_le _, Nat.zero_le _⟩ dX11_run_1 (fun r_1 I_1 R_1 J_1 H locs hp_1 hP hD hS _ _ => ?_)
  rcases hp_1 with ⟨rfl, hu_1⟩ | ⟨rfl, hu_1⟩
  · cases hu_1
    refine lv_if_ne (tgt := 10) hx hb dX11_run_4 (by decide) (fun _ => ?_) (fun c_0 => absurd c_0 (zD_ne zk_1 zk_z (by decide)))
    refine lv_aload_n hx hb dX11_run_10 rfl (lv_at hl 0 rfl) ?_
    refine z_callVv (k := 0) (As := []) (rest := []) hx hb hml hown ht (mk_X11_asItIs l D q cA F _ _ _ hI ) hw_6_181 hmX11_asItIs ⟨rfl, rfl⟩ (na := 0) rfl (by decide +kernel) (by decide) (by decide) rfl rfl hK hP hD hS hA hl.1 rfl (Nat.le_of_ble_eq_true rfl) ⟨Nat.zero_le _, Nat.zero_le _⟩ dX11_run_11 (fun I_2 R_2 J_2 H locs hp_2 hP hD hS _ _ => ?_)
    obtain ⟨hv_2, hj_2, hs_2⟩ := hp_2
    try dsimp only at hj_2
    subst J_2
    refine lv_aload_n hx hb dX11_run_14 rfl (lv_at hl 0 rfl) ?_
    refine z_callVi (k := 0) (As := []) (rest := []) hx hb hml hown ht (mk_X11_failedSet l D q cA F _ _ _ hv_2 ) hw_7_204 hmX11_failedSet ⟨rfl, rfl⟩ (na := 0) rfl (by decide +kernel) (by decide) (by decide) rfl rfl hK hP hD hS hA hl.1 rfl (Nat.le_of_ble_eq_true rfl) ⟨Nat.zero_le _, Nat.zero_le _⟩ dX11_run_15 (fun r_3 I_3 R_3 J_3 H locs hp_3 hP hD hS _ _ => ?_)
    obtain ⟨hr_3, hu_3⟩ := hp_3
    cases hu_3
    refine lv_istore_n (lv' := [(1, .int (r_3)), (0, .ref (q 0))]) hx hb dX11_run_18 rfl hl (by decide) rfl (fun ls hl => ?_)
    refine lv_iconst (v := nI 0) hx hb dX11_run_19 (by decide +kernel) ?_
    refine lv_istore_n (lv' := [(2, .int (nI 0)), (1, .int (r_3)), (0, .ref (q 0))]) hx hb dX11_run_20 rfl hl (by decide) rfl (fun ls hl => ?_)
    have loop_47 : ∀ N : Nat, ∀ x_45 : Int32, zR 0 24 x_45 → ∀ R_46 : Nat → Nat → Int32, mInv F (I_2, R_46, J) → (2147483648 - (x_45).toInt).toNat < N → ∀ (H : Heap) (locs : List Loc), va_P D vwCl (zw 25 q (zMd q cA) I_2 R_46 J) H → va_D (zA 25 q sz) (zw 25 q (zMd q cA) I_2 R_46 J) → va_S (zA 25 q sz) s.heap H locs → ∀ ls : Array Slot, lv_has ls 4 [(0, .ref (q 0)), (1, .int (r_3)), (2, .int (x_45))] → W p l e ({ frames := 6, cells := 0, slots := 0, locals := 155 } : Room) s m ([.ref (q 0)] : List Value).toArray below meth c H locs 0 0 (MQ below (va_Qi (fun _ u => (mInv F u ∧ u.2.2 = J)) (zB D vwCl 25 q (zMd q cA) sz) (zA 25 q sz)) ([.ref (q 0)] : List Value).toArray s 0 0 (zA 25 q sz)) (F0 m 21 ls []) := by
      intro N
      induction N with
      | zero => intro x_45 hx_45 R_46 hI_46 hN; exact absurd hN (Nat.not_lt_zero _)
      | succ N ih_49 =>
        intro x_45 hx_45 R_46 hI_46 hN_48 H locs hP hD hS ls hl
        refine lv_iload_n hx hb dX11_run_21 rfl (lv_at hl 2 rfl) ?_
        refine lv_aload_n hx hb dX11_run_22 rfl (lv_at hl 0 rfl) ?_
        refine z_get hx hb ht hown hK hP ziX11 rfl 0 (by decide) 26 (by decide) hw_5_213 rfl (v := .int (I_2 0 26)) rfl dX11_run_23 ?_
        have f_50 : zR 0 24 (I_2 0 26) := mI hv_2 0 26
        refine lv_icmp_ge (tgt := 55) hx hb dX11_run_26 (by decide) (fun c_51 => ?_) (fun c_51 => ?_)
        · have t_c_51 := z_leT c_51
          refine lv_aload_n hx hb dX11_run_55 rfl (lv_at hl 0 rfl) ?_
          refine z_callVi (k := 0) (As := []) (rest := []) hx hb hml hown ht (mk_X11_night0 l D q cA F _ _ _ hI_46 ) hw_6_222 hmX11_night0 ⟨rfl, rfl⟩ (na := 0) rfl (by decide +kernel) (by decide) (by decide) rfl rfl hK hP hD hS hA hl.1 rfl (Nat.le_of_ble_eq_true rfl) ⟨Nat.zero_le _, Nat.zero_le _⟩ dX11_run_56 (fun r_59 I_59 R_59 J_59 H locs hp_59 hP hD hS _ _ => ?_)
          obtain ⟨hv_59, hj_59, hk26_59⟩ := hp_59
          try dsimp only at hj_59
          subst J_59
          refine lv_pop hx hb dX11_run_59 rfl ?_
          refine lv_iconst (v := nI 0) hx hb dX11_run_60 (by decide +kernel) ?_
          refine lv_istore_n (lv' := [(2, .int (nI 0)), (0, .ref (q 0)), (1, .int (r_3))]) hx hb dX11_run_61 rfl hl (by decide) rfl (fun ls hl => ?_)
          refine lv_iconst (v := nI 0) hx hb dX11_run_62 (by decide +kernel) ?_
          refine lv_istore_n (lv' := [(3, .int (nI 0)), (2, .int (nI 0)), (0, .ref (q 0)), (1, .int (r_3))]) hx hb dX11_run_63 rfl hl (by decide) rfl (fun ls hl => ?_)
          have loop_111 : ∀ N : Nat, ∀ x_109 : Int32, ∀ x_110 : Int32, zR 0 24 x_110 → (2147483648 - (x_110).toInt).toNat < N → ∀ (H : Heap) (locs : List Loc), va_P D vwCl (zw 25 q (zMd q cA) I_59 R_59 J) H → va_D (zA 25 q sz) (zw 25 q (zMd q cA) I_59 R_59 J) → va_S (zA 25 q sz) s.heap H locs → ∀ ls : Array Slot, lv_has ls 4 [(0, .ref (q 0)), (1, .int (r_3)), (2, .int (x_109)), (3, .int (x_110))] → W p l e ({ frames := 6, cells := 0, slots := 0, locals := 155 } : Room) s m ([.ref (q 0)] : List Value).toArray below meth c H locs 0 0 (MQ below (va_Qi (fun _ u => (mInv F u ∧ u.2.2 = J)) (zB D vwCl 25 q (zMd q cA) sz) (zA 25 q sz)) ([.ref (q 0)] : List Value).toArray s 0 0 (zA 25 q sz)) (F0 m 64 ls []) := by
            intro N
            induction N with
            | zero => intro x_109 x_110 hx_110 hN; exact absurd hN (Nat.not_lt_zero _)
            | succ N ih_113 =>
              intro x_109 x_110 hx_110 hN_112 H locs hP hD hS ls hl
              refine lv_iload_n hx hb dX11_run_64 rfl (lv_at hl 3 rfl) ?_
              refine lv_aload_n hx hb dX11_run_65 rfl (lv_at hl 0 rfl) ?_
              refine z_get hx hb ht hown hK hP ziX11 rfl 0 (by decide) 26 (by decide) hw_5_213 rfl (v := .int (I_59 0 26)) rfl dX11_run_66 ?_
              refine z_eqi (y := I_2 0 26) hk26_59 ?_
              refine lv_icmp_ge (tgt := 100) hx hb dX11_run_69 (by decide) (fun c_114 => ?_) (fun c_114 => ?_)
              · have t_c_114 := z_leT c_114
                refine lv_iload_n hx hb dX11_run_100 rfl (lv_at hl 2 rfl) ?_
                exact z_iret (v := x_109) hx hb hr hlocks hP hD hS dX11_run_101 ⟨hv_59, rfl⟩
              · have t_c_114 := z_leF c_114
                have f_115 : zR 0 23 (x_110) := zR_ltx t_c_114 hx_110 f_50 (by decide)
                have f_116 : zR 1 24 (I_2 0 26) := zR_lty t_c_114 hx_110 f_50 (by decide)
                refine lv_iload_n hx hb dX11_run_72 rfl (lv_at hl 2 rfl) ?_
                refine lv_aload_n hx hb dX11_run_73 rfl (lv_at hl 0 rfl) ?_
                refine z_callVi (k := 0) (As := []) (rest := [.int (x_109)]) hx hb hml hown ht (mk_X11_failedSet l D q cA F _ _ _ hv_59 ) hw_7_204 hmX11_failedSet ⟨rfl, rfl⟩ (na := 0) rfl (by decide +kernel) (by decide) (by decide) rfl rfl hK hP hD hS hA hl.1 rfl (Nat.le_of_ble_eq_true rfl) ⟨Nat.zero_le _, Nat.zero_le _⟩ dX11_run_74 (fun r_117 I_117 R_117 J_117 H locs hp_117 hP hD hS _ _ => ?_)
                obtain ⟨hr_117, hu_117⟩ := hp_117
                cases hu_117
                refine lv_iload_n hx hb dX11_run_77 rfl (lv_at hl 1 rfl) ?_
                refine lv_iconst (v := (-1)) hx hb dX11_run_78 (by decide +kernel) ?_
                refine lv_ixor hx hb dX11_run_79 ?_
                refine z_any (fun v_118 => ?_)
                refine lv_iand hx hb dX11_run_80 ?_
                refine z_rng (a := 0) (b := 16777215) (zR_andl hr_117 (by decide)) (fun v_119 hv_119 => ?_)
                refine lv_iload_n hx hb dX11_run_81 rfl (lv_at hl 3 rfl) ?_
                refine z_callSi (As := [.int (v_119), .int (x_110)]) (rest := [.int (x_109)]) hx hb hml hown ht (mk_X11_bit_1 l D q cA F _ _ _ hv_59 (v_119) (x_110) f_115) hw_7_220 hmX11_bit ⟨rfl, rfl⟩ (na := 2) rfl (by decide +kernel) (by decide) hK hP hD hS hA hl.1 rfl (Nat.le_of_ble_eq_true rfl) ⟨Nat.zero_le _, Nat.zero_le _⟩ dX11_run_82 (fun r_120 I_120 R_120 J_120 H locs hp_120 hP hD hS _ _ => ?_)
                obtain ⟨hr_120, hu_120⟩ := hp_120
                cases hu_120
                refine lv_aload_n hx hb dX11_run_85 rfl (lv_at hl 0 rfl) ?_
                refine z_get hx hb ht hown hK hP ziX11 rfl 0 (by decide) 18 (by decide) hw_5_205 rfl (v := .ref (q 10)) rfl dX11_run_86 ?_
                refine lv_iload_n hx hb dX11_run_89 rfl (lv_at hl 3 rfl) ?_
                refine z_iald hx hb hK hP 10 (by decide) 9 rfl rfl (zR_vin f_115 (by decide)) dX11_run_90 ?_
                refine z_eqi (y := R_59 10 (x_110).toNatClampNeg) rfl ?_
                have f_121 : zR 0 4 (R_59 10 (x_110).toNatClampNeg) := mR hv_59 10 (x_110).toNatClampNeg
                refine lv_ishl hx hb dX11_run_91 ?_
                refine z_any (fun v_122 => ?_)
                refine lv_ior hx hb dX11_run_92 ?_
                refine z_any (fun v_123 => ?_)
                refine lv_istore_n (lv' := [(2, .int (v_123)), (0, .ref (q 0)), (1, .int (r_3)), (3, .int (x_110))]) hx hb dX11_run_93 rfl hl (by decide) rfl (fun ls hl => ?_)
                obtain ⟨v_124, ev_124⟩ : ∃ y : Int32, y = x_110 + nI 1 := ⟨_, rfl⟩
                have hv_124 : zR 1 24 v_124 := ev_124 ▸ zR_add f_115 zk_1 (by decide)
                have mv_124 : v_124.toInt = (x_110).toInt + 1 := by rw [ev_124, zR_addE f_115 zk_1 (by decide)]; rfl
                refine lv_iinc (v := v_124) (lv' := [(3, .int (v_124)), (2, .int (v_123)), (0, .ref (q 0)), (1, .int (r_3))]) hx hb dX11_run_94 hl (k := 3) rfl (ev_124 ▸ rfl) (by decide) rfl (fun ls hl => ?_)
                refine lv_goto (tgt := 64) hx hb dX11_run_97 (by decide) ?_
                exact ih_113 (v_123) (v_124) (zR_w hv_124 (by decide)) (z2_up mv_124 (by decide) hN_112) _ _ hP hD hS _ (lv_sub hl [2, 3, 1, 0] rfl)
          exact loop_111 _ (nI 0) (nI 0) (zR_w zk_0 (by decide)) (Nat.lt_succ_self _) _ _ hP hD hS _ (lv_sub hl [2, 3, 1, 0] rfl)
        · have t_c_51 := z_leF c_51
          have f_125 : zR 0 23 (x_45) := zR_ltx t_c_51 hx_45 f_50 (by decide)
          have f_126 : zR 1 24 (I_2 0 26) := zR_lty t_c_51 hx_45 f_50 (by decide)
          refine lv_aload_n hx hb dX11_run_29 rfl (lv_at hl 0 rfl) ?_
          refine lv_iload_n hx hb dX11_run_30 rfl (lv_at hl 2 rfl) ?_
          have t_131 : ∀ R_130 : Nat → Nat → Int32, mInv F (I_2, R_130, J) → ∀ (H : Heap) (locs : List Loc), va_P D vwCl (zw 25 q (zMd q cA) I_2 R_130 J) H → va_D (zA 25 q sz) (zw 25 q (zMd q cA) I_2 R_130 J) → va_S (zA 25 q sz) s.heap H locs → ∀ ls : Array Slot, lv_has ls 4 [(0, .ref (q 0)), (1, .int (r_3)), (2, .int (x_45))] → W p l e ({ frames := 6, cells := 0, slots := 0, locals := 155 } : Room) s m ([.ref (q 0)] : List Value).toArray below meth c H locs 0 0 (MQ below (va_Qi (fun _ u => (mInv F u ∧ u.2.2 = J)) (zB D vwCl 25 q (zMd q cA) sz) (zA 25 q sz)) ([.ref (q 0)] : List Value).toArray s 0 0 (zA 25 q sz)) (F0 m 49 ls []) := by
            intro R_130 hI_130 H locs hP hD hS ls hl
            obtain ⟨v_132, ev_132⟩ : ∃ y : Int32, y = x_45 + nI 1 := ⟨_, rfl⟩
            have hv_132 : zR 1 24 v_132 := ev_132 ▸ zR_add f_125 zk_1 (by decide)
            have mv_132 : v_132.toInt = (x_45).toInt + 1 := by rw [ev_132, zR_addE f_125 zk_1 (by decide)]; rfl
            refine lv_iinc (v := v_132) (lv' := [(2, .int (v_132)), (0, .ref (q 0)), (1, .int (r_3))]) hx hb dX11_run_49 hl (k := 2) rfl (ev_132 ▸ rfl) (by decide) rfl (fun ls hl => ?_)
            refine lv_goto (tgt := 21) hx hb dX11_run_52 (by decide) ?_
            exact ih_49 (v_132) (zR_w hv_132 (by decide)) _ hI_130 (z2_up mv_132 (by decide) hN_48) _ _ hP hD hS _ (lv_sub hl [1, 2, 0] rfl)
          refine z_callVi (k := 0) (As := [.int (x_45)]) (rest := []) hx hb hml hown ht (mk_X11_isOpen_1 l D q cA F _ _ _ hI_46 (x_45) f_125) hw_6_230 hmX11_isOpen ⟨rfl, rfl⟩ (na := 1) rfl (by decide +kernel) (by decide) (by decide) rfl rfl hK hP hD hS hA hl.1 rfl (Nat.le_of_ble_eq_true rfl) ⟨Nat.zero_le _, Nat.zero_le _⟩ dX11_run_31 (fun r_127 I_127 R_127 J_127 H locs hp_127 hP hD hS _ _ => ?_)
          rcases hp_127 with ⟨rfl, hu_127⟩ | ⟨rfl, hu_127⟩
          · cases hu_127
            refine lv_if_eq (tgt := 49) hx hb dX11_run_34 (by decide) (fun c_0 => absurd c_0 (zD_ne zk_1 zk_z (by decide))) (fun _ => ?_)
            refine lv_aload_n hx hb dX11_run_37 rfl (lv_at hl 0 rfl) ?_
            refine z_get hx hb ht hown hK hP ziX11 rfl 0 (by decide) 21 (by decide) hw_5_208 rfl (v := .ref (q 13)) rfl dX11_run_38 ?_
            refine lv_iload_n hx hb dX11_run_41 rfl (lv_at hl 2 rfl) ?_
            refine lv_aload_n hx hb dX11_run_42 rfl (lv_at hl 0 rfl) ?_
            refine z_get hx hb ht hown hK hP ziX11 rfl 0 (by decide) 27 (by decide) hw_5_214 rfl (v := .int (I_2 0 27)) rfl dX11_run_43 ?_
            refine lv_iconst (v := nI 1) hx hb dX11_run_46 (by decide +kernel) ?_
            refine lv_iadd hx hb dX11_run_47 ?_
            refine z_any (fun v_133 => ?_)
            refine z_iast hx hb hK hP hD hS 13 (by decide) 12 (fun _ => rfl) rfl (zR_vin f_125 (by decide)) dX11_run_48 (fun H locs hP hD hS => ?_)
            have hI_134 := mInv_R hI_46 13 (x_45).toNatClampNeg (v_133) (zR_any _) rfl
            exact t_131 _ hI_134 _ _ hP hD hS _ (lv_sub hl [0, 1, 2] rfl)
          · cases hu_127
            refine lv_if_eq (tgt := 49) hx hb dX11_run_34 (by decide) (fun _ => ?_) (fun c_0 => absurd (zD_eq zk_0 zk_z) c_0)
            exact t_131 _ hI_46 _ _ hP hD hS _ (lv_sub hl [0, 1, 2] rfl)
    exact loop_47 _ (nI 0) (zR_w zk_0 (by decide)) _ hv_2 (Nat.lt_succ_self _) _ _ hP hD hS _ (lv_sub hl [2, 1, 0] rfl)
  · cases hu_1
    refine lv_if_ne (tgt := 10) hx hb dX11_run_4 (by decide) (fun c_0 => absurd (zD_eq zk_0 zk_z) c_0) (fun _ => ?_)
    refine lv_bipush (v := (-2)) hx hb dX11_run_7 (by decide +kernel) ?_
    exact z_iret (v := (-2)) hx hb hr hlocks hP hD hS dX11_run_9 ⟨hI, rfl⟩
set_option maxHeartbeats 4000000 in
set_option maxRecDepth 100000 in
theorem mk_X11_hitOf (l : Launch) (D : va_G) (q : Nat → Nat) (cA : Nat → ClassId) (F : Nat → Nat → Int32) (I R : Nat → Nat → Int32) (J : Nat → Nat → Int64) (hI : mInv F (I, R, J)) (pa0 : Int32) (hpa0 : zR 0 4 pa0) : zMi l D vwCl (zMtys cA) 25 q (zMd q cA) yX11_hitOf cX11_hitOf 6 (some .int) ({ frames := 6, cells := 0, slots := 0, locals := 155 } : Room) [.ref (q 0), .int (pa0)] (I, R, J) (fun r u => zR 0 2147483647 r ∧ (mInv F u ∧ u.2.2 = J)) := by
  intro sz
  refine z_body (by decide +kernel) (Nat.le_of_ble_eq_true rfl) (fun p e s m below meth c ls hx hb hml hr ht hown hlocks hsz hK hP hD hS hl => ?_)
  have hA : ∀ a, s.heap.size ≤ a → zA 25 q sz a := fun a h => Or.inr (hsz ▸ h)
  have hl : lv_has ls 6 [(0, .ref (q 0)), (1, .int (pa0))] := hl
  refine lv_aload_n hx hb dX11_hitOf_0 rfl (lv_at hl 0 rfl) ?_
  refine z_callVv (k := 0) (As := []) (rest := []) hx hb hml hown ht (mk_X11_asItIs l D q cA F _ _ _ hI ) hw_6_181 hmX11_asItIs ⟨rfl, rfl⟩ (na := 0) rfl (by decide +kernel) (by decide) (by decide) rfl rfl hK hP hD hS hA hl.1 rfl (Nat.le_of_ble_eq_true rfl) ⟨Nat.zero_le _, Nat.zero_le _⟩ dX11_hitOf_1 (fun I_1 R_1 J_1 H locs hp_1 hP hD hS _ _ => ?_)
  obtain ⟨hv_1, hj_1, hs_1⟩ := hp_1
  try dsimp only at hj_1
  subst J_1
  refine lv_aload_n hx hb dX11_hitOf_4 rfl (lv_at hl 0 rfl) ?_
  refine lv_iconst (v := (-1)) hx hb dX11_hitOf_5 (by decide +kernel) ?_
  refine z_putI hx hb ht hown hK hP hD hS ziX11 tyX11 tyX11_ok nmX11 rfl 0 (by decide) 33 (by decide) hw_5_220 rfl (v := (-1)) rfl rfl rfl (Nat.le_of_ble_eq_true rfl) rfl dX11_hitOf_6 (fun H locs hP hD hS => ?_)
  have hI_2 := mInv_I hv_1 0 33 ((-1)) (zR_any ((-1))) rfl
  refine lv_iconst (v := nI 0) hx hb dX11_hitOf_9 (by decide +kernel) ?_
  refine lv_istore_n (lv' := [(2, .int (nI 0)), (0, .ref (q 0)), (1, .int (pa0))]) hx hb dX11_hitOf_10 rfl hl (by decide) rfl (fun ls hl => ?_)
  refine lv_iconst (v := nI 0) hx hb dX11_hitOf_11 (by decide +kernel) ?_
  refine lv_istore_n (lv' := [(3, .int (nI 0)), (2, .int (nI 0)), (0, .ref (q 0)), (1, .int (pa0))]) hx hb dX11_hitOf_12 rfl hl (by decide) rfl (fun ls hl => ?_)
  have loop_312 : ∀ N : Nat, ∀ x_309 : Int32, zR 0 2147483647 x_309 → ∀ x_310 : Int32, zR 0 5 x_310 → ∀ I_311 : Nat → Nat → Int32, mInv F (I_311, R_1, J) → (2147483648 - (x_310).toInt).toNat < N → ∀ (H : Heap) (locs : List Loc), va_P D vwCl (zw 25 q (zMd q cA) I_311 R_1 J) H → va_D (zA 25 q sz) (zw 25 q (zMd q cA) I_311 R_1 J) → va_S (zA 25 q sz) s.heap H locs → ∀ ls : Array Slot, lv_has ls 6 [(0, .ref (q 0)), (1, .int (pa0)), (2, .int (x_309)), (3, .int (x_310))] → W p l e ({ frames := 6, cells := 0, slots := 0, locals := 155 } : Room) s m ([.ref (q 0), .int (pa0)] : List Value).toArray below meth c H locs 0 0 (MQ below (va_Qi (fun r u => zR 0 2147483647 r ∧ (mInv F u ∧ u.2.2 = J)) (zB D vwCl 25 q (zMd q cA) sz) (zA 25 q sz)) ([.ref (q 0), .int (pa0)] : List Value).toArray s 0 0 (zA 25 q sz)) (F0 m 13 ls []) := by
    intro N
    induction N with
    | zero => intro x_309 hx_309 x_310 hx_310 I_311 hI_311 hN; exact absurd hN (Nat.not_lt_zero _)
    | succ N ih_314 =>
      intro x_309 hx_309 x_310 hx_310 I_311 hI_311 hN_313 H locs hP hD hS ls hl
      refine lv_iload_n hx hb dX11_hitOf_13 rfl (lv_at hl 3 rfl) ?_
      refine lv_aload_n hx hb dX11_hitOf_14 rfl (lv_at hl 0 rfl) ?_
      refine z_get hx hb ht hown hK hP ziX11 rfl 0 (by decide) 1 (by decide) hw_5_188 rfl (v := .ref (q 1)) rfl dX11_hitOf_15 ?_
      refine lv_iconst (v := nI 3) hx hb dX11_hitOf_18 (by decide +kernel) ?_
      refine z_iald hx hb hK hP 1 (by decide) 0 rfl rfl (zR_vin zk_3 (by decide)) dX11_hitOf_19 ?_
      refine z_eqi (y := R_1 1 (nI 3).toNatClampNeg) rfl ?_
      have f_315 : zR 0 5 (R_1 1 (nI 3).toNatClampNeg) := mR hv_1 1 3
      refine lv_icmp_ge (tgt := 118) hx hb dX11_hitOf_20 (by decide) (fun c_316 => ?_) (fun c_316 => ?_)
      · have t_c_316 := z_leT c_316
        refine lv_iload_n hx hb dX11_hitOf_118 rfl (lv_at hl 2 rfl) ?_
        exact z_iret (v := x_309) hx hb hr hlocks hP hD hS dX11_hitOf_119 ⟨hx_309, ⟨hI_311, rfl⟩⟩
      · have t_c_316 := z_leF c_316
        have f_317 : zR 0 4 (x_310) := zR_ltx t_c_316 hx_310 f_315 (by decide)
        have f_318 : zR 1 5 (R_1 1 (nI 3).toNatClampNeg) := zR_lty t_c_316 hx_310 f_315 (by decide)
        refine lv_iconst (v := nI 0) hx hb dX11_hitOf_23 (by decide +kernel) ?_
        refine lv_istore (lv' := [(4, .int (nI 0)), (0, .ref (q 0)), (1, .int (pa0)), (2, .int (x_309)), (3, .int (x_310))]) hx hb dX11_hitOf_24 hl (by decide) rfl (fun ls hl => ?_)
        refine lv_iconst (v := nI 0) hx hb dX11_hitOf_26 (by decide +kernel) ?_
        refine lv_istore (lv' := [(5, .int (nI 0)), (4, .int (nI 0)), (0, .ref (q 0)), (1, .int (pa0)), (2, .int (x_309)), (3, .int (x_310))]) hx hb dX11_hitOf_27 hl (by decide) rfl (fun ls hl => ?_)
        have loop_378 : ∀ N : Nat, ∀ x_376 : Int32, ∀ x_377 : Int32, zR 0 24 x_377 → (2147483648 - (x_377).toInt).toNat < N → ∀ (H : Heap) (locs : List Loc), va_P D vwCl (zw 25 q (zMd q cA) I_311 R_1 J) H → va_D (zA 25 q sz) (zw 25 q (zMd q cA) I_311 R_1 J) → va_S (zA 25 q sz) s.heap H locs → ∀ ls : Array Slot, lv_has ls 6 [(0, .ref (q 0)), (1, .int (pa0)), (2, .int (x_309)), (3, .int (x_310)), (4, .int (x_376)), (5, .int (x_377))] → W p l e ({ frames := 6, cells := 0, slots := 0, locals := 155 } : Room) s m ([.ref (q 0), .int (pa0)] : List Value).toArray below meth c H locs 0 0 (MQ below (va_Qi (fun r u => zR 0 2147483647 r ∧ (mInv F u ∧ u.2.2 = J)) (zB D vwCl 25 q (zMd q cA) sz) (zA 25 q sz)) ([.ref (q 0), .int (pa0)] : List Value).toArray s 0 0 (zA 25 q sz)) (F0 m 29 ls []) := by
          intro N
          induction N with
          | zero => intro x_376 x_377 hx_377 hN; exact absurd hN (Nat.not_lt_zero _)
          | succ N ih_380 =>
            intro x_376 x_377 hx_377 hN_379 H locs hP hD hS ls hl
            refine lv_iload hx hb dX11_hitOf_29 (lv_at hl 5 rfl) ?_
            refine lv_aload_n hx hb dX11_hitOf_31 rfl (lv_at hl 0 rfl) ?_
            refine z_get hx hb ht hown hK hP ziX11 rfl 0 (by decide) 26 (by decide) hw_5_213 rfl (v := .int (I_311 0 26)) rfl dX11_hitOf_32 ?_
            have f_381 : zR 0 24 (I_311 0 26) := mI hI_311 0 26
            refine lv_icmp_ge (tgt := 90) hx hb dX11_hitOf_35 (by decide) (fun c_382 => ?_) (fun c_382 => ?_)
            · have t_c_382 := z_leT c_382
              refine lv_iload_n hx hb dX11_hitOf_90 rfl (lv_at hl 3 rfl) ?_
              refine lv_iload_n hx hb dX11_hitOf_91 rfl (lv_at hl 1 rfl) ?_
              have t_401 : ∀ x_399 : Int32, zR 0 2147483647 x_399 → ∀ I_400 : Nat → Nat → Int32, mInv F (I_400, R_1, J) → ∀ (H : Heap) (locs : List Loc), va_P D vwCl (zw 25 q (zMd q cA) I_400 R_1 J) H → va_D (zA 25 q sz) (zw 25 q (zMd q cA) I_400 R_1 J) → va_S (zA 25 q sz) s.heap H locs → ∀ ls : Array Slot, lv_has ls 6 [(0, .ref (q 0)), (1, .int (pa0)), (2, .int (x_399)), (3, .int (x_310)), (4, .int (x_376)), (5, .int (x_377))] → W p l e ({ frames := 6, cells := 0, slots := 0, locals := 155 } : Room) s m ([.ref (q 0), .int (pa0)] : List Value).toArray below meth c H locs 0 0 (MQ below (va_Qi (fun r u => zR 0 2147483647 r ∧ (mInv F u ∧ u.2.2 = J)) (zB D vwCl 25 q (zMd q cA) sz) (zA 25 q sz)) ([.ref (q 0), .int (pa0)] : List Value).toArray s 0 0 (zA 25 q sz)) (F0 m 112 ls []) := by
                intro x_399 hx_399 I_400 hI_400 H locs hP hD hS ls hl
                obtain ⟨v_402, ev_402⟩ : ∃ y : Int32, y = x_310 + nI 1 := ⟨_, rfl⟩
                have hv_402 : zR 1 5 v_402 := ev_402 ▸ zR_add f_317 zk_1 (by decide)
                have mv_402 : v_402.toInt = (x_310).toInt + 1 := by rw [ev_402, zR_addE f_317 zk_1 (by decide)]; rfl
                refine lv_iinc (v := v_402) (lv' := [(3, .int (v_402)), (0, .ref (q 0)), (1, .int (pa0)), (2, .int (x_399)), (4, .int (x_376)), (5, .int (x_377))]) hx hb dX11_hitOf_112 hl (k := 3) rfl (ev_402 ▸ rfl) (by decide) rfl (fun ls hl => ?_)
                refine lv_goto (tgt := 13) hx hb dX11_hitOf_115 (by decide) ?_
                exact ih_314 (x_399) hx_399 (v_402) (zR_w hv_402 (by decide)) _ hI_400 (z2_up mv_402 (by decide) hN_313) _ _ hP hD hS _ (lv_sub hl [1, 2, 3, 0] rfl)
              refine lv_icmp_eq (tgt := 112) hx hb dX11_hitOf_92 (by decide) (fun c_394 => ?_) (fun c_394 => ?_)
              · have t_c_394 := z_eqT c_394
                exact t_401 (x_309) hx_309 _ hI_311 _ _ hP hD hS _ (lv_sub hl [0, 1, 2, 3, 4, 5] rfl)
              · have t_c_394 := z_eqF c_394
                refine lv_iload hx hb dX11_hitOf_95 (lv_at hl 4 rfl) ?_
                refine lv_iload_n hx hb dX11_hitOf_97 rfl (lv_at hl 2 rfl) ?_
                refine lv_icmp_gt (tgt := 104) hx hb dX11_hitOf_98 (by decide) (fun c_403 => ?_) (fun c_403 => ?_)
                · have t_c_403 := z_ltT c_403
                  have f_404 : zR 0 2147483646 (x_309) := zR_ltx t_c_403 hx_309 (zR_any (x_376)) (by decide)
                  have f_405 : zR 1 2147483647 (x_376) := zR_lty t_c_403 hx_309 (zR_any (x_376)) (by decide)
                  refine lv_iload hx hb dX11_hitOf_104 (lv_at hl 4 rfl) ?_
                  refine lv_istore_n (lv' := [(2, .int (x_376)), (0, .ref (q 0)), (1, .int (pa0)), (3, .int (x_310)), (4, .int (x_376)), (5, .int (x_377))]) hx hb dX11_hitOf_106 rfl hl (by decide) rfl (fun ls hl => ?_)
                  refine lv_aload_n hx hb dX11_hitOf_107 rfl (lv_at hl 1 rfl) ?_
                  refine lv_iload_n hx hb dX11_hitOf_108 rfl (lv_at hl 3 rfl) ?_
                  refine z_putI hx hb ht hown hK hP hD hS ziX11 tyX11 tyX11_ok nmX11 rfl 0 (by decide) 33 (by decide) hw_5_220 rfl (v := x_310) rfl rfl rfl (Nat.le_of_ble_eq_true rfl) rfl dX11_hitOf_109 (fun H locs hP hD hS => ?_)
                  have hI_406 := mInv_I hI_311 0 33 (x_310) (zR_any (x_310)) rfl
                  exact t_401 (x_376) (zR_w f_405 (by decide)) _ hI_406 _ _ hP hD hS _ (lv_sub hl [1, 2, 0, 3, 4, 5] rfl)
                · have t_c_403 := z_ltF c_403
                  refine lv_goto (tgt := 112) hx hb dX11_hitOf_101 (by decide) ?_
                  exact t_401 (x_309) hx_309 _ hI_311 _ _ hP hD hS _ (lv_sub hl [0, 1, 2, 3, 4, 5] rfl)
            · have t_c_382 := z_leF c_382
              have f_407 : zR 0 23 (x_377) := zR_ltx t_c_382 hx_377 f_381 (by decide)
              have f_408 : zR 1 24 (I_311 0 26) := zR_lty t_c_382 hx_377 f_381 (by decide)
              refine lv_iload hx hb dX11_hitOf_38 (lv_at hl 4 rfl) ?_
              refine lv_aload_n hx hb dX11_hitOf_40 rfl (lv_at hl 0 rfl) ?_
              refine lv_iload hx hb dX11_hitOf_41 (lv_at hl 5 rfl) ?_
              have t_416 : ∀ x_415 : Int32, ∀ (H : Heap) (locs : List Loc), va_P D vwCl (zw 25 q (zMd q cA) I_311 R_1 J) H → va_D (zA 25 q sz) (zw 25 q (zMd q cA) I_311 R_1 J) → va_S (zA 25 q sz) s.heap H locs → ∀ ls : Array Slot, lv_has ls 6 [(0, .ref (q 0)), (1, .int (pa0)), (2, .int (x_309)), (3, .int (x_310)), (4, .int (x_376)), (5, .int (x_377))] → W p l e ({ frames := 6, cells := 0, slots := 0, locals := 155 } : Room) s m ([.ref (q 0), .int (pa0)] : List Value).toArray below meth c H locs 0 0 (MQ below (va_Qi (fun r u => zR 0 2147483647 r ∧ (mInv F u ∧ u.2.2 = J)) (zB D vwCl 25 q (zMd q cA) sz) (zA 25 q sz)) ([.ref (q 0), .int (pa0)] : List Value).toArray s 0 0 (zA 25 q sz)) (F0 m 81 ls [.int (x_415), .int (x_376)]) := by
                intro x_415 H locs hP hD hS ls hl
                refine lv_iadd hx hb dX11_hitOf_81 ?_
                refine z_any (fun v_417 => ?_)
                refine lv_istore (lv' := [(4, .int (v_417)), (0, .ref (q 0)), (1, .int (pa0)), (2, .int (x_309)), (3, .int (x_310)), (5, .int (x_377))]) hx hb dX11_hitOf_82 hl (by decide) rfl (fun ls hl => ?_)
                obtain ⟨v_418, ev_418⟩ : ∃ y : Int32, y = x_377 + nI 1 := ⟨_, rfl⟩
                have hv_418 : zR 1 24 v_418 := ev_418 ▸ zR_add f_407 zk_1 (by decide)
                have mv_418 : v_418.toInt = (x_377).toInt + 1 := by rw [ev_418, zR_addE f_407 zk_1 (by decide)]; rfl
                refine lv_iinc (v := v_418) (lv' := [(5, .int (v_418)), (4, .int (v_417)), (0, .ref (q 0)), (1, .int (pa0)), (2, .int (x_309)), (3, .int (x_310))]) hx hb dX11_hitOf_84 hl (k := 5) rfl (ev_418 ▸ rfl) (by decide) rfl (fun ls hl => ?_)
                refine lv_goto (tgt := 29) hx hb dX11_hitOf_87 (by decide) ?_
                exact ih_380 (v_417) (v_418) (zR_w hv_418 (by decide)) (z2_up mv_418 (by decide) hN_379) _ _ hP hD hS _ (lv_sub hl [2, 3, 4, 5, 1, 0] rfl)
              refine z_callVi (k := 0) (As := [.int (x_377)]) (rest := [.int (x_376)]) hx hb hml hown ht (mk_X11_isOpen_1 l D q cA F _ _ _ hI_311 (x_377) f_407) hw_6_230 hmX11_isOpen ⟨rfl, rfl⟩ (na := 1) rfl (by decide +kernel) (by decide) (by decide) rfl rfl hK hP hD hS hA hl.1 rfl (Nat.le_of_ble_eq_true rfl) ⟨Nat.zero_le _, Nat.zero_le _⟩ dX11_hitOf_43 (fun r_409 I_409 R_409 J_409 H locs hp_409 hP hD hS _ _ => ?_)
              rcases hp_409 with ⟨rfl, hu_409⟩ | ⟨rfl, hu_409⟩
              · cases hu_409
                refine lv_if_eq (tgt := 80) hx hb dX11_hitOf_46 (by decide) (fun c_0 => absurd c_0 (zD_ne zk_1 zk_z (by decide))) (fun _ => ?_)
                refine lv_aload_n hx hb dX11_hitOf_49 rfl (lv_at hl 0 rfl) ?_
                refine z_get hx hb ht hown hK hP ziX11 rfl 0 (by decide) 18 (by decide) hw_5_205 rfl (v := .ref (q 10)) rfl dX11_hitOf_50 ?_
                refine lv_iload hx hb dX11_hitOf_53 (lv_at hl 5 rfl) ?_
                refine z_iald hx hb hK hP 10 (by decide) 9 rfl rfl (zR_vin f_407 (by decide)) dX11_hitOf_55 ?_
                refine z_eqi (y := R_1 10 (x_377).toNatClampNeg) rfl ?_
                have f_419 : zR 0 4 (R_1 10 (x_377).toNatClampNeg) := mR hv_1 10 (x_377).toNatClampNeg
                refine lv_iload_n hx hb dX11_hitOf_56 rfl (lv_at hl 1 rfl) ?_
                refine lv_icmp_ne (tgt := 80) hx hb dX11_hitOf_57 (by decide) (fun c_420 => ?_) (fun c_420 => ?_)
                · have t_c_420 := z_eqF c_420
                  refine lv_iconst (v := nI 0) hx hb dX11_hitOf_80 (by decide +kernel) ?_
                  exact t_416 (nI 0) _ _ hP hD hS _ (lv_sub hl [0, 1, 2, 3, 4, 5] rfl)
                · have t_c_420 := z_eqT c_420
                  refine lv_aload_n hx hb dX11_hitOf_60 rfl (lv_at hl 0 rfl) ?_
                  refine z_get hx hb ht hown hK hP ziX11 rfl 0 (by decide) 20 (by decide) hw_5_207 rfl (v := .ref (q 12)) rfl dX11_hitOf_61 ?_
                  refine lv_iload hx hb dX11_hitOf_64 (lv_at hl 5 rfl) ?_
                  refine z_iald hx hb hK hP 12 (by decide) 11 rfl rfl (zR_vin f_407 (by decide)) dX11_hitOf_66 ?_
                  refine z_eqi (y := R_1 12 (x_377).toNatClampNeg) rfl ?_
                  have f_421 : zR 0 4 (R_1 12 (x_377).toNatClampNeg) := mR hv_1 12 (x_377).toNatClampNeg
                  refine lv_iload_n hx hb dX11_hitOf_67 rfl (lv_at hl 3 rfl) ?_
                  refine lv_icmp_ne (tgt := 80) hx hb dX11_hitOf_68 (by decide) (fun c_422 => ?_) (fun c_422 => ?_)
                  · have t_c_422 := z_eqF c_422
                    refine lv_iconst (v := nI 0) hx hb dX11_hitOf_80 (by decide +kernel) ?_
                    exact t_416 (nI 0) _ _ hP hD hS _ (lv_sub hl [0, 1, 2, 3, 4, 5] rfl)
                  · have t_c_422 := z_eqT c_422
                    refine lv_aload_n hx hb dX11_hitOf_71 rfl (lv_at hl 0 rfl) ?_
                    refine lv_iload hx hb dX11_hitOf_72 (lv_at hl 5 rfl) ?_
                    refine z_callVi (k := 0) (As := [.int (x_377)]) (rest := [.int (x_376)]) hx hb hml hown ht (mk_X11_worthP_1 l D q cA F _ _ _ hI_311 (x_377) f_407) hw_6_206 hmX11_worthP ⟨rfl, rfl⟩ (na := 1) rfl (by decide +kernel) (by decide) (by decide) rfl rfl hK hP hD hS hA hl.1 rfl (Nat.le_of_ble_eq_true rfl) ⟨Nat.zero_le _, Nat.zero_le _⟩ dX11_hitOf_74 (fun r_423 I_423 R_423 J_423 H locs hp_423 hP hD hS _ _ => ?_)
                    cases hp_423
                    refine lv_goto (tgt := 81) hx hb dX11_hitOf_77 (by decide) ?_
                    exact t_416 (r_423) _ _ hP hD hS _ (lv_sub hl [0, 1, 2, 3, 4, 5] rfl)
              · cases hu_409
                refine lv_if_eq (tgt := 80) hx hb dX11_hitOf_46 (by decide) (fun _ => ?_) (fun c_0 => absurd (zD_eq zk_0 zk_z) c_0)
                refine lv_iconst (v := nI 0) hx hb dX11_hitOf_80 (by decide +kernel) ?_
                exact t_416 (nI 0) _ _ hP hD hS _ (lv_sub hl [0, 1, 2, 3, 4, 5] rfl)
        exact loop_378 _ (nI 0) (nI 0) (zR_w zk_0 (by decide)) (Nat.lt_succ_self _) _ _ hP hD hS _ (lv_sub hl [2, 3, 4, 5, 1, 0] rfl)
  exact loop_312 _ (nI 0) (zR_w zk_0 (by decide)) (nI 0) (zR_w zk_0 (by decide)) _ hI_2 (Nat.lt_succ_self _) _ _ hP hD hS _ (lv_sub hl [2, 3, 1, 0] rfl)
set_option maxHeartbeats 4000000 in
set_option maxRecDepth 100000 in
theorem mk_X11_hit (l : Launch) (D : va_G) (q : Nat → Nat) (cA : Nat → ClassId) (F : Nat → Nat → Int32) (I R : Nat → Nat → Int32) (J : Nat → Nat → Int64) (hI : mInv F (I, R, J)) (pa0 : Int32) : zMi l D vwCl (zMtys cA) 25 q (zMd q cA) yX11_hit cX11_hit 2 (some .int) ({ frames := 7, cells := 0, slots := 0, locals := 180 } : Room) [.ref (q 0), .int (pa0)] (I, R, J) (fun r u => zR (-2) 2147483647 r ∧ (mInv F u ∧ u.2.2 = J)) := by
  intro sz
  refine z_body (by decide +kernel) (Nat.le_of_ble_eq_true rfl) (fun p e s m below meth c ls hx hb hml hr ht hown hlocks hsz hK hP hD hS hl => ?_)
  have hA : ∀ a, s.heap.size ≤ a → zA 25 q sz a := fun a h => Or.inr (hsz ▸ h)
  have hl : lv_has ls 2 [(0, .ref (q 0)), (1, .int (pa0))] := hl
  refine lv_aload_n hx hb dX11_hit_0 rfl (lv_at hl 0 rfl) ?_
  refine lv_iload_n hx hb dX11_hit_1 rfl (lv_at hl 1 rfl) ?_
  refine lv_i2l (v := (pa0).toInt64) hx hb dX11_hit_2 rfl ?_
  refine z_callVi (k := 0) (As := [.long ((pa0).toInt64)]) (rest := []) hx hb hml hown ht (mk_X11_isHouse l D q cA F _ _ _ hI ((pa0).toInt64) (zR_i2l (zR_any (pa0)))) hw_6_176 hmX11_isHouse ⟨rfl, rfl⟩ (na := 1) rfl (by decide +kernel) (by decide) (by decide) rfl rfl hK hP hD hS hA hl.1 rfl (Nat.le_of_ble_eq_true rfl) ⟨Nat.zero_le _, Nat.zero_le _⟩ dX11_hit_3 (fun r_1 I_1 R_1 J_1 H locs hp_1 hP hD hS _ _ => ?_)
  rcases hp_1 with ⟨rfl, hu_1, f0_1⟩ | ⟨rfl, hu_1⟩
  · cases hu_1
    have f_2 : zR 0 4 (pa0) := zL_back f0_1
    refine lv_if_eq (tgt := 17) hx hb dX11_hit_6 (by decide) (fun c_0 => absurd c_0 (zD_ne zk_1 zk_z (by decide))) (fun _ => ?_)
    refine lv_aload_n hx hb dX11_hit_9 rfl (lv_at hl 0 rfl) ?_
    refine lv_iload_n hx hb dX11_hit_10 rfl (lv_at hl 1 rfl) ?_
    refine z_callVi (k := 0) (As := [.int (pa0)]) (rest := []) hx hb hml hown ht (mk_X11_hitOf l D q cA F _ _ _ hI (pa0) f_2) hw_7_227 hmX11_hitOf ⟨rfl, rfl⟩ (na := 1) rfl (by decide +kernel) (by decide) (by decide) rfl rfl hK hP hD hS hA hl.1 rfl (Nat.le_of_ble_eq_true rfl) ⟨Nat.zero_le _, Nat.zero_le _⟩ dX11_hit_11 (fun r_3 I_3 R_3 J_3 H locs hp_3 hP hD hS _ _ => ?_)
    obtain ⟨hr_3, hu_3⟩ := hp_3
    obtain ⟨hv_3, hj_3⟩ := hu_3
    try dsimp only at hj_3
    subst J_3
    refine lv_goto (tgt := 19) hx hb dX11_hit_14 (by decide) ?_
    exact z_iret (v := r_3) hx hb hr hlocks hP hD hS dX11_hit_19 ⟨(zR_w hr_3 (by decide)), ⟨hv_3, rfl⟩⟩
  · cases hu_1
    refine lv_if_eq (tgt := 17) hx hb dX11_hit_6 (by decide) (fun _ => ?_) (fun c_0 => absurd (zD_eq zk_0 zk_z) c_0)
    refine lv_bipush (v := (-2)) hx hb dX11_hit_17 (by decide +kernel) ?_
    exact z_iret (v := (-2)) hx hb hr hlocks hP hD hS dX11_hit_19 ⟨(zR_w zk_m2 (by decide)), ⟨hI, rfl⟩⟩
set_option maxHeartbeats 4000000 in
set_option maxRecDepth 100000 in
theorem mk_X11_hits (l : Launch) (D : va_G) (q : Nat → Nat) (cA : Nat → ClassId) (F : Nat → Nat → Int32) (I R : Nat → Nat → Int32) (J : Nat → Nat → Int64) (hI : mInv F (I, R, J)) (pa0 : Int32) : zMi l D vwCl (zMtys cA) 25 q (zMd q cA) yX11_hits cX11_hits 2 (some .int) ({ frames := 7, cells := 0, slots := 0, locals := 180 } : Room) [.ref (q 0), .int (pa0)] (I, R, J) (fun _ u => (mInv F u ∧ u.2.2 = J)) := by
  intro sz
  refine z_body (by decide +kernel) (Nat.le_of_ble_eq_true rfl) (fun p e s m below meth c ls hx hb hml hr ht hown hlocks hsz hK hP hD hS hl => ?_)
  have hA : ∀ a, s.heap.size ≤ a → zA 25 q sz a := fun a h => Or.inr (hsz ▸ h)
  have hl : lv_has ls 2 [(0, .ref (q 0)), (1, .int (pa0))] := hl
  refine lv_aload_n hx hb dX11_hits_0 rfl (lv_at hl 0 rfl) ?_
  refine lv_iload_n hx hb dX11_hits_1 rfl (lv_at hl 1 rfl) ?_
  refine lv_i2l (v := (pa0).toInt64) hx hb dX11_hits_2 rfl ?_
  refine z_callVi (k := 0) (As := [.long ((pa0).toInt64)]) (rest := []) hx hb hml hown ht (mk_X11_isHouse l D q cA F _ _ _ hI ((pa0).toInt64) (zR_i2l (zR_any (pa0)))) hw_6_176 hmX11_isHouse ⟨rfl, rfl⟩ (na := 1) rfl (by decide +kernel) (by decide) (by decide) rfl rfl hK hP hD hS hA hl.1 rfl (Nat.le_of_ble_eq_true rfl) ⟨Nat.zero_le _, Nat.zero_le _⟩ dX11_hits_3 (fun r_1 I_1 R_1 J_1 H locs hp_1 hP hD hS _ _ => ?_)
  rcases hp_1 with ⟨rfl, hu_1, f0_1⟩ | ⟨rfl, hu_1⟩
  · cases hu_1
    have f_2 : zR 0 4 (pa0) := zL_back f0_1
    refine lv_if_ne (tgt := 12) hx hb dX11_hits_6 (by decide) (fun _ => ?_) (fun c_0 => absurd c_0 (zD_ne zk_1 zk_z (by decide)))
    refine lv_aload_n hx hb dX11_hits_12 rfl (lv_at hl 0 rfl) ?_
    refine lv_iload_n hx hb dX11_hits_13 rfl (lv_at hl 1 rfl) ?_
    refine z_callVi (k := 0) (As := [.int (pa0)]) (rest := []) hx hb hml hown ht (mk_X11_hitOf l D q cA F _ _ _ hI (pa0) f_2) hw_7_227 hmX11_hitOf ⟨rfl, rfl⟩ (na := 1) rfl (by decide +kernel) (by decide) (by decide) rfl rfl hK hP hD hS hA hl.1 rfl (Nat.le_of_ble_eq_true rfl) ⟨Nat.zero_le _, Nat.zero_le _⟩ dX11_hits_14 (fun r_3 I_3 R_3 J_3 H locs hp_3 hP hD hS _ _ => ?_)
    obtain ⟨hr_3, hu_3⟩ := hp_3
    obtain ⟨hv_3, hj_3⟩ := hu_3
    try dsimp only at hj_3
    subst J_3
    refine lv_pop hx hb dX11_hits_17 rfl ?_
    refine lv_aload_n hx hb dX11_hits_18 rfl (lv_at hl 0 rfl) ?_
    refine z_get hx hb ht hown hK hP ziX11 rfl 0 (by decide) 33 (by decide) hw_5_220 rfl (v := .int (I_3 0 33)) rfl dX11_hits_19 ?_
    exact z_iret (v := I_3 0 33) hx hb hr hlocks hP hD hS dX11_hits_22 ⟨hv_3, rfl⟩
  · cases hu_1
    refine lv_if_ne (tgt := 12) hx hb dX11_hits_6 (by decide) (fun c_0 => absurd (zD_eq zk_0 zk_z) c_0) (fun _ => ?_)
    refine lv_bipush (v := (-2)) hx hb dX11_hits_9 (by decide +kernel) ?_
    exact z_iret (v := (-2)) hx hb hr hlocks hP hD hS dX11_hits_11 ⟨hI, rfl⟩
set_option maxHeartbeats 4000000 in
set_option maxRecDepth 100000 in
theorem mk_X11_isPlan (l : Launch) (D : va_G) (q : Nat → Nat) (cA : Nat → ClassId) (F : Nat → Nat → Int32) (I R : Nat → Nat → Int32) (J : Nat → Nat → Int64) (hI : mInv F (I, R, J)) (pa0 : Int32) : zMi l D vwCl (zMtys cA) 25 q (zMd q cA) yX11_isPlan cX11_isPlan 1 (some .boolean) ({ frames := 1, cells := 0, slots := 0, locals := 25 } : Room) [.int (pa0)] (I, R, J) (fun r u => (r = nI 1 ∧ u = (I, R, J) ∧ zR 1 4 pa0) ∨ (r = nI 0 ∧ u = (I, R, J) ∧ (pa0.toInt < 1 ∨ 4 < pa0.toInt))) := by
  intro sz
  refine z_body (by decide +kernel) (Nat.le_of_ble_eq_true rfl) (fun p e s m below meth c ls hx hb hml hr ht hown hlocks hsz hK hP hD hS hl => ?_)
  have hA : ∀ a, s.heap.size ≤ a → zA 25 q sz a := fun a h => Or.inr (hsz ▸ h)
  have hl : lv_has ls 1 [(0, .int (pa0))] := hl
  refine lv_iload_n hx hb dX11_isPlan_0 rfl (lv_at hl 0 rfl) ?_
  refine lv_i2l (v := (pa0).toInt64) hx hb dX11_isPlan_1 rfl ?_
  refine lv_lconst (v := (1 : Int64)) hx hb dX11_isPlan_2 (by decide +kernel) ?_
  refine lv_ldc2 (v := (4 : Int64)) hx hb hown (ht _ hw_6_180) dX11_isPlan_3 ?_
  refine z_callSi (As := [.long ((pa0).toInt64), .long ((1 : Int64)), .long ((4 : Int64))]) (rest := []) hx hb hml hown ht (mk_X11_in l D q cA F _ _ _ hI ((pa0).toInt64) ((1 : Int64)) ((4 : Int64))) hw_6_86 hmX11_in ⟨rfl, rfl⟩ (na := 3) rfl (by decide +kernel) (by decide) hK hP hD hS hA hl.1 rfl (Nat.le_of_ble_eq_true rfl) ⟨Nat.zero_le _, Nat.zero_le _⟩ dX11_isPlan_6 (fun r_1 I_1 R_1 J_1 H locs hp_1 hP hD hS _ _ => ?_)
  rcases hp_1 with ⟨rfl, hu_1, h1_1, h2_1⟩ | ⟨rfl, hu_1, h1_1 | h2_1⟩
  · cases hu_1
    have f_2 : zL 1 2147483647 ((pa0).toInt64) := zL_ley h1_1 zkl_1 (zR_i2l (zR_any (pa0))) (by decide)
    have f_3 : zR 1 2147483647 (pa0) := zL_back f_2
    have f_4 : zL 1 4 ((pa0).toInt64) := zL_lex h2_1 f_2 zkl_4 (by decide)
    have f_5 : zR 1 4 (pa0) := zL_back f_4
    exact z_zret (v := nI 1) hx hb hr hlocks hP hD hS (by decide +kernel) dX11_isPlan_9 (Or.inl ⟨rfl, rfl, f_5⟩)
  · cases hu_1
    have f_6 : zL (-2147483648) 0 ((pa0).toInt64) := zL_ltx h1_1 (zR_i2l (zR_any (pa0))) zkl_1 (by decide)
    have f_7 : zR (-2147483648) 0 (pa0) := zL_back f_6
    exact z_zret (v := nI 0) hx hb hr hlocks hP hD hS (by decide +kernel) dX11_isPlan_9 (Or.inr ⟨rfl, rfl, (Or.inl (Int.lt_of_le_of_lt f_7.2 (by decide)))⟩)
  · cases hu_1
    have f_8 : zL 5 2147483647 ((pa0).toInt64) := zL_lty h2_1 zkl_4 (zR_i2l (zR_any (pa0))) (by decide)
    have f_9 : zR 5 2147483647 (pa0) := zL_back f_8
    exact z_zret (v := nI 0) hx hb hr hlocks hP hD hS (by decide +kernel) dX11_isPlan_9 (Or.inr ⟨rfl, rfl, (Or.inr (Int.lt_of_lt_of_le (by decide) f_9.1))⟩)
set_option maxHeartbeats 4000000 in
set_option maxRecDepth 100000 in
theorem mk_X11_bit_4 (l : Launch) (D : va_G) (q : Nat → Nat) (cA : Nat → ClassId) (F : Nat → Nat → Int32) (I R : Nat → Nat → Int32) (J : Nat → Nat → Int64) (hI : mInv F (I, R, J)) (pa0 : Int32) (pa1 : Int32) (hpa1 : zR 0 5 pa1) : zMi l D vwCl (zMtys cA) 25 q (zMd q cA) yX11_bit cX11_bit 2 (some .int) ({ frames := 0, cells := 0, slots := 0, locals := 0 } : Room) [.int (pa0), .int (pa1)] (I, R, J) (fun r u => zR 0 1 r ∧ u = (I, R, J)) := by
  intro sz
  refine z_body (by decide +kernel) (Nat.le_of_ble_eq_true rfl) (fun p e s m below meth c ls hx hb hml hr ht hown hlocks hsz hK hP hD hS hl => ?_)
  have hA : ∀ a, s.heap.size ≤ a → zA 25 q sz a := fun a h => Or.inr (hsz ▸ h)
  have hl : lv_has ls 2 [(0, .int (pa0)), (1, .int (pa1))] := hl
  refine lv_iload_n hx hb dX11_bit_0 rfl (lv_at hl 0 rfl) ?_
  refine lv_iload_n hx hb dX11_bit_1 rfl (lv_at hl 1 rfl) ?_
  refine lv_ishr hx hb dX11_bit_2 ?_
  refine z_any (fun v_1 => ?_)
  refine lv_iconst (v := nI 1) hx hb dX11_bit_3 (by decide +kernel) ?_
  refine lv_iand hx hb dX11_bit_4 ?_
  refine z_rng (a := 0) (b := 1) (zR_andr zk_1 (by decide)) (fun v_2 hv_2 => ?_)
  exact z_iret (v := v_2) hx hb hr hlocks hP hD hS dX11_bit_5 ⟨hv_2, rfl⟩
set_option maxHeartbeats 4000000 in
set_option maxRecDepth 100000 in
theorem mk_X11_mostWanted_1 (l : Launch) (D : va_G) (q : Nat → Nat) (cA : Nat → ClassId) (F : Nat → Nat → Int32) (I R : Nat → Nat → Int32) (J : Nat → Nat → Int64) (hI : mInv F (I, R, J)) (pa0 : Int32) (hpa0 : zR 0 4 pa0) (pa1 : Int32) : zMi l D vwCl (zMtys cA) 25 q (zMd q cA) yX11_mostWanted cX11_mostWanted 5 (some .int) ({ frames := 1, cells := 0, slots := 0, locals := 22 } : Room) [.ref (q 0), .int (pa0), .int (pa1)] (I, R, J) (fun r u => zR (-1) 5 r ∧ u = (I, R, J)) := by
  intro sz
  refine z_body (by decide +kernel) (Nat.le_of_ble_eq_true rfl) (fun p e s m below meth c ls hx hb hml hr ht hown hlocks hsz hK hP hD hS hl => ?_)
  have hA : ∀ a, s.heap.size ≤ a → zA 25 q sz a := fun a h => Or.inr (hsz ▸ h)
  have hl : lv_has ls 5 [(0, .ref (q 0)), (1, .int (pa0)), (2, .int (pa1))] := hl
  refine lv_iconst (v := (-1)) hx hb dX11_mostWanted_0 (by decide +kernel) ?_
  refine lv_istore_n (lv' := [(3, .int ((-1))), (0, .ref (q 0)), (1, .int (pa0)), (2, .int (pa1))]) hx hb dX11_mostWanted_1 rfl hl (by decide) rfl (fun ls hl => ?_)
  refine lv_iconst (v := nI 0) hx hb dX11_mostWanted_2 (by decide +kernel) ?_
  refine lv_istore (lv' := [(4, .int (nI 0)), (3, .int ((-1))), (0, .ref (q 0)), (1, .int (pa0)), (2, .int (pa1))]) hx hb dX11_mostWanted_3 hl (by decide) rfl (fun ls hl => ?_)
  have loop_112 : ∀ N : Nat, ∀ x_110 : Int32, zR (-1) 5 x_110 → ∀ x_111 : Int32, zR 0 6 x_111 → (2147483648 - (x_111).toInt).toNat < N → ∀ (H : Heap) (locs : List Loc), va_P D vwCl (zw 25 q (zMd q cA) I R J) H → va_D (zA 25 q sz) (zw 25 q (zMd q cA) I R J) → va_S (zA 25 q sz) s.heap H locs → ∀ ls : Array Slot, lv_has ls 5 [(0, .ref (q 0)), (1, .int (pa0)), (2, .int (pa1)), (3, .int (x_110)), (4, .int (x_111))] → W p l e ({ frames := 1, cells := 0, slots := 0, locals := 22 } : Room) s m ([.ref (q 0), .int (pa0), .int (pa1)] : List Value).toArray below meth c H locs 0 0 (MQ below (va_Qi (fun r u => zR (-1) 5 r ∧ u = (I, R, J)) (zB D vwCl 25 q (zMd q cA) sz) (zA 25 q sz)) ([.ref (q 0), .int (pa0), .int (pa1)] : List Value).toArray s 0 0 (zA 25 q sz)) (F0 m 5 ls []) := by
    intro N
    induction N with
    | zero => intro x_110 hx_110 x_111 hx_111 hN; exact absurd hN (Nat.not_lt_zero _)
    | succ N ih_114 =>
      intro x_110 hx_110 x_111 hx_111 hN_113 H locs hP hD hS ls hl
      refine lv_iload hx hb dX11_mostWanted_5 (lv_at hl 4 rfl) ?_
      refine lv_aload_n hx hb dX11_mostWanted_7 rfl (lv_at hl 0 rfl) ?_
      refine z_get hx hb ht hown hK hP ziX11 rfl 0 (by decide) 1 (by decide) hw_5_188 rfl (v := .ref (q 1)) rfl dX11_mostWanted_8 ?_
      refine lv_iconst (v := nI 4) hx hb dX11_mostWanted_11 (by decide +kernel) ?_
      refine z_iald hx hb hK hP 1 (by decide) 0 rfl rfl (zR_vin zk_4 (by decide)) dX11_mostWanted_12 ?_
      refine z_eqi (y := R 1 (nI 4).toNatClampNeg) rfl ?_
      have f_115 : zR 0 6 (R 1 (nI 4).toNatClampNeg) := mR hI 1 4
      refine lv_icmp_ge (tgt := 66) hx hb dX11_mostWanted_13 (by decide) (fun c_116 => ?_) (fun c_116 => ?_)
      · have t_c_116 := z_leT c_116
        refine lv_iload_n hx hb dX11_mostWanted_66 rfl (lv_at hl 3 rfl) ?_
        exact z_iret (v := x_110) hx hb hr hlocks hP hD hS dX11_mostWanted_67 ⟨hx_110, rfl⟩
      · have t_c_116 := z_leF c_116
        have f_117 : zR 0 5 (x_111) := zR_ltx t_c_116 hx_111 f_115 (by decide)
        have f_118 : zR 1 6 (R 1 (nI 4).toNatClampNeg) := zR_lty t_c_116 hx_111 f_115 (by decide)
        refine lv_iload_n hx hb dX11_mostWanted_16 rfl (lv_at hl 2 rfl) ?_
        refine lv_iload hx hb dX11_mostWanted_17 (lv_at hl 4 rfl) ?_
        refine z_callSi (As := [.int (pa1), .int (x_111)]) (rest := []) hx hb hml hown ht (mk_X11_bit_4 l D q cA F _ _ _ hI (pa1) (x_111) f_117) hw_7_220 hmX11_bit ⟨rfl, rfl⟩ (na := 2) rfl (by decide +kernel) (by decide) hK hP hD hS hA hl.1 rfl (Nat.le_of_ble_eq_true rfl) ⟨Nat.zero_le _, Nat.zero_le _⟩ dX11_mostWanted_19 (fun r_119 I_119 R_119 J_119 H locs hp_119 hP hD hS _ _ => ?_)
        obtain ⟨hr_119, hu_119⟩ := hp_119
        cases hu_119
        refine lv_iconst (v := nI 1) hx hb dX11_mostWanted_22 (by decide +kernel) ?_
        have t_136 : ∀ x_135 : Int32, zR (-1) 5 x_135 → ∀ (H : Heap) (locs : List Loc), va_P D vwCl (zw 25 q (zMd q cA) I R J) H → va_D (zA 25 q sz) (zw 25 q (zMd q cA) I R J) → va_S (zA 25 q sz) s.heap H locs → ∀ ls : Array Slot, lv_has ls 5 [(0, .ref (q 0)), (1, .int (pa0)), (2, .int (pa1)), (3, .int (x_135)), (4, .int (x_111))] → W p l e ({ frames := 1, cells := 0, slots := 0, locals := 22 } : Room) s m ([.ref (q 0), .int (pa0), .int (pa1)] : List Value).toArray below meth c H locs 0 0 (MQ below (va_Qi (fun r u => zR (-1) 5 r ∧ u = (I, R, J)) (zB D vwCl 25 q (zMd q cA) sz) (zA 25 q sz)) ([.ref (q 0), .int (pa0), .int (pa1)] : List Value).toArray s 0 0 (zA 25 q sz)) (F0 m 60 ls []) := by
          intro x_135 hx_135 H locs hP hD hS ls hl
          obtain ⟨v_137, ev_137⟩ : ∃ y : Int32, y = x_111 + nI 1 := ⟨_, rfl⟩
          have hv_137 : zR 1 6 v_137 := ev_137 ▸ zR_add f_117 zk_1 (by decide)
          have mv_137 : v_137.toInt = (x_111).toInt + 1 := by rw [ev_137, zR_addE f_117 zk_1 (by decide)]; rfl
          refine lv_iinc (v := v_137) (lv' := [(4, .int (v_137)), (0, .ref (q 0)), (1, .int (pa0)), (2, .int (pa1)), (3, .int (x_135))]) hx hb dX11_mostWanted_60 hl (k := 4) rfl (ev_137 ▸ rfl) (by decide) rfl (fun ls hl => ?_)
          refine lv_goto (tgt := 5) hx hb dX11_mostWanted_63 (by decide) ?_
          exact ih_114 (x_135) hx_135 (v_137) (zR_w hv_137 (by decide)) (z2_up mv_137 (by decide) hN_113) _ _ hP hD hS _ (lv_sub hl [1, 2, 3, 4, 0] rfl)
        refine lv_icmp_ne (tgt := 60) hx hb dX11_mostWanted_23 (by decide) (fun c_120 => ?_) (fun c_120 => ?_)
        · have t_c_120 := z_eqF c_120
          have f_138 : zR 0 0 (r_119) := zR_nex t_c_120 hr_119 zk_1 (by decide)
          exact t_136 (x_110) hx_110 _ _ hP hD hS _ (lv_sub hl [0, 1, 2, 3, 4] rfl)
        · have t_c_120 := z_eqT c_120
          have f_139 : zR 1 1 (r_119) := zR_eqx t_c_120 zk_1
          refine lv_aload_n hx hb dX11_mostWanted_26 rfl (lv_at hl 0 rfl) ?_
          refine lv_iload_n hx hb dX11_mostWanted_27 rfl (lv_at hl 1 rfl) ?_
          refine lv_iload hx hb dX11_mostWanted_28 (lv_at hl 4 rfl) ?_
          refine z_callVi (k := 0) (As := [.int (pa0), .int (x_111)]) (rest := []) hx hb hml hown ht (mk_X11_wantOf l D q cA F _ _ _ hI (pa0) hpa0 (x_111) f_117) hw_7_10 hmX11_wantOf ⟨rfl, rfl⟩ (na := 2) rfl (by decide +kernel) (by decide) (by decide) rfl rfl hK hP hD hS hA hl.1 rfl (Nat.le_of_ble_eq_true rfl) ⟨Nat.zero_le _, Nat.zero_le _⟩ dX11_mostWanted_30 (fun r_140 I_140 R_140 J_140 H locs hp_140 hP hD hS _ _ => ?_)
          cases hp_140
          refine lv_if_le (tgt := 60) hx hb dX11_mostWanted_33 (by decide) (fun c_141 => ?_) (fun c_141 => ?_)
          · have t_c_141 := z_leT c_141
            have f_142 : zR (-2147483648) 0 (r_140) := zR_lex t_c_141 (zR_any (r_140)) zk_z (by decide)
            exact t_136 (x_110) hx_110 _ _ hP hD hS _ (lv_sub hl [0, 1, 2, 3, 4] rfl)
          · have t_c_141 := z_leF c_141
            have f_143 : zR 1 2147483647 (r_140) := zR_lty t_c_141 zk_z (zR_any (r_140)) (by decide)
            refine lv_iload_n hx hb dX11_mostWanted_36 rfl (lv_at hl 3 rfl) ?_
            refine lv_iconst (v := (-1)) hx hb dX11_mostWanted_37 (by decide +kernel) ?_
            refine lv_icmp_eq (tgt := 57) hx hb dX11_mostWanted_38 (by decide) (fun c_144 => ?_) (fun c_144 => ?_)
            · have t_c_144 := z_eqT c_144
              have f_145 : zR (-1) (-1) (x_110) := zR_eqx t_c_144 zk_m1
              refine lv_iload hx hb dX11_mostWanted_57 (lv_at hl 4 rfl) ?_
              refine lv_istore_n (lv' := [(3, .int (x_111)), (0, .ref (q 0)), (1, .int (pa0)), (2, .int (pa1)), (4, .int (x_111))]) hx hb dX11_mostWanted_59 rfl hl (by decide) rfl (fun ls hl => ?_)
              exact t_136 (x_111) (zR_w f_117 (by decide)) _ _ hP hD hS _ (lv_sub hl [1, 2, 3, 0, 4] rfl)
            · have t_c_144 := z_eqF c_144
              have f_146 : zR 0 5 (x_110) := zR_nex t_c_144 hx_110 zk_m1 (by decide)
              refine lv_aload_n hx hb dX11_mostWanted_41 rfl (lv_at hl 0 rfl) ?_
              refine lv_iload_n hx hb dX11_mostWanted_42 rfl (lv_at hl 1 rfl) ?_
              refine lv_iload hx hb dX11_mostWanted_43 (lv_at hl 4 rfl) ?_
              refine z_callVi (k := 0) (As := [.int (pa0), .int (x_111)]) (rest := []) hx hb hml hown ht (mk_X11_wantOf l D q cA F _ _ _ hI (pa0) hpa0 (x_111) f_117) hw_7_10 hmX11_wantOf ⟨rfl, rfl⟩ (na := 2) rfl (by decide +kernel) (by decide) (by decide) rfl rfl hK hP hD hS hA hl.1 rfl (Nat.le_of_ble_eq_true rfl) ⟨Nat.zero_le _, Nat.zero_le _⟩ dX11_mostWanted_45 (fun r_147 I_147 R_147 J_147 H locs hp_147 hP hD hS _ _ => ?_)
              cases hp_147
              refine lv_aload_n hx hb dX11_mostWanted_48 rfl (lv_at hl 0 rfl) ?_
              refine lv_iload_n hx hb dX11_mostWanted_49 rfl (lv_at hl 1 rfl) ?_
              refine lv_iload_n hx hb dX11_mostWanted_50 rfl (lv_at hl 3 rfl) ?_
              refine z_callVi (k := 0) (As := [.int (pa0), .int (x_110)]) (rest := [.int (r_147)]) hx hb hml hown ht (mk_X11_wantOf l D q cA F _ _ _ hI (pa0) hpa0 (x_110) f_146) hw_7_10 hmX11_wantOf ⟨rfl, rfl⟩ (na := 2) rfl (by decide +kernel) (by decide) (by decide) rfl rfl hK hP hD hS hA hl.1 rfl (Nat.le_of_ble_eq_true rfl) ⟨Nat.zero_le _, Nat.zero_le _⟩ dX11_mostWanted_51 (fun r_148 I_148 R_148 J_148 H locs hp_148 hP hD hS _ _ => ?_)
              cases hp_148
              refine lv_icmp_le (tgt := 60) hx hb dX11_mostWanted_54 (by decide) (fun c_149 => ?_) (fun c_149 => ?_)
              · have t_c_149 := z_leT c_149
                exact t_136 (x_110) (zR_w f_146 (by decide)) _ _ hP hD hS _ (lv_sub hl [0, 1, 2, 3, 4] rfl)
              · have t_c_149 := z_leF c_149
                have f_150 : zR (-2147483648) 2147483646 (r_148) := zR_ltx t_c_149 (zR_any (r_148)) (zR_any (r_147)) (by decide)
                have f_151 : zR (-2147483647) 2147483647 (r_147) := zR_lty t_c_149 (zR_any (r_148)) (zR_any (r_147)) (by decide)
                refine lv_iload hx hb dX11_mostWanted_57 (lv_at hl 4 rfl) ?_
                refine lv_istore_n (lv' := [(3, .int (x_111)), (0, .ref (q 0)), (1, .int (pa0)), (2, .int (pa1)), (4, .int (x_111))]) hx hb dX11_mostWanted_59 rfl hl (by decide) rfl (fun ls hl => ?_)
                exact t_136 (x_111) (zR_w f_117 (by decide)) _ _ hP hD hS _ (lv_sub hl [1, 2, 3, 0, 4] rfl)
  exact loop_112 _ ((-1)) (zR_w zk_m1 (by decide)) (nI 0) (zR_w zk_0 (by decide)) (Nat.lt_succ_self _) _ _ hP hD hS _ (lv_sub hl [2, 3, 4, 1, 0] rfl)
set_option maxHeartbeats 4000000 in
set_option maxRecDepth 100000 in
theorem mk_X11_plan (l : Launch) (D : va_G) (q : Nat → Nat) (cA : Nat → ClassId) (F : Nat → Nat → Int32) (I R : Nat → Nat → Int32) (J : Nat → Nat → Int64) (hI : mInv F (I, R, J)) (pa0 : Int32) (pa1 : Int32) : zMi l D vwCl (zMtys cA) 25 q (zMd q cA) yX11_plan cX11_plan 6 (some .int) ({ frames := 6, cells := 0, slots := 0, locals := 155 } : Room) [.ref (q 0), .int (pa0), .int (pa1)] (I, R, J) (fun _ u => (mInv F u ∧ u.2.2 = J)) := by
  intro sz
  refine z_body (by decide +kernel) (Nat.le_of_ble_eq_true rfl) (fun p e s m below meth c ls hx hb hml hr ht hown hlocks hsz hK hP hD hS hl => ?_)
  have hA : ∀ a, s.heap.size ≤ a → zA 25 q sz a := fun a h => Or.inr (hsz ▸ h)
  have hl : lv_has ls 6 [(0, .ref (q 0)), (1, .int (pa0)), (2, .int (pa1))] := hl
  refine lv_aload_n hx hb dX11_plan_0 rfl (lv_at hl 0 rfl) ?_
  refine lv_iload_n hx hb dX11_plan_1 rfl (lv_at hl 1 rfl) ?_
  refine lv_i2l (v := (pa0).toInt64) hx hb dX11_plan_2 rfl ?_
  refine z_callVi (k := 0) (As := [.long ((pa0).toInt64)]) (rest := []) hx hb hml hown ht (mk_X11_isHouse l D q cA F _ _ _ hI ((pa0).toInt64) (zR_i2l (zR_any (pa0)))) hw_6_176 hmX11_isHouse ⟨rfl, rfl⟩ (na := 1) rfl (by decide +kernel) (by decide) (by decide) rfl rfl hK hP hD hS hA hl.1 rfl (Nat.le_of_ble_eq_true rfl) ⟨Nat.zero_le _, Nat.zero_le _⟩ dX11_plan_3 (fun r_1 I_1 R_1 J_1 H locs hp_1 hP hD hS _ _ => ?_)
  rcases hp_1 with ⟨rfl, hu_1, f0_1⟩ | ⟨rfl, hu_1⟩
  · cases hu_1
    have f_2 : zR 0 4 (pa0) := zL_back f0_1
    refine lv_if_eq (tgt := 16) hx hb dX11_plan_6 (by decide) (fun c_0 => absurd c_0 (zD_ne zk_1 zk_z (by decide))) (fun _ => ?_)
    refine lv_iload_n hx hb dX11_plan_9 rfl (lv_at hl 2 rfl) ?_
    refine z_callSi (As := [.int (pa1)]) (rest := []) hx hb hml hown ht (mk_X11_isPlan l D q cA F _ _ _ hI (pa1)) hw_7_239 hmX11_isPlan ⟨rfl, rfl⟩ (na := 1) rfl (by decide +kernel) (by decide) hK hP hD hS hA hl.1 rfl (Nat.le_of_ble_eq_true rfl) ⟨Nat.zero_le _, Nat.zero_le _⟩ dX11_plan_10 (fun r_3 I_3 R_3 J_3 H locs hp_3 hP hD hS _ _ => ?_)
    rcases hp_3 with ⟨rfl, hu_3, f0_3⟩ | ⟨rfl, hu_3, nn_3⟩
    · cases hu_3
      refine lv_if_ne (tgt := 19) hx hb dX11_plan_13 (by decide) (fun _ => ?_) (fun c_0 => absurd c_0 (zD_ne zk_1 zk_z (by decide)))
      refine lv_aload_n hx hb dX11_plan_19 rfl (lv_at hl 0 rfl) ?_
      refine z_callVv (k := 0) (As := []) (rest := []) hx hb hml hown ht (mk_X11_asItIs l D q cA F _ _ _ hI ) hw_6_181 hmX11_asItIs ⟨rfl, rfl⟩ (na := 0) rfl (by decide +kernel) (by decide) (by decide) rfl rfl hK hP hD hS hA hl.1 rfl (Nat.le_of_ble_eq_true rfl) ⟨Nat.zero_le _, Nat.zero_le _⟩ dX11_plan_20 (fun I_4 R_4 J_4 H locs hp_4 hP hD hS _ _ => ?_)
      obtain ⟨hv_4, hj_4, hs_4⟩ := hp_4
      try dsimp only at hj_4
      subst J_4
      refine lv_aload_n hx hb dX11_plan_23 rfl (lv_at hl 0 rfl) ?_
      refine lv_aload_n hx hb dX11_plan_24 rfl (lv_at hl 0 rfl) ?_
      refine lv_iload_n hx hb dX11_plan_25 rfl (lv_at hl 1 rfl) ?_
      refine z_callVi (k := 0) (As := [.int (pa0)]) (rest := [.ref (q 0)]) hx hb hml hown ht (mk_X11_liesFor l D q cA F _ _ _ hv_4 (pa0) f_2) hw_7_164 hmX11_liesFor ⟨rfl, rfl⟩ (na := 1) rfl (by decide +kernel) (by decide) (by decide) rfl rfl hK hP hD hS hA hl.1 rfl (Nat.le_of_ble_eq_true rfl) ⟨Nat.zero_le _, Nat.zero_le _⟩ dX11_plan_26 (fun r_5 I_5 R_5 J_5 H locs hp_5 hP hD hS _ _ => ?_)
      obtain ⟨hr_5, hu_5⟩ := hp_5
      cases hu_5
      refine z_putI hx hb ht hown hK hP hD hS ziX11 tyX11 tyX11_ok nmX11 rfl 0 (by decide) 34 (by decide) hw_5_221 rfl (v := r_5) rfl rfl rfl (Nat.le_of_ble_eq_true rfl) rfl dX11_plan_29 (fun H locs hP hD hS => ?_)
      have hI_6 := mInv_I hv_4 0 34 (r_5) (zR_any (r_5)) rfl
      refine lv_iconst (v := nI 0) hx hb dX11_plan_32 (by decide +kernel) ?_
      refine lv_istore_n (lv' := [(3, .int (nI 0)), (0, .ref (q 0)), (1, .int (pa0)), (2, .int (pa1))]) hx hb dX11_plan_33 rfl hl (by decide) rfl (fun ls hl => ?_)
      refine lv_iconst (v := nI 0) hx hb dX11_plan_34 (by decide +kernel) ?_
      refine lv_istore (lv' := [(4, .int (nI 0)), (3, .int (nI 0)), (0, .ref (q 0)), (1, .int (pa0)), (2, .int (pa1))]) hx hb dX11_plan_35 hl (by decide) rfl (fun ls hl => ?_)
      have loop_71 : ∀ N : Nat, ∀ x_68 : Int32, ∀ x_69 : Int32, zR 0 4 x_69 → ∀ I_70 : Nat → Nat → Int32, mInv F (I_70, R_4, J) → (2147483648 - (x_69).toInt).toNat < N → ∀ (H : Heap) (locs : List Loc), va_P D vwCl (zw 25 q (zMd q cA) I_70 R_4 J) H → va_D (zA 25 q sz) (zw 25 q (zMd q cA) I_70 R_4 J) → va_S (zA 25 q sz) s.heap H locs → ∀ ls : Array Slot, lv_has ls 6 [(0, .ref (q 0)), (1, .int (pa0)), (2, .int (pa1)), (3, .int (x_68)), (4, .int (x_69))] → W p l e ({ frames := 6, cells := 0, slots := 0, locals := 155 } : Room) s m ([.ref (q 0), .int (pa0), .int (pa1)] : List Value).toArray below meth c H locs 0 0 (MQ below (va_Qi (fun _ u => (mInv F u ∧ u.2.2 = J)) (zB D vwCl 25 q (zMd q cA) sz) (zA 25 q sz)) ([.ref (q 0), .int (pa0), .int (pa1)] : List Value).toArray s 0 0 (zA 25 q sz)) (F0 m 37 ls []) := by
        intro N
        induction N with
        | zero => intro x_68 x_69 hx_69 I_70 hI_70 hN; exact absurd hN (Nat.not_lt_zero _)
        | succ N ih_73 =>
          intro x_68 x_69 hx_69 I_70 hI_70 hN_72 H locs hP hD hS ls hl
          refine lv_iload hx hb dX11_plan_37 (lv_at hl 4 rfl) ?_
          refine lv_iload_n hx hb dX11_plan_39 rfl (lv_at hl 2 rfl) ?_
          refine lv_icmp_ge (tgt := 93) hx hb dX11_plan_40 (by decide) (fun c_74 => ?_) (fun c_74 => ?_)
          · have t_c_74 := z_leT c_74
            have f_75 : zR 1 4 (x_69) := zR_ley t_c_74 f0_3 hx_69 (by decide)
            refine lv_iload_n hx hb dX11_plan_93 rfl (lv_at hl 3 rfl) ?_
            exact z_iret (v := x_68) hx hb hr hlocks hP hD hS dX11_plan_94 ⟨hI_70, rfl⟩
          · have t_c_74 := z_leF c_74
            have f_76 : zR 0 3 (x_69) := zR_ltx t_c_74 hx_69 f0_3 (by decide)
            refine lv_aload_n hx hb dX11_plan_43 rfl (lv_at hl 0 rfl) ?_
            refine lv_iload_n hx hb dX11_plan_44 rfl (lv_at hl 1 rfl) ?_
            refine lv_aload_n hx hb dX11_plan_45 rfl (lv_at hl 0 rfl) ?_
            refine z_get hx hb ht hown hK hP ziX11 rfl 0 (by decide) 34 (by decide) hw_5_221 rfl (v := .int (I_70 0 34)) rfl dX11_plan_46 ?_
            refine z_callVi (k := 0) (As := [.int (pa0), .int (I_70 0 34)]) (rest := []) hx hb hml hown ht (mk_X11_mostWanted_1 l D q cA F _ _ _ hI_70 (pa0) f_2 (I_70 0 34)) hw_8_2 hmX11_mostWanted ⟨rfl, rfl⟩ (na := 2) rfl (by decide +kernel) (by decide) (by decide) rfl rfl hK hP hD hS hA hl.1 rfl (Nat.le_of_ble_eq_true rfl) ⟨Nat.zero_le _, Nat.zero_le _⟩ dX11_plan_49 (fun r_77 I_77 R_77 J_77 H locs hp_77 hP hD hS _ _ => ?_)
            obtain ⟨hr_77, hu_77⟩ := hp_77
            cases hu_77
            refine lv_istore (lv' := [(5, .int (r_77)), (0, .ref (q 0)), (1, .int (pa0)), (2, .int (pa1)), (3, .int (x_68)), (4, .int (x_69))]) hx hb dX11_plan_52 hl (by decide) rfl (fun ls hl => ?_)
            refine lv_iload hx hb dX11_plan_54 (lv_at hl 0 rfl) ?_
            refine lv_iconst (v := (-1)) hx hb dX11_plan_56 (by decide +kernel) ?_
            refine lv_icmp_ne (tgt := 62) hx hb dX11_plan_57 (by decide) (fun c_78 => ?_) (fun c_78 => ?_)
            · have t_c_78 := z_eqF c_78
              have f_79 : zR 0 5 (r_77) := zR_nex t_c_78 hr_77 zk_m1 (by decide)
              refine lv_aload_n hx hb dX11_plan_62 rfl (lv_at hl 1 rfl) ?_
              refine lv_dup hx hb dX11_plan_63 rfl ?_
              refine z_get hx hb ht hown hK hP ziX11 rfl 0 (by decide) 34 (by decide) hw_5_221 rfl (v := .int (I_70 0 34)) rfl dX11_plan_64 ?_
              refine lv_iconst (v := nI 1) hx hb dX11_plan_67 (by decide +kernel) ?_
              refine lv_iload hx hb dX11_plan_68 (lv_at hl 0 rfl) ?_
              refine lv_ishl hx hb dX11_plan_70 ?_
              refine z_rng (a := 1) (b := 32) (zR_shl1 5 f_79 (by decide)) (fun v_80 hv_80 => ?_)
              refine lv_iconst (v := (-1)) hx hb dX11_plan_71 (by decide +kernel) ?_
              refine lv_ixor hx hb dX11_plan_72 ?_
              refine z_any (fun v_81 => ?_)
              refine lv_iand hx hb dX11_plan_73 ?_
              refine z_any (fun v_82 => ?_)
              refine z_putI hx hb ht hown hK hP hD hS ziX11 tyX11 tyX11_ok nmX11 rfl 0 (by decide) 34 (by decide) hw_5_221 rfl (v := v_82) rfl rfl rfl (Nat.le_of_ble_eq_true rfl) rfl dX11_plan_74 (fun H locs hP hD hS => ?_)
              have hI_83 := mInv_I hI_70 0 34 (v_82) (zR_any (v_82)) rfl
              refine lv_iload_n hx hb dX11_plan_77 rfl (lv_at hl 4 rfl) ?_
              refine lv_aload_n hx hb dX11_plan_78 rfl (lv_at hl 1 rfl) ?_
              refine lv_iload_n hx hb dX11_plan_79 rfl (lv_at hl 2 rfl) ?_
              refine lv_iload hx hb dX11_plan_80 (lv_at hl 0 rfl) ?_
              refine z_callVi (k := 0) (As := [.int (pa0), .int (r_77)]) (rest := [.int (x_68)]) hx hb hml hown ht (mk_X11_wantOf l D q cA F _ _ _ hI_83 (pa0) f_2 (r_77) f_79) hw_7_10 hmX11_wantOf ⟨rfl, rfl⟩ (na := 2) rfl (by decide +kernel) (by decide) (by decide) rfl rfl hK hP hD hS hA hl.1 rfl (Nat.le_of_ble_eq_true rfl) ⟨Nat.zero_le _, Nat.zero_le _⟩ dX11_plan_82 (fun r_84 I_84 R_84 J_84 H locs hp_84 hP hD hS _ _ => ?_)
              cases hp_84
              refine lv_iadd hx hb dX11_plan_85 ?_
              refine z_any (fun v_85 => ?_)
              refine lv_istore_n (lv' := [(3, .int (v_85)), (5, .int (r_77)), (0, .ref (q 0)), (1, .int (pa0)), (2, .int (pa1)), (4, .int (x_69))]) hx hb dX11_plan_86 rfl hl (by decide) rfl (fun ls hl => ?_)
              obtain ⟨v_86, ev_86⟩ : ∃ y : Int32, y = x_69 + nI 1 := ⟨_, rfl⟩
              have hv_86 : zR 1 4 v_86 := ev_86 ▸ zR_add f_76 zk_1 (by decide)
              have mv_86 : v_86.toInt = (x_69).toInt + 1 := by rw [ev_86, zR_addE f_76 zk_1 (by decide)]; rfl
              refine lv_iinc (v := v_86) (lv' := [(4, .int (v_86)), (3, .int (v_85)), (5, .int (r_77)), (0, .ref (q 0)), (1, .int (pa0)), (2, .int (pa1))]) hx hb dX11_plan_87 hl (k := 5) rfl (ev_86 ▸ rfl) (by decide) rfl (fun ls hl => ?_)
              refine lv_goto (tgt := 37) hx hb dX11_plan_90 (by decide) ?_
              exact ih_73 (v_85) (v_86) (zR_w hv_86 (by decide)) _ hI_83 (z2_up mv_86 (by decide) hN_72) _ _ hP hD hS _ (lv_sub hl [3, 4, 5, 1, 0] rfl)
            · have t_c_78 := z_eqT c_78
              have f_87 : zR (-1) (-1) (r_77) := zR_eqx t_c_78 zk_m1
              refine lv_iload_n hx hb dX11_plan_60 rfl (lv_at hl 4 rfl) ?_
              exact z_iret (v := x_68) hx hb hr hlocks hP hD hS dX11_plan_61 ⟨hI_70, rfl⟩
      exact loop_71 _ (nI 0) (nI 0) (zR_w zk_0 (by decide)) _ hI_6 (Nat.lt_succ_self _) _ _ hP hD hS _ (lv_sub hl [2, 3, 4, 1, 0] rfl)
    · cases hu_3
      refine lv_if_ne (tgt := 19) hx hb dX11_plan_13 (by decide) (fun c_0 => absurd (zD_eq zk_0 zk_z) c_0) (fun _ => ?_)
      refine lv_bipush (v := (-2)) hx hb dX11_plan_16 (by decide +kernel) ?_
      exact z_iret (v := (-2)) hx hb hr hlocks hP hD hS dX11_plan_18 ⟨hI, rfl⟩
  · cases hu_1
    refine lv_if_eq (tgt := 16) hx hb dX11_plan_6 (by decide) (fun _ => ?_) (fun c_0 => absurd (zD_eq zk_0 zk_z) c_0)
    refine lv_bipush (v := (-2)) hx hb dX11_plan_16 (by decide +kernel) ?_
    exact z_iret (v := (-2)) hx hb hr hlocks hP hD hS dX11_plan_18 ⟨hI, rfl⟩
set_option maxHeartbeats 4000000 in
set_option maxRecDepth 100000 in
theorem mk_X11_plans (l : Launch) (D : va_G) (q : Nat → Nat) (cA : Nat → ClassId) (F : Nat → Nat → Int32) (I R : Nat → Nat → Int32) (J : Nat → Nat → Int64) (hI : mInv F (I, R, J)) (pa0 : Int32) (pa1 : Int32) (pa2 : Int32) : zMi l D vwCl (zMtys cA) 25 q (zMd q cA) yX11_plans cX11_plans 6 (some .int) ({ frames := 6, cells := 0, slots := 0, locals := 155 } : Room) [.ref (q 0), .int (pa0), .int (pa1), .int (pa2)] (I, R, J) (fun r u => zR (-2) 5 r ∧ (mInv F u ∧ u.2.2 = J)) := by
  intro sz
  refine z_body (by decide +kernel) (Nat.le_of_ble_eq_true rfl) (fun p e s m below meth c ls hx hb hml hr ht hown hlocks hsz hK hP hD hS hl => ?_)
  have hA : ∀ a, s.heap.size ≤ a → zA 25 q sz a := fun a h => Or.inr (hsz ▸ h)
  have hl : lv_has ls 6 [(0, .ref (q 0)), (1, .int (pa0)), (2, .int (pa1)), (3, .int (pa2))] := hl
  refine lv_aload_n hx hb dX11_plans_0 rfl (lv_at hl 0 rfl) ?_
  refine lv_iload_n hx hb dX11_plans_1 rfl (lv_at hl 1 rfl) ?_
  refine lv_i2l (v := (pa0).toInt64) hx hb dX11_plans_2 rfl ?_
  refine z_callVi (k := 0) (As := [.long ((pa0).toInt64)]) (rest := []) hx hb hml hown ht (mk_X11_isHouse l D q cA F _ _ _ hI ((pa0).toInt64) (zR_i2l (zR_any (pa0)))) hw_6_176 hmX11_isHouse ⟨rfl, rfl⟩ (na := 1) rfl (by decide +kernel) (by decide) (by decide) rfl rfl hK hP hD hS hA hl.1 rfl (Nat.le_of_ble_eq_true rfl) ⟨Nat.zero_le _, Nat.zero_le _⟩ dX11_plans_3 (fun r_1 I_1 R_1 J_1 H locs hp_1 hP hD hS _ _ => ?_)
  rcases hp_1 with ⟨rfl, hu_1, f0_1⟩ | ⟨rfl, hu_1⟩
  · cases hu_1
    have f_2 : zR 0 4 (pa0) := zL_back f0_1
    refine lv_if_eq (tgt := 16) hx hb dX11_plans_6 (by decide) (fun c_0 => absurd c_0 (zD_ne zk_1 zk_z (by decide))) (fun _ => ?_)
    refine lv_iload_n hx hb dX11_plans_9 rfl (lv_at hl 2 rfl) ?_
    refine z_callSi (As := [.int (pa1)]) (rest := []) hx hb hml hown ht (mk_X11_isPlan l D q cA F _ _ _ hI (pa1)) hw_7_239 hmX11_isPlan ⟨rfl, rfl⟩ (na := 1) rfl (by decide +kernel) (by decide) hK hP hD hS hA hl.1 rfl (Nat.le_of_ble_eq_true rfl) ⟨Nat.zero_le _, Nat.zero_le _⟩ dX11_plans_10 (fun r_3 I_3 R_3 J_3 H locs hp_3 hP hD hS _ _ => ?_)
    rcases hp_3 with ⟨rfl, hu_3, f0_3⟩ | ⟨rfl, hu_3, nn_3⟩
    · cases hu_3
      refine lv_if_ne (tgt := 19) hx hb dX11_plans_13 (by decide) (fun _ => ?_) (fun c_0 => absurd c_0 (zD_ne zk_1 zk_z (by decide)))
      refine lv_iload_n hx hb dX11_plans_19 rfl (lv_at hl 3 rfl) ?_
      refine lv_i2l (v := (pa2).toInt64) hx hb dX11_plans_20 rfl ?_
      refine lv_lconst (v := (0 : Int64)) hx hb dX11_plans_21 (by decide +kernel) ?_
      refine lv_iload_n hx hb dX11_plans_22 rfl (lv_at hl 2 rfl) ?_
      refine lv_iconst (v := nI 1) hx hb dX11_plans_23 (by decide +kernel) ?_
      refine lv_isub hx hb dX11_plans_24 ?_
      refine z_subc 0 3 (-1) f0_3 zk_1 (by decide) (fun v_4 hv_4 mv_4 => ?_)
      refine lv_i2l (v := (v_4).toInt64) hx hb dX11_plans_25 rfl ?_
      refine z_callSi (As := [.long ((pa2).toInt64), .long ((0 : Int64)), .long ((v_4).toInt64)]) (rest := []) hx hb hml hown ht (mk_X11_in l D q cA F _ _ _ hI ((pa2).toInt64) ((0 : Int64)) ((v_4).toInt64)) hw_6_86 hmX11_in ⟨rfl, rfl⟩ (na := 3) rfl (by decide +kernel) (by decide) hK hP hD hS hA hl.1 rfl (Nat.le_of_ble_eq_true rfl) ⟨Nat.zero_le _, Nat.zero_le _⟩ dX11_plans_26 (fun r_5 I_5 R_5 J_5 H locs hp_5 hP hD hS _ _ => ?_)
      rcases hp_5 with ⟨rfl, hu_5, h1_5, h2_5⟩ | ⟨rfl, hu_5, h1_5 | h2_5⟩
      · cases hu_5
        have f_6 : zL 0 2147483647 ((pa2).toInt64) := zL_ley h1_5 zkl_0 (zR_i2l (zR_any (pa2))) (by decide)
        have f_7 : zR 0 2147483647 (pa2) := zL_back f_6
        have f_8 : zL 0 3 ((pa2).toInt64) := zL_lex h2_5 f_6 (zR_i2l hv_4) (by decide)
        have f_9 : zR 0 3 (pa2) := zL_back f_8
        refine lv_if_ne (tgt := 34) hx hb dX11_plans_29 (by decide) (fun _ => ?_) (fun c_0 => absurd c_0 (zD_ne zk_1 zk_z (by decide)))
        refine lv_aload_n hx hb dX11_plans_34 rfl (lv_at hl 0 rfl) ?_
        refine z_callVv (k := 0) (As := []) (rest := []) hx hb hml hown ht (mk_X11_asItIs l D q cA F _ _ _ hI ) hw_6_181 hmX11_asItIs ⟨rfl, rfl⟩ (na := 0) rfl (by decide +kernel) (by decide) (by decide) rfl rfl hK hP hD hS hA hl.1 rfl (Nat.le_of_ble_eq_true rfl) ⟨Nat.zero_le _, Nat.zero_le _⟩ dX11_plans_35 (fun I_10 R_10 J_10 H locs hp_10 hP hD hS _ _ => ?_)
        obtain ⟨hv_10, hj_10, hs_10⟩ := hp_10
        try dsimp only at hj_10
        subst J_10
        refine lv_aload_n hx hb dX11_plans_38 rfl (lv_at hl 0 rfl) ?_
        refine lv_aload_n hx hb dX11_plans_39 rfl (lv_at hl 0 rfl) ?_
        refine lv_iload_n hx hb dX11_plans_40 rfl (lv_at hl 1 rfl) ?_
        refine z_callVi (k := 0) (As := [.int (pa0)]) (rest := [.ref (q 0)]) hx hb hml hown ht (mk_X11_liesFor l D q cA F _ _ _ hv_10 (pa0) f_2) hw_7_164 hmX11_liesFor ⟨rfl, rfl⟩ (na := 1) rfl (by decide +kernel) (by decide) (by decide) rfl rfl hK hP hD hS hA hl.1 rfl (Nat.le_of_ble_eq_true rfl) ⟨Nat.zero_le _, Nat.zero_le _⟩ dX11_plans_41 (fun r_11 I_11 R_11 J_11 H locs hp_11 hP hD hS _ _ => ?_)
        obtain ⟨hr_11, hu_11⟩ := hp_11
        cases hu_11
        refine z_putI hx hb ht hown hK hP hD hS ziX11 tyX11 tyX11_ok nmX11 rfl 0 (by decide) 34 (by decide) hw_5_221 rfl (v := r_11) rfl rfl rfl (Nat.le_of_ble_eq_true rfl) rfl dX11_plans_44 (fun H locs hP hD hS => ?_)
        have hI_12 := mInv_I hv_10 0 34 (r_11) (zR_any (r_11)) rfl
        refine lv_iconst (v := nI 0) hx hb dX11_plans_47 (by decide +kernel) ?_
        refine lv_istore (lv' := [(4, .int (nI 0)), (0, .ref (q 0)), (1, .int (pa0)), (2, .int (pa1)), (3, .int (pa2))]) hx hb dX11_plans_48 hl (by decide) rfl (fun ls hl => ?_)
        have loop_72 : ∀ N : Nat, ∀ x_70 : Int32, zR 0 3 x_70 → ∀ I_71 : Nat → Nat → Int32, mInv F (I_71, R_10, J) → (2147483648 - (x_70).toInt).toNat < N → ∀ (H : Heap) (locs : List Loc), va_P D vwCl (zw 25 q (zMd q cA) I_71 R_10 J) H → va_D (zA 25 q sz) (zw 25 q (zMd q cA) I_71 R_10 J) → va_S (zA 25 q sz) s.heap H locs → ∀ ls : Array Slot, lv_has ls 6 [(0, .ref (q 0)), (1, .int (pa0)), (2, .int (pa1)), (3, .int (pa2)), (4, .int (x_70))] → W p l e ({ frames := 6, cells := 0, slots := 0, locals := 155 } : Room) s m ([.ref (q 0), .int (pa0), .int (pa1), .int (pa2)] : List Value).toArray below meth c H locs 0 0 (MQ below (va_Qi (fun r u => zR (-2) 5 r ∧ (mInv F u ∧ u.2.2 = J)) (zB D vwCl 25 q (zMd q cA) sz) (zA 25 q sz)) ([.ref (q 0), .int (pa0), .int (pa1), .int (pa2)] : List Value).toArray s 0 0 (zA 25 q sz)) (F0 m 50 ls []) := by
          intro N
          induction N with
          | zero => intro x_70 hx_70 I_71 hI_71 hN; exact absurd hN (Nat.not_lt_zero _)
          | succ N ih_74 =>
            intro x_70 hx_70 I_71 hI_71 hN_73 H locs hP hD hS ls hl
            refine lv_iload hx hb dX11_plans_50 (lv_at hl 4 rfl) ?_
            refine lv_iload_n hx hb dX11_plans_52 rfl (lv_at hl 3 rfl) ?_
            refine lv_icmp_ge (tgt := 96) hx hb dX11_plans_53 (by decide) (fun c_75 => ?_) (fun c_75 => ?_)
            · have t_c_75 := z_leT c_75
              refine lv_aload_n hx hb dX11_plans_96 rfl (lv_at hl 0 rfl) ?_
              refine lv_iload_n hx hb dX11_plans_97 rfl (lv_at hl 1 rfl) ?_
              refine lv_aload_n hx hb dX11_plans_98 rfl (lv_at hl 0 rfl) ?_
              refine z_get hx hb ht hown hK hP ziX11 rfl 0 (by decide) 34 (by decide) hw_5_221 rfl (v := .int (I_71 0 34)) rfl dX11_plans_99 ?_
              refine z_callVi (k := 0) (As := [.int (pa0), .int (I_71 0 34)]) (rest := []) hx hb hml hown ht (mk_X11_mostWanted_1 l D q cA F _ _ _ hI_71 (pa0) f_2 (I_71 0 34)) hw_8_2 hmX11_mostWanted ⟨rfl, rfl⟩ (na := 2) rfl (by decide +kernel) (by decide) (by decide) rfl rfl hK hP hD hS hA hl.1 rfl (Nat.le_of_ble_eq_true rfl) ⟨Nat.zero_le _, Nat.zero_le _⟩ dX11_plans_102 (fun r_76 I_76 R_76 J_76 H locs hp_76 hP hD hS _ _ => ?_)
              obtain ⟨hr_76, hu_76⟩ := hp_76
              cases hu_76
              exact z_iret (v := r_76) hx hb hr hlocks hP hD hS dX11_plans_105 ⟨(zR_w hr_76 (by decide)), ⟨hI_71, rfl⟩⟩
            · have t_c_75 := z_leF c_75
              have f_77 : zR 0 2 (x_70) := zR_ltx t_c_75 hx_70 f_9 (by decide)
              have f_78 : zR 1 3 (pa2) := zR_lty t_c_75 hx_70 f_9 (by decide)
              refine lv_aload_n hx hb dX11_plans_56 rfl (lv_at hl 0 rfl) ?_
              refine lv_iload_n hx hb dX11_plans_57 rfl (lv_at hl 1 rfl) ?_
              refine lv_aload_n hx hb dX11_plans_58 rfl (lv_at hl 0 rfl) ?_
              refine z_get hx hb ht hown hK hP ziX11 rfl 0 (by decide) 34 (by decide) hw_5_221 rfl (v := .int (I_71 0 34)) rfl dX11_plans_59 ?_
              refine z_callVi (k := 0) (As := [.int (pa0), .int (I_71 0 34)]) (rest := []) hx hb hml hown ht (mk_X11_mostWanted_1 l D q cA F _ _ _ hI_71 (pa0) f_2 (I_71 0 34)) hw_8_2 hmX11_mostWanted ⟨rfl, rfl⟩ (na := 2) rfl (by decide +kernel) (by decide) (by decide) rfl rfl hK hP hD hS hA hl.1 rfl (Nat.le_of_ble_eq_true rfl) ⟨Nat.zero_le _, Nat.zero_le _⟩ dX11_plans_62 (fun r_79 I_79 R_79 J_79 H locs hp_79 hP hD hS _ _ => ?_)
              obtain ⟨hr_79, hu_79⟩ := hp_79
              cases hu_79
              refine lv_istore (lv' := [(5, .int (r_79)), (0, .ref (q 0)), (1, .int (pa0)), (2, .int (pa1)), (3, .int (pa2)), (4, .int (x_70))]) hx hb dX11_plans_65 hl (by decide) rfl (fun ls hl => ?_)
              refine lv_iload hx hb dX11_plans_67 (lv_at hl 0 rfl) ?_
              refine lv_iconst (v := (-1)) hx hb dX11_plans_69 (by decide +kernel) ?_
              refine lv_icmp_ne (tgt := 75) hx hb dX11_plans_70 (by decide) (fun c_80 => ?_) (fun c_80 => ?_)
              · have t_c_80 := z_eqF c_80
                have f_81 : zR 0 5 (r_79) := zR_nex t_c_80 hr_79 zk_m1 (by decide)
                refine lv_aload_n hx hb dX11_plans_75 rfl (lv_at hl 1 rfl) ?_
                refine lv_dup hx hb dX11_plans_76 rfl ?_
                refine z_get hx hb ht hown hK hP ziX11 rfl 0 (by decide) 34 (by decide) hw_5_221 rfl (v := .int (I_71 0 34)) rfl dX11_plans_77 ?_
                refine lv_iconst (v := nI 1) hx hb dX11_plans_80 (by decide +kernel) ?_
                refine lv_iload hx hb dX11_plans_81 (lv_at hl 0 rfl) ?_
                refine lv_ishl hx hb dX11_plans_83 ?_
                refine z_rng (a := 1) (b := 32) (zR_shl1 5 f_81 (by decide)) (fun v_82 hv_82 => ?_)
                refine lv_iconst (v := (-1)) hx hb dX11_plans_84 (by decide +kernel) ?_
                refine lv_ixor hx hb dX11_plans_85 ?_
                refine z_any (fun v_83 => ?_)
                refine lv_iand hx hb dX11_plans_86 ?_
                refine z_any (fun v_84 => ?_)
                refine z_putI hx hb ht hown hK hP hD hS ziX11 tyX11 tyX11_ok nmX11 rfl 0 (by decide) 34 (by decide) hw_5_221 rfl (v := v_84) rfl rfl rfl (Nat.le_of_ble_eq_true rfl) rfl dX11_plans_87 (fun H locs hP hD hS => ?_)
                have hI_85 := mInv_I hI_71 0 34 (v_84) (zR_any (v_84)) rfl
                obtain ⟨v_86, ev_86⟩ : ∃ y : Int32, y = x_70 + nI 1 := ⟨_, rfl⟩
                have hv_86 : zR 1 3 v_86 := ev_86 ▸ zR_add f_77 zk_1 (by decide)
                have mv_86 : v_86.toInt = (x_70).toInt + 1 := by rw [ev_86, zR_addE f_77 zk_1 (by decide)]; rfl
                refine lv_iinc (v := v_86) (lv' := [(4, .int (v_86)), (5, .int (r_79)), (0, .ref (q 0)), (1, .int (pa0)), (2, .int (pa1)), (3, .int (pa2))]) hx hb dX11_plans_90 hl (k := 5) rfl (ev_86 ▸ rfl) (by decide) rfl (fun ls hl => ?_)
                refine lv_goto (tgt := 50) hx hb dX11_plans_93 (by decide) ?_
                exact ih_74 (v_86) (zR_w hv_86 (by decide)) _ hI_85 (z2_up mv_86 (by decide) hN_73) _ _ hP hD hS _ (lv_sub hl [2, 3, 4, 5, 0] rfl)
              · have t_c_80 := z_eqT c_80
                have f_87 : zR (-1) (-1) (r_79) := zR_eqx t_c_80 zk_m1
                refine lv_iconst (v := (-1)) hx hb dX11_plans_73 (by decide +kernel) ?_
                exact z_iret (v := (-1)) hx hb hr hlocks hP hD hS dX11_plans_74 ⟨(zR_w zk_m1 (by decide)), ⟨hI_71, rfl⟩⟩
        exact loop_72 _ (nI 0) (zR_w zk_0 (by decide)) _ hI_12 (Nat.lt_succ_self _) _ _ hP hD hS _ (lv_sub hl [1, 2, 3, 4, 0] rfl)
      · cases hu_5
        have f_88 : zL (-2147483648) (-1) ((pa2).toInt64) := zL_ltx h1_5 (zR_i2l (zR_any (pa2))) zkl_0 (by decide)
        have f_89 : zR (-2147483648) (-1) (pa2) := zL_back f_88
        refine lv_if_ne (tgt := 34) hx hb dX11_plans_29 (by decide) (fun c_0 => absurd (zD_eq zk_0 zk_z) c_0) (fun _ => ?_)
        refine lv_iconst (v := (-1)) hx hb dX11_plans_32 (by decide +kernel) ?_
        exact z_iret (v := (-1)) hx hb hr hlocks hP hD hS dX11_plans_33 ⟨(zR_w zk_m1 (by decide)), ⟨hI, rfl⟩⟩
      · cases hu_5
        have f_90 : zL 1 2147483647 ((pa2).toInt64) := zL_lty h2_5 (zR_i2l hv_4) (zR_i2l (zR_any (pa2))) (by decide)
        have f_91 : zR 1 2147483647 (pa2) := zL_back f_90
        refine lv_if_ne (tgt := 34) hx hb dX11_plans_29 (by decide) (fun c_0 => absurd (zD_eq zk_0 zk_z) c_0) (fun _ => ?_)
        refine lv_iconst (v := (-1)) hx hb dX11_plans_32 (by decide +kernel) ?_
        exact z_iret (v := (-1)) hx hb hr hlocks hP hD hS dX11_plans_33 ⟨(zR_w zk_m1 (by decide)), ⟨hI, rfl⟩⟩
    · cases hu_3
      refine lv_if_ne (tgt := 19) hx hb dX11_plans_13 (by decide) (fun c_0 => absurd (zD_eq zk_0 zk_z) c_0) (fun _ => ?_)
      refine lv_bipush (v := (-2)) hx hb dX11_plans_16 (by decide +kernel) ?_
      exact z_iret (v := (-2)) hx hb hr hlocks hP hD hS dX11_plans_18 ⟨(zR_w zk_m2 (by decide)), ⟨hI, rfl⟩⟩
  · cases hu_1
    refine lv_if_eq (tgt := 16) hx hb dX11_plans_6 (by decide) (fun _ => ?_) (fun c_0 => absurd (zD_eq zk_0 zk_z) c_0)
    refine lv_bipush (v := (-2)) hx hb dX11_plans_16 (by decide +kernel) ?_
    exact z_iret (v := (-2)) hx hb hr hlocks hP hD hS dX11_plans_18 ⟨(zR_w zk_m2 (by decide)), ⟨hI, rfl⟩⟩
set_option maxHeartbeats 4000000 in
set_option maxRecDepth 100000 in
theorem mk_X11_change (l : Launch) (D : va_G) (q : Nat → Nat) (cA : Nat → ClassId) (F : Nat → Nat → Int32) (I R : Nat → Nat → Int32) (J : Nat → Nat → Int64) (hI : mInv F (I, R, J)) (pa0 : Int32) (pa1 : Int32) : zMi l D vwCl (zMtys cA) 25 q (zMd q cA) yX11_change cX11_change 5 (some .int) ({ frames := 6, cells := 0, slots := 0, locals := 155 } : Room) [.ref (q 0), .int (pa0), .int (pa1)] (I, R, J) (fun r u => zR (-2) 55 r ∧ (mInv F u ∧ u.2.2 = J)) := by
  intro sz
  refine z_body (by decide +kernel) (Nat.le_of_ble_eq_true rfl) (fun p e s m below meth c ls hx hb hml hr ht hown hlocks hsz hK hP hD hS hl => ?_)
  have hA : ∀ a, s.heap.size ≤ a → zA 25 q sz a := fun a h => Or.inr (hsz ▸ h)
  have hl : lv_has ls 5 [(0, .ref (q 0)), (1, .int (pa0)), (2, .int (pa1))] := hl
  refine lv_aload_n hx hb dX11_change_0 rfl (lv_at hl 0 rfl) ?_
  refine lv_iload_n hx hb dX11_change_1 rfl (lv_at hl 1 rfl) ?_
  refine lv_i2l (v := (pa0).toInt64) hx hb dX11_change_2 rfl ?_
  refine z_callVi (k := 0) (As := [.long ((pa0).toInt64)]) (rest := []) hx hb hml hown ht (mk_X11_isHouse l D q cA F _ _ _ hI ((pa0).toInt64) (zR_i2l (zR_any (pa0)))) hw_6_176 hmX11_isHouse ⟨rfl, rfl⟩ (na := 1) rfl (by decide +kernel) (by decide) (by decide) rfl rfl hK hP hD hS hA hl.1 rfl (Nat.le_of_ble_eq_true rfl) ⟨Nat.zero_le _, Nat.zero_le _⟩ dX11_change_3 (fun r_1 I_1 R_1 J_1 H locs hp_1 hP hD hS _ _ => ?_)
  rcases hp_1 with ⟨rfl, hu_1, f0_1⟩ | ⟨rfl, hu_1⟩
  · cases hu_1
    have f_2 : zR 0 4 (pa0) := zL_back f0_1
    refine lv_if_eq (tgt := 23) hx hb dX11_change_6 (by decide) (fun c_0 => absurd c_0 (zD_ne zk_1 zk_z (by decide))) (fun _ => ?_)
    refine lv_aload_n hx hb dX11_change_9 rfl (lv_at hl 0 rfl) ?_
    refine lv_iload_n hx hb dX11_change_10 rfl (lv_at hl 2 rfl) ?_
    refine lv_i2l (v := (pa1).toInt64) hx hb dX11_change_11 rfl ?_
    refine z_callVi (k := 0) (As := [.long ((pa1).toInt64)]) (rest := []) hx hb hml hown ht (mk_X11_isHouse l D q cA F _ _ _ hI ((pa1).toInt64) (zR_i2l (zR_any (pa1)))) hw_6_176 hmX11_isHouse ⟨rfl, rfl⟩ (na := 1) rfl (by decide +kernel) (by decide) (by decide) rfl rfl hK hP hD hS hA hl.1 rfl (Nat.le_of_ble_eq_true rfl) ⟨Nat.zero_le _, Nat.zero_le _⟩ dX11_change_12 (fun r_3 I_3 R_3 J_3 H locs hp_3 hP hD hS _ _ => ?_)
    rcases hp_3 with ⟨rfl, hu_3, f0_3⟩ | ⟨rfl, hu_3⟩
    · cases hu_3
      have f_4 : zR 0 4 (pa1) := zL_back f0_3
      refine lv_if_eq (tgt := 23) hx hb dX11_change_15 (by decide) (fun c_0 => absurd c_0 (zD_ne zk_1 zk_z (by decide))) (fun _ => ?_)
      refine lv_iload_n hx hb dX11_change_18 rfl (lv_at hl 1 rfl) ?_
      refine lv_iload_n hx hb dX11_change_19 rfl (lv_at hl 2 rfl) ?_
      refine lv_icmp_ne (tgt := 26) hx hb dX11_change_20 (by decide) (fun c_5 => ?_) (fun c_5 => ?_)
      · have t_c_5 := z_eqF c_5
        refine lv_aload_n hx hb dX11_change_26 rfl (lv_at hl 0 rfl) ?_
        refine z_callVv (k := 0) (As := []) (rest := []) hx hb hml hown ht (mk_X11_asItIs l D q cA F _ _ _ hI ) hw_6_181 hmX11_asItIs ⟨rfl, rfl⟩ (na := 0) rfl (by decide +kernel) (by decide) (by decide) rfl rfl hK hP hD hS hA hl.1 rfl (Nat.le_of_ble_eq_true rfl) ⟨Nat.zero_le _, Nat.zero_le _⟩ dX11_change_27 (fun I_6 R_6 J_6 H locs hp_6 hP hD hS _ _ => ?_)
        obtain ⟨hv_6, hj_6, hs_6⟩ := hp_6
        try dsimp only at hj_6
        subst J_6
        refine lv_iconst (v := nI 0) hx hb dX11_change_30 (by decide +kernel) ?_
        refine lv_istore_n (lv' := [(3, .int (nI 0)), (0, .ref (q 0)), (1, .int (pa0)), (2, .int (pa1))]) hx hb dX11_change_31 rfl hl (by decide) rfl (fun ls hl => ?_)
        have loop_382 : ∀ N : Nat, ∀ x_381 : Int32, zR 0 6 x_381 → (2147483648 - (x_381).toInt).toNat < N → ∀ (H : Heap) (locs : List Loc), va_P D vwCl (zw 25 q (zMd q cA) I_6 R_6 J) H → va_D (zA 25 q sz) (zw 25 q (zMd q cA) I_6 R_6 J) → va_S (zA 25 q sz) s.heap H locs → ∀ ls : Array Slot, lv_has ls 5 [(0, .ref (q 0)), (1, .int (pa0)), (2, .int (pa1)), (3, .int (x_381))] → W p l e ({ frames := 6, cells := 0, slots := 0, locals := 155 } : Room) s m ([.ref (q 0), .int (pa0), .int (pa1)] : List Value).toArray below meth c H locs 0 0 (MQ below (va_Qi (fun r u => zR (-2) 55 r ∧ (mInv F u ∧ u.2.2 = J)) (zB D vwCl 25 q (zMd q cA) sz) (zA 25 q sz)) ([.ref (q 0), .int (pa0), .int (pa1)] : List Value).toArray s 0 0 (zA 25 q sz)) (F0 m 32 ls []) := by
          intro N
          induction N with
          | zero => intro x_381 hx_381 hN; exact absurd hN (Nat.not_lt_zero _)
          | succ N ih_384 =>
            intro x_381 hx_381 hN_383 H locs hP hD hS ls hl
            refine lv_iload_n hx hb dX11_change_32 rfl (lv_at hl 3 rfl) ?_
            refine lv_aload_n hx hb dX11_change_33 rfl (lv_at hl 0 rfl) ?_
            refine z_get hx hb ht hown hK hP ziX11 rfl 0 (by decide) 1 (by decide) hw_5_188 rfl (v := .ref (q 1)) rfl dX11_change_34 ?_
            refine lv_iconst (v := nI 4) hx hb dX11_change_37 (by decide +kernel) ?_
            refine z_iald hx hb hK hP 1 (by decide) 0 rfl rfl (zR_vin zk_4 (by decide)) dX11_change_38 ?_
            refine z_eqi (y := R_6 1 (nI 4).toNatClampNeg) rfl ?_
            have f_385 : zR 0 6 (R_6 1 (nI 4).toNatClampNeg) := mR hv_6 1 4
            refine lv_icmp_ge (tgt := 129) hx hb dX11_change_39 (by decide) (fun c_386 => ?_) (fun c_386 => ?_)
            · have t_c_386 := z_leT c_386
              refine lv_iconst (v := (-1)) hx hb dX11_change_129 (by decide +kernel) ?_
              exact z_iret (v := (-1)) hx hb hr hlocks hP hD hS dX11_change_130 ⟨(zR_w zk_m1 (by decide)), ⟨hv_6, rfl⟩⟩
            · have t_c_386 := z_leF c_386
              have f_387 : zR 0 5 (x_381) := zR_ltx t_c_386 hx_381 f_385 (by decide)
              have f_388 : zR 1 6 (R_6 1 (nI 4).toNatClampNeg) := zR_lty t_c_386 hx_381 f_385 (by decide)
              refine lv_iconst (v := nI 0) hx hb dX11_change_42 (by decide +kernel) ?_
              refine lv_istore (lv' := [(4, .int (nI 0)), (0, .ref (q 0)), (1, .int (pa0)), (2, .int (pa1)), (3, .int (x_381))]) hx hb dX11_change_43 hl (by decide) rfl (fun ls hl => ?_)
              have loop_481 : ∀ N : Nat, ∀ x_480 : Int32, zR 0 6 x_480 → (2147483648 - (x_480).toInt).toNat < N → ∀ (H : Heap) (locs : List Loc), va_P D vwCl (zw 25 q (zMd q cA) I_6 R_6 J) H → va_D (zA 25 q sz) (zw 25 q (zMd q cA) I_6 R_6 J) → va_S (zA 25 q sz) s.heap H locs → ∀ ls : Array Slot, lv_has ls 5 [(0, .ref (q 0)), (1, .int (pa0)), (2, .int (pa1)), (3, .int (x_381)), (4, .int (x_480))] → W p l e ({ frames := 6, cells := 0, slots := 0, locals := 155 } : Room) s m ([.ref (q 0), .int (pa0), .int (pa1)] : List Value).toArray below meth c H locs 0 0 (MQ below (va_Qi (fun r u => zR (-2) 55 r ∧ (mInv F u ∧ u.2.2 = J)) (zB D vwCl 25 q (zMd q cA) sz) (zA 25 q sz)) ([.ref (q 0), .int (pa0), .int (pa1)] : List Value).toArray s 0 0 (zA 25 q sz)) (F0 m 45 ls []) := by
                intro N
                induction N with
                | zero => intro x_480 hx_480 hN; exact absurd hN (Nat.not_lt_zero _)
                | succ N ih_483 =>
                  intro x_480 hx_480 hN_482 H locs hP hD hS ls hl
                  refine lv_iload hx hb dX11_change_45 (lv_at hl 4 rfl) ?_
                  refine lv_aload_n hx hb dX11_change_47 rfl (lv_at hl 0 rfl) ?_
                  refine z_get hx hb ht hown hK hP ziX11 rfl 0 (by decide) 1 (by decide) hw_5_188 rfl (v := .ref (q 1)) rfl dX11_change_48 ?_
                  refine lv_iconst (v := nI 4) hx hb dX11_change_51 (by decide +kernel) ?_
                  refine z_iald hx hb hK hP 1 (by decide) 0 rfl rfl (zR_vin zk_4 (by decide)) dX11_change_52 ?_
                  refine z_eqi (y := R_6 1 (nI 4).toNatClampNeg) rfl ?_
                  refine lv_icmp_ge (tgt := 123) hx hb dX11_change_53 (by decide) (fun c_484 => ?_) (fun c_484 => ?_)
                  · have t_c_484 := z_leT c_484
                    have f_485 : zR 1 6 (x_480) := zR_ley t_c_484 f_388 hx_480 (by decide)
                    obtain ⟨v_486, ev_486⟩ : ∃ y : Int32, y = x_381 + nI 1 := ⟨_, rfl⟩
                    have hv_486 : zR 1 6 v_486 := ev_486 ▸ zR_add f_387 zk_1 (by decide)
                    have mv_486 : v_486.toInt = (x_381).toInt + 1 := by rw [ev_486, zR_addE f_387 zk_1 (by decide)]; rfl
                    refine lv_iinc (v := v_486) (lv' := [(3, .int (v_486)), (0, .ref (q 0)), (1, .int (pa0)), (2, .int (pa1)), (4, .int (x_480))]) hx hb dX11_change_123 hl (k := 3) rfl (ev_486 ▸ rfl) (by decide) rfl (fun ls hl => ?_)
                    refine lv_goto (tgt := 32) hx hb dX11_change_126 (by decide) ?_
                    exact ih_384 (v_486) (zR_w hv_486 (by decide)) (z2_up mv_486 (by decide) hN_383) _ _ hP hD hS _ (lv_sub hl [1, 2, 3, 0] rfl)
                  · have t_c_484 := z_leF c_484
                    have f_487 : zR 0 5 (x_480) := zR_ltx t_c_484 hx_480 f_388 (by decide)
                    refine lv_aload_n hx hb dX11_change_56 rfl (lv_at hl 0 rfl) ?_
                    refine z_get hx hb ht hown hK hP ziX11 rfl 0 (by decide) 17 (by decide) hw_5_204 rfl (v := .ref (q 9)) rfl dX11_change_57 ?_
                    refine lv_iload_n hx hb dX11_change_60 rfl (lv_at hl 3 rfl) ?_
                    refine z_iald hx hb hK hP 9 (by decide) 8 rfl rfl (zR_vin f_387 (by decide)) dX11_change_61 ?_
                    refine z_eqi (y := R_6 9 (x_381).toNatClampNeg) rfl ?_
                    have f_488 : zR 0 4 (R_6 9 (x_381).toNatClampNeg) := mR hv_6 9 (x_381).toNatClampNeg
                    refine lv_iload_n hx hb dX11_change_62 rfl (lv_at hl 1 rfl) ?_
                    refine lv_icmp_ne (tgt := 117) hx hb dX11_change_63 (by decide) (fun c_489 => ?_) (fun c_489 => ?_)
                    · have t_c_489 := z_eqF c_489
                      obtain ⟨v_490, ev_490⟩ : ∃ y : Int32, y = x_480 + nI 1 := ⟨_, rfl⟩
                      have hv_490 : zR 1 6 v_490 := ev_490 ▸ zR_add f_487 zk_1 (by decide)
                      have mv_490 : v_490.toInt = (x_480).toInt + 1 := by rw [ev_490, zR_addE f_487 zk_1 (by decide)]; rfl
                      refine lv_iinc (v := v_490) (lv' := [(4, .int (v_490)), (0, .ref (q 0)), (1, .int (pa0)), (2, .int (pa1)), (3, .int (x_381))]) hx hb dX11_change_117 hl (k := 4) rfl (ev_490 ▸ rfl) (by decide) rfl (fun ls hl => ?_)
                      refine lv_goto (tgt := 45) hx hb dX11_change_120 (by decide) ?_
                      exact ih_483 (v_490) (zR_w hv_490 (by decide)) (z2_up mv_490 (by decide) hN_482) _ _ hP hD hS _ (lv_sub hl [1, 2, 3, 4, 0] rfl)
                    · have t_c_489 := z_eqT c_489
                      refine lv_aload_n hx hb dX11_change_66 rfl (lv_at hl 0 rfl) ?_
                      refine z_get hx hb ht hown hK hP ziX11 rfl 0 (by decide) 17 (by decide) hw_5_204 rfl (v := .ref (q 9)) rfl dX11_change_67 ?_
                      refine lv_iload hx hb dX11_change_70 (lv_at hl 4 rfl) ?_
                      refine z_iald hx hb hK hP 9 (by decide) 8 rfl rfl (zR_vin f_487 (by decide)) dX11_change_72 ?_
                      refine z_eqi (y := R_6 9 (x_480).toNatClampNeg) rfl ?_
                      have f_491 : zR 0 4 (R_6 9 (x_480).toNatClampNeg) := mR hv_6 9 (x_480).toNatClampNeg
                      refine lv_iload_n hx hb dX11_change_73 rfl (lv_at hl 2 rfl) ?_
                      refine lv_icmp_ne (tgt := 117) hx hb dX11_change_74 (by decide) (fun c_492 => ?_) (fun c_492 => ?_)
                      · have t_c_492 := z_eqF c_492
                        obtain ⟨v_493, ev_493⟩ : ∃ y : Int32, y = x_480 + nI 1 := ⟨_, rfl⟩
                        have hv_493 : zR 1 6 v_493 := ev_493 ▸ zR_add f_487 zk_1 (by decide)
                        have mv_493 : v_493.toInt = (x_480).toInt + 1 := by rw [ev_493, zR_addE f_487 zk_1 (by decide)]; rfl
                        refine lv_iinc (v := v_493) (lv' := [(4, .int (v_493)), (0, .ref (q 0)), (1, .int (pa0)), (2, .int (pa1)), (3, .int (x_381))]) hx hb dX11_change_117 hl (k := 4) rfl (ev_493 ▸ rfl) (by decide) rfl (fun ls hl => ?_)
                        refine lv_goto (tgt := 45) hx hb dX11_change_120 (by decide) ?_
                        exact ih_483 (v_493) (zR_w hv_493 (by decide)) (z2_up mv_493 (by decide) hN_482) _ _ hP hD hS _ (lv_sub hl [1, 2, 3, 4, 0] rfl)
                      · have t_c_492 := z_eqT c_492
                        refine lv_aload_n hx hb dX11_change_77 rfl (lv_at hl 0 rfl) ?_
                        refine lv_iload_n hx hb dX11_change_78 rfl (lv_at hl 1 rfl) ?_
                        refine lv_iload hx hb dX11_change_79 (lv_at hl 4 rfl) ?_
                        refine z_callVi (k := 0) (As := [.int (pa0), .int (x_480)]) (rest := []) hx hb hml hown ht (mk_X11_valueOf l D q cA F _ _ _ hv_6 (pa0) f_2 (x_480) f_487) hw_7_6 hmX11_valueOf ⟨rfl, rfl⟩ (na := 2) rfl (by decide +kernel) (by decide) (by decide) rfl rfl hK hP hD hS hA hl.1 rfl (Nat.le_of_ble_eq_true rfl) ⟨Nat.zero_le _, Nat.zero_le _⟩ dX11_change_81 (fun r_494 I_494 R_494 J_494 H locs hp_494 hP hD hS _ _ => ?_)
                        cases hp_494
                        refine lv_aload_n hx hb dX11_change_84 rfl (lv_at hl 0 rfl) ?_
                        refine lv_iload_n hx hb dX11_change_85 rfl (lv_at hl 1 rfl) ?_
                        refine lv_iload_n hx hb dX11_change_86 rfl (lv_at hl 3 rfl) ?_
                        refine z_callVi (k := 0) (As := [.int (pa0), .int (x_381)]) (rest := [.int (r_494)]) hx hb hml hown ht (mk_X11_valueOf l D q cA F _ _ _ hv_6 (pa0) f_2 (x_381) f_387) hw_7_6 hmX11_valueOf ⟨rfl, rfl⟩ (na := 2) rfl (by decide +kernel) (by decide) (by decide) rfl rfl hK hP hD hS hA hl.1 rfl (Nat.le_of_ble_eq_true rfl) ⟨Nat.zero_le _, Nat.zero_le _⟩ dX11_change_87 (fun r_495 I_495 R_495 J_495 H locs hp_495 hP hD hS _ _ => ?_)
                        cases hp_495
                        refine lv_icmp_le (tgt := 117) hx hb dX11_change_90 (by decide) (fun c_496 => ?_) (fun c_496 => ?_)
                        · have t_c_496 := z_leT c_496
                          obtain ⟨v_497, ev_497⟩ : ∃ y : Int32, y = x_480 + nI 1 := ⟨_, rfl⟩
                          have hv_497 : zR 1 6 v_497 := ev_497 ▸ zR_add f_487 zk_1 (by decide)
                          have mv_497 : v_497.toInt = (x_480).toInt + 1 := by rw [ev_497, zR_addE f_487 zk_1 (by decide)]; rfl
                          refine lv_iinc (v := v_497) (lv' := [(4, .int (v_497)), (0, .ref (q 0)), (1, .int (pa0)), (2, .int (pa1)), (3, .int (x_381))]) hx hb dX11_change_117 hl (k := 4) rfl (ev_497 ▸ rfl) (by decide) rfl (fun ls hl => ?_)
                          refine lv_goto (tgt := 45) hx hb dX11_change_120 (by decide) ?_
                          exact ih_483 (v_497) (zR_w hv_497 (by decide)) (z2_up mv_497 (by decide) hN_482) _ _ hP hD hS _ (lv_sub hl [1, 2, 3, 4, 0] rfl)
                        · have t_c_496 := z_leF c_496
                          have f_498 : zR (-2147483648) 2147483646 (r_495) := zR_ltx t_c_496 (zR_any (r_495)) (zR_any (r_494)) (by decide)
                          have f_499 : zR (-2147483647) 2147483647 (r_494) := zR_lty t_c_496 (zR_any (r_495)) (zR_any (r_494)) (by decide)
                          refine lv_aload_n hx hb dX11_change_93 rfl (lv_at hl 0 rfl) ?_
                          refine lv_iload_n hx hb dX11_change_94 rfl (lv_at hl 2 rfl) ?_
                          refine lv_iload_n hx hb dX11_change_95 rfl (lv_at hl 3 rfl) ?_
                          refine z_callVi (k := 0) (As := [.int (pa1), .int (x_381)]) (rest := []) hx hb hml hown ht (mk_X11_valueOf l D q cA F _ _ _ hv_6 (pa1) f_4 (x_381) f_387) hw_7_6 hmX11_valueOf ⟨rfl, rfl⟩ (na := 2) rfl (by decide +kernel) (by decide) (by decide) rfl rfl hK hP hD hS hA hl.1 rfl (Nat.le_of_ble_eq_true rfl) ⟨Nat.zero_le _, Nat.zero_le _⟩ dX11_change_96 (fun r_500 I_500 R_500 J_500 H locs hp_500 hP hD hS _ _ => ?_)
                          cases hp_500
                          refine lv_aload_n hx hb dX11_change_99 rfl (lv_at hl 0 rfl) ?_
                          refine lv_iload_n hx hb dX11_change_100 rfl (lv_at hl 2 rfl) ?_
                          refine lv_iload hx hb dX11_change_101 (lv_at hl 4 rfl) ?_
                          refine z_callVi (k := 0) (As := [.int (pa1), .int (x_480)]) (rest := [.int (r_500)]) hx hb hml hown ht (mk_X11_valueOf l D q cA F _ _ _ hv_6 (pa1) f_4 (x_480) f_487) hw_7_6 hmX11_valueOf ⟨rfl, rfl⟩ (na := 2) rfl (by decide +kernel) (by decide) (by decide) rfl rfl hK hP hD hS hA hl.1 rfl (Nat.le_of_ble_eq_true rfl) ⟨Nat.zero_le _, Nat.zero_le _⟩ dX11_change_103 (fun r_501 I_501 R_501 J_501 H locs hp_501 hP hD hS _ _ => ?_)
                          cases hp_501
                          refine lv_icmp_le (tgt := 117) hx hb dX11_change_106 (by decide) (fun c_502 => ?_) (fun c_502 => ?_)
                          · have t_c_502 := z_leT c_502
                            obtain ⟨v_503, ev_503⟩ : ∃ y : Int32, y = x_480 + nI 1 := ⟨_, rfl⟩
                            have hv_503 : zR 1 6 v_503 := ev_503 ▸ zR_add f_487 zk_1 (by decide)
                            have mv_503 : v_503.toInt = (x_480).toInt + 1 := by rw [ev_503, zR_addE f_487 zk_1 (by decide)]; rfl
                            refine lv_iinc (v := v_503) (lv' := [(4, .int (v_503)), (0, .ref (q 0)), (1, .int (pa0)), (2, .int (pa1)), (3, .int (x_381))]) hx hb dX11_change_117 hl (k := 4) rfl (ev_503 ▸ rfl) (by decide) rfl (fun ls hl => ?_)
                            refine lv_goto (tgt := 45) hx hb dX11_change_120 (by decide) ?_
                            exact ih_483 (v_503) (zR_w hv_503 (by decide)) (z2_up mv_503 (by decide) hN_482) _ _ hP hD hS _ (lv_sub hl [1, 2, 3, 4, 0] rfl)
                          · have t_c_502 := z_leF c_502
                            have f_504 : zR (-2147483648) 2147483646 (r_501) := zR_ltx t_c_502 (zR_any (r_501)) (zR_any (r_500)) (by decide)
                            have f_505 : zR (-2147483647) 2147483647 (r_500) := zR_lty t_c_502 (zR_any (r_501)) (zR_any (r_500)) (by decide)
                            refine lv_bipush (v := nI 10) hx hb dX11_change_109 (by decide +kernel) ?_
                            refine lv_iload_n hx hb dX11_change_111 rfl (lv_at hl 3 rfl) ?_
                            refine lv_imul hx hb dX11_change_112 ?_
                            refine z_rng (a := 0) (b := 50) (zR_mul zk_10 f_387 (by decide)) (fun v_506 hv_506 => ?_)
                            refine lv_iload hx hb dX11_change_113 (lv_at hl 4 rfl) ?_
                            refine lv_iadd hx hb dX11_change_115 ?_
                            refine z_rng (a := 0) (b := 55) (zR_add hv_506 f_487 (by decide)) (fun v_507 hv_507 => ?_)
                            exact z_iret (v := v_507) hx hb hr hlocks hP hD hS dX11_change_116 ⟨(zR_w hv_507 (by decide)), ⟨hv_6, rfl⟩⟩
              exact loop_481 _ (nI 0) (zR_w zk_0 (by decide)) (Nat.lt_succ_self _) _ _ hP hD hS _ (lv_sub hl [1, 2, 3, 4, 0] rfl)
        exact loop_382 _ (nI 0) (zR_w zk_0 (by decide)) (Nat.lt_succ_self _) _ _ hP hD hS _ (lv_sub hl [1, 2, 3, 0] rfl)
      · have t_c_5 := z_eqT c_5
        refine lv_bipush (v := (-2)) hx hb dX11_change_23 (by decide +kernel) ?_
        exact z_iret (v := (-2)) hx hb hr hlocks hP hD hS dX11_change_25 ⟨(zR_w zk_m2 (by decide)), ⟨hI, rfl⟩⟩
    · cases hu_3
      refine lv_if_eq (tgt := 23) hx hb dX11_change_15 (by decide) (fun _ => ?_) (fun c_0 => absurd (zD_eq zk_0 zk_z) c_0)
      refine lv_bipush (v := (-2)) hx hb dX11_change_23 (by decide +kernel) ?_
      exact z_iret (v := (-2)) hx hb hr hlocks hP hD hS dX11_change_25 ⟨(zR_w zk_m2 (by decide)), ⟨hI, rfl⟩⟩
  · cases hu_1
    refine lv_if_eq (tgt := 23) hx hb dX11_change_6 (by decide) (fun _ => ?_) (fun c_0 => absurd (zD_eq zk_0 zk_z) c_0)
    refine lv_bipush (v := (-2)) hx hb dX11_change_23 (by decide +kernel) ?_
    exact z_iret (v := (-2)) hx hb hr hlocks hP hD hS dX11_change_25 ⟨(zR_w zk_m2 (by decide)), ⟨hI, rfl⟩⟩
set_option maxHeartbeats 4000000 in
set_option maxRecDepth 100000 in
theorem mk_X11_dealtFrom_2 (l : Launch) (D : va_G) (q : Nat → Nat) (cA : Nat → ClassId) (F : Nat → Nat → Int32) (I R : Nat → Nat → Int32) (J : Nat → Nat → Int64) (hI : mInv F (I, R, J)) (pa0 : Int32) (hpa0 : zR 1 6 pa0) (pa1 : Int32) (hpa1 : zR 0 31 pa1) : zMi l D vwCl (zMtys cA) 25 q (zMd q cA) yX11_dealtFrom cX11_dealtFrom 3 (some .int) ({ frames := 0, cells := 0, slots := 0, locals := 0 } : Room) [.ref (q 0), .int (pa0), .int (pa1)] (I, R, J) (fun _ u => u = (I, R, J)) := by
  intro sz
  refine z_body (by decide +kernel) (Nat.le_of_ble_eq_true rfl) (fun p e s m below meth c ls hx hb hml hr ht hown hlocks hsz hK hP hD hS hl => ?_)
  have hA : ∀ a, s.heap.size ≤ a → zA 25 q sz a := fun a h => Or.inr (hsz ▸ h)
  have hl : lv_has ls 3 [(0, .ref (q 0)), (1, .int (pa0)), (2, .int (pa1))] := hl
  refine lv_aload_n hx hb dX11_dealtFrom_0 rfl (lv_at hl 0 rfl) ?_
  refine z_get hx hb ht hown hK hP ziX11 rfl 0 (by decide) 35 (by decide) hw_5_222 rfl (v := .ref (q 20)) rfl dX11_dealtFrom_1 ?_
  refine lv_iload_n hx hb dX11_dealtFrom_4 rfl (lv_at hl 1 rfl) ?_
  refine lv_iconst (v := nI 5) hx hb dX11_dealtFrom_5 (by decide +kernel) ?_
  refine lv_ishl hx hb dX11_dealtFrom_6 ?_
  refine lv_topi (fun v_1 ev_1 => ?_)
  refine lv_iload_n hx hb dX11_dealtFrom_7 rfl (lv_at hl 2 rfl) ?_
  refine lv_ior hx hb dX11_dealtFrom_8 ?_
  refine z_rng (a := 0) (b := 223) ((by rw [ev_1]; exact zR_shlor (zR_w hpa0 (by decide)) hpa1)) (fun v_2 hv_2 => ?_)
  refine z_iald hx hb hK hP 20 (by decide) 19 rfl rfl (zR_vin hv_2 (by decide)) dX11_dealtFrom_9 ?_
  refine z_eqi (y := R 20 (v_2).toNatClampNeg) rfl ?_
  exact z_iret (v := R 20 (v_2).toNatClampNeg) hx hb hr hlocks hP hD hS dX11_dealtFrom_10 rfl
set_option maxHeartbeats 4000000 in
set_option maxRecDepth 100000 in
theorem mk_X11_bit_8 (l : Launch) (D : va_G) (q : Nat → Nat) (cA : Nat → ClassId) (F : Nat → Nat → Int32) (I R : Nat → Nat → Int32) (J : Nat → Nat → Int64) (hI : mInv F (I, R, J)) (pa0 : Int32) (hpa0 : zR 0 31 pa0) (pa1 : Int32) (hpa1 : zR 0 4 pa1) : zMi l D vwCl (zMtys cA) 25 q (zMd q cA) yX11_bit cX11_bit 2 (some .int) ({ frames := 0, cells := 0, slots := 0, locals := 0 } : Room) [.int (pa0), .int (pa1)] (I, R, J) (fun r u => zR 0 1 r ∧ u = (I, R, J)) := by
  intro sz
  refine z_body (by decide +kernel) (Nat.le_of_ble_eq_true rfl) (fun p e s m below meth c ls hx hb hml hr ht hown hlocks hsz hK hP hD hS hl => ?_)
  have hA : ∀ a, s.heap.size ≤ a → zA 25 q sz a := fun a h => Or.inr (hsz ▸ h)
  have hl : lv_has ls 2 [(0, .int (pa0)), (1, .int (pa1))] := hl
  refine lv_iload_n hx hb dX11_bit_0 rfl (lv_at hl 0 rfl) ?_
  refine lv_iload_n hx hb dX11_bit_1 rfl (lv_at hl 1 rfl) ?_
  refine lv_ishr hx hb dX11_bit_2 ?_
  refine z_any (fun v_1 => ?_)
  refine lv_iconst (v := nI 1) hx hb dX11_bit_3 (by decide +kernel) ?_
  refine lv_iand hx hb dX11_bit_4 ?_
  refine z_rng (a := 0) (b := 1) (zR_andr zk_1 (by decide)) (fun v_2 hv_2 => ?_)
  exact z_iret (v := v_2) hx hb hr hlocks hP hD hS dX11_bit_5 ⟨hv_2, rfl⟩
set_option maxHeartbeats 4000000 in
set_option maxRecDepth 100000 in
theorem mk_X11_dealtBy_3 (l : Launch) (D : va_G) (q : Nat → Nat) (cA : Nat → ClassId) (F : Nat → Nat → Int32) (I R : Nat → Nat → Int32) (J : Nat → Nat → Int64) (hI : mInv F (I, R, J)) (pa0 : Int32) (hpa0 : zR 0 5 pa0) (pa1 : Int32) (hpa1 : zR 0 31 pa1) (pa2 : Int32) (hpa2 : zR 0 4 pa2) : zMi l D vwCl (zMtys cA) 25 q (zMd q cA) yX11_dealtBy cX11_dealtBy 4 (some .int) ({ frames := 2, cells := 0, slots := 0, locals := 44 } : Room) [.ref (q 0), .int (pa0), .int (pa1), .int (pa2)] (I, R, J) (fun _ u => u = (I, R, J)) := by
  intro sz
  refine z_body (by decide +kernel) (Nat.le_of_ble_eq_true rfl) (fun p e s m below meth c ls hx hb hml hr ht hown hlocks hsz hK hP hD hS hl => ?_)
  have hA : ∀ a, s.heap.size ≤ a → zA 25 q sz a := fun a h => Or.inr (hsz ▸ h)
  have hl : lv_has ls 4 [(0, .ref (q 0)), (1, .int (pa0)), (2, .int (pa1)), (3, .int (pa2))] := hl
  refine lv_aload_n hx hb dX11_dealtBy_0 rfl (lv_at hl 0 rfl) ?_
  refine lv_iload_n hx hb dX11_dealtBy_1 rfl (lv_at hl 3 rfl) ?_
  refine lv_iload_n hx hb dX11_dealtBy_2 rfl (lv_at hl 1 rfl) ?_
  refine z_callVi (k := 0) (As := [.int (pa2), .int (pa0)]) (rest := []) hx hb hml hown ht (mk_X11_valueOf l D q cA F _ _ _ hI (pa2) hpa2 (pa0) hpa0) hw_7_6 hmX11_valueOf ⟨rfl, rfl⟩ (na := 2) rfl (by decide +kernel) (by decide) (by decide) rfl rfl hK hP hD hS hA hl.1 rfl (Nat.le_of_ble_eq_true rfl) ⟨Nat.zero_le _, Nat.zero_le _⟩ dX11_dealtBy_3 (fun r_1 I_1 R_1 J_1 H locs hp_1 hP hD hS _ _ => ?_)
  cases hp_1
  refine lv_aload_n hx hb dX11_dealtBy_6 rfl (lv_at hl 0 rfl) ?_
  refine lv_iload_n hx hb dX11_dealtBy_7 rfl (lv_at hl 1 rfl) ?_
  refine lv_iconst (v := nI 1) hx hb dX11_dealtBy_8 (by decide +kernel) ?_
  refine lv_iadd hx hb dX11_dealtBy_9 ?_
  refine z_addc 1 6 hpa0 zk_1 (by decide) (fun v_2 hv_2 mv_2 => ?_)
  refine lv_iload_n hx hb dX11_dealtBy_10 rfl (lv_at hl 2 rfl) ?_
  refine lv_iconst (v := nI 1) hx hb dX11_dealtBy_11 (by decide +kernel) ?_
  refine lv_iload_n hx hb dX11_dealtBy_12 rfl (lv_at hl 3 rfl) ?_
  refine lv_ishl hx hb dX11_dealtBy_13 ?_
  refine z_rng (a := 1) (b := 16) (zR_shl1 4 hpa2 (by decide)) (fun v_3 hv_3 => ?_)
  refine lv_ior hx hb dX11_dealtBy_14 ?_
  refine z_rng (a := 0) (b := 31) (zR_or 5 hpa1 hv_3 (by decide)) (fun v_4 hv_4 => ?_)
  refine z_callVi (k := 0) (As := [.int (v_2), .int (v_4)]) (rest := [.int (r_1)]) hx hb hml hown ht (mk_X11_dealtFrom_2 l D q cA F _ _ _ hI (v_2) hv_2 (v_4) hv_4) hw_8_22 hmX11_dealtFrom ⟨rfl, rfl⟩ (na := 2) rfl (by decide +kernel) (by decide) (by decide) rfl rfl hK hP hD hS hA hl.1 rfl (Nat.le_of_ble_eq_true rfl) ⟨Nat.zero_le _, Nat.zero_le _⟩ dX11_dealtBy_15 (fun r_5 I_5 R_5 J_5 H locs hp_5 hP hD hS _ _ => ?_)
  cases hp_5
  refine lv_iadd hx hb dX11_dealtBy_18 ?_
  refine z_any (fun v_6 => ?_)
  exact z_iret (v := v_6) hx hb hr hlocks hP hD hS dX11_dealtBy_19 rfl
set_option maxHeartbeats 4000000 in
set_option maxRecDepth 100000 in
theorem mk_X11_dealtFrom_3 (l : Launch) (D : va_G) (q : Nat → Nat) (cA : Nat → ClassId) (F : Nat → Nat → Int32) (I R : Nat → Nat → Int32) (J : Nat → Nat → Int64) (hI : mInv F (I, R, J)) (pa0 : Int32) (hpa0 : zR 0 1 pa0) (pa1 : Int32) (hpa1 : zR 0 1 pa1) : zMi l D vwCl (zMtys cA) 25 q (zMd q cA) yX11_dealtFrom cX11_dealtFrom 3 (some .int) ({ frames := 0, cells := 0, slots := 0, locals := 0 } : Room) [.ref (q 0), .int (pa0), .int (pa1)] (I, R, J) (fun _ u => u = (I, R, J)) := by
  intro sz
  refine z_body (by decide +kernel) (Nat.le_of_ble_eq_true rfl) (fun p e s m below meth c ls hx hb hml hr ht hown hlocks hsz hK hP hD hS hl => ?_)
  have hA : ∀ a, s.heap.size ≤ a → zA 25 q sz a := fun a h => Or.inr (hsz ▸ h)
  have hl : lv_has ls 3 [(0, .ref (q 0)), (1, .int (pa0)), (2, .int (pa1))] := hl
  refine lv_aload_n hx hb dX11_dealtFrom_0 rfl (lv_at hl 0 rfl) ?_
  refine z_get hx hb ht hown hK hP ziX11 rfl 0 (by decide) 35 (by decide) hw_5_222 rfl (v := .ref (q 20)) rfl dX11_dealtFrom_1 ?_
  refine lv_iload_n hx hb dX11_dealtFrom_4 rfl (lv_at hl 1 rfl) ?_
  refine lv_iconst (v := nI 5) hx hb dX11_dealtFrom_5 (by decide +kernel) ?_
  refine lv_ishl hx hb dX11_dealtFrom_6 ?_
  refine lv_topi (fun v_1 ev_1 => ?_)
  refine lv_iload_n hx hb dX11_dealtFrom_7 rfl (lv_at hl 2 rfl) ?_
  refine lv_ior hx hb dX11_dealtFrom_8 ?_
  refine z_rng (a := 0) (b := 223) ((by rw [ev_1]; exact zR_shlor (zR_w hpa0 (by decide)) (zR_w hpa1 (by decide)))) (fun v_2 hv_2 => ?_)
  refine z_iald hx hb hK hP 20 (by decide) 19 rfl rfl (zR_vin hv_2 (by decide)) dX11_dealtFrom_9 ?_
  refine z_eqi (y := R 20 (v_2).toNatClampNeg) rfl ?_
  exact z_iret (v := R 20 (v_2).toNatClampNeg) hx hb hr hlocks hP hD hS dX11_dealtFrom_10 rfl
set_option maxHeartbeats 4000000 in
set_option maxRecDepth 100000 in
theorem mk_X11_layDeals (l : Launch) (D : va_G) (q : Nat → Nat) (cA : Nat → ClassId) (F : Nat → Nat → Int32) (I R : Nat → Nat → Int32) (J : Nat → Nat → Int64) (hI : mInv F (I, R, J))  : zMi l D vwCl (zMtys cA) 25 q (zMd q cA) yX11_layDeals cX11_layDeals 5 (some .int) ({ frames := 3, cells := 0, slots := 0, locals := 67 } : Room) [.ref (q 0)] (I, R, J) (fun _ u => (mInv F u ∧ u.2.2 = J)) := by
  intro sz
  refine z_body (by decide +kernel) (Nat.le_of_ble_eq_true rfl) (fun p e s m below meth c ls hx hb hml hr ht hown hlocks hsz hK hP hD hS hl => ?_)
  have hA : ∀ a, s.heap.size ≤ a → zA 25 q sz a := fun a h => Or.inr (hsz ▸ h)
  have hl : lv_has ls 5 [(0, .ref (q 0))] := hl
  refine lv_aload_n hx hb dX11_layDeals_0 rfl (lv_at hl 0 rfl) ?_
  refine z_get hx hb ht hown hK hP ziX11 rfl 0 (by decide) 1 (by decide) hw_5_188 rfl (v := .ref (q 1)) rfl dX11_layDeals_1 ?_
  refine lv_iconst (v := nI 4) hx hb dX11_layDeals_4 (by decide +kernel) ?_
  refine z_iald hx hb hK hP 1 (by decide) 0 rfl rfl (zR_vin zk_4 (by decide)) dX11_layDeals_5 ?_
  refine z_eqi (y := R 1 (nI 4).toNatClampNeg) rfl ?_
  have f_1 : zR 0 6 (R 1 (nI 4).toNatClampNeg) := mR hI 1 4
  refine lv_istore_n (lv' := [(1, .int (R 1 (nI 4).toNatClampNeg)), (0, .ref (q 0))]) hx hb dX11_layDeals_6 rfl hl (by decide) rfl (fun ls hl => ?_)
  have loop_586 : ∀ N : Nat, ∀ x_583 : Int32, zR (-1) 6 x_583 → ∀ R_584 : Nat → Nat → Int32, mInv F (I, R_584, J) → ((x_583).toInt ≤ (F 1 4).toInt) → ((x_583).toInt + 2147483649).toNat < N → ∀ (H : Heap) (locs : List Loc), va_P D vwCl (zw 25 q (zMd q cA) I R_584 J) H → va_D (zA 25 q sz) (zw 25 q (zMd q cA) I R_584 J) → va_S (zA 25 q sz) s.heap H locs → ∀ ls : Array Slot, lv_has ls 5 [(0, .ref (q 0)), (1, .int (x_583))] → W p l e ({ frames := 3, cells := 0, slots := 0, locals := 67 } : Room) s m ([.ref (q 0)] : List Value).toArray below meth c H locs 0 0 (MQ below (va_Qi (fun _ u => (mInv F u ∧ u.2.2 = J)) (zB D vwCl 25 q (zMd q cA) sz) (zA 25 q sz)) ([.ref (q 0)] : List Value).toArray s 0 0 (zA 25 q sz)) (F0 m 7 ls []) := by
    intro N
    induction N with
    | zero => intro x_583 hx_583 R_584 hI_584 hx_585 hN; exact absurd hN (Nat.not_lt_zero _)
    | succ N ih_588 =>
      intro x_583 hx_583 R_584 hI_584 hx_585 hN_587 H locs hP hD hS ls hl
      refine lv_iload_n hx hb dX11_layDeals_7 rfl (lv_at hl 1 rfl) ?_
      refine lv_if_lt (tgt := 123) hx hb dX11_layDeals_8 (by decide) (fun c_589 => ?_) (fun c_589 => ?_)
      · have t_c_589 := z_ltT c_589
        have f_909 : zR (-1) (-1) (x_583) := zR_ltx t_c_589 hx_583 zk_z (by decide)
        refine lv_aload_n hx hb dX11_layDeals_123 rfl (lv_at hl 0 rfl) ?_
        refine lv_iconst (v := nI 0) hx hb dX11_layDeals_124 (by decide +kernel) ?_
        refine lv_iconst (v := nI 0) hx hb dX11_layDeals_125 (by decide +kernel) ?_
        refine z_callVi (k := 0) (As := [.int (nI 0), .int (nI 0)]) (rest := []) hx hb hml hown ht (mk_X11_dealtFrom_3 l D q cA F _ _ _ hI_584 (nI 0) (zR_w zk_0 (by decide)) (nI 0) (zR_w zk_0 (by decide))) hw_8_22 hmX11_dealtFrom ⟨rfl, rfl⟩ (na := 2) rfl (by decide +kernel) (by decide) (by decide) rfl rfl hK hP hD hS hA hl.1 rfl (Nat.le_of_ble_eq_true rfl) ⟨Nat.zero_le _, Nat.zero_le _⟩ dX11_layDeals_126 (fun r_910 I_910 R_910 J_910 H locs hp_910 hP hD hS _ _ => ?_)
        cases hp_910
        exact z_iret (v := r_910) hx hb hr hlocks hP hD hS dX11_layDeals_129 ⟨hI_584, rfl⟩
      · have t_c_589 := z_ltF c_589
        have f_911 : zR 0 6 (x_583) := zR_ley t_c_589 zk_z hx_583 (by decide)
        refine lv_iconst (v := nI 0) hx hb dX11_layDeals_11 (by decide +kernel) ?_
        refine lv_istore_n (lv' := [(2, .int (nI 0)), (0, .ref (q 0)), (1, .int (x_583))]) hx hb dX11_layDeals_12 rfl hl (by decide) rfl (fun ls hl => ?_)
        have loop_1228 : ∀ N : Nat, ∀ x_1226 : Int32, zR 0 32 x_1226 → ∀ R_1227 : Nat → Nat → Int32, mInv F (I, R_1227, J) → (2147483648 - (x_1226).toInt).toNat < N → ∀ (H : Heap) (locs : List Loc), va_P D vwCl (zw 25 q (zMd q cA) I R_1227 J) H → va_D (zA 25 q sz) (zw 25 q (zMd q cA) I R_1227 J) → va_S (zA 25 q sz) s.heap H locs → ∀ ls : Array Slot, lv_has ls 5 [(0, .ref (q 0)), (1, .int (x_583)), (2, .int (x_1226))] → W p l e ({ frames := 3, cells := 0, slots := 0, locals := 67 } : Room) s m ([.ref (q 0)] : List Value).toArray below meth c H locs 0 0 (MQ below (va_Qi (fun _ u => (mInv F u ∧ u.2.2 = J)) (zB D vwCl 25 q (zMd q cA) sz) (zA 25 q sz)) ([.ref (q 0)] : List Value).toArray s 0 0 (zA 25 q sz)) (F0 m 13 ls []) := by
          intro N
          induction N with
          | zero => intro x_1226 hx_1226 R_1227 hI_1227 hN; exact absurd hN (Nat.not_lt_zero _)
          | succ N ih_1230 =>
            intro x_1226 hx_1226 R_1227 hI_1227 hN_1229 H locs hP hD hS ls hl
            refine lv_iload_n hx hb dX11_layDeals_13 rfl (lv_at hl 2 rfl) ?_
            refine lv_iconst (v := nI 1) hx hb dX11_layDeals_14 (by decide +kernel) ?_
            refine lv_aload_n hx hb dX11_layDeals_15 rfl (lv_at hl 0 rfl) ?_
            refine z_get hx hb ht hown hK hP ziX11 rfl 0 (by decide) 1 (by decide) hw_5_188 rfl (v := .ref (q 1)) rfl dX11_layDeals_16 ?_
            refine lv_iconst (v := nI 3) hx hb dX11_layDeals_19 (by decide +kernel) ?_
            refine z_iald hx hb hK hP 1 (by decide) 0 rfl rfl (zR_vin zk_3 (by decide)) dX11_layDeals_20 ?_
            refine z_eqi (y := R_1227 1 (nI 3).toNatClampNeg) rfl ?_
            have f_1231 : zR 0 5 (R_1227 1 (nI 3).toNatClampNeg) := mR hI_1227 1 3
            refine lv_ishl hx hb dX11_layDeals_21 ?_
            refine z_rng (a := 1) (b := 32) (zR_shl1 5 f_1231 (by decide)) (fun v_1232 hv_1232 => ?_)
            refine lv_icmp_ge (tgt := 117) hx hb dX11_layDeals_22 (by decide) (fun c_1233 => ?_) (fun c_1233 => ?_)
            · have t_c_1233 := z_leT c_1233
              have f_1309 : zR 1 32 (x_1226) := zR_ley t_c_1233 hv_1232 hx_1226 (by decide)
              obtain ⟨v_1310, ev_1310⟩ : ∃ y : Int32, y = x_583 + (-1) := ⟨_, rfl⟩
              have hv_1310 : zR (-1) 5 v_1310 := ev_1310 ▸ zR_add f_911 zk_m1 (by decide)
              have mv_1310 : v_1310.toInt = (x_583).toInt + (-1) := by rw [ev_1310, zR_addE f_911 zk_m1 (by decide)]; rfl
              refine lv_iinc (v := v_1310) (lv' := [(1, .int (v_1310)), (0, .ref (q 0)), (2, .int (x_1226))]) hx hb dX11_layDeals_117 hl (k := 1) rfl (ev_1310 ▸ rfl) (by decide) rfl (fun ls hl => ?_)
              refine lv_goto (tgt := 7) hx hb dX11_layDeals_120 (by decide) ?_
              exact ih_588 (v_1310) (zR_w hv_1310 (by decide)) _ hI_1227 (m_dn mv_1310 hx_585) (z2_dn mv_1310 (by decide) hN_587) _ _ hP hD hS _ (lv_sub hl [1, 0] rfl)
            · have t_c_1233 := z_leF c_1233
              have f_1311 : zR 0 31 (x_1226) := zR_ltx t_c_1233 hx_1226 hv_1232 (by decide)
              refine lv_iload_n hx hb dX11_layDeals_25 rfl (lv_at hl 1 rfl) ?_
              refine lv_aload_n hx hb dX11_layDeals_26 rfl (lv_at hl 0 rfl) ?_
              refine z_get hx hb ht hown hK hP ziX11 rfl 0 (by decide) 1 (by decide) hw_5_188 rfl (v := .ref (q 1)) rfl dX11_layDeals_27 ?_
              refine lv_iconst (v := nI 4) hx hb dX11_layDeals_30 (by decide +kernel) ?_
              refine z_iald hx hb hK hP 1 (by decide) 0 rfl rfl (zR_vin zk_4 (by decide)) dX11_layDeals_31 ?_
              refine z_eqi (y := R_1227 1 (nI 4).toNatClampNeg) rfl ?_
              have f_1312 : zR 0 6 (R_1227 1 (nI 4).toNatClampNeg) := mR hI_1227 1 4
              have t_1318 : ∀ x_1317 : Int32, ∀ (H : Heap) (locs : List Loc), va_P D vwCl (zw 25 q (zMd q cA) I R_1227 J) H → va_D (zA 25 q sz) (zw 25 q (zMd q cA) I R_1227 J) → va_S (zA 25 q sz) s.heap H locs → ∀ ls : Array Slot, lv_has ls 5 [(0, .ref (q 0)), (1, .int (x_583)), (2, .int (x_1226))] → W p l e ({ frames := 3, cells := 0, slots := 0, locals := 67 } : Room) s m ([.ref (q 0)] : List Value).toArray below meth c H locs 0 0 (MQ below (va_Qi (fun _ u => (mInv F u ∧ u.2.2 = J)) (zB D vwCl 25 q (zMd q cA) sz) (zA 25 q sz)) ([.ref (q 0)] : List Value).toArray s 0 0 (zA 25 q sz)) (F0 m 47 ls [.int (x_1317)]) := by
                intro x_1317 H locs hP hD hS ls hl
                refine lv_istore_n (lv' := [(3, .int (x_1317)), (0, .ref (q 0)), (1, .int (x_583)), (2, .int (x_1226))]) hx hb dX11_layDeals_47 rfl hl (by decide) rfl (fun ls hl => ?_)
                refine lv_iconst (v := nI 0) hx hb dX11_layDeals_48 (by decide +kernel) ?_
                refine lv_istore (lv' := [(4, .int (nI 0)), (3, .int (x_1317)), (0, .ref (q 0)), (1, .int (x_583)), (2, .int (x_1226))]) hx hb dX11_layDeals_49 hl (by decide) rfl (fun ls hl => ?_)
                have t_1382 : ∀ x_1380 : Int32, ∀ x_1381 : Int32, zR 0 5 x_1381 → ∀ (H : Heap) (locs : List Loc), va_P D vwCl (zw 25 q (zMd q cA) I R_1227 J) H → va_D (zA 25 q sz) (zw 25 q (zMd q cA) I R_1227 J) → va_S (zA 25 q sz) s.heap H locs → ∀ ls : Array Slot, lv_has ls 5 [(0, .ref (q 0)), (1, .int (x_583)), (2, .int (x_1226)), (3, .int (x_1380)), (4, .int (x_1381))] → W p l e ({ frames := 3, cells := 0, slots := 0, locals := 67 } : Room) s m ([.ref (q 0)] : List Value).toArray below meth c H locs 0 0 (MQ below (va_Qi (fun _ u => (mInv F u ∧ u.2.2 = J)) (zB D vwCl 25 q (zMd q cA) sz) (zA 25 q sz)) ([.ref (q 0)] : List Value).toArray s 0 0 (zA 25 q sz)) (F0 m 100 ls []) := by
                  intro x_1380 x_1381 hx_1381 H locs hP hD hS ls hl
                  refine lv_aload_n hx hb dX11_layDeals_100 rfl (lv_at hl 0 rfl) ?_
                  refine z_get hx hb ht hown hK hP ziX11 rfl 0 (by decide) 35 (by decide) hw_5_222 rfl (v := .ref (q 20)) rfl dX11_layDeals_101 ?_
                  refine lv_iload_n hx hb dX11_layDeals_104 rfl (lv_at hl 1 rfl) ?_
                  refine lv_iconst (v := nI 5) hx hb dX11_layDeals_105 (by decide +kernel) ?_
                  refine lv_ishl hx hb dX11_layDeals_106 ?_
                  refine lv_topi (fun v_1383 ev_1383 => ?_)
                  refine lv_iload_n hx hb dX11_layDeals_107 rfl (lv_at hl 2 rfl) ?_
                  refine lv_ior hx hb dX11_layDeals_108 ?_
                  refine z_rng (a := 0) (b := 223) ((by rw [ev_1383]; exact zR_shlor f_911 f_1311)) (fun v_1384 hv_1384 => ?_)
                  refine lv_iload_n hx hb dX11_layDeals_109 rfl (lv_at hl 3 rfl) ?_
                  refine z_iast hx hb hK hP hD hS 20 (by decide) 19 (fun _ => rfl) rfl (zR_vin hv_1384 (by decide)) dX11_layDeals_110 (fun H locs hP hD hS => ?_)
                  have hI_1385 := mInv_R hI_1227 20 (v_1384).toNatClampNeg (x_1380) (zR_any _) rfl
                  obtain ⟨v_1386, ev_1386⟩ : ∃ y : Int32, y = x_1226 + nI 1 := ⟨_, rfl⟩
                  have hv_1386 : zR 1 32 v_1386 := ev_1386 ▸ zR_add f_1311 zk_1 (by decide)
                  have mv_1386 : v_1386.toInt = (x_1226).toInt + 1 := by rw [ev_1386, zR_addE f_1311 zk_1 (by decide)]; rfl
                  refine lv_iinc (v := v_1386) (lv' := [(2, .int (v_1386)), (0, .ref (q 0)), (1, .int (x_583)), (3, .int (x_1380)), (4, .int (x_1381))]) hx hb dX11_layDeals_111 hl (k := 2) rfl (ev_1386 ▸ rfl) (by decide) rfl (fun ls hl => ?_)
                  refine lv_goto (tgt := 13) hx hb dX11_layDeals_114 (by decide) ?_
                  exact ih_1230 (v_1386) (zR_w hv_1386 (by decide)) _ hI_1385 (z2_up mv_1386 (by decide) hN_1229) _ _ hP hD hS _ (lv_sub hl [1, 2, 0] rfl)
                have loop_1389 : ∀ N : Nat, ∀ x_1387 : Int32, ∀ x_1388 : Int32, zR 0 5 x_1388 → (2147483648 - (x_1388).toInt).toNat < N → ∀ (H : Heap) (locs : List Loc), va_P D vwCl (zw 25 q (zMd q cA) I R_1227 J) H → va_D (zA 25 q sz) (zw 25 q (zMd q cA) I R_1227 J) → va_S (zA 25 q sz) s.heap H locs → ∀ ls : Array Slot, lv_has ls 5 [(0, .ref (q 0)), (1, .int (x_583)), (2, .int (x_1226)), (3, .int (x_1387)), (4, .int (x_1388))] → W p l e ({ frames := 3, cells := 0, slots := 0, locals := 67 } : Room) s m ([.ref (q 0)] : List Value).toArray below meth c H locs 0 0 (MQ below (va_Qi (fun _ u => (mInv F u ∧ u.2.2 = J)) (zB D vwCl 25 q (zMd q cA) sz) (zA 25 q sz)) ([.ref (q 0)] : List Value).toArray s 0 0 (zA 25 q sz)) (F0 m 51 ls []) := by
                  intro N
                  induction N with
                  | zero => intro x_1387 x_1388 hx_1388 hN; exact absurd hN (Nat.not_lt_zero _)
                  | succ N ih_1391 =>
                    intro x_1387 x_1388 hx_1388 hN_1390 H locs hP hD hS ls hl
                    refine lv_iload hx hb dX11_layDeals_51 (lv_at hl 4 rfl) ?_
                    refine lv_aload_n hx hb dX11_layDeals_53 rfl (lv_at hl 0 rfl) ?_
                    refine z_get hx hb ht hown hK hP ziX11 rfl 0 (by decide) 1 (by decide) hw_5_188 rfl (v := .ref (q 1)) rfl dX11_layDeals_54 ?_
                    refine lv_iconst (v := nI 3) hx hb dX11_layDeals_57 (by decide +kernel) ?_
                    refine z_iald hx hb hK hP 1 (by decide) 0 rfl rfl (zR_vin zk_3 (by decide)) dX11_layDeals_58 ?_
                    refine z_eqi (y := R_1227 1 (nI 3).toNatClampNeg) rfl ?_
                    refine lv_icmp_ge (tgt := 100) hx hb dX11_layDeals_59 (by decide) (fun c_1392 => ?_) (fun c_1392 => ?_)
                    · have t_c_1392 := z_leT c_1392
                      exact t_1382 (x_1387) (x_1388) hx_1388 _ _ hP hD hS _ (lv_sub hl [0, 1, 2, 3, 4] rfl)
                    · have t_c_1392 := z_leF c_1392
                      have f_1393 : zR 0 4 (x_1388) := zR_ltx t_c_1392 hx_1388 f_1231 (by decide)
                      have f_1394 : zR 1 5 (R_1227 1 (nI 3).toNatClampNeg) := zR_lty t_c_1392 hx_1388 f_1231 (by decide)
                      refine lv_iload_n hx hb dX11_layDeals_62 rfl (lv_at hl 1 rfl) ?_
                      refine lv_aload_n hx hb dX11_layDeals_63 rfl (lv_at hl 0 rfl) ?_
                      refine z_get hx hb ht hown hK hP ziX11 rfl 0 (by decide) 1 (by decide) hw_5_188 rfl (v := .ref (q 1)) rfl dX11_layDeals_64 ?_
                      refine lv_iconst (v := nI 4) hx hb dX11_layDeals_67 (by decide +kernel) ?_
                      refine z_iald hx hb hK hP 1 (by decide) 0 rfl rfl (zR_vin zk_4 (by decide)) dX11_layDeals_68 ?_
                      refine z_eqi (y := R_1227 1 (nI 4).toNatClampNeg) rfl ?_
                      refine lv_icmp_ge (tgt := 100) hx hb dX11_layDeals_69 (by decide) (fun c_1395 => ?_) (fun c_1395 => ?_)
                      · have t_c_1395 := z_leT c_1395
                        exact t_1382 (x_1387) (x_1388) (zR_w f_1393 (by decide)) _ _ hP hD hS _ (lv_sub hl [0, 1, 2, 3, 4] rfl)
                      · have t_c_1395 := z_leF c_1395
                        have f_1396 : zR 0 5 (x_583) := zR_ltx t_c_1395 f_911 f_1312 (by decide)
                        have f_1397 : zR 1 6 (R_1227 1 (nI 4).toNatClampNeg) := zR_lty t_c_1395 f_911 f_1312 (by decide)
                        refine lv_iload_n hx hb dX11_layDeals_72 rfl (lv_at hl 2 rfl) ?_
                        refine lv_iload hx hb dX11_layDeals_73 (lv_at hl 4 rfl) ?_
                        refine z_callSi (As := [.int (x_1226), .int (x_1388)]) (rest := []) hx hb hml hown ht (mk_X11_bit_8 l D q cA F _ _ _ hI_1227 (x_1226) f_1311 (x_1388) f_1393) hw_7_220 hmX11_bit ⟨rfl, rfl⟩ (na := 2) rfl (by decide +kernel) (by decide) hK hP hD hS hA hl.1 rfl (Nat.le_of_ble_eq_true rfl) ⟨Nat.zero_le _, Nat.zero_le _⟩ dX11_layDeals_75 (fun r_1398 I_1398 R_1398 J_1398 H locs hp_1398 hP hD hS _ _ => ?_)
                        obtain ⟨hr_1398, hu_1398⟩ := hp_1398
                        cases hu_1398
                        have t_1405 : ∀ x_1404 : Int32, ∀ (H : Heap) (locs : List Loc), va_P D vwCl (zw 25 q (zMd q cA) I R_1227 J) H → va_D (zA 25 q sz) (zw 25 q (zMd q cA) I R_1227 J) → va_S (zA 25 q sz) s.heap H locs → ∀ ls : Array Slot, lv_has ls 5 [(0, .ref (q 0)), (1, .int (x_583)), (2, .int (x_1226)), (3, .int (x_1404)), (4, .int (x_1388))] → W p l e ({ frames := 3, cells := 0, slots := 0, locals := 67 } : Room) s m ([.ref (q 0)] : List Value).toArray below meth c H locs 0 0 (MQ below (va_Qi (fun _ u => (mInv F u ∧ u.2.2 = J)) (zB D vwCl 25 q (zMd q cA) sz) (zA 25 q sz)) ([.ref (q 0)] : List Value).toArray s 0 0 (zA 25 q sz)) (F0 m 94 ls []) := by
                          intro x_1404 H locs hP hD hS ls hl
                          obtain ⟨v_1406, ev_1406⟩ : ∃ y : Int32, y = x_1388 + nI 1 := ⟨_, rfl⟩
                          have hv_1406 : zR 1 5 v_1406 := ev_1406 ▸ zR_add f_1393 zk_1 (by decide)
                          have mv_1406 : v_1406.toInt = (x_1388).toInt + 1 := by rw [ev_1406, zR_addE f_1393 zk_1 (by decide)]; rfl
                          refine lv_iinc (v := v_1406) (lv' := [(4, .int (v_1406)), (0, .ref (q 0)), (1, .int (x_583)), (2, .int (x_1226)), (3, .int (x_1404))]) hx hb dX11_layDeals_94 hl (k := 4) rfl (ev_1406 ▸ rfl) (by decide) rfl (fun ls hl => ?_)
                          refine lv_goto (tgt := 51) hx hb dX11_layDeals_97 (by decide) ?_
                          exact ih_1391 (x_1404) (v_1406) (zR_w hv_1406 (by decide)) (z2_up mv_1406 (by decide) hN_1390) _ _ hP hD hS _ (lv_sub hl [1, 2, 3, 4, 0] rfl)
                        refine lv_if_ne (tgt := 94) hx hb dX11_layDeals_78 (by decide) (fun c_1399 => ?_) (fun c_1399 => ?_)
                        · have t_c_1399 := z_eqF c_1399
                          have f_1407 : zR 1 1 (r_1398) := zR_nex t_c_1399 hr_1398 zk_z (by decide)
                          exact t_1405 (x_1387) _ _ hP hD hS _ (lv_sub hl [0, 1, 2, 3, 4] rfl)
                        · have t_c_1399 := z_eqT c_1399
                          have f_1408 : zR 0 0 (r_1398) := zR_eqx t_c_1399 zk_z
                          refine lv_iload_n hx hb dX11_layDeals_81 rfl (lv_at hl 3 rfl) ?_
                          refine lv_aload_n hx hb dX11_layDeals_82 rfl (lv_at hl 0 rfl) ?_
                          refine lv_iload_n hx hb dX11_layDeals_83 rfl (lv_at hl 1 rfl) ?_
                          refine lv_iload_n hx hb dX11_layDeals_84 rfl (lv_at hl 2 rfl) ?_
                          refine lv_iload hx hb dX11_layDeals_85 (lv_at hl 4 rfl) ?_
                          refine z_callVi (k := 0) (As := [.int (x_583), .int (x_1226), .int (x_1388)]) (rest := [.int (x_1387)]) hx hb hml hown ht (mk_X11_dealtBy_3 l D q cA F _ _ _ hI_1227 (x_583) f_1396 (x_1226) f_1311 (x_1388) f_1393) hw_8_26 hmX11_dealtBy ⟨rfl, rfl⟩ (na := 3) rfl (by decide +kernel) (by decide) (by decide) rfl rfl hK hP hD hS hA hl.1 rfl (Nat.le_of_ble_eq_true rfl) ⟨Nat.zero_le _, Nat.zero_le _⟩ dX11_layDeals_87 (fun r_1409 I_1409 R_1409 J_1409 H locs hp_1409 hP hD hS _ _ => ?_)
                          cases hp_1409
                          refine va_mmax hx hb (hml.trans hl.1.symm) hown (ht _ hw_8_30) (ht _ hw_5_12) (ht _ hw_1_19) (ht _ hw_5_13) (by decide) (Nat.le_of_ble_eq_true rfl) (Nat.zero_le _) (Nat.zero_le _) dX11_layDeals_90 ?_
                          refine z_any (fun v_1410 => ?_)
                          refine lv_istore_n (lv' := [(3, .int (v_1410)), (0, .ref (q 0)), (1, .int (x_583)), (2, .int (x_1226)), (4, .int (x_1388))]) hx hb dX11_layDeals_93 rfl hl (by decide) rfl (fun ls hl => ?_)
                          exact t_1405 (v_1410) _ _ hP hD hS _ (lv_sub hl [1, 2, 3, 0, 4] rfl)
                exact loop_1389 _ (x_1317) (nI 0) (zR_w zk_0 (by decide)) (Nat.lt_succ_self _) _ _ hP hD hS _ (lv_sub hl [2, 3, 4, 1, 0] rfl)
              refine lv_icmp_ne (tgt := 39) hx hb dX11_layDeals_32 (by decide) (fun c_1313 => ?_) (fun c_1313 => ?_)
              · have t_c_1313 := z_eqF c_1313
                have f_1411 : zR 0 5 (x_583) := m_lt5 f_911 hx_585 (fun h9 => t_c_1313 (h9.trans (congrArg (fun g => (g 4).toInt) (mFr hI_1227 1 rfl)).symm)) (m_F6 hI_1227)
                refine lv_aload_n hx hb dX11_layDeals_39 rfl (lv_at hl 0 rfl) ?_
                refine lv_iload_n hx hb dX11_layDeals_40 rfl (lv_at hl 1 rfl) ?_
                refine lv_iconst (v := nI 1) hx hb dX11_layDeals_41 (by decide +kernel) ?_
                refine lv_iadd hx hb dX11_layDeals_42 ?_
                refine z_addc 1 6 f_1411 zk_1 (by decide) (fun v_1412 hv_1412 mv_1412 => ?_)
                refine lv_iload_n hx hb dX11_layDeals_43 rfl (lv_at hl 2 rfl) ?_
                refine z_callVi (k := 0) (As := [.int (v_1412), .int (x_1226)]) (rest := []) hx hb hml hown ht (mk_X11_dealtFrom_2 l D q cA F _ _ _ hI_1227 (v_1412) hv_1412 (x_1226) f_1311) hw_8_22 hmX11_dealtFrom ⟨rfl, rfl⟩ (na := 2) rfl (by decide +kernel) (by decide) (by decide) rfl rfl hK hP hD hS hA hl.1 rfl (Nat.le_of_ble_eq_true rfl) ⟨Nat.zero_le _, Nat.zero_le _⟩ dX11_layDeals_44 (fun r_1413 I_1413 R_1413 J_1413 H locs hp_1413 hP hD hS _ _ => ?_)
                cases hp_1413
                exact t_1318 (r_1413) _ _ hP hD hS _ (lv_sub hl [0, 1, 2] rfl)
              · have t_c_1313 := z_eqT c_1313
                refine lv_iconst (v := nI 0) hx hb dX11_layDeals_35 (by decide +kernel) ?_
                refine lv_goto (tgt := 47) hx hb dX11_layDeals_36 (by decide) ?_
                exact t_1318 (nI 0) _ _ hP hD hS _ (lv_sub hl [0, 1, 2] rfl)
        exact loop_1228 _ (nI 0) (zR_w zk_0 (by decide)) _ hI_584 (Nat.lt_succ_self _) _ _ hP hD hS _ (lv_sub hl [1, 2, 0] rfl)
  exact loop_586 _ (R 1 (nI 4).toNatClampNeg) (zR_w f_1 (by decide)) _ hI (Int.le_of_eq (congrArg (fun g => (g 4).toInt) (mFr hI 1 rfl))) (Nat.lt_succ_self _) _ _ hP hD hS _ (lv_sub hl [1, 0] rfl)
set_option maxHeartbeats 4000000 in
set_option maxRecDepth 100000 in
theorem mk_X11_deal (l : Launch) (D : va_G) (q : Nat → Nat) (cA : Nat → ClassId) (F : Nat → Nat → Int32) (I R : Nat → Nat → Int32) (J : Nat → Nat → Int64) (hI : mInv F (I, R, J))  : zMi l D vwCl (zMtys cA) 25 q (zMd q cA) yX11_deal cX11_deal 1 (some .int) ({ frames := 4, cells := 0, slots := 0, locals := 91 } : Room) [.ref (q 0)] (I, R, J) (fun _ u => (mInv F u ∧ u.2.2 = J)) := by
  intro sz
  refine z_body (by decide +kernel) (Nat.le_of_ble_eq_true rfl) (fun p e s m below meth c ls hx hb hml hr ht hown hlocks hsz hK hP hD hS hl => ?_)
  have hA : ∀ a, s.heap.size ≤ a → zA 25 q sz a := fun a h => Or.inr (hsz ▸ h)
  have hl : lv_has ls 1 [(0, .ref (q 0))] := hl
  refine lv_aload_n hx hb dX11_deal_0 rfl (lv_at hl 0 rfl) ?_
  refine z_callVi (k := 0) (As := []) (rest := []) hx hb hml hown ht (mk_X11_isCity l D q cA F _ _ _ hI ) hw_7_75 hmX11_isCity ⟨rfl, rfl⟩ (na := 0) rfl (by decide +kernel) (by decide) (by decide) rfl rfl hK hP hD hS hA hl.1 rfl (Nat.le_of_ble_eq_true rfl) ⟨Nat.zero_le _, Nat.zero_le _⟩ dX11_deal_1 (fun r_1 I_1 R_1 J_1 H locs hp_1 hP hD hS _ _ => ?_)
  rcases hp_1 with ⟨rfl, hu_1⟩ | ⟨rfl, hu_1⟩
  · cases hu_1
    refine lv_if_eq (tgt := 14) hx hb dX11_deal_4 (by decide) (fun c_0 => absurd c_0 (zD_ne zk_1 zk_z (by decide))) (fun _ => ?_)
    refine lv_aload_n hx hb dX11_deal_7 rfl (lv_at hl 0 rfl) ?_
    refine z_callVi (k := 0) (As := []) (rest := []) hx hb hml hown ht (mk_X11_layDeals l D q cA F _ _ _ hI ) hw_8_18 hmX11_layDeals ⟨rfl, rfl⟩ (na := 0) rfl (by decide +kernel) (by decide) (by decide) rfl rfl hK hP hD hS hA hl.1 rfl (Nat.le_of_ble_eq_true rfl) ⟨Nat.zero_le _, Nat.zero_le _⟩ dX11_deal_8 (fun r_2 I_2 R_2 J_2 H locs hp_2 hP hD hS _ _ => ?_)
    obtain ⟨hv_2, hj_2⟩ := hp_2
    try dsimp only at hj_2
    subst J_2
    refine lv_goto (tgt := 16) hx hb dX11_deal_11 (by decide) ?_
    exact z_iret (v := r_2) hx hb hr hlocks hP hD hS dX11_deal_16 ⟨hv_2, rfl⟩
  · cases hu_1
    refine lv_if_eq (tgt := 14) hx hb dX11_deal_4 (by decide) (fun _ => ?_) (fun c_0 => absurd (zD_eq zk_0 zk_z) c_0)
    refine lv_bipush (v := (-2)) hx hb dX11_deal_14 (by decide +kernel) ?_
    exact z_iret (v := (-2)) hx hb hr hlocks hP hD hS dX11_deal_16 ⟨hI, rfl⟩
set_option maxHeartbeats 4000000 in
set_option maxRecDepth 100000 in
theorem mk_X11_dealtFrom_7 (l : Launch) (D : va_G) (q : Nat → Nat) (cA : Nat → ClassId) (F : Nat → Nat → Int32) (I R : Nat → Nat → Int32) (J : Nat → Nat → Int64) (hI : mInv F (I, R, J)) (pa0 : Int32) (hpa0 : zR 0 5 pa0) (pa1 : Int32) (hpa1 : zR 0 31 pa1) : zMi l D vwCl (zMtys cA) 25 q (zMd q cA) yX11_dealtFrom cX11_dealtFrom 3 (some .int) ({ frames := 0, cells := 0, slots := 0, locals := 0 } : Room) [.ref (q 0), .int (pa0), .int (pa1)] (I, R, J) (fun _ u => u = (I, R, J)) := by
  intro sz
  refine z_body (by decide +kernel) (Nat.le_of_ble_eq_true rfl) (fun p e s m below meth c ls hx hb hml hr ht hown hlocks hsz hK hP hD hS hl => ?_)
  have hA : ∀ a, s.heap.size ≤ a → zA 25 q sz a := fun a h => Or.inr (hsz ▸ h)
  have hl : lv_has ls 3 [(0, .ref (q 0)), (1, .int (pa0)), (2, .int (pa1))] := hl
  refine lv_aload_n hx hb dX11_dealtFrom_0 rfl (lv_at hl 0 rfl) ?_
  refine z_get hx hb ht hown hK hP ziX11 rfl 0 (by decide) 35 (by decide) hw_5_222 rfl (v := .ref (q 20)) rfl dX11_dealtFrom_1 ?_
  refine lv_iload_n hx hb dX11_dealtFrom_4 rfl (lv_at hl 1 rfl) ?_
  refine lv_iconst (v := nI 5) hx hb dX11_dealtFrom_5 (by decide +kernel) ?_
  refine lv_ishl hx hb dX11_dealtFrom_6 ?_
  refine lv_topi (fun v_1 ev_1 => ?_)
  refine lv_iload_n hx hb dX11_dealtFrom_7 rfl (lv_at hl 2 rfl) ?_
  refine lv_ior hx hb dX11_dealtFrom_8 ?_
  refine z_rng (a := 0) (b := 223) ((by rw [ev_1]; exact zR_shlor (zR_w hpa0 (by decide)) hpa1)) (fun v_2 hv_2 => ?_)
  refine z_iald hx hb hK hP 20 (by decide) 19 rfl rfl (zR_vin hv_2 (by decide)) dX11_dealtFrom_9 ?_
  refine z_eqi (y := R 20 (v_2).toNatClampNeg) rfl ?_
  exact z_iret (v := R 20 (v_2).toNatClampNeg) hx hb hr hlocks hP hD hS dX11_dealtFrom_10 rfl
set_option maxHeartbeats 4000000 in
set_option maxRecDepth 100000 in
theorem mk_X11_deals (l : Launch) (D : va_G) (q : Nat → Nat) (cA : Nat → ClassId) (F : Nat → Nat → Int32) (I R : Nat → Nat → Int32) (J : Nat → Nat → Int64) (hI : mInv F (I, R, J)) (pa0 : Int32) : zMi l D vwCl (zMtys cA) 25 q (zMd q cA) yX11_deals cX11_deals 6 (some .int) ({ frames := 4, cells := 0, slots := 0, locals := 91 } : Room) [.ref (q 0), .int (pa0)] (I, R, J) (fun r u => zR (-2) 4 r ∧ (mInv F u ∧ u.2.2 = J)) := by
  intro sz
  refine z_body (by decide +kernel) (Nat.le_of_ble_eq_true rfl) (fun p e s m below meth c ls hx hb hml hr ht hown hlocks hsz hK hP hD hS hl => ?_)
  have hA : ∀ a, s.heap.size ≤ a → zA 25 q sz a := fun a h => Or.inr (hsz ▸ h)
  have hl : lv_has ls 6 [(0, .ref (q 0)), (1, .int (pa0))] := hl
  refine lv_aload_n hx hb dX11_deals_0 rfl (lv_at hl 0 rfl) ?_
  refine lv_iload_n hx hb dX11_deals_1 rfl (lv_at hl 1 rfl) ?_
  refine lv_i2l (v := (pa0).toInt64) hx hb dX11_deals_2 rfl ?_
  refine z_callVi (k := 0) (As := [.long ((pa0).toInt64)]) (rest := []) hx hb hml hown ht (mk_X11_isThing l D q cA F _ _ _ hI ((pa0).toInt64) (zR_i2l (zR_any (pa0)))) hw_6_238 hmX11_isThing ⟨rfl, rfl⟩ (na := 1) rfl (by decide +kernel) (by decide) (by decide) rfl rfl hK hP hD hS hA hl.1 rfl (Nat.le_of_ble_eq_true rfl) ⟨Nat.zero_le _, Nat.zero_le _⟩ dX11_deals_3 (fun r_1 I_1 R_1 J_1 H locs hp_1 hP hD hS _ _ => ?_)
  rcases hp_1 with ⟨rfl, hu_1, f0_1⟩ | ⟨rfl, hu_1⟩
  · cases hu_1
    have f_2 : zR 0 5 (pa0) := zL_back f0_1
    refine lv_if_ne (tgt := 12) hx hb dX11_deals_6 (by decide) (fun _ => ?_) (fun c_0 => absurd c_0 (zD_ne zk_1 zk_z (by decide)))
    refine lv_aload_n hx hb dX11_deals_12 rfl (lv_at hl 0 rfl) ?_
    refine z_callVi (k := 0) (As := []) (rest := []) hx hb hml hown ht (mk_X11_layDeals l D q cA F _ _ _ hI ) hw_8_18 hmX11_layDeals ⟨rfl, rfl⟩ (na := 0) rfl (by decide +kernel) (by decide) (by decide) rfl rfl hK hP hD hS hA hl.1 rfl (Nat.le_of_ble_eq_true rfl) ⟨Nat.zero_le _, Nat.zero_le _⟩ dX11_deals_13 (fun r_3 I_3 R_3 J_3 H locs hp_3 hP hD hS _ _ => ?_)
    obtain ⟨hv_3, hj_3⟩ := hp_3
    try dsimp only at hj_3
    subst J_3
    refine lv_pop hx hb dX11_deals_16 rfl ?_
    refine lv_iconst (v := nI 0) hx hb dX11_deals_17 (by decide +kernel) ?_
    refine lv_istore_n (lv' := [(2, .int (nI 0)), (0, .ref (q 0)), (1, .int (pa0))]) hx hb dX11_deals_18 rfl hl (by decide) rfl (fun ls hl => ?_)
    refine lv_iconst (v := (-1)) hx hb dX11_deals_19 (by decide +kernel) ?_
    refine lv_istore_n (lv' := [(3, .int ((-1))), (2, .int (nI 0)), (0, .ref (q 0)), (1, .int (pa0))]) hx hb dX11_deals_20 rfl hl (by decide) rfl (fun ls hl => ?_)
    refine lv_iconst (v := nI 0) hx hb dX11_deals_21 (by decide +kernel) ?_
    refine lv_istore (lv' := [(4, .int (nI 0)), (3, .int ((-1))), (2, .int (nI 0)), (0, .ref (q 0)), (1, .int (pa0))]) hx hb dX11_deals_22 hl (by decide) rfl (fun ls hl => ?_)
    have loop_396 : ∀ N : Nat, ∀ x_393 : Int32, zR 0 31 x_393 → ∀ x_394 : Int32, zR (-1) 4 x_394 → ∀ x_395 : Int32, zR 0 6 x_395 → (2147483648 - (x_395).toInt).toNat < N → ∀ (H : Heap) (locs : List Loc), va_P D vwCl (zw 25 q (zMd q cA) I_3 R_3 J) H → va_D (zA 25 q sz) (zw 25 q (zMd q cA) I_3 R_3 J) → va_S (zA 25 q sz) s.heap H locs → ∀ ls : Array Slot, lv_has ls 6 [(0, .ref (q 0)), (1, .int (pa0)), (2, .int (x_393)), (3, .int (x_394)), (4, .int (x_395))] → W p l e ({ frames := 4, cells := 0, slots := 0, locals := 91 } : Room) s m ([.ref (q 0), .int (pa0)] : List Value).toArray below meth c H locs 0 0 (MQ below (va_Qi (fun r u => zR (-2) 4 r ∧ (mInv F u ∧ u.2.2 = J)) (zB D vwCl 25 q (zMd q cA) sz) (zA 25 q sz)) ([.ref (q 0), .int (pa0)] : List Value).toArray s 0 0 (zA 25 q sz)) (F0 m 24 ls []) := by
      intro N
      induction N with
      | zero => intro x_393 hx_393 x_394 hx_394 x_395 hx_395 hN; exact absurd hN (Nat.not_lt_zero _)
      | succ N ih_398 =>
        intro x_393 hx_393 x_394 hx_394 x_395 hx_395 hN_397 H locs hP hD hS ls hl
        refine lv_iload hx hb dX11_deals_24 (lv_at hl 4 rfl) ?_
        refine lv_iload_n hx hb dX11_deals_26 rfl (lv_at hl 1 rfl) ?_
        refine lv_icmp_gt (tgt := 113) hx hb dX11_deals_27 (by decide) (fun c_399 => ?_) (fun c_399 => ?_)
        · have t_c_399 := z_ltT c_399
          have f_400 : zR 1 6 (x_395) := zR_lty t_c_399 f_2 hx_395 (by decide)
          refine lv_iload_n hx hb dX11_deals_113 rfl (lv_at hl 3 rfl) ?_
          exact z_iret (v := x_394) hx hb hr hlocks hP hD hS dX11_deals_114 ⟨(zR_w hx_394 (by decide)), ⟨hv_3, rfl⟩⟩
        · have t_c_399 := z_ltF c_399
          have f_401 : zR 0 5 (x_395) := zR_lex t_c_399 hx_395 f_2 (by decide)
          refine lv_iconst (v := (-1)) hx hb dX11_deals_30 (by decide +kernel) ?_
          refine lv_istore_n (lv' := [(3, .int ((-1))), (0, .ref (q 0)), (1, .int (pa0)), (2, .int (x_393)), (4, .int (x_395))]) hx hb dX11_deals_31 rfl hl (by decide) rfl (fun ls hl => ?_)
          refine lv_iconst (v := nI 0) hx hb dX11_deals_32 (by decide +kernel) ?_
          refine lv_istore (lv' := [(5, .int (nI 0)), (3, .int ((-1))), (0, .ref (q 0)), (1, .int (pa0)), (2, .int (x_393)), (4, .int (x_395))]) hx hb dX11_deals_33 hl (by decide) rfl (fun ls hl => ?_)
          have t_488 : ∀ x_486 : Int32, zR (-1) 4 x_486 → ∀ x_487 : Int32, zR 0 5 x_487 → ∀ (H : Heap) (locs : List Loc), va_P D vwCl (zw 25 q (zMd q cA) I_3 R_3 J) H → va_D (zA 25 q sz) (zw 25 q (zMd q cA) I_3 R_3 J) → va_S (zA 25 q sz) s.heap H locs → ∀ ls : Array Slot, lv_has ls 6 [(0, .ref (q 0)), (1, .int (pa0)), (2, .int (x_393)), (3, .int (x_486)), (4, .int (x_395)), (5, .int (x_487))] → W p l e ({ frames := 4, cells := 0, slots := 0, locals := 91 } : Room) s m ([.ref (q 0), .int (pa0)] : List Value).toArray below meth c H locs 0 0 (MQ below (va_Qi (fun r u => zR (-2) 4 r ∧ (mInv F u ∧ u.2.2 = J)) (zB D vwCl 25 q (zMd q cA) sz) (zA 25 q sz)) ([.ref (q 0), .int (pa0)] : List Value).toArray s 0 0 (zA 25 q sz)) (F0 m 92 ls []) := by
            intro x_486 hx_486 x_487 hx_487 H locs hP hD hS ls hl
            refine lv_iload_n hx hb dX11_deals_92 rfl (lv_at hl 2 rfl) ?_
            refine lv_iload_n hx hb dX11_deals_93 rfl (lv_at hl 3 rfl) ?_
            refine lv_iconst (v := (-1)) hx hb dX11_deals_94 (by decide +kernel) ?_
            have t_494 : ∀ x_493 : Int32, zR 0 16 x_493 → ∀ (H : Heap) (locs : List Loc), va_P D vwCl (zw 25 q (zMd q cA) I_3 R_3 J) H → va_D (zA 25 q sz) (zw 25 q (zMd q cA) I_3 R_3 J) → va_S (zA 25 q sz) s.heap H locs → ∀ ls : Array Slot, lv_has ls 6 [(0, .ref (q 0)), (1, .int (pa0)), (2, .int (x_393)), (3, .int (x_486)), (4, .int (x_395)), (5, .int (x_487))] → W p l e ({ frames := 4, cells := 0, slots := 0, locals := 91 } : Room) s m ([.ref (q 0), .int (pa0)] : List Value).toArray below meth c H locs 0 0 (MQ below (va_Qi (fun r u => zR (-2) 4 r ∧ (mInv F u ∧ u.2.2 = J)) (zB D vwCl 25 q (zMd q cA) sz) (zA 25 q sz)) ([.ref (q 0), .int (pa0)] : List Value).toArray s 0 0 (zA 25 q sz)) (F0 m 105 ls [.int (x_493), .int (x_393)]) := by
              intro x_493 hx_493 H locs hP hD hS ls hl
              refine lv_ior hx hb dX11_deals_105 ?_
              refine z_rng (a := 0) (b := 31) (zR_or 5 hx_393 hx_493 (by decide)) (fun v_495 hv_495 => ?_)
              refine lv_istore_n (lv' := [(2, .int (v_495)), (0, .ref (q 0)), (1, .int (pa0)), (3, .int (x_486)), (4, .int (x_395)), (5, .int (x_487))]) hx hb dX11_deals_106 rfl hl (by decide) rfl (fun ls hl => ?_)
              obtain ⟨v_496, ev_496⟩ : ∃ y : Int32, y = x_395 + nI 1 := ⟨_, rfl⟩
              have hv_496 : zR 1 6 v_496 := ev_496 ▸ zR_add f_401 zk_1 (by decide)
              have mv_496 : v_496.toInt = (x_395).toInt + 1 := by rw [ev_496, zR_addE f_401 zk_1 (by decide)]; rfl
              refine lv_iinc (v := v_496) (lv' := [(4, .int (v_496)), (2, .int (v_495)), (0, .ref (q 0)), (1, .int (pa0)), (3, .int (x_486)), (5, .int (x_487))]) hx hb dX11_deals_107 hl (k := 4) rfl (ev_496 ▸ rfl) (by decide) rfl (fun ls hl => ?_)
              refine lv_goto (tgt := 24) hx hb dX11_deals_110 (by decide) ?_
              exact ih_398 (v_495) hv_495 (x_486) hx_486 (v_496) (zR_w hv_496 (by decide)) (z2_up mv_496 (by decide) hN_397) _ _ hP hD hS _ (lv_sub hl [2, 3, 1, 4, 0] rfl)
            refine lv_icmp_ne (tgt := 102) hx hb dX11_deals_95 (by decide) (fun c_489 => ?_) (fun c_489 => ?_)
            · have t_c_489 := z_eqF c_489
              have f_497 : zR 0 4 (x_486) := zR_nex t_c_489 hx_486 zk_m1 (by decide)
              refine lv_iconst (v := nI 1) hx hb dX11_deals_102 (by decide +kernel) ?_
              refine lv_iload_n hx hb dX11_deals_103 rfl (lv_at hl 3 rfl) ?_
              refine lv_ishl hx hb dX11_deals_104 ?_
              refine z_rng (a := 1) (b := 16) (zR_shl1 4 f_497 (by decide)) (fun v_498 hv_498 => ?_)
              exact t_494 (v_498) (zR_w hv_498 (by decide)) _ _ hP hD hS _ (lv_sub hl [0, 1, 2, 3, 4, 5] rfl)
            · have t_c_489 := z_eqT c_489
              have f_499 : zR (-1) (-1) (x_486) := zR_eqx t_c_489 zk_m1
              refine lv_iconst (v := nI 0) hx hb dX11_deals_98 (by decide +kernel) ?_
              refine lv_goto (tgt := 105) hx hb dX11_deals_99 (by decide) ?_
              exact t_494 (nI 0) (zR_w zk_0 (by decide)) _ _ hP hD hS _ (lv_sub hl [0, 1, 2, 3, 4, 5] rfl)
          have loop_502 : ∀ N : Nat, ∀ x_500 : Int32, zR (-1) 4 x_500 → ∀ x_501 : Int32, zR 0 5 x_501 → (2147483648 - (x_501).toInt).toNat < N → ∀ (H : Heap) (locs : List Loc), va_P D vwCl (zw 25 q (zMd q cA) I_3 R_3 J) H → va_D (zA 25 q sz) (zw 25 q (zMd q cA) I_3 R_3 J) → va_S (zA 25 q sz) s.heap H locs → ∀ ls : Array Slot, lv_has ls 6 [(0, .ref (q 0)), (1, .int (pa0)), (2, .int (x_393)), (3, .int (x_500)), (4, .int (x_395)), (5, .int (x_501))] → W p l e ({ frames := 4, cells := 0, slots := 0, locals := 91 } : Room) s m ([.ref (q 0), .int (pa0)] : List Value).toArray below meth c H locs 0 0 (MQ below (va_Qi (fun r u => zR (-2) 4 r ∧ (mInv F u ∧ u.2.2 = J)) (zB D vwCl 25 q (zMd q cA) sz) (zA 25 q sz)) ([.ref (q 0), .int (pa0)] : List Value).toArray s 0 0 (zA 25 q sz)) (F0 m 35 ls []) := by
            intro N
            induction N with
            | zero => intro x_500 hx_500 x_501 hx_501 hN; exact absurd hN (Nat.not_lt_zero _)
            | succ N ih_504 =>
              intro x_500 hx_500 x_501 hx_501 hN_503 H locs hP hD hS ls hl
              refine lv_iload hx hb dX11_deals_35 (lv_at hl 5 rfl) ?_
              refine lv_aload_n hx hb dX11_deals_37 rfl (lv_at hl 0 rfl) ?_
              refine z_get hx hb ht hown hK hP ziX11 rfl 0 (by decide) 1 (by decide) hw_5_188 rfl (v := .ref (q 1)) rfl dX11_deals_38 ?_
              refine lv_iconst (v := nI 3) hx hb dX11_deals_41 (by decide +kernel) ?_
              refine z_iald hx hb hK hP 1 (by decide) 0 rfl rfl (zR_vin zk_3 (by decide)) dX11_deals_42 ?_
              refine z_eqi (y := R_3 1 (nI 3).toNatClampNeg) rfl ?_
              have f_505 : zR 0 5 (R_3 1 (nI 3).toNatClampNeg) := mR hv_3 1 3
              refine lv_icmp_ge (tgt := 92) hx hb dX11_deals_43 (by decide) (fun c_506 => ?_) (fun c_506 => ?_)
              · have t_c_506 := z_leT c_506
                exact t_488 (x_500) hx_500 (x_501) hx_501 _ _ hP hD hS _ (lv_sub hl [0, 1, 2, 3, 4, 5] rfl)
              · have t_c_506 := z_leF c_506
                have f_507 : zR 0 4 (x_501) := zR_ltx t_c_506 hx_501 f_505 (by decide)
                have f_508 : zR 1 5 (R_3 1 (nI 3).toNatClampNeg) := zR_lty t_c_506 hx_501 f_505 (by decide)
                refine lv_iload_n hx hb dX11_deals_46 rfl (lv_at hl 3 rfl) ?_
                refine lv_iconst (v := (-1)) hx hb dX11_deals_47 (by decide +kernel) ?_
                refine lv_icmp_ne (tgt := 92) hx hb dX11_deals_48 (by decide) (fun c_509 => ?_) (fun c_509 => ?_)
                · have t_c_509 := z_eqF c_509
                  have f_510 : zR 0 4 (x_500) := zR_nex t_c_509 hx_500 zk_m1 (by decide)
                  exact t_488 (x_500) (zR_w f_510 (by decide)) (x_501) (zR_w f_507 (by decide)) _ _ hP hD hS _ (lv_sub hl [0, 1, 2, 3, 4, 5] rfl)
                · have t_c_509 := z_eqT c_509
                  have f_511 : zR (-1) (-1) (x_500) := zR_eqx t_c_509 zk_m1
                  refine lv_iload_n hx hb dX11_deals_51 rfl (lv_at hl 2 rfl) ?_
                  refine lv_iload hx hb dX11_deals_52 (lv_at hl 5 rfl) ?_
                  refine z_callSi (As := [.int (x_393), .int (x_501)]) (rest := []) hx hb hml hown ht (mk_X11_bit_8 l D q cA F _ _ _ hv_3 (x_393) hx_393 (x_501) f_507) hw_7_220 hmX11_bit ⟨rfl, rfl⟩ (na := 2) rfl (by decide +kernel) (by decide) hK hP hD hS hA hl.1 rfl (Nat.le_of_ble_eq_true rfl) ⟨Nat.zero_le _, Nat.zero_le _⟩ dX11_deals_54 (fun r_512 I_512 R_512 J_512 H locs hp_512 hP hD hS _ _ => ?_)
                  obtain ⟨hr_512, hu_512⟩ := hp_512
                  cases hu_512
                  have t_520 : ∀ x_519 : Int32, zR (-1) 4 x_519 → ∀ (H : Heap) (locs : List Loc), va_P D vwCl (zw 25 q (zMd q cA) I_3 R_3 J) H → va_D (zA 25 q sz) (zw 25 q (zMd q cA) I_3 R_3 J) → va_S (zA 25 q sz) s.heap H locs → ∀ ls : Array Slot, lv_has ls 6 [(0, .ref (q 0)), (1, .int (pa0)), (2, .int (x_393)), (3, .int (x_500)), (4, .int (x_395)), (5, .int (x_501))] → W p l e ({ frames := 4, cells := 0, slots := 0, locals := 91 } : Room) s m ([.ref (q 0), .int (pa0)] : List Value).toArray below meth c H locs 0 0 (MQ below (va_Qi (fun r u => zR (-2) 4 r ∧ (mInv F u ∧ u.2.2 = J)) (zB D vwCl 25 q (zMd q cA) sz) (zA 25 q sz)) ([.ref (q 0), .int (pa0)] : List Value).toArray s 0 0 (zA 25 q sz)) (F0 m 85 ls [.int (x_519)]) := by
                    intro x_519 hx_519 H locs hP hD hS ls hl
                    refine lv_istore_n (lv' := [(3, .int (x_519)), (0, .ref (q 0)), (1, .int (pa0)), (2, .int (x_393)), (4, .int (x_395)), (5, .int (x_501))]) hx hb dX11_deals_85 rfl hl (by decide) rfl (fun ls hl => ?_)
                    obtain ⟨v_521, ev_521⟩ : ∃ y : Int32, y = x_501 + nI 1 := ⟨_, rfl⟩
                    have hv_521 : zR 1 5 v_521 := ev_521 ▸ zR_add f_507 zk_1 (by decide)
                    have mv_521 : v_521.toInt = (x_501).toInt + 1 := by rw [ev_521, zR_addE f_507 zk_1 (by decide)]; rfl
                    refine lv_iinc (v := v_521) (lv' := [(5, .int (v_521)), (3, .int (x_519)), (0, .ref (q 0)), (1, .int (pa0)), (2, .int (x_393)), (4, .int (x_395))]) hx hb dX11_deals_86 hl (k := 5) rfl (ev_521 ▸ rfl) (by decide) rfl (fun ls hl => ?_)
                    refine lv_goto (tgt := 35) hx hb dX11_deals_89 (by decide) ?_
                    exact ih_504 (x_519) hx_519 (v_521) (zR_w hv_521 (by decide)) (z2_up mv_521 (by decide) hN_503) _ _ hP hD hS _ (lv_sub hl [2, 3, 4, 1, 5, 0] rfl)
                  refine lv_if_ne (tgt := 84) hx hb dX11_deals_57 (by decide) (fun c_513 => ?_) (fun c_513 => ?_)
                  · have t_c_513 := z_eqF c_513
                    have f_522 : zR 1 1 (r_512) := zR_nex t_c_513 hr_512 zk_z (by decide)
                    refine lv_iconst (v := (-1)) hx hb dX11_deals_84 (by decide +kernel) ?_
                    exact t_520 ((-1)) (zR_w zk_m1 (by decide)) _ _ hP hD hS _ (lv_sub hl [0, 1, 2, 3, 4, 5] rfl)
                  · have t_c_513 := z_eqT c_513
                    have f_523 : zR 0 0 (r_512) := zR_eqx t_c_513 zk_z
                    refine lv_aload_n hx hb dX11_deals_60 rfl (lv_at hl 0 rfl) ?_
                    refine lv_iload hx hb dX11_deals_61 (lv_at hl 4 rfl) ?_
                    refine lv_iload_n hx hb dX11_deals_63 rfl (lv_at hl 2 rfl) ?_
                    refine lv_iload hx hb dX11_deals_64 (lv_at hl 5 rfl) ?_
                    refine z_callVi (k := 0) (As := [.int (x_395), .int (x_393), .int (x_501)]) (rest := []) hx hb hml hown ht (mk_X11_dealtBy_3 l D q cA F _ _ _ hv_3 (x_395) f_401 (x_393) hx_393 (x_501) f_507) hw_8_26 hmX11_dealtBy ⟨rfl, rfl⟩ (na := 3) rfl (by decide +kernel) (by decide) (by decide) rfl rfl hK hP hD hS hA hl.1 rfl (Nat.le_of_ble_eq_true rfl) ⟨Nat.zero_le _, Nat.zero_le _⟩ dX11_deals_66 (fun r_524 I_524 R_524 J_524 H locs hp_524 hP hD hS _ _ => ?_)
                    cases hp_524
                    refine lv_aload_n hx hb dX11_deals_69 rfl (lv_at hl 0 rfl) ?_
                    refine lv_iload hx hb dX11_deals_70 (lv_at hl 4 rfl) ?_
                    refine lv_iload_n hx hb dX11_deals_72 rfl (lv_at hl 2 rfl) ?_
                    refine z_callVi (k := 0) (As := [.int (x_395), .int (x_393)]) (rest := [.int (r_524)]) hx hb hml hown ht (mk_X11_dealtFrom_7 l D q cA F _ _ _ hv_3 (x_395) f_401 (x_393) hx_393) hw_8_22 hmX11_dealtFrom ⟨rfl, rfl⟩ (na := 2) rfl (by decide +kernel) (by decide) (by decide) rfl rfl hK hP hD hS hA hl.1 rfl (Nat.le_of_ble_eq_true rfl) ⟨Nat.zero_le _, Nat.zero_le _⟩ dX11_deals_73 (fun r_525 I_525 R_525 J_525 H locs hp_525 hP hD hS _ _ => ?_)
                    cases hp_525
                    refine lv_icmp_ne (tgt := 84) hx hb dX11_deals_76 (by decide) (fun c_526 => ?_) (fun c_526 => ?_)
                    · have t_c_526 := z_eqF c_526
                      refine lv_iconst (v := (-1)) hx hb dX11_deals_84 (by decide +kernel) ?_
                      exact t_520 ((-1)) (zR_w zk_m1 (by decide)) _ _ hP hD hS _ (lv_sub hl [0, 1, 2, 3, 4, 5] rfl)
                    · have t_c_526 := z_eqT c_526
                      refine lv_iload hx hb dX11_deals_79 (lv_at hl 5 rfl) ?_
                      refine lv_goto (tgt := 85) hx hb dX11_deals_81 (by decide) ?_
                      exact t_520 (x_501) (zR_w f_507 (by decide)) _ _ hP hD hS _ (lv_sub hl [0, 1, 2, 3, 4, 5] rfl)
          exact loop_502 _ ((-1)) (zR_w zk_m1 (by decide)) (nI 0) (zR_w zk_0 (by decide)) (Nat.lt_succ_self _) _ _ hP hD hS _ (lv_sub hl [2, 3, 4, 1, 5, 0] rfl)
    exact loop_396 _ (nI 0) (zR_w zk_0 (by decide)) ((-1)) (zR_w zk_m1 (by decide)) (nI 0) (zR_w zk_0 (by decide)) (Nat.lt_succ_self _) _ _ hP hD hS _ (lv_sub hl [3, 4, 2, 1, 0] rfl)
  · cases hu_1
    refine lv_if_ne (tgt := 12) hx hb dX11_deals_6 (by decide) (fun c_0 => absurd (zD_eq zk_0 zk_z) c_0) (fun _ => ?_)
    refine lv_bipush (v := (-2)) hx hb dX11_deals_9 (by decide +kernel) ?_
    exact z_iret (v := (-2)) hx hb hr hlocks hP hD hS dX11_deals_11 ⟨(zR_w zk_m2 (by decide)), ⟨hI, rfl⟩⟩
set_option maxHeartbeats 4000000 in
set_option maxRecDepth 100000 in
theorem mk_X11_isCost (l : Launch) (D : va_G) (q : Nat → Nat) (cA : Nat → ClassId) (F : Nat → Nat → Int32) (I R : Nat → Nat → Int32) (J : Nat → Nat → Int64) (hI : mInv F (I, R, J)) (pa0 : Int32) : zMi l D vwCl (zMtys cA) 25 q (zMd q cA) yX11_isCost cX11_isCost 2 (some .boolean) ({ frames := 6, cells := 0, slots := 0, locals := 155 } : Room) [.ref (q 0), .int (pa0)] (I, R, J) (fun r u => (r = nI 1 ∧ (mInv F u ∧ u.2.2 = J) ∧ zR 0 999 pa0) ∨ (r = nI 0 ∧ (mInv F u ∧ u.2.2 = J))) := by
  intro sz
  refine z_body (by decide +kernel) (Nat.le_of_ble_eq_true rfl) (fun p e s m below meth c ls hx hb hml hr ht hown hlocks hsz hK hP hD hS hl => ?_)
  have hA : ∀ a, s.heap.size ≤ a → zA 25 q sz a := fun a h => Or.inr (hsz ▸ h)
  have hl : lv_has ls 2 [(0, .ref (q 0)), (1, .int (pa0))] := hl
  refine lv_aload_n hx hb dX11_isCost_0 rfl (lv_at hl 0 rfl) ?_
  refine z_callVv (k := 0) (As := []) (rest := []) hx hb hml hown ht (mk_X11_asItIs l D q cA F _ _ _ hI ) hw_6_181 hmX11_asItIs ⟨rfl, rfl⟩ (na := 0) rfl (by decide +kernel) (by decide) (by decide) rfl rfl hK hP hD hS hA hl.1 rfl (Nat.le_of_ble_eq_true rfl) ⟨Nat.zero_le _, Nat.zero_le _⟩ dX11_isCost_1 (fun I_1 R_1 J_1 H locs hp_1 hP hD hS _ _ => ?_)
  obtain ⟨hv_1, hj_1, hs_1⟩ := hp_1
  try dsimp only at hj_1
  subst J_1
  refine lv_aload_n hx hb dX11_isCost_4 rfl (lv_at hl 0 rfl) ?_
  refine z_callVi (k := 0) (As := []) (rest := []) hx hb hml hown ht (mk_X11_isCity l D q cA F _ _ _ hv_1 ) hw_7_75 hmX11_isCity ⟨rfl, rfl⟩ (na := 0) rfl (by decide +kernel) (by decide) (by decide) rfl rfl hK hP hD hS hA hl.1 rfl (Nat.le_of_ble_eq_true rfl) ⟨Nat.zero_le _, Nat.zero_le _⟩ dX11_isCost_5 (fun r_2 I_2 R_2 J_2 H locs hp_2 hP hD hS _ _ => ?_)
  rcases hp_2 with ⟨rfl, hu_2⟩ | ⟨rfl, hu_2⟩
  · cases hu_2
    refine lv_if_eq (tgt := 27) hx hb dX11_isCost_8 (by decide) (fun c_0 => absurd c_0 (zD_ne zk_1 zk_z (by decide))) (fun _ => ?_)
    refine lv_iload_n hx hb dX11_isCost_11 rfl (lv_at hl 1 rfl) ?_
    refine lv_i2l (v := (pa0).toInt64) hx hb dX11_isCost_12 rfl ?_
    refine lv_lconst (v := (0 : Int64)) hx hb dX11_isCost_13 (by decide +kernel) ?_
    refine lv_ldc2 (v := (999 : Int64)) hx hb hown (ht _ hw_8_43) dX11_isCost_14 ?_
    refine z_callSi (As := [.long ((pa0).toInt64), .long ((0 : Int64)), .long ((999 : Int64))]) (rest := []) hx hb hml hown ht (mk_X11_in l D q cA F _ _ _ hv_1 ((pa0).toInt64) ((0 : Int64)) ((999 : Int64))) hw_6_86 hmX11_in ⟨rfl, rfl⟩ (na := 3) rfl (by decide +kernel) (by decide) hK hP hD hS hA hl.1 rfl (Nat.le_of_ble_eq_true rfl) ⟨Nat.zero_le _, Nat.zero_le _⟩ dX11_isCost_17 (fun r_3 I_3 R_3 J_3 H locs hp_3 hP hD hS _ _ => ?_)
    rcases hp_3 with ⟨rfl, hu_3, h1_3, h2_3⟩ | ⟨rfl, hu_3, h1_3 | h2_3⟩
    · cases hu_3
      have f_4 : zL 0 2147483647 ((pa0).toInt64) := zL_ley h1_3 zkl_0 (zR_i2l (zR_any (pa0))) (by decide)
      have f_5 : zR 0 2147483647 (pa0) := zL_back f_4
      have f_6 : zL 0 999 ((pa0).toInt64) := zL_lex h2_3 f_4 zkl_999 (by decide)
      have f_7 : zR 0 999 (pa0) := zL_back f_6
      refine lv_if_eq (tgt := 27) hx hb dX11_isCost_20 (by decide) (fun c_0 => absurd c_0 (zD_ne zk_1 zk_z (by decide))) (fun _ => ?_)
      refine lv_iconst (v := nI 1) hx hb dX11_isCost_23 (by decide +kernel) ?_
      refine lv_goto (tgt := 28) hx hb dX11_isCost_24 (by decide) ?_
      exact z_zret (v := nI 1) hx hb hr hlocks hP hD hS (by decide +kernel) dX11_isCost_28 (Or.inl ⟨rfl, ⟨hv_1, rfl⟩, f_7⟩)
    · cases hu_3
      have f_8 : zL (-2147483648) (-1) ((pa0).toInt64) := zL_ltx h1_3 (zR_i2l (zR_any (pa0))) zkl_0 (by decide)
      have f_9 : zR (-2147483648) (-1) (pa0) := zL_back f_8
      refine lv_if_eq (tgt := 27) hx hb dX11_isCost_20 (by decide) (fun _ => ?_) (fun c_0 => absurd (zD_eq zk_0 zk_z) c_0)
      refine lv_iconst (v := nI 0) hx hb dX11_isCost_27 (by decide +kernel) ?_
      exact z_zret (v := nI 0) hx hb hr hlocks hP hD hS (by decide +kernel) dX11_isCost_28 (Or.inr ⟨rfl, ⟨hv_1, rfl⟩⟩)
    · cases hu_3
      have f_10 : zL 1000 2147483647 ((pa0).toInt64) := zL_lty h2_3 zkl_999 (zR_i2l (zR_any (pa0))) (by decide)
      have f_11 : zR 1000 2147483647 (pa0) := zL_back f_10
      refine lv_if_eq (tgt := 27) hx hb dX11_isCost_20 (by decide) (fun _ => ?_) (fun c_0 => absurd (zD_eq zk_0 zk_z) c_0)
      refine lv_iconst (v := nI 0) hx hb dX11_isCost_27 (by decide +kernel) ?_
      exact z_zret (v := nI 0) hx hb hr hlocks hP hD hS (by decide +kernel) dX11_isCost_28 (Or.inr ⟨rfl, ⟨hv_1, rfl⟩⟩)
  · cases hu_2
    refine lv_if_eq (tgt := 27) hx hb dX11_isCost_8 (by decide) (fun _ => ?_) (fun c_0 => absurd (zD_eq zk_0 zk_z) c_0)
    refine lv_iconst (v := nI 0) hx hb dX11_isCost_27 (by decide +kernel) ?_
    exact z_zret (v := nI 0) hx hb hr hlocks hP hD hS (by decide +kernel) dX11_isCost_28 (Or.inr ⟨rfl, ⟨hv_1, rfl⟩⟩)
set_option maxHeartbeats 4000000 in
set_option maxRecDepth 100000 in
theorem mk_X11_bit_9 (l : Launch) (D : va_G) (q : Nat → Nat) (cA : Nat → ClassId) (F : Nat → Nat → Int32) (I R : Nat → Nat → Int32) (J : Nat → Nat → Int64) (hI : mInv F (I, R, J)) (pa0 : Int32) (pa1 : Int32) (hpa1 : zR 0 4 pa1) : zMi l D vwCl (zMtys cA) 25 q (zMd q cA) yX11_bit cX11_bit 2 (some .int) ({ frames := 0, cells := 0, slots := 0, locals := 0 } : Room) [.int (pa0), .int (pa1)] (I, R, J) (fun r u => zR 0 1 r ∧ u = (I, R, J)) := by
  intro sz
  refine z_body (by decide +kernel) (Nat.le_of_ble_eq_true rfl) (fun p e s m below meth c ls hx hb hml hr ht hown hlocks hsz hK hP hD hS hl => ?_)
  have hA : ∀ a, s.heap.size ≤ a → zA 25 q sz a := fun a h => Or.inr (hsz ▸ h)
  have hl : lv_has ls 2 [(0, .int (pa0)), (1, .int (pa1))] := hl
  refine lv_iload_n hx hb dX11_bit_0 rfl (lv_at hl 0 rfl) ?_
  refine lv_iload_n hx hb dX11_bit_1 rfl (lv_at hl 1 rfl) ?_
  refine lv_ishr hx hb dX11_bit_2 ?_
  refine z_any (fun v_1 => ?_)
  refine lv_iconst (v := nI 1) hx hb dX11_bit_3 (by decide +kernel) ?_
  refine lv_iand hx hb dX11_bit_4 ?_
  refine z_rng (a := 0) (b := 1) (zR_andr zk_1 (by decide)) (fun v_2 hv_2 => ?_)
  exact z_iret (v := v_2) hx hb hr hlocks hP hD hS dX11_bit_5 ⟨hv_2, rfl⟩
set_option maxHeartbeats 4000000 in
set_option maxRecDepth 100000 in
theorem mk_X11_gainOf_2 (l : Launch) (D : va_G) (q : Nat → Nat) (cA : Nat → ClassId) (F : Nat → Nat → Int32) (I R : Nat → Nat → Int32) (J : Nat → Nat → Int64) (hI : mInv F (I, R, J)) (pa0 : Int32) (hpa0 : zR 0 4 pa0) (pa1 : Int32) : zMi l D vwCl (zMtys cA) 25 q (zMd q cA) yX11_gainOf cX11_gainOf 5 (some .int) ({ frames := 1, cells := 0, slots := 0, locals := 64 } : Room) [.ref (q 0), .int (pa0), .int (pa1)] (I, R, J) (fun _ u => u = (I, R, J)) := by
  intro sz
  refine z_body (by decide +kernel) (Nat.le_of_ble_eq_true rfl) (fun p e s m below meth c ls hx hb hml hr ht hown hlocks hsz hK hP hD hS hl => ?_)
  have hA : ∀ a, s.heap.size ≤ a → zA 25 q sz a := fun a h => Or.inr (hsz ▸ h)
  have hl : lv_has ls 5 [(0, .ref (q 0)), (1, .int (pa0)), (2, .int (pa1))] := hl
  refine lv_iconst (v := nI 0) hx hb dX11_gainOf_0 (by decide +kernel) ?_
  refine lv_istore_n (lv' := [(3, .int (nI 0)), (0, .ref (q 0)), (1, .int (pa0)), (2, .int (pa1))]) hx hb dX11_gainOf_1 rfl hl (by decide) rfl (fun ls hl => ?_)
  refine lv_iconst (v := nI 0) hx hb dX11_gainOf_2 (by decide +kernel) ?_
  refine lv_istore (lv' := [(4, .int (nI 0)), (3, .int (nI 0)), (0, .ref (q 0)), (1, .int (pa0)), (2, .int (pa1))]) hx hb dX11_gainOf_3 hl (by decide) rfl (fun ls hl => ?_)
  have loop_64 : ∀ N : Nat, ∀ x_62 : Int32, ∀ x_63 : Int32, zR 0 6 x_63 → (2147483648 - (x_63).toInt).toNat < N → ∀ (H : Heap) (locs : List Loc), va_P D vwCl (zw 25 q (zMd q cA) I R J) H → va_D (zA 25 q sz) (zw 25 q (zMd q cA) I R J) → va_S (zA 25 q sz) s.heap H locs → ∀ ls : Array Slot, lv_has ls 5 [(0, .ref (q 0)), (1, .int (pa0)), (2, .int (pa1)), (3, .int (x_62)), (4, .int (x_63))] → W p l e ({ frames := 1, cells := 0, slots := 0, locals := 64 } : Room) s m ([.ref (q 0), .int (pa0), .int (pa1)] : List Value).toArray below meth c H locs 0 0 (MQ below (va_Qi (fun _ u => u = (I, R, J)) (zB D vwCl 25 q (zMd q cA) sz) (zA 25 q sz)) ([.ref (q 0), .int (pa0), .int (pa1)] : List Value).toArray s 0 0 (zA 25 q sz)) (F0 m 5 ls []) := by
    intro N
    induction N with
    | zero => intro x_62 x_63 hx_63 hN; exact absurd hN (Nat.not_lt_zero _)
    | succ N ih_66 =>
      intro x_62 x_63 hx_63 hN_65 H locs hP hD hS ls hl
      refine lv_iload hx hb dX11_gainOf_5 (lv_at hl 4 rfl) ?_
      refine lv_aload_n hx hb dX11_gainOf_7 rfl (lv_at hl 0 rfl) ?_
      refine z_get hx hb ht hown hK hP ziX11 rfl 0 (by decide) 1 (by decide) hw_5_188 rfl (v := .ref (q 1)) rfl dX11_gainOf_8 ?_
      refine lv_iconst (v := nI 4) hx hb dX11_gainOf_11 (by decide +kernel) ?_
      refine z_iald hx hb hK hP 1 (by decide) 0 rfl rfl (zR_vin zk_4 (by decide)) dX11_gainOf_12 ?_
      refine z_eqi (y := R 1 (nI 4).toNatClampNeg) rfl ?_
      have f_67 : zR 0 6 (R 1 (nI 4).toNatClampNeg) := mR hI 1 4
      refine lv_icmp_ge (tgt := 63) hx hb dX11_gainOf_13 (by decide) (fun c_68 => ?_) (fun c_68 => ?_)
      · have t_c_68 := z_leT c_68
        refine lv_iload_n hx hb dX11_gainOf_63 rfl (lv_at hl 3 rfl) ?_
        exact z_iret (v := x_62) hx hb hr hlocks hP hD hS dX11_gainOf_64 rfl
      · have t_c_68 := z_leF c_68
        have f_69 : zR 0 5 (x_63) := zR_ltx t_c_68 hx_63 f_67 (by decide)
        have f_70 : zR 1 6 (R 1 (nI 4).toNatClampNeg) := zR_lty t_c_68 hx_63 f_67 (by decide)
        refine lv_aload_n hx hb dX11_gainOf_16 rfl (lv_at hl 0 rfl) ?_
        refine z_get hx hb ht hown hK hP ziX11 rfl 0 (by decide) 17 (by decide) hw_5_204 rfl (v := .ref (q 9)) rfl dX11_gainOf_17 ?_
        refine lv_iload hx hb dX11_gainOf_20 (lv_at hl 4 rfl) ?_
        refine z_iald hx hb hK hP 9 (by decide) 8 rfl rfl (zR_vin f_69 (by decide)) dX11_gainOf_22 ?_
        refine z_eqi (y := R 9 (x_63).toNatClampNeg) rfl ?_
        have f_71 : zR 0 4 (R 9 (x_63).toNatClampNeg) := mR hI 9 (x_63).toNatClampNeg
        refine lv_iload_n hx hb dX11_gainOf_23 rfl (lv_at hl 1 rfl) ?_
        have t_80 : ∀ x_79 : Int32, ∀ (H : Heap) (locs : List Loc), va_P D vwCl (zw 25 q (zMd q cA) I R J) H → va_D (zA 25 q sz) (zw 25 q (zMd q cA) I R J) → va_S (zA 25 q sz) s.heap H locs → ∀ ls : Array Slot, lv_has ls 5 [(0, .ref (q 0)), (1, .int (pa0)), (2, .int (pa1)), (3, .int (x_62)), (4, .int (x_63))] → W p l e ({ frames := 1, cells := 0, slots := 0, locals := 64 } : Room) s m ([.ref (q 0), .int (pa0), .int (pa1)] : List Value).toArray below meth c H locs 0 0 (MQ below (va_Qi (fun _ u => u = (I, R, J)) (zB D vwCl 25 q (zMd q cA) sz) (zA 25 q sz)) ([.ref (q 0), .int (pa0), .int (pa1)] : List Value).toArray s 0 0 (zA 25 q sz)) (F0 m 56 ls [.int (x_79)]) := by
          intro x_79 H locs hP hD hS ls hl
          refine lv_istore_n (lv' := [(3, .int (x_79)), (0, .ref (q 0)), (1, .int (pa0)), (2, .int (pa1)), (4, .int (x_63))]) hx hb dX11_gainOf_56 rfl hl (by decide) rfl (fun ls hl => ?_)
          obtain ⟨v_81, ev_81⟩ : ∃ y : Int32, y = x_63 + nI 1 := ⟨_, rfl⟩
          have hv_81 : zR 1 6 v_81 := ev_81 ▸ zR_add f_69 zk_1 (by decide)
          have mv_81 : v_81.toInt = (x_63).toInt + 1 := by rw [ev_81, zR_addE f_69 zk_1 (by decide)]; rfl
          refine lv_iinc (v := v_81) (lv' := [(4, .int (v_81)), (3, .int (x_79)), (0, .ref (q 0)), (1, .int (pa0)), (2, .int (pa1))]) hx hb dX11_gainOf_57 hl (k := 4) rfl (ev_81 ▸ rfl) (by decide) rfl (fun ls hl => ?_)
          refine lv_goto (tgt := 5) hx hb dX11_gainOf_60 (by decide) ?_
          exact ih_66 (x_79) (v_81) (zR_w hv_81 (by decide)) (z2_up mv_81 (by decide) hN_65) _ _ hP hD hS _ (lv_sub hl [2, 3, 4, 1, 0] rfl)
        refine lv_icmp_eq (tgt := 55) hx hb dX11_gainOf_24 (by decide) (fun c_72 => ?_) (fun c_72 => ?_)
        · have t_c_72 := z_eqT c_72
          refine lv_iload_n hx hb dX11_gainOf_55 rfl (lv_at hl 3 rfl) ?_
          exact t_80 (x_62) _ _ hP hD hS _ (lv_sub hl [0, 1, 2, 3, 4] rfl)
        · have t_c_72 := z_eqF c_72
          refine lv_iload_n hx hb dX11_gainOf_27 rfl (lv_at hl 2 rfl) ?_
          refine lv_aload_n hx hb dX11_gainOf_28 rfl (lv_at hl 0 rfl) ?_
          refine z_get hx hb ht hown hK hP ziX11 rfl 0 (by decide) 17 (by decide) hw_5_204 rfl (v := .ref (q 9)) rfl dX11_gainOf_29 ?_
          refine lv_iload hx hb dX11_gainOf_32 (lv_at hl 4 rfl) ?_
          refine z_iald hx hb hK hP 9 (by decide) 8 rfl rfl (zR_vin f_69 (by decide)) dX11_gainOf_34 ?_
          refine z_eqi (y := R 9 (x_63).toNatClampNeg) rfl ?_
          refine z_callSi (As := [.int (pa1), .int (R 9 (x_63).toNatClampNeg)]) (rest := []) hx hb hml hown ht (mk_X11_bit_9 l D q cA F _ _ _ hI (pa1) (R 9 (x_63).toNatClampNeg) f_71) hw_7_220 hmX11_bit ⟨rfl, rfl⟩ (na := 2) rfl (by decide +kernel) (by decide) hK hP hD hS hA hl.1 rfl (Nat.le_of_ble_eq_true rfl) ⟨Nat.zero_le _, Nat.zero_le _⟩ dX11_gainOf_35 (fun r_82 I_82 R_82 J_82 H locs hp_82 hP hD hS _ _ => ?_)
          obtain ⟨hr_82, hu_82⟩ := hp_82
          cases hu_82
          refine lv_if_ne (tgt := 55) hx hb dX11_gainOf_38 (by decide) (fun c_83 => ?_) (fun c_83 => ?_)
          · have t_c_83 := z_eqF c_83
            have f_84 : zR 1 1 (r_82) := zR_nex t_c_83 hr_82 zk_z (by decide)
            refine lv_iload_n hx hb dX11_gainOf_55 rfl (lv_at hl 3 rfl) ?_
            exact t_80 (x_62) _ _ hP hD hS _ (lv_sub hl [0, 1, 2, 3, 4] rfl)
          · have t_c_83 := z_eqT c_83
            have f_85 : zR 0 0 (r_82) := zR_eqx t_c_83 zk_z
            refine lv_iload_n hx hb dX11_gainOf_41 rfl (lv_at hl 3 rfl) ?_
            refine lv_aload_n hx hb dX11_gainOf_42 rfl (lv_at hl 0 rfl) ?_
            refine lv_iload_n hx hb dX11_gainOf_43 rfl (lv_at hl 1 rfl) ?_
            refine lv_iload hx hb dX11_gainOf_44 (lv_at hl 4 rfl) ?_
            refine z_callVi (k := 0) (As := [.int (pa0), .int (x_63)]) (rest := [.int (x_62)]) hx hb hml hown ht (mk_X11_wantOf l D q cA F _ _ _ hI (pa0) hpa0 (x_63) f_69) hw_7_10 hmX11_wantOf ⟨rfl, rfl⟩ (na := 2) rfl (by decide +kernel) (by decide) (by decide) rfl rfl hK hP hD hS hA hl.1 rfl (Nat.le_of_ble_eq_true rfl) ⟨Nat.zero_le _, Nat.zero_le _⟩ dX11_gainOf_46 (fun r_86 I_86 R_86 J_86 H locs hp_86 hP hD hS _ _ => ?_)
            cases hp_86
            refine va_mmax hx hb (hml.trans hl.1.symm) hown (ht _ hw_8_30) (ht _ hw_5_12) (ht _ hw_1_19) (ht _ hw_5_13) (by decide) (Nat.le_of_ble_eq_true rfl) (Nat.zero_le _) (Nat.zero_le _) dX11_gainOf_49 ?_
            refine z_any (fun v_87 => ?_)
            refine lv_goto (tgt := 56) hx hb dX11_gainOf_52 (by decide) ?_
            exact t_80 (v_87) _ _ hP hD hS _ (lv_sub hl [0, 1, 2, 3, 4] rfl)
  exact loop_64 _ (nI 0) (nI 0) (zR_w zk_0 (by decide)) (Nat.lt_succ_self _) _ _ hP hD hS _ (lv_sub hl [2, 3, 4, 1, 0] rfl)
set_option maxHeartbeats 4000000 in
set_option maxRecDepth 100000 in
theorem mk_X11_lossOf_1 (l : Launch) (D : va_G) (q : Nat → Nat) (cA : Nat → ClassId) (F : Nat → Nat → Int32) (I R : Nat → Nat → Int32) (J : Nat → Nat → Int64) (hI : mInv F (I, R, J)) (pa0 : Int32) (hpa0 : zR 0 4 pa0) : zMi l D vwCl (zMtys cA) 25 q (zMd q cA) yX11_lossOf cX11_lossOf 4 (some .int) ({ frames := 1, cells := 0, slots := 0, locals := 64 } : Room) [.ref (q 0), .int (pa0)] (I, R, J) (fun _ u => u = (I, R, J)) := by
  intro sz
  refine z_body (by decide +kernel) (Nat.le_of_ble_eq_true rfl) (fun p e s m below meth c ls hx hb hml hr ht hown hlocks hsz hK hP hD hS hl => ?_)
  have hA : ∀ a, s.heap.size ≤ a → zA 25 q sz a := fun a h => Or.inr (hsz ▸ h)
  have hl : lv_has ls 4 [(0, .ref (q 0)), (1, .int (pa0))] := hl
  refine lv_iconst (v := nI 0) hx hb dX11_lossOf_0 (by decide +kernel) ?_
  refine lv_istore_n (lv' := [(2, .int (nI 0)), (0, .ref (q 0)), (1, .int (pa0))]) hx hb dX11_lossOf_1 rfl hl (by decide) rfl (fun ls hl => ?_)
  refine lv_iconst (v := nI 0) hx hb dX11_lossOf_2 (by decide +kernel) ?_
  refine lv_istore_n (lv' := [(3, .int (nI 0)), (2, .int (nI 0)), (0, .ref (q 0)), (1, .int (pa0))]) hx hb dX11_lossOf_3 rfl hl (by decide) rfl (fun ls hl => ?_)
  have loop_48 : ∀ N : Nat, ∀ x_46 : Int32, ∀ x_47 : Int32, zR 0 6 x_47 → (2147483648 - (x_47).toInt).toNat < N → ∀ (H : Heap) (locs : List Loc), va_P D vwCl (zw 25 q (zMd q cA) I R J) H → va_D (zA 25 q sz) (zw 25 q (zMd q cA) I R J) → va_S (zA 25 q sz) s.heap H locs → ∀ ls : Array Slot, lv_has ls 4 [(0, .ref (q 0)), (1, .int (pa0)), (2, .int (x_46)), (3, .int (x_47))] → W p l e ({ frames := 1, cells := 0, slots := 0, locals := 64 } : Room) s m ([.ref (q 0), .int (pa0)] : List Value).toArray below meth c H locs 0 0 (MQ below (va_Qi (fun _ u => u = (I, R, J)) (zB D vwCl 25 q (zMd q cA) sz) (zA 25 q sz)) ([.ref (q 0), .int (pa0)] : List Value).toArray s 0 0 (zA 25 q sz)) (F0 m 4 ls []) := by
    intro N
    induction N with
    | zero => intro x_46 x_47 hx_47 hN; exact absurd hN (Nat.not_lt_zero _)
    | succ N ih_50 =>
      intro x_46 x_47 hx_47 hN_49 H locs hP hD hS ls hl
      refine lv_iload_n hx hb dX11_lossOf_4 rfl (lv_at hl 3 rfl) ?_
      refine lv_aload_n hx hb dX11_lossOf_5 rfl (lv_at hl 0 rfl) ?_
      refine z_get hx hb ht hown hK hP ziX11 rfl 0 (by decide) 1 (by decide) hw_5_188 rfl (v := .ref (q 1)) rfl dX11_lossOf_6 ?_
      refine lv_iconst (v := nI 4) hx hb dX11_lossOf_9 (by decide +kernel) ?_
      refine z_iald hx hb hK hP 1 (by decide) 0 rfl rfl (zR_vin zk_4 (by decide)) dX11_lossOf_10 ?_
      refine z_eqi (y := R 1 (nI 4).toNatClampNeg) rfl ?_
      have f_51 : zR 0 6 (R 1 (nI 4).toNatClampNeg) := mR hI 1 4
      refine lv_icmp_ge (tgt := 45) hx hb dX11_lossOf_11 (by decide) (fun c_52 => ?_) (fun c_52 => ?_)
      · have t_c_52 := z_leT c_52
        refine lv_iload_n hx hb dX11_lossOf_45 rfl (lv_at hl 2 rfl) ?_
        exact z_iret (v := x_46) hx hb hr hlocks hP hD hS dX11_lossOf_46 rfl
      · have t_c_52 := z_leF c_52
        have f_53 : zR 0 5 (x_47) := zR_ltx t_c_52 hx_47 f_51 (by decide)
        have f_54 : zR 1 6 (R 1 (nI 4).toNatClampNeg) := zR_lty t_c_52 hx_47 f_51 (by decide)
        refine lv_aload_n hx hb dX11_lossOf_14 rfl (lv_at hl 0 rfl) ?_
        refine z_get hx hb ht hown hK hP ziX11 rfl 0 (by decide) 17 (by decide) hw_5_204 rfl (v := .ref (q 9)) rfl dX11_lossOf_15 ?_
        refine lv_iload_n hx hb dX11_lossOf_18 rfl (lv_at hl 3 rfl) ?_
        refine z_iald hx hb hK hP 9 (by decide) 8 rfl rfl (zR_vin f_53 (by decide)) dX11_lossOf_19 ?_
        refine z_eqi (y := R 9 (x_47).toNatClampNeg) rfl ?_
        have f_55 : zR 0 4 (R 9 (x_47).toNatClampNeg) := mR hI 9 (x_47).toNatClampNeg
        refine lv_iload_n hx hb dX11_lossOf_20 rfl (lv_at hl 1 rfl) ?_
        have t_60 : ∀ x_59 : Int32, ∀ (H : Heap) (locs : List Loc), va_P D vwCl (zw 25 q (zMd q cA) I R J) H → va_D (zA 25 q sz) (zw 25 q (zMd q cA) I R J) → va_S (zA 25 q sz) s.heap H locs → ∀ ls : Array Slot, lv_has ls 4 [(0, .ref (q 0)), (1, .int (pa0)), (2, .int (x_46)), (3, .int (x_47))] → W p l e ({ frames := 1, cells := 0, slots := 0, locals := 64 } : Room) s m ([.ref (q 0), .int (pa0)] : List Value).toArray below meth c H locs 0 0 (MQ below (va_Qi (fun _ u => u = (I, R, J)) (zB D vwCl 25 q (zMd q cA) sz) (zA 25 q sz)) ([.ref (q 0), .int (pa0)] : List Value).toArray s 0 0 (zA 25 q sz)) (F0 m 38 ls [.int (x_59)]) := by
          intro x_59 H locs hP hD hS ls hl
          refine lv_istore_n (lv' := [(2, .int (x_59)), (0, .ref (q 0)), (1, .int (pa0)), (3, .int (x_47))]) hx hb dX11_lossOf_38 rfl hl (by decide) rfl (fun ls hl => ?_)
          obtain ⟨v_61, ev_61⟩ : ∃ y : Int32, y = x_47 + nI 1 := ⟨_, rfl⟩
          have hv_61 : zR 1 6 v_61 := ev_61 ▸ zR_add f_53 zk_1 (by decide)
          have mv_61 : v_61.toInt = (x_47).toInt + 1 := by rw [ev_61, zR_addE f_53 zk_1 (by decide)]; rfl
          refine lv_iinc (v := v_61) (lv' := [(3, .int (v_61)), (2, .int (x_59)), (0, .ref (q 0)), (1, .int (pa0))]) hx hb dX11_lossOf_39 hl (k := 3) rfl (ev_61 ▸ rfl) (by decide) rfl (fun ls hl => ?_)
          refine lv_goto (tgt := 4) hx hb dX11_lossOf_42 (by decide) ?_
          exact ih_50 (x_59) (v_61) (zR_w hv_61 (by decide)) (z2_up mv_61 (by decide) hN_49) _ _ hP hD hS _ (lv_sub hl [2, 3, 1, 0] rfl)
        refine lv_icmp_ne (tgt := 37) hx hb dX11_lossOf_21 (by decide) (fun c_56 => ?_) (fun c_56 => ?_)
        · have t_c_56 := z_eqF c_56
          refine lv_iload_n hx hb dX11_lossOf_37 rfl (lv_at hl 2 rfl) ?_
          exact t_60 (x_46) _ _ hP hD hS _ (lv_sub hl [0, 1, 2, 3] rfl)
        · have t_c_56 := z_eqT c_56
          refine lv_iload_n hx hb dX11_lossOf_24 rfl (lv_at hl 2 rfl) ?_
          refine lv_aload_n hx hb dX11_lossOf_25 rfl (lv_at hl 0 rfl) ?_
          refine lv_iload_n hx hb dX11_lossOf_26 rfl (lv_at hl 1 rfl) ?_
          refine lv_iload_n hx hb dX11_lossOf_27 rfl (lv_at hl 3 rfl) ?_
          refine z_callVi (k := 0) (As := [.int (pa0), .int (x_47)]) (rest := [.int (x_46)]) hx hb hml hown ht (mk_X11_wantOf l D q cA F _ _ _ hI (pa0) hpa0 (x_47) f_53) hw_7_10 hmX11_wantOf ⟨rfl, rfl⟩ (na := 2) rfl (by decide +kernel) (by decide) (by decide) rfl rfl hK hP hD hS hA hl.1 rfl (Nat.le_of_ble_eq_true rfl) ⟨Nat.zero_le _, Nat.zero_le _⟩ dX11_lossOf_28 (fun r_62 I_62 R_62 J_62 H locs hp_62 hP hD hS _ _ => ?_)
          cases hp_62
          refine va_mmax hx hb (hml.trans hl.1.symm) hown (ht _ hw_8_30) (ht _ hw_5_12) (ht _ hw_1_19) (ht _ hw_5_13) (by decide) (Nat.le_of_ble_eq_true rfl) (Nat.zero_le _) (Nat.zero_le _) dX11_lossOf_31 ?_
          refine z_any (fun v_63 => ?_)
          refine lv_goto (tgt := 38) hx hb dX11_lossOf_34 (by decide) ?_
          exact t_60 (v_63) _ _ hP hD hS _ (lv_sub hl [0, 1, 2, 3] rfl)
  exact loop_48 _ (nI 0) (nI 0) (zR_w zk_0 (by decide)) (Nat.lt_succ_self _) _ _ hP hD hS _ (lv_sub hl [2, 3, 1, 0] rfl)
set_option maxHeartbeats 4000000 in
set_option maxRecDepth 100000 in
theorem mk_X11_getsBy_2 (l : Launch) (D : va_G) (q : Nat → Nat) (cA : Nat → ClassId) (F : Nat → Nat → Int32) (I R : Nat → Nat → Int32) (J : Nat → Nat → Int64) (hI : mInv F (I, R, J)) (pa0 : Int32) (hpa0 : zR 0 4 pa0) (pa1 : Int32) (pa2 : Int32) (hpa2 : zR 0 999 pa2) : zMi l D vwCl (zMtys cA) 25 q (zMd q cA) yX11_getsBy cX11_getsBy 4 (some .int) ({ frames := 2, cells := 0, slots := 0, locals := 88 } : Room) [.ref (q 0), .int (pa0), .int (pa1), .int (pa2)] (I, R, J) (fun _ u => u = (I, R, J)) := by
  intro sz
  refine z_body (by decide +kernel) (Nat.le_of_ble_eq_true rfl) (fun p e s m below meth c ls hx hb hml hr ht hown hlocks hsz hK hP hD hS hl => ?_)
  have hA : ∀ a, s.heap.size ≤ a → zA 25 q sz a := fun a h => Or.inr (hsz ▸ h)
  have hl : lv_has ls 4 [(0, .ref (q 0)), (1, .int (pa0)), (2, .int (pa1)), (3, .int (pa2))] := hl
  refine lv_aload_n hx hb dX11_getsBy_0 rfl (lv_at hl 0 rfl) ?_
  refine lv_iload_n hx hb dX11_getsBy_1 rfl (lv_at hl 1 rfl) ?_
  refine lv_iload_n hx hb dX11_getsBy_2 rfl (lv_at hl 2 rfl) ?_
  refine z_callVi (k := 0) (As := [.int (pa0), .int (pa1)]) (rest := []) hx hb hml hown ht (mk_X11_gainOf_2 l D q cA F _ _ _ hI (pa0) hpa0 (pa1)) hw_8_52 hmX11_gainOf ⟨rfl, rfl⟩ (na := 2) rfl (by decide +kernel) (by decide) (by decide) rfl rfl hK hP hD hS hA hl.1 rfl (Nat.le_of_ble_eq_true rfl) ⟨Nat.zero_le _, Nat.zero_le _⟩ dX11_getsBy_3 (fun r_1 I_1 R_1 J_1 H locs hp_1 hP hD hS _ _ => ?_)
  cases hp_1
  refine lv_iload_n hx hb dX11_getsBy_6 rfl (lv_at hl 2 rfl) ?_
  refine lv_iload_n hx hb dX11_getsBy_7 rfl (lv_at hl 1 rfl) ?_
  refine z_callSi (As := [.int (pa1), .int (pa0)]) (rest := [.int (r_1)]) hx hb hml hown ht (mk_X11_bit_9 l D q cA F _ _ _ hI (pa1) (pa0) hpa0) hw_7_220 hmX11_bit ⟨rfl, rfl⟩ (na := 2) rfl (by decide +kernel) (by decide) hK hP hD hS hA hl.1 rfl (Nat.le_of_ble_eq_true rfl) ⟨Nat.zero_le _, Nat.zero_le _⟩ dX11_getsBy_8 (fun r_2 I_2 R_2 J_2 H locs hp_2 hP hD hS _ _ => ?_)
  obtain ⟨hr_2, hu_2⟩ := hp_2
  cases hu_2
  refine lv_iconst (v := nI 1) hx hb dX11_getsBy_11 (by decide +kernel) ?_
  refine lv_icmp_ne (tgt := 19) hx hb dX11_getsBy_12 (by decide) (fun c_3 => ?_) (fun c_3 => ?_)
  · have t_c_3 := z_eqF c_3
    have f_4 : zR 0 0 (r_2) := zR_nex t_c_3 hr_2 zk_1 (by decide)
    refine lv_aload_n hx hb dX11_getsBy_19 rfl (lv_at hl 0 rfl) ?_
    refine lv_iload_n hx hb dX11_getsBy_20 rfl (lv_at hl 1 rfl) ?_
    refine z_callVi (k := 0) (As := [.int (pa0)]) (rest := [.int (r_1)]) hx hb hml hown ht (mk_X11_lossOf_1 l D q cA F _ _ _ hI (pa0) hpa0) hw_8_56 hmX11_lossOf ⟨rfl, rfl⟩ (na := 1) rfl (by decide +kernel) (by decide) (by decide) rfl rfl hK hP hD hS hA hl.1 rfl (Nat.le_of_ble_eq_true rfl) ⟨Nat.zero_le _, Nat.zero_le _⟩ dX11_getsBy_21 (fun r_5 I_5 R_5 J_5 H locs hp_5 hP hD hS _ _ => ?_)
    cases hp_5
    refine lv_isub hx hb dX11_getsBy_24 ?_
    refine z_any (fun v_6 => ?_)
    exact z_iret (v := v_6) hx hb hr hlocks hP hD hS dX11_getsBy_25 rfl
  · have t_c_3 := z_eqT c_3
    have f_7 : zR 1 1 (r_2) := zR_eqx t_c_3 zk_1
    refine lv_iload_n hx hb dX11_getsBy_15 rfl (lv_at hl 3 rfl) ?_
    refine lv_goto (tgt := 24) hx hb dX11_getsBy_16 (by decide) ?_
    refine lv_isub hx hb dX11_getsBy_24 ?_
    refine z_any (fun v_8 => ?_)
    exact z_iret (v := v_8) hx hb hr hlocks hP hD hS dX11_getsBy_25 rfl
set_option maxHeartbeats 4000000 in
set_option maxRecDepth 100000 in
theorem mk_X11_gainOf_5 (l : Launch) (D : va_G) (q : Nat → Nat) (cA : Nat → ClassId) (F : Nat → Nat → Int32) (I R : Nat → Nat → Int32) (J : Nat → Nat → Int64) (hI : mInv F (I, R, J)) (pa0 : Int32) (hpa0 : zR 0 4 pa0) (pa1 : Int32) (hpa1 : zR 0 31 pa1) : zMi l D vwCl (zMtys cA) 25 q (zMd q cA) yX11_gainOf cX11_gainOf 5 (some .int) ({ frames := 1, cells := 0, slots := 0, locals := 64 } : Room) [.ref (q 0), .int (pa0), .int (pa1)] (I, R, J) (fun _ u => u = (I, R, J)) := by
  intro sz
  refine z_body (by decide +kernel) (Nat.le_of_ble_eq_true rfl) (fun p e s m below meth c ls hx hb hml hr ht hown hlocks hsz hK hP hD hS hl => ?_)
  have hA : ∀ a, s.heap.size ≤ a → zA 25 q sz a := fun a h => Or.inr (hsz ▸ h)
  have hl : lv_has ls 5 [(0, .ref (q 0)), (1, .int (pa0)), (2, .int (pa1))] := hl
  refine lv_iconst (v := nI 0) hx hb dX11_gainOf_0 (by decide +kernel) ?_
  refine lv_istore_n (lv' := [(3, .int (nI 0)), (0, .ref (q 0)), (1, .int (pa0)), (2, .int (pa1))]) hx hb dX11_gainOf_1 rfl hl (by decide) rfl (fun ls hl => ?_)
  refine lv_iconst (v := nI 0) hx hb dX11_gainOf_2 (by decide +kernel) ?_
  refine lv_istore (lv' := [(4, .int (nI 0)), (3, .int (nI 0)), (0, .ref (q 0)), (1, .int (pa0)), (2, .int (pa1))]) hx hb dX11_gainOf_3 hl (by decide) rfl (fun ls hl => ?_)
  have loop_64 : ∀ N : Nat, ∀ x_62 : Int32, ∀ x_63 : Int32, zR 0 6 x_63 → (2147483648 - (x_63).toInt).toNat < N → ∀ (H : Heap) (locs : List Loc), va_P D vwCl (zw 25 q (zMd q cA) I R J) H → va_D (zA 25 q sz) (zw 25 q (zMd q cA) I R J) → va_S (zA 25 q sz) s.heap H locs → ∀ ls : Array Slot, lv_has ls 5 [(0, .ref (q 0)), (1, .int (pa0)), (2, .int (pa1)), (3, .int (x_62)), (4, .int (x_63))] → W p l e ({ frames := 1, cells := 0, slots := 0, locals := 64 } : Room) s m ([.ref (q 0), .int (pa0), .int (pa1)] : List Value).toArray below meth c H locs 0 0 (MQ below (va_Qi (fun _ u => u = (I, R, J)) (zB D vwCl 25 q (zMd q cA) sz) (zA 25 q sz)) ([.ref (q 0), .int (pa0), .int (pa1)] : List Value).toArray s 0 0 (zA 25 q sz)) (F0 m 5 ls []) := by
    intro N
    induction N with
    | zero => intro x_62 x_63 hx_63 hN; exact absurd hN (Nat.not_lt_zero _)
    | succ N ih_66 =>
      intro x_62 x_63 hx_63 hN_65 H locs hP hD hS ls hl
      refine lv_iload hx hb dX11_gainOf_5 (lv_at hl 4 rfl) ?_
      refine lv_aload_n hx hb dX11_gainOf_7 rfl (lv_at hl 0 rfl) ?_
      refine z_get hx hb ht hown hK hP ziX11 rfl 0 (by decide) 1 (by decide) hw_5_188 rfl (v := .ref (q 1)) rfl dX11_gainOf_8 ?_
      refine lv_iconst (v := nI 4) hx hb dX11_gainOf_11 (by decide +kernel) ?_
      refine z_iald hx hb hK hP 1 (by decide) 0 rfl rfl (zR_vin zk_4 (by decide)) dX11_gainOf_12 ?_
      refine z_eqi (y := R 1 (nI 4).toNatClampNeg) rfl ?_
      have f_67 : zR 0 6 (R 1 (nI 4).toNatClampNeg) := mR hI 1 4
      refine lv_icmp_ge (tgt := 63) hx hb dX11_gainOf_13 (by decide) (fun c_68 => ?_) (fun c_68 => ?_)
      · have t_c_68 := z_leT c_68
        refine lv_iload_n hx hb dX11_gainOf_63 rfl (lv_at hl 3 rfl) ?_
        exact z_iret (v := x_62) hx hb hr hlocks hP hD hS dX11_gainOf_64 rfl
      · have t_c_68 := z_leF c_68
        have f_69 : zR 0 5 (x_63) := zR_ltx t_c_68 hx_63 f_67 (by decide)
        have f_70 : zR 1 6 (R 1 (nI 4).toNatClampNeg) := zR_lty t_c_68 hx_63 f_67 (by decide)
        refine lv_aload_n hx hb dX11_gainOf_16 rfl (lv_at hl 0 rfl) ?_
        refine z_get hx hb ht hown hK hP ziX11 rfl 0 (by decide) 17 (by decide) hw_5_204 rfl (v := .ref (q 9)) rfl dX11_gainOf_17 ?_
        refine lv_iload hx hb dX11_gainOf_20 (lv_at hl 4 rfl) ?_
        refine z_iald hx hb hK hP 9 (by decide) 8 rfl rfl (zR_vin f_69 (by decide)) dX11_gainOf_22 ?_
        refine z_eqi (y := R 9 (x_63).toNatClampNeg) rfl ?_
        have f_71 : zR 0 4 (R 9 (x_63).toNatClampNeg) := mR hI 9 (x_63).toNatClampNeg
        refine lv_iload_n hx hb dX11_gainOf_23 rfl (lv_at hl 1 rfl) ?_
        have t_80 : ∀ x_79 : Int32, ∀ (H : Heap) (locs : List Loc), va_P D vwCl (zw 25 q (zMd q cA) I R J) H → va_D (zA 25 q sz) (zw 25 q (zMd q cA) I R J) → va_S (zA 25 q sz) s.heap H locs → ∀ ls : Array Slot, lv_has ls 5 [(0, .ref (q 0)), (1, .int (pa0)), (2, .int (pa1)), (3, .int (x_62)), (4, .int (x_63))] → W p l e ({ frames := 1, cells := 0, slots := 0, locals := 64 } : Room) s m ([.ref (q 0), .int (pa0), .int (pa1)] : List Value).toArray below meth c H locs 0 0 (MQ below (va_Qi (fun _ u => u = (I, R, J)) (zB D vwCl 25 q (zMd q cA) sz) (zA 25 q sz)) ([.ref (q 0), .int (pa0), .int (pa1)] : List Value).toArray s 0 0 (zA 25 q sz)) (F0 m 56 ls [.int (x_79)]) := by
          intro x_79 H locs hP hD hS ls hl
          refine lv_istore_n (lv' := [(3, .int (x_79)), (0, .ref (q 0)), (1, .int (pa0)), (2, .int (pa1)), (4, .int (x_63))]) hx hb dX11_gainOf_56 rfl hl (by decide) rfl (fun ls hl => ?_)
          obtain ⟨v_81, ev_81⟩ : ∃ y : Int32, y = x_63 + nI 1 := ⟨_, rfl⟩
          have hv_81 : zR 1 6 v_81 := ev_81 ▸ zR_add f_69 zk_1 (by decide)
          have mv_81 : v_81.toInt = (x_63).toInt + 1 := by rw [ev_81, zR_addE f_69 zk_1 (by decide)]; rfl
          refine lv_iinc (v := v_81) (lv' := [(4, .int (v_81)), (3, .int (x_79)), (0, .ref (q 0)), (1, .int (pa0)), (2, .int (pa1))]) hx hb dX11_gainOf_57 hl (k := 4) rfl (ev_81 ▸ rfl) (by decide) rfl (fun ls hl => ?_)
          refine lv_goto (tgt := 5) hx hb dX11_gainOf_60 (by decide) ?_
          exact ih_66 (x_79) (v_81) (zR_w hv_81 (by decide)) (z2_up mv_81 (by decide) hN_65) _ _ hP hD hS _ (lv_sub hl [2, 3, 4, 1, 0] rfl)
        refine lv_icmp_eq (tgt := 55) hx hb dX11_gainOf_24 (by decide) (fun c_72 => ?_) (fun c_72 => ?_)
        · have t_c_72 := z_eqT c_72
          refine lv_iload_n hx hb dX11_gainOf_55 rfl (lv_at hl 3 rfl) ?_
          exact t_80 (x_62) _ _ hP hD hS _ (lv_sub hl [0, 1, 2, 3, 4] rfl)
        · have t_c_72 := z_eqF c_72
          refine lv_iload_n hx hb dX11_gainOf_27 rfl (lv_at hl 2 rfl) ?_
          refine lv_aload_n hx hb dX11_gainOf_28 rfl (lv_at hl 0 rfl) ?_
          refine z_get hx hb ht hown hK hP ziX11 rfl 0 (by decide) 17 (by decide) hw_5_204 rfl (v := .ref (q 9)) rfl dX11_gainOf_29 ?_
          refine lv_iload hx hb dX11_gainOf_32 (lv_at hl 4 rfl) ?_
          refine z_iald hx hb hK hP 9 (by decide) 8 rfl rfl (zR_vin f_69 (by decide)) dX11_gainOf_34 ?_
          refine z_eqi (y := R 9 (x_63).toNatClampNeg) rfl ?_
          refine z_callSi (As := [.int (pa1), .int (R 9 (x_63).toNatClampNeg)]) (rest := []) hx hb hml hown ht (mk_X11_bit_8 l D q cA F _ _ _ hI (pa1) hpa1 (R 9 (x_63).toNatClampNeg) f_71) hw_7_220 hmX11_bit ⟨rfl, rfl⟩ (na := 2) rfl (by decide +kernel) (by decide) hK hP hD hS hA hl.1 rfl (Nat.le_of_ble_eq_true rfl) ⟨Nat.zero_le _, Nat.zero_le _⟩ dX11_gainOf_35 (fun r_82 I_82 R_82 J_82 H locs hp_82 hP hD hS _ _ => ?_)
          obtain ⟨hr_82, hu_82⟩ := hp_82
          cases hu_82
          refine lv_if_ne (tgt := 55) hx hb dX11_gainOf_38 (by decide) (fun c_83 => ?_) (fun c_83 => ?_)
          · have t_c_83 := z_eqF c_83
            have f_84 : zR 1 1 (r_82) := zR_nex t_c_83 hr_82 zk_z (by decide)
            refine lv_iload_n hx hb dX11_gainOf_55 rfl (lv_at hl 3 rfl) ?_
            exact t_80 (x_62) _ _ hP hD hS _ (lv_sub hl [0, 1, 2, 3, 4] rfl)
          · have t_c_83 := z_eqT c_83
            have f_85 : zR 0 0 (r_82) := zR_eqx t_c_83 zk_z
            refine lv_iload_n hx hb dX11_gainOf_41 rfl (lv_at hl 3 rfl) ?_
            refine lv_aload_n hx hb dX11_gainOf_42 rfl (lv_at hl 0 rfl) ?_
            refine lv_iload_n hx hb dX11_gainOf_43 rfl (lv_at hl 1 rfl) ?_
            refine lv_iload hx hb dX11_gainOf_44 (lv_at hl 4 rfl) ?_
            refine z_callVi (k := 0) (As := [.int (pa0), .int (x_63)]) (rest := [.int (x_62)]) hx hb hml hown ht (mk_X11_wantOf l D q cA F _ _ _ hI (pa0) hpa0 (x_63) f_69) hw_7_10 hmX11_wantOf ⟨rfl, rfl⟩ (na := 2) rfl (by decide +kernel) (by decide) (by decide) rfl rfl hK hP hD hS hA hl.1 rfl (Nat.le_of_ble_eq_true rfl) ⟨Nat.zero_le _, Nat.zero_le _⟩ dX11_gainOf_46 (fun r_86 I_86 R_86 J_86 H locs hp_86 hP hD hS _ _ => ?_)
            cases hp_86
            refine va_mmax hx hb (hml.trans hl.1.symm) hown (ht _ hw_8_30) (ht _ hw_5_12) (ht _ hw_1_19) (ht _ hw_5_13) (by decide) (Nat.le_of_ble_eq_true rfl) (Nat.zero_le _) (Nat.zero_le _) dX11_gainOf_49 ?_
            refine z_any (fun v_87 => ?_)
            refine lv_goto (tgt := 56) hx hb dX11_gainOf_52 (by decide) ?_
            exact t_80 (v_87) _ _ hP hD hS _ (lv_sub hl [0, 1, 2, 3, 4] rfl)
  exact loop_64 _ (nI 0) (nI 0) (zR_w zk_0 (by decide)) (Nat.lt_succ_self _) _ _ hP hD hS _ (lv_sub hl [2, 3, 4, 1, 0] rfl)
set_option maxHeartbeats 4000000 in
set_option maxRecDepth 100000 in
theorem mk_X11_getsBy_5 (l : Launch) (D : va_G) (q : Nat → Nat) (cA : Nat → ClassId) (F : Nat → Nat → Int32) (I R : Nat → Nat → Int32) (J : Nat → Nat → Int64) (hI : mInv F (I, R, J)) (pa0 : Int32) (hpa0 : zR 0 4 pa0) (pa1 : Int32) (hpa1 : zR 0 31 pa1) (pa2 : Int32) (hpa2 : zR 0 999 pa2) : zMi l D vwCl (zMtys cA) 25 q (zMd q cA) yX11_getsBy cX11_getsBy 4 (some .int) ({ frames := 2, cells := 0, slots := 0, locals := 88 } : Room) [.ref (q 0), .int (pa0), .int (pa1), .int (pa2)] (I, R, J) (fun _ u => u = (I, R, J)) := by
  intro sz
  refine z_body (by decide +kernel) (Nat.le_of_ble_eq_true rfl) (fun p e s m below meth c ls hx hb hml hr ht hown hlocks hsz hK hP hD hS hl => ?_)
  have hA : ∀ a, s.heap.size ≤ a → zA 25 q sz a := fun a h => Or.inr (hsz ▸ h)
  have hl : lv_has ls 4 [(0, .ref (q 0)), (1, .int (pa0)), (2, .int (pa1)), (3, .int (pa2))] := hl
  refine lv_aload_n hx hb dX11_getsBy_0 rfl (lv_at hl 0 rfl) ?_
  refine lv_iload_n hx hb dX11_getsBy_1 rfl (lv_at hl 1 rfl) ?_
  refine lv_iload_n hx hb dX11_getsBy_2 rfl (lv_at hl 2 rfl) ?_
  refine z_callVi (k := 0) (As := [.int (pa0), .int (pa1)]) (rest := []) hx hb hml hown ht (mk_X11_gainOf_5 l D q cA F _ _ _ hI (pa0) hpa0 (pa1) hpa1) hw_8_52 hmX11_gainOf ⟨rfl, rfl⟩ (na := 2) rfl (by decide +kernel) (by decide) (by decide) rfl rfl hK hP hD hS hA hl.1 rfl (Nat.le_of_ble_eq_true rfl) ⟨Nat.zero_le _, Nat.zero_le _⟩ dX11_getsBy_3 (fun r_1 I_1 R_1 J_1 H locs hp_1 hP hD hS _ _ => ?_)
  cases hp_1
  refine lv_iload_n hx hb dX11_getsBy_6 rfl (lv_at hl 2 rfl) ?_
  refine lv_iload_n hx hb dX11_getsBy_7 rfl (lv_at hl 1 rfl) ?_
  refine z_callSi (As := [.int (pa1), .int (pa0)]) (rest := [.int (r_1)]) hx hb hml hown ht (mk_X11_bit_8 l D q cA F _ _ _ hI (pa1) hpa1 (pa0) hpa0) hw_7_220 hmX11_bit ⟨rfl, rfl⟩ (na := 2) rfl (by decide +kernel) (by decide) hK hP hD hS hA hl.1 rfl (Nat.le_of_ble_eq_true rfl) ⟨Nat.zero_le _, Nat.zero_le _⟩ dX11_getsBy_8 (fun r_2 I_2 R_2 J_2 H locs hp_2 hP hD hS _ _ => ?_)
  obtain ⟨hr_2, hu_2⟩ := hp_2
  cases hu_2
  refine lv_iconst (v := nI 1) hx hb dX11_getsBy_11 (by decide +kernel) ?_
  refine lv_icmp_ne (tgt := 19) hx hb dX11_getsBy_12 (by decide) (fun c_3 => ?_) (fun c_3 => ?_)
  · have t_c_3 := z_eqF c_3
    have f_4 : zR 0 0 (r_2) := zR_nex t_c_3 hr_2 zk_1 (by decide)
    refine lv_aload_n hx hb dX11_getsBy_19 rfl (lv_at hl 0 rfl) ?_
    refine lv_iload_n hx hb dX11_getsBy_20 rfl (lv_at hl 1 rfl) ?_
    refine z_callVi (k := 0) (As := [.int (pa0)]) (rest := [.int (r_1)]) hx hb hml hown ht (mk_X11_lossOf_1 l D q cA F _ _ _ hI (pa0) hpa0) hw_8_56 hmX11_lossOf ⟨rfl, rfl⟩ (na := 1) rfl (by decide +kernel) (by decide) (by decide) rfl rfl hK hP hD hS hA hl.1 rfl (Nat.le_of_ble_eq_true rfl) ⟨Nat.zero_le _, Nat.zero_le _⟩ dX11_getsBy_21 (fun r_5 I_5 R_5 J_5 H locs hp_5 hP hD hS _ _ => ?_)
    cases hp_5
    refine lv_isub hx hb dX11_getsBy_24 ?_
    refine z_any (fun v_6 => ?_)
    exact z_iret (v := v_6) hx hb hr hlocks hP hD hS dX11_getsBy_25 rfl
  · have t_c_3 := z_eqT c_3
    have f_7 : zR 1 1 (r_2) := zR_eqx t_c_3 zk_1
    refine lv_iload_n hx hb dX11_getsBy_15 rfl (lv_at hl 3 rfl) ?_
    refine lv_goto (tgt := 24) hx hb dX11_getsBy_16 (by decide) ?_
    refine lv_isub hx hb dX11_getsBy_24 ?_
    refine z_any (fun v_8 => ?_)
    exact z_iret (v := v_8) hx hb hr hlocks hP hD hS dX11_getsBy_25 rfl
set_option maxHeartbeats 4000000 in
set_option maxRecDepth 100000 in
theorem mk_X11_isRest_1 (l : Launch) (D : va_G) (q : Nat → Nat) (cA : Nat → ClassId) (F : Nat → Nat → Int32) (I R : Nat → Nat → Int32) (J : Nat → Nat → Int64) (hI : mInv F (I, R, J)) (pa0 : Int32) (hpa0 : zR 0 31 pa0) (pa1 : Int32) (hpa1 : zR 0 999 pa1) : zMi l D vwCl (zMtys cA) 25 q (zMd q cA) yX11_isRest cX11_isRest 4 (some .boolean) ({ frames := 3, cells := 0, slots := 0, locals := 111 } : Room) [.ref (q 0), .int (pa0), .int (pa1)] (I, R, J) (fun r u => (r = nI 1 ∧ u = (I, R, J)) ∨ (r = nI 0 ∧ u = (I, R, J))) := by
  intro sz
  refine z_body (by decide +kernel) (Nat.le_of_ble_eq_true rfl) (fun p e s m below meth c ls hx hb hml hr ht hown hlocks hsz hK hP hD hS hl => ?_)
  have hA : ∀ a, s.heap.size ≤ a → zA 25 q sz a := fun a h => Or.inr (hsz ▸ h)
  have hl : lv_has ls 4 [(0, .ref (q 0)), (1, .int (pa0)), (2, .int (pa1))] := hl
  refine lv_iconst (v := nI 0) hx hb dX11_isRest_0 (by decide +kernel) ?_
  refine lv_istore_n (lv' := [(3, .int (nI 0)), (0, .ref (q 0)), (1, .int (pa0)), (2, .int (pa1))]) hx hb dX11_isRest_1 rfl hl (by decide) rfl (fun ls hl => ?_)
  have loop_51 : ∀ N : Nat, ∀ x_50 : Int32, zR 0 5 x_50 → (2147483648 - (x_50).toInt).toNat < N → ∀ (H : Heap) (locs : List Loc), va_P D vwCl (zw 25 q (zMd q cA) I R J) H → va_D (zA 25 q sz) (zw 25 q (zMd q cA) I R J) → va_S (zA 25 q sz) s.heap H locs → ∀ ls : Array Slot, lv_has ls 4 [(0, .ref (q 0)), (1, .int (pa0)), (2, .int (pa1)), (3, .int (x_50))] → W p l e ({ frames := 3, cells := 0, slots := 0, locals := 111 } : Room) s m ([.ref (q 0), .int (pa0), .int (pa1)] : List Value).toArray below meth c H locs 0 0 (MQ below (va_Qi (fun r u => (r = nI 1 ∧ u = (I, R, J)) ∨ (r = nI 0 ∧ u = (I, R, J))) (zB D vwCl 25 q (zMd q cA) sz) (zA 25 q sz)) ([.ref (q 0), .int (pa0), .int (pa1)] : List Value).toArray s 0 0 (zA 25 q sz)) (F0 m 2 ls []) := by
    intro N
    induction N with
    | zero => intro x_50 hx_50 hN; exact absurd hN (Nat.not_lt_zero _)
    | succ N ih_53 =>
      intro x_50 hx_50 hN_52 H locs hP hD hS ls hl
      refine lv_iload_n hx hb dX11_isRest_2 rfl (lv_at hl 3 rfl) ?_
      refine lv_aload_n hx hb dX11_isRest_3 rfl (lv_at hl 0 rfl) ?_
      refine z_get hx hb ht hown hK hP ziX11 rfl 0 (by decide) 1 (by decide) hw_5_188 rfl (v := .ref (q 1)) rfl dX11_isRest_4 ?_
      refine lv_iconst (v := nI 3) hx hb dX11_isRest_7 (by decide +kernel) ?_
      refine z_iald hx hb hK hP 1 (by decide) 0 rfl rfl (zR_vin zk_3 (by decide)) dX11_isRest_8 ?_
      refine z_eqi (y := R 1 (nI 3).toNatClampNeg) rfl ?_
      have f_54 : zR 0 5 (R 1 (nI 3).toNatClampNeg) := mR hI 1 3
      refine lv_icmp_ge (tgt := 41) hx hb dX11_isRest_9 (by decide) (fun c_55 => ?_) (fun c_55 => ?_)
      · have t_c_55 := z_leT c_55
        refine lv_iconst (v := nI 1) hx hb dX11_isRest_41 (by decide +kernel) ?_
        exact z_zret (v := nI 1) hx hb hr hlocks hP hD hS (by decide +kernel) dX11_isRest_42 (Or.inl ⟨rfl, rfl⟩)
      · have t_c_55 := z_leF c_55
        have f_56 : zR 0 4 (x_50) := zR_ltx t_c_55 hx_50 f_54 (by decide)
        have f_57 : zR 1 5 (R 1 (nI 3).toNatClampNeg) := zR_lty t_c_55 hx_50 f_54 (by decide)
        refine lv_aload_n hx hb dX11_isRest_12 rfl (lv_at hl 0 rfl) ?_
        refine lv_iload_n hx hb dX11_isRest_13 rfl (lv_at hl 3 rfl) ?_
        refine lv_iload_n hx hb dX11_isRest_14 rfl (lv_at hl 1 rfl) ?_
        refine lv_iconst (v := nI 1) hx hb dX11_isRest_15 (by decide +kernel) ?_
        refine lv_iload_n hx hb dX11_isRest_16 rfl (lv_at hl 3 rfl) ?_
        refine lv_ishl hx hb dX11_isRest_17 ?_
        refine z_rng (a := 1) (b := 16) (zR_shl1 4 f_56 (by decide)) (fun v_58 hv_58 => ?_)
        refine lv_ixor hx hb dX11_isRest_18 ?_
        refine z_any (fun v_59 => ?_)
        refine lv_iload_n hx hb dX11_isRest_19 rfl (lv_at hl 2 rfl) ?_
        refine z_callVi (k := 0) (As := [.int (x_50), .int (v_59), .int (pa1)]) (rest := []) hx hb hml hown ht (mk_X11_getsBy_2 l D q cA F _ _ _ hI (x_50) f_56 (v_59) (pa1) hpa1) hw_8_48 hmX11_getsBy ⟨rfl, rfl⟩ (na := 3) rfl (by decide +kernel) (by decide) (by decide) rfl rfl hK hP hD hS hA hl.1 rfl (Nat.le_of_ble_eq_true rfl) ⟨Nat.zero_le _, Nat.zero_le _⟩ dX11_isRest_20 (fun r_60 I_60 R_60 J_60 H locs hp_60 hP hD hS _ _ => ?_)
        cases hp_60
        refine lv_aload_n hx hb dX11_isRest_23 rfl (lv_at hl 0 rfl) ?_
        refine lv_iload_n hx hb dX11_isRest_24 rfl (lv_at hl 3 rfl) ?_
        refine lv_iload_n hx hb dX11_isRest_25 rfl (lv_at hl 1 rfl) ?_
        refine lv_iload_n hx hb dX11_isRest_26 rfl (lv_at hl 2 rfl) ?_
        refine z_callVi (k := 0) (As := [.int (x_50), .int (pa0), .int (pa1)]) (rest := [.int (r_60)]) hx hb hml hown ht (mk_X11_getsBy_5 l D q cA F _ _ _ hI (x_50) f_56 (pa0) hpa0 (pa1) hpa1) hw_8_48 hmX11_getsBy ⟨rfl, rfl⟩ (na := 3) rfl (by decide +kernel) (by decide) (by decide) rfl rfl hK hP hD hS hA hl.1 rfl (Nat.le_of_ble_eq_true rfl) ⟨Nat.zero_le _, Nat.zero_le _⟩ dX11_isRest_27 (fun r_61 I_61 R_61 J_61 H locs hp_61 hP hD hS _ _ => ?_)
        cases hp_61
        refine lv_icmp_le (tgt := 35) hx hb dX11_isRest_30 (by decide) (fun c_62 => ?_) (fun c_62 => ?_)
        · have t_c_62 := z_leT c_62
          obtain ⟨v_63, ev_63⟩ : ∃ y : Int32, y = x_50 + nI 1 := ⟨_, rfl⟩
          have hv_63 : zR 1 5 v_63 := ev_63 ▸ zR_add f_56 zk_1 (by decide)
          have mv_63 : v_63.toInt = (x_50).toInt + 1 := by rw [ev_63, zR_addE f_56 zk_1 (by decide)]; rfl
          refine lv_iinc (v := v_63) (lv' := [(3, .int (v_63)), (0, .ref (q 0)), (1, .int (pa0)), (2, .int (pa1))]) hx hb dX11_isRest_35 hl (k := 3) rfl (ev_63 ▸ rfl) (by decide) rfl (fun ls hl => ?_)
          refine lv_goto (tgt := 2) hx hb dX11_isRest_38 (by decide) ?_
          exact ih_53 (v_63) (zR_w hv_63 (by decide)) (z2_up mv_63 (by decide) hN_52) _ _ hP hD hS _ (lv_sub hl [1, 2, 3, 0] rfl)
        · have t_c_62 := z_leF c_62
          have f_64 : zR (-2147483648) 2147483646 (r_61) := zR_ltx t_c_62 (zR_any (r_61)) (zR_any (r_60)) (by decide)
          have f_65 : zR (-2147483647) 2147483647 (r_60) := zR_lty t_c_62 (zR_any (r_61)) (zR_any (r_60)) (by decide)
          refine lv_iconst (v := nI 0) hx hb dX11_isRest_33 (by decide +kernel) ?_
          exact z_zret (v := nI 0) hx hb hr hlocks hP hD hS (by decide +kernel) dX11_isRest_34 (Or.inr ⟨rfl, rfl⟩)
  exact loop_51 _ (nI 0) (zR_w zk_0 (by decide)) (Nat.lt_succ_self _) _ _ hP hD hS _ (lv_sub hl [1, 2, 3, 0] rfl)
set_option maxHeartbeats 4000000 in
set_option maxRecDepth 100000 in
theorem mk_X11_rests (l : Launch) (D : va_G) (q : Nat → Nat) (cA : Nat → ClassId) (F : Nat → Nat → Int32) (I R : Nat → Nat → Int32) (J : Nat → Nat → Int64) (hI : mInv F (I, R, J)) (pa0 : Int32) : zMi l D vwCl (zMtys cA) 25 q (zMd q cA) yX11_rests cX11_rests 4 (some .int) ({ frames := 7, cells := 0, slots := 0, locals := 176 } : Room) [.ref (q 0), .int (pa0)] (I, R, J) (fun _ u => (mInv F u ∧ u.2.2 = J)) := by
  intro sz
  refine z_body (by decide +kernel) (Nat.le_of_ble_eq_true rfl) (fun p e s m below meth c ls hx hb hml hr ht hown hlocks hsz hK hP hD hS hl => ?_)
  have hA : ∀ a, s.heap.size ≤ a → zA 25 q sz a := fun a h => Or.inr (hsz ▸ h)
  have hl : lv_has ls 4 [(0, .ref (q 0)), (1, .int (pa0))] := hl
  refine lv_aload_n hx hb dX11_rests_0 rfl (lv_at hl 0 rfl) ?_
  refine lv_iload_n hx hb dX11_rests_1 rfl (lv_at hl 1 rfl) ?_
  refine z_callVi (k := 0) (As := [.int (pa0)]) (rest := []) hx hb hml hown ht (mk_X11_isCost l D q cA F _ _ _ hI (pa0)) hw_8_39 hmX11_isCost ⟨rfl, rfl⟩ (na := 1) rfl (by decide +kernel) (by decide) (by decide) rfl rfl hK hP hD hS hA hl.1 rfl (Nat.le_of_ble_eq_true rfl) ⟨Nat.zero_le _, Nat.zero_le _⟩ dX11_rests_2 (fun r_1 I_1 R_1 J_1 H locs hp_1 hP hD hS _ _ => ?_)
  rcases hp_1 with ⟨rfl, hu_1, f0_1⟩ | ⟨rfl, hu_1⟩
  · obtain ⟨hv_1, hj_1⟩ := hu_1
    try dsimp only at hj_1
    subst J_1
    refine lv_if_ne (tgt := 11) hx hb dX11_rests_5 (by decide) (fun _ => ?_) (fun c_0 => absurd c_0 (zD_ne zk_1 zk_z (by decide)))
    refine lv_iconst (v := nI 0) hx hb dX11_rests_11 (by decide +kernel) ?_
    refine lv_istore_n (lv' := [(2, .int (nI 0)), (0, .ref (q 0)), (1, .int (pa0))]) hx hb dX11_rests_12 rfl hl (by decide) rfl (fun ls hl => ?_)
    refine lv_iconst (v := nI 0) hx hb dX11_rests_13 (by decide +kernel) ?_
    refine lv_istore_n (lv' := [(3, .int (nI 0)), (2, .int (nI 0)), (0, .ref (q 0)), (1, .int (pa0))]) hx hb dX11_rests_14 rfl hl (by decide) rfl (fun ls hl => ?_)
    have loop_119 : ∀ N : Nat, ∀ x_117 : Int32, ∀ x_118 : Int32, zR 0 32 x_118 → (2147483648 - (x_118).toInt).toNat < N → ∀ (H : Heap) (locs : List Loc), va_P D vwCl (zw 25 q (zMd q cA) I_1 R_1 J) H → va_D (zA 25 q sz) (zw 25 q (zMd q cA) I_1 R_1 J) → va_S (zA 25 q sz) s.heap H locs → ∀ ls : Array Slot, lv_has ls 4 [(0, .ref (q 0)), (1, .int (pa0)), (2, .int (x_117)), (3, .int (x_118))] → W p l e ({ frames := 7, cells := 0, slots := 0, locals := 176 } : Room) s m ([.ref (q 0), .int (pa0)] : List Value).toArray below meth c H locs 0 0 (MQ below (va_Qi (fun _ u => (mInv F u ∧ u.2.2 = J)) (zB D vwCl 25 q (zMd q cA) sz) (zA 25 q sz)) ([.ref (q 0), .int (pa0)] : List Value).toArray s 0 0 (zA 25 q sz)) (F0 m 15 ls []) := by
      intro N
      induction N with
      | zero => intro x_117 x_118 hx_118 hN; exact absurd hN (Nat.not_lt_zero _)
      | succ N ih_121 =>
        intro x_117 x_118 hx_118 hN_120 H locs hP hD hS ls hl
        refine lv_iload_n hx hb dX11_rests_15 rfl (lv_at hl 3 rfl) ?_
        refine lv_iconst (v := nI 1) hx hb dX11_rests_16 (by decide +kernel) ?_
        refine lv_aload_n hx hb dX11_rests_17 rfl (lv_at hl 0 rfl) ?_
        refine z_get hx hb ht hown hK hP ziX11 rfl 0 (by decide) 1 (by decide) hw_5_188 rfl (v := .ref (q 1)) rfl dX11_rests_18 ?_
        refine lv_iconst (v := nI 3) hx hb dX11_rests_21 (by decide +kernel) ?_
        refine z_iald hx hb hK hP 1 (by decide) 0 rfl rfl (zR_vin zk_3 (by decide)) dX11_rests_22 ?_
        refine z_eqi (y := R_1 1 (nI 3).toNatClampNeg) rfl ?_
        have f_122 : zR 0 5 (R_1 1 (nI 3).toNatClampNeg) := mR hv_1 1 3
        refine lv_ishl hx hb dX11_rests_23 ?_
        refine z_rng (a := 1) (b := 32) (zR_shl1 5 f_122 (by decide)) (fun v_123 hv_123 => ?_)
        refine lv_icmp_ge (tgt := 50) hx hb dX11_rests_24 (by decide) (fun c_124 => ?_) (fun c_124 => ?_)
        · have t_c_124 := z_leT c_124
          have f_125 : zR 1 32 (x_118) := zR_ley t_c_124 hv_123 hx_118 (by decide)
          refine lv_iload_n hx hb dX11_rests_50 rfl (lv_at hl 2 rfl) ?_
          exact z_iret (v := x_117) hx hb hr hlocks hP hD hS dX11_rests_51 ⟨hv_1, rfl⟩
        · have t_c_124 := z_leF c_124
          have f_126 : zR 0 31 (x_118) := zR_ltx t_c_124 hx_118 hv_123 (by decide)
          refine lv_iload_n hx hb dX11_rests_27 rfl (lv_at hl 2 rfl) ?_
          refine lv_aload_n hx hb dX11_rests_28 rfl (lv_at hl 0 rfl) ?_
          refine lv_iload_n hx hb dX11_rests_29 rfl (lv_at hl 3 rfl) ?_
          refine lv_iload_n hx hb dX11_rests_30 rfl (lv_at hl 1 rfl) ?_
          have t_129 : ∀ x_128 : Int32, zR 0 1 x_128 → ∀ (H : Heap) (locs : List Loc), va_P D vwCl (zw 25 q (zMd q cA) I_1 R_1 J) H → va_D (zA 25 q sz) (zw 25 q (zMd q cA) I_1 R_1 J) → va_S (zA 25 q sz) s.heap H locs → ∀ ls : Array Slot, lv_has ls 4 [(0, .ref (q 0)), (1, .int (pa0)), (2, .int (x_117)), (3, .int (x_118))] → W p l e ({ frames := 7, cells := 0, slots := 0, locals := 176 } : Room) s m ([.ref (q 0), .int (pa0)] : List Value).toArray below meth c H locs 0 0 (MQ below (va_Qi (fun _ u => (mInv F u ∧ u.2.2 = J)) (zB D vwCl 25 q (zMd q cA) sz) (zA 25 q sz)) ([.ref (q 0), .int (pa0)] : List Value).toArray s 0 0 (zA 25 q sz)) (F0 m 42 ls [.int (x_128), .int (x_117)]) := by
            intro x_128 hx_128 H locs hP hD hS ls hl
            refine lv_iadd hx hb dX11_rests_42 ?_
            refine z_any (fun v_130 => ?_)
            refine lv_istore_n (lv' := [(2, .int (v_130)), (0, .ref (q 0)), (1, .int (pa0)), (3, .int (x_118))]) hx hb dX11_rests_43 rfl hl (by decide) rfl (fun ls hl => ?_)
            obtain ⟨v_131, ev_131⟩ : ∃ y : Int32, y = x_118 + nI 1 := ⟨_, rfl⟩
            have hv_131 : zR 1 32 v_131 := ev_131 ▸ zR_add f_126 zk_1 (by decide)
            have mv_131 : v_131.toInt = (x_118).toInt + 1 := by rw [ev_131, zR_addE f_126 zk_1 (by decide)]; rfl
            refine lv_iinc (v := v_131) (lv' := [(3, .int (v_131)), (2, .int (v_130)), (0, .ref (q 0)), (1, .int (pa0))]) hx hb dX11_rests_44 hl (k := 3) rfl (ev_131 ▸ rfl) (by decide) rfl (fun ls hl => ?_)
            refine lv_goto (tgt := 15) hx hb dX11_rests_47 (by decide) ?_
            exact ih_121 (v_130) (v_131) (zR_w hv_131 (by decide)) (z2_up mv_131 (by decide) hN_120) _ _ hP hD hS _ (lv_sub hl [2, 3, 1, 0] rfl)
          refine z_callVi (k := 0) (As := [.int (x_118), .int (pa0)]) (rest := [.int (x_117)]) hx hb hml hown ht (mk_X11_isRest_1 l D q cA F _ _ _ hv_1 (x_118) f_126 (pa0) f0_1) hw_8_44 hmX11_isRest ⟨rfl, rfl⟩ (na := 2) rfl (by decide +kernel) (by decide) (by decide) rfl rfl hK hP hD hS hA hl.1 rfl (Nat.le_of_ble_eq_true rfl) ⟨Nat.zero_le _, Nat.zero_le _⟩ dX11_rests_31 (fun r_127 I_127 R_127 J_127 H locs hp_127 hP hD hS _ _ => ?_)
          rcases hp_127 with ⟨rfl, hu_127⟩ | ⟨rfl, hu_127⟩
          · cases hu_127
            refine lv_if_eq (tgt := 41) hx hb dX11_rests_34 (by decide) (fun c_0 => absurd c_0 (zD_ne zk_1 zk_z (by decide))) (fun _ => ?_)
            refine lv_iconst (v := nI 1) hx hb dX11_rests_37 (by decide +kernel) ?_
            refine lv_goto (tgt := 42) hx hb dX11_rests_38 (by decide) ?_
            exact t_129 (nI 1) (zR_w zk_1 (by decide)) _ _ hP hD hS _ (lv_sub hl [0, 1, 2, 3] rfl)
          · cases hu_127
            refine lv_if_eq (tgt := 41) hx hb dX11_rests_34 (by decide) (fun _ => ?_) (fun c_0 => absurd (zD_eq zk_0 zk_z) c_0)
            refine lv_iconst (v := nI 0) hx hb dX11_rests_41 (by decide +kernel) ?_
            exact t_129 (nI 0) (zR_w zk_0 (by decide)) _ _ hP hD hS _ (lv_sub hl [0, 1, 2, 3] rfl)
    exact loop_119 _ (nI 0) (nI 0) (zR_w zk_0 (by decide)) (Nat.lt_succ_self _) _ _ hP hD hS _ (lv_sub hl [2, 3, 1, 0] rfl)
  · obtain ⟨hv_1, hj_1⟩ := hu_1
    try dsimp only at hj_1
    subst J_1
    refine lv_if_ne (tgt := 11) hx hb dX11_rests_5 (by decide) (fun c_0 => absurd (zD_eq zk_0 zk_z) c_0) (fun _ => ?_)
    refine lv_bipush (v := (-2)) hx hb dX11_rests_8 (by decide +kernel) ?_
    exact z_iret (v := (-2)) hx hb hr hlocks hP hD hS dX11_rests_10 ⟨hv_1, rfl⟩
set_option maxHeartbeats 4000000 in
set_option maxRecDepth 100000 in
theorem mk_X11_rest (l : Launch) (D : va_G) (q : Nat → Nat) (cA : Nat → ClassId) (F : Nat → Nat → Int32) (I R : Nat → Nat → Int32) (J : Nat → Nat → Int64) (hI : mInv F (I, R, J)) (pa0 : Int32) : zMi l D vwCl (zMtys cA) 25 q (zMd q cA) yX11_rest cX11_rest 3 (some .int) ({ frames := 7, cells := 0, slots := 0, locals := 176 } : Room) [.ref (q 0), .int (pa0)] (I, R, J) (fun r u => zR (-2) 31 r ∧ (mInv F u ∧ u.2.2 = J)) := by
  intro sz
  refine z_body (by decide +kernel) (Nat.le_of_ble_eq_true rfl) (fun p e s m below meth c ls hx hb hml hr ht hown hlocks hsz hK hP hD hS hl => ?_)
  have hA : ∀ a, s.heap.size ≤ a → zA 25 q sz a := fun a h => Or.inr (hsz ▸ h)
  have hl : lv_has ls 3 [(0, .ref (q 0)), (1, .int (pa0))] := hl
  refine lv_aload_n hx hb dX11_rest_0 rfl (lv_at hl 0 rfl) ?_
  refine lv_iload_n hx hb dX11_rest_1 rfl (lv_at hl 1 rfl) ?_
  refine z_callVi (k := 0) (As := [.int (pa0)]) (rest := []) hx hb hml hown ht (mk_X11_isCost l D q cA F _ _ _ hI (pa0)) hw_8_39 hmX11_isCost ⟨rfl, rfl⟩ (na := 1) rfl (by decide +kernel) (by decide) (by decide) rfl rfl hK hP hD hS hA hl.1 rfl (Nat.le_of_ble_eq_true rfl) ⟨Nat.zero_le _, Nat.zero_le _⟩ dX11_rest_2 (fun r_1 I_1 R_1 J_1 H locs hp_1 hP hD hS _ _ => ?_)
  rcases hp_1 with ⟨rfl, hu_1, f0_1⟩ | ⟨rfl, hu_1⟩
  · obtain ⟨hv_1, hj_1⟩ := hu_1
    try dsimp only at hj_1
    subst J_1
    refine lv_if_ne (tgt := 11) hx hb dX11_rest_5 (by decide) (fun _ => ?_) (fun c_0 => absurd c_0 (zD_ne zk_1 zk_z (by decide)))
    refine lv_iconst (v := nI 0) hx hb dX11_rest_11 (by decide +kernel) ?_
    refine lv_istore_n (lv' := [(2, .int (nI 0)), (0, .ref (q 0)), (1, .int (pa0))]) hx hb dX11_rest_12 rfl hl (by decide) rfl (fun ls hl => ?_)
    have loop_30 : ∀ N : Nat, ∀ x_29 : Int32, zR 0 32 x_29 → (2147483648 - (x_29).toInt).toNat < N → ∀ (H : Heap) (locs : List Loc), va_P D vwCl (zw 25 q (zMd q cA) I_1 R_1 J) H → va_D (zA 25 q sz) (zw 25 q (zMd q cA) I_1 R_1 J) → va_S (zA 25 q sz) s.heap H locs → ∀ ls : Array Slot, lv_has ls 3 [(0, .ref (q 0)), (1, .int (pa0)), (2, .int (x_29))] → W p l e ({ frames := 7, cells := 0, slots := 0, locals := 176 } : Room) s m ([.ref (q 0), .int (pa0)] : List Value).toArray below meth c H locs 0 0 (MQ below (va_Qi (fun r u => zR (-2) 31 r ∧ (mInv F u ∧ u.2.2 = J)) (zB D vwCl 25 q (zMd q cA) sz) (zA 25 q sz)) ([.ref (q 0), .int (pa0)] : List Value).toArray s 0 0 (zA 25 q sz)) (F0 m 13 ls []) := by
      intro N
      induction N with
      | zero => intro x_29 hx_29 hN; exact absurd hN (Nat.not_lt_zero _)
      | succ N ih_32 =>
        intro x_29 hx_29 hN_31 H locs hP hD hS ls hl
        refine lv_iload_n hx hb dX11_rest_13 rfl (lv_at hl 2 rfl) ?_
        refine lv_iconst (v := nI 1) hx hb dX11_rest_14 (by decide +kernel) ?_
        refine lv_aload_n hx hb dX11_rest_15 rfl (lv_at hl 0 rfl) ?_
        refine z_get hx hb ht hown hK hP ziX11 rfl 0 (by decide) 1 (by decide) hw_5_188 rfl (v := .ref (q 1)) rfl dX11_rest_16 ?_
        refine lv_iconst (v := nI 3) hx hb dX11_rest_19 (by decide +kernel) ?_
        refine z_iald hx hb hK hP 1 (by decide) 0 rfl rfl (zR_vin zk_3 (by decide)) dX11_rest_20 ?_
        refine z_eqi (y := R_1 1 (nI 3).toNatClampNeg) rfl ?_
        have f_33 : zR 0 5 (R_1 1 (nI 3).toNatClampNeg) := mR hv_1 1 3
        refine lv_ishl hx hb dX11_rest_21 ?_
        refine z_rng (a := 1) (b := 32) (zR_shl1 5 f_33 (by decide)) (fun v_34 hv_34 => ?_)
        refine lv_icmp_ge (tgt := 42) hx hb dX11_rest_22 (by decide) (fun c_35 => ?_) (fun c_35 => ?_)
        · have t_c_35 := z_leT c_35
          have f_36 : zR 1 32 (x_29) := zR_ley t_c_35 hv_34 hx_29 (by decide)
          refine lv_iconst (v := (-1)) hx hb dX11_rest_42 (by decide +kernel) ?_
          exact z_iret (v := (-1)) hx hb hr hlocks hP hD hS dX11_rest_43 ⟨(zR_w zk_m1 (by decide)), ⟨hv_1, rfl⟩⟩
        · have t_c_35 := z_leF c_35
          have f_37 : zR 0 31 (x_29) := zR_ltx t_c_35 hx_29 hv_34 (by decide)
          refine lv_aload_n hx hb dX11_rest_25 rfl (lv_at hl 0 rfl) ?_
          refine lv_iload_n hx hb dX11_rest_26 rfl (lv_at hl 2 rfl) ?_
          refine lv_iload_n hx hb dX11_rest_27 rfl (lv_at hl 1 rfl) ?_
          refine z_callVi (k := 0) (As := [.int (x_29), .int (pa0)]) (rest := []) hx hb hml hown ht (mk_X11_isRest_1 l D q cA F _ _ _ hv_1 (x_29) f_37 (pa0) f0_1) hw_8_44 hmX11_isRest ⟨rfl, rfl⟩ (na := 2) rfl (by decide +kernel) (by decide) (by decide) rfl rfl hK hP hD hS hA hl.1 rfl (Nat.le_of_ble_eq_true rfl) ⟨Nat.zero_le _, Nat.zero_le _⟩ dX11_rest_28 (fun r_38 I_38 R_38 J_38 H locs hp_38 hP hD hS _ _ => ?_)
          rcases hp_38 with ⟨rfl, hu_38⟩ | ⟨rfl, hu_38⟩
          · cases hu_38
            refine lv_if_eq (tgt := 36) hx hb dX11_rest_31 (by decide) (fun c_0 => absurd c_0 (zD_ne zk_1 zk_z (by decide))) (fun _ => ?_)
            refine lv_iload_n hx hb dX11_rest_34 rfl (lv_at hl 2 rfl) ?_
            exact z_iret (v := x_29) hx hb hr hlocks hP hD hS dX11_rest_35 ⟨(zR_w f_37 (by decide)), ⟨hv_1, rfl⟩⟩
          · cases hu_38
            refine lv_if_eq (tgt := 36) hx hb dX11_rest_31 (by decide) (fun _ => ?_) (fun c_0 => absurd (zD_eq zk_0 zk_z) c_0)
            obtain ⟨v_39, ev_39⟩ : ∃ y : Int32, y = x_29 + nI 1 := ⟨_, rfl⟩
            have hv_39 : zR 1 32 v_39 := ev_39 ▸ zR_add f_37 zk_1 (by decide)
            have mv_39 : v_39.toInt = (x_29).toInt + 1 := by rw [ev_39, zR_addE f_37 zk_1 (by decide)]; rfl
            refine lv_iinc (v := v_39) (lv' := [(2, .int (v_39)), (0, .ref (q 0)), (1, .int (pa0))]) hx hb dX11_rest_36 hl (k := 2) rfl (ev_39 ▸ rfl) (by decide) rfl (fun ls hl => ?_)
            refine lv_goto (tgt := 13) hx hb dX11_rest_39 (by decide) ?_
            exact ih_32 (v_39) (zR_w hv_39 (by decide)) (z2_up mv_39 (by decide) hN_31) _ _ hP hD hS _ (lv_sub hl [1, 2, 0] rfl)
    exact loop_30 _ (nI 0) (zR_w zk_0 (by decide)) (Nat.lt_succ_self _) _ _ hP hD hS _ (lv_sub hl [1, 2, 0] rfl)
  · obtain ⟨hv_1, hj_1⟩ := hu_1
    try dsimp only at hj_1
    subst J_1
    refine lv_if_ne (tgt := 11) hx hb dX11_rest_5 (by decide) (fun c_0 => absurd (zD_eq zk_0 zk_z) c_0) (fun _ => ?_)
    refine lv_bipush (v := (-2)) hx hb dX11_rest_8 (by decide +kernel) ?_
    exact z_iret (v := (-2)) hx hb hr hlocks hP hD hS dX11_rest_10 ⟨(zR_w zk_m2 (by decide)), ⟨hv_1, rfl⟩⟩
set_option maxHeartbeats 4000000 in
set_option maxRecDepth 100000 in
theorem mk_X11_dear (l : Launch) (D : va_G) (q : Nat → Nat) (cA : Nat → ClassId) (F : Nat → Nat → Int32) (I R : Nat → Nat → Int32) (J : Nat → Nat → Int64) (hI : mInv F (I, R, J))  : zMi l D vwCl (zMtys cA) 25 q (zMd q cA) yX11_dear cX11_dear 2 (some .int) ({ frames := 6, cells := 0, slots := 0, locals := 155 } : Room) [.ref (q 0)] (I, R, J) (fun r u => zR (-2) 999 r ∧ (mInv F u ∧ u.2.2 = J)) := by
  intro sz
  refine z_body (by decide +kernel) (Nat.le_of_ble_eq_true rfl) (fun p e s m below meth c ls hx hb hml hr ht hown hlocks hsz hK hP hD hS hl => ?_)
  have hA : ∀ a, s.heap.size ≤ a → zA 25 q sz a := fun a h => Or.inr (hsz ▸ h)
  have hl : lv_has ls 2 [(0, .ref (q 0))] := hl
  refine lv_aload_n hx hb dX11_dear_0 rfl (lv_at hl 0 rfl) ?_
  refine z_callVi (k := 0) (As := []) (rest := []) hx hb hml hown ht (mk_X11_isCity l D q cA F _ _ _ hI ) hw_7_75 hmX11_isCity ⟨rfl, rfl⟩ (na := 0) rfl (by decide +kernel) (by decide) (by decide) rfl rfl hK hP hD hS hA hl.1 rfl (Nat.le_of_ble_eq_true rfl) ⟨Nat.zero_le _, Nat.zero_le _⟩ dX11_dear_1 (fun r_1 I_1 R_1 J_1 H locs hp_1 hP hD hS _ _ => ?_)
  rcases hp_1 with ⟨rfl, hu_1⟩ | ⟨rfl, hu_1⟩
  · cases hu_1
    refine lv_if_ne (tgt := 10) hx hb dX11_dear_4 (by decide) (fun _ => ?_) (fun c_0 => absurd c_0 (zD_ne zk_1 zk_z (by decide)))
    refine lv_aload_n hx hb dX11_dear_10 rfl (lv_at hl 0 rfl) ?_
    refine z_callVv (k := 0) (As := []) (rest := []) hx hb hml hown ht (mk_X11_asItIs l D q cA F _ _ _ hI ) hw_6_181 hmX11_asItIs ⟨rfl, rfl⟩ (na := 0) rfl (by decide +kernel) (by decide) (by decide) rfl rfl hK hP hD hS hA hl.1 rfl (Nat.le_of_ble_eq_true rfl) ⟨Nat.zero_le _, Nat.zero_le _⟩ dX11_dear_11 (fun I_2 R_2 J_2 H locs hp_2 hP hD hS _ _ => ?_)
    obtain ⟨hv_2, hj_2, hs_2⟩ := hp_2
    try dsimp only at hj_2
    subst J_2
    refine lv_sipush (v := nI 999) hx hb dX11_dear_14 (by decide +kernel) ?_
    refine lv_istore_n (lv' := [(1, .int (nI 999)), (0, .ref (q 0))]) hx hb dX11_dear_17 rfl hl (by decide) rfl (fun ls hl => ?_)
    have loop_32 : ∀ N : Nat, ∀ x_31 : Int32, zR (-1) 999 x_31 → ((x_31).toInt + 2147483649).toNat < N → ∀ (H : Heap) (locs : List Loc), va_P D vwCl (zw 25 q (zMd q cA) I_2 R_2 J) H → va_D (zA 25 q sz) (zw 25 q (zMd q cA) I_2 R_2 J) → va_S (zA 25 q sz) s.heap H locs → ∀ ls : Array Slot, lv_has ls 2 [(0, .ref (q 0)), (1, .int (x_31))] → W p l e ({ frames := 6, cells := 0, slots := 0, locals := 155 } : Room) s m ([.ref (q 0)] : List Value).toArray below meth c H locs 0 0 (MQ below (va_Qi (fun r u => zR (-2) 999 r ∧ (mInv F u ∧ u.2.2 = J)) (zB D vwCl 25 q (zMd q cA) sz) (zA 25 q sz)) ([.ref (q 0)] : List Value).toArray s 0 0 (zA 25 q sz)) (F0 m 18 ls []) := by
      intro N
      induction N with
      | zero => intro x_31 hx_31 hN; exact absurd hN (Nat.not_lt_zero _)
      | succ N ih_34 =>
        intro x_31 hx_31 hN_33 H locs hP hD hS ls hl
        refine lv_iload_n hx hb dX11_dear_18 rfl (lv_at hl 1 rfl) ?_
        refine lv_if_lt (tgt := 48) hx hb dX11_dear_19 (by decide) (fun c_35 => ?_) (fun c_35 => ?_)
        · have t_c_35 := z_ltT c_35
          have f_36 : zR (-1) (-1) (x_31) := zR_ltx t_c_35 hx_31 zk_z (by decide)
          refine lv_iconst (v := (-1)) hx hb dX11_dear_48 (by decide +kernel) ?_
          exact z_iret (v := (-1)) hx hb hr hlocks hP hD hS dX11_dear_49 ⟨(zR_w zk_m1 (by decide)), ⟨hv_2, rfl⟩⟩
        · have t_c_35 := z_ltF c_35
          have f_37 : zR 0 999 (x_31) := zR_ley t_c_35 zk_z hx_31 (by decide)
          refine lv_aload_n hx hb dX11_dear_22 rfl (lv_at hl 0 rfl) ?_
          refine lv_iconst (v := nI 1) hx hb dX11_dear_23 (by decide +kernel) ?_
          refine lv_aload_n hx hb dX11_dear_24 rfl (lv_at hl 0 rfl) ?_
          refine z_get hx hb ht hown hK hP ziX11 rfl 0 (by decide) 1 (by decide) hw_5_188 rfl (v := .ref (q 1)) rfl dX11_dear_25 ?_
          refine lv_iconst (v := nI 3) hx hb dX11_dear_28 (by decide +kernel) ?_
          refine z_iald hx hb hK hP 1 (by decide) 0 rfl rfl (zR_vin zk_3 (by decide)) dX11_dear_29 ?_
          refine z_eqi (y := R_2 1 (nI 3).toNatClampNeg) rfl ?_
          have f_38 : zR 0 5 (R_2 1 (nI 3).toNatClampNeg) := mR hv_2 1 3
          refine lv_ishl hx hb dX11_dear_30 ?_
          refine z_rng (a := 1) (b := 32) (zR_shl1 5 f_38 (by decide)) (fun v_39 hv_39 => ?_)
          refine lv_iconst (v := nI 1) hx hb dX11_dear_31 (by decide +kernel) ?_
          refine lv_isub hx hb dX11_dear_32 ?_
          refine z_subc 0 31 (-1) hv_39 zk_1 (by decide) (fun v_40 hv_40 mv_40 => ?_)
          refine lv_iload_n hx hb dX11_dear_33 rfl (lv_at hl 1 rfl) ?_
          refine z_callVi (k := 0) (As := [.int (v_40), .int (x_31)]) (rest := []) hx hb hml hown ht (mk_X11_isRest_1 l D q cA F _ _ _ hv_2 (v_40) hv_40 (x_31) f_37) hw_8_44 hmX11_isRest ⟨rfl, rfl⟩ (na := 2) rfl (by decide +kernel) (by decide) (by decide) rfl rfl hK hP hD hS hA hl.1 rfl (Nat.le_of_ble_eq_true rfl) ⟨Nat.zero_le _, Nat.zero_le _⟩ dX11_dear_34 (fun r_41 I_41 R_41 J_41 H locs hp_41 hP hD hS _ _ => ?_)
          rcases hp_41 with ⟨rfl, hu_41⟩ | ⟨rfl, hu_41⟩
          · cases hu_41
            refine lv_if_eq (tgt := 42) hx hb dX11_dear_37 (by decide) (fun c_0 => absurd c_0 (zD_ne zk_1 zk_z (by decide))) (fun _ => ?_)
            refine lv_iload_n hx hb dX11_dear_40 rfl (lv_at hl 1 rfl) ?_
            exact z_iret (v := x_31) hx hb hr hlocks hP hD hS dX11_dear_41 ⟨(zR_w f_37 (by decide)), ⟨hv_2, rfl⟩⟩
          · cases hu_41
            refine lv_if_eq (tgt := 42) hx hb dX11_dear_37 (by decide) (fun _ => ?_) (fun c_0 => absurd (zD_eq zk_0 zk_z) c_0)
            obtain ⟨v_42, ev_42⟩ : ∃ y : Int32, y = x_31 + (-1) := ⟨_, rfl⟩
            have hv_42 : zR (-1) 998 v_42 := ev_42 ▸ zR_add f_37 zk_m1 (by decide)
            have mv_42 : v_42.toInt = (x_31).toInt + (-1) := by rw [ev_42, zR_addE f_37 zk_m1 (by decide)]; rfl
            refine lv_iinc (v := v_42) (lv' := [(1, .int (v_42)), (0, .ref (q 0))]) hx hb dX11_dear_42 hl (k := 1) rfl (ev_42 ▸ rfl) (by decide) rfl (fun ls hl => ?_)
            refine lv_goto (tgt := 18) hx hb dX11_dear_45 (by decide) ?_
            exact ih_34 (v_42) (zR_w hv_42 (by decide)) (z2_dn mv_42 (by decide) hN_33) _ _ hP hD hS _ (lv_sub hl [1, 0] rfl)
    exact loop_32 _ (nI 999) (zR_w zk_999 (by decide)) (Nat.lt_succ_self _) _ _ hP hD hS _ (lv_sub hl [1, 0] rfl)
  · cases hu_1
    refine lv_if_ne (tgt := 10) hx hb dX11_dear_4 (by decide) (fun c_0 => absurd (zD_eq zk_0 zk_z) c_0) (fun _ => ?_)
    refine lv_bipush (v := (-2)) hx hb dX11_dear_7 (by decide +kernel) ?_
    exact z_iret (v := (-2)) hx hb hr hlocks hP hD hS dX11_dear_9 ⟨(zR_w zk_m2 (by decide)), ⟨hI, rfl⟩⟩
set_option maxHeartbeats 4000000 in
set_option maxRecDepth 100000 in
theorem mk_X11_isSlot (l : Launch) (D : va_G) (q : Nat → Nat) (cA : Nat → ClassId) (F : Nat → Nat → Int32) (I R : Nat → Nat → Int32) (J : Nat → Nat → Int64) (hI : mInv F (I, R, J)) (pa0 : Int32) : zMi l D vwCl (zMtys cA) 25 q (zMd q cA) yX11_isSlot cX11_isSlot 1 (some .boolean) ({ frames := 1, cells := 0, slots := 0, locals := 25 } : Room) [.int (pa0)] (I, R, J) (fun r u => (r = nI 1 ∧ u = (I, R, J) ∧ zR 0 3 pa0) ∨ (r = nI 0 ∧ u = (I, R, J) ∧ (pa0.toInt < 0 ∨ 3 < pa0.toInt))) := by
  intro sz
  refine z_body (by decide +kernel) (Nat.le_of_ble_eq_true rfl) (fun p e s m below meth c ls hx hb hml hr ht hown hlocks hsz hK hP hD hS hl => ?_)
  have hA : ∀ a, s.heap.size ≤ a → zA 25 q sz a := fun a h => Or.inr (hsz ▸ h)
  have hl : lv_has ls 1 [(0, .int (pa0))] := hl
  refine lv_iload_n hx hb dX11_isSlot_0 rfl (lv_at hl 0 rfl) ?_
  refine lv_i2l (v := (pa0).toInt64) hx hb dX11_isSlot_1 rfl ?_
  refine lv_lconst (v := (0 : Int64)) hx hb dX11_isSlot_2 (by decide +kernel) ?_
  refine lv_ldc2 (v := (3 : Int64)) hx hb hown (ht _ hw_7_91) dX11_isSlot_3 ?_
  refine z_callSi (As := [.long ((pa0).toInt64), .long ((0 : Int64)), .long ((3 : Int64))]) (rest := []) hx hb hml hown ht (mk_X11_in l D q cA F _ _ _ hI ((pa0).toInt64) ((0 : Int64)) ((3 : Int64))) hw_6_86 hmX11_in ⟨rfl, rfl⟩ (na := 3) rfl (by decide +kernel) (by decide) hK hP hD hS hA hl.1 rfl (Nat.le_of_ble_eq_true rfl) ⟨Nat.zero_le _, Nat.zero_le _⟩ dX11_isSlot_6 (fun r_1 I_1 R_1 J_1 H locs hp_1 hP hD hS _ _ => ?_)
  rcases hp_1 with ⟨rfl, hu_1, h1_1, h2_1⟩ | ⟨rfl, hu_1, h1_1 | h2_1⟩
  · cases hu_1
    have f_2 : zL 0 2147483647 ((pa0).toInt64) := zL_ley h1_1 zkl_0 (zR_i2l (zR_any (pa0))) (by decide)
    have f_3 : zR 0 2147483647 (pa0) := zL_back f_2
    have f_4 : zL 0 3 ((pa0).toInt64) := zL_lex h2_1 f_2 zkl_3 (by decide)
    have f_5 : zR 0 3 (pa0) := zL_back f_4
    exact z_zret (v := nI 1) hx hb hr hlocks hP hD hS (by decide +kernel) dX11_isSlot_9 (Or.inl ⟨rfl, rfl, f_5⟩)
  · cases hu_1
    have f_6 : zL (-2147483648) (-1) ((pa0).toInt64) := zL_ltx h1_1 (zR_i2l (zR_any (pa0))) zkl_0 (by decide)
    have f_7 : zR (-2147483648) (-1) (pa0) := zL_back f_6
    exact z_zret (v := nI 0) hx hb hr hlocks hP hD hS (by decide +kernel) dX11_isSlot_9 (Or.inr ⟨rfl, rfl, (Or.inl (Int.lt_of_le_of_lt f_7.2 (by decide)))⟩)
  · cases hu_1
    have f_8 : zL 4 2147483647 ((pa0).toInt64) := zL_lty h2_1 zkl_3 (zR_i2l (zR_any (pa0))) (by decide)
    have f_9 : zR 4 2147483647 (pa0) := zL_back f_8
    exact z_zret (v := nI 0) hx hb hr hlocks hP hD hS (by decide +kernel) dX11_isSlot_9 (Or.inr ⟨rfl, rfl, (Or.inr (Int.lt_of_lt_of_le (by decide) f_9.1))⟩)
set_option maxHeartbeats 4000000 in
set_option maxRecDepth 100000 in
theorem mk_X11_numberAt (l : Launch) (D : va_G) (q : Nat → Nat) (cA : Nat → ClassId) (F : Nat → Nat → Int32) (I R : Nat → Nat → Int32) (J : Nat → Nat → Int64) (hI : mInv F (I, R, J)) (pa0 : Int32) (hpa0 : zR 0 3 pa0) (pa1 : Int32) (hpa1 : zR 0 59 pa1) : zMl l D vwCl (zMtys cA) 25 q (zMd q cA) yX11_numberAt cX11_numberAt 3 (some .long) ({ frames := 0, cells := 0, slots := 0, locals := 0 } : Room) [.ref (q 0), .int (pa0), .int (pa1)] (I, R, J) (fun r u => r = mNum (J 23) pa0 pa1 ∧ u = (I, R, J)) := by
  intro sz
  refine z_body (by decide +kernel) (Nat.le_of_ble_eq_true rfl) (fun p e s m below meth c ls hx hb hml hr ht hown hlocks hsz hK hP hD hS hl => ?_)
  have hA : ∀ a, s.heap.size ≤ a → zA 25 q sz a := fun a h => Or.inr (hsz ▸ h)
  have hl : lv_has ls 3 [(0, .ref (q 0)), (1, .int (pa0)), (2, .int (pa1))] := hl
  refine lv_aload_n hx hb dX11_numberAt_0 rfl (lv_at hl 0 rfl) ?_
  refine z_get hx hb ht hown hK hP ziX11 rfl 0 (by decide) 42 (by decide) hw_5_229 rfl (v := .ref (q 23)) rfl dX11_numberAt_1 ?_
  refine lv_bipush (v := nI 60) hx hb dX11_numberAt_4 (by decide +kernel) ?_
  refine lv_iload_n hx hb dX11_numberAt_6 rfl (lv_at hl 1 rfl) ?_
  refine lv_imul hx hb dX11_numberAt_7 ?_
  refine lv_topi (fun v_1 ev_1 => ?_)
  have hv_1 : zR 0 180 v_1 := ev_1 ▸ zR_mul zk_60 hpa0 (by decide)
  refine lv_iload_n hx hb dX11_numberAt_8 rfl (lv_at hl 2 rfl) ?_
  refine lv_iadd hx hb dX11_numberAt_9 ?_
  refine lv_topi (fun v_2 ev_2 => ?_)
  have hv_2 : zR 0 239 v_2 := ev_2 ▸ zR_add hv_1 hpa1 (by decide)
  refine z_lald hx hb hK hP 23 (by decide) 22 rfl rfl (zR_vin hv_2 (by decide)) dX11_numberAt_10 ?_
  refine z_eql (y := J 23 (v_2).toNatClampNeg) rfl ?_
  exact z_lret (v := J 23 (v_2).toNatClampNeg) hx hb hr hlocks hP hD hS dX11_numberAt_11 ⟨mNum_eq hpa0 hpa1 ev_1 ev_2, rfl⟩
set_option maxHeartbeats 4000000 in
set_option maxRecDepth 100000 in
theorem mk_X11_isHouse_1 (l : Launch) (D : va_G) (q : Nat → Nat) (cA : Nat → ClassId) (F : Nat → Nat → Int32) (I R : Nat → Nat → Int32) (J : Nat → Nat → Int64) (hI : mInv F (I, R, J)) (pa0 : Int64) : zMi l D vwCl (zMtys cA) 25 q (zMd q cA) yX11_isHouse cX11_isHouse 3 (some .boolean) ({ frames := 1, cells := 0, slots := 0, locals := 25 } : Room) [.ref (q 0), .long (pa0)] (I, R, J) (fun r u => (r = nI 1 ∧ u = (I, R, J) ∧ zL 0 4 pa0) ∨ (r = nI 0 ∧ u = (I, R, J))) := by
  intro sz
  refine z_body (by decide +kernel) (Nat.le_of_ble_eq_true rfl) (fun p e s m below meth c ls hx hb hml hr ht hown hlocks hsz hK hP hD hS hl => ?_)
  have hA : ∀ a, s.heap.size ≤ a → zA 25 q sz a := fun a h => Or.inr (hsz ▸ h)
  have hl : lv_has ls 3 [(0, .ref (q 0)), (1, .long (pa0))] := hl
  refine lv_lload_n hx hb dX11_isHouse_0 rfl (lv_at hl 1 rfl) ?_
  refine lv_lconst (v := (0 : Int64)) hx hb dX11_isHouse_1 (by decide +kernel) ?_
  refine lv_aload_n hx hb dX11_isHouse_2 rfl (lv_at hl 0 rfl) ?_
  refine z_get hx hb ht hown hK hP ziX11 rfl 0 (by decide) 1 (by decide) hw_5_188 rfl (v := .ref (q 1)) rfl dX11_isHouse_3 ?_
  refine lv_iconst (v := nI 3) hx hb dX11_isHouse_6 (by decide +kernel) ?_
  refine z_iald hx hb hK hP 1 (by decide) 0 rfl rfl (zR_vin zk_3 (by decide)) dX11_isHouse_7 ?_
  refine z_eqi (y := R 1 (nI 3).toNatClampNeg) rfl ?_
  have f_1 : zR 0 5 (R 1 (nI 3).toNatClampNeg) := mR hI 1 3
  refine lv_iconst (v := nI 1) hx hb dX11_isHouse_8 (by decide +kernel) ?_
  refine lv_isub hx hb dX11_isHouse_9 ?_
  refine z_subc (-1) 4 (-1) f_1 zk_1 (by decide) (fun v_2 hv_2 mv_2 => ?_)
  refine lv_i2l (v := (v_2).toInt64) hx hb dX11_isHouse_10 rfl ?_
  refine z_callSi (As := [.long (pa0), .long ((0 : Int64)), .long ((v_2).toInt64)]) (rest := []) hx hb hml hown ht (mk_X11_in l D q cA F _ _ _ hI (pa0) ((0 : Int64)) ((v_2).toInt64)) hw_6_86 hmX11_in ⟨rfl, rfl⟩ (na := 3) rfl (by decide +kernel) (by decide) hK hP hD hS hA hl.1 rfl (Nat.le_of_ble_eq_true rfl) ⟨Nat.zero_le _, Nat.zero_le _⟩ dX11_isHouse_11 (fun r_3 I_3 R_3 J_3 H locs hp_3 hP hD hS _ _ => ?_)
  rcases hp_3 with ⟨rfl, hu_3, h1_3, h2_3⟩ | ⟨rfl, hu_3, h1_3 | h2_3⟩
  · cases hu_3
    have f_4 : zL 0 9223372036854775807 (pa0) := zL_ley h1_3 zkl_0 (zL_any (pa0)) (by decide)
    have f_5 : zL 0 4 (pa0) := zL_lex h2_3 f_4 (zR_i2l hv_2) (by decide)
    have f_6 : zL 0 4 ((v_2).toInt64) := zL_ley h2_3 f_4 (zR_i2l hv_2) (by decide)
    have f_7 : zR 0 4 (v_2) := zL_back f_6
    exact z_zret (v := nI 1) hx hb hr hlocks hP hD hS (by decide +kernel) dX11_isHouse_14 (Or.inl ⟨rfl, rfl, f_5⟩)
  · cases hu_3
    have f_8 : zL (-9223372036854775808) (-1) (pa0) := zL_ltx h1_3 (zL_any (pa0)) zkl_0 (by decide)
    exact z_zret (v := nI 0) hx hb hr hlocks hP hD hS (by decide +kernel) dX11_isHouse_14 (Or.inr ⟨rfl, rfl⟩)
  · cases hu_3
    have f_9 : zL 0 9223372036854775807 (pa0) := zL_lty h2_3 (zR_i2l hv_2) (zL_any (pa0)) (by decide)
    exact z_zret (v := nI 0) hx hb hr hlocks hP hD hS (by decide +kernel) dX11_isHouse_14 (Or.inr ⟨rfl, rfl⟩)
set_option maxHeartbeats 4000000 in
set_option maxRecDepth 100000 in
theorem mk_X11_isThing_1 (l : Launch) (D : va_G) (q : Nat → Nat) (cA : Nat → ClassId) (F : Nat → Nat → Int32) (I R : Nat → Nat → Int32) (J : Nat → Nat → Int64) (hI : mInv F (I, R, J)) (pa0 : Int64) : zMi l D vwCl (zMtys cA) 25 q (zMd q cA) yX11_isThing cX11_isThing 3 (some .boolean) ({ frames := 1, cells := 0, slots := 0, locals := 25 } : Room) [.ref (q 0), .long (pa0)] (I, R, J) (fun r u => (r = nI 1 ∧ u = (I, R, J) ∧ zL 0 5 pa0) ∨ (r = nI 0 ∧ u = (I, R, J))) := by
  intro sz
  refine z_body (by decide +kernel) (Nat.le_of_ble_eq_true rfl) (fun p e s m below meth c ls hx hb hml hr ht hown hlocks hsz hK hP hD hS hl => ?_)
  have hA : ∀ a, s.heap.size ≤ a → zA 25 q sz a := fun a h => Or.inr (hsz ▸ h)
  have hl : lv_has ls 3 [(0, .ref (q 0)), (1, .long (pa0))] := hl
  refine lv_lload_n hx hb dX11_isThing_0 rfl (lv_at hl 1 rfl) ?_
  refine lv_lconst (v := (0 : Int64)) hx hb dX11_isThing_1 (by decide +kernel) ?_
  refine lv_aload_n hx hb dX11_isThing_2 rfl (lv_at hl 0 rfl) ?_
  refine z_get hx hb ht hown hK hP ziX11 rfl 0 (by decide) 1 (by decide) hw_5_188 rfl (v := .ref (q 1)) rfl dX11_isThing_3 ?_
  refine lv_iconst (v := nI 4) hx hb dX11_isThing_6 (by decide +kernel) ?_
  refine z_iald hx hb hK hP 1 (by decide) 0 rfl rfl (zR_vin zk_4 (by decide)) dX11_isThing_7 ?_
  refine z_eqi (y := R 1 (nI 4).toNatClampNeg) rfl ?_
  have f_1 : zR 0 6 (R 1 (nI 4).toNatClampNeg) := mR hI 1 4
  refine lv_iconst (v := nI 1) hx hb dX11_isThing_8 (by decide +kernel) ?_
  refine lv_isub hx hb dX11_isThing_9 ?_
  refine z_subc (-1) 5 (-1) f_1 zk_1 (by decide) (fun v_2 hv_2 mv_2 => ?_)
  refine lv_i2l (v := (v_2).toInt64) hx hb dX11_isThing_10 rfl ?_
  refine z_callSi (As := [.long (pa0), .long ((0 : Int64)), .long ((v_2).toInt64)]) (rest := []) hx hb hml hown ht (mk_X11_in l D q cA F _ _ _ hI (pa0) ((0 : Int64)) ((v_2).toInt64)) hw_6_86 hmX11_in ⟨rfl, rfl⟩ (na := 3) rfl (by decide +kernel) (by decide) hK hP hD hS hA hl.1 rfl (Nat.le_of_ble_eq_true rfl) ⟨Nat.zero_le _, Nat.zero_le _⟩ dX11_isThing_11 (fun r_3 I_3 R_3 J_3 H locs hp_3 hP hD hS _ _ => ?_)
  rcases hp_3 with ⟨rfl, hu_3, h1_3, h2_3⟩ | ⟨rfl, hu_3, h1_3 | h2_3⟩
  · cases hu_3
    have f_4 : zL 0 9223372036854775807 (pa0) := zL_ley h1_3 zkl_0 (zL_any (pa0)) (by decide)
    have f_5 : zL 0 5 (pa0) := zL_lex h2_3 f_4 (zR_i2l hv_2) (by decide)
    have f_6 : zL 0 5 ((v_2).toInt64) := zL_ley h2_3 f_4 (zR_i2l hv_2) (by decide)
    have f_7 : zR 0 5 (v_2) := zL_back f_6
    exact z_zret (v := nI 1) hx hb hr hlocks hP hD hS (by decide +kernel) dX11_isThing_14 (Or.inl ⟨rfl, rfl, f_5⟩)
  · cases hu_3
    have f_8 : zL (-9223372036854775808) (-1) (pa0) := zL_ltx h1_3 (zL_any (pa0)) zkl_0 (by decide)
    exact z_zret (v := nI 0) hx hb hr hlocks hP hD hS (by decide +kernel) dX11_isThing_14 (Or.inr ⟨rfl, rfl⟩)
  · cases hu_3
    have f_9 : zL 0 9223372036854775807 (pa0) := zL_lty h2_3 (zR_i2l hv_2) (zL_any (pa0)) (by decide)
    exact z_zret (v := nI 0) hx hb hr hlocks hP hD hS (by decide +kernel) dX11_isThing_14 (Or.inr ⟨rfl, rfl⟩)
set_option maxHeartbeats 4000000 in
set_option maxRecDepth 100000 in
theorem mk_X11_isRowPaper_1 (l : Launch) (D : va_G) (q : Nat → Nat) (cA : Nat → ClassId) (F : Nat → Nat → Int32) (I R : Nat → Nat → Int32) (J : Nat → Nat → Int64) (hI : mInv F (I, R, J)) (pa0 : Int32) (hpa0 : zR 0 3 pa0) (pa1 : Int32) (hpa1 : zR 0 56 pa1) : zMi l D vwCl (zMtys cA) 25 q (zMd q cA) yX11_isRowPaper cX11_isRowPaper 3 (some .boolean) ({ frames := 2, cells := 0, slots := 0, locals := 47 } : Room) [.ref (q 0), .int (pa0), .int (pa1)] (I, R, J) (fun r u => (r = nI 1 ∧ u = (I, R, J) ∧ mOk (J 23) pa0 pa1) ∨ (r = nI 0 ∧ u = (I, R, J) ∧ True)) := by
  intro sz
  refine z_body (by decide +kernel) (Nat.le_of_ble_eq_true rfl) (fun p e s m below meth c ls hx hb hml hr ht hown hlocks hsz hK hP hD hS hl => ?_)
  have hA : ∀ a, s.heap.size ≤ a → zA 25 q sz a := fun a h => Or.inr (hsz ▸ h)
  have hl : lv_has ls 3 [(0, .ref (q 0)), (1, .int (pa0)), (2, .int (pa1))] := hl
  refine lv_aload_n hx hb dX11_isRowPaper_0 rfl (lv_at hl 0 rfl) ?_
  refine lv_aload_n hx hb dX11_isRowPaper_1 rfl (lv_at hl 0 rfl) ?_
  refine lv_iload_n hx hb dX11_isRowPaper_2 rfl (lv_at hl 1 rfl) ?_
  refine lv_iload_n hx hb dX11_isRowPaper_3 rfl (lv_at hl 2 rfl) ?_
  refine z_callVl (k := 0) (As := [.int (pa0), .int (pa1)]) (rest := [.ref (q 0)]) hx hb hml hown ht (mk_X11_numberAt l D q cA F _ _ _ hI (pa0) hpa0 (pa1) (zR_w hpa1 (by decide))) hw_8_83 hmX11_numberAt ⟨rfl, rfl⟩ (na := 2) rfl (by decide +kernel) (by decide) (by decide) rfl rfl hK hP hD hS hA hl.1 rfl (Nat.le_of_ble_eq_true rfl) ⟨Nat.zero_le _, Nat.zero_le _⟩ dX11_isRowPaper_4 (fun r_1 I_1 R_1 J_1 H locs hp_1 hP hD hS _ _ => ?_)
  obtain ⟨rfl, hu_1⟩ := hp_1
  cases hu_1
  refine z_callVi (k := 0) (As := [.long (mNum (J 23) (pa0) (pa1))]) (rest := []) hx hb hml hown ht (mk_X11_isHouse_1 l D q cA F _ _ _ hI (mNum (J 23) (pa0) (pa1))) hw_6_176 hmX11_isHouse ⟨rfl, rfl⟩ (na := 1) rfl (by decide +kernel) (by decide) (by decide) rfl rfl hK hP hD hS hA hl.1 rfl (Nat.le_of_ble_eq_true rfl) ⟨Nat.zero_le _, Nat.zero_le _⟩ dX11_isRowPaper_7 (fun r_2 I_2 R_2 J_2 H locs hp_2 hP hD hS _ _ => ?_)
  rcases hp_2 with ⟨rfl, hu_2, f0_2⟩ | ⟨rfl, hu_2⟩
  · cases hu_2
    refine lv_if_eq (tgt := 68) hx hb dX11_isRowPaper_10 (by decide) (fun c_0 => absurd c_0 (zD_ne zk_1 zk_z (by decide))) (fun _ => ?_)
    refine lv_aload_n hx hb dX11_isRowPaper_13 rfl (lv_at hl 0 rfl) ?_
    refine lv_aload_n hx hb dX11_isRowPaper_14 rfl (lv_at hl 0 rfl) ?_
    refine lv_iload_n hx hb dX11_isRowPaper_15 rfl (lv_at hl 1 rfl) ?_
    refine lv_iload_n hx hb dX11_isRowPaper_16 rfl (lv_at hl 2 rfl) ?_
    refine lv_iconst (v := nI 1) hx hb dX11_isRowPaper_17 (by decide +kernel) ?_
    refine lv_iadd hx hb dX11_isRowPaper_18 ?_
    refine z_addc 1 57 hpa1 zk_1 (by decide) (fun v_3 hv_3 mv_3 => ?_)
    refine z_callVl (k := 0) (As := [.int (pa0), .int (v_3)]) (rest := [.ref (q 0)]) hx hb hml hown ht (mk_X11_numberAt l D q cA F _ _ _ hI (pa0) hpa0 (v_3) (zR_w hv_3 (by decide))) hw_8_83 hmX11_numberAt ⟨rfl, rfl⟩ (na := 2) rfl (by decide +kernel) (by decide) (by decide) rfl rfl hK hP hD hS hA hl.1 rfl (Nat.le_of_ble_eq_true rfl) ⟨Nat.zero_le _, Nat.zero_le _⟩ dX11_isRowPaper_19 (fun r_4 I_4 R_4 J_4 H locs hp_4 hP hD hS _ _ => ?_)
    obtain ⟨rfl, hu_4⟩ := hp_4
    cases hu_4
    refine z_callVi (k := 0) (As := [.long (mNum (J 23) (pa0) (v_3))]) (rest := []) hx hb hml hown ht (mk_X11_isThing_1 l D q cA F _ _ _ hI (mNum (J 23) (pa0) (v_3))) hw_6_238 hmX11_isThing ⟨rfl, rfl⟩ (na := 1) rfl (by decide +kernel) (by decide) (by decide) rfl rfl hK hP hD hS hA hl.1 rfl (Nat.le_of_ble_eq_true rfl) ⟨Nat.zero_le _, Nat.zero_le _⟩ dX11_isRowPaper_22 (fun r_5 I_5 R_5 J_5 H locs hp_5 hP hD hS _ _ => ?_)
    rcases hp_5 with ⟨rfl, hu_5, f0_5⟩ | ⟨rfl, hu_5⟩
    · cases hu_5
      refine lv_if_eq (tgt := 68) hx hb dX11_isRowPaper_25 (by decide) (fun c_0 => absurd c_0 (zD_ne zk_1 zk_z (by decide))) (fun _ => ?_)
      refine lv_aload_n hx hb dX11_isRowPaper_28 rfl (lv_at hl 0 rfl) ?_
      refine lv_iload_n hx hb dX11_isRowPaper_29 rfl (lv_at hl 1 rfl) ?_
      refine lv_iload_n hx hb dX11_isRowPaper_30 rfl (lv_at hl 2 rfl) ?_
      refine lv_iconst (v := nI 2) hx hb dX11_isRowPaper_31 (by decide +kernel) ?_
      refine lv_iadd hx hb dX11_isRowPaper_32 ?_
      refine z_addc 2 58 hpa1 zk_2 (by decide) (fun v_6 hv_6 mv_6 => ?_)
      refine z_callVl (k := 0) (As := [.int (pa0), .int (v_6)]) (rest := []) hx hb hml hown ht (mk_X11_numberAt l D q cA F _ _ _ hI (pa0) hpa0 (v_6) (zR_w hv_6 (by decide))) hw_8_83 hmX11_numberAt ⟨rfl, rfl⟩ (na := 2) rfl (by decide +kernel) (by decide) (by decide) rfl rfl hK hP hD hS hA hl.1 rfl (Nat.le_of_ble_eq_true rfl) ⟨Nat.zero_le _, Nat.zero_le _⟩ dX11_isRowPaper_33 (fun r_7 I_7 R_7 J_7 H locs hp_7 hP hD hS _ _ => ?_)
      obtain ⟨rfl, hu_7⟩ := hp_7
      cases hu_7
      refine lv_lconst (v := (0 : Int64)) hx hb dX11_isRowPaper_36 (by decide +kernel) ?_
      refine lv_ldc2 (v := (9999 : Int64)) hx hb hown (ht _ hw_8_87) dX11_isRowPaper_37 ?_
      refine z_callSi (As := [.long (mNum (J 23) (pa0) (v_6)), .long ((0 : Int64)), .long ((9999 : Int64))]) (rest := []) hx hb hml hown ht (mk_X11_in l D q cA F _ _ _ hI (mNum (J 23) (pa0) (v_6)) ((0 : Int64)) ((9999 : Int64))) hw_6_86 hmX11_in ⟨rfl, rfl⟩ (na := 3) rfl (by decide +kernel) (by decide) hK hP hD hS hA hl.1 rfl (Nat.le_of_ble_eq_true rfl) ⟨Nat.zero_le _, Nat.zero_le _⟩ dX11_isRowPaper_40 (fun r_8 I_8 R_8 J_8 H locs hp_8 hP hD hS _ _ => ?_)
      rcases hp_8 with ⟨rfl, hu_8, h1_8, h2_8⟩ | ⟨rfl, hu_8, h1_8 | h2_8⟩
      · cases hu_8
        have f_9 : zL 0 9223372036854775807 (mNum (J 23) (pa0) (v_6)) := zL_ley h1_8 zkl_0 (zL_any (mNum (J 23) (pa0) (v_6))) (by decide)
        have f_10 : zL 0 9999 (mNum (J 23) (pa0) (v_6)) := zL_lex h2_8 f_9 zkl_9999 (by decide)
        refine lv_if_eq (tgt := 68) hx hb dX11_isRowPaper_43 (by decide) (fun c_0 => absurd c_0 (zD_ne zk_1 zk_z (by decide))) (fun _ => ?_)
        refine lv_aload_n hx hb dX11_isRowPaper_46 rfl (lv_at hl 0 rfl) ?_
        refine lv_iload_n hx hb dX11_isRowPaper_47 rfl (lv_at hl 1 rfl) ?_
        refine lv_iload_n hx hb dX11_isRowPaper_48 rfl (lv_at hl 2 rfl) ?_
        refine lv_iconst (v := nI 3) hx hb dX11_isRowPaper_49 (by decide +kernel) ?_
        refine lv_iadd hx hb dX11_isRowPaper_50 ?_
        refine z_addc 3 59 hpa1 zk_3 (by decide) (fun v_11 hv_11 mv_11 => ?_)
        refine z_callVl (k := 0) (As := [.int (pa0), .int (v_11)]) (rest := []) hx hb hml hown ht (mk_X11_numberAt l D q cA F _ _ _ hI (pa0) hpa0 (v_11) (zR_w hv_11 (by decide))) hw_8_83 hmX11_numberAt ⟨rfl, rfl⟩ (na := 2) rfl (by decide +kernel) (by decide) (by decide) rfl rfl hK hP hD hS hA hl.1 rfl (Nat.le_of_ble_eq_true rfl) ⟨Nat.zero_le _, Nat.zero_le _⟩ dX11_isRowPaper_51 (fun r_12 I_12 R_12 J_12 H locs hp_12 hP hD hS _ _ => ?_)
        obtain ⟨rfl, hu_12⟩ := hp_12
        cases hu_12
        refine lv_lconst (v := (1 : Int64)) hx hb dX11_isRowPaper_54 (by decide +kernel) ?_
        refine lv_ldc2 (v := (60 : Int64)) hx hb hown (ht _ hw_7_39) dX11_isRowPaper_55 ?_
        refine z_callSi (As := [.long (mNum (J 23) (pa0) (v_11)), .long ((1 : Int64)), .long ((60 : Int64))]) (rest := []) hx hb hml hown ht (mk_X11_in l D q cA F _ _ _ hI (mNum (J 23) (pa0) (v_11)) ((1 : Int64)) ((60 : Int64))) hw_6_86 hmX11_in ⟨rfl, rfl⟩ (na := 3) rfl (by decide +kernel) (by decide) hK hP hD hS hA hl.1 rfl (Nat.le_of_ble_eq_true rfl) ⟨Nat.zero_le _, Nat.zero_le _⟩ dX11_isRowPaper_58 (fun r_13 I_13 R_13 J_13 H locs hp_13 hP hD hS _ _ => ?_)
        rcases hp_13 with ⟨rfl, hu_13, h1_13, h2_13⟩ | ⟨rfl, hu_13, h1_13 | h2_13⟩
        · cases hu_13
          have f_14 : zL 1 9223372036854775807 (mNum (J 23) (pa0) (v_11)) := zL_ley h1_13 zkl_1 (zL_any (mNum (J 23) (pa0) (v_11))) (by decide)
          have f_15 : zL 1 60 (mNum (J 23) (pa0) (v_11)) := zL_lex h2_13 f_14 zkl_60 (by decide)
          refine lv_if_eq (tgt := 68) hx hb dX11_isRowPaper_61 (by decide) (fun c_0 => absurd c_0 (zD_ne zk_1 zk_z (by decide))) (fun _ => ?_)
          refine lv_iconst (v := nI 1) hx hb dX11_isRowPaper_64 (by decide +kernel) ?_
          refine lv_goto (tgt := 69) hx hb dX11_isRowPaper_65 (by decide) ?_
          exact z_zret (v := nI 1) hx hb hr hlocks hP hD hS (by decide +kernel) dX11_isRowPaper_69 (Or.inl ⟨rfl, rfl, (mOk_of hpa1 (by decide) mv_3 f0_5)⟩)
        · cases hu_13
          have f_16 : zL (-9223372036854775808) 0 (mNum (J 23) (pa0) (v_11)) := zL_ltx h1_13 (zL_any (mNum (J 23) (pa0) (v_11))) zkl_1 (by decide)
          refine lv_if_eq (tgt := 68) hx hb dX11_isRowPaper_61 (by decide) (fun _ => ?_) (fun c_0 => absurd (zD_eq zk_0 zk_z) c_0)
          refine lv_iconst (v := nI 0) hx hb dX11_isRowPaper_68 (by decide +kernel) ?_
          exact z_zret (v := nI 0) hx hb hr hlocks hP hD hS (by decide +kernel) dX11_isRowPaper_69 (Or.inr ⟨rfl, rfl, trivial⟩)
        · cases hu_13
          have f_17 : zL 61 9223372036854775807 (mNum (J 23) (pa0) (v_11)) := zL_lty h2_13 zkl_60 (zL_any (mNum (J 23) (pa0) (v_11))) (by decide)
          refine lv_if_eq (tgt := 68) hx hb dX11_isRowPaper_61 (by decide) (fun _ => ?_) (fun c_0 => absurd (zD_eq zk_0 zk_z) c_0)
          refine lv_iconst (v := nI 0) hx hb dX11_isRowPaper_68 (by decide +kernel) ?_
          exact z_zret (v := nI 0) hx hb hr hlocks hP hD hS (by decide +kernel) dX11_isRowPaper_69 (Or.inr ⟨rfl, rfl, trivial⟩)
      · cases hu_8
        have f_18 : zL (-9223372036854775808) (-1) (mNum (J 23) (pa0) (v_6)) := zL_ltx h1_8 (zL_any (mNum (J 23) (pa0) (v_6))) zkl_0 (by decide)
        refine lv_if_eq (tgt := 68) hx hb dX11_isRowPaper_43 (by decide) (fun _ => ?_) (fun c_0 => absurd (zD_eq zk_0 zk_z) c_0)
        refine lv_iconst (v := nI 0) hx hb dX11_isRowPaper_68 (by decide +kernel) ?_
        exact z_zret (v := nI 0) hx hb hr hlocks hP hD hS (by decide +kernel) dX11_isRowPaper_69 (Or.inr ⟨rfl, rfl, trivial⟩)
      · cases hu_8
        have f_19 : zL 10000 9223372036854775807 (mNum (J 23) (pa0) (v_6)) := zL_lty h2_8 zkl_9999 (zL_any (mNum (J 23) (pa0) (v_6))) (by decide)
        refine lv_if_eq (tgt := 68) hx hb dX11_isRowPaper_43 (by decide) (fun _ => ?_) (fun c_0 => absurd (zD_eq zk_0 zk_z) c_0)
        refine lv_iconst (v := nI 0) hx hb dX11_isRowPaper_68 (by decide +kernel) ?_
        exact z_zret (v := nI 0) hx hb hr hlocks hP hD hS (by decide +kernel) dX11_isRowPaper_69 (Or.inr ⟨rfl, rfl, trivial⟩)
    · cases hu_5
      refine lv_if_eq (tgt := 68) hx hb dX11_isRowPaper_25 (by decide) (fun _ => ?_) (fun c_0 => absurd (zD_eq zk_0 zk_z) c_0)
      refine lv_iconst (v := nI 0) hx hb dX11_isRowPaper_68 (by decide +kernel) ?_
      exact z_zret (v := nI 0) hx hb hr hlocks hP hD hS (by decide +kernel) dX11_isRowPaper_69 (Or.inr ⟨rfl, rfl, trivial⟩)
  · cases hu_2
    refine lv_if_eq (tgt := 68) hx hb dX11_isRowPaper_10 (by decide) (fun _ => ?_) (fun c_0 => absurd (zD_eq zk_0 zk_z) c_0)
    refine lv_iconst (v := nI 0) hx hb dX11_isRowPaper_68 (by decide +kernel) ?_
    exact z_zret (v := nI 0) hx hb hr hlocks hP hD hS (by decide +kernel) dX11_isRowPaper_69 (Or.inr ⟨rfl, rfl, trivial⟩)
set_option maxHeartbeats 4000000 in
set_option maxRecDepth 100000 in
theorem mk_X11_asksPapers (l : Launch) (D : va_G) (q : Nat → Nat) (cA : Nat → ClassId) (F : Nat → Nat → Int32) (I R : Nat → Nat → Int32) (J : Nat → Nat → Int64) (hI : mInv F (I, R, J)) (pa0 : Int32) : zMi l D vwCl (zMtys cA) 25 q (zMd q cA) yX11_asksPapers cX11_asksPapers 3 (some .int) ({ frames := 6, cells := 0, slots := 0, locals := 155 } : Room) [.ref (q 0), .int (pa0)] (I, R, J) (fun r u => (r = nI 0 ∧ mInv F u ∧ u.2.2 = J ∧ zR 0 3 pa0 ∧ mSound F J pa0) ∨ (zR (-2147483648) (-1) r ∧ mInv F u)) := by
  intro sz
  refine z_body (by decide +kernel) (Nat.le_of_ble_eq_true rfl) (fun p e s m below meth c ls hx hb hml hr ht hown hlocks hsz hK hP hD hS hl => ?_)
  have hA : ∀ a, s.heap.size ≤ a → zA 25 q sz a := fun a h => Or.inr (hsz ▸ h)
  have hl : lv_has ls 3 [(0, .ref (q 0)), (1, .int (pa0))] := hl
  refine lv_iload_n hx hb dX11_asksPapers_0 rfl (lv_at hl 1 rfl) ?_
  refine z_callSi (As := [.int (pa0)]) (rest := []) hx hb hml hown ht (mk_X11_isSlot l D q cA F _ _ _ hI (pa0)) hw_8_76 hmX11_isSlot ⟨rfl, rfl⟩ (na := 1) rfl (by decide +kernel) (by decide) hK hP hD hS hA hl.1 rfl (Nat.le_of_ble_eq_true rfl) ⟨Nat.zero_le _, Nat.zero_le _⟩ dX11_asksPapers_1 (fun r_1 I_1 R_1 J_1 H locs hp_1 hP hD hS _ _ => ?_)
  rcases hp_1 with ⟨rfl, hu_1, f0_1⟩ | ⟨rfl, hu_1, nn_1⟩
  · cases hu_1
    refine lv_if_eq (tgt := 14) hx hb dX11_asksPapers_4 (by decide) (fun c_0 => absurd c_0 (zD_ne zk_1 zk_z (by decide))) (fun _ => ?_)
    refine lv_aload_n hx hb dX11_asksPapers_7 rfl (lv_at hl 0 rfl) ?_
    refine z_callVi (k := 0) (As := []) (rest := []) hx hb hml hown ht (mk_X11_isCity l D q cA F _ _ _ hI ) hw_7_75 hmX11_isCity ⟨rfl, rfl⟩ (na := 0) rfl (by decide +kernel) (by decide) (by decide) rfl rfl hK hP hD hS hA hl.1 rfl (Nat.le_of_ble_eq_true rfl) ⟨Nat.zero_le _, Nat.zero_le _⟩ dX11_asksPapers_8 (fun r_2 I_2 R_2 J_2 H locs hp_2 hP hD hS _ _ => ?_)
    rcases hp_2 with ⟨rfl, hu_2⟩ | ⟨rfl, hu_2⟩
    · cases hu_2
      refine lv_if_ne (tgt := 17) hx hb dX11_asksPapers_11 (by decide) (fun _ => ?_) (fun c_0 => absurd c_0 (zD_ne zk_1 zk_z (by decide)))
      refine lv_aload_n hx hb dX11_asksPapers_17 rfl (lv_at hl 0 rfl) ?_
      refine z_get hx hb ht hown hK hP ziX11 rfl 0 (by decide) 40 (by decide) hw_5_227 rfl (v := .ref (q 21)) rfl dX11_asksPapers_18 ?_
      refine lv_iload_n hx hb dX11_asksPapers_21 rfl (lv_at hl 1 rfl) ?_
      refine z_iald hx hb hK hP 21 (by decide) 20 rfl rfl (zR_vin f0_1 (by decide)) dX11_asksPapers_22 ?_
      refine z_eqi (y := R 21 (pa0).toNatClampNeg) rfl ?_
      have f_3 : zR (-1) 60 (R 21 (pa0).toNatClampNeg) := mR hI 21 (pa0).toNatClampNeg
      refine lv_iconst (v := (-1)) hx hb dX11_asksPapers_23 (by decide +kernel) ?_
      refine lv_icmp_ne (tgt := 30) hx hb dX11_asksPapers_24 (by decide) (fun c_4 => ?_) (fun c_4 => ?_)
      · have t_c_4 := z_eqF c_4
        have f_5 : zR 0 60 (R 21 (pa0).toNatClampNeg) := zR_nex t_c_4 f_3 zk_m1 (by decide)
        refine lv_aload_n hx hb dX11_asksPapers_30 rfl (lv_at hl 0 rfl) ?_
        refine z_get hx hb ht hown hK hP ziX11 rfl 0 (by decide) 40 (by decide) hw_5_227 rfl (v := .ref (q 21)) rfl dX11_asksPapers_31 ?_
        refine lv_iload_n hx hb dX11_asksPapers_34 rfl (lv_at hl 1 rfl) ?_
        refine z_iald hx hb hK hP 21 (by decide) 20 rfl rfl (zR_vin f0_1 (by decide)) dX11_asksPapers_35 ?_
        refine z_eqi (y := R 21 (pa0).toNatClampNeg) rfl ?_
        refine lv_iconst (v := nI 4) hx hb dX11_asksPapers_36 (by decide +kernel) ?_
        refine lv_irem hx hb dX11_asksPapers_37 (by decide +kernel) ?_
        refine lv_topi (fun v_6 ev_6 => ?_)
        have hv_6 : zR 0 3 v_6 := ev_6 ▸ zR_rem f_5 zk_4 (by decide)
        refine lv_if_eq (tgt := 44) hx hb dX11_asksPapers_38 (by decide) (fun c_7 => ?_) (fun c_7 => ?_)
        · have t_c_7 := z_eqT c_7
          have f_8 : zR 0 0 (v_6) := zR_eqx t_c_7 zk_z
          refine lv_iconst (v := nI 0) hx hb dX11_asksPapers_44 (by decide +kernel) ?_
          refine lv_istore_n (lv' := [(2, .int (nI 0)), (0, .ref (q 0)), (1, .int (pa0))]) hx hb dX11_asksPapers_45 rfl hl (by decide) rfl (fun ls hl => ?_)
          have loop_45 : ∀ N : Nat, ∀ x_43 : Int32, zR 0 60 x_43 → (xFour (x_43) ∧ mSnd (J 23) (pa0) (x_43)) → (2147483648 - (x_43).toInt).toNat < N → ∀ (H : Heap) (locs : List Loc), va_P D vwCl (zw 25 q (zMd q cA) I R J) H → va_D (zA 25 q sz) (zw 25 q (zMd q cA) I R J) → va_S (zA 25 q sz) s.heap H locs → ∀ ls : Array Slot, lv_has ls 3 [(0, .ref (q 0)), (1, .int (pa0)), (2, .int (x_43))] → W p l e ({ frames := 6, cells := 0, slots := 0, locals := 155 } : Room) s m ([.ref (q 0), .int (pa0)] : List Value).toArray below meth c H locs 0 0 (MQ below (va_Qi (fun r u => (r = nI 0 ∧ mInv F u ∧ u.2.2 = J ∧ zR 0 3 pa0 ∧ mSound F J pa0) ∨ (zR (-2147483648) (-1) r ∧ mInv F u)) (zB D vwCl 25 q (zMd q cA) sz) (zA 25 q sz)) ([.ref (q 0), .int (pa0)] : List Value).toArray s 0 0 (zA 25 q sz)) (F0 m 46 ls []) := by
            intro N
            induction N with
            | zero => intro x_43 hx_43 hx_44 hN; exact absurd hN (Nat.not_lt_zero _)
            | succ N ih_47 =>
              intro x_43 hx_43 hx_44 hN_46 H locs hP hD hS ls hl
              refine lv_iload_n hx hb dX11_asksPapers_46 rfl (lv_at hl 2 rfl) ?_
              refine lv_aload_n hx hb dX11_asksPapers_47 rfl (lv_at hl 0 rfl) ?_
              refine z_get hx hb ht hown hK hP ziX11 rfl 0 (by decide) 40 (by decide) hw_5_227 rfl (v := .ref (q 21)) rfl dX11_asksPapers_48 ?_
              refine lv_iload_n hx hb dX11_asksPapers_51 rfl (lv_at hl 1 rfl) ?_
              refine z_iald hx hb hK hP 21 (by decide) 20 rfl rfl (zR_vin f0_1 (by decide)) dX11_asksPapers_52 ?_
              refine z_eqi (y := R 21 (pa0).toNatClampNeg) rfl ?_
              refine lv_icmp_ge (tgt := 74) hx hb dX11_asksPapers_53 (by decide) (fun c_48 => ?_) (fun c_48 => ?_)
              · have t_c_48 := z_leT c_48
                refine lv_aload_n hx hb dX11_asksPapers_74 rfl (lv_at hl 0 rfl) ?_
                refine z_callVv (k := 0) (As := []) (rest := []) hx hb hml hown ht (mk_X11_asItIs l D q cA F _ _ _ hI ) hw_6_181 hmX11_asItIs ⟨rfl, rfl⟩ (na := 0) rfl (by decide +kernel) (by decide) (by decide) rfl rfl hK hP hD hS hA hl.1 rfl (Nat.le_of_ble_eq_true rfl) ⟨Nat.zero_le _, Nat.zero_le _⟩ dX11_asksPapers_75 (fun I_49 R_49 J_49 H locs hp_49 hP hD hS _ _ => ?_)
                obtain ⟨hv_49, hj_49, hs_49⟩ := hp_49
                try dsimp only at hj_49
                subst J_49
                refine lv_iconst (v := nI 0) hx hb dX11_asksPapers_78 (by decide +kernel) ?_
                exact z_iret (v := nI 0) hx hb hr hlocks hP hD hS dX11_asksPapers_79 (Or.inl ⟨rfl, hv_49, rfl, f0_1, mSound_of hx_44.2 t_c_48 (mFr hI 21 rfl) (mq_rem f_5 ev_6 t_c_7)⟩)
              · have t_c_48 := z_leF c_48
                have f_50 : zR 0 59 (x_43) := zR_ltx t_c_48 hx_43 f_5 (by decide)
                have f_51 : zR 1 60 (R 21 (pa0).toNatClampNeg) := zR_lty t_c_48 hx_43 f_5 (by decide)
                have f_52 : zR 0 56 (x_43) := m_four hx_44.1 f_50 t_c_48 (mq_rem (zR_w f_51 (by decide)) ev_6 t_c_7) (zR_w f_51 (by decide))
                refine lv_aload_n hx hb dX11_asksPapers_56 rfl (lv_at hl 0 rfl) ?_
                refine lv_iload_n hx hb dX11_asksPapers_57 rfl (lv_at hl 1 rfl) ?_
                refine lv_iload_n hx hb dX11_asksPapers_58 rfl (lv_at hl 2 rfl) ?_
                refine z_callVi (k := 0) (As := [.int (pa0), .int (x_43)]) (rest := []) hx hb hml hown ht (mk_X11_isRowPaper_1 l D q cA F _ _ _ hI (pa0) f0_1 (x_43) f_52) hw_8_79 hmX11_isRowPaper ⟨rfl, rfl⟩ (na := 2) rfl (by decide +kernel) (by decide) (by decide) rfl rfl hK hP hD hS hA hl.1 rfl (Nat.le_of_ble_eq_true rfl) ⟨Nat.zero_le _, Nat.zero_le _⟩ dX11_asksPapers_59 (fun r_53 I_53 R_53 J_53 H locs hp_53 hP hD hS _ _ => ?_)
                rcases hp_53 with ⟨rfl, hu_53, nn_53⟩ | ⟨rfl, hu_53, nn_53⟩
                · cases hu_53
                  refine lv_if_ne (tgt := 68) hx hb dX11_asksPapers_62 (by decide) (fun _ => ?_) (fun c_0 => absurd c_0 (zD_ne zk_1 zk_z (by decide)))
                  obtain ⟨v_54, ev_54⟩ : ∃ y : Int32, y = x_43 + nI 4 := ⟨_, rfl⟩
                  have hv_54 : zR 4 60 v_54 := ev_54 ▸ zR_add f_52 zk_4 (by decide)
                  have mv_54 : v_54.toInt = (x_43).toInt + 4 := by rw [ev_54, zR_addE f_52 zk_4 (by decide)]; rfl
                  refine lv_iinc (v := v_54) (lv' := [(2, .int (v_54)), (0, .ref (q 0)), (1, .int (pa0))]) hx hb dX11_asksPapers_68 hl (k := 2) rfl (ev_54 ▸ rfl) (by decide) rfl (fun ls hl => ?_)
                  refine lv_goto (tgt := 46) hx hb dX11_asksPapers_71 (by decide) ?_
                  exact ih_47 (v_54) (zR_w hv_54 (by decide)) ⟨xFour_s hx_44.1 mv_54, mSnd_s hx_44.1 hx_44.2 mv_54 nn_53⟩ (z2_up mv_54 (by decide) hN_46) _ _ hP hD hS _ (lv_sub hl [1, 2, 0] rfl)
                · cases hu_53
                  refine lv_if_ne (tgt := 68) hx hb dX11_asksPapers_62 (by decide) (fun c_0 => absurd (zD_eq zk_0 zk_z) c_0) (fun _ => ?_)
                  refine lv_bipush (v := (-2)) hx hb dX11_asksPapers_65 (by decide +kernel) ?_
                  exact z_iret (v := (-2)) hx hb hr hlocks hP hD hS dX11_asksPapers_67 (Or.inr ⟨(zR_w zk_m2 (by decide)), hI⟩)
          exact loop_45 _ (nI 0) (zR_w zk_0 (by decide)) ⟨xFour_0, mSnd_0⟩ (Nat.lt_succ_self _) _ _ hP hD hS _ (lv_sub hl [1, 2, 0] rfl)
        · have t_c_7 := z_eqF c_7
          have f_55 : zR 1 3 (v_6) := zR_nex t_c_7 hv_6 zk_z (by decide)
          refine lv_bipush (v := (-2)) hx hb dX11_asksPapers_41 (by decide +kernel) ?_
          exact z_iret (v := (-2)) hx hb hr hlocks hP hD hS dX11_asksPapers_43 (Or.inr ⟨(zR_w zk_m2 (by decide)), hI⟩)
      · have t_c_4 := z_eqT c_4
        have f_56 : zR (-1) (-1) (R 21 (pa0).toNatClampNeg) := zR_eqx t_c_4 zk_m1
        refine lv_bipush (v := (-6)) hx hb dX11_asksPapers_27 (by decide +kernel) ?_
        exact z_iret (v := (-6)) hx hb hr hlocks hP hD hS dX11_asksPapers_29 (Or.inr ⟨(zR_w zk_m6 (by decide)), hI⟩)
    · cases hu_2
      refine lv_if_ne (tgt := 17) hx hb dX11_asksPapers_11 (by decide) (fun c_0 => absurd (zD_eq zk_0 zk_z) c_0) (fun _ => ?_)
      refine lv_bipush (v := (-2)) hx hb dX11_asksPapers_14 (by decide +kernel) ?_
      exact z_iret (v := (-2)) hx hb hr hlocks hP hD hS dX11_asksPapers_16 (Or.inr ⟨(zR_w zk_m2 (by decide)), hI⟩)
  · cases hu_1
    refine lv_if_eq (tgt := 14) hx hb dX11_asksPapers_4 (by decide) (fun _ => ?_) (fun c_0 => absurd (zD_eq zk_0 zk_z) c_0)
    refine lv_bipush (v := (-2)) hx hb dX11_asksPapers_14 (by decide +kernel) ?_
    exact z_iret (v := (-2)) hx hb hr hlocks hP hD hS dX11_asksPapers_16 (Or.inr ⟨(zR_w zk_m2 (by decide)), hI⟩)
set_option maxHeartbeats 4000000 in
set_option maxRecDepth 100000 in
theorem mk_X11_fitsRow_3 (l : Launch) (D : va_G) (q : Nat → Nat) (cA : Nat → ClassId) (F : Nat → Nat → Int32) (I R : Nat → Nat → Int32) (J : Nat → Nat → Int64) (hI : mInv F (I, R, J)) (pa0 : Int32) (hpa0 : zR 0 3 pa0) (pa1 : Int32) (hpa1 : zR 0 56 pa1) (pa2 : Int32) (hpa2 : zR 0 23 pa2) (pa3 : Int32) (hpa3 : zR 0 1 pa3) : zMi l D vwCl (zMtys cA) 25 q (zMd q cA) yX11_fitsRow cX11_fitsRow 5 (some .boolean) ({ frames := 2, cells := 0, slots := 0, locals := 42 } : Room) [.ref (q 0), .int (pa0), .int (pa1), .int (pa2), .int (pa3)] (I, R, J) (fun r u => (r = nI 1 ∧ u = (I, R, J)) ∨ (r = nI 0 ∧ u = (I, R, J))) := by
  intro sz
  refine z_body (by decide +kernel) (Nat.le_of_ble_eq_true rfl) (fun p e s m below meth c ls hx hb hml hr ht hown hlocks hsz hK hP hD hS hl => ?_)
  have hA : ∀ a, s.heap.size ≤ a → zA 25 q sz a := fun a h => Or.inr (hsz ▸ h)
  have hl : lv_has ls 5 [(0, .ref (q 0)), (1, .int (pa0)), (2, .int (pa1)), (3, .int (pa2)), (4, .int (pa3))] := hl
  refine lv_aload_n hx hb dX11_fitsRow_0 rfl (lv_at hl 0 rfl) ?_
  refine lv_iload_n hx hb dX11_fitsRow_1 rfl (lv_at hl 3 rfl) ?_
  refine z_callVi (k := 0) (As := [.int (pa2)]) (rest := []) hx hb hml hown ht (mk_X11_isOpen_1 l D q cA F _ _ _ hI (pa2) hpa2) hw_6_230 hmX11_isOpen ⟨rfl, rfl⟩ (na := 1) rfl (by decide +kernel) (by decide) (by decide) rfl rfl hK hP hD hS hA hl.1 rfl (Nat.le_of_ble_eq_true rfl) ⟨Nat.zero_le _, Nat.zero_le _⟩ dX11_fitsRow_2 (fun r_1 I_1 R_1 J_1 H locs hp_1 hP hD hS _ _ => ?_)
  rcases hp_1 with ⟨rfl, hu_1⟩ | ⟨rfl, hu_1⟩
  · cases hu_1
    refine lv_if_eq (tgt := 90) hx hb dX11_fitsRow_5 (by decide) (fun c_0 => absurd c_0 (zD_ne zk_1 zk_z (by decide))) (fun _ => ?_)
    refine lv_aload_n hx hb dX11_fitsRow_8 rfl (lv_at hl 0 rfl) ?_
    refine z_get hx hb ht hown hK hP ziX11 rfl 0 (by decide) 18 (by decide) hw_5_205 rfl (v := .ref (q 10)) rfl dX11_fitsRow_9 ?_
    refine lv_iload_n hx hb dX11_fitsRow_12 rfl (lv_at hl 3 rfl) ?_
    refine z_iald hx hb hK hP 10 (by decide) 9 rfl rfl (zR_vin hpa2 (by decide)) dX11_fitsRow_13 ?_
    refine z_eqi (y := R 10 (pa2).toNatClampNeg) rfl ?_
    have f_2 : zR 0 4 (R 10 (pa2).toNatClampNeg) := mR hI 10 (pa2).toNatClampNeg
    refine lv_i2l (v := (R 10 (pa2).toNatClampNeg).toInt64) hx hb dX11_fitsRow_14 rfl ?_
    refine lv_aload_n hx hb dX11_fitsRow_15 rfl (lv_at hl 0 rfl) ?_
    refine lv_iload_n hx hb dX11_fitsRow_16 rfl (lv_at hl 1 rfl) ?_
    refine lv_iload_n hx hb dX11_fitsRow_17 rfl (lv_at hl 2 rfl) ?_
    refine z_callVl (k := 0) (As := [.int (pa0), .int (pa1)]) (rest := [.long ((R 10 (pa2).toNatClampNeg).toInt64)]) hx hb hml hown ht (mk_X11_numberAt l D q cA F _ _ _ hI (pa0) hpa0 (pa1) (zR_w hpa1 (by decide))) hw_8_83 hmX11_numberAt ⟨rfl, rfl⟩ (na := 2) rfl (by decide +kernel) (by decide) (by decide) rfl rfl hK hP hD hS hA hl.1 rfl (Nat.le_of_ble_eq_true rfl) ⟨Nat.zero_le _, Nat.zero_le _⟩ dX11_fitsRow_18 (fun r_3 I_3 R_3 J_3 H locs hp_3 hP hD hS _ _ => ?_)
    obtain ⟨rfl, hu_3⟩ := hp_3
    cases hu_3
    refine W.lcmp hx hb dX11_fitsRow_21 ?_
    refine lv_if_ne (tgt := 90) hx hb dX11_fitsRow_22 (by decide) (fun c_4 => ?_) (fun c_4 => ?_)
    · have t_c_4 := z_leqF (fun h => c_4 ((lg_cmp_eq _ _).mpr h))
      refine lv_iconst (v := nI 0) hx hb dX11_fitsRow_90 (by decide +kernel) ?_
      exact z_zret (v := nI 0) hx hb hr hlocks hP hD hS (by decide +kernel) dX11_fitsRow_91 (Or.inr ⟨rfl, rfl⟩)
    · have t_c_4 := z_leqT ((lg_cmp_eq _ _).mp c_4)
      have f_5 : zL 0 4 (mNum (J 23) (pa0) (pa1)) := zL_eqy t_c_4 (zR_i2l f_2)
      refine lv_aload_n hx hb dX11_fitsRow_25 rfl (lv_at hl 0 rfl) ?_
      refine z_get hx hb ht hown hK hP ziX11 rfl 0 (by decide) 19 (by decide) hw_5_206 rfl (v := .ref (q 11)) rfl dX11_fitsRow_26 ?_
      refine lv_iload_n hx hb dX11_fitsRow_29 rfl (lv_at hl 3 rfl) ?_
      refine z_iald hx hb hK hP 11 (by decide) 10 rfl rfl (zR_vin hpa2 (by decide)) dX11_fitsRow_30 ?_
      refine z_eqi (y := R 11 (pa2).toNatClampNeg) rfl ?_
      have f_6 : zR 0 5 (R 11 (pa2).toNatClampNeg) := mR hI 11 (pa2).toNatClampNeg
      refine lv_i2l (v := (R 11 (pa2).toNatClampNeg).toInt64) hx hb dX11_fitsRow_31 rfl ?_
      refine lv_aload_n hx hb dX11_fitsRow_32 rfl (lv_at hl 0 rfl) ?_
      refine lv_iload_n hx hb dX11_fitsRow_33 rfl (lv_at hl 1 rfl) ?_
      refine lv_iload_n hx hb dX11_fitsRow_34 rfl (lv_at hl 2 rfl) ?_
      refine lv_iconst (v := nI 1) hx hb dX11_fitsRow_35 (by decide +kernel) ?_
      refine lv_iadd hx hb dX11_fitsRow_36 ?_
      refine z_addc 1 57 hpa1 zk_1 (by decide) (fun v_7 hv_7 mv_7 => ?_)
      refine z_callVl (k := 0) (As := [.int (pa0), .int (v_7)]) (rest := [.long ((R 11 (pa2).toNatClampNeg).toInt64)]) hx hb hml hown ht (mk_X11_numberAt l D q cA F _ _ _ hI (pa0) hpa0 (v_7) (zR_w hv_7 (by decide))) hw_8_83 hmX11_numberAt ⟨rfl, rfl⟩ (na := 2) rfl (by decide +kernel) (by decide) (by decide) rfl rfl hK hP hD hS hA hl.1 rfl (Nat.le_of_ble_eq_true rfl) ⟨Nat.zero_le _, Nat.zero_le _⟩ dX11_fitsRow_37 (fun r_8 I_8 R_8 J_8 H locs hp_8 hP hD hS _ _ => ?_)
      obtain ⟨rfl, hu_8⟩ := hp_8
      cases hu_8
      refine W.lcmp hx hb dX11_fitsRow_40 ?_
      refine lv_if_ne (tgt := 90) hx hb dX11_fitsRow_41 (by decide) (fun c_9 => ?_) (fun c_9 => ?_)
      · have t_c_9 := z_leqF (fun h => c_9 ((lg_cmp_eq _ _).mpr h))
        refine lv_iconst (v := nI 0) hx hb dX11_fitsRow_90 (by decide +kernel) ?_
        exact z_zret (v := nI 0) hx hb hr hlocks hP hD hS (by decide +kernel) dX11_fitsRow_91 (Or.inr ⟨rfl, rfl⟩)
      · have t_c_9 := z_leqT ((lg_cmp_eq _ _).mp c_9)
        have f_10 : zL 0 5 (mNum (J 23) (pa0) (v_7)) := zL_eqy t_c_9 (zR_i2l f_6)
        refine lv_aload_n hx hb dX11_fitsRow_44 rfl (lv_at hl 0 rfl) ?_
        refine z_get hx hb ht hown hK hP ziX11 rfl 0 (by decide) 21 (by decide) hw_5_208 rfl (v := .ref (q 13)) rfl dX11_fitsRow_45 ?_
        refine lv_iload_n hx hb dX11_fitsRow_48 rfl (lv_at hl 3 rfl) ?_
        refine z_iald hx hb hK hP 13 (by decide) 12 rfl rfl (zR_vin hpa2 (by decide)) dX11_fitsRow_49 ?_
        refine z_eqi (y := R 13 (pa2).toNatClampNeg) rfl ?_
        refine lv_i2l (v := (R 13 (pa2).toNatClampNeg).toInt64) hx hb dX11_fitsRow_50 rfl ?_
        refine lv_aload_n hx hb dX11_fitsRow_51 rfl (lv_at hl 0 rfl) ?_
        refine lv_iload_n hx hb dX11_fitsRow_52 rfl (lv_at hl 1 rfl) ?_
        refine lv_iload_n hx hb dX11_fitsRow_53 rfl (lv_at hl 2 rfl) ?_
        refine lv_iconst (v := nI 3) hx hb dX11_fitsRow_54 (by decide +kernel) ?_
        refine lv_iadd hx hb dX11_fitsRow_55 ?_
        refine z_addc 3 59 hpa1 zk_3 (by decide) (fun v_11 hv_11 mv_11 => ?_)
        refine z_callVl (k := 0) (As := [.int (pa0), .int (v_11)]) (rest := [.long ((R 13 (pa2).toNatClampNeg).toInt64)]) hx hb hml hown ht (mk_X11_numberAt l D q cA F _ _ _ hI (pa0) hpa0 (v_11) (zR_w hv_11 (by decide))) hw_8_83 hmX11_numberAt ⟨rfl, rfl⟩ (na := 2) rfl (by decide +kernel) (by decide) (by decide) rfl rfl hK hP hD hS hA hl.1 rfl (Nat.le_of_ble_eq_true rfl) ⟨Nat.zero_le _, Nat.zero_le _⟩ dX11_fitsRow_56 (fun r_12 I_12 R_12 J_12 H locs hp_12 hP hD hS _ _ => ?_)
        obtain ⟨rfl, hu_12⟩ := hp_12
        cases hu_12
        refine W.lcmp hx hb dX11_fitsRow_59 ?_
        refine lv_if_ne (tgt := 90) hx hb dX11_fitsRow_60 (by decide) (fun c_13 => ?_) (fun c_13 => ?_)
        · have t_c_13 := z_leqF (fun h => c_13 ((lg_cmp_eq _ _).mpr h))
          refine lv_iconst (v := nI 0) hx hb dX11_fitsRow_90 (by decide +kernel) ?_
          exact z_zret (v := nI 0) hx hb hr hlocks hP hD hS (by decide +kernel) dX11_fitsRow_91 (Or.inr ⟨rfl, rfl⟩)
        · have t_c_13 := z_leqT ((lg_cmp_eq _ _).mp c_13)
          have f_14 : zL (-2147483648) 2147483647 (mNum (J 23) (pa0) (v_11)) := zL_eqy t_c_13 (zR_i2l (zR_any (R 13 (pa2).toNatClampNeg)))
          refine lv_iload hx hb dX11_fitsRow_63 (lv_at hl 4 rfl) ?_
          refine lv_if_eq (tgt := 86) hx hb dX11_fitsRow_65 (by decide) (fun c_15 => ?_) (fun c_15 => ?_)
          · have t_c_15 := z_eqT c_15
            have f_16 : zR 0 0 (pa3) := zR_eqx t_c_15 zk_z
            refine lv_iconst (v := nI 1) hx hb dX11_fitsRow_86 (by decide +kernel) ?_
            refine lv_goto (tgt := 91) hx hb dX11_fitsRow_87 (by decide) ?_
            exact z_zret (v := nI 1) hx hb hr hlocks hP hD hS (by decide +kernel) dX11_fitsRow_91 (Or.inl ⟨rfl, rfl⟩)
          · have t_c_15 := z_eqF c_15
            have f_17 : zR 1 1 (pa3) := zR_nex t_c_15 hpa3 zk_z (by decide)
            refine lv_aload_n hx hb dX11_fitsRow_68 rfl (lv_at hl 0 rfl) ?_
            refine lv_iload_n hx hb dX11_fitsRow_69 rfl (lv_at hl 3 rfl) ?_
            refine z_callVi (k := 0) (As := [.int (pa2)]) (rest := []) hx hb hml hown ht (mk_X11_worthP_1 l D q cA F _ _ _ hI (pa2) hpa2) hw_6_206 hmX11_worthP ⟨rfl, rfl⟩ (na := 1) rfl (by decide +kernel) (by decide) (by decide) rfl rfl hK hP hD hS hA hl.1 rfl (Nat.le_of_ble_eq_true rfl) ⟨Nat.zero_le _, Nat.zero_le _⟩ dX11_fitsRow_70 (fun r_18 I_18 R_18 J_18 H locs hp_18 hP hD hS _ _ => ?_)
            cases hp_18
            refine lv_i2l (v := (r_18).toInt64) hx hb dX11_fitsRow_73 rfl ?_
            refine lv_aload_n hx hb dX11_fitsRow_74 rfl (lv_at hl 0 rfl) ?_
            refine lv_iload_n hx hb dX11_fitsRow_75 rfl (lv_at hl 1 rfl) ?_
            refine lv_iload_n hx hb dX11_fitsRow_76 rfl (lv_at hl 2 rfl) ?_
            refine lv_iconst (v := nI 2) hx hb dX11_fitsRow_77 (by decide +kernel) ?_
            refine lv_iadd hx hb dX11_fitsRow_78 ?_
            refine z_addc 2 58 hpa1 zk_2 (by decide) (fun v_19 hv_19 mv_19 => ?_)
            refine z_callVl (k := 0) (As := [.int (pa0), .int (v_19)]) (rest := [.long ((r_18).toInt64)]) hx hb hml hown ht (mk_X11_numberAt l D q cA F _ _ _ hI (pa0) hpa0 (v_19) (zR_w hv_19 (by decide))) hw_8_83 hmX11_numberAt ⟨rfl, rfl⟩ (na := 2) rfl (by decide +kernel) (by decide) (by decide) rfl rfl hK hP hD hS hA hl.1 rfl (Nat.le_of_ble_eq_true rfl) ⟨Nat.zero_le _, Nat.zero_le _⟩ dX11_fitsRow_79 (fun r_20 I_20 R_20 J_20 H locs hp_20 hP hD hS _ _ => ?_)
            obtain ⟨rfl, hu_20⟩ := hp_20
            cases hu_20
            refine W.lcmp hx hb dX11_fitsRow_82 ?_
            refine lv_if_ne (tgt := 90) hx hb dX11_fitsRow_83 (by decide) (fun c_21 => ?_) (fun c_21 => ?_)
            · have t_c_21 := z_leqF (fun h => c_21 ((lg_cmp_eq _ _).mpr h))
              refine lv_iconst (v := nI 0) hx hb dX11_fitsRow_90 (by decide +kernel) ?_
              exact z_zret (v := nI 0) hx hb hr hlocks hP hD hS (by decide +kernel) dX11_fitsRow_91 (Or.inr ⟨rfl, rfl⟩)
            · have t_c_21 := z_leqT ((lg_cmp_eq _ _).mp c_21)
              have f_22 : zL (-2147483648) 2147483647 (mNum (J 23) (pa0) (v_19)) := zL_eqy t_c_21 (zR_i2l (zR_any (r_18)))
              refine lv_iconst (v := nI 1) hx hb dX11_fitsRow_86 (by decide +kernel) ?_
              refine lv_goto (tgt := 91) hx hb dX11_fitsRow_87 (by decide) ?_
              exact z_zret (v := nI 1) hx hb hr hlocks hP hD hS (by decide +kernel) dX11_fitsRow_91 (Or.inl ⟨rfl, rfl⟩)
  · cases hu_1
    refine lv_if_eq (tgt := 90) hx hb dX11_fitsRow_5 (by decide) (fun _ => ?_) (fun c_0 => absurd (zD_eq zk_0 zk_z) c_0)
    refine lv_iconst (v := nI 0) hx hb dX11_fitsRow_90 (by decide +kernel) ?_
    exact z_zret (v := nI 0) hx hb hr hlocks hP hD hS (by decide +kernel) dX11_fitsRow_91 (Or.inr ⟨rfl, rfl⟩)
set_option maxHeartbeats 4000000 in
set_option maxRecDepth 100000 in
theorem mk_X11_layFalse (l : Launch) (D : va_G) (q : Nat → Nat) (cA : Nat → ClassId) (F : Nat → Nat → Int32) (I R : Nat → Nat → Int32) (J : Nat → Nat → Int64) (hI : mInv F (I, R, J)) (pa0 : Int32) (hpa0 : zR 0 3 pa0) (hs : mSound F J pa0) : zMv l D vwCl (zMtys cA) 25 q (zMd q cA) yX11_layFalse cX11_layFalse 7 none ({ frames := 3, cells := 0, slots := 0, locals := 66 } : Room) [.ref (q 0), .int (pa0)] (I, R, J) (fun u => (mInv F u ∧ u.2.2 = J)) := by
  intro sz
  refine z_body (by decide +kernel) (Nat.le_of_ble_eq_true rfl) (fun p e s m below meth c ls hx hb hml hr ht hown hlocks hsz hK hP hD hS hl => ?_)
  have hA : ∀ a, s.heap.size ≤ a → zA 25 q sz a := fun a h => Or.inr (hsz ▸ h)
  have hl : lv_has ls 7 [(0, .ref (q 0)), (1, .int (pa0))] := hl
  refine lv_aload_n hx hb dX11_layFalse_0 rfl (lv_at hl 0 rfl) ?_
  refine lv_iconst (v := nI 0) hx hb dX11_layFalse_1 (by decide +kernel) ?_
  refine z_putI hx hb ht hown hK hP hD hS ziX11 tyX11 tyX11_ok nmX11 rfl 0 (by decide) 36 (by decide) hw_5_223 rfl (v := nI 0) rfl rfl rfl (Nat.le_of_ble_eq_true rfl) rfl dX11_layFalse_2 (fun H locs hP hD hS => ?_)
  have hI_1 := mInv_I hI 0 36 (nI 0) (zR_any (nI 0)) rfl
  refine lv_aload_n hx hb dX11_layFalse_5 rfl (lv_at hl 0 rfl) ?_
  refine lv_iconst (v := (-1)) hx hb dX11_layFalse_6 (by decide +kernel) ?_
  refine z_putI hx hb ht hown hK hP hD hS ziX11 tyX11 tyX11_ok nmX11 rfl 0 (by decide) 37 (by decide) hw_5_224 rfl (v := (-1)) rfl rfl rfl (Nat.le_of_ble_eq_true rfl) rfl dX11_layFalse_7 (fun H locs hP hD hS => ?_)
  have hI_2 := mInv_I hI_1 0 37 ((-1)) (zR_any ((-1))) rfl
  refine lv_aload_n hx hb dX11_layFalse_10 rfl (lv_at hl 0 rfl) ?_
  refine lv_iconst (v := nI 0) hx hb dX11_layFalse_11 (by decide +kernel) ?_
  refine z_putI hx hb ht hown hK hP hD hS ziX11 tyX11 tyX11_ok nmX11 rfl 0 (by decide) 38 (by decide) hw_5_225 rfl (v := nI 0) rfl rfl rfl (Nat.le_of_ble_eq_true rfl) rfl dX11_layFalse_12 (fun H locs hP hD hS => ?_)
  have hI_3 := mInv_I hI_2 0 38 (nI 0) (zR_any (nI 0)) rfl
  refine lv_iconst (v := nI 0) hx hb dX11_layFalse_15 (by decide +kernel) ?_
  refine lv_istore_n (lv' := [(2, .int (nI 0)), (0, .ref (q 0)), (1, .int (pa0))]) hx hb dX11_layFalse_16 rfl hl (by decide) rfl (fun ls hl => ?_)
  refine lv_iconst (v := nI 0) hx hb dX11_layFalse_17 (by decide +kernel) ?_
  refine lv_istore_n (lv' := [(3, .int (nI 0)), (2, .int (nI 0)), (0, .ref (q 0)), (1, .int (pa0))]) hx hb dX11_layFalse_18 rfl hl (by decide) rfl (fun ls hl => ?_)
  have loop_565 : ∀ N : Nat, ∀ x_561 : Int32, zR 0 16777215 x_561 → ∀ x_562 : Int32, zR 0 60 x_562 → ∀ I_563 : Nat → Nat → Int32, mInv F (I_563, R, J) → (xFour (x_562)) → (2147483648 - (x_562).toInt).toNat < N → ∀ (H : Heap) (locs : List Loc), va_P D vwCl (zw 25 q (zMd q cA) I_563 R J) H → va_D (zA 25 q sz) (zw 25 q (zMd q cA) I_563 R J) → va_S (zA 25 q sz) s.heap H locs → ∀ ls : Array Slot, lv_has ls 7 [(0, .ref (q 0)), (1, .int (pa0)), (2, .int (x_561)), (3, .int (x_562))] → W p l e ({ frames := 3, cells := 0, slots := 0, locals := 66 } : Room) s m ([.ref (q 0), .int (pa0)] : List Value).toArray below meth c H locs 0 0 (MQ below (va_Qv (fun u => (mInv F u ∧ u.2.2 = J)) (zB D vwCl 25 q (zMd q cA) sz) (zA 25 q sz)) ([.ref (q 0), .int (pa0)] : List Value).toArray s 0 0 (zA 25 q sz)) (F0 m 19 ls []) := by
    intro N
    induction N with
    | zero => intro x_561 hx_561 x_562 hx_562 I_563 hI_563 hx_564 hN; exact absurd hN (Nat.not_lt_zero _)
    | succ N ih_567 =>
      intro x_561 hx_561 x_562 hx_562 I_563 hI_563 hx_564 hN_566 H locs hP hD hS ls hl
      refine lv_iload_n hx hb dX11_layFalse_19 rfl (lv_at hl 3 rfl) ?_
      refine lv_aload_n hx hb dX11_layFalse_20 rfl (lv_at hl 0 rfl) ?_
      refine z_get hx hb ht hown hK hP ziX11 rfl 0 (by decide) 40 (by decide) hw_5_227 rfl (v := .ref (q 21)) rfl dX11_layFalse_21 ?_
      refine lv_iload_n hx hb dX11_layFalse_24 rfl (lv_at hl 1 rfl) ?_
      refine z_iald hx hb hK hP 21 (by decide) 20 rfl rfl (zR_vin hpa0 (by decide)) dX11_layFalse_25 ?_
      refine z_eqi (y := R 21 (pa0).toNatClampNeg) rfl ?_
      have f_568 : zR (-1) 60 (R 21 (pa0).toNatClampNeg) := mR hI 21 (pa0).toNatClampNeg
      refine lv_icmp_ge (tgt := 211) hx hb dX11_layFalse_26 (by decide) (fun c_569 => ?_) (fun c_569 => ?_)
      · have t_c_569 := z_leT c_569
        exact z_vret hx hb hr hlocks hP hD hS dX11_layFalse_211 ⟨hI_563, rfl⟩
      · have t_c_569 := z_leF c_569
        have f_570 : zR 0 59 (x_562) := zR_ltx t_c_569 hx_562 f_568 (by decide)
        have f_571 : zR 1 60 (R 21 (pa0).toNatClampNeg) := zR_lty t_c_569 hx_562 f_568 (by decide)
        have f_572 : zR 0 56 (x_562) := m_four2 hs hx_564 f_570 t_c_569 (mFr hI 21 rfl) (mR hI 21 _)
        refine lv_iconst (v := (-1)) hx hb dX11_layFalse_29 (by decide +kernel) ?_
        refine lv_istore (lv' := [(4, .int ((-1))), (0, .ref (q 0)), (1, .int (pa0)), (2, .int (x_561)), (3, .int (x_562))]) hx hb dX11_layFalse_30 hl (by decide) rfl (fun ls hl => ?_)
        refine lv_iconst (v := nI 0) hx hb dX11_layFalse_32 (by decide +kernel) ?_
        refine lv_istore (lv' := [(5, .int (nI 0)), (4, .int ((-1))), (0, .ref (q 0)), (1, .int (pa0)), (2, .int (x_561)), (3, .int (x_562))]) hx hb dX11_layFalse_33 hl (by decide) rfl (fun ls hl => ?_)
        refine lv_iconst (v := nI 0) hx hb dX11_layFalse_35 (by decide +kernel) ?_
        refine lv_istore (lv' := [(6, .int (nI 0)), (5, .int (nI 0)), (4, .int ((-1))), (0, .ref (q 0)), (1, .int (pa0)), (2, .int (x_561)), (3, .int (x_562))]) hx hb dX11_layFalse_36 hl (by decide) rfl (fun ls hl => ?_)
        have loop_676 : ∀ N : Nat, ∀ x_673 : Int32, zR (-1) 23 x_673 → ∀ x_674 : Int32, zR 0 1 x_674 → ∀ x_675 : Int32, zR 0 24 x_675 → (2147483648 - (x_675).toInt).toNat < N → ∀ (H : Heap) (locs : List Loc), va_P D vwCl (zw 25 q (zMd q cA) I_563 R J) H → va_D (zA 25 q sz) (zw 25 q (zMd q cA) I_563 R J) → va_S (zA 25 q sz) s.heap H locs → ∀ ls : Array Slot, lv_has ls 7 [(0, .ref (q 0)), (1, .int (pa0)), (2, .int (x_561)), (3, .int (x_562)), (4, .int (x_673)), (5, .int (x_674)), (6, .int (x_675))] → W p l e ({ frames := 3, cells := 0, slots := 0, locals := 66 } : Room) s m ([.ref (q 0), .int (pa0)] : List Value).toArray below meth c H locs 0 0 (MQ below (va_Qv (fun u => (mInv F u ∧ u.2.2 = J)) (zB D vwCl 25 q (zMd q cA) sz) (zA 25 q sz)) ([.ref (q 0), .int (pa0)] : List Value).toArray s 0 0 (zA 25 q sz)) (F0 m 38 ls []) := by
          intro N
          induction N with
          | zero => intro x_673 hx_673 x_674 hx_674 x_675 hx_675 hN; exact absurd hN (Nat.not_lt_zero _)
          | succ N ih_678 =>
            intro x_673 hx_673 x_674 hx_674 x_675 hx_675 hN_677 H locs hP hD hS ls hl
            refine lv_iload hx hb dX11_layFalse_38 (lv_at hl 6 rfl) ?_
            refine lv_aload_n hx hb dX11_layFalse_40 rfl (lv_at hl 0 rfl) ?_
            refine z_get hx hb ht hown hK hP ziX11 rfl 0 (by decide) 26 (by decide) hw_5_213 rfl (v := .int (I_563 0 26)) rfl dX11_layFalse_41 ?_
            have f_679 : zR 0 24 (I_563 0 26) := mI hI_563 0 26
            refine lv_icmp_ge (tgt := 113) hx hb dX11_layFalse_44 (by decide) (fun c_680 => ?_) (fun c_680 => ?_)
            · have t_c_680 := z_leT c_680
              refine lv_iload hx hb dX11_layFalse_113 (lv_at hl 4 rfl) ?_
              refine lv_iconst (v := (-1)) hx hb dX11_layFalse_115 (by decide +kernel) ?_
              have t_727 : ∀ x_725 : Int32, zR 0 16777215 x_725 → ∀ I_726 : Nat → Nat → Int32, mInv F (I_726, R, J) → ∀ (H : Heap) (locs : List Loc), va_P D vwCl (zw 25 q (zMd q cA) I_726 R J) H → va_D (zA 25 q sz) (zw 25 q (zMd q cA) I_726 R J) → va_S (zA 25 q sz) s.heap H locs → ∀ ls : Array Slot, lv_has ls 7 [(0, .ref (q 0)), (1, .int (pa0)), (2, .int (x_725)), (3, .int (x_562)), (4, .int (x_673)), (5, .int (x_674)), (6, .int (x_675))] → W p l e ({ frames := 3, cells := 0, slots := 0, locals := 66 } : Room) s m ([.ref (q 0), .int (pa0)] : List Value).toArray below meth c H locs 0 0 (MQ below (va_Qv (fun u => (mInv F u ∧ u.2.2 = J)) (zB D vwCl 25 q (zMd q cA) sz) (zA 25 q sz)) ([.ref (q 0), .int (pa0)] : List Value).toArray s 0 0 (zA 25 q sz)) (F0 m 205 ls []) := by
                intro x_725 hx_725 I_726 hI_726 H locs hP hD hS ls hl
                obtain ⟨v_728, ev_728⟩ : ∃ y : Int32, y = x_562 + nI 4 := ⟨_, rfl⟩
                have hv_728 : zR 4 60 v_728 := ev_728 ▸ zR_add f_572 zk_4 (by decide)
                have mv_728 : v_728.toInt = (x_562).toInt + 4 := by rw [ev_728, zR_addE f_572 zk_4 (by decide)]; rfl
                refine lv_iinc (v := v_728) (lv' := [(3, .int (v_728)), (0, .ref (q 0)), (1, .int (pa0)), (2, .int (x_725)), (4, .int (x_673)), (5, .int (x_674)), (6, .int (x_675))]) hx hb dX11_layFalse_205 hl (k := 3) rfl (ev_728 ▸ rfl) (by decide) rfl (fun ls hl => ?_)
                refine lv_goto (tgt := 19) hx hb dX11_layFalse_208 (by decide) ?_
                exact ih_567 (x_725) hx_725 (v_728) (zR_w hv_728 (by decide)) _ hI_726 (xFour_s hx_564 mv_728) (z2_up mv_728 (by decide) hN_566) _ _ hP hD hS _ (lv_sub hl [1, 2, 3, 0] rfl)
              refine lv_icmp_eq (tgt := 129) hx hb dX11_layFalse_116 (by decide) (fun c_698 => ?_) (fun c_698 => ?_)
              · have t_c_698 := z_eqT c_698
                have f_729 : zR (-1) (-1) (x_673) := zR_eqx t_c_698 zk_m1
                refine lv_aload_n hx hb dX11_layFalse_129 rfl (lv_at hl 0 rfl) ?_
                refine lv_aload_n hx hb dX11_layFalse_130 rfl (lv_at hl 0 rfl) ?_
                refine z_get hx hb ht hown hK hP ziX11 rfl 0 (by decide) 36 (by decide) hw_5_223 rfl (v := .int (I_563 0 36)) rfl dX11_layFalse_131 ?_
                have t_734 : ∀ x_733 : Int32, ∀ (H : Heap) (locs : List Loc), va_P D vwCl (zw 25 q (zMd q cA) I_563 R J) H → va_D (zA 25 q sz) (zw 25 q (zMd q cA) I_563 R J) → va_S (zA 25 q sz) s.heap H locs → ∀ ls : Array Slot, lv_has ls 7 [(0, .ref (q 0)), (1, .int (pa0)), (2, .int (x_561)), (3, .int (x_562)), (4, .int (x_673)), (5, .int (x_674)), (6, .int (x_675))] → W p l e ({ frames := 3, cells := 0, slots := 0, locals := 66 } : Room) s m ([.ref (q 0), .int (pa0)] : List Value).toArray below meth c H locs 0 0 (MQ below (va_Qv (fun u => (mInv F u ∧ u.2.2 = J)) (zB D vwCl 25 q (zMd q cA) sz) (zA 25 q sz)) ([.ref (q 0), .int (pa0)] : List Value).toArray s 0 0 (zA 25 q sz)) (F0 m 147 ls [.int (x_733), .ref (q 0)]) := by
                  intro x_733 H locs hP hD hS ls hl
                  refine z_putI hx hb ht hown hK hP hD hS ziX11 tyX11 tyX11_ok nmX11 rfl 0 (by decide) 37 (by decide) hw_5_224 rfl (v := x_733) rfl rfl rfl (Nat.le_of_ble_eq_true rfl) rfl dX11_layFalse_147 (fun H locs hP hD hS => ?_)
                  have hI_735 := mInv_I hI_563 0 37 (x_733) (zR_any (x_733)) rfl
                  refine lv_aload_n hx hb dX11_layFalse_150 rfl (lv_at hl 0 rfl) ?_
                  refine lv_dup hx hb dX11_layFalse_151 rfl ?_
                  refine z_get hx hb ht hown hK hP ziX11 rfl 0 (by decide) 36 (by decide) hw_5_223 rfl (v := .int (I_563 0 36)) rfl dX11_layFalse_152 ?_
                  refine lv_iconst (v := nI 1) hx hb dX11_layFalse_155 (by decide +kernel) ?_
                  refine lv_iadd hx hb dX11_layFalse_156 ?_
                  refine z_any (fun v_736 => ?_)
                  refine z_putI hx hb ht hown hK hP hD hS ziX11 tyX11 tyX11_ok nmX11 rfl 0 (by decide) 36 (by decide) hw_5_223 rfl (v := v_736) rfl rfl rfl (Nat.le_of_ble_eq_true rfl) rfl dX11_layFalse_157 (fun H locs hP hD hS => ?_)
                  have hI_737 := mInv_I hI_735 0 36 (v_736) (zR_any (v_736)) rfl
                  refine lv_aload_n hx hb dX11_layFalse_160 rfl (lv_at hl 0 rfl) ?_
                  refine lv_dup hx hb dX11_layFalse_161 rfl ?_
                  refine z_get hx hb ht hown hK hP ziX11 rfl 0 (by decide) 38 (by decide) hw_5_225 rfl (v := .int (I_563 0 38)) rfl dX11_layFalse_162 ?_
                  refine lv_iload hx hb dX11_layFalse_165 (lv_at hl 5 rfl) ?_
                  have t_751 : ∀ x_750 : Int32, zR 0 1 x_750 → ∀ (H : Heap) (locs : List Loc), va_P D vwCl (zw 25 q (zMd q cA) (zp (zp I_563 0 37 (x_733)) 0 36 (v_736)) R J) H → va_D (zA 25 q sz) (zw 25 q (zMd q cA) (zp (zp I_563 0 37 (x_733)) 0 36 (v_736)) R J) → va_S (zA 25 q sz) s.heap H locs → ∀ ls : Array Slot, lv_has ls 7 [(0, .ref (q 0)), (1, .int (pa0)), (2, .int (x_561)), (3, .int (x_562)), (4, .int (x_673)), (5, .int (x_674)), (6, .int (x_675))] → W p l e ({ frames := 3, cells := 0, slots := 0, locals := 66 } : Room) s m ([.ref (q 0), .int (pa0)] : List Value).toArray below meth c H locs 0 0 (MQ below (va_Qv (fun u => (mInv F u ∧ u.2.2 = J)) (zB D vwCl 25 q (zMd q cA) sz) (zA 25 q sz)) ([.ref (q 0), .int (pa0)] : List Value).toArray s 0 0 (zA 25 q sz)) (F0 m 201 ls [.int (x_750), .int (I_563 0 38), .ref (q 0)]) := by
                    intro x_750 hx_750 H locs hP hD hS ls hl
                    refine lv_iadd hx hb dX11_layFalse_201 ?_
                    refine z_any (fun v_752 => ?_)
                    refine z_putI hx hb ht hown hK hP hD hS ziX11 tyX11 tyX11_ok nmX11 rfl 0 (by decide) 38 (by decide) hw_5_225 rfl (v := v_752) rfl rfl rfl (Nat.le_of_ble_eq_true rfl) rfl dX11_layFalse_202 (fun H locs hP hD hS => ?_)
                    have hI_753 := mInv_I hI_737 0 38 (v_752) (zR_any (v_752)) rfl
                    exact t_727 (x_561) hx_561 _ hI_753 _ _ hP hD hS _ (lv_sub hl [0, 1, 2, 3, 4, 5, 6] rfl)
                  refine lv_if_eq (tgt := 200) hx hb dX11_layFalse_167 (by decide) (fun c_738 => ?_) (fun c_738 => ?_)
                  · have t_c_738 := z_eqT c_738
                    have f_754 : zR 0 0 (x_674) := zR_eqx t_c_738 zk_z
                    refine lv_iconst (v := nI 0) hx hb dX11_layFalse_200 (by decide +kernel) ?_
                    exact t_751 (nI 0) (zR_w zk_0 (by decide)) _ _ hP hD hS _ (lv_sub hl [0, 1, 2, 3, 4, 5, 6] rfl)
                  · have t_c_738 := z_eqF c_738
                    have f_755 : zR 1 1 (x_674) := zR_nex t_c_738 hx_674 zk_z (by decide)
                    refine lv_aload_n hx hb dX11_layFalse_170 rfl (lv_at hl 0 rfl) ?_
                    refine lv_iload_n hx hb dX11_layFalse_171 rfl (lv_at hl 1 rfl) ?_
                    refine lv_iload_n hx hb dX11_layFalse_172 rfl (lv_at hl 3 rfl) ?_
                    refine lv_iconst (v := nI 2) hx hb dX11_layFalse_173 (by decide +kernel) ?_
                    refine lv_iadd hx hb dX11_layFalse_174 ?_
                    refine z_addc 2 58 f_572 zk_2 (by decide) (fun v_756 hv_756 mv_756 => ?_)
                    refine z_callVl (k := 0) (As := [.int (pa0), .int (v_756)]) (rest := [.int (I_563 0 38), .ref (q 0)]) hx hb hml hown ht (mk_X11_numberAt l D q cA F _ _ _ hI_737 (pa0) hpa0 (v_756) (zR_w hv_756 (by decide))) hw_8_83 hmX11_numberAt ⟨rfl, rfl⟩ (na := 2) rfl (by decide +kernel) (by decide) (by decide) rfl rfl hK hP hD hS hA hl.1 rfl (Nat.le_of_ble_eq_true rfl) ⟨Nat.zero_le _, Nat.zero_le _⟩ dX11_layFalse_175 (fun r_757 I_757 R_757 J_757 H locs hp_757 hP hD hS _ _ => ?_)
                    obtain ⟨rfl, hu_757⟩ := hp_757
                    cases hu_757
                    refine lv_aload_n hx hb dX11_layFalse_178 rfl (lv_at hl 0 rfl) ?_
                    refine lv_aload_n hx hb dX11_layFalse_179 rfl (lv_at hl 0 rfl) ?_
                    refine lv_iload_n hx hb dX11_layFalse_180 rfl (lv_at hl 1 rfl) ?_
                    refine lv_iload_n hx hb dX11_layFalse_181 rfl (lv_at hl 3 rfl) ?_
                    refine lv_iconst (v := nI 1) hx hb dX11_layFalse_182 (by decide +kernel) ?_
                    refine lv_iadd hx hb dX11_layFalse_183 ?_
                    refine z_addc 1 57 f_572 zk_1 (by decide) (fun v_758 hv_758 mv_758 => ?_)
                    refine z_callVl (k := 0) (As := [.int (pa0), .int (v_758)]) (rest := [.ref (q 0), .long (mNum (J 23) (pa0) (v_756)), .int (I_563 0 38), .ref (q 0)]) hx hb hml hown ht (mk_X11_numberAt l D q cA F _ _ _ hI_737 (pa0) hpa0 (v_758) (zR_w hv_758 (by decide))) hw_8_83 hmX11_numberAt ⟨rfl, rfl⟩ (na := 2) rfl (by decide +kernel) (by decide) (by decide) rfl rfl hK hP hD hS hA hl.1 rfl (Nat.le_of_ble_eq_true rfl) ⟨Nat.zero_le _, Nat.zero_le _⟩ dX11_layFalse_184 (fun r_759 I_759 R_759 J_759 H locs hp_759 hP hD hS _ _ => ?_)
                    obtain ⟨rfl, hu_759⟩ := hp_759
                    cases hu_759
                    have f_760 : zL 0 5 (mNum (J 23) (pa0) (v_758)) := mSound_at hs hx_564 mv_758 t_c_569 (mFr hI 21 rfl)
                    refine lv_l2i hx hb dX11_layFalse_187 rfl ?_
                    refine z_rng (a := 0) (b := 5) (zL_l2i f_760 (by decide)) (fun v_761 hv_761 => ?_)
                    refine z_callVi (k := 0) (As := [.int (v_761)]) (rest := [.long (mNum (J 23) (pa0) (v_756)), .int (I_563 0 38), .ref (q 0)]) hx hb hml hown ht (mk_X11_worthOf l D q cA F _ _ _ hI_737 (v_761) hv_761) hw_6_210 hmX11_worthOf ⟨rfl, rfl⟩ (na := 1) rfl (by decide +kernel) (by decide) (by decide) rfl rfl hK hP hD hS hA hl.1 rfl (Nat.le_of_ble_eq_true rfl) ⟨Nat.zero_le _, Nat.zero_le _⟩ dX11_layFalse_188 (fun r_762 I_762 R_762 J_762 H locs hp_762 hP hD hS _ _ => ?_)
                    cases hp_762
                    refine lv_i2l (v := (r_762).toInt64) hx hb dX11_layFalse_191 rfl ?_
                    refine W.lcmp hx hb dX11_layFalse_192 ?_
                    refine lv_if_eq (tgt := 200) hx hb dX11_layFalse_193 (by decide) (fun c_763 => ?_) (fun c_763 => ?_)
                    · have t_c_763 := z_leqT ((lg_cmp_eq _ _).mp c_763)
                      have f_764 : zL (-2147483648) 2147483647 (mNum (J 23) (pa0) (v_756)) := zL_eqx t_c_763 (zR_i2l (zR_any (r_762)))
                      refine lv_iconst (v := nI 0) hx hb dX11_layFalse_200 (by decide +kernel) ?_
                      exact t_751 (nI 0) (zR_w zk_0 (by decide)) _ _ hP hD hS _ (lv_sub hl [0, 1, 2, 3, 4, 5, 6] rfl)
                    · have t_c_763 := z_leqF (fun h => c_763 ((lg_cmp_eq _ _).mpr h))
                      refine lv_iconst (v := nI 1) hx hb dX11_layFalse_196 (by decide +kernel) ?_
                      refine lv_goto (tgt := 201) hx hb dX11_layFalse_197 (by decide) ?_
                      exact t_751 (nI 1) (zR_w zk_1 (by decide)) _ _ hP hD hS _ (lv_sub hl [0, 1, 2, 3, 4, 5, 6] rfl)
                refine lv_if_ne (tgt := 143) hx hb dX11_layFalse_134 (by decide) (fun c_730 => ?_) (fun c_730 => ?_)
                · have t_c_730 := z_eqF c_730
                  refine lv_aload_n hx hb dX11_layFalse_143 rfl (lv_at hl 0 rfl) ?_
                  refine z_get hx hb ht hown hK hP ziX11 rfl 0 (by decide) 37 (by decide) hw_5_224 rfl (v := .int (I_563 0 37)) rfl dX11_layFalse_144 ?_
                  exact t_734 (I_563 0 37) _ _ hP hD hS _ (lv_sub hl [0, 1, 2, 3, 4, 5, 6] rfl)
                · have t_c_730 := z_eqT c_730
                  have f_765 : zR 0 0 (I_563 0 36) := zR_eqx t_c_730 zk_z
                  refine lv_iload_n hx hb dX11_layFalse_137 rfl (lv_at hl 3 rfl) ?_
                  refine lv_iconst (v := nI 4) hx hb dX11_layFalse_138 (by decide +kernel) ?_
                  refine lv_idiv hx hb dX11_layFalse_139 (by decide +kernel) ?_
                  refine z_rng (a := 0) (b := 14) (zR_divc f_572 zk_4 (by decide)) (fun v_766 hv_766 => ?_)
                  refine lv_goto (tgt := 147) hx hb dX11_layFalse_140 (by decide) ?_
                  exact t_734 (v_766) _ _ hP hD hS _ (lv_sub hl [0, 1, 2, 3, 4, 5, 6] rfl)
              · have t_c_698 := z_eqF c_698
                have f_767 : zR 0 23 (x_673) := zR_nex t_c_698 hx_673 zk_m1 (by decide)
                refine lv_iload_n hx hb dX11_layFalse_119 rfl (lv_at hl 2 rfl) ?_
                refine lv_iconst (v := nI 1) hx hb dX11_layFalse_120 (by decide +kernel) ?_
                refine lv_iload hx hb dX11_layFalse_121 (lv_at hl 4 rfl) ?_
                refine lv_ishl hx hb dX11_layFalse_123 ?_
                refine z_rng (a := 1) (b := 8388608) (zR_shl1 23 f_767 (by decide)) (fun v_768 hv_768 => ?_)
                refine lv_ior hx hb dX11_layFalse_124 ?_
                refine z_rng (a := 0) (b := 16777215) (zR_or 24 hx_561 hv_768 (by decide)) (fun v_769 hv_769 => ?_)
                refine lv_istore_n (lv' := [(2, .int (v_769)), (0, .ref (q 0)), (1, .int (pa0)), (3, .int (x_562)), (4, .int (x_673)), (5, .int (x_674)), (6, .int (x_675))]) hx hb dX11_layFalse_125 rfl hl (by decide) rfl (fun ls hl => ?_)
                refine lv_goto (tgt := 205) hx hb dX11_layFalse_126 (by decide) ?_
                exact t_727 (v_769) hv_769 _ hI_563 _ _ hP hD hS _ (lv_sub hl [1, 2, 0, 3, 4, 5, 6] rfl)
            · have t_c_680 := z_leF c_680
              have f_770 : zR 0 23 (x_675) := zR_ltx t_c_680 hx_675 f_679 (by decide)
              have f_771 : zR 1 24 (I_563 0 26) := zR_lty t_c_680 hx_675 f_679 (by decide)
              refine lv_iload hx hb dX11_layFalse_47 (lv_at hl 4 rfl) ?_
              refine lv_iconst (v := (-1)) hx hb dX11_layFalse_49 (by decide +kernel) ?_
              have t_781 : ∀ x_780 : Int32, zR (-1) 23 x_780 → ∀ (H : Heap) (locs : List Loc), va_P D vwCl (zw 25 q (zMd q cA) I_563 R J) H → va_D (zA 25 q sz) (zw 25 q (zMd q cA) I_563 R J) → va_S (zA 25 q sz) s.heap H locs → ∀ ls : Array Slot, lv_has ls 7 [(0, .ref (q 0)), (1, .int (pa0)), (2, .int (x_561)), (3, .int (x_562)), (4, .int (x_673)), (5, .int (x_674)), (6, .int (x_675))] → W p l e ({ frames := 3, cells := 0, slots := 0, locals := 66 } : Room) s m ([.ref (q 0), .int (pa0)] : List Value).toArray below meth c H locs 0 0 (MQ below (va_Qv (fun u => (mInv F u ∧ u.2.2 = J)) (zB D vwCl 25 q (zMd q cA) sz) (zA 25 q sz)) ([.ref (q 0), .int (pa0)] : List Value).toArray s 0 0 (zA 25 q sz)) (F0 m 81 ls [.int (x_780)]) := by
                intro x_780 hx_780 H locs hP hD hS ls hl
                refine lv_istore (lv' := [(4, .int (x_780)), (0, .ref (q 0)), (1, .int (pa0)), (2, .int (x_561)), (3, .int (x_562)), (5, .int (x_674)), (6, .int (x_675))]) hx hb dX11_layFalse_81 hl (by decide) rfl (fun ls hl => ?_)
                refine lv_iload hx hb dX11_layFalse_83 (lv_at hl 5 rfl) ?_
                have t_787 : ∀ x_786 : Int32, zR 0 1 x_786 → ∀ (H : Heap) (locs : List Loc), va_P D vwCl (zw 25 q (zMd q cA) I_563 R J) H → va_D (zA 25 q sz) (zw 25 q (zMd q cA) I_563 R J) → va_S (zA 25 q sz) s.heap H locs → ∀ ls : Array Slot, lv_has ls 7 [(0, .ref (q 0)), (1, .int (pa0)), (2, .int (x_561)), (3, .int (x_562)), (4, .int (x_780)), (5, .int (x_674)), (6, .int (x_675))] → W p l e ({ frames := 3, cells := 0, slots := 0, locals := 66 } : Room) s m ([.ref (q 0), .int (pa0)] : List Value).toArray below meth c H locs 0 0 (MQ below (va_Qv (fun u => (mInv F u ∧ u.2.2 = J)) (zB D vwCl 25 q (zMd q cA) sz) (zA 25 q sz)) ([.ref (q 0), .int (pa0)] : List Value).toArray s 0 0 (zA 25 q sz)) (F0 m 105 ls [.int (x_786)]) := by
                  intro x_786 hx_786 H locs hP hD hS ls hl
                  refine lv_istore (lv' := [(5, .int (x_786)), (0, .ref (q 0)), (1, .int (pa0)), (2, .int (x_561)), (3, .int (x_562)), (4, .int (x_780)), (6, .int (x_675))]) hx hb dX11_layFalse_105 hl (by decide) rfl (fun ls hl => ?_)
                  obtain ⟨v_788, ev_788⟩ : ∃ y : Int32, y = x_675 + nI 1 := ⟨_, rfl⟩
                  have hv_788 : zR 1 24 v_788 := ev_788 ▸ zR_add f_770 zk_1 (by decide)
                  have mv_788 : v_788.toInt = (x_675).toInt + 1 := by rw [ev_788, zR_addE f_770 zk_1 (by decide)]; rfl
                  refine lv_iinc (v := v_788) (lv' := [(6, .int (v_788)), (5, .int (x_786)), (0, .ref (q 0)), (1, .int (pa0)), (2, .int (x_561)), (3, .int (x_562)), (4, .int (x_780))]) hx hb dX11_layFalse_107 hl (k := 6) rfl (ev_788 ▸ rfl) (by decide) rfl (fun ls hl => ?_)
                  refine lv_goto (tgt := 38) hx hb dX11_layFalse_110 (by decide) ?_
                  exact ih_678 (x_780) hx_780 (x_786) hx_786 (v_788) (zR_w hv_788 (by decide)) (z2_up mv_788 (by decide) hN_677) _ _ hP hD hS _ (lv_sub hl [2, 3, 4, 5, 6, 1, 0] rfl)
                refine lv_if_ne (tgt := 100) hx hb dX11_layFalse_85 (by decide) (fun c_782 => ?_) (fun c_782 => ?_)
                · have t_c_782 := z_eqF c_782
                  have f_789 : zR 1 1 (x_674) := zR_nex t_c_782 hx_674 zk_z (by decide)
                  refine lv_iconst (v := nI 1) hx hb dX11_layFalse_100 (by decide +kernel) ?_
                  refine lv_goto (tgt := 105) hx hb dX11_layFalse_101 (by decide) ?_
                  exact t_787 (nI 1) (zR_w zk_1 (by decide)) _ _ hP hD hS _ (lv_sub hl [1, 2, 3, 4, 0, 5, 6] rfl)
                · have t_c_782 := z_eqT c_782
                  have f_790 : zR 0 0 (x_674) := zR_eqx t_c_782 zk_z
                  refine lv_aload_n hx hb dX11_layFalse_88 rfl (lv_at hl 1 rfl) ?_
                  refine lv_iload_n hx hb dX11_layFalse_89 rfl (lv_at hl 2 rfl) ?_
                  refine lv_iload_n hx hb dX11_layFalse_90 rfl (lv_at hl 4 rfl) ?_
                  refine lv_iload hx hb dX11_layFalse_91 (lv_at hl 6 rfl) ?_
                  refine lv_iconst (v := nI 0) hx hb dX11_layFalse_93 (by decide +kernel) ?_
                  refine z_callVi (k := 0) (As := [.int (pa0), .int (x_562), .int (x_675), .int (nI 0)]) (rest := []) hx hb hml hown ht (mk_X11_fitsRow_3 l D q cA F _ _ _ hI_563 (pa0) hpa0 (x_562) f_572 (x_675) f_770 (nI 0) (zR_w zk_0 (by decide))) hw_8_92 hmX11_fitsRow ⟨rfl, rfl⟩ (na := 4) rfl (by decide +kernel) (by decide) (by decide) rfl rfl hK hP hD hS hA hl.1 rfl (Nat.le_of_ble_eq_true rfl) ⟨Nat.zero_le _, Nat.zero_le _⟩ dX11_layFalse_94 (fun r_791 I_791 R_791 J_791 H locs hp_791 hP hD hS _ _ => ?_)
                  rcases hp_791 with ⟨rfl, hu_791⟩ | ⟨rfl, hu_791⟩
                  · cases hu_791
                    refine lv_if_eq (tgt := 104) hx hb dX11_layFalse_97 (by decide) (fun c_0 => absurd c_0 (zD_ne zk_1 zk_z (by decide))) (fun _ => ?_)
                    refine lv_iconst (v := nI 1) hx hb dX11_layFalse_100 (by decide +kernel) ?_
                    refine lv_goto (tgt := 105) hx hb dX11_layFalse_101 (by decide) ?_
                    exact t_787 (nI 1) (zR_w zk_1 (by decide)) _ _ hP hD hS _ (lv_sub hl [1, 2, 3, 4, 0, 5, 6] rfl)
                  · cases hu_791
                    refine lv_if_eq (tgt := 104) hx hb dX11_layFalse_97 (by decide) (fun _ => ?_) (fun c_0 => absurd (zD_eq zk_0 zk_z) c_0)
                    refine lv_iconst (v := nI 0) hx hb dX11_layFalse_104 (by decide +kernel) ?_
                    exact t_787 (nI 0) (zR_w zk_0 (by decide)) _ _ hP hD hS _ (lv_sub hl [1, 2, 3, 4, 0, 5, 6] rfl)
              refine lv_icmp_ne (tgt := 79) hx hb dX11_layFalse_50 (by decide) (fun c_772 => ?_) (fun c_772 => ?_)
              · have t_c_772 := z_eqF c_772
                have f_792 : zR 0 23 (x_673) := zR_nex t_c_772 hx_673 zk_m1 (by decide)
                refine lv_iload hx hb dX11_layFalse_79 (lv_at hl 4 rfl) ?_
                exact t_781 (x_673) (zR_w f_792 (by decide)) _ _ hP hD hS _ (lv_sub hl [0, 1, 2, 3, 4, 5, 6] rfl)
              · have t_c_772 := z_eqT c_772
                have f_793 : zR (-1) (-1) (x_673) := zR_eqx t_c_772 zk_m1
                refine lv_iload_n hx hb dX11_layFalse_53 rfl (lv_at hl 2 rfl) ?_
                refine lv_iload hx hb dX11_layFalse_54 (lv_at hl 6 rfl) ?_
                refine z_callSi (As := [.int (x_561), .int (x_675)]) (rest := []) hx hb hml hown ht (mk_X11_bit_1 l D q cA F _ _ _ hI_563 (x_561) (x_675) f_770) hw_7_220 hmX11_bit ⟨rfl, rfl⟩ (na := 2) rfl (by decide +kernel) (by decide) hK hP hD hS hA hl.1 rfl (Nat.le_of_ble_eq_true rfl) ⟨Nat.zero_le _, Nat.zero_le _⟩ dX11_layFalse_56 (fun r_794 I_794 R_794 J_794 H locs hp_794 hP hD hS _ _ => ?_)
                obtain ⟨hr_794, hu_794⟩ := hp_794
                cases hu_794
                refine lv_if_ne (tgt := 79) hx hb dX11_layFalse_59 (by decide) (fun c_795 => ?_) (fun c_795 => ?_)
                · have t_c_795 := z_eqF c_795
                  have f_796 : zR 1 1 (r_794) := zR_nex t_c_795 hr_794 zk_z (by decide)
                  refine lv_iload hx hb dX11_layFalse_79 (lv_at hl 4 rfl) ?_
                  exact t_781 (x_673) (zR_w f_793 (by decide)) _ _ hP hD hS _ (lv_sub hl [0, 1, 2, 3, 4, 5, 6] rfl)
                · have t_c_795 := z_eqT c_795
                  have f_797 : zR 0 0 (r_794) := zR_eqx t_c_795 zk_z
                  refine lv_aload_n hx hb dX11_layFalse_62 rfl (lv_at hl 0 rfl) ?_
                  refine lv_iload_n hx hb dX11_layFalse_63 rfl (lv_at hl 1 rfl) ?_
                  refine lv_iload_n hx hb dX11_layFalse_64 rfl (lv_at hl 3 rfl) ?_
                  refine lv_iload hx hb dX11_layFalse_65 (lv_at hl 6 rfl) ?_
                  refine lv_iconst (v := nI 1) hx hb dX11_layFalse_67 (by decide +kernel) ?_
                  refine z_callVi (k := 0) (As := [.int (pa0), .int (x_562), .int (x_675), .int (nI 1)]) (rest := []) hx hb hml hown ht (mk_X11_fitsRow_3 l D q cA F _ _ _ hI_563 (pa0) hpa0 (x_562) f_572 (x_675) f_770 (nI 1) (zR_w zk_1 (by decide))) hw_8_92 hmX11_fitsRow ⟨rfl, rfl⟩ (na := 4) rfl (by decide +kernel) (by decide) (by decide) rfl rfl hK hP hD hS hA hl.1 rfl (Nat.le_of_ble_eq_true rfl) ⟨Nat.zero_le _, Nat.zero_le _⟩ dX11_layFalse_68 (fun r_798 I_798 R_798 J_798 H locs hp_798 hP hD hS _ _ => ?_)
                  rcases hp_798 with ⟨rfl, hu_798⟩ | ⟨rfl, hu_798⟩
                  · cases hu_798
                    refine lv_if_eq (tgt := 79) hx hb dX11_layFalse_71 (by decide) (fun c_0 => absurd c_0 (zD_ne zk_1 zk_z (by decide))) (fun _ => ?_)
                    refine lv_iload hx hb dX11_layFalse_74 (lv_at hl 6 rfl) ?_
                    refine lv_goto (tgt := 81) hx hb dX11_layFalse_76 (by decide) ?_
                    exact t_781 (x_675) (zR_w f_770 (by decide)) _ _ hP hD hS _ (lv_sub hl [0, 1, 2, 3, 4, 5, 6] rfl)
                  · cases hu_798
                    refine lv_if_eq (tgt := 79) hx hb dX11_layFalse_71 (by decide) (fun _ => ?_) (fun c_0 => absurd (zD_eq zk_0 zk_z) c_0)
                    refine lv_iload hx hb dX11_layFalse_79 (lv_at hl 4 rfl) ?_
                    exact t_781 (x_673) (zR_w f_793 (by decide)) _ _ hP hD hS _ (lv_sub hl [0, 1, 2, 3, 4, 5, 6] rfl)
        exact loop_676 _ ((-1)) (zR_w zk_m1 (by decide)) (nI 0) (zR_w zk_0 (by decide)) (nI 0) (zR_w zk_0 (by decide)) (Nat.lt_succ_self _) _ _ hP hD hS _ (lv_sub hl [3, 4, 5, 6, 2, 1, 0] rfl)
  exact loop_565 _ (nI 0) (zR_w zk_0 (by decide)) (nI 0) (zR_w zk_0 (by decide)) _ hI_3 xFour_0 (Nat.lt_succ_self _) _ _ hP hD hS _ (lv_sub hl [2, 3, 1, 0] rfl)
