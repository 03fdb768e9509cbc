set_option maxHeartbeats 4000000 in
set_option maxRecDepth 100000 in
theorem mk_X11_errs (l : Launch) (D : va_G) (q : Nat → Nat) (cA : Nat → ClassId) (F : Nat → Nat → Int32) (I R : Nat → Nat → Int32) (J : Nat → Nat → Int64) (hI : mInv F (I, R, J))  : zMv l D vwCl (zMtys cA) 25 q (zMd q cA) yX11_errs cX11_errs 2 none ({ frames := 1, cells := 0, slots := 0, locals := 20 } : Room) [.ref (q 0), .int (nI 1)] (I, R, J) (fun u => (mInv F u ∧ (∀ k, k ≠ 0 → u.1 k = I k) ∧ u.2 = (R, J)) ∧ zR 1 3 (u.1 0 12)) := by
  intro sz
  refine z_body (by decide +kernel) (Nat.le_of_ble_eq_true rfl) (fun p e s m below meth c ls hx hb hml hr ht hown hlocks hsz hK hP hD hS hl => ?_)
  have hA : ∀ a, s.heap.size ≤ a → zA 25 q sz a := fun a h => Or.inr (hsz ▸ h)
  have hl : lv_has ls 2 [(0, .ref (q 0)), (1, .int (nI 1))] := hl
  refine lv_aload_n hx hb dX11_errs_0 rfl (lv_at hl 0 rfl) ?_
  refine z_callVi (k := 0) (As := []) (rest := []) hx hb hml hown ht (mk_X11_good l D q cA F _ _ _ hI ) hw_6_123 hmX11_good ⟨rfl, rfl⟩ (na := 0) rfl (by decide +kernel) (by decide) (by decide) rfl rfl hK hP hD hS hA hl.1 rfl (Nat.le_of_ble_eq_true rfl) ⟨Nat.zero_le _, Nat.zero_le _⟩ dX11_errs_1 (fun r_1 I_1 R_1 J_1 H locs hp_1 hP hD hS _ _ => ?_)
  rcases hp_1 with ⟨rfl, hu_1, nn_1⟩ | ⟨rfl, hu_1, nn_1⟩
  · cases hu_1
    refine lv_if_ne (tgt := 8) hx hb dX11_errs_4 (by decide) (fun _ => ?_) (fun c_0 => absurd c_0 (zD_ne zk_1 zk_z (by decide)))
    refine lv_aload_n hx hb dX11_errs_8 rfl (lv_at hl 0 rfl) ?_
    refine lv_iload_n hx hb dX11_errs_9 rfl (lv_at hl 1 rfl) ?_
    refine z_putI hx hb ht hown hK hP hD hS ziX11 tyX11 tyX11_ok nmX11 rfl 0 (by decide) 12 (by decide) hw_5_199 rfl (v := nI 1) rfl rfl rfl (Nat.le_of_ble_eq_true rfl) rfl dX11_errs_10 (fun H locs hP hD hS => ?_)
    have hI_2 := mInv_I hI 0 12 (nI 1) (zR_w zk_1 (by decide)) rfl
    have hf_3 : ∀ k, k ≠ 0 → (zp I 0 12 (nI 1)) k = I k := fun k h => (zp_nk h).trans ((fun (_ : Nat) _ => rfl) k h)
    refine lv_aload_n hx hb dX11_errs_13 rfl (lv_at hl 0 rfl) ?_
    refine lv_aload_n hx hb dX11_errs_14 rfl (lv_at hl 0 rfl) ?_
    refine z_get hx hb ht hown hK hP ziX11 rfl 0 (by decide) 9 (by decide) hw_5_196 rfl (v := .int (I 0 9)) rfl dX11_errs_15 ?_
    have f_4 : zR 0 800 (I 0 9) := mI hI 0 9
    refine z_putI hx hb ht hown hK hP hD hS ziX11 tyX11 tyX11_ok nmX11 rfl 0 (by decide) 13 (by decide) hw_5_200 rfl (v := I 0 9) rfl rfl rfl (Nat.le_of_ble_eq_true rfl) rfl dX11_errs_18 (fun H locs hP hD hS => ?_)
    have hI_5 := mInv_I hI_2 0 13 (I 0 9) (zR_any (I 0 9)) rfl
    have hf_6 : ∀ k, k ≠ 0 → (zp (zp I 0 12 (nI 1)) 0 13 (I 0 9)) k = I k := fun k h => (zp_nk h).trans (hf_3 k h)
    exact z_vret hx hb hr hlocks hP hD hS dX11_errs_21 ⟨⟨hI_5, hf_6, rfl⟩, (zR_w zk_1 (by decide))⟩
  · cases hu_1
    refine lv_if_ne (tgt := 8) hx hb dX11_errs_4 (by decide) (fun c_0 => absurd (zD_eq zk_0 zk_z) c_0) (fun _ => ?_)
    exact z_vret hx hb hr hlocks hP hD hS dX11_errs_7 ⟨⟨hI, (fun (_ : Nat) _ => rfl), rfl⟩, nn_1⟩
set_option maxHeartbeats 4000000 in
set_option maxRecDepth 100000 in
theorem mk_X11_needs (l : Launch) (D : va_G) (q : Nat → Nat) (cA : Nat → ClassId) (ad av : Nat → Nat) (t9 : Nat) (F : Nat → Nat → Int32) (I R : Nat → Nat → Int32) (J : Nat → Nat → Int64) (hI : mInv F (I, R, J))  : zNv (zSS zMRs 25 q ad av t9) l D vwCl (zMtys cA) 25 q (zMd q cA) yX11_needs cX11_needs 2 none ({ frames := 6, cells := 0, slots := 0, locals := 130 } : Room) [.ref (q 0), .ref (ad 5)] (I, R, J) (fun u => (mInv F u ∧ (∀ k, k ≠ 0 → u.1 k = I k) ∧ u.2 = (R, J)) ∧ mTr I u.1) := by
  intro sz
  refine z_bodyN (by decide +kernel) (Nat.le_of_ble_eq_true rfl) (fun p e s m below meth c ls hx hb hml hr ht hown hlocks hsz hK hP hD hS hN hl => ?_)
  have hA : ∀ a, s.heap.size ≤ a → zA 25 q sz a := fun a h => Or.inr (hsz ▸ h)
  have hl : lv_has ls 2 [(0, .ref (q 0)), (1, .ref (ad 5))] := hl
  have hZ : zSz zMRs 25 q ad av t9 sz s := hsz ▸ hN
  refine lv_aload_n hx hb dX11_needs_0 rfl (lv_at hl 0 rfl) ?_
  refine lv_aload_n hx hb dX11_needs_1 rfl (lv_at hl 1 rfl) ?_
  refine z_cNVi (k := 0) (As := [.ref (ad 5)]) (rest := []) hx hb hml hown ht (mk_X11_takes_1 l D q cA ad av t9 F _ _ _ hI ) hw_6_136 hmX11_takes ⟨rfl, rfl⟩ (na := 1) rfl (by decide +kernel) (by decide) (by decide) rfl rfl hK hP hD hS hA (zSS_c (Rs := zMRs) (t9 := t9) (fun _ _ _ => zMRs_c)) (zSS_w (Rs := zMRs) (t9 := t9) (fun _ _ _ => zMRs_w) hN hsz hS) hl.1 rfl (Nat.le_of_ble_eq_true rfl) ⟨Nat.zero_le _, Nat.zero_le _⟩ dX11_needs_2 (fun r_1 I_1 R_1 J_1 H locs hp_1 hP hD hS _ _ => ?_)
  rcases hp_1 with ⟨rfl, hu_1, nn_1⟩ | ⟨rfl, hu_1, nn_1⟩
  · obtain ⟨hq_1, he_1⟩ := hu_1
    try dsimp only at he_1
    obtain ⟨hv_1, hk_1, hj_1⟩ := hq_1
    try dsimp only at hj_1 hk_1
    cases hj_1
    have hf_2 : ∀ k, k ≠ 0 → I_1 k = I k := fun k h => (hk_1 k h).trans ((fun (_ : Nat) _ => rfl) k h)
    refine lv_if_ne (tgt := 13) hx hb dX11_needs_5 (by decide) (fun _ => ?_) (fun c_0 => absurd c_0 (zD_ne zk_1 zk_z (by decide)))
    exact z_vret hx hb hr hlocks hP hD hS dX11_needs_13 ⟨⟨hv_1, hf_2, rfl⟩, he_1⟩
  · cases hu_1
    refine lv_if_ne (tgt := 13) hx hb dX11_needs_5 (by decide) (fun c_0 => absurd (zD_eq zk_0 zk_z) c_0) (fun _ => ?_)
    refine lv_aload_n hx hb dX11_needs_8 rfl (lv_at hl 0 rfl) ?_
    refine lv_iconst (v := nI 1) hx hb dX11_needs_9 (by decide +kernel) ?_
    refine z_callVv (k := 0) (As := [.int (nI 1)]) (rest := []) hx hb hml hown ht (mk_X11_errs l D q cA F _ _ _ hI ) hw_6_146 hmX11_errs ⟨rfl, rfl⟩ (na := 1) rfl (by decide +kernel) (by decide) (by decide) rfl rfl hK hP hD hS hA hl.1 rfl (Nat.le_of_ble_eq_true rfl) ⟨Nat.zero_le _, Nat.zero_le _⟩ dX11_needs_10 (fun I_3 R_3 J_3 H locs hp_3 hP hD hS _ _ => ?_)
    obtain ⟨hq_3, he_3⟩ := hp_3
    obtain ⟨hv_3, hk_3, hj_3⟩ := hq_3
    try dsimp only at hj_3 hk_3
    cases hj_3
    have hf_4 : ∀ k, k ≠ 0 → I_3 k = I k := fun k h => (hk_3 k h).trans ((fun (_ : Nat) _ => rfl) k h)
    exact z_vret hx hb hr hlocks hP hD hS dX11_needs_13 ⟨⟨hv_3, hf_4, rfl⟩, (mTr_f he_3)⟩
set_option maxHeartbeats 4000000 in
set_option maxRecDepth 100000 in
theorem mk_X11_errs_1 (l : Launch) (D : va_G) (q : Nat → Nat) (cA : Nat → ClassId) (F : Nat → Nat → Int32) (I R : Nat → Nat → Int32) (J : Nat → Nat → Int64) (hI : mInv F (I, R, J))  : zMv l D vwCl (zMtys cA) 25 q (zMd q cA) yX11_errs cX11_errs 2 none ({ frames := 1, cells := 0, slots := 0, locals := 20 } : Room) [.ref (q 0), .int (nI 2)] (I, R, J) (fun u => (mInv F u ∧ (∀ k, k ≠ 0 → u.1 k = I k) ∧ u.2 = (R, J)) ∧ zR 1 3 (u.1 0 12)) := by
  intro sz
  refine z_body (by decide +kernel) (Nat.le_of_ble_eq_true rfl) (fun p e s m below meth c ls hx hb hml hr ht hown hlocks hsz hK hP hD hS hl => ?_)
  have hA : ∀ a, s.heap.size ≤ a → zA 25 q sz a := fun a h => Or.inr (hsz ▸ h)
  have hl : lv_has ls 2 [(0, .ref (q 0)), (1, .int (nI 2))] := hl
  refine lv_aload_n hx hb dX11_errs_0 rfl (lv_at hl 0 rfl) ?_
  refine z_callVi (k := 0) (As := []) (rest := []) hx hb hml hown ht (mk_X11_good l D q cA F _ _ _ hI ) hw_6_123 hmX11_good ⟨rfl, rfl⟩ (na := 0) rfl (by decide +kernel) (by decide) (by decide) rfl rfl hK hP hD hS hA hl.1 rfl (Nat.le_of_ble_eq_true rfl) ⟨Nat.zero_le _, Nat.zero_le _⟩ dX11_errs_1 (fun r_1 I_1 R_1 J_1 H locs hp_1 hP hD hS _ _ => ?_)
  rcases hp_1 with ⟨rfl, hu_1, nn_1⟩ | ⟨rfl, hu_1, nn_1⟩
  · cases hu_1
    refine lv_if_ne (tgt := 8) hx hb dX11_errs_4 (by decide) (fun _ => ?_) (fun c_0 => absurd c_0 (zD_ne zk_1 zk_z (by decide)))
    refine lv_aload_n hx hb dX11_errs_8 rfl (lv_at hl 0 rfl) ?_
    refine lv_iload_n hx hb dX11_errs_9 rfl (lv_at hl 1 rfl) ?_
    refine z_putI hx hb ht hown hK hP hD hS ziX11 tyX11 tyX11_ok nmX11 rfl 0 (by decide) 12 (by decide) hw_5_199 rfl (v := nI 2) rfl rfl rfl (Nat.le_of_ble_eq_true rfl) rfl dX11_errs_10 (fun H locs hP hD hS => ?_)
    have hI_2 := mInv_I hI 0 12 (nI 2) (zR_w zk_2 (by decide)) rfl
    have hf_3 : ∀ k, k ≠ 0 → (zp I 0 12 (nI 2)) k = I k := fun k h => (zp_nk h).trans ((fun (_ : Nat) _ => rfl) k h)
    refine lv_aload_n hx hb dX11_errs_13 rfl (lv_at hl 0 rfl) ?_
    refine lv_aload_n hx hb dX11_errs_14 rfl (lv_at hl 0 rfl) ?_
    refine z_get hx hb ht hown hK hP ziX11 rfl 0 (by decide) 9 (by decide) hw_5_196 rfl (v := .int (I 0 9)) rfl dX11_errs_15 ?_
    have f_4 : zR 0 800 (I 0 9) := mI hI 0 9
    refine z_putI hx hb ht hown hK hP hD hS ziX11 tyX11 tyX11_ok nmX11 rfl 0 (by decide) 13 (by decide) hw_5_200 rfl (v := I 0 9) rfl rfl rfl (Nat.le_of_ble_eq_true rfl) rfl dX11_errs_18 (fun H locs hP hD hS => ?_)
    have hI_5 := mInv_I hI_2 0 13 (I 0 9) (zR_any (I 0 9)) rfl
    have hf_6 : ∀ k, k ≠ 0 → (zp (zp I 0 12 (nI 2)) 0 13 (I 0 9)) k = I k := fun k h => (zp_nk h).trans (hf_3 k h)
    exact z_vret hx hb hr hlocks hP hD hS dX11_errs_21 ⟨⟨hI_5, hf_6, rfl⟩, (zR_w zk_2 (by decide))⟩
  · cases hu_1
    refine lv_if_ne (tgt := 8) hx hb dX11_errs_4 (by decide) (fun c_0 => absurd (zD_eq zk_0 zk_z) c_0) (fun _ => ?_)
    exact z_vret hx hb hr hlocks hP hD hS dX11_errs_7 ⟨⟨hI, (fun (_ : Nat) _ => rfl), rfl⟩, nn_1⟩
set_option maxHeartbeats 4000000 in
set_option maxRecDepth 100000 in
theorem mk_X11_number (l : Launch) (D : va_G) (q : Nat → Nat) (cA : Nat → ClassId) (F : Nat → Nat → Int32) (I R : Nat → Nat → Int32) (J : Nat → Nat → Int64) (hI : mInv F (I, R, J))  : zMi l D vwCl (zMtys cA) 25 q (zMd q cA) yX11_number cX11_number 4 (some .int) ({ frames := 2, cells := 0, slots := 0, locals := 85 } : Room) [.ref (q 0), .int (nI 0), .int (nI 9999)] (I, R, J) (fun r u => ((mInv F u ∧ (∀ k, k ≠ 0 → u.1 k = I k) ∧ u.2 = (R, J)) ∧ mTr I u.1) ∧ zR 0 9999 r) := by
  intro sz
  refine z_body (by decide +kernel) (Nat.le_of_ble_eq_true rfl) (fun p e s m below meth c ls hx hb hml hr ht hown hlocks hsz hK hP hD hS hl => ?_)
  have hA : ∀ a, s.heap.size ≤ a → zA 25 q sz a := fun a h => Or.inr (hsz ▸ h)
  have hl : lv_has ls 4 [(0, .ref (q 0)), (1, .int (nI 0)), (2, .int (nI 9999))] := hl
  refine lv_aload_n hx hb dX11_number_0 rfl (lv_at hl 0 rfl) ?_
  refine z_callVi (k := 0) (As := []) (rest := []) hx hb hml hown ht (mk_X11_good l D q cA F _ _ _ hI ) hw_6_123 hmX11_good ⟨rfl, rfl⟩ (na := 0) rfl (by decide +kernel) (by decide) (by decide) rfl rfl hK hP hD hS hA hl.1 rfl (Nat.le_of_ble_eq_true rfl) ⟨Nat.zero_le _, Nat.zero_le _⟩ dX11_number_1 (fun r_1 I_1 R_1 J_1 H locs hp_1 hP hD hS _ _ => ?_)
  rcases hp_1 with ⟨rfl, hu_1, nn_1⟩ | ⟨rfl, hu_1, nn_1⟩
  · cases hu_1
    refine lv_if_eq (tgt := 20) hx hb dX11_number_4 (by decide) (fun c_0 => absurd c_0 (zD_ne zk_1 zk_z (by decide))) (fun _ => ?_)
    refine lv_aload_n hx hb dX11_number_7 rfl (lv_at hl 0 rfl) ?_
    refine z_get hx hb ht hown hK hP ziX11 rfl 0 (by decide) 10 (by decide) hw_5_197 rfl (v := .int (I 0 10)) rfl dX11_number_8 ?_
    refine lv_iconst (v := nI 2) hx hb dX11_number_11 (by decide +kernel) ?_
    refine lv_icmp_eq (tgt := 20) hx hb dX11_number_12 (by decide) (fun c_2 => ?_) (fun c_2 => ?_)
    · have t_c_2 := z_eqT c_2
      have f_3 : zR 2 2 (I 0 10) := zR_eqx t_c_2 zk_2
      refine lv_aload_n hx hb dX11_number_20 rfl (lv_at hl 0 rfl) ?_
      refine z_callVi (k := 0) (As := []) (rest := []) hx hb hml hown ht (mk_X11_good l D q cA F _ _ _ hI ) hw_6_123 hmX11_good ⟨rfl, rfl⟩ (na := 0) rfl (by decide +kernel) (by decide) (by decide) rfl rfl hK hP hD hS hA hl.1 rfl (Nat.le_of_ble_eq_true rfl) ⟨Nat.zero_le _, Nat.zero_le _⟩ dX11_number_21 (fun r_4 I_4 R_4 J_4 H locs hp_4 hP hD hS _ _ => ?_)
      rcases hp_4 with ⟨rfl, hu_4, nn_4⟩ | ⟨rfl, hu_4, nn_4⟩
      · cases hu_4
        refine lv_if_eq (tgt := 47) hx hb dX11_number_24 (by decide) (fun c_0 => absurd c_0 (zD_ne zk_1 zk_z (by decide))) (fun _ => ?_)
        refine lv_aload_n hx hb dX11_number_27 rfl (lv_at hl 0 rfl) ?_
        refine z_get hx hb ht hown hK hP ziX11 rfl 0 (by decide) 11 (by decide) hw_5_198 rfl (v := .int (I 0 11)) rfl dX11_number_28 ?_
        refine lv_i2l (v := (I 0 11).toInt64) hx hb dX11_number_31 rfl ?_
        refine lv_iload_n hx hb dX11_number_32 rfl (lv_at hl 1 rfl) ?_
        refine lv_i2l (v := (0 : Int64)) hx hb dX11_number_33 (by decide +kernel) ?_
        refine lv_iload_n hx hb dX11_number_34 rfl (lv_at hl 2 rfl) ?_
        refine lv_i2l (v := (9999 : Int64)) hx hb dX11_number_35 (by decide +kernel) ?_
        refine z_callSi (As := [.long ((I 0 11).toInt64), .long ((0 : Int64)), .long ((9999 : Int64))]) (rest := []) hx hb hml hown ht (mk_X11_in l D q cA F _ _ _ hI ((I 0 11).toInt64) ((0 : Int64)) ((9999 : Int64))) hw_6_86 hmX11_in ⟨rfl, rfl⟩ (na := 3) rfl (by decide +kernel) (by decide) hK hP hD hS hA hl.1 rfl (Nat.le_of_ble_eq_true rfl) ⟨Nat.zero_le _, Nat.zero_le _⟩ dX11_number_36 (fun r_5 I_5 R_5 J_5 H locs hp_5 hP hD hS _ _ => ?_)
        rcases hp_5 with ⟨rfl, hu_5, h1_5, h2_5⟩ | ⟨rfl, hu_5, h1_5 | h2_5⟩
        · cases hu_5
          have f_6 : zL 0 2147483647 ((I 0 11).toInt64) := zL_ley h1_5 zkl_0 (zR_i2l (zR_any (I 0 11))) (by decide)
          have f_7 : zR 0 2147483647 (I 0 11) := zL_back f_6
          have f_8 : zL 0 9999 ((I 0 11).toInt64) := zL_lex h2_5 f_6 zkl_9999 (by decide)
          have f_9 : zR 0 9999 (I 0 11) := zL_back f_8
          refine lv_if_ne (tgt := 47) hx hb dX11_number_39 (by decide) (fun _ => ?_) (fun c_0 => absurd c_0 (zD_ne zk_1 zk_z (by decide)))
          refine lv_aload_n hx hb dX11_number_47 rfl (lv_at hl 0 rfl) ?_
          refine z_callVi (k := 0) (As := []) (rest := []) hx hb hml hown ht (mk_X11_good l D q cA F _ _ _ hI ) hw_6_123 hmX11_good ⟨rfl, rfl⟩ (na := 0) rfl (by decide +kernel) (by decide) (by decide) rfl rfl hK hP hD hS hA hl.1 rfl (Nat.le_of_ble_eq_true rfl) ⟨Nat.zero_le _, Nat.zero_le _⟩ dX11_number_48 (fun r_10 I_10 R_10 J_10 H locs hp_10 hP hD hS _ _ => ?_)
          rcases hp_10 with ⟨rfl, hu_10, nn_10⟩ | ⟨rfl, hu_10, nn_10⟩
          · cases hu_10
            refine lv_if_ne (tgt := 56) hx hb dX11_number_51 (by decide) (fun _ => ?_) (fun c_0 => absurd c_0 (zD_ne zk_1 zk_z (by decide)))
            refine lv_aload_n hx hb dX11_number_56 rfl (lv_at hl 0 rfl) ?_
            refine z_get hx hb ht hown hK hP ziX11 rfl 0 (by decide) 11 (by decide) hw_5_198 rfl (v := .int (I 0 11)) rfl dX11_number_57 ?_
            refine lv_istore_n (lv' := [(3, .int (I 0 11)), (0, .ref (q 0)), (1, .int (nI 0)), (2, .int (nI 9999))]) hx hb dX11_number_60 rfl hl (by decide) rfl (fun ls hl => ?_)
            refine lv_aload_n hx hb dX11_number_61 rfl (lv_at hl 1 rfl) ?_
            refine z_callVv (k := 0) (As := []) (rest := []) hx hb hml hown ht (mk_X11_advance l D q cA F _ _ _ hI ) hw_6_109 hmX11_advance ⟨rfl, rfl⟩ (na := 0) rfl (by decide +kernel) (by decide) (by decide) rfl rfl hK hP hD hS hA hl.1 rfl (Nat.le_of_ble_eq_true rfl) ⟨Nat.zero_le _, Nat.zero_le _⟩ dX11_number_62 (fun I_11 R_11 J_11 H locs hp_11 hP hD hS _ _ => ?_)
            obtain ⟨hq_11, he_11⟩ := hp_11
            try dsimp only at he_11
            obtain ⟨hv_11, hk_11, hj_11⟩ := hq_11
            try dsimp only at hj_11 hk_11
            cases hj_11
            have hf_12 : ∀ k, k ≠ 0 → I_11 k = I k := fun k h => (hk_11 k h).trans ((fun (_ : Nat) _ => rfl) k h)
            refine lv_iload_n hx hb dX11_number_65 rfl (lv_at hl 0 rfl) ?_
            exact z_iret (v := I 0 11) hx hb hr hlocks hP hD hS dX11_number_66 ⟨⟨⟨hv_11, hf_12, rfl⟩, he_11⟩, f_9⟩
          · cases hu_10
            exact (zR_abs2 nn_10 nn_4 (by decide)).elim
        · cases hu_5
          have f_13 : zL (-2147483648) (-1) ((I 0 11).toInt64) := zL_ltx h1_5 (zR_i2l (zR_any (I 0 11))) zkl_0 (by decide)
          have f_14 : zR (-2147483648) (-1) (I 0 11) := zL_back f_13
          refine lv_if_ne (tgt := 47) hx hb dX11_number_39 (by decide) (fun c_0 => absurd (zD_eq zk_0 zk_z) c_0) (fun _ => ?_)
          refine lv_aload_n hx hb dX11_number_42 rfl (lv_at hl 0 rfl) ?_
          refine lv_iconst (v := nI 2) hx hb dX11_number_43 (by decide +kernel) ?_
          refine z_callVv (k := 0) (As := [.int (nI 2)]) (rest := []) hx hb hml hown ht (mk_X11_errs_1 l D q cA F _ _ _ hI ) hw_6_146 hmX11_errs ⟨rfl, rfl⟩ (na := 1) rfl (by decide +kernel) (by decide) (by decide) rfl rfl hK hP hD hS hA hl.1 rfl (Nat.le_of_ble_eq_true rfl) ⟨Nat.zero_le _, Nat.zero_le _⟩ dX11_number_44 (fun I_15 R_15 J_15 H locs hp_15 hP hD hS _ _ => ?_)
          obtain ⟨hq_15, he_15⟩ := hp_15
          obtain ⟨hv_15, hk_15, hj_15⟩ := hq_15
          try dsimp only at hj_15 hk_15
          cases hj_15
          have hf_16 : ∀ k, k ≠ 0 → I_15 k = I k := fun k h => (hk_15 k h).trans ((fun (_ : Nat) _ => rfl) k h)
          refine lv_aload_n hx hb dX11_number_47 rfl (lv_at hl 0 rfl) ?_
          refine z_callVi (k := 0) (As := []) (rest := []) hx hb hml hown ht (mk_X11_good l D q cA F _ _ _ hv_15 ) hw_6_123 hmX11_good ⟨rfl, rfl⟩ (na := 0) rfl (by decide +kernel) (by decide) (by decide) rfl rfl hK hP hD hS hA hl.1 rfl (Nat.le_of_ble_eq_true rfl) ⟨Nat.zero_le _, Nat.zero_le _⟩ dX11_number_48 (fun r_17 I_17 R_17 J_17 H locs hp_17 hP hD hS _ _ => ?_)
          rcases hp_17 with ⟨rfl, hu_17, nn_17⟩ | ⟨rfl, hu_17, nn_17⟩
          · cases hu_17
            exact (zR_abs2 nn_17 he_15 (by decide)).elim
          · cases hu_17
            refine lv_if_ne (tgt := 56) hx hb dX11_number_51 (by decide) (fun c_0 => absurd (zD_eq zk_0 zk_z) c_0) (fun _ => ?_)
            refine lv_iconst (v := nI 0) hx hb dX11_number_54 (by decide +kernel) ?_
            exact z_iret (v := nI 0) hx hb hr hlocks hP hD hS dX11_number_55 ⟨⟨⟨hv_15, hf_16, rfl⟩, (mTr_f he_15)⟩, (zR_w zk_0 (by decide))⟩
        · cases hu_5
          have f_18 : zL 10000 2147483647 ((I 0 11).toInt64) := zL_lty h2_5 zkl_9999 (zR_i2l (zR_any (I 0 11))) (by decide)
          have f_19 : zR 10000 2147483647 (I 0 11) := zL_back f_18
          refine lv_if_ne (tgt := 47) hx hb dX11_number_39 (by decide) (fun c_0 => absurd (zD_eq zk_0 zk_z) c_0) (fun _ => ?_)
          refine lv_aload_n hx hb dX11_number_42 rfl (lv_at hl 0 rfl) ?_
          refine lv_iconst (v := nI 2) hx hb dX11_number_43 (by decide +kernel) ?_
          refine z_callVv (k := 0) (As := [.int (nI 2)]) (rest := []) hx hb hml hown ht (mk_X11_errs_1 l D q cA F _ _ _ hI ) hw_6_146 hmX11_errs ⟨rfl, rfl⟩ (na := 1) rfl (by decide +kernel) (by decide) (by decide) rfl rfl hK hP hD hS hA hl.1 rfl (Nat.le_of_ble_eq_true rfl) ⟨Nat.zero_le _, Nat.zero_le _⟩ dX11_number_44 (fun I_20 R_20 J_20 H locs hp_20 hP hD hS _ _ => ?_)
          obtain ⟨hq_20, he_20⟩ := hp_20
          obtain ⟨hv_20, hk_20, hj_20⟩ := hq_20
          try dsimp only at hj_20 hk_20
          cases hj_20
          have hf_21 : ∀ k, k ≠ 0 → I_20 k = I k := fun k h => (hk_20 k h).trans ((fun (_ : Nat) _ => rfl) k h)
          refine lv_aload_n hx hb dX11_number_47 rfl (lv_at hl 0 rfl) ?_
          refine z_callVi (k := 0) (As := []) (rest := []) hx hb hml hown ht (mk_X11_good l D q cA F _ _ _ hv_20 ) hw_6_123 hmX11_good ⟨rfl, rfl⟩ (na := 0) rfl (by decide +kernel) (by decide) (by decide) rfl rfl hK hP hD hS hA hl.1 rfl (Nat.le_of_ble_eq_true rfl) ⟨Nat.zero_le _, Nat.zero_le _⟩ dX11_number_48 (fun r_22 I_22 R_22 J_22 H locs hp_22 hP hD hS _ _ => ?_)
          rcases hp_22 with ⟨rfl, hu_22, nn_22⟩ | ⟨rfl, hu_22, nn_22⟩
          · cases hu_22
            exact (zR_abs2 nn_22 he_20 (by decide)).elim
          · cases hu_22
            refine lv_if_ne (tgt := 56) hx hb dX11_number_51 (by decide) (fun c_0 => absurd (zD_eq zk_0 zk_z) c_0) (fun _ => ?_)
            refine lv_iconst (v := nI 0) hx hb dX11_number_54 (by decide +kernel) ?_
            exact z_iret (v := nI 0) hx hb hr hlocks hP hD hS dX11_number_55 ⟨⟨⟨hv_20, hf_21, rfl⟩, (mTr_f he_20)⟩, (zR_w zk_0 (by decide))⟩
      · cases hu_4
        exact (zR_abs2 nn_4 nn_1 (by decide)).elim
    · have t_c_2 := z_eqF c_2
      refine lv_aload_n hx hb dX11_number_15 rfl (lv_at hl 0 rfl) ?_
      refine lv_iconst (v := nI 1) hx hb dX11_number_16 (by decide +kernel) ?_
      refine z_callVv (k := 0) (As := [.int (nI 1)]) (rest := []) hx hb hml hown ht (mk_X11_errs l D q cA F _ _ _ hI ) hw_6_146 hmX11_errs ⟨rfl, rfl⟩ (na := 1) rfl (by decide +kernel) (by decide) (by decide) rfl rfl hK hP hD hS hA hl.1 rfl (Nat.le_of_ble_eq_true rfl) ⟨Nat.zero_le _, Nat.zero_le _⟩ dX11_number_17 (fun I_23 R_23 J_23 H locs hp_23 hP hD hS _ _ => ?_)
      obtain ⟨hq_23, he_23⟩ := hp_23
      obtain ⟨hv_23, hk_23, hj_23⟩ := hq_23
      try dsimp only at hj_23 hk_23
      cases hj_23
      have hf_24 : ∀ k, k ≠ 0 → I_23 k = I k := fun k h => (hk_23 k h).trans ((fun (_ : Nat) _ => rfl) k h)
      refine lv_aload_n hx hb dX11_number_20 rfl (lv_at hl 0 rfl) ?_
      refine z_callVi (k := 0) (As := []) (rest := []) hx hb hml hown ht (mk_X11_good l D q cA F _ _ _ hv_23 ) hw_6_123 hmX11_good ⟨rfl, rfl⟩ (na := 0) rfl (by decide +kernel) (by decide) (by decide) rfl rfl hK hP hD hS hA hl.1 rfl (Nat.le_of_ble_eq_true rfl) ⟨Nat.zero_le _, Nat.zero_le _⟩ dX11_number_21 (fun r_25 I_25 R_25 J_25 H locs hp_25 hP hD hS _ _ => ?_)
      rcases hp_25 with ⟨rfl, hu_25, nn_25⟩ | ⟨rfl, hu_25, nn_25⟩
      · cases hu_25
        exact (zR_abs2 nn_25 he_23 (by decide)).elim
      · cases hu_25
        refine lv_if_eq (tgt := 47) hx hb dX11_number_24 (by decide) (fun _ => ?_) (fun c_0 => absurd (zD_eq zk_0 zk_z) c_0)
        refine lv_aload_n hx hb dX11_number_47 rfl (lv_at hl 0 rfl) ?_
        refine z_callVi (k := 0) (As := []) (rest := []) hx hb hml hown ht (mk_X11_good l D q cA F _ _ _ hv_23 ) hw_6_123 hmX11_good ⟨rfl, rfl⟩ (na := 0) rfl (by decide +kernel) (by decide) (by decide) rfl rfl hK hP hD hS hA hl.1 rfl (Nat.le_of_ble_eq_true rfl) ⟨Nat.zero_le _, Nat.zero_le _⟩ dX11_number_48 (fun r_26 I_26 R_26 J_26 H locs hp_26 hP hD hS _ _ => ?_)
        rcases hp_26 with ⟨rfl, hu_26, nn_26⟩ | ⟨rfl, hu_26, nn_26⟩
        · cases hu_26
          exact (zR_abs2 nn_26 nn_25 (by decide)).elim
        · cases hu_26
          refine lv_if_ne (tgt := 56) hx hb dX11_number_51 (by decide) (fun c_0 => absurd (zD_eq zk_0 zk_z) c_0) (fun _ => ?_)
          refine lv_iconst (v := nI 0) hx hb dX11_number_54 (by decide +kernel) ?_
          exact z_iret (v := nI 0) hx hb hr hlocks hP hD hS dX11_number_55 ⟨⟨⟨hv_23, hf_24, rfl⟩, (mTr_f he_23)⟩, (zR_w zk_0 (by decide))⟩
  · cases hu_1
    refine lv_if_eq (tgt := 20) hx hb dX11_number_4 (by decide) (fun _ => ?_) (fun c_0 => absurd (zD_eq zk_0 zk_z) c_0)
    refine lv_aload_n hx hb dX11_number_20 rfl (lv_at hl 0 rfl) ?_
    refine z_callVi (k := 0) (As := []) (rest := []) hx hb hml hown ht (mk_X11_good l D q cA F _ _ _ hI ) hw_6_123 hmX11_good ⟨rfl, rfl⟩ (na := 0) rfl (by decide +kernel) (by decide) (by decide) rfl rfl hK hP hD hS hA hl.1 rfl (Nat.le_of_ble_eq_true rfl) ⟨Nat.zero_le _, Nat.zero_le _⟩ dX11_number_21 (fun r_27 I_27 R_27 J_27 H locs hp_27 hP hD hS _ _ => ?_)
    rcases hp_27 with ⟨rfl, hu_27, nn_27⟩ | ⟨rfl, hu_27, nn_27⟩
    · cases hu_27
      exact (zR_abs2 nn_27 nn_1 (by decide)).elim
    · cases hu_27
      refine lv_if_eq (tgt := 47) hx hb dX11_number_24 (by decide) (fun _ => ?_) (fun c_0 => absurd (zD_eq zk_0 zk_z) c_0)
      refine lv_aload_n hx hb dX11_number_47 rfl (lv_at hl 0 rfl) ?_
      refine z_callVi (k := 0) (As := []) (rest := []) hx hb hml hown ht (mk_X11_good l D q cA F _ _ _ hI ) hw_6_123 hmX11_good ⟨rfl, rfl⟩ (na := 0) rfl (by decide +kernel) (by decide) (by decide) rfl rfl hK hP hD hS hA hl.1 rfl (Nat.le_of_ble_eq_true rfl) ⟨Nat.zero_le _, Nat.zero_le _⟩ dX11_number_48 (fun r_28 I_28 R_28 J_28 H locs hp_28 hP hD hS _ _ => ?_)
      rcases hp_28 with ⟨rfl, hu_28, nn_28⟩ | ⟨rfl, hu_28, nn_28⟩
      · cases hu_28
        exact (zR_abs2 nn_28 nn_27 (by decide)).elim
      · cases hu_28
        refine lv_if_ne (tgt := 56) hx hb dX11_number_51 (by decide) (fun c_0 => absurd (zD_eq zk_0 zk_z) c_0) (fun _ => ?_)
        refine lv_iconst (v := nI 0) hx hb dX11_number_54 (by decide +kernel) ?_
        exact z_iret (v := nI 0) hx hb hr hlocks hP hD hS dX11_number_55 ⟨⟨⟨hI, (fun (_ : Nat) _ => rfl), rfl⟩, (mTr_f nn_28)⟩, (zR_w zk_0 (by decide))⟩
set_option maxHeartbeats 4000000 in
set_option maxRecDepth 100000 in
theorem mk_X11_told (l : Launch) (D : va_G) (q : Nat → Nat) (cA : Nat → ClassId) (ad av : Nat → Nat) (t9 : Nat) (F : Nat → Nat → Int32) (I R : Nat → Nat → Int32) (J : Nat → Nat → Int64) (hI : mInv F (I, R, J))  : zNi (zSS zMRs 25 q ad av t9) l D vwCl (zMtys cA) 25 q (zMd q cA) yX11_told cX11_told 4 (some .int) ({ frames := 7, cells := 0, slots := 0, locals := 151 } : Room) [.ref (q 0), .ref (ad 5), .int (nI 0), .int (nI 9999)] (I, R, J) (fun r u => ((mInv F u ∧ (∀ k, k ≠ 0 → u.1 k = I k) ∧ u.2 = (R, J)) ∧ mTr I u.1) ∧ zR 0 9999 r) := by
  intro sz
  refine z_bodyN (by decide +kernel) (Nat.le_of_ble_eq_true rfl) (fun p e s m below meth c ls hx hb hml hr ht hown hlocks hsz hK hP hD hS hN hl => ?_)
  have hA : ∀ a, s.heap.size ≤ a → zA 25 q sz a := fun a h => Or.inr (hsz ▸ h)
  have hl : lv_has ls 4 [(0, .ref (q 0)), (1, .ref (ad 5)), (2, .int (nI 0)), (3, .int (nI 9999))] := hl
  have hZ : zSz zMRs 25 q ad av t9 sz s := hsz ▸ hN
  refine lv_aload_n hx hb dX11_told_0 rfl (lv_at hl 0 rfl) ?_
  refine lv_aload_n hx hb dX11_told_1 rfl (lv_at hl 1 rfl) ?_
  refine z_cNVv (k := 0) (As := [.ref (ad 5)]) (rest := []) hx hb hml hown ht (mk_X11_needs l D q cA ad av t9 F _ _ _ hI ) hw_6_132 hmX11_needs ⟨rfl, rfl⟩ (na := 1) rfl (by decide +kernel) (by decide) (by decide) rfl rfl hK hP hD hS hA (zSS_c (Rs := zMRs) (t9 := t9) (fun _ _ _ => zMRs_c)) (zSS_w (Rs := zMRs) (t9 := t9) (fun _ _ _ => zMRs_w) hN hsz hS) hl.1 rfl (Nat.le_of_ble_eq_true rfl) ⟨Nat.zero_le _, Nat.zero_le _⟩ dX11_told_2 (fun I_1 R_1 J_1 H locs hp_1 hP hD hS _ _ => ?_)
  obtain ⟨hq_1, he_1⟩ := hp_1
  try dsimp only at he_1
  obtain ⟨hv_1, hk_1, hj_1⟩ := hq_1
  try dsimp only at hj_1 hk_1
  cases hj_1
  have hf_2 : ∀ k, k ≠ 0 → I_1 k = I k := fun k h => (hk_1 k h).trans ((fun (_ : Nat) _ => rfl) k h)
  refine lv_aload_n hx hb dX11_told_5 rfl (lv_at hl 0 rfl) ?_
  refine lv_iload_n hx hb dX11_told_6 rfl (lv_at hl 2 rfl) ?_
  refine lv_iload_n hx hb dX11_told_7 rfl (lv_at hl 3 rfl) ?_
  refine z_callVi (k := 0) (As := [.int (nI 0), .int (nI 9999)]) (rest := []) hx hb hml hown ht (mk_X11_number l D q cA F _ _ _ hv_1 ) hw_6_155 hmX11_number ⟨rfl, rfl⟩ (na := 2) rfl (by decide +kernel) (by decide) (by decide) rfl rfl hK hP hD hS hA hl.1 rfl (Nat.le_of_ble_eq_true rfl) ⟨Nat.zero_le _, Nat.zero_le _⟩ dX11_told_8 (fun r_3 I_3 R_3 J_3 H locs hp_3 hP hD hS _ _ => ?_)
  obtain ⟨⟨hq_3, he_3⟩, hr_3⟩ := hp_3
  try dsimp only at he_3
  obtain ⟨hv_3, hk_3, hj_3⟩ := hq_3
  try dsimp only at hj_3 hk_3
  cases hj_3
  have hf_4 : ∀ k, k ≠ 0 → I_3 k = I k := fun k h => (hk_3 k h).trans (hf_2 k h)
  exact z_iret (v := r_3) hx hb hr hlocks hP hD hS dX11_told_11 ⟨⟨⟨hv_3, hf_4, rfl⟩, (mTr_t he_1 he_3)⟩, hr_3⟩
set_option maxHeartbeats 4000000 in
set_option maxRecDepth 100000 in
theorem mk_J0_coder_7d493_2 (l : Launch) (D : va_G) (q : Nat → Nat) (cA : Nat → ClassId) (ad av : Nat → Nat) (t9 : Nat) (F : Nat → Nat → Int32) (I R : Nat → Nat → Int32) (J : Nat → Nat → Int64) (hI : mInv F (I, R, J))  : zNi (zSS zMRs 25 q ad av t9) l D vwCl (zMtys cA) 25 q (zMd q cA) yJ0_coder_7d493 cJ0_coder_7d493 1 (some .byte) ({ frames := 0, cells := 0, slots := 0, locals := 0 } : Room) [.ref (ad 6)] (I, R, J) (fun r u => r = nI 0 ∧ u = (I, R, J)) := by
  intro sz
  refine z_bodyN (by decide +kernel) (Nat.le_of_ble_eq_true rfl) (fun p e s m below meth c ls hx hb hml hr ht hown hlocks hsz hK hP hD hS hN hl => ?_)
  have hA : ∀ a, s.heap.size ≤ a → zA 25 q sz a := fun a h => Or.inr (hsz ▸ h)
  have hl : lv_has ls 1 [(0, .ref (ad 6))] := hl
  have hZ : zSz zMRs 25 q ad av t9 sz s := hsz ▸ hN
  refine va_gets hx hb hZ.2.1 hS hown (ht _ hw_2_195) (fun _ h => h) dJ0_coder_7d493_0 ?_
  refine z_eqi (y := nI 1) rfl ?_
  refine lv_if_eq (tgt := 13) hx hb dJ0_coder_7d493_3 (by decide) (fun c_0 => absurd c_0 (zD_ne zk_1 zk_z (by decide))) (fun _ => ?_)
  refine lv_aload_n hx hb dJ0_coder_7d493_6 rfl (lv_at hl 0 rfl) ?_
  refine vk_getf hx hb (hZ.1.1 6 (by decide)).2.1 hS hown (ht _ hw_8_165) (fun _ h => h) dJ0_coder_7d493_7 ?_
  refine z_eqi (y := nI 0) rfl ?_
  refine lv_goto (tgt := 14) hx hb dJ0_coder_7d493_10 (by decide) ?_
  exact z_zret (v := nI 0) hx hb hr hlocks hP hD hS (by decide +kernel) dJ0_coder_7d493_14 ⟨rfl, rfl⟩
set_option maxHeartbeats 4000000 in
set_option maxRecDepth 100000 in
theorem mk_J0_length_8abf5_2 (l : Launch) (D : va_G) (q : Nat → Nat) (cA : Nat → ClassId) (ad av : Nat → Nat) (t9 : Nat) (F : Nat → Nat → Int32) (I R : Nat → Nat → Int32) (J : Nat → Nat → Int64) (hI : mInv F (I, R, J))  : zNi (zSS zMRs 25 q ad av t9) l D vwCl (zMtys cA) 25 q (zMd q cA) yJ0_length_8abf5 cJ0_length_8abf5 1 (some .int) ({ frames := 1, cells := 0, slots := 0, locals := 20 } : Room) [.ref (ad 6)] (I, R, J) (fun r u => r = nI 6 ∧ u = (I, R, J)) := by
  intro sz
  refine z_bodyN (by decide +kernel) (Nat.le_of_ble_eq_true rfl) (fun p e s m below meth c ls hx hb hml hr ht hown hlocks hsz hK hP hD hS hN hl => ?_)
  have hA : ∀ a, s.heap.size ≤ a → zA 25 q sz a := fun a h => Or.inr (hsz ▸ h)
  have hl : lv_has ls 1 [(0, .ref (ad 6))] := hl
  have hZ : zSz zMRs 25 q ad av t9 sz s := hsz ▸ hN
  refine lv_aload_n hx hb dJ0_length_8abf5_0 rfl (lv_at hl 0 rfl) ?_
  refine vk_getf hx hb (hZ.1.1 6 (by decide)).2.2.1 hS hown (ht _ hw_8_164) (fun _ h => h) dJ0_length_8abf5_1 ?_
  refine va_tlen hx hb (hZ.1.1 6 (by decide)).2.2.2 hS (v := nI 6) rfl dJ0_length_8abf5_4 ?_
  refine lv_aload_n hx hb dJ0_length_8abf5_5 rfl (lv_at hl 0 rfl) ?_
  refine z_cNXi (As := []) (rest := [.int (nI 6)]) hx hb hml hown ht (mk_J0_coder_7d493_2 l D q cA ad av t9 F _ _ _ hI ) hw_2_191 hmJ0_coder_7d493 ⟨rfl, rfl⟩ (na := 0) rfl (by decide +kernel) (by decide) (vk_recv hZ.1 (by decide) hS) hK hP hD hS hA (zSS_c (Rs := zMRs) (t9 := t9) (fun _ _ _ => zMRs_c)) (zSS_w (Rs := zMRs) (t9 := t9) (fun _ _ _ => zMRs_w) hN hsz hS) hl.1 rfl (Nat.le_of_ble_eq_true rfl) ⟨Nat.zero_le _, Nat.zero_le _⟩ dJ0_length_8abf5_6 (fun r_1 I_1 R_1 J_1 H locs hp_1 hP hD hS _ _ => ?_)
  obtain ⟨rfl, hu_1⟩ := hp_1
  cases hu_1
  refine lv_ishr hx hb dJ0_length_8abf5_9 ?_
  refine z_eqi (y := nI 6) (by decide +kernel) ?_
  exact z_iret (v := nI 6) hx hb hr hlocks hP hD hS dJ0_length_8abf5_10 ⟨rfl, rfl⟩
set_option maxHeartbeats 4000000 in
set_option maxRecDepth 100000 in
theorem mk_J0_isLatin1_aae02_2 (l : Launch) (D : va_G) (q : Nat → Nat) (cA : Nat → ClassId) (ad av : Nat → Nat) (t9 : Nat) (F : Nat → Nat → Int32) (I R : Nat → Nat → Int32) (J : Nat → Nat → Int64) (hI : mInv F (I, R, J))  : zNi (zSS zMRs 25 q ad av t9) l D vwCl (zMtys cA) 25 q (zMd q cA) yJ0_isLatin1_aae02 cJ0_isLatin1_aae02 1 (some .boolean) ({ frames := 0, cells := 0, slots := 0, locals := 0 } : Room) [.ref (ad 6)] (I, R, J) (fun r u => (r = nI 1 ∧ u = (I, R, J))) := by
  intro sz
  refine z_bodyN (by decide +kernel) (Nat.le_of_ble_eq_true rfl) (fun p e s m below meth c ls hx hb hml hr ht hown hlocks hsz hK hP hD hS hN hl => ?_)
  have hA : ∀ a, s.heap.size ≤ a → zA 25 q sz a := fun a h => Or.inr (hsz ▸ h)
  have hl : lv_has ls 1 [(0, .ref (ad 6))] := hl
  have hZ : zSz zMRs 25 q ad av t9 sz s := hsz ▸ hN
  refine va_gets hx hb hZ.2.1 hS hown (ht _ hw_2_195) (fun _ h => h) dJ0_isLatin1_aae02_0 ?_
  refine z_eqi (y := nI 1) rfl ?_
  refine lv_if_eq (tgt := 17) hx hb dJ0_isLatin1_aae02_3 (by decide) (fun c_0 => absurd c_0 (zD_ne zk_1 zk_z (by decide))) (fun _ => ?_)
  refine lv_aload_n hx hb dJ0_isLatin1_aae02_6 rfl (lv_at hl 0 rfl) ?_
  refine vk_getf hx hb (hZ.1.1 6 (by decide)).2.1 hS hown (ht _ hw_8_165) (fun _ h => h) dJ0_isLatin1_aae02_7 ?_
  refine z_eqi (y := nI 0) rfl ?_
  refine lv_if_ne (tgt := 17) hx hb dJ0_isLatin1_aae02_10 (by decide) (fun c_0 => absurd (zD_eq zk_0 zk_z) c_0) (fun _ => ?_)
  refine lv_iconst (v := nI 1) hx hb dJ0_isLatin1_aae02_13 (by decide +kernel) ?_
  refine lv_goto (tgt := 18) hx hb dJ0_isLatin1_aae02_14 (by decide) ?_
  exact z_zret (v := nI 1) hx hb hr hlocks hP hD hS (by decide +kernel) dJ0_isLatin1_aae02_18 ⟨rfl, rfl⟩
set_option maxHeartbeats 4000000 in
set_option maxRecDepth 100000 in
theorem mk_J3_checkIndex_8e157_6 (l : Launch) (D : va_G) (q : Nat → Nat) (cA : Nat → ClassId) (ad av : Nat → Nat) (t9 : Nat) (F : Nat → Nat → Int32) (I R : Nat → Nat → Int32) (J : Nat → Nat → Int64) (hI : mInv F (I, R, J)) (pa0 : Int32) (hpa0 : zR 0 5 pa0) : zNi (zSS zMRs 25 q ad av t9) l D vwCl (zMtys cA) 25 q (zMd q cA) yJ3_checkIndex_8e157 cJ3_checkIndex_8e157 3 (some .int) ({ frames := 0, cells := 0, slots := 0, locals := 0 } : Room) [.int (pa0), .int (nI 6), .null] (I, R, J) (fun r u => zR 0 5 r ∧ u = (I, R, J)) := by
  intro sz
  refine z_bodyN (by decide +kernel) (Nat.le_of_ble_eq_true rfl) (fun p e s m below meth c ls hx hb hml hr ht hown hlocks hsz hK hP hD hS hN hl => ?_)
  have hA : ∀ a, s.heap.size ≤ a → zA 25 q sz a := fun a h => Or.inr (hsz ▸ h)
  have hl : lv_has ls 3 [(0, .int (pa0)), (1, .int (nI 6)), (2, .null)] := hl
  have hZ : zSz zMRs 25 q ad av t9 sz s := hsz ▸ hN
  refine lv_iload_n hx hb dJ3_checkIndex_8e157_0 rfl (lv_at hl 0 rfl) ?_
  refine lv_if_lt (tgt := 9) hx hb dJ3_checkIndex_8e157_1 (by decide) (fun c_0 => absurd c_0 (zD_nlt hpa0 zk_z (by decide))) (fun _ => ?_)
  refine lv_iload_n hx hb dJ3_checkIndex_8e157_4 rfl (lv_at hl 0 rfl) ?_
  refine lv_iload_n hx hb dJ3_checkIndex_8e157_5 rfl (lv_at hl 1 rfl) ?_
  refine lv_icmp_lt (tgt := 16) hx hb dJ3_checkIndex_8e157_6 (by decide) (fun _ => ?_) (fun c_0 => absurd (zD_lt hpa0 zk_6 (by decide)) c_0)
  refine lv_iload_n hx hb dJ3_checkIndex_8e157_16 rfl (lv_at hl 0 rfl) ?_
  exact z_iret (v := pa0) hx hb hr hlocks hP hD hS dJ3_checkIndex_8e157_17 ⟨hpa0, rfl⟩
set_option maxHeartbeats 4000000 in
set_option maxRecDepth 100000 in
theorem mk_J3_checkIndex_8e157_7 (l : Launch) (D : va_G) (q : Nat → Nat) (cA : Nat → ClassId) (ad av : Nat → Nat) (t9 : Nat) (F : Nat → Nat → Int32) (I R : Nat → Nat → Int32) (J : Nat → Nat → Int64) (hI : mInv F (I, R, J)) (pa0 : Int32) (hpa0 : zR 0 5 pa0) : zNi (zSS zMRs 25 q ad av t9) l D vwCl (zMtys cA) 25 q (zMd q cA) yJ3_checkIndex_8e157 cJ3_checkIndex_8e157 3 (some .int) ({ frames := 0, cells := 0, slots := 0, locals := 0 } : Room) [.int (pa0), .int (nI 6), .ref (t9)] (I, R, J) (fun r u => zR 0 5 r ∧ u = (I, R, J)) := by
  intro sz
  refine z_bodyN (by decide +kernel) (Nat.le_of_ble_eq_true rfl) (fun p e s m below meth c ls hx hb hml hr ht hown hlocks hsz hK hP hD hS hN hl => ?_)
  have hA : ∀ a, s.heap.size ≤ a → zA 25 q sz a := fun a h => Or.inr (hsz ▸ h)
  have hl : lv_has ls 3 [(0, .int (pa0)), (1, .int (nI 6)), (2, .ref (t9))] := hl
  have hZ : zSz zMRs 25 q ad av t9 sz s := hsz ▸ hN
  refine lv_iload_n hx hb dJ3_checkIndex_8e157_0 rfl (lv_at hl 0 rfl) ?_
  refine lv_if_lt (tgt := 9) hx hb dJ3_checkIndex_8e157_1 (by decide) (fun c_0 => absurd c_0 (zD_nlt hpa0 zk_z (by decide))) (fun _ => ?_)
  refine lv_iload_n hx hb dJ3_checkIndex_8e157_4 rfl (lv_at hl 0 rfl) ?_
  refine lv_iload_n hx hb dJ3_checkIndex_8e157_5 rfl (lv_at hl 1 rfl) ?_
  refine lv_icmp_lt (tgt := 16) hx hb dJ3_checkIndex_8e157_6 (by decide) (fun _ => ?_) (fun c_0 => absurd (zD_lt hpa0 zk_6 (by decide)) c_0)
  refine lv_iload_n hx hb dJ3_checkIndex_8e157_16 rfl (lv_at hl 0 rfl) ?_
  exact z_iret (v := pa0) hx hb hr hlocks hP hD hS dJ3_checkIndex_8e157_17 ⟨hpa0, rfl⟩
set_option maxHeartbeats 4000000 in
set_option maxRecDepth 100000 in
theorem mk_J0_checkIndex_df160_3 (l : Launch) (D : va_G) (q : Nat → Nat) (cA : Nat → ClassId) (ad av : Nat → Nat) (t9 : Nat) (F : Nat → Nat → Int32) (I R : Nat → Nat → Int32) (J : Nat → Nat → Int64) (hI : mInv F (I, R, J)) (pa0 : Int32) (hpa0 : zR 0 5 pa0) : zNv (zSS zMRs 25 q ad av t9) l D vwCl (zMtys cA) 25 q (zMd q cA) yJ0_checkIndex_df160 cJ0_checkIndex_df160 2 none ({ frames := 1, cells := 0, slots := 0, locals := 22 } : Room) [.int (pa0), .int (nI 6)] (I, R, J) (fun u => u = (I, R, J)) := by
  intro sz
  refine z_bodyN (by decide +kernel) (Nat.le_of_ble_eq_true rfl) (fun p e s m below meth c ls hx hb hml hr ht hown hlocks hsz hK hP hD hS hN hl => ?_)
  have hA : ∀ a, s.heap.size ≤ a → zA 25 q sz a := fun a h => Or.inr (hsz ▸ h)
  have hl : lv_has ls 2 [(0, .int (pa0)), (1, .int (nI 6))] := hl
  have hZ : zSz zMRs 25 q ad av t9 sz s := hsz ▸ hN
  refine lv_iload_n hx hb dJ0_checkIndex_df160_0 rfl (lv_at hl 0 rfl) ?_
  refine lv_iload_n hx hb dJ0_checkIndex_df160_1 rfl (lv_at hl 1 rfl) ?_
  rcases hZ.2.2.1 with hz9 | ⟨t9, hz9⟩
  · refine va_gets hx hb hz9 hS hown (ht _ hw_2_211) (fun _ h => h) dJ0_checkIndex_df160_2 ?_
    refine z_cNSi (As := [.int (pa0), .int (nI 6), .null]) (rest := []) hx hb hml hown ht (mk_J3_checkIndex_8e157_6 l D q cA ad av t9 F _ _ _ hI (pa0) hpa0) hw_2_213 hmJ3_checkIndex_8e157 ⟨rfl, rfl⟩ (na := 3) rfl (by decide +kernel) (by decide) hK hP hD hS hA (zSS_c (Rs := zMRs) (t9 := t9) (fun _ _ _ => zMRs_c)) (zSS_w (Rs := zMRs) (t9 := t9) (fun _ _ _ => zMRs_w) hN hsz hS) hl.1 rfl (Nat.le_of_ble_eq_true rfl) ⟨Nat.zero_le _, Nat.zero_le _⟩ dJ0_checkIndex_df160_5 (fun r_1 I_1 R_1 J_1 H locs hp_1 hP hD hS _ _ => ?_)
    obtain ⟨hr_1, hu_1⟩ := hp_1
    cases hu_1
    refine lv_pop hx hb dJ0_checkIndex_df160_8 rfl ?_
    exact z_vret hx hb hr hlocks hP hD hS dJ0_checkIndex_df160_9 rfl
  · refine va_gets hx hb hz9 hS hown (ht _ hw_2_211) (fun _ h => h) dJ0_checkIndex_df160_2 ?_
    refine z_cNSi (As := [.int (pa0), .int (nI 6), .ref (t9)]) (rest := []) hx hb hml hown ht (mk_J3_checkIndex_8e157_7 l D q cA ad av t9 F _ _ _ hI (pa0) hpa0) hw_2_213 hmJ3_checkIndex_8e157 ⟨rfl, rfl⟩ (na := 3) rfl (by decide +kernel) (by decide) hK hP hD hS hA (zSS_c (Rs := zMRs) (t9 := t9) (fun _ _ _ => zMRs_c)) (zSS_w (Rs := zMRs) (t9 := t9) (fun _ _ _ => zMRs_w) hN hsz hS) hl.1 rfl (Nat.le_of_ble_eq_true rfl) ⟨Nat.zero_le _, Nat.zero_le _⟩ dJ0_checkIndex_df160_5 (fun r_2 I_2 R_2 J_2 H locs hp_2 hP hD hS _ _ => ?_)
    obtain ⟨hr_2, hu_2⟩ := hp_2
    cases hu_2
    refine lv_pop hx hb dJ0_checkIndex_df160_8 rfl ?_
    exact z_vret hx hb hr hlocks hP hD hS dJ0_checkIndex_df160_9 rfl
set_option maxHeartbeats 4000000 in
set_option maxRecDepth 100000 in
theorem mk_J1_charAt_3b067_5 (l : Launch) (D : va_G) (q : Nat → Nat) (cA : Nat → ClassId) (ad av : Nat → Nat) (t9 : Nat) (F : Nat → Nat → Int32) (I R : Nat → Nat → Int32) (J : Nat → Nat → Int64) (hI : mInv F (I, R, J)) (pa1 : Int32) (hpa1 : zR 0 5 pa1) : zNi (zSS zMRs 25 q ad av t9) l D vwCl (zMtys cA) 25 q (zMd q cA) yJ1_charAt_3b067 cJ1_charAt_3b067 2 (some .char) ({ frames := 2, cells := 0, slots := 0, locals := 43 } : Room) [.ref (av 6), .int (pa1)] (I, R, J) (fun r u => (r = zch 6 (pa1).toNatClampNeg ∧ zR 0 65535 r) ∧ u = (I, R, J)) := by
  intro sz
  refine z_bodyN (by decide +kernel) (Nat.le_of_ble_eq_true rfl) (fun p e s m below meth c ls hx hb hml hr ht hown hlocks hsz hK hP hD hS hN hl => ?_)
  have hA : ∀ a, s.heap.size ≤ a → zA 25 q sz a := fun a h => Or.inr (hsz ▸ h)
  have hl : lv_has ls 2 [(0, .ref (av 6)), (1, .int (pa1))] := hl
  have hZ : zSz zMRs 25 q ad av t9 sz s := hsz ▸ hN
  refine lv_iload_n hx hb dJ1_charAt_3b067_0 rfl (lv_at hl 1 rfl) ?_
  refine lv_aload_n hx hb dJ1_charAt_3b067_1 rfl (lv_at hl 0 rfl) ?_
  refine va_tlen hx hb (hZ.1.1 6 (by decide)).2.2.2 hS (v := nI 6) rfl dJ1_charAt_3b067_2 ?_
  refine z_cNSv (As := [.int (pa1), .int (nI 6)]) (rest := []) hx hb hml hown ht (mk_J0_checkIndex_df160_3 l D q cA ad av t9 F _ _ _ hI (pa1) hpa1) hw_2_208 hmJ0_checkIndex_df160 ⟨rfl, rfl⟩ (na := 2) rfl (by decide +kernel) (by decide) hK hP hD hS hA (zSS_c (Rs := zMRs) (t9 := t9) (fun _ _ _ => zMRs_c)) (zSS_w (Rs := zMRs) (t9 := t9) (fun _ _ _ => zMRs_w) hN hsz hS) hl.1 rfl (Nat.le_of_ble_eq_true rfl) ⟨Nat.zero_le _, Nat.zero_le _⟩ dJ1_charAt_3b067_3 (fun I_1 R_1 J_1 H locs hp_1 hP hD hS _ _ => ?_)
  cases hp_1
  refine lv_aload_n hx hb dJ1_charAt_3b067_6 rfl (lv_at hl 0 rfl) ?_
  refine lv_iload_n hx hb dJ1_charAt_3b067_7 rfl (lv_at hl 1 rfl) ?_
  refine va_tb hx hb (hZ.1.1 6 (by decide)).2.2.2 hS (zR_vin hpa1 (by decide)) (v := .int ((zByt.getD 6 []).getD (pa1).toNatClampNeg 0)) rfl dJ1_charAt_3b067_8 ?_
  refine lv_sipush (v := nI 255) hx hb dJ1_charAt_3b067_9 (by decide +kernel) ?_
  refine lv_iand hx hb dJ1_charAt_3b067_12 ?_
  refine lv_i2c (v := ((((zByt.getD 6 []).getD (pa1).toNatClampNeg 0) &&& (nI 255)).toUInt32 % 65536).toInt32) hx hb dJ1_charAt_3b067_13 rfl ?_
  exact z_zret (v := ((((zByt.getD 6 []).getD (pa1).toNatClampNeg 0) &&& (nI 255)).toUInt32 % 65536).toInt32) hx hb hr hlocks hP hD hS (zR_char (zR_i2c _)) dJ1_charAt_3b067_14 ⟨⟨rfl, (zR_i2c _)⟩, rfl⟩
set_option maxHeartbeats 4000000 in
set_option maxRecDepth 100000 in
theorem mk_J0_charAt_5068e_5 (l : Launch) (D : va_G) (q : Nat → Nat) (cA : Nat → ClassId) (ad av : Nat → Nat) (t9 : Nat) (F : Nat → Nat → Int32) (I R : Nat → Nat → Int32) (J : Nat → Nat → Int64) (hI : mInv F (I, R, J)) (pa0 : Int32) (hpa0 : zR 0 5 pa0) : zNi (zSS zMRs 25 q ad av t9) l D vwCl (zMtys cA) 25 q (zMd q cA) yJ0_charAt_5068e cJ0_charAt_5068e 2 (some .char) ({ frames := 3, cells := 0, slots := 0, locals := 64 } : Room) [.ref (ad 6), .int (pa0)] (I, R, J) (fun r u => (r = zch 6 (pa0).toNatClampNeg ∧ zR 0 65535 r) ∧ u = (I, R, J)) := by
  intro sz
  refine z_bodyN (by decide +kernel) (Nat.le_of_ble_eq_true rfl) (fun p e s m below meth c ls hx hb hml hr ht hown hlocks hsz hK hP hD hS hN hl => ?_)
  have hA : ∀ a, s.heap.size ≤ a → zA 25 q sz a := fun a h => Or.inr (hsz ▸ h)
  have hl : lv_has ls 2 [(0, .ref (ad 6)), (1, .int (pa0))] := hl
  have hZ : zSz zMRs 25 q ad av t9 sz s := hsz ▸ hN
  refine lv_aload_n hx hb dJ0_charAt_5068e_0 rfl (lv_at hl 0 rfl) ?_
  refine z_cNXi (As := []) (rest := []) hx hb hml hown ht (mk_J0_isLatin1_aae02_2 l D q cA ad av t9 F _ _ _ hI ) hw_2_201 hmJ0_isLatin1_aae02 ⟨rfl, rfl⟩ (na := 0) rfl (by decide +kernel) (by decide) (vk_recv hZ.1 (by decide) hS) hK hP hD hS hA (zSS_c (Rs := zMRs) (t9 := t9) (fun _ _ _ => zMRs_c)) (zSS_w (Rs := zMRs) (t9 := t9) (fun _ _ _ => zMRs_w) hN hsz hS) hl.1 rfl (Nat.le_of_ble_eq_true rfl) ⟨Nat.zero_le _, Nat.zero_le _⟩ dJ0_charAt_5068e_1 (fun r_1 I_1 R_1 J_1 H locs hp_1 hP hD hS _ _ => ?_)
  obtain ⟨rfl, hu_1⟩ := hp_1
  cases hu_1
  refine lv_if_eq (tgt := 16) hx hb dJ0_charAt_5068e_4 (by decide) (fun c_0 => absurd c_0 (zD_ne zk_1 zk_z (by decide))) (fun _ => ?_)
  refine lv_aload_n hx hb dJ0_charAt_5068e_7 rfl (lv_at hl 0 rfl) ?_
  refine vk_getf hx hb (hZ.1.1 6 (by decide)).2.2.1 hS hown (ht _ hw_8_164) (fun _ h => h) dJ0_charAt_5068e_8 ?_
  refine lv_iload_n hx hb dJ0_charAt_5068e_11 rfl (lv_at hl 1 rfl) ?_
  refine z_cNSi (As := [.ref (av 6), .int (pa0)]) (rest := []) hx hb hml hown ht (mk_J1_charAt_3b067_5 l D q cA ad av t9 F _ _ _ hI (pa0) hpa0) hw_2_205 hmJ1_charAt_3b067 ⟨rfl, rfl⟩ (na := 2) rfl (by decide +kernel) (by decide) hK hP hD hS hA (zSS_c (Rs := zMRs) (t9 := t9) (fun _ _ _ => zMRs_c)) (zSS_w (Rs := zMRs) (t9 := t9) (fun _ _ _ => zMRs_w) hN hsz hS) hl.1 rfl (Nat.le_of_ble_eq_true rfl) ⟨Nat.zero_le _, Nat.zero_le _⟩ dJ0_charAt_5068e_12 (fun r_2 I_2 R_2 J_2 H locs hp_2 hP hD hS _ _ => ?_)
  obtain ⟨⟨rfl, hr_2⟩, hu_2⟩ := hp_2
  cases hu_2
  exact z_zret (v := zch 6 (pa0).toNatClampNeg) hx hb hr hlocks hP hD hS (zR_char hr_2) dJ0_charAt_5068e_15 ⟨⟨rfl, hr_2⟩, rfl⟩
set_option maxHeartbeats 4000000 in
set_option maxRecDepth 100000 in
theorem mk_X11_is_2 (l : Launch) (D : va_G) (q : Nat → Nat) (cA : Nat → ClassId) (ad av : Nat → Nat) (t9 : Nat) (F : Nat → Nat → Int32) (I R : Nat → Nat → Int32) (J : Nat → Nat → Int64) (hI : mInv F (I, R, J))  : zNi (zSS zMRs 25 q ad av t9) l D vwCl (zMtys cA) 25 q (zMd q cA) yX11_is cX11_is 4 (some .boolean) ({ frames := 4, cells := 0, slots := 0, locals := 85 } : Room) [.ref (q 0), .ref (ad 6)] (I, R, J) (fun r u => (r = nI 1 ∧ u = (I, R, J) ∧ mIs 6 I R) ∨ (r = nI 0 ∧ u = (I, R, J) ∧ ¬ mIs 6 I R)) := by
  intro sz
  refine z_bodyN (by decide +kernel) (Nat.le_of_ble_eq_true rfl) (fun p e s m below meth c ls hx hb hml hr ht hown hlocks hsz hK hP hD hS hN hl => ?_)
  have hA : ∀ a, s.heap.size ≤ a → zA 25 q sz a := fun a h => Or.inr (hsz ▸ h)
  have hl : lv_has ls 4 [(0, .ref (q 0)), (1, .ref (ad 6))] := hl
  have hZ : zSz zMRs 25 q ad av t9 sz s := hsz ▸ hN
  refine lv_aload_n hx hb dX11_is_0 rfl (lv_at hl 0 rfl) ?_
  refine z_callVi (k := 0) (As := []) (rest := []) hx hb hml hown ht (mk_X11_good l D q cA F _ _ _ hI ) hw_6_123 hmX11_good ⟨rfl, rfl⟩ (na := 0) rfl (by decide +kernel) (by decide) (by decide) rfl rfl hK hP hD hS hA hl.1 rfl (Nat.le_of_ble_eq_true rfl) ⟨Nat.zero_le _, Nat.zero_le _⟩ dX11_is_1 (fun r_1 I_1 R_1 J_1 H locs hp_1 hP hD hS _ _ => ?_)
  rcases hp_1 with ⟨rfl, hu_1, nn_1⟩ | ⟨rfl, hu_1, nn_1⟩
  · cases hu_1
    refine lv_if_eq (tgt := 35) hx hb dX11_is_4 (by decide) (fun c_0 => absurd c_0 (zD_ne zk_1 zk_z (by decide))) (fun _ => ?_)
    refine lv_aload_n hx hb dX11_is_7 rfl (lv_at hl 0 rfl) ?_
    refine z_get hx hb ht hown hK hP ziX11 rfl 0 (by decide) 10 (by decide) hw_5_197 rfl (v := .int (I 0 10)) rfl dX11_is_8 ?_
    refine lv_iconst (v := nI 1) hx hb dX11_is_11 (by decide +kernel) ?_
    refine lv_icmp_ne (tgt := 35) hx hb dX11_is_12 (by decide) (fun c_2 => ?_) (fun c_2 => ?_)
    · have t_c_2 := z_eqF c_2
      refine lv_iconst (v := nI 0) hx hb dX11_is_35 (by decide +kernel) ?_
      refine lv_istore_n (lv' := [(2, .int (nI 0)), (0, .ref (q 0)), (1, .ref (ad 6))]) hx hb dX11_is_36 rfl hl (by decide) rfl (fun ls hl => ?_)
      refine lv_iconst (v := nI 0) hx hb dX11_is_37 (by decide +kernel) ?_
      refine lv_istore_n (lv' := [(3, .int (nI 0)), (2, .int (nI 0)), (0, .ref (q 0)), (1, .ref (ad 6))]) hx hb dX11_is_38 rfl hl (by decide) rfl (fun ls hl => ?_)
      refine lv_iload_n hx hb dX11_is_39 rfl (lv_at hl 0 rfl) ?_
      refine lv_aload_n hx hb dX11_is_40 rfl (lv_at hl 3 rfl) ?_
      refine z_cNXi (As := []) (rest := [.int (nI 0)]) hx hb hml hown ht (mk_J0_length_8abf5_2 l D q cA ad av t9 F _ _ _ hI ) hw_6_144 hmJ0_length_8abf5 ⟨rfl, rfl⟩ (na := 0) rfl (by decide +kernel) (by decide) (vk_recv hZ.1 (by decide) hS) hK hP hD hS hA (zSS_c (Rs := zMRs) (t9 := t9) (fun _ _ _ => zMRs_c)) (zSS_w (Rs := zMRs) (t9 := t9) (fun _ _ _ => zMRs_w) hN hsz hS) hl.1 rfl (Nat.le_of_ble_eq_true rfl) ⟨Nat.zero_le _, Nat.zero_le _⟩ dX11_is_41 (fun r_5 I_5 R_5 J_5 H locs hp_5 hP hD hS _ _ => ?_)
      obtain ⟨rfl, hu_5⟩ := hp_5
      cases hu_5
      refine lv_icmp_ge (tgt := 82) hx hb dX11_is_44 (by decide) (fun c_0 => absurd c_0 (zD_nle zk_6 zk_0 (by decide))) (fun _ => ?_)
      refine lv_iload_n hx hb dX11_is_47 rfl (lv_at hl 1 rfl) ?_
      refine lv_if_eq (tgt := 82) hx hb dX11_is_48 (by decide) (fun _ => ?_) (fun c_0 => absurd (zD_eq zk_0 zk_z) c_0)
      refine lv_iload_n hx hb dX11_is_82 rfl (lv_at hl 1 rfl) ?_
      exact z_zret (v := nI 0) hx hb hr hlocks hP hD hS (by decide +kernel) dX11_is_83 (Or.inr ⟨rfl, rfl, (mIs_n2 t_c_2)⟩)
    · have t_c_2 := z_eqT c_2
      have f_6 : zR 1 1 (I 0 10) := zR_eqx t_c_2 zk_1
      refine lv_aload_n hx hb dX11_is_15 rfl (lv_at hl 0 rfl) ?_
      refine z_get hx hb ht hown hK hP ziX11 rfl 0 (by decide) 8 (by decide) hw_5_195 rfl (v := .int (I 0 8)) rfl dX11_is_16 ?_
      have f_7 : zR 0 800 (I 0 8) := mI hI 0 8
      refine lv_aload_n hx hb dX11_is_19 rfl (lv_at hl 0 rfl) ?_
      refine z_get hx hb ht hown hK hP ziX11 rfl 0 (by decide) 9 (by decide) hw_5_196 rfl (v := .int (I 0 9)) rfl dX11_is_20 ?_
      have f_8 : zR 0 800 (I 0 9) := mI hI 0 9
      refine lv_isub hx hb dX11_is_23 ?_
      refine lv_topi (fun v_9 ev_9 => ?_)
      have hv_9 : zR (-800) 800 v_9 := ev_9 ▸ zR_sub f_7 f_8 (by decide)
      refine lv_aload_n hx hb dX11_is_24 rfl (lv_at hl 1 rfl) ?_
      refine z_cNXi (As := []) (rest := [.int (v_9)]) hx hb hml hown ht (mk_J0_length_8abf5_2 l D q cA ad av t9 F _ _ _ hI ) hw_6_144 hmJ0_length_8abf5 ⟨rfl, rfl⟩ (na := 0) rfl (by decide +kernel) (by decide) (vk_recv hZ.1 (by decide) hS) hK hP hD hS hA (zSS_c (Rs := zMRs) (t9 := t9) (fun _ _ _ => zMRs_c)) (zSS_w (Rs := zMRs) (t9 := t9) (fun _ _ _ => zMRs_w) hN hsz hS) hl.1 rfl (Nat.le_of_ble_eq_true rfl) ⟨Nat.zero_le _, Nat.zero_le _⟩ dX11_is_25 (fun r_10 I_10 R_10 J_10 H locs hp_10 hP hD hS _ _ => ?_)
      obtain ⟨rfl, hu_10⟩ := hp_10
      cases hu_10
      refine lv_icmp_ne (tgt := 35) hx hb dX11_is_28 (by decide) (fun c_11 => ?_) (fun c_11 => ?_)
      · have t_c_11 := z_eqF c_11
        refine lv_iconst (v := nI 0) hx hb dX11_is_35 (by decide +kernel) ?_
        refine lv_istore_n (lv' := [(2, .int (nI 0)), (0, .ref (q 0)), (1, .ref (ad 6))]) hx hb dX11_is_36 rfl hl (by decide) rfl (fun ls hl => ?_)
        refine lv_iconst (v := nI 0) hx hb dX11_is_37 (by decide +kernel) ?_
        refine lv_istore_n (lv' := [(3, .int (nI 0)), (2, .int (nI 0)), (0, .ref (q 0)), (1, .ref (ad 6))]) hx hb dX11_is_38 rfl hl (by decide) rfl (fun ls hl => ?_)
        refine lv_iload_n hx hb dX11_is_39 rfl (lv_at hl 0 rfl) ?_
        refine lv_aload_n hx hb dX11_is_40 rfl (lv_at hl 3 rfl) ?_
        refine z_cNXi (As := []) (rest := [.int (nI 0)]) hx hb hml hown ht (mk_J0_length_8abf5_2 l D q cA ad av t9 F _ _ _ hI ) hw_6_144 hmJ0_length_8abf5 ⟨rfl, rfl⟩ (na := 0) rfl (by decide +kernel) (by decide) (vk_recv hZ.1 (by decide) hS) hK hP hD hS hA (zSS_c (Rs := zMRs) (t9 := t9) (fun _ _ _ => zMRs_c)) (zSS_w (Rs := zMRs) (t9 := t9) (fun _ _ _ => zMRs_w) hN hsz hS) hl.1 rfl (Nat.le_of_ble_eq_true rfl) ⟨Nat.zero_le _, Nat.zero_le _⟩ dX11_is_41 (fun r_14 I_14 R_14 J_14 H locs hp_14 hP hD hS _ _ => ?_)
        obtain ⟨rfl, hu_14⟩ := hp_14
        cases hu_14
        refine lv_icmp_ge (tgt := 82) hx hb dX11_is_44 (by decide) (fun c_0 => absurd c_0 (zD_nle zk_6 zk_0 (by decide))) (fun _ => ?_)
        refine lv_iload_n hx hb dX11_is_47 rfl (lv_at hl 1 rfl) ?_
        refine lv_if_eq (tgt := 82) hx hb dX11_is_48 (by decide) (fun _ => ?_) (fun c_0 => absurd (zD_eq zk_0 zk_z) c_0)
        refine lv_iload_n hx hb dX11_is_82 rfl (lv_at hl 1 rfl) ?_
        exact z_zret (v := nI 0) hx hb hr hlocks hP hD hS (by decide +kernel) dX11_is_83 (Or.inr ⟨rfl, rfl, (mIs_n3 ev_9 t_c_11)⟩)
      · have t_c_11 := z_eqT c_11
        have f_15 : zR 6 6 (v_9) := zR_eqx t_c_11 zk_6
        have f_16 : zR 0 794 (I 0 9) := z_start f_7 f_8 ev_9 f_15 (by decide)
        refine lv_iconst (v := nI 1) hx hb dX11_is_31 (by decide +kernel) ?_
        refine lv_goto (tgt := 36) hx hb dX11_is_32 (by decide) ?_
        refine lv_istore_n (lv' := [(2, .int (nI 1)), (0, .ref (q 0)), (1, .ref (ad 6))]) hx hb dX11_is_36 rfl hl (by decide) rfl (fun ls hl => ?_)
        refine lv_iconst (v := nI 0) hx hb dX11_is_37 (by decide +kernel) ?_
        refine lv_istore_n (lv' := [(3, .int (nI 0)), (2, .int (nI 1)), (0, .ref (q 0)), (1, .ref (ad 6))]) hx hb dX11_is_38 rfl hl (by decide) rfl (fun ls hl => ?_)
        have loop_71 : ∀ N : Nat, ∀ x_68 : Int32, zR 0 1 x_68 → ∀ x_69 : Int32, zR 0 6 x_69 → (mIsL 6 I R (x_69) (x_68)) → (2147483648 - (x_69).toInt).toNat < N → ∀ (H : Heap) (locs : List Loc), va_P D vwCl (zw 25 q (zMd q cA) I R J) H → va_D (zA 25 q sz) (zw 25 q (zMd q cA) I R J) → va_S (zA 25 q sz) s.heap H locs → ∀ ls : Array Slot, lv_has ls 4 [(0, .ref (q 0)), (1, .ref (ad 6)), (2, .int (x_68)), (3, .int (x_69))] → W p l e ({ frames := 4, cells := 0, slots := 0, locals := 85 } : Room) s m ([.ref (q 0), .ref (ad 6)] : List Value).toArray below meth c H locs 0 0 (MQ below (va_Qi (fun r u => (r = nI 1 ∧ u = (I, R, J) ∧ mIs 6 I R) ∨ (r = nI 0 ∧ u = (I, R, J) ∧ ¬ mIs 6 I R)) (zB D vwCl 25 q (zMd q cA) sz) (zA 25 q sz)) ([.ref (q 0), .ref (ad 6)] : List Value).toArray s 0 0 (zA 25 q sz)) (F0 m 39 ls []) := by
          intro N
          induction N with
          | zero => intro x_68 hx_68 x_69 hx_69 hx_70 hN; exact absurd hN (Nat.not_lt_zero _)
          | succ N ih_73 =>
            intro x_68 hx_68 x_69 hx_69 hx_70 hN_72 H locs hP hD hS ls hl
            refine lv_iload_n hx hb dX11_is_39 rfl (lv_at hl 3 rfl) ?_
            refine lv_aload_n hx hb dX11_is_40 rfl (lv_at hl 1 rfl) ?_
            refine z_cNXi (As := []) (rest := [.int (x_69)]) hx hb hml hown ht (mk_J0_length_8abf5_2 l D q cA ad av t9 F _ _ _ hI ) hw_6_144 hmJ0_length_8abf5 ⟨rfl, rfl⟩ (na := 0) rfl (by decide +kernel) (by decide) (vk_recv hZ.1 (by decide) hS) hK hP hD hS hA (zSS_c (Rs := zMRs) (t9 := t9) (fun _ _ _ => zMRs_c)) (zSS_w (Rs := zMRs) (t9 := t9) (fun _ _ _ => zMRs_w) hN hsz hS) hl.1 rfl (Nat.le_of_ble_eq_true rfl) ⟨Nat.zero_le _, Nat.zero_le _⟩ dX11_is_41 (fun r_74 I_74 R_74 J_74 H locs hp_74 hP hD hS _ _ => ?_)
            obtain ⟨rfl, hu_74⟩ := hp_74
            cases hu_74
            refine lv_icmp_ge (tgt := 82) hx hb dX11_is_44 (by decide) (fun c_75 => ?_) (fun c_75 => ?_)
            · have t_c_75 := z_leT c_75
              have f_76 : zR 6 6 (x_69) := zR_ley t_c_75 zk_6 hx_69 (by decide)
              refine lv_iload_n hx hb dX11_is_82 rfl (lv_at hl 2 rfl) ?_
              exact z_zret (v := x_68) hx hb hr hlocks hP hD hS (zR_bool (a := 0) (b := 1) hx_68 (by decide)).1 dX11_is_83 (mIs_r1 hx_70 hx_68 t_c_75)
            · have t_c_75 := z_leF c_75
              have f_77 : zR 0 5 (x_69) := zR_ltx t_c_75 hx_69 zk_6 (by decide)
              refine lv_iload_n hx hb dX11_is_47 rfl (lv_at hl 2 rfl) ?_
              refine lv_if_eq (tgt := 82) hx hb dX11_is_48 (by decide) (fun c_78 => ?_) (fun c_78 => ?_)
              · have t_c_78 := z_eqT c_78
                have f_79 : zR 0 0 (x_68) := zR_eqx t_c_78 zk_z
                refine lv_iload_n hx hb dX11_is_82 rfl (lv_at hl 2 rfl) ?_
                exact z_zret (v := x_68) hx hb hr hlocks hP hD hS (zR_bool (a := 0) (b := 1) (zR_w f_79 (by decide)) (by decide)).1 dX11_is_83 (mIs_r0 hx_70 f_79)
              · have t_c_78 := z_eqF c_78
                have f_80 : zR 1 1 (x_68) := zR_nex t_c_78 hx_68 zk_z (by decide)
                refine lv_aload_n hx hb dX11_is_51 rfl (lv_at hl 0 rfl) ?_
                refine z_get hx hb ht hown hK hP ziX11 rfl 0 (by decide) 4 (by decide) hw_5_191 rfl (v := .ref (q 4)) rfl dX11_is_52 ?_
                refine lv_aload_n hx hb dX11_is_55 rfl (lv_at hl 0 rfl) ?_
                refine z_get hx hb ht hown hK hP ziX11 rfl 0 (by decide) 9 (by decide) hw_5_196 rfl (v := .int (I 0 9)) rfl dX11_is_56 ?_
                refine lv_iload_n hx hb dX11_is_59 rfl (lv_at hl 3 rfl) ?_
                refine lv_iadd hx hb dX11_is_60 ?_
                refine lv_topi (fun v_81 ev_81 => ?_)
                have hv_81 : zR 0 799 v_81 := ev_81 ▸ zR_add f_16 f_77 (by decide)
                refine z_bald hx hb hK hP 4 (by decide) 3 rfl rfl (zR_vin hv_81 (by decide)) dX11_is_61 ?_
                refine z_eqi (y := R 4 (v_81).toNatClampNeg) rfl ?_
                refine lv_aload_n hx hb dX11_is_62 rfl (lv_at hl 1 rfl) ?_
                refine lv_iload_n hx hb dX11_is_63 rfl (lv_at hl 3 rfl) ?_
                refine z_cNXi (As := [.int (x_69)]) (rest := [.int (R 4 (v_81).toNatClampNeg)]) hx hb hml hown ht (mk_J0_charAt_5068e_5 l D q cA ad av t9 F _ _ _ hI (x_69) f_77) hw_6_145 hmJ0_charAt_5068e ⟨rfl, rfl⟩ (na := 1) rfl (by decide +kernel) (by decide) (vk_recv hZ.1 (by decide) hS) hK hP hD hS hA (zSS_c (Rs := zMRs) (t9 := t9) (fun _ _ _ => zMRs_c)) (zSS_w (Rs := zMRs) (t9 := t9) (fun _ _ _ => zMRs_w) hN hsz hS) hl.1 rfl (Nat.le_of_ble_eq_true rfl) ⟨Nat.zero_le _, Nat.zero_le _⟩ dX11_is_64 (fun r_82 I_82 R_82 J_82 H locs hp_82 hP hD hS _ _ => ?_)
                obtain ⟨⟨rfl, hr_82⟩, hu_82⟩ := hp_82
                cases hu_82
                refine lv_icmp_ne (tgt := 74) hx hb dX11_is_67 (by decide) (fun c_83 => ?_) (fun c_83 => ?_)
                · have t_c_83 := z_eqF c_83
                  refine lv_iconst (v := nI 0) hx hb dX11_is_74 (by decide +kernel) ?_
                  refine lv_istore_n (lv' := [(2, .int (nI 0)), (0, .ref (q 0)), (1, .ref (ad 6)), (3, .int (x_69))]) hx hb dX11_is_75 rfl hl (by decide) rfl (fun ls hl => ?_)
                  obtain ⟨v_84, ev_84⟩ : ∃ y : Int32, y = x_69 + nI 1 := ⟨_, rfl⟩
                  have hv_84 : zR 1 6 v_84 := ev_84 ▸ zR_add f_77 zk_1 (by decide)
                  have mv_84 : v_84.toInt = (x_69).toInt + 1 := by rw [ev_84, zR_addE f_77 zk_1 (by decide)]; rfl
                  refine lv_iinc (v := v_84) (lv' := [(3, .int (v_84)), (2, .int (nI 0)), (0, .ref (q 0)), (1, .ref (ad 6))]) hx hb dX11_is_76 hl (k := 3) rfl (ev_84 ▸ rfl) (by decide) rfl (fun ls hl => ?_)
                  refine lv_goto (tgt := 39) hx hb dX11_is_79 (by decide) ?_
                  exact ih_73 (nI 0) (zR_w zk_0 (by decide)) (v_84) (zR_w hv_84 (by decide)) (mIsL_n hx_70 f_80 t_c_75 t_c_83 (mIs_ix (zR_w f_16 (by decide)) (zR_w f_77 (by decide)) ev_81)) (z2_up mv_84 (by decide) hN_72) _ _ hP hD hS _ (lv_sub hl [2, 3, 1, 0] rfl)
                · have t_c_83 := z_eqT c_83
                  have f_85 : zR 0 65535 (R 4 (v_81).toNatClampNeg) := zR_eqx t_c_83 hr_82
                  refine lv_iconst (v := nI 1) hx hb dX11_is_70 (by decide +kernel) ?_
                  refine lv_goto (tgt := 75) hx hb dX11_is_71 (by decide) ?_
                  refine lv_istore_n (lv' := [(2, .int (nI 1)), (0, .ref (q 0)), (1, .ref (ad 6)), (3, .int (x_69))]) hx hb dX11_is_75 rfl hl (by decide) rfl (fun ls hl => ?_)
                  obtain ⟨v_86, ev_86⟩ : ∃ y : Int32, y = x_69 + nI 1 := ⟨_, rfl⟩
                  have hv_86 : zR 1 6 v_86 := ev_86 ▸ zR_add f_77 zk_1 (by decide)
                  have mv_86 : v_86.toInt = (x_69).toInt + 1 := by rw [ev_86, zR_addE f_77 zk_1 (by decide)]; rfl
                  refine lv_iinc (v := v_86) (lv' := [(3, .int (v_86)), (2, .int (nI 1)), (0, .ref (q 0)), (1, .ref (ad 6))]) hx hb dX11_is_76 hl (k := 3) rfl (ev_86 ▸ rfl) (by decide) rfl (fun ls hl => ?_)
                  refine lv_goto (tgt := 39) hx hb dX11_is_79 (by decide) ?_
                  exact ih_73 (nI 1) (zR_w zk_1 (by decide)) (v_86) (zR_w hv_86 (by decide)) (mIsL_1 hx_70 f_80 mv_86 t_c_83 (mIs_ix (zR_w f_16 (by decide)) (zR_w f_77 (by decide)) ev_81)) (z2_up mv_86 (by decide) hN_72) _ _ hP hD hS _ (lv_sub hl [2, 3, 1, 0] rfl)
        exact loop_71 _ (nI 1) (zR_w zk_1 (by decide)) (nI 0) (zR_w zk_0 (by decide)) (mIsL_0 (mIs_a3 nn_1 t_c_2 ev_9 f_15)) (Nat.lt_succ_self _) _ _ hP hD hS _ (lv_sub hl [2, 3, 1, 0] rfl)
  · cases hu_1
    refine lv_if_eq (tgt := 35) hx hb dX11_is_4 (by decide) (fun _ => ?_) (fun c_0 => absurd (zD_eq zk_0 zk_z) c_0)
    refine lv_iconst (v := nI 0) hx hb dX11_is_35 (by decide +kernel) ?_
    refine lv_istore_n (lv' := [(2, .int (nI 0)), (0, .ref (q 0)), (1, .ref (ad 6))]) hx hb dX11_is_36 rfl hl (by decide) rfl (fun ls hl => ?_)
    refine lv_iconst (v := nI 0) hx hb dX11_is_37 (by decide +kernel) ?_
    refine lv_istore_n (lv' := [(3, .int (nI 0)), (2, .int (nI 0)), (0, .ref (q 0)), (1, .ref (ad 6))]) hx hb dX11_is_38 rfl hl (by decide) rfl (fun ls hl => ?_)
    refine lv_iload_n hx hb dX11_is_39 rfl (lv_at hl 0 rfl) ?_
    refine lv_aload_n hx hb dX11_is_40 rfl (lv_at hl 3 rfl) ?_
    refine z_cNXi (As := []) (rest := [.int (nI 0)]) hx hb hml hown ht (mk_J0_length_8abf5_2 l D q cA ad av t9 F _ _ _ hI ) hw_6_144 hmJ0_length_8abf5 ⟨rfl, rfl⟩ (na := 0) rfl (by decide +kernel) (by decide) (vk_recv hZ.1 (by decide) hS) hK hP hD hS hA (zSS_c (Rs := zMRs) (t9 := t9) (fun _ _ _ => zMRs_c)) (zSS_w (Rs := zMRs) (t9 := t9) (fun _ _ _ => zMRs_w) hN hsz hS) hl.1 rfl (Nat.le_of_ble_eq_true rfl) ⟨Nat.zero_le _, Nat.zero_le _⟩ dX11_is_41 (fun r_89 I_89 R_89 J_89 H locs hp_89 hP hD hS _ _ => ?_)
    obtain ⟨rfl, hu_89⟩ := hp_89
    cases hu_89
    refine lv_icmp_ge (tgt := 82) hx hb dX11_is_44 (by decide) (fun c_0 => absurd c_0 (zD_nle zk_6 zk_0 (by decide))) (fun _ => ?_)
    refine lv_iload_n hx hb dX11_is_47 rfl (lv_at hl 1 rfl) ?_
    refine lv_if_eq (tgt := 82) hx hb dX11_is_48 (by decide) (fun _ => ?_) (fun c_0 => absurd (zD_eq zk_0 zk_z) c_0)
    refine lv_iload_n hx hb dX11_is_82 rfl (lv_at hl 1 rfl) ?_
    exact z_zret (v := nI 0) hx hb hr hlocks hP hD hS (by decide +kernel) dX11_is_83 (Or.inr ⟨rfl, rfl, (mIs_n1 nn_1)⟩)
set_option maxHeartbeats 4000000 in
set_option maxRecDepth 100000 in
theorem mk_X11_takes_2 (l : Launch) (D : va_G) (q : Nat → Nat) (cA : Nat → ClassId) (ad av : Nat → Nat) (t9 : Nat) (F : Nat → Nat → Int32) (I R : Nat → Nat → Int32) (J : Nat → Nat → Int64) (hI : mInv F (I, R, J))  : zNi (zSS zMRs 25 q ad av t9) l D vwCl (zMtys cA) 25 q (zMd q cA) yX11_takes cX11_takes 3 (some .boolean) ({ frames := 5, cells := 0, slots := 0, locals := 108 } : Room) [.ref (q 0), .ref (ad 6)] (I, R, J) (fun r u => (r = nI 1 ∧ ((mInv F u ∧ (∀ k, k ≠ 0 → u.1 k = I k) ∧ u.2 = (R, J)) ∧ mTr I u.1) ∧ mIs 6 I R) ∨ (r = nI 0 ∧ u = (I, R, J) ∧ ¬ mIs 6 I R)) := by
  intro sz
  refine z_bodyN (by decide +kernel) (Nat.le_of_ble_eq_true rfl) (fun p e s m below meth c ls hx hb hml hr ht hown hlocks hsz hK hP hD hS hN hl => ?_)
  have hA : ∀ a, s.heap.size ≤ a → zA 25 q sz a := fun a h => Or.inr (hsz ▸ h)
  have hl : lv_has ls 3 [(0, .ref (q 0)), (1, .ref (ad 6))] := hl
  have hZ : zSz zMRs 25 q ad av t9 sz s := hsz ▸ hN
  refine lv_aload_n hx hb dX11_takes_0 rfl (lv_at hl 0 rfl) ?_
  refine lv_aload_n hx hb dX11_takes_1 rfl (lv_at hl 1 rfl) ?_
  refine z_cNVi (k := 0) (As := [.ref (ad 6)]) (rest := []) hx hb hml hown ht (mk_X11_is_2 l D q cA ad av t9 F _ _ _ hI ) hw_6_140 hmX11_is ⟨rfl, rfl⟩ (na := 1) rfl (by decide +kernel) (by decide) (by decide) rfl rfl hK hP hD hS hA (zSS_c (Rs := zMRs) (t9 := t9) (fun _ _ _ => zMRs_c)) (zSS_w (Rs := zMRs) (t9 := t9) (fun _ _ _ => zMRs_w) hN hsz hS) hl.1 rfl (Nat.le_of_ble_eq_true rfl) ⟨Nat.zero_le _, Nat.zero_le _⟩ dX11_takes_2 (fun r_1 I_1 R_1 J_1 H locs hp_1 hP hD hS _ _ => ?_)
  rcases hp_1 with ⟨rfl, hu_1, nn_1⟩ | ⟨rfl, hu_1, nn_1⟩
  · cases hu_1
    refine lv_istore_n (lv' := [(2, .int (nI 1)), (0, .ref (q 0)), (1, .ref (ad 6))]) hx hb dX11_takes_5 rfl hl (by decide) rfl (fun ls hl => ?_)
    refine lv_iload_n hx hb dX11_takes_6 rfl (lv_at hl 0 rfl) ?_
    refine lv_if_eq (tgt := 14) hx hb dX11_takes_7 (by decide) (fun c_0 => absurd c_0 (zD_ne zk_1 zk_z (by decide))) (fun _ => ?_)
    refine lv_aload_n hx hb dX11_takes_10 rfl (lv_at hl 1 rfl) ?_
    refine z_callVv (k := 0) (As := []) (rest := []) hx hb hml hown ht (mk_X11_advance l D q cA F _ _ _ hI ) hw_6_109 hmX11_advance ⟨rfl, rfl⟩ (na := 0) rfl (by decide +kernel) (by decide) (by decide) rfl rfl hK hP hD hS hA hl.1 rfl (Nat.le_of_ble_eq_true rfl) ⟨Nat.zero_le _, Nat.zero_le _⟩ dX11_takes_11 (fun I_2 R_2 J_2 H locs hp_2 hP hD hS _ _ => ?_)
    obtain ⟨hq_2, he_2⟩ := hp_2
    try dsimp only at he_2
    obtain ⟨hv_2, hk_2, hj_2⟩ := hq_2
    try dsimp only at hj_2 hk_2
    cases hj_2
    have hf_3 : ∀ k, k ≠ 0 → I_2 k = I k := fun k h => (hk_2 k h).trans ((fun (_ : Nat) _ => rfl) k h)
    refine lv_iload_n hx hb dX11_takes_14 rfl (lv_at hl 0 rfl) ?_
    exact z_zret (v := nI 1) hx hb hr hlocks hP hD hS (by decide +kernel) dX11_takes_15 (Or.inl ⟨rfl, ⟨⟨hv_2, hf_3, rfl⟩, he_2⟩, nn_1⟩)
  · cases hu_1
    refine lv_istore_n (lv' := [(2, .int (nI 0)), (0, .ref (q 0)), (1, .ref (ad 6))]) hx hb dX11_takes_5 rfl hl (by decide) rfl (fun ls hl => ?_)
    refine lv_iload_n hx hb dX11_takes_6 rfl (lv_at hl 0 rfl) ?_
    refine lv_if_eq (tgt := 14) hx hb dX11_takes_7 (by decide) (fun _ => ?_) (fun c_0 => absurd (zD_eq zk_0 zk_z) c_0)
    refine lv_iload_n hx hb dX11_takes_14 rfl (lv_at hl 0 rfl) ?_
    exact z_zret (v := nI 0) hx hb hr hlocks hP hD hS (by decide +kernel) dX11_takes_15 (Or.inr ⟨rfl, rfl, nn_1⟩)
set_option maxHeartbeats 4000000 in
set_option maxRecDepth 100000 in
theorem mk_J0_coder_7d493_3 (l : Launch) (D : va_G) (q : Nat → Nat) (cA : Nat → ClassId) (ad av : Nat → Nat) (t9 : Nat) (F : Nat → Nat → Int32) (I R : Nat → Nat → Int32) (J : Nat → Nat → Int64) (hI : mInv F (I, R, J))  : zNi (zSS zMRs 25 q ad av t9) l D vwCl (zMtys cA) 25 q (zMd q cA) yJ0_coder_7d493 cJ0_coder_7d493 1 (some .byte) ({ frames := 0, cells := 0, slots := 0, locals := 0 } : Room) [.ref (ad 7)] (I, R, J) (fun r u => r = nI 0 ∧ u = (I, R, J)) := by
  intro sz
  refine z_bodyN (by decide +kernel) (Nat.le_of_ble_eq_true rfl) (fun p e s m below meth c ls hx hb hml hr ht hown hlocks hsz hK hP hD hS hN hl => ?_)
  have hA : ∀ a, s.heap.size ≤ a → zA 25 q sz a := fun a h => Or.inr (hsz ▸ h)
  have hl : lv_has ls 1 [(0, .ref (ad 7))] := hl
  have hZ : zSz zMRs 25 q ad av t9 sz s := hsz ▸ hN
  refine va_gets hx hb hZ.2.1 hS hown (ht _ hw_2_195) (fun _ h => h) dJ0_coder_7d493_0 ?_
  refine z_eqi (y := nI 1) rfl ?_
  refine lv_if_eq (tgt := 13) hx hb dJ0_coder_7d493_3 (by decide) (fun c_0 => absurd c_0 (zD_ne zk_1 zk_z (by decide))) (fun _ => ?_)
  refine lv_aload_n hx hb dJ0_coder_7d493_6 rfl (lv_at hl 0 rfl) ?_
  refine vk_getf hx hb (hZ.1.1 7 (by decide)).2.1 hS hown (ht _ hw_8_165) (fun _ h => h) dJ0_coder_7d493_7 ?_
  refine z_eqi (y := nI 0) rfl ?_
  refine lv_goto (tgt := 14) hx hb dJ0_coder_7d493_10 (by decide) ?_
  exact z_zret (v := nI 0) hx hb hr hlocks hP hD hS (by decide +kernel) dJ0_coder_7d493_14 ⟨rfl, rfl⟩
set_option maxHeartbeats 4000000 in
set_option maxRecDepth 100000 in
theorem mk_J0_length_8abf5_3 (l : Launch) (D : va_G) (q : Nat → Nat) (cA : Nat → ClassId) (ad av : Nat → Nat) (t9 : Nat) (F : Nat → Nat → Int32) (I R : Nat → Nat → Int32) (J : Nat → Nat → Int64) (hI : mInv F (I, R, J))  : zNi (zSS zMRs 25 q ad av t9) l D vwCl (zMtys cA) 25 q (zMd q cA) yJ0_length_8abf5 cJ0_length_8abf5 1 (some .int) ({ frames := 1, cells := 0, slots := 0, locals := 20 } : Room) [.ref (ad 7)] (I, R, J) (fun r u => r = nI 5 ∧ u = (I, R, J)) := by
  intro sz
  refine z_bodyN (by decide +kernel) (Nat.le_of_ble_eq_true rfl) (fun p e s m below meth c ls hx hb hml hr ht hown hlocks hsz hK hP hD hS hN hl => ?_)
  have hA : ∀ a, s.heap.size ≤ a → zA 25 q sz a := fun a h => Or.inr (hsz ▸ h)
  have hl : lv_has ls 1 [(0, .ref (ad 7))] := hl
  have hZ : zSz zMRs 25 q ad av t9 sz s := hsz ▸ hN
  refine lv_aload_n hx hb dJ0_length_8abf5_0 rfl (lv_at hl 0 rfl) ?_
  refine vk_getf hx hb (hZ.1.1 7 (by decide)).2.2.1 hS hown (ht _ hw_8_164) (fun _ h => h) dJ0_length_8abf5_1 ?_
  refine va_tlen hx hb (hZ.1.1 7 (by decide)).2.2.2 hS (v := nI 5) rfl dJ0_length_8abf5_4 ?_
  refine lv_aload_n hx hb dJ0_length_8abf5_5 rfl (lv_at hl 0 rfl) ?_
  refine z_cNXi (As := []) (rest := [.int (nI 5)]) hx hb hml hown ht (mk_J0_coder_7d493_3 l D q cA ad av t9 F _ _ _ hI ) hw_2_191 hmJ0_coder_7d493 ⟨rfl, rfl⟩ (na := 0) rfl (by decide +kernel) (by decide) (vk_recv hZ.1 (by decide) hS) hK hP hD hS hA (zSS_c (Rs := zMRs) (t9 := t9) (fun _ _ _ => zMRs_c)) (zSS_w (Rs := zMRs) (t9 := t9) (fun _ _ _ => zMRs_w) hN hsz hS) hl.1 rfl (Nat.le_of_ble_eq_true rfl) ⟨Nat.zero_le _, Nat.zero_le _⟩ dJ0_length_8abf5_6 (fun r_1 I_1 R_1 J_1 H locs hp_1 hP hD hS _ _ => ?_)
  obtain ⟨rfl, hu_1⟩ := hp_1
  cases hu_1
  refine lv_ishr hx hb dJ0_length_8abf5_9 ?_
  refine z_eqi (y := nI 5) (by decide +kernel) ?_
  exact z_iret (v := nI 5) hx hb hr hlocks hP hD hS dJ0_length_8abf5_10 ⟨rfl, rfl⟩
set_option maxHeartbeats 4000000 in
set_option maxRecDepth 100000 in
theorem mk_J0_isLatin1_aae02_3 (l : Launch) (D : va_G) (q : Nat → Nat) (cA : Nat → ClassId) (ad av : Nat → Nat) (t9 : Nat) (F : Nat → Nat → Int32) (I R : Nat → Nat → Int32) (J : Nat → Nat → Int64) (hI : mInv F (I, R, J))  : zNi (zSS zMRs 25 q ad av t9) l D vwCl (zMtys cA) 25 q (zMd q cA) yJ0_isLatin1_aae02 cJ0_isLatin1_aae02 1 (some .boolean) ({ frames := 0, cells := 0, slots := 0, locals := 0 } : Room) [.ref (ad 7)] (I, R, J) (fun r u => (r = nI 1 ∧ u = (I, R, J))) := by
  intro sz
  refine z_bodyN (by decide +kernel) (Nat.le_of_ble_eq_true rfl) (fun p e s m below meth c ls hx hb hml hr ht hown hlocks hsz hK hP hD hS hN hl => ?_)
  have hA : ∀ a, s.heap.size ≤ a → zA 25 q sz a := fun a h => Or.inr (hsz ▸ h)
  have hl : lv_has ls 1 [(0, .ref (ad 7))] := hl
  have hZ : zSz zMRs 25 q ad av t9 sz s := hsz ▸ hN
  refine va_gets hx hb hZ.2.1 hS hown (ht _ hw_2_195) (fun _ h => h) dJ0_isLatin1_aae02_0 ?_
  refine z_eqi (y := nI 1) rfl ?_
  refine lv_if_eq (tgt := 17) hx hb dJ0_isLatin1_aae02_3 (by decide) (fun c_0 => absurd c_0 (zD_ne zk_1 zk_z (by decide))) (fun _ => ?_)
  refine lv_aload_n hx hb dJ0_isLatin1_aae02_6 rfl (lv_at hl 0 rfl) ?_
  refine vk_getf hx hb (hZ.1.1 7 (by decide)).2.1 hS hown (ht _ hw_8_165) (fun _ h => h) dJ0_isLatin1_aae02_7 ?_
  refine z_eqi (y := nI 0) rfl ?_
  refine lv_if_ne (tgt := 17) hx hb dJ0_isLatin1_aae02_10 (by decide) (fun c_0 => absurd (zD_eq zk_0 zk_z) c_0) (fun _ => ?_)
  refine lv_iconst (v := nI 1) hx hb dJ0_isLatin1_aae02_13 (by decide +kernel) ?_
  refine lv_goto (tgt := 18) hx hb dJ0_isLatin1_aae02_14 (by decide) ?_
  exact z_zret (v := nI 1) hx hb hr hlocks hP hD hS (by decide +kernel) dJ0_isLatin1_aae02_18 ⟨rfl, rfl⟩
set_option maxHeartbeats 4000000 in
set_option maxRecDepth 100000 in
theorem mk_J1_charAt_3b067_7 (l : Launch) (D : va_G) (q : Nat → Nat) (cA : Nat → ClassId) (ad av : Nat → Nat) (t9 : Nat) (F : Nat → Nat → Int32) (I R : Nat → Nat → Int32) (J : Nat → Nat → Int64) (hI : mInv F (I, R, J)) (pa1 : Int32) (hpa1 : zR 0 4 pa1) : zNi (zSS zMRs 25 q ad av t9) l D vwCl (zMtys cA) 25 q (zMd q cA) yJ1_charAt_3b067 cJ1_charAt_3b067 2 (some .char) ({ frames := 2, cells := 0, slots := 0, locals := 43 } : Room) [.ref (av 7), .int (pa1)] (I, R, J) (fun r u => (r = zch 7 (pa1).toNatClampNeg ∧ zR 0 65535 r) ∧ u = (I, R, J)) := by
  intro sz
  refine z_bodyN (by decide +kernel) (Nat.le_of_ble_eq_true rfl) (fun p e s m below meth c ls hx hb hml hr ht hown hlocks hsz hK hP hD hS hN hl => ?_)
  have hA : ∀ a, s.heap.size ≤ a → zA 25 q sz a := fun a h => Or.inr (hsz ▸ h)
  have hl : lv_has ls 2 [(0, .ref (av 7)), (1, .int (pa1))] := hl
  have hZ : zSz zMRs 25 q ad av t9 sz s := hsz ▸ hN
  refine lv_iload_n hx hb dJ1_charAt_3b067_0 rfl (lv_at hl 1 rfl) ?_
  refine lv_aload_n hx hb dJ1_charAt_3b067_1 rfl (lv_at hl 0 rfl) ?_
  refine va_tlen hx hb (hZ.1.1 7 (by decide)).2.2.2 hS (v := nI 5) rfl dJ1_charAt_3b067_2 ?_
  refine z_cNSv (As := [.int (pa1), .int (nI 5)]) (rest := []) hx hb hml hown ht (mk_J0_checkIndex_df160_1 l D q cA ad av t9 F _ _ _ hI (pa1) hpa1) hw_2_208 hmJ0_checkIndex_df160 ⟨rfl, rfl⟩ (na := 2) rfl (by decide +kernel) (by decide) hK hP hD hS hA (zSS_c (Rs := zMRs) (t9 := t9) (fun _ _ _ => zMRs_c)) (zSS_w (Rs := zMRs) (t9 := t9) (fun _ _ _ => zMRs_w) hN hsz hS) hl.1 rfl (Nat.le_of_ble_eq_true rfl) ⟨Nat.zero_le _, Nat.zero_le _⟩ dJ1_charAt_3b067_3 (fun I_1 R_1 J_1 H locs hp_1 hP hD hS _ _ => ?_)
  cases hp_1
  refine lv_aload_n hx hb dJ1_charAt_3b067_6 rfl (lv_at hl 0 rfl) ?_
  refine lv_iload_n hx hb dJ1_charAt_3b067_7 rfl (lv_at hl 1 rfl) ?_
  refine va_tb hx hb (hZ.1.1 7 (by decide)).2.2.2 hS (zR_vin hpa1 (by decide)) (v := .int ((zByt.getD 7 []).getD (pa1).toNatClampNeg 0)) rfl dJ1_charAt_3b067_8 ?_
  refine lv_sipush (v := nI 255) hx hb dJ1_charAt_3b067_9 (by decide +kernel) ?_
  refine lv_iand hx hb dJ1_charAt_3b067_12 ?_
  refine lv_i2c (v := ((((zByt.getD 7 []).getD (pa1).toNatClampNeg 0) &&& (nI 255)).toUInt32 % 65536).toInt32) hx hb dJ1_charAt_3b067_13 rfl ?_
  exact z_zret (v := ((((zByt.getD 7 []).getD (pa1).toNatClampNeg 0) &&& (nI 255)).toUInt32 % 65536).toInt32) hx hb hr hlocks hP hD hS (zR_char (zR_i2c _)) dJ1_charAt_3b067_14 ⟨⟨rfl, (zR_i2c _)⟩, rfl⟩
set_option maxHeartbeats 4000000 in
set_option maxRecDepth 100000 in
theorem mk_J0_charAt_5068e_7 (l : Launch) (D : va_G) (q : Nat → Nat) (cA : Nat → ClassId) (ad av : Nat → Nat) (t9 : Nat) (F : Nat → Nat → Int32) (I R : Nat → Nat → Int32) (J : Nat → Nat → Int64) (hI : mInv F (I, R, J)) (pa0 : Int32) (hpa0 : zR 0 4 pa0) : zNi (zSS zMRs 25 q ad av t9) l D vwCl (zMtys cA) 25 q (zMd q cA) yJ0_charAt_5068e cJ0_charAt_5068e 2 (some .char) ({ frames := 3, cells := 0, slots := 0, locals := 64 } : Room) [.ref (ad 7), .int (pa0)] (I, R, J) (fun r u => (r = zch 7 (pa0).toNatClampNeg ∧ zR 0 65535 r) ∧ u = (I, R, J)) := by
  intro sz
  refine z_bodyN (by decide +kernel) (Nat.le_of_ble_eq_true rfl) (fun p e s m below meth c ls hx hb hml hr ht hown hlocks hsz hK hP hD hS hN hl => ?_)
  have hA : ∀ a, s.heap.size ≤ a → zA 25 q sz a := fun a h => Or.inr (hsz ▸ h)
  have hl : lv_has ls 2 [(0, .ref (ad 7)), (1, .int (pa0))] := hl
  have hZ : zSz zMRs 25 q ad av t9 sz s := hsz ▸ hN
  refine lv_aload_n hx hb dJ0_charAt_5068e_0 rfl (lv_at hl 0 rfl) ?_
  refine z_cNXi (As := []) (rest := []) hx hb hml hown ht (mk_J0_isLatin1_aae02_3 l D q cA ad av t9 F _ _ _ hI ) hw_2_201 hmJ0_isLatin1_aae02 ⟨rfl, rfl⟩ (na := 0) rfl (by decide +kernel) (by decide) (vk_recv hZ.1 (by decide) hS) hK hP hD hS hA (zSS_c (Rs := zMRs) (t9 := t9) (fun _ _ _ => zMRs_c)) (zSS_w (Rs := zMRs) (t9 := t9) (fun _ _ _ => zMRs_w) hN hsz hS) hl.1 rfl (Nat.le_of_ble_eq_true rfl) ⟨Nat.zero_le _, Nat.zero_le _⟩ dJ0_charAt_5068e_1 (fun r_1 I_1 R_1 J_1 H locs hp_1 hP hD hS _ _ => ?_)
  obtain ⟨rfl, hu_1⟩ := hp_1
  cases hu_1
  refine lv_if_eq (tgt := 16) hx hb dJ0_charAt_5068e_4 (by decide) (fun c_0 => absurd c_0 (zD_ne zk_1 zk_z (by decide))) (fun _ => ?_)
  refine lv_aload_n hx hb dJ0_charAt_5068e_7 rfl (lv_at hl 0 rfl) ?_
  refine vk_getf hx hb (hZ.1.1 7 (by decide)).2.2.1 hS hown (ht _ hw_8_164) (fun _ h => h) dJ0_charAt_5068e_8 ?_
  refine lv_iload_n hx hb dJ0_charAt_5068e_11 rfl (lv_at hl 1 rfl) ?_
  refine z_cNSi (As := [.ref (av 7), .int (pa0)]) (rest := []) hx hb hml hown ht (mk_J1_charAt_3b067_7 l D q cA ad av t9 F _ _ _ hI (pa0) hpa0) hw_2_205 hmJ1_charAt_3b067 ⟨rfl, rfl⟩ (na := 2) rfl (by decide +kernel) (by decide) hK hP hD hS hA (zSS_c (Rs := zMRs) (t9 := t9) (fun _ _ _ => zMRs_c)) (zSS_w (Rs := zMRs) (t9 := t9) (fun _ _ _ => zMRs_w) hN hsz hS) hl.1 rfl (Nat.le_of_ble_eq_true rfl) ⟨Nat.zero_le _, Nat.zero_le _⟩ dJ0_charAt_5068e_12 (fun r_2 I_2 R_2 J_2 H locs hp_2 hP hD hS _ _ => ?_)
  obtain ⟨⟨rfl, hr_2⟩, hu_2⟩ := hp_2
  cases hu_2
  exact z_zret (v := zch 7 (pa0).toNatClampNeg) hx hb hr hlocks hP hD hS (zR_char hr_2) dJ0_charAt_5068e_15 ⟨⟨rfl, hr_2⟩, rfl⟩
set_option maxHeartbeats 4000000 in
set_option maxRecDepth 100000 in
theorem mk_X11_is_3 (l : Launch) (D : va_G) (q : Nat → Nat) (cA : Nat → ClassId) (ad av : Nat → Nat) (t9 : Nat) (F : Nat → Nat → Int32) (I R : Nat → Nat → Int32) (J : Nat → Nat → Int64) (hI : mInv F (I, R, J))  : zNi (zSS zMRs 25 q ad av t9) l D vwCl (zMtys cA) 25 q (zMd q cA) yX11_is cX11_is 4 (some .boolean) ({ frames := 4, cells := 0, slots := 0, locals := 85 } : Room) [.ref (q 0), .ref (ad 7)] (I, R, J) (fun r u => (r = nI 1 ∧ u = (I, R, J) ∧ mIs 7 I R) ∨ (r = nI 0 ∧ u = (I, R, J) ∧ ¬ mIs 7 I R)) := by
  intro sz
  refine z_bodyN (by decide +kernel) (Nat.le_of_ble_eq_true rfl) (fun p e s m below meth c ls hx hb hml hr ht hown hlocks hsz hK hP hD hS hN hl => ?_)
  have hA : ∀ a, s.heap.size ≤ a → zA 25 q sz a := fun a h => Or.inr (hsz ▸ h)
  have hl : lv_has ls 4 [(0, .ref (q 0)), (1, .ref (ad 7))] := hl
  have hZ : zSz zMRs 25 q ad av t9 sz s := hsz ▸ hN
  refine lv_aload_n hx hb dX11_is_0 rfl (lv_at hl 0 rfl) ?_
  refine z_callVi (k := 0) (As := []) (rest := []) hx hb hml hown ht (mk_X11_good l D q cA F _ _ _ hI ) hw_6_123 hmX11_good ⟨rfl, rfl⟩ (na := 0) rfl (by decide +kernel) (by decide) (by decide) rfl rfl hK hP hD hS hA hl.1 rfl (Nat.le_of_ble_eq_true rfl) ⟨Nat.zero_le _, Nat.zero_le _⟩ dX11_is_1 (fun r_1 I_1 R_1 J_1 H locs hp_1 hP hD hS _ _ => ?_)
  rcases hp_1 with ⟨rfl, hu_1, nn_1⟩ | ⟨rfl, hu_1, nn_1⟩
  · cases hu_1
    refine lv_if_eq (tgt := 35) hx hb dX11_is_4 (by decide) (fun c_0 => absurd c_0 (zD_ne zk_1 zk_z (by decide))) (fun _ => ?_)
    refine lv_aload_n hx hb dX11_is_7 rfl (lv_at hl 0 rfl) ?_
    refine z_get hx hb ht hown hK hP ziX11 rfl 0 (by decide) 10 (by decide) hw_5_197 rfl (v := .int (I 0 10)) rfl dX11_is_8 ?_
    refine lv_iconst (v := nI 1) hx hb dX11_is_11 (by decide +kernel) ?_
    refine lv_icmp_ne (tgt := 35) hx hb dX11_is_12 (by decide) (fun c_2 => ?_) (fun c_2 => ?_)
    · have t_c_2 := z_eqF c_2
      refine lv_iconst (v := nI 0) hx hb dX11_is_35 (by decide +kernel) ?_
      refine lv_istore_n (lv' := [(2, .int (nI 0)), (0, .ref (q 0)), (1, .ref (ad 7))]) hx hb dX11_is_36 rfl hl (by decide) rfl (fun ls hl => ?_)
      refine lv_iconst (v := nI 0) hx hb dX11_is_37 (by decide +kernel) ?_
      refine lv_istore_n (lv' := [(3, .int (nI 0)), (2, .int (nI 0)), (0, .ref (q 0)), (1, .ref (ad 7))]) hx hb dX11_is_38 rfl hl (by decide) rfl (fun ls hl => ?_)
      refine lv_iload_n hx hb dX11_is_39 rfl (lv_at hl 0 rfl) ?_
      refine lv_aload_n hx hb dX11_is_40 rfl (lv_at hl 3 rfl) ?_
      refine z_cNXi (As := []) (rest := [.int (nI 0)]) hx hb hml hown ht (mk_J0_length_8abf5_3 l D q cA ad av t9 F _ _ _ hI ) hw_6_144 hmJ0_length_8abf5 ⟨rfl, rfl⟩ (na := 0) rfl (by decide +kernel) (by decide) (vk_recv hZ.1 (by decide) hS) hK hP hD hS hA (zSS_c (Rs := zMRs) (t9 := t9) (fun _ _ _ => zMRs_c)) (zSS_w (Rs := zMRs) (t9 := t9) (fun _ _ _ => zMRs_w) hN hsz hS) hl.1 rfl (Nat.le_of_ble_eq_true rfl) ⟨Nat.zero_le _, Nat.zero_le _⟩ dX11_is_41 (fun r_5 I_5 R_5 J_5 H locs hp_5 hP hD hS _ _ => ?_)
      obtain ⟨rfl, hu_5⟩ := hp_5
      cases hu_5
      refine lv_icmp_ge (tgt := 82) hx hb dX11_is_44 (by decide) (fun c_0 => absurd c_0 (zD_nle zk_5 zk_0 (by decide))) (fun _ => ?_)
      refine lv_iload_n hx hb dX11_is_47 rfl (lv_at hl 1 rfl) ?_
      refine lv_if_eq (tgt := 82) hx hb dX11_is_48 (by decide) (fun _ => ?_) (fun c_0 => absurd (zD_eq zk_0 zk_z) c_0)
      refine lv_iload_n hx hb dX11_is_82 rfl (lv_at hl 1 rfl) ?_
      exact z_zret (v := nI 0) hx hb hr hlocks hP hD hS (by decide +kernel) dX11_is_83 (Or.inr ⟨rfl, rfl, (mIs_n2 t_c_2)⟩)
    · have t_c_2 := z_eqT c_2
      have f_6 : zR 1 1 (I 0 10) := zR_eqx t_c_2 zk_1
      refine lv_aload_n hx hb dX11_is_15 rfl (lv_at hl 0 rfl) ?_
      refine z_get hx hb ht hown hK hP ziX11 rfl 0 (by decide) 8 (by decide) hw_5_195 rfl (v := .int (I 0 8)) rfl dX11_is_16 ?_
      have f_7 : zR 0 800 (I 0 8) := mI hI 0 8
      refine lv_aload_n hx hb dX11_is_19 rfl (lv_at hl 0 rfl) ?_
      refine z_get hx hb ht hown hK hP ziX11 rfl 0 (by decide) 9 (by decide) hw_5_196 rfl (v := .int (I 0 9)) rfl dX11_is_20 ?_
      have f_8 : zR 0 800 (I 0 9) := mI hI 0 9
      refine lv_isub hx hb dX11_is_23 ?_
      refine lv_topi (fun v_9 ev_9 => ?_)
      have hv_9 : zR (-800) 800 v_9 := ev_9 ▸ zR_sub f_7 f_8 (by decide)
      refine lv_aload_n hx hb dX11_is_24 rfl (lv_at hl 1 rfl) ?_
      refine z_cNXi (As := []) (rest := [.int (v_9)]) hx hb hml hown ht (mk_J0_length_8abf5_3 l D q cA ad av t9 F _ _ _ hI ) hw_6_144 hmJ0_length_8abf5 ⟨rfl, rfl⟩ (na := 0) rfl (by decide +kernel) (by decide) (vk_recv hZ.1 (by decide) hS) hK hP hD hS hA (zSS_c (Rs := zMRs) (t9 := t9) (fun _ _ _ => zMRs_c)) (zSS_w (Rs := zMRs) (t9 := t9) (fun _ _ _ => zMRs_w) hN hsz hS) hl.1 rfl (Nat.le_of_ble_eq_true rfl) ⟨Nat.zero_le _, Nat.zero_le _⟩ dX11_is_25 (fun r_10 I_10 R_10 J_10 H locs hp_10 hP hD hS _ _ => ?_)
      obtain ⟨rfl, hu_10⟩ := hp_10
      cases hu_10
      refine lv_icmp_ne (tgt := 35) hx hb dX11_is_28 (by decide) (fun c_11 => ?_) (fun c_11 => ?_)
      · have t_c_11 := z_eqF c_11
        refine lv_iconst (v := nI 0) hx hb dX11_is_35 (by decide +kernel) ?_
        refine lv_istore_n (lv' := [(2, .int (nI 0)), (0, .ref (q 0)), (1, .ref (ad 7))]) hx hb dX11_is_36 rfl hl (by decide) rfl (fun ls hl => ?_)
        refine lv_iconst (v := nI 0) hx hb dX11_is_37 (by decide +kernel) ?_
        refine lv_istore_n (lv' := [(3, .int (nI 0)), (2, .int (nI 0)), (0, .ref (q 0)), (1, .ref (ad 7))]) hx hb dX11_is_38 rfl hl (by decide) rfl (fun ls hl => ?_)
        refine lv_iload_n hx hb dX11_is_39 rfl (lv_at hl 0 rfl) ?_
        refine lv_aload_n hx hb dX11_is_40 rfl (lv_at hl 3 rfl) ?_
        refine z_cNXi (As := []) (rest := [.int (nI 0)]) hx hb hml hown ht (mk_J0_length_8abf5_3 l D q cA ad av t9 F _ _ _ hI ) hw_6_144 hmJ0_length_8abf5 ⟨rfl, rfl⟩ (na := 0) rfl (by decide +kernel) (by decide) (vk_recv hZ.1 (by decide) hS) hK hP hD hS hA (zSS_c (Rs := zMRs) (t9 := t9) (fun _ _ _ => zMRs_c)) (zSS_w (Rs := zMRs) (t9 := t9) (fun _ _ _ => zMRs_w) hN hsz hS) hl.1 rfl (Nat.le_of_ble_eq_true rfl) ⟨Nat.zero_le _, Nat.zero_le _⟩ dX11_is_41 (fun r_14 I_14 R_14 J_14 H locs hp_14 hP hD hS _ _ => ?_)
        obtain ⟨rfl, hu_14⟩ := hp_14
        cases hu_14
        refine lv_icmp_ge (tgt := 82) hx hb dX11_is_44 (by decide) (fun c_0 => absurd c_0 (zD_nle zk_5 zk_0 (by decide))) (fun _ => ?_)
        refine lv_iload_n hx hb dX11_is_47 rfl (lv_at hl 1 rfl) ?_
        refine lv_if_eq (tgt := 82) hx hb dX11_is_48 (by decide) (fun _ => ?_) (fun c_0 => absurd (zD_eq zk_0 zk_z) c_0)
        refine lv_iload_n hx hb dX11_is_82 rfl (lv_at hl 1 rfl) ?_
        exact z_zret (v := nI 0) hx hb hr hlocks hP hD hS (by decide +kernel) dX11_is_83 (Or.inr ⟨rfl, rfl, (mIs_n3 ev_9 t_c_11)⟩)
      · have t_c_11 := z_eqT c_11
        have f_15 : zR 5 5 (v_9) := zR_eqx t_c_11 zk_5
        have f_16 : zR 0 795 (I 0 9) := z_start f_7 f_8 ev_9 f_15 (by decide)
        refine lv_iconst (v := nI 1) hx hb dX11_is_31 (by decide +kernel) ?_
        refine lv_goto (tgt := 36) hx hb dX11_is_32 (by decide) ?_
        refine lv_istore_n (lv' := [(2, .int (nI 1)), (0, .ref (q 0)), (1, .ref (ad 7))]) hx hb dX11_is_36 rfl hl (by decide) rfl (fun ls hl => ?_)
        refine lv_iconst (v := nI 0) hx hb dX11_is_37 (by decide +kernel) ?_
        refine lv_istore_n (lv' := [(3, .int (nI 0)), (2, .int (nI 1)), (0, .ref (q 0)), (1, .ref (ad 7))]) hx hb dX11_is_38 rfl hl (by decide) rfl (fun ls hl => ?_)
        have loop_71 : ∀ N : Nat, ∀ x_68 : Int32, zR 0 1 x_68 → ∀ x_69 : Int32, zR 0 5 x_69 → (mIsL 7 I R (x_69) (x_68)) → (2147483648 - (x_69).toInt).toNat < N → ∀ (H : Heap) (locs : List Loc), va_P D vwCl (zw 25 q (zMd q cA) I R J) H → va_D (zA 25 q sz) (zw 25 q (zMd q cA) I R J) → va_S (zA 25 q sz) s.heap H locs → ∀ ls : Array Slot, lv_has ls 4 [(0, .ref (q 0)), (1, .ref (ad 7)), (2, .int (x_68)), (3, .int (x_69))] → W p l e ({ frames := 4, cells := 0, slots := 0, locals := 85 } : Room) s m ([.ref (q 0), .ref (ad 7)] : List Value).toArray below meth c H locs 0 0 (MQ below (va_Qi (fun r u => (r = nI 1 ∧ u = (I, R, J) ∧ mIs 7 I R) ∨ (r = nI 0 ∧ u = (I, R, J) ∧ ¬ mIs 7 I R)) (zB D vwCl 25 q (zMd q cA) sz) (zA 25 q sz)) ([.ref (q 0), .ref (ad 7)] : List Value).toArray s 0 0 (zA 25 q sz)) (F0 m 39 ls []) := by
          intro N
          induction N with
          | zero => intro x_68 hx_68 x_69 hx_69 hx_70 hN; exact absurd hN (Nat.not_lt_zero _)
          | succ N ih_73 =>
            intro x_68 hx_68 x_69 hx_69 hx_70 hN_72 H locs hP hD hS ls hl
            refine lv_iload_n hx hb dX11_is_39 rfl (lv_at hl 3 rfl) ?_
            refine lv_aload_n hx hb dX11_is_40 rfl (lv_at hl 1 rfl) ?_
            refine z_cNXi (As := []) (rest := [.int (x_69)]) hx hb hml hown ht (mk_J0_length_8abf5_3 l D q cA ad av t9 F _ _ _ hI ) hw_6_144 hmJ0_length_8abf5 ⟨rfl, rfl⟩ (na := 0) rfl (by decide +kernel) (by decide) (vk_recv hZ.1 (by decide) hS) hK hP hD hS hA (zSS_c (Rs := zMRs) (t9 := t9) (fun _ _ _ => zMRs_c)) (zSS_w (Rs := zMRs) (t9 := t9) (fun _ _ _ => zMRs_w) hN hsz hS) hl.1 rfl (Nat.le_of_ble_eq_true rfl) ⟨Nat.zero_le _, Nat.zero_le _⟩ dX11_is_41 (fun r_74 I_74 R_74 J_74 H locs hp_74 hP hD hS _ _ => ?_)
            obtain ⟨rfl, hu_74⟩ := hp_74
            cases hu_74
            refine lv_icmp_ge (tgt := 82) hx hb dX11_is_44 (by decide) (fun c_75 => ?_) (fun c_75 => ?_)
            · have t_c_75 := z_leT c_75
              have f_76 : zR 5 5 (x_69) := zR_ley t_c_75 zk_5 hx_69 (by decide)
              refine lv_iload_n hx hb dX11_is_82 rfl (lv_at hl 2 rfl) ?_
              exact z_zret (v := x_68) hx hb hr hlocks hP hD hS (zR_bool (a := 0) (b := 1) hx_68 (by decide)).1 dX11_is_83 (mIs_r1 hx_70 hx_68 t_c_75)
            · have t_c_75 := z_leF c_75
              have f_77 : zR 0 4 (x_69) := zR_ltx t_c_75 hx_69 zk_5 (by decide)
              refine lv_iload_n hx hb dX11_is_47 rfl (lv_at hl 2 rfl) ?_
              refine lv_if_eq (tgt := 82) hx hb dX11_is_48 (by decide) (fun c_78 => ?_) (fun c_78 => ?_)
              · have t_c_78 := z_eqT c_78
                have f_79 : zR 0 0 (x_68) := zR_eqx t_c_78 zk_z
                refine lv_iload_n hx hb dX11_is_82 rfl (lv_at hl 2 rfl) ?_
                exact z_zret (v := x_68) hx hb hr hlocks hP hD hS (zR_bool (a := 0) (b := 1) (zR_w f_79 (by decide)) (by decide)).1 dX11_is_83 (mIs_r0 hx_70 f_79)
              · have t_c_78 := z_eqF c_78
                have f_80 : zR 1 1 (x_68) := zR_nex t_c_78 hx_68 zk_z (by decide)
                refine lv_aload_n hx hb dX11_is_51 rfl (lv_at hl 0 rfl) ?_
                refine z_get hx hb ht hown hK hP ziX11 rfl 0 (by decide) 4 (by decide) hw_5_191 rfl (v := .ref (q 4)) rfl dX11_is_52 ?_
                refine lv_aload_n hx hb dX11_is_55 rfl (lv_at hl 0 rfl) ?_
                refine z_get hx hb ht hown hK hP ziX11 rfl 0 (by decide) 9 (by decide) hw_5_196 rfl (v := .int (I 0 9)) rfl dX11_is_56 ?_
                refine lv_iload_n hx hb dX11_is_59 rfl (lv_at hl 3 rfl) ?_
                refine lv_iadd hx hb dX11_is_60 ?_
                refine lv_topi (fun v_81 ev_81 => ?_)
                have hv_81 : zR 0 799 v_81 := ev_81 ▸ zR_add f_16 f_77 (by decide)
                refine z_bald hx hb hK hP 4 (by decide) 3 rfl rfl (zR_vin hv_81 (by decide)) dX11_is_61 ?_
                refine z_eqi (y := R 4 (v_81).toNatClampNeg) rfl ?_
                refine lv_aload_n hx hb dX11_is_62 rfl (lv_at hl 1 rfl) ?_
                refine lv_iload_n hx hb dX11_is_63 rfl (lv_at hl 3 rfl) ?_
                refine z_cNXi (As := [.int (x_69)]) (rest := [.int (R 4 (v_81).toNatClampNeg)]) hx hb hml hown ht (mk_J0_charAt_5068e_7 l D q cA ad av t9 F _ _ _ hI (x_69) f_77) hw_6_145 hmJ0_charAt_5068e ⟨rfl, rfl⟩ (na := 1) rfl (by decide +kernel) (by decide) (vk_recv hZ.1 (by decide) hS) hK hP hD hS hA (zSS_c (Rs := zMRs) (t9 := t9) (fun _ _ _ => zMRs_c)) (zSS_w (Rs := zMRs) (t9 := t9) (fun _ _ _ => zMRs_w) hN hsz hS) hl.1 rfl (Nat.le_of_ble_eq_true rfl) ⟨Nat.zero_le _, Nat.zero_le _⟩ dX11_is_64 (fun r_82 I_82 R_82 J_82 H locs hp_82 hP hD hS _ _ => ?_)
                obtain ⟨⟨rfl, hr_82⟩, hu_82⟩ := hp_82
                cases hu_82
                refine lv_icmp_ne (tgt := 74) hx hb dX11_is_67 (by decide) (fun c_83 => ?_) (fun c_83 => ?_)
                · have t_c_83 := z_eqF c_83
                  refine lv_iconst (v := nI 0) hx hb dX11_is_74 (by decide +kernel) ?_
                  refine lv_istore_n (lv' := [(2, .int (nI 0)), (0, .ref (q 0)), (1, .ref (ad 7)), (3, .int (x_69))]) hx hb dX11_is_75 rfl hl (by decide) rfl (fun ls hl => ?_)
                  obtain ⟨v_84, ev_84⟩ : ∃ y : Int32, y = x_69 + nI 1 := ⟨_, rfl⟩
                  have hv_84 : zR 1 5 v_84 := ev_84 ▸ zR_add f_77 zk_1 (by decide)
                  have mv_84 : v_84.toInt = (x_69).toInt + 1 := by rw [ev_84, zR_addE f_77 zk_1 (by decide)]; rfl
                  refine lv_iinc (v := v_84) (lv' := [(3, .int (v_84)), (2, .int (nI 0)), (0, .ref (q 0)), (1, .ref (ad 7))]) hx hb dX11_is_76 hl (k := 3) rfl (ev_84 ▸ rfl) (by decide) rfl (fun ls hl => ?_)
                  refine lv_goto (tgt := 39) hx hb dX11_is_79 (by decide) ?_
                  exact ih_73 (nI 0) (zR_w zk_0 (by decide)) (v_84) (zR_w hv_84 (by decide)) (mIsL_n hx_70 f_80 t_c_75 t_c_83 (mIs_ix (zR_w f_16 (by decide)) (zR_w f_77 (by decide)) ev_81)) (z2_up mv_84 (by decide) hN_72) _ _ hP hD hS _ (lv_sub hl [2, 3, 1, 0] rfl)
                · have t_c_83 := z_eqT c_83
                  have f_85 : zR 0 65535 (R 4 (v_81).toNatClampNeg) := zR_eqx t_c_83 hr_82
                  refine lv_iconst (v := nI 1) hx hb dX11_is_70 (by decide +kernel) ?_
                  refine lv_goto (tgt := 75) hx hb dX11_is_71 (by decide) ?_
                  refine lv_istore_n (lv' := [(2, .int (nI 1)), (0, .ref (q 0)), (1, .ref (ad 7)), (3, .int (x_69))]) hx hb dX11_is_75 rfl hl (by decide) rfl (fun ls hl => ?_)
                  obtain ⟨v_86, ev_86⟩ : ∃ y : Int32, y = x_69 + nI 1 := ⟨_, rfl⟩
                  have hv_86 : zR 1 5 v_86 := ev_86 ▸ zR_add f_77 zk_1 (by decide)
                  have mv_86 : v_86.toInt = (x_69).toInt + 1 := by rw [ev_86, zR_addE f_77 zk_1 (by decide)]; rfl
                  refine lv_iinc (v := v_86) (lv' := [(3, .int (v_86)), (2, .int (nI 1)), (0, .ref (q 0)), (1, .ref (ad 7))]) hx hb dX11_is_76 hl (k := 3) rfl (ev_86 ▸ rfl) (by decide) rfl (fun ls hl => ?_)
                  refine lv_goto (tgt := 39) hx hb dX11_is_79 (by decide) ?_
                  exact ih_73 (nI 1) (zR_w zk_1 (by decide)) (v_86) (zR_w hv_86 (by decide)) (mIsL_1 hx_70 f_80 mv_86 t_c_83 (mIs_ix (zR_w f_16 (by decide)) (zR_w f_77 (by decide)) ev_81)) (z2_up mv_86 (by decide) hN_72) _ _ hP hD hS _ (lv_sub hl [2, 3, 1, 0] rfl)
        exact loop_71 _ (nI 1) (zR_w zk_1 (by decide)) (nI 0) (zR_w zk_0 (by decide)) (mIsL_0 (mIs_a3 nn_1 t_c_2 ev_9 f_15)) (Nat.lt_succ_self _) _ _ hP hD hS _ (lv_sub hl [2, 3, 1, 0] rfl)
  · cases hu_1
    refine lv_if_eq (tgt := 35) hx hb dX11_is_4 (by decide) (fun _ => ?_) (fun c_0 => absurd (zD_eq zk_0 zk_z) c_0)
    refine lv_iconst (v := nI 0) hx hb dX11_is_35 (by decide +kernel) ?_
    refine lv_istore_n (lv' := [(2, .int (nI 0)), (0, .ref (q 0)), (1, .ref (ad 7))]) hx hb dX11_is_36 rfl hl (by decide) rfl (fun ls hl => ?_)
    refine lv_iconst (v := nI 0) hx hb dX11_is_37 (by decide +kernel) ?_
    refine lv_istore_n (lv' := [(3, .int (nI 0)), (2, .int (nI 0)), (0, .ref (q 0)), (1, .ref (ad 7))]) hx hb dX11_is_38 rfl hl (by decide) rfl (fun ls hl => ?_)
    refine lv_iload_n hx hb dX11_is_39 rfl (lv_at hl 0 rfl) ?_
    refine lv_aload_n hx hb dX11_is_40 rfl (lv_at hl 3 rfl) ?_
    refine z_cNXi (As := []) (rest := [.int (nI 0)]) hx hb hml hown ht (mk_J0_length_8abf5_3 l D q cA ad av t9 F _ _ _ hI ) hw_6_144 hmJ0_length_8abf5 ⟨rfl, rfl⟩ (na := 0) rfl (by decide +kernel) (by decide) (vk_recv hZ.1 (by decide) hS) hK hP hD hS hA (zSS_c (Rs := zMRs) (t9 := t9) (fun _ _ _ => zMRs_c)) (zSS_w (Rs := zMRs) (t9 := t9) (fun _ _ _ => zMRs_w) hN hsz hS) hl.1 rfl (Nat.le_of_ble_eq_true rfl) ⟨Nat.zero_le _, Nat.zero_le _⟩ dX11_is_41 (fun r_89 I_89 R_89 J_89 H locs hp_89 hP hD hS _ _ => ?_)
    obtain ⟨rfl, hu_89⟩ := hp_89
    cases hu_89
    refine lv_icmp_ge (tgt := 82) hx hb dX11_is_44 (by decide) (fun c_0 => absurd c_0 (zD_nle zk_5 zk_0 (by decide))) (fun _ => ?_)
    refine lv_iload_n hx hb dX11_is_47 rfl (lv_at hl 1 rfl) ?_
    refine lv_if_eq (tgt := 82) hx hb dX11_is_48 (by decide) (fun _ => ?_) (fun c_0 => absurd (zD_eq zk_0 zk_z) c_0)
    refine lv_iload_n hx hb dX11_is_82 rfl (lv_at hl 1 rfl) ?_
    exact z_zret (v := nI 0) hx hb hr hlocks hP hD hS (by decide +kernel) dX11_is_83 (Or.inr ⟨rfl, rfl, (mIs_n1 nn_1)⟩)
set_option maxHeartbeats 4000000 in
set_option maxRecDepth 100000 in
theorem mk_X11_takes_3 (l : Launch) (D : va_G) (q : Nat → Nat) (cA : Nat → ClassId) (ad av : Nat → Nat) (t9 : Nat) (F : Nat → Nat → Int32) (I R : Nat → Nat → Int32) (J : Nat → Nat → Int64) (hI : mInv F (I, R, J))  : zNi (zSS zMRs 25 q ad av t9) l D vwCl (zMtys cA) 25 q (zMd q cA) yX11_takes cX11_takes 3 (some .boolean) ({ frames := 5, cells := 0, slots := 0, locals := 108 } : Room) [.ref (q 0), .ref (ad 7)] (I, R, J) (fun r u => (r = nI 1 ∧ ((mInv F u ∧ (∀ k, k ≠ 0 → u.1 k = I k) ∧ u.2 = (R, J)) ∧ mTr I u.1) ∧ mIs 7 I R) ∨ (r = nI 0 ∧ u = (I, R, J) ∧ ¬ mIs 7 I R)) := by
  intro sz
  refine z_bodyN (by decide +kernel) (Nat.le_of_ble_eq_true rfl) (fun p e s m below meth c ls hx hb hml hr ht hown hlocks hsz hK hP hD hS hN hl => ?_)
  have hA : ∀ a, s.heap.size ≤ a → zA 25 q sz a := fun a h => Or.inr (hsz ▸ h)
  have hl : lv_has ls 3 [(0, .ref (q 0)), (1, .ref (ad 7))] := hl
  have hZ : zSz zMRs 25 q ad av t9 sz s := hsz ▸ hN
  refine lv_aload_n hx hb dX11_takes_0 rfl (lv_at hl 0 rfl) ?_
  refine lv_aload_n hx hb dX11_takes_1 rfl (lv_at hl 1 rfl) ?_
  refine z_cNVi (k := 0) (As := [.ref (ad 7)]) (rest := []) hx hb hml hown ht (mk_X11_is_3 l D q cA ad av t9 F _ _ _ hI ) hw_6_140 hmX11_is ⟨rfl, rfl⟩ (na := 1) rfl (by decide +kernel) (by decide) (by decide) rfl rfl hK hP hD hS hA (zSS_c (Rs := zMRs) (t9 := t9) (fun _ _ _ => zMRs_c)) (zSS_w (Rs := zMRs) (t9 := t9) (fun _ _ _ => zMRs_w) hN hsz hS) hl.1 rfl (Nat.le_of_ble_eq_true rfl) ⟨Nat.zero_le _, Nat.zero_le _⟩ dX11_takes_2 (fun r_1 I_1 R_1 J_1 H locs hp_1 hP hD hS _ _ => ?_)
  rcases hp_1 with ⟨rfl, hu_1, nn_1⟩ | ⟨rfl, hu_1, nn_1⟩
  · cases hu_1
    refine lv_istore_n (lv' := [(2, .int (nI 1)), (0, .ref (q 0)), (1, .ref (ad 7))]) hx hb dX11_takes_5 rfl hl (by decide) rfl (fun ls hl => ?_)
    refine lv_iload_n hx hb dX11_takes_6 rfl (lv_at hl 0 rfl) ?_
    refine lv_if_eq (tgt := 14) hx hb dX11_takes_7 (by decide) (fun c_0 => absurd c_0 (zD_ne zk_1 zk_z (by decide))) (fun _ => ?_)
    refine lv_aload_n hx hb dX11_takes_10 rfl (lv_at hl 1 rfl) ?_
    refine z_callVv (k := 0) (As := []) (rest := []) hx hb hml hown ht (mk_X11_advance l D q cA F _ _ _ hI ) hw_6_109 hmX11_advance ⟨rfl, rfl⟩ (na := 0) rfl (by decide +kernel) (by decide) (by decide) rfl rfl hK hP hD hS hA hl.1 rfl (Nat.le_of_ble_eq_true rfl) ⟨Nat.zero_le _, Nat.zero_le _⟩ dX11_takes_11 (fun I_2 R_2 J_2 H locs hp_2 hP hD hS _ _ => ?_)
    obtain ⟨hq_2, he_2⟩ := hp_2
    try dsimp only at he_2
    obtain ⟨hv_2, hk_2, hj_2⟩ := hq_2
    try dsimp only at hj_2 hk_2
    cases hj_2
    have hf_3 : ∀ k, k ≠ 0 → I_2 k = I k := fun k h => (hk_2 k h).trans ((fun (_ : Nat) _ => rfl) k h)
    refine lv_iload_n hx hb dX11_takes_14 rfl (lv_at hl 0 rfl) ?_
    exact z_zret (v := nI 1) hx hb hr hlocks hP hD hS (by decide +kernel) dX11_takes_15 (Or.inl ⟨rfl, ⟨⟨hv_2, hf_3, rfl⟩, he_2⟩, nn_1⟩)
  · cases hu_1
    refine lv_istore_n (lv' := [(2, .int (nI 0)), (0, .ref (q 0)), (1, .ref (ad 7))]) hx hb dX11_takes_5 rfl hl (by decide) rfl (fun ls hl => ?_)
    refine lv_iload_n hx hb dX11_takes_6 rfl (lv_at hl 0 rfl) ?_
    refine lv_if_eq (tgt := 14) hx hb dX11_takes_7 (by decide) (fun _ => ?_) (fun c_0 => absurd (zD_eq zk_0 zk_z) c_0)
    refine lv_iload_n hx hb dX11_takes_14 rfl (lv_at hl 0 rfl) ?_
    exact z_zret (v := nI 0) hx hb hr hlocks hP hD hS (by decide +kernel) dX11_takes_15 (Or.inr ⟨rfl, rfl, nn_1⟩)
set_option maxHeartbeats 4000000 in
set_option maxRecDepth 100000 in
theorem mk_J0_coder_7d493_4 (l : Launch) (D : va_G) (q : Nat → Nat) (cA : Nat → ClassId) (ad av : Nat → Nat) (t9 : Nat) (F : Nat → Nat → Int32) (I R : Nat → Nat → Int32) (J : Nat → Nat → Int64) (hI : mInv F (I, R, J))  : zNi (zSS zMRs 25 q ad av t9) l D vwCl (zMtys cA) 25 q (zMd q cA) yJ0_coder_7d493 cJ0_coder_7d493 1 (some .byte) ({ frames := 0, cells := 0, slots := 0, locals := 0 } : Room) [.ref (ad 8)] (I, R, J) (fun r u => r = nI 0 ∧ u = (I, R, J)) := by
  intro sz
  refine z_bodyN (by decide +kernel) (Nat.le_of_ble_eq_true rfl) (fun p e s m below meth c ls hx hb hml hr ht hown hlocks hsz hK hP hD hS hN hl => ?_)
  have hA : ∀ a, s.heap.size ≤ a → zA 25 q sz a := fun a h => Or.inr (hsz ▸ h)
  have hl : lv_has ls 1 [(0, .ref (ad 8))] := hl
  have hZ : zSz zMRs 25 q ad av t9 sz s := hsz ▸ hN
  refine va_gets hx hb hZ.2.1 hS hown (ht _ hw_2_195) (fun _ h => h) dJ0_coder_7d493_0 ?_
  refine z_eqi (y := nI 1) rfl ?_
  refine lv_if_eq (tgt := 13) hx hb dJ0_coder_7d493_3 (by decide) (fun c_0 => absurd c_0 (zD_ne zk_1 zk_z (by decide))) (fun _ => ?_)
  refine lv_aload_n hx hb dJ0_coder_7d493_6 rfl (lv_at hl 0 rfl) ?_
  refine vk_getf hx hb (hZ.1.1 8 (by decide)).2.1 hS hown (ht _ hw_8_165) (fun _ h => h) dJ0_coder_7d493_7 ?_
  refine z_eqi (y := nI 0) rfl ?_
  refine lv_goto (tgt := 14) hx hb dJ0_coder_7d493_10 (by decide) ?_
  exact z_zret (v := nI 0) hx hb hr hlocks hP hD hS (by decide +kernel) dJ0_coder_7d493_14 ⟨rfl, rfl⟩
set_option maxHeartbeats 4000000 in
set_option maxRecDepth 100000 in
theorem mk_J0_length_8abf5_4 (l : Launch) (D : va_G) (q : Nat → Nat) (cA : Nat → ClassId) (ad av : Nat → Nat) (t9 : Nat) (F : Nat → Nat → Int32) (I R : Nat → Nat → Int32) (J : Nat → Nat → Int64) (hI : mInv F (I, R, J))  : zNi (zSS zMRs 25 q ad av t9) l D vwCl (zMtys cA) 25 q (zMd q cA) yJ0_length_8abf5 cJ0_length_8abf5 1 (some .int) ({ frames := 1, cells := 0, slots := 0, locals := 20 } : Room) [.ref (ad 8)] (I, R, J) (fun r u => r = nI 2 ∧ u = (I, R, J)) := by
  intro sz
  refine z_bodyN (by decide +kernel) (Nat.le_of_ble_eq_true rfl) (fun p e s m below meth c ls hx hb hml hr ht hown hlocks hsz hK hP hD hS hN hl => ?_)
  have hA : ∀ a, s.heap.size ≤ a → zA 25 q sz a := fun a h => Or.inr (hsz ▸ h)
  have hl : lv_has ls 1 [(0, .ref (ad 8))] := hl
  have hZ : zSz zMRs 25 q ad av t9 sz s := hsz ▸ hN
  refine lv_aload_n hx hb dJ0_length_8abf5_0 rfl (lv_at hl 0 rfl) ?_
  refine vk_getf hx hb (hZ.1.1 8 (by decide)).2.2.1 hS hown (ht _ hw_8_164) (fun _ h => h) dJ0_length_8abf5_1 ?_
  refine va_tlen hx hb (hZ.1.1 8 (by decide)).2.2.2 hS (v := nI 2) rfl dJ0_length_8abf5_4 ?_
  refine lv_aload_n hx hb dJ0_length_8abf5_5 rfl (lv_at hl 0 rfl) ?_
  refine z_cNXi (As := []) (rest := [.int (nI 2)]) hx hb hml hown ht (mk_J0_coder_7d493_4 l D q cA ad av t9 F _ _ _ hI ) hw_2_191 hmJ0_coder_7d493 ⟨rfl, rfl⟩ (na := 0) rfl (by decide +kernel) (by decide) (vk_recv hZ.1 (by decide) hS) hK hP hD hS hA (zSS_c (Rs := zMRs) (t9 := t9) (fun _ _ _ => zMRs_c)) (zSS_w (Rs := zMRs) (t9 := t9) (fun _ _ _ => zMRs_w) hN hsz hS) hl.1 rfl (Nat.le_of_ble_eq_true rfl) ⟨Nat.zero_le _, Nat.zero_le _⟩ dJ0_length_8abf5_6 (fun r_1 I_1 R_1 J_1 H locs hp_1 hP hD hS _ _ => ?_)
  obtain ⟨rfl, hu_1⟩ := hp_1
  cases hu_1
  refine lv_ishr hx hb dJ0_length_8abf5_9 ?_
  refine z_eqi (y := nI 2) (by decide +kernel) ?_
  exact z_iret (v := nI 2) hx hb hr hlocks hP hD hS dJ0_length_8abf5_10 ⟨rfl, rfl⟩
set_option maxHeartbeats 4000000 in
set_option maxRecDepth 100000 in
theorem mk_J0_isLatin1_aae02_4 (l : Launch) (D : va_G) (q : Nat → Nat) (cA : Nat → ClassId) (ad av : Nat → Nat) (t9 : Nat) (F : Nat → Nat → Int32) (I R : Nat → Nat → Int32) (J : Nat → Nat → Int64) (hI : mInv F (I, R, J))  : zNi (zSS zMRs 25 q ad av t9) l D vwCl (zMtys cA) 25 q (zMd q cA) yJ0_isLatin1_aae02 cJ0_isLatin1_aae02 1 (some .boolean) ({ frames := 0, cells := 0, slots := 0, locals := 0 } : Room) [.ref (ad 8)] (I, R, J) (fun r u => (r = nI 1 ∧ u = (I, R, J))) := by
  intro sz
  refine z_bodyN (by decide +kernel) (Nat.le_of_ble_eq_true rfl) (fun p e s m below meth c ls hx hb hml hr ht hown hlocks hsz hK hP hD hS hN hl => ?_)
  have hA : ∀ a, s.heap.size ≤ a → zA 25 q sz a := fun a h => Or.inr (hsz ▸ h)
  have hl : lv_has ls 1 [(0, .ref (ad 8))] := hl
  have hZ : zSz zMRs 25 q ad av t9 sz s := hsz ▸ hN
  refine va_gets hx hb hZ.2.1 hS hown (ht _ hw_2_195) (fun _ h => h) dJ0_isLatin1_aae02_0 ?_
  refine z_eqi (y := nI 1) rfl ?_
  refine lv_if_eq (tgt := 17) hx hb dJ0_isLatin1_aae02_3 (by decide) (fun c_0 => absurd c_0 (zD_ne zk_1 zk_z (by decide))) (fun _ => ?_)
  refine lv_aload_n hx hb dJ0_isLatin1_aae02_6 rfl (lv_at hl 0 rfl) ?_
  refine vk_getf hx hb (hZ.1.1 8 (by decide)).2.1 hS hown (ht _ hw_8_165) (fun _ h => h) dJ0_isLatin1_aae02_7 ?_
  refine z_eqi (y := nI 0) rfl ?_
  refine lv_if_ne (tgt := 17) hx hb dJ0_isLatin1_aae02_10 (by decide) (fun c_0 => absurd (zD_eq zk_0 zk_z) c_0) (fun _ => ?_)
  refine lv_iconst (v := nI 1) hx hb dJ0_isLatin1_aae02_13 (by decide +kernel) ?_
  refine lv_goto (tgt := 18) hx hb dJ0_isLatin1_aae02_14 (by decide) ?_
  exact z_zret (v := nI 1) hx hb hr hlocks hP hD hS (by decide +kernel) dJ0_isLatin1_aae02_18 ⟨rfl, rfl⟩
set_option maxHeartbeats 4000000 in
set_option maxRecDepth 100000 in
theorem mk_J3_checkIndex_8e157_8 (l : Launch) (D : va_G) (q : Nat → Nat) (cA : Nat → ClassId) (ad av : Nat → Nat) (t9 : Nat) (F : Nat → Nat → Int32) (I R : Nat → Nat → Int32) (J : Nat → Nat → Int64) (hI : mInv F (I, R, J)) (pa0 : Int32) (hpa0 : zR 0 1 pa0) : zNi (zSS zMRs 25 q ad av t9) l D vwCl (zMtys cA) 25 q (zMd q cA) yJ3_checkIndex_8e157 cJ3_checkIndex_8e157 3 (some .int) ({ frames := 0, cells := 0, slots := 0, locals := 0 } : Room) [.int (pa0), .int (nI 2), .null] (I, R, J) (fun r u => zR 0 1 r ∧ u = (I, R, J)) := by
  intro sz
  refine z_bodyN (by decide +kernel) (Nat.le_of_ble_eq_true rfl) (fun p e s m below meth c ls hx hb hml hr ht hown hlocks hsz hK hP hD hS hN hl => ?_)
  have hA : ∀ a, s.heap.size ≤ a → zA 25 q sz a := fun a h => Or.inr (hsz ▸ h)
  have hl : lv_has ls 3 [(0, .int (pa0)), (1, .int (nI 2)), (2, .null)] := hl
  have hZ : zSz zMRs 25 q ad av t9 sz s := hsz ▸ hN
  refine lv_iload_n hx hb dJ3_checkIndex_8e157_0 rfl (lv_at hl 0 rfl) ?_
  refine lv_if_lt (tgt := 9) hx hb dJ3_checkIndex_8e157_1 (by decide) (fun c_0 => absurd c_0 (zD_nlt hpa0 zk_z (by decide))) (fun _ => ?_)
  refine lv_iload_n hx hb dJ3_checkIndex_8e157_4 rfl (lv_at hl 0 rfl) ?_
  refine lv_iload_n hx hb dJ3_checkIndex_8e157_5 rfl (lv_at hl 1 rfl) ?_
  refine lv_icmp_lt (tgt := 16) hx hb dJ3_checkIndex_8e157_6 (by decide) (fun _ => ?_) (fun c_0 => absurd (zD_lt hpa0 zk_2 (by decide)) c_0)
  refine lv_iload_n hx hb dJ3_checkIndex_8e157_16 rfl (lv_at hl 0 rfl) ?_
  exact z_iret (v := pa0) hx hb hr hlocks hP hD hS dJ3_checkIndex_8e157_17 ⟨hpa0, rfl⟩
set_option maxHeartbeats 4000000 in
set_option maxRecDepth 100000 in
theorem mk_J3_checkIndex_8e157_9 (l : Launch) (D : va_G) (q : Nat → Nat) (cA : Nat → ClassId) (ad av : Nat → Nat) (t9 : Nat) (F : Nat → Nat → Int32) (I R : Nat → Nat → Int32) (J : Nat → Nat → Int64) (hI : mInv F (I, R, J)) (pa0 : Int32) (hpa0 : zR 0 1 pa0) : zNi (zSS zMRs 25 q ad av t9) l D vwCl (zMtys cA) 25 q (zMd q cA) yJ3_checkIndex_8e157 cJ3_checkIndex_8e157 3 (some .int) ({ frames := 0, cells := 0, slots := 0, locals := 0 } : Room) [.int (pa0), .int (nI 2), .ref (t9)] (I, R, J) (fun r u => zR 0 1 r ∧ u = (I, R, J)) := by
  intro sz
  refine z_bodyN (by decide +kernel) (Nat.le_of_ble_eq_true rfl) (fun p e s m below meth c ls hx hb hml hr ht hown hlocks hsz hK hP hD hS hN hl => ?_)
  have hA : ∀ a, s.heap.size ≤ a → zA 25 q sz a := fun a h => Or.inr (hsz ▸ h)
  have hl : lv_has ls 3 [(0, .int (pa0)), (1, .int (nI 2)), (2, .ref (t9))] := hl
  have hZ : zSz zMRs 25 q ad av t9 sz s := hsz ▸ hN
  refine lv_iload_n hx hb dJ3_checkIndex_8e157_0 rfl (lv_at hl 0 rfl) ?_
  refine lv_if_lt (tgt := 9) hx hb dJ3_checkIndex_8e157_1 (by decide) (fun c_0 => absurd c_0 (zD_nlt hpa0 zk_z (by decide))) (fun _ => ?_)
  refine lv_iload_n hx hb dJ3_checkIndex_8e157_4 rfl (lv_at hl 0 rfl) ?_
  refine lv_iload_n hx hb dJ3_checkIndex_8e157_5 rfl (lv_at hl 1 rfl) ?_
  refine lv_icmp_lt (tgt := 16) hx hb dJ3_checkIndex_8e157_6 (by decide) (fun _ => ?_) (fun c_0 => absurd (zD_lt hpa0 zk_2 (by decide)) c_0)
  refine lv_iload_n hx hb dJ3_checkIndex_8e157_16 rfl (lv_at hl 0 rfl) ?_
  exact z_iret (v := pa0) hx hb hr hlocks hP hD hS dJ3_checkIndex_8e157_17 ⟨hpa0, rfl⟩
set_option maxHeartbeats 4000000 in
set_option maxRecDepth 100000 in
theorem mk_J0_checkIndex_df160_4 (l : Launch) (D : va_G) (q : Nat → Nat) (cA : Nat → ClassId) (ad av : Nat → Nat) (t9 : Nat) (F : Nat → Nat → Int32) (I R : Nat → Nat → Int32) (J : Nat → Nat → Int64) (hI : mInv F (I, R, J)) (pa0 : Int32) (hpa0 : zR 0 1 pa0) : zNv (zSS zMRs 25 q ad av t9) l D vwCl (zMtys cA) 25 q (zMd q cA) yJ0_checkIndex_df160 cJ0_checkIndex_df160 2 none ({ frames := 1, cells := 0, slots := 0, locals := 22 } : Room) [.int (pa0), .int (nI 2)] (I, R, J) (fun u => u = (I, R, J)) := by
  intro sz
  refine z_bodyN (by decide +kernel) (Nat.le_of_ble_eq_true rfl) (fun p e s m below meth c ls hx hb hml hr ht hown hlocks hsz hK hP hD hS hN hl => ?_)
  have hA : ∀ a, s.heap.size ≤ a → zA 25 q sz a := fun a h => Or.inr (hsz ▸ h)
  have hl : lv_has ls 2 [(0, .int (pa0)), (1, .int (nI 2))] := hl
  have hZ : zSz zMRs 25 q ad av t9 sz s := hsz ▸ hN
  refine lv_iload_n hx hb dJ0_checkIndex_df160_0 rfl (lv_at hl 0 rfl) ?_
  refine lv_iload_n hx hb dJ0_checkIndex_df160_1 rfl (lv_at hl 1 rfl) ?_
  rcases hZ.2.2.1 with hz9 | ⟨t9, hz9⟩
  · refine va_gets hx hb hz9 hS hown (ht _ hw_2_211) (fun _ h => h) dJ0_checkIndex_df160_2 ?_
    refine z_cNSi (As := [.int (pa0), .int (nI 2), .null]) (rest := []) hx hb hml hown ht (mk_J3_checkIndex_8e157_8 l D q cA ad av t9 F _ _ _ hI (pa0) hpa0) hw_2_213 hmJ3_checkIndex_8e157 ⟨rfl, rfl⟩ (na := 3) rfl (by decide +kernel) (by decide) hK hP hD hS hA (zSS_c (Rs := zMRs) (t9 := t9) (fun _ _ _ => zMRs_c)) (zSS_w (Rs := zMRs) (t9 := t9) (fun _ _ _ => zMRs_w) hN hsz hS) hl.1 rfl (Nat.le_of_ble_eq_true rfl) ⟨Nat.zero_le _, Nat.zero_le _⟩ dJ0_checkIndex_df160_5 (fun r_1 I_1 R_1 J_1 H locs hp_1 hP hD hS _ _ => ?_)
    obtain ⟨hr_1, hu_1⟩ := hp_1
    cases hu_1
    refine lv_pop hx hb dJ0_checkIndex_df160_8 rfl ?_
    exact z_vret hx hb hr hlocks hP hD hS dJ0_checkIndex_df160_9 rfl
  · refine va_gets hx hb hz9 hS hown (ht _ hw_2_211) (fun _ h => h) dJ0_checkIndex_df160_2 ?_
    refine z_cNSi (As := [.int (pa0), .int (nI 2), .ref (t9)]) (rest := []) hx hb hml hown ht (mk_J3_checkIndex_8e157_9 l D q cA ad av t9 F _ _ _ hI (pa0) hpa0) hw_2_213 hmJ3_checkIndex_8e157 ⟨rfl, rfl⟩ (na := 3) rfl (by decide +kernel) (by decide) hK hP hD hS hA (zSS_c (Rs := zMRs) (t9 := t9) (fun _ _ _ => zMRs_c)) (zSS_w (Rs := zMRs) (t9 := t9) (fun _ _ _ => zMRs_w) hN hsz hS) hl.1 rfl (Nat.le_of_ble_eq_true rfl) ⟨Nat.zero_le _, Nat.zero_le _⟩ dJ0_checkIndex_df160_5 (fun r_2 I_2 R_2 J_2 H locs hp_2 hP hD hS _ _ => ?_)
    obtain ⟨hr_2, hu_2⟩ := hp_2
    cases hu_2
    refine lv_pop hx hb dJ0_checkIndex_df160_8 rfl ?_
    exact z_vret hx hb hr hlocks hP hD hS dJ0_checkIndex_df160_9 rfl
set_option maxHeartbeats 4000000 in
set_option maxRecDepth 100000 in
theorem mk_J1_charAt_3b067_8 (l : Launch) (D : va_G) (q : Nat → Nat) (cA : Nat → ClassId) (ad av : Nat → Nat) (t9 : Nat) (F : Nat → Nat → Int32) (I R : Nat → Nat → Int32) (J : Nat → Nat → Int64) (hI : mInv F (I, R, J)) (pa1 : Int32) (hpa1 : zR 0 1 pa1) : zNi (zSS zMRs 25 q ad av t9) l D vwCl (zMtys cA) 25 q (zMd q cA) yJ1_charAt_3b067 cJ1_charAt_3b067 2 (some .char) ({ frames := 2, cells := 0, slots := 0, locals := 43 } : Room) [.ref (av 8), .int (pa1)] (I, R, J) (fun r u => (r = zch 8 (pa1).toNatClampNeg ∧ zR 0 65535 r) ∧ u = (I, R, J)) := by
  intro sz
  refine z_bodyN (by decide +kernel) (Nat.le_of_ble_eq_true rfl) (fun p e s m below meth c ls hx hb hml hr ht hown hlocks hsz hK hP hD hS hN hl => ?_)
  have hA : ∀ a, s.heap.size ≤ a → zA 25 q sz a := fun a h => Or.inr (hsz ▸ h)
  have hl : lv_has ls 2 [(0, .ref (av 8)), (1, .int (pa1))] := hl
  have hZ : zSz zMRs 25 q ad av t9 sz s := hsz ▸ hN
  refine lv_iload_n hx hb dJ1_charAt_3b067_0 rfl (lv_at hl 1 rfl) ?_
  refine lv_aload_n hx hb dJ1_charAt_3b067_1 rfl (lv_at hl 0 rfl) ?_
  refine va_tlen hx hb (hZ.1.1 8 (by decide)).2.2.2 hS (v := nI 2) rfl dJ1_charAt_3b067_2 ?_
  refine z_cNSv (As := [.int (pa1), .int (nI 2)]) (rest := []) hx hb hml hown ht (mk_J0_checkIndex_df160_4 l D q cA ad av t9 F _ _ _ hI (pa1) hpa1) hw_2_208 hmJ0_checkIndex_df160 ⟨rfl, rfl⟩ (na := 2) rfl (by decide +kernel) (by decide) hK hP hD hS hA (zSS_c (Rs := zMRs) (t9 := t9) (fun _ _ _ => zMRs_c)) (zSS_w (Rs := zMRs) (t9 := t9) (fun _ _ _ => zMRs_w) hN hsz hS) hl.1 rfl (Nat.le_of_ble_eq_true rfl) ⟨Nat.zero_le _, Nat.zero_le _⟩ dJ1_charAt_3b067_3 (fun I_1 R_1 J_1 H locs hp_1 hP hD hS _ _ => ?_)
  cases hp_1
  refine lv_aload_n hx hb dJ1_charAt_3b067_6 rfl (lv_at hl 0 rfl) ?_
  refine lv_iload_n hx hb dJ1_charAt_3b067_7 rfl (lv_at hl 1 rfl) ?_
  refine va_tb hx hb (hZ.1.1 8 (by decide)).2.2.2 hS (zR_vin hpa1 (by decide)) (v := .int ((zByt.getD 8 []).getD (pa1).toNatClampNeg 0)) rfl dJ1_charAt_3b067_8 ?_
  refine lv_sipush (v := nI 255) hx hb dJ1_charAt_3b067_9 (by decide +kernel) ?_
  refine lv_iand hx hb dJ1_charAt_3b067_12 ?_
  refine lv_i2c (v := ((((zByt.getD 8 []).getD (pa1).toNatClampNeg 0) &&& (nI 255)).toUInt32 % 65536).toInt32) hx hb dJ1_charAt_3b067_13 rfl ?_
  exact z_zret (v := ((((zByt.getD 8 []).getD (pa1).toNatClampNeg 0) &&& (nI 255)).toUInt32 % 65536).toInt32) hx hb hr hlocks hP hD hS (zR_char (zR_i2c _)) dJ1_charAt_3b067_14 ⟨⟨rfl, (zR_i2c _)⟩, rfl⟩
set_option maxHeartbeats 4000000 in
set_option maxRecDepth 100000 in
theorem mk_J0_charAt_5068e_8 (l : Launch) (D : va_G) (q : Nat → Nat) (cA : Nat → ClassId) (ad av : Nat → Nat) (t9 : Nat) (F : Nat → Nat → Int32) (I R : Nat → Nat → Int32) (J : Nat → Nat → Int64) (hI : mInv F (I, R, J)) (pa0 : Int32) (hpa0 : zR 0 1 pa0) : zNi (zSS zMRs 25 q ad av t9) l D vwCl (zMtys cA) 25 q (zMd q cA) yJ0_charAt_5068e cJ0_charAt_5068e 2 (some .char) ({ frames := 3, cells := 0, slots := 0, locals := 64 } : Room) [.ref (ad 8), .int (pa0)] (I, R, J) (fun r u => (r = zch 8 (pa0).toNatClampNeg ∧ zR 0 65535 r) ∧ u = (I, R, J)) := by
  intro sz
  refine z_bodyN (by decide +kernel) (Nat.le_of_ble_eq_true rfl) (fun p e s m below meth c ls hx hb hml hr ht hown hlocks hsz hK hP hD hS hN hl => ?_)
  have hA : ∀ a, s.heap.size ≤ a → zA 25 q sz a := fun a h => Or.inr (hsz ▸ h)
  have hl : lv_has ls 2 [(0, .ref (ad 8)), (1, .int (pa0))] := hl
  have hZ : zSz zMRs 25 q ad av t9 sz s := hsz ▸ hN
  refine lv_aload_n hx hb dJ0_charAt_5068e_0 rfl (lv_at hl 0 rfl) ?_
  refine z_cNXi (As := []) (rest := []) hx hb hml hown ht (mk_J0_isLatin1_aae02_4 l D q cA ad av t9 F _ _ _ hI ) hw_2_201 hmJ0_isLatin1_aae02 ⟨rfl, rfl⟩ (na := 0) rfl (by decide +kernel) (by decide) (vk_recv hZ.1 (by decide) hS) hK hP hD hS hA (zSS_c (Rs := zMRs) (t9 := t9) (fun _ _ _ => zMRs_c)) (zSS_w (Rs := zMRs) (t9 := t9) (fun _ _ _ => zMRs_w) hN hsz hS) hl.1 rfl (Nat.le_of_ble_eq_true rfl) ⟨Nat.zero_le _, Nat.zero_le _⟩ dJ0_charAt_5068e_1 (fun r_1 I_1 R_1 J_1 H locs hp_1 hP hD hS _ _ => ?_)
  obtain ⟨rfl, hu_1⟩ := hp_1
  cases hu_1
  refine lv_if_eq (tgt := 16) hx hb dJ0_charAt_5068e_4 (by decide) (fun c_0 => absurd c_0 (zD_ne zk_1 zk_z (by decide))) (fun _ => ?_)
  refine lv_aload_n hx hb dJ0_charAt_5068e_7 rfl (lv_at hl 0 rfl) ?_
  refine vk_getf hx hb (hZ.1.1 8 (by decide)).2.2.1 hS hown (ht _ hw_8_164) (fun _ h => h) dJ0_charAt_5068e_8 ?_
  refine lv_iload_n hx hb dJ0_charAt_5068e_11 rfl (lv_at hl 1 rfl) ?_
  refine z_cNSi (As := [.ref (av 8), .int (pa0)]) (rest := []) hx hb hml hown ht (mk_J1_charAt_3b067_8 l D q cA ad av t9 F _ _ _ hI (pa0) hpa0) hw_2_205 hmJ1_charAt_3b067 ⟨rfl, rfl⟩ (na := 2) rfl (by decide +kernel) (by decide) hK hP hD hS hA (zSS_c (Rs := zMRs) (t9 := t9) (fun _ _ _ => zMRs_c)) (zSS_w (Rs := zMRs) (t9 := t9) (fun _ _ _ => zMRs_w) hN hsz hS) hl.1 rfl (Nat.le_of_ble_eq_true rfl) ⟨Nat.zero_le _, Nat.zero_le _⟩ dJ0_charAt_5068e_12 (fun r_2 I_2 R_2 J_2 H locs hp_2 hP hD hS _ _ => ?_)
  obtain ⟨⟨rfl, hr_2⟩, hu_2⟩ := hp_2
  cases hu_2
  exact z_zret (v := zch 8 (pa0).toNatClampNeg) hx hb hr hlocks hP hD hS (zR_char hr_2) dJ0_charAt_5068e_15 ⟨⟨rfl, hr_2⟩, rfl⟩
set_option maxHeartbeats 4000000 in
set_option maxRecDepth 100000 in
theorem mk_X11_is_4 (l : Launch) (D : va_G) (q : Nat → Nat) (cA : Nat → ClassId) (ad av : Nat → Nat) (t9 : Nat) (F : Nat → Nat → Int32) (I R : Nat → Nat → Int32) (J : Nat → Nat → Int64) (hI : mInv F (I, R, J))  : zNi (zSS zMRs 25 q ad av t9) l D vwCl (zMtys cA) 25 q (zMd q cA) yX11_is cX11_is 4 (some .boolean) ({ frames := 4, cells := 0, slots := 0, locals := 85 } : Room) [.ref (q 0), .ref (ad 8)] (I, R, J) (fun r u => (r = nI 1 ∧ u = (I, R, J) ∧ mIs 8 I R) ∨ (r = nI 0 ∧ u = (I, R, J) ∧ ¬ mIs 8 I R)) := by
  intro sz
  refine z_bodyN (by decide +kernel) (Nat.le_of_ble_eq_true rfl) (fun p e s m below meth c ls hx hb hml hr ht hown hlocks hsz hK hP hD hS hN hl => ?_)
  have hA : ∀ a, s.heap.size ≤ a → zA 25 q sz a := fun a h => Or.inr (hsz ▸ h)
  have hl : lv_has ls 4 [(0, .ref (q 0)), (1, .ref (ad 8))] := hl
  have hZ : zSz zMRs 25 q ad av t9 sz s := hsz ▸ hN
  refine lv_aload_n hx hb dX11_is_0 rfl (lv_at hl 0 rfl) ?_
  refine z_callVi (k := 0) (As := []) (rest := []) hx hb hml hown ht (mk_X11_good l D q cA F _ _ _ hI ) hw_6_123 hmX11_good ⟨rfl, rfl⟩ (na := 0) rfl (by decide +kernel) (by decide) (by decide) rfl rfl hK hP hD hS hA hl.1 rfl (Nat.le_of_ble_eq_true rfl) ⟨Nat.zero_le _, Nat.zero_le _⟩ dX11_is_1 (fun r_1 I_1 R_1 J_1 H locs hp_1 hP hD hS _ _ => ?_)
  rcases hp_1 with ⟨rfl, hu_1, nn_1⟩ | ⟨rfl, hu_1, nn_1⟩
  · cases hu_1
    refine lv_if_eq (tgt := 35) hx hb dX11_is_4 (by decide) (fun c_0 => absurd c_0 (zD_ne zk_1 zk_z (by decide))) (fun _ => ?_)
    refine lv_aload_n hx hb dX11_is_7 rfl (lv_at hl 0 rfl) ?_
    refine z_get hx hb ht hown hK hP ziX11 rfl 0 (by decide) 10 (by decide) hw_5_197 rfl (v := .int (I 0 10)) rfl dX11_is_8 ?_
    refine lv_iconst (v := nI 1) hx hb dX11_is_11 (by decide +kernel) ?_
    refine lv_icmp_ne (tgt := 35) hx hb dX11_is_12 (by decide) (fun c_2 => ?_) (fun c_2 => ?_)
    · have t_c_2 := z_eqF c_2
      refine lv_iconst (v := nI 0) hx hb dX11_is_35 (by decide +kernel) ?_
      refine lv_istore_n (lv' := [(2, .int (nI 0)), (0, .ref (q 0)), (1, .ref (ad 8))]) hx hb dX11_is_36 rfl hl (by decide) rfl (fun ls hl => ?_)
      refine lv_iconst (v := nI 0) hx hb dX11_is_37 (by decide +kernel) ?_
      refine lv_istore_n (lv' := [(3, .int (nI 0)), (2, .int (nI 0)), (0, .ref (q 0)), (1, .ref (ad 8))]) hx hb dX11_is_38 rfl hl (by decide) rfl (fun ls hl => ?_)
      refine lv_iload_n hx hb dX11_is_39 rfl (lv_at hl 0 rfl) ?_
      refine lv_aload_n hx hb dX11_is_40 rfl (lv_at hl 3 rfl) ?_
      refine z_cNXi (As := []) (rest := [.int (nI 0)]) hx hb hml hown ht (mk_J0_length_8abf5_4 l D q cA ad av t9 F _ _ _ hI ) hw_6_144 hmJ0_length_8abf5 ⟨rfl, rfl⟩ (na := 0) rfl (by decide +kernel) (by decide) (vk_recv hZ.1 (by decide) hS) hK hP hD hS hA (zSS_c (Rs := zMRs) (t9 := t9) (fun _ _ _ => zMRs_c)) (zSS_w (Rs := zMRs) (t9 := t9) (fun _ _ _ => zMRs_w) hN hsz hS) hl.1 rfl (Nat.le_of_ble_eq_true rfl) ⟨Nat.zero_le _, Nat.zero_le _⟩ dX11_is_41 (fun r_5 I_5 R_5 J_5 H locs hp_5 hP hD hS _ _ => ?_)
      obtain ⟨rfl, hu_5⟩ := hp_5
      cases hu_5
      refine lv_icmp_ge (tgt := 82) hx hb dX11_is_44 (by decide) (fun c_0 => absurd c_0 (zD_nle zk_2 zk_0 (by decide))) (fun _ => ?_)
      refine lv_iload_n hx hb dX11_is_47 rfl (lv_at hl 1 rfl) ?_
      refine lv_if_eq (tgt := 82) hx hb dX11_is_48 (by decide) (fun _ => ?_) (fun c_0 => absurd (zD_eq zk_0 zk_z) c_0)
      refine lv_iload_n hx hb dX11_is_82 rfl (lv_at hl 1 rfl) ?_
      exact z_zret (v := nI 0) hx hb hr hlocks hP hD hS (by decide +kernel) dX11_is_83 (Or.inr ⟨rfl, rfl, (mIs_n2 t_c_2)⟩)
    · have t_c_2 := z_eqT c_2
      have f_6 : zR 1 1 (I 0 10) := zR_eqx t_c_2 zk_1
      refine lv_aload_n hx hb dX11_is_15 rfl (lv_at hl 0 rfl) ?_
      refine z_get hx hb ht hown hK hP ziX11 rfl 0 (by decide) 8 (by decide) hw_5_195 rfl (v := .int (I 0 8)) rfl dX11_is_16 ?_
      have f_7 : zR 0 800 (I 0 8) := mI hI 0 8
      refine lv_aload_n hx hb dX11_is_19 rfl (lv_at hl 0 rfl) ?_
      refine z_get hx hb ht hown hK hP ziX11 rfl 0 (by decide) 9 (by decide) hw_5_196 rfl (v := .int (I 0 9)) rfl dX11_is_20 ?_
      have f_8 : zR 0 800 (I 0 9) := mI hI 0 9
      refine lv_isub hx hb dX11_is_23 ?_
      refine lv_topi (fun v_9 ev_9 => ?_)
      have hv_9 : zR (-800) 800 v_9 := ev_9 ▸ zR_sub f_7 f_8 (by decide)
      refine lv_aload_n hx hb dX11_is_24 rfl (lv_at hl 1 rfl) ?_
      refine z_cNXi (As := []) (rest := [.int (v_9)]) hx hb hml hown ht (mk_J0_length_8abf5_4 l D q cA ad av t9 F _ _ _ hI ) hw_6_144 hmJ0_length_8abf5 ⟨rfl, rfl⟩ (na := 0) rfl (by decide +kernel) (by decide) (vk_recv hZ.1 (by decide) hS) hK hP hD hS hA (zSS_c (Rs := zMRs) (t9 := t9) (fun _ _ _ => zMRs_c)) (zSS_w (Rs := zMRs) (t9 := t9) (fun _ _ _ => zMRs_w) hN hsz hS) hl.1 rfl (Nat.le_of_ble_eq_true rfl) ⟨Nat.zero_le _, Nat.zero_le _⟩ dX11_is_25 (fun r_10 I_10 R_10 J_10 H locs hp_10 hP hD hS _ _ => ?_)
      obtain ⟨rfl, hu_10⟩ := hp_10
      cases hu_10
      refine lv_icmp_ne (tgt := 35) hx hb dX11_is_28 (by decide) (fun c_11 => ?_) (fun c_11 => ?_)
      · have t_c_11 := z_eqF c_11
        refine lv_iconst (v := nI 0) hx hb dX11_is_35 (by decide +kernel) ?_
        refine lv_istore_n (lv' := [(2, .int (nI 0)), (0, .ref (q 0)), (1, .ref (ad 8))]) hx hb dX11_is_36 rfl hl (by decide) rfl (fun ls hl => ?_)
        refine lv_iconst (v := nI 0) hx hb dX11_is_37 (by decide +kernel) ?_
        refine lv_istore_n (lv' := [(3, .int (nI 0)), (2, .int (nI 0)), (0, .ref (q 0)), (1, .ref (ad 8))]) hx hb dX11_is_38 rfl hl (by decide) rfl (fun ls hl => ?_)
        refine lv_iload_n hx hb dX11_is_39 rfl (lv_at hl 0 rfl) ?_
        refine lv_aload_n hx hb dX11_is_40 rfl (lv_at hl 3 rfl) ?_
        refine z_cNXi (As := []) (rest := [.int (nI 0)]) hx hb hml hown ht (mk_J0_length_8abf5_4 l D q cA ad av t9 F _ _ _ hI ) hw_6_144 hmJ0_length_8abf5 ⟨rfl, rfl⟩ (na := 0) rfl (by decide +kernel) (by decide) (vk_recv hZ.1 (by decide) hS) hK hP hD hS hA (zSS_c (Rs := zMRs) (t9 := t9) (fun _ _ _ => zMRs_c)) (zSS_w (Rs := zMRs) (t9 := t9) (fun _ _ _ => zMRs_w) hN hsz hS) hl.1 rfl (Nat.le_of_ble_eq_true rfl) ⟨Nat.zero_le _, Nat.zero_le _⟩ dX11_is_41 (fun r_14 I_14 R_14 J_14 H locs hp_14 hP hD hS _ _ => ?_)
        obtain ⟨rfl, hu_14⟩ := hp_14
        cases hu_14
        refine lv_icmp_ge (tgt := 82) hx hb dX11_is_44 (by decide) (fun c_0 => absurd c_0 (zD_nle zk_2 zk_0 (by decide))) (fun _ => ?_)
        refine lv_iload_n hx hb dX11_is_47 rfl (lv_at hl 1 rfl) ?_
        refine lv_if_eq (tgt := 82) hx hb dX11_is_48 (by decide) (fun _ => ?_) (fun c_0 => absurd (zD_eq zk_0 zk_z) c_0)
        refine lv_iload_n hx hb dX11_is_82 rfl (lv_at hl 1 rfl) ?_
        exact z_zret (v := nI 0) hx hb hr hlocks hP hD hS (by decide +kernel) dX11_is_83 (Or.inr ⟨rfl, rfl, (mIs_n3 ev_9 t_c_11)⟩)
      · have t_c_11 := z_eqT c_11
        have f_15 : zR 2 2 (v_9) := zR_eqx t_c_11 zk_2
        have f_16 : zR 0 798 (I 0 9) := z_start f_7 f_8 ev_9 f_15 (by decide)
        refine lv_iconst (v := nI 1) hx hb dX11_is_31 (by decide +kernel) ?_
        refine lv_goto (tgt := 36) hx hb dX11_is_32 (by decide) ?_
        refine lv_istore_n (lv' := [(2, .int (nI 1)), (0, .ref (q 0)), (1, .ref (ad 8))]) hx hb dX11_is_36 rfl hl (by decide) rfl (fun ls hl => ?_)
        refine lv_iconst (v := nI 0) hx hb dX11_is_37 (by decide +kernel) ?_
        refine lv_istore_n (lv' := [(3, .int (nI 0)), (2, .int (nI 1)), (0, .ref (q 0)), (1, .ref (ad 8))]) hx hb dX11_is_38 rfl hl (by decide) rfl (fun ls hl => ?_)
        have loop_71 : ∀ N : Nat, ∀ x_68 : Int32, zR 0 1 x_68 → ∀ x_69 : Int32, zR 0 2 x_69 → (mIsL 8 I R (x_69) (x_68)) → (2147483648 - (x_69).toInt).toNat < N → ∀ (H : Heap) (locs : List Loc), va_P D vwCl (zw 25 q (zMd q cA) I R J) H → va_D (zA 25 q sz) (zw 25 q (zMd q cA) I R J) → va_S (zA 25 q sz) s.heap H locs → ∀ ls : Array Slot, lv_has ls 4 [(0, .ref (q 0)), (1, .ref (ad 8)), (2, .int (x_68)), (3, .int (x_69))] → W p l e ({ frames := 4, cells := 0, slots := 0, locals := 85 } : Room) s m ([.ref (q 0), .ref (ad 8)] : List Value).toArray below meth c H locs 0 0 (MQ below (va_Qi (fun r u => (r = nI 1 ∧ u = (I, R, J) ∧ mIs 8 I R) ∨ (r = nI 0 ∧ u = (I, R, J) ∧ ¬ mIs 8 I R)) (zB D vwCl 25 q (zMd q cA) sz) (zA 25 q sz)) ([.ref (q 0), .ref (ad 8)] : List Value).toArray s 0 0 (zA 25 q sz)) (F0 m 39 ls []) := by
          intro N
          induction N with
          | zero => intro x_68 hx_68 x_69 hx_69 hx_70 hN; exact absurd hN (Nat.not_lt_zero _)
          | succ N ih_73 =>
            intro x_68 hx_68 x_69 hx_69 hx_70 hN_72 H locs hP hD hS ls hl
            refine lv_iload_n hx hb dX11_is_39 rfl (lv_at hl 3 rfl) ?_
            refine lv_aload_n hx hb dX11_is_40 rfl (lv_at hl 1 rfl) ?_
            refine z_cNXi (As := []) (rest := [.int (x_69)]) hx hb hml hown ht (mk_J0_length_8abf5_4 l D q cA ad av t9 F _ _ _ hI ) hw_6_144 hmJ0_length_8abf5 ⟨rfl, rfl⟩ (na := 0) rfl (by decide +kernel) (by decide) (vk_recv hZ.1 (by decide) hS) hK hP hD hS hA (zSS_c (Rs := zMRs) (t9 := t9) (fun _ _ _ => zMRs_c)) (zSS_w (Rs := zMRs) (t9 := t9) (fun _ _ _ => zMRs_w) hN hsz hS) hl.1 rfl (Nat.le_of_ble_eq_true rfl) ⟨Nat.zero_le _, Nat.zero_le _⟩ dX11_is_41 (fun r_74 I_74 R_74 J_74 H locs hp_74 hP hD hS _ _ => ?_)
            obtain ⟨rfl, hu_74⟩ := hp_74
            cases hu_74
            refine lv_icmp_ge (tgt := 82) hx hb dX11_is_44 (by decide) (fun c_75 => ?_) (fun c_75 => ?_)
            · have t_c_75 := z_leT c_75
              have f_76 : zR 2 2 (x_69) := zR_ley t_c_75 zk_2 hx_69 (by decide)
              refine lv_iload_n hx hb dX11_is_82 rfl (lv_at hl 2 rfl) ?_
              exact z_zret (v := x_68) hx hb hr hlocks hP hD hS (zR_bool (a := 0) (b := 1) hx_68 (by decide)).1 dX11_is_83 (mIs_r1 hx_70 hx_68 t_c_75)
            · have t_c_75 := z_leF c_75
              have f_77 : zR 0 1 (x_69) := zR_ltx t_c_75 hx_69 zk_2 (by decide)
              refine lv_iload_n hx hb dX11_is_47 rfl (lv_at hl 2 rfl) ?_
              refine lv_if_eq (tgt := 82) hx hb dX11_is_48 (by decide) (fun c_78 => ?_) (fun c_78 => ?_)
              · have t_c_78 := z_eqT c_78
                have f_79 : zR 0 0 (x_68) := zR_eqx t_c_78 zk_z
                refine lv_iload_n hx hb dX11_is_82 rfl (lv_at hl 2 rfl) ?_
                exact z_zret (v := x_68) hx hb hr hlocks hP hD hS (zR_bool (a := 0) (b := 1) (zR_w f_79 (by decide)) (by decide)).1 dX11_is_83 (mIs_r0 hx_70 f_79)
              · have t_c_78 := z_eqF c_78
                have f_80 : zR 1 1 (x_68) := zR_nex t_c_78 hx_68 zk_z (by decide)
                refine lv_aload_n hx hb dX11_is_51 rfl (lv_at hl 0 rfl) ?_
                refine z_get hx hb ht hown hK hP ziX11 rfl 0 (by decide) 4 (by decide) hw_5_191 rfl (v := .ref (q 4)) rfl dX11_is_52 ?_
                refine lv_aload_n hx hb dX11_is_55 rfl (lv_at hl 0 rfl) ?_
                refine z_get hx hb ht hown hK hP ziX11 rfl 0 (by decide) 9 (by decide) hw_5_196 rfl (v := .int (I 0 9)) rfl dX11_is_56 ?_
                refine lv_iload_n hx hb dX11_is_59 rfl (lv_at hl 3 rfl) ?_
                refine lv_iadd hx hb dX11_is_60 ?_
                refine lv_topi (fun v_81 ev_81 => ?_)
                have hv_81 : zR 0 799 v_81 := ev_81 ▸ zR_add f_16 f_77 (by decide)
                refine z_bald hx hb hK hP 4 (by decide) 3 rfl rfl (zR_vin hv_81 (by decide)) dX11_is_61 ?_
                refine z_eqi (y := R 4 (v_81).toNatClampNeg) rfl ?_
                refine lv_aload_n hx hb dX11_is_62 rfl (lv_at hl 1 rfl) ?_
                refine lv_iload_n hx hb dX11_is_63 rfl (lv_at hl 3 rfl) ?_
                refine z_cNXi (As := [.int (x_69)]) (rest := [.int (R 4 (v_81).toNatClampNeg)]) hx hb hml hown ht (mk_J0_charAt_5068e_8 l D q cA ad av t9 F _ _ _ hI (x_69) f_77) hw_6_145 hmJ0_charAt_5068e ⟨rfl, rfl⟩ (na := 1) rfl (by decide +kernel) (by decide) (vk_recv hZ.1 (by decide) hS) hK hP hD hS hA (zSS_c (Rs := zMRs) (t9 := t9) (fun _ _ _ => zMRs_c)) (zSS_w (Rs := zMRs) (t9 := t9) (fun _ _ _ => zMRs_w) hN hsz hS) hl.1 rfl (Nat.le_of_ble_eq_true rfl) ⟨Nat.zero_le _, Nat.zero_le _⟩ dX11_is_64 (fun r_82 I_82 R_82 J_82 H locs hp_82 hP hD hS _ _ => ?_)
                obtain ⟨⟨rfl, hr_82⟩, hu_82⟩ := hp_82
                cases hu_82
                refine lv_icmp_ne (tgt := 74) hx hb dX11_is_67 (by decide) (fun c_83 => ?_) (fun c_83 => ?_)
                · have t_c_83 := z_eqF c_83
                  refine lv_iconst (v := nI 0) hx hb dX11_is_74 (by decide +kernel) ?_
                  refine lv_istore_n (lv' := [(2, .int (nI 0)), (0, .ref (q 0)), (1, .ref (ad 8)), (3, .int (x_69))]) hx hb dX11_is_75 rfl hl (by decide) rfl (fun ls hl => ?_)
                  obtain ⟨v_84, ev_84⟩ : ∃ y : Int32, y = x_69 + nI 1 := ⟨_, rfl⟩
                  have hv_84 : zR 1 2 v_84 := ev_84 ▸ zR_add f_77 zk_1 (by decide)
                  have mv_84 : v_84.toInt = (x_69).toInt + 1 := by rw [ev_84, zR_addE f_77 zk_1 (by decide)]; rfl
                  refine lv_iinc (v := v_84) (lv' := [(3, .int (v_84)), (2, .int (nI 0)), (0, .ref (q 0)), (1, .ref (ad 8))]) hx hb dX11_is_76 hl (k := 3) rfl (ev_84 ▸ rfl) (by decide) rfl (fun ls hl => ?_)
                  refine lv_goto (tgt := 39) hx hb dX11_is_79 (by decide) ?_
                  exact ih_73 (nI 0) (zR_w zk_0 (by decide)) (v_84) (zR_w hv_84 (by decide)) (mIsL_n hx_70 f_80 t_c_75 t_c_83 (mIs_ix (zR_w f_16 (by decide)) (zR_w f_77 (by decide)) ev_81)) (z2_up mv_84 (by decide) hN_72) _ _ hP hD hS _ (lv_sub hl [2, 3, 1, 0] rfl)
                · have t_c_83 := z_eqT c_83
                  have f_85 : zR 0 65535 (R 4 (v_81).toNatClampNeg) := zR_eqx t_c_83 hr_82
                  refine lv_iconst (v := nI 1) hx hb dX11_is_70 (by decide +kernel) ?_
                  refine lv_goto (tgt := 75) hx hb dX11_is_71 (by decide) ?_
                  refine lv_istore_n (lv' := [(2, .int (nI 1)), (0, .ref (q 0)), (1, .ref (ad 8)), (3, .int (x_69))]) hx hb dX11_is_75 rfl hl (by decide) rfl (fun ls hl => ?_)
                  obtain ⟨v_86, ev_86⟩ : ∃ y : Int32, y = x_69 + nI 1 := ⟨_, rfl⟩
                  have hv_86 : zR 1 2 v_86 := ev_86 ▸ zR_add f_77 zk_1 (by decide)
                  have mv_86 : v_86.toInt = (x_69).toInt + 1 := by rw [ev_86, zR_addE f_77 zk_1 (by decide)]; rfl
                  refine lv_iinc (v := v_86) (lv' := [(3, .int (v_86)), (2, .int (nI 1)), (0, .ref (q 0)), (1, .ref (ad 8))]) hx hb dX11_is_76 hl (k := 3) rfl (ev_86 ▸ rfl) (by decide) rfl (fun ls hl => ?_)
                  refine lv_goto (tgt := 39) hx hb dX11_is_79 (by decide) ?_
                  exact ih_73 (nI 1) (zR_w zk_1 (by decide)) (v_86) (zR_w hv_86 (by decide)) (mIsL_1 hx_70 f_80 mv_86 t_c_83 (mIs_ix (zR_w f_16 (by decide)) (zR_w f_77 (by decide)) ev_81)) (z2_up mv_86 (by decide) hN_72) _ _ hP hD hS _ (lv_sub hl [2, 3, 1, 0] rfl)
        exact loop_71 _ (nI 1) (zR_w zk_1 (by decide)) (nI 0) (zR_w zk_0 (by decide)) (mIsL_0 (mIs_a3 nn_1 t_c_2 ev_9 f_15)) (Nat.lt_succ_self _) _ _ hP hD hS _ (lv_sub hl [2, 3, 1, 0] rfl)
  · cases hu_1
    refine lv_if_eq (tgt := 35) hx hb dX11_is_4 (by decide) (fun _ => ?_) (fun c_0 => absurd (zD_eq zk_0 zk_z) c_0)
    refine lv_iconst (v := nI 0) hx hb dX11_is_35 (by decide +kernel) ?_
    refine lv_istore_n (lv' := [(2, .int (nI 0)), (0, .ref (q 0)), (1, .ref (ad 8))]) hx hb dX11_is_36 rfl hl (by decide) rfl (fun ls hl => ?_)
    refine lv_iconst (v := nI 0) hx hb dX11_is_37 (by decide +kernel) ?_
    refine lv_istore_n (lv' := [(3, .int (nI 0)), (2, .int (nI 0)), (0, .ref (q 0)), (1, .ref (ad 8))]) hx hb dX11_is_38 rfl hl (by decide) rfl (fun ls hl => ?_)
    refine lv_iload_n hx hb dX11_is_39 rfl (lv_at hl 0 rfl) ?_
    refine lv_aload_n hx hb dX11_is_40 rfl (lv_at hl 3 rfl) ?_
    refine z_cNXi (As := []) (rest := [.int (nI 0)]) hx hb hml hown ht (mk_J0_length_8abf5_4 l D q cA ad av t9 F _ _ _ hI ) hw_6_144 hmJ0_length_8abf5 ⟨rfl, rfl⟩ (na := 0) rfl (by decide +kernel) (by decide) (vk_recv hZ.1 (by decide) hS) hK hP hD hS hA (zSS_c (Rs := zMRs) (t9 := t9) (fun _ _ _ => zMRs_c)) (zSS_w (Rs := zMRs) (t9 := t9) (fun _ _ _ => zMRs_w) hN hsz hS) hl.1 rfl (Nat.le_of_ble_eq_true rfl) ⟨Nat.zero_le _, Nat.zero_le _⟩ dX11_is_41 (fun r_89 I_89 R_89 J_89 H locs hp_89 hP hD hS _ _ => ?_)
    obtain ⟨rfl, hu_89⟩ := hp_89
    cases hu_89
    refine lv_icmp_ge (tgt := 82) hx hb dX11_is_44 (by decide) (fun c_0 => absurd c_0 (zD_nle zk_2 zk_0 (by decide))) (fun _ => ?_)
    refine lv_iload_n hx hb dX11_is_47 rfl (lv_at hl 1 rfl) ?_
    refine lv_if_eq (tgt := 82) hx hb dX11_is_48 (by decide) (fun _ => ?_) (fun c_0 => absurd (zD_eq zk_0 zk_z) c_0)
    refine lv_iload_n hx hb dX11_is_82 rfl (lv_at hl 1 rfl) ?_
    exact z_zret (v := nI 0) hx hb hr hlocks hP hD hS (by decide +kernel) dX11_is_83 (Or.inr ⟨rfl, rfl, (mIs_n1 nn_1)⟩)
set_option maxHeartbeats 4000000 in
set_option maxRecDepth 100000 in
theorem mk_X11_takes_4 (l : Launch) (D : va_G) (q : Nat → Nat) (cA : Nat → ClassId) (ad av : Nat → Nat) (t9 : Nat) (F : Nat → Nat → Int32) (I R : Nat → Nat → Int32) (J : Nat → Nat → Int64) (hI : mInv F (I, R, J))  : zNi (zSS zMRs 25 q ad av t9) l D vwCl (zMtys cA) 25 q (zMd q cA) yX11_takes cX11_takes 3 (some .boolean) ({ frames := 5, cells := 0, slots := 0, locals := 108 } : Room) [.ref (q 0), .ref (ad 8)] (I, R, J) (fun r u => (r = nI 1 ∧ ((mInv F u ∧ (∀ k, k ≠ 0 → u.1 k = I k) ∧ u.2 = (R, J)) ∧ mTr I u.1) ∧ mIs 8 I R) ∨ (r = nI 0 ∧ u = (I, R, J) ∧ ¬ mIs 8 I R)) := by
  intro sz
  refine z_bodyN (by decide +kernel) (Nat.le_of_ble_eq_true rfl) (fun p e s m below meth c ls hx hb hml hr ht hown hlocks hsz hK hP hD hS hN hl => ?_)
  have hA : ∀ a, s.heap.size ≤ a → zA 25 q sz a := fun a h => Or.inr (hsz ▸ h)
  have hl : lv_has ls 3 [(0, .ref (q 0)), (1, .ref (ad 8))] := hl
  have hZ : zSz zMRs 25 q ad av t9 sz s := hsz ▸ hN
  refine lv_aload_n hx hb dX11_takes_0 rfl (lv_at hl 0 rfl) ?_
  refine lv_aload_n hx hb dX11_takes_1 rfl (lv_at hl 1 rfl) ?_
  refine z_cNVi (k := 0) (As := [.ref (ad 8)]) (rest := []) hx hb hml hown ht (mk_X11_is_4 l D q cA ad av t9 F _ _ _ hI ) hw_6_140 hmX11_is ⟨rfl, rfl⟩ (na := 1) rfl (by decide +kernel) (by decide) (by decide) rfl rfl hK hP hD hS hA (zSS_c (Rs := zMRs) (t9 := t9) (fun _ _ _ => zMRs_c)) (zSS_w (Rs := zMRs) (t9 := t9) (fun _ _ _ => zMRs_w) hN hsz hS) hl.1 rfl (Nat.le_of_ble_eq_true rfl) ⟨Nat.zero_le _, Nat.zero_le _⟩ dX11_takes_2 (fun r_1 I_1 R_1 J_1 H locs hp_1 hP hD hS _ _ => ?_)
  rcases hp_1 with ⟨rfl, hu_1, nn_1⟩ | ⟨rfl, hu_1, nn_1⟩
  · cases hu_1
    refine lv_istore_n (lv' := [(2, .int (nI 1)), (0, .ref (q 0)), (1, .ref (ad 8))]) hx hb dX11_takes_5 rfl hl (by decide) rfl (fun ls hl => ?_)
    refine lv_iload_n hx hb dX11_takes_6 rfl (lv_at hl 0 rfl) ?_
    refine lv_if_eq (tgt := 14) hx hb dX11_takes_7 (by decide) (fun c_0 => absurd c_0 (zD_ne zk_1 zk_z (by decide))) (fun _ => ?_)
    refine lv_aload_n hx hb dX11_takes_10 rfl (lv_at hl 1 rfl) ?_
    refine z_callVv (k := 0) (As := []) (rest := []) hx hb hml hown ht (mk_X11_advance l D q cA F _ _ _ hI ) hw_6_109 hmX11_advance ⟨rfl, rfl⟩ (na := 0) rfl (by decide +kernel) (by decide) (by decide) rfl rfl hK hP hD hS hA hl.1 rfl (Nat.le_of_ble_eq_true rfl) ⟨Nat.zero_le _, Nat.zero_le _⟩ dX11_takes_11 (fun I_2 R_2 J_2 H locs hp_2 hP hD hS _ _ => ?_)
    obtain ⟨hq_2, he_2⟩ := hp_2
    try dsimp only at he_2
    obtain ⟨hv_2, hk_2, hj_2⟩ := hq_2
    try dsimp only at hj_2 hk_2
    cases hj_2
    have hf_3 : ∀ k, k ≠ 0 → I_2 k = I k := fun k h => (hk_2 k h).trans ((fun (_ : Nat) _ => rfl) k h)
    refine lv_iload_n hx hb dX11_takes_14 rfl (lv_at hl 0 rfl) ?_
    exact z_zret (v := nI 1) hx hb hr hlocks hP hD hS (by decide +kernel) dX11_takes_15 (Or.inl ⟨rfl, ⟨⟨hv_2, hf_3, rfl⟩, he_2⟩, nn_1⟩)
  · cases hu_1
    refine lv_istore_n (lv' := [(2, .int (nI 0)), (0, .ref (q 0)), (1, .ref (ad 8))]) hx hb dX11_takes_5 rfl hl (by decide) rfl (fun ls hl => ?_)
    refine lv_iload_n hx hb dX11_takes_6 rfl (lv_at hl 0 rfl) ?_
    refine lv_if_eq (tgt := 14) hx hb dX11_takes_7 (by decide) (fun _ => ?_) (fun c_0 => absurd (zD_eq zk_0 zk_z) c_0)
    refine lv_iload_n hx hb dX11_takes_14 rfl (lv_at hl 0 rfl) ?_
    exact z_zret (v := nI 0) hx hb hr hlocks hP hD hS (by decide +kernel) dX11_takes_15 (Or.inr ⟨rfl, rfl, nn_1⟩)
set_option maxHeartbeats 4000000 in
set_option maxRecDepth 100000 in
theorem mk_X11_needs_1 (l : Launch) (D : va_G) (q : Nat → Nat) (cA : Nat → ClassId) (ad av : Nat → Nat) (t9 : Nat) (F : Nat → Nat → Int32) (I R : Nat → Nat → Int32) (J : Nat → Nat → Int64) (hI : mInv F (I, R, J))  : zNv (zSS zMRs 25 q ad av t9) l D vwCl (zMtys cA) 25 q (zMd q cA) yX11_needs cX11_needs 2 none ({ frames := 6, cells := 0, slots := 0, locals := 130 } : Room) [.ref (q 0), .ref (ad 8)] (I, R, J) (fun u => (mInv F u ∧ (∀ k, k ≠ 0 → u.1 k = I k) ∧ u.2 = (R, J)) ∧ mTr I u.1) := by
  intro sz
  refine z_bodyN (by decide +kernel) (Nat.le_of_ble_eq_true rfl) (fun p e s m below meth c ls hx hb hml hr ht hown hlocks hsz hK hP hD hS hN hl => ?_)
  have hA : ∀ a, s.heap.size ≤ a → zA 25 q sz a := fun a h => Or.inr (hsz ▸ h)
  have hl : lv_has ls 2 [(0, .ref (q 0)), (1, .ref (ad 8))] := hl
  have hZ : zSz zMRs 25 q ad av t9 sz s := hsz ▸ hN
  refine lv_aload_n hx hb dX11_needs_0 rfl (lv_at hl 0 rfl) ?_
  refine lv_aload_n hx hb dX11_needs_1 rfl (lv_at hl 1 rfl) ?_
  refine z_cNVi (k := 0) (As := [.ref (ad 8)]) (rest := []) hx hb hml hown ht (mk_X11_takes_4 l D q cA ad av t9 F _ _ _ hI ) hw_6_136 hmX11_takes ⟨rfl, rfl⟩ (na := 1) rfl (by decide +kernel) (by decide) (by decide) rfl rfl hK hP hD hS hA (zSS_c (Rs := zMRs) (t9 := t9) (fun _ _ _ => zMRs_c)) (zSS_w (Rs := zMRs) (t9 := t9) (fun _ _ _ => zMRs_w) hN hsz hS) hl.1 rfl (Nat.le_of_ble_eq_true rfl) ⟨Nat.zero_le _, Nat.zero_le _⟩ dX11_needs_2 (fun r_1 I_1 R_1 J_1 H locs hp_1 hP hD hS _ _ => ?_)
  rcases hp_1 with ⟨rfl, hu_1, nn_1⟩ | ⟨rfl, hu_1, nn_1⟩
  · obtain ⟨hq_1, he_1⟩ := hu_1
    try dsimp only at he_1
    obtain ⟨hv_1, hk_1, hj_1⟩ := hq_1
    try dsimp only at hj_1 hk_1
    cases hj_1
    have hf_2 : ∀ k, k ≠ 0 → I_1 k = I k := fun k h => (hk_1 k h).trans ((fun (_ : Nat) _ => rfl) k h)
    refine lv_if_ne (tgt := 13) hx hb dX11_needs_5 (by decide) (fun _ => ?_) (fun c_0 => absurd c_0 (zD_ne zk_1 zk_z (by decide)))
    exact z_vret hx hb hr hlocks hP hD hS dX11_needs_13 ⟨⟨hv_1, hf_2, rfl⟩, he_1⟩
  · cases hu_1
    refine lv_if_ne (tgt := 13) hx hb dX11_needs_5 (by decide) (fun c_0 => absurd (zD_eq zk_0 zk_z) c_0) (fun _ => ?_)
    refine lv_aload_n hx hb dX11_needs_8 rfl (lv_at hl 0 rfl) ?_
    refine lv_iconst (v := nI 1) hx hb dX11_needs_9 (by decide +kernel) ?_
    refine z_callVv (k := 0) (As := [.int (nI 1)]) (rest := []) hx hb hml hown ht (mk_X11_errs l D q cA F _ _ _ hI ) hw_6_146 hmX11_errs ⟨rfl, rfl⟩ (na := 1) rfl (by decide +kernel) (by decide) (by decide) rfl rfl hK hP hD hS hA hl.1 rfl (Nat.le_of_ble_eq_true rfl) ⟨Nat.zero_le _, Nat.zero_le _⟩ dX11_needs_10 (fun I_3 R_3 J_3 H locs hp_3 hP hD hS _ _ => ?_)
    obtain ⟨hq_3, he_3⟩ := hp_3
    obtain ⟨hv_3, hk_3, hj_3⟩ := hq_3
    try dsimp only at hj_3 hk_3
    cases hj_3
    have hf_4 : ∀ k, k ≠ 0 → I_3 k = I k := fun k h => (hk_3 k h).trans ((fun (_ : Nat) _ => rfl) k h)
    exact z_vret hx hb hr hlocks hP hD hS dX11_needs_13 ⟨⟨hv_3, hf_4, rfl⟩, (mTr_f he_3)⟩
set_option maxHeartbeats 4000000 in
set_option maxRecDepth 100000 in
theorem mk_X11_number_1 (l : Launch) (D : va_G) (q : Nat → Nat) (cA : Nat → ClassId) (F : Nat → Nat → Int32) (I R : Nat → Nat → Int32) (J : Nat → Nat → Int64) (hI : mInv F (I, R, J)) (pa1 : Int32) (hpa1 : zR (-1) 4 pa1) : zMi l D vwCl (zMtys cA) 25 q (zMd q cA) yX11_number cX11_number 4 (some .int) ({ frames := 2, cells := 0, slots := 0, locals := 85 } : Room) [.ref (q 0), .int (nI 0), .int (pa1)] (I, R, J) (fun r u => ((mInv F u ∧ (∀ k, k ≠ 0 → u.1 k = I k) ∧ u.2 = (R, J)) ∧ mTr I u.1) ∧ zR 0 4 r) := by
  intro sz
  refine z_body (by decide +kernel) (Nat.le_of_ble_eq_true rfl) (fun p e s m below meth c ls hx hb hml hr ht hown hlocks hsz hK hP hD hS hl => ?_)
  have hA : ∀ a, s.heap.size ≤ a → zA 25 q sz a := fun a h => Or.inr (hsz ▸ h)
  have hl : lv_has ls 4 [(0, .ref (q 0)), (1, .int (nI 0)), (2, .int (pa1))] := hl
  refine lv_aload_n hx hb dX11_number_0 rfl (lv_at hl 0 rfl) ?_
  refine z_callVi (k := 0) (As := []) (rest := []) hx hb hml hown ht (mk_X11_good l D q cA F _ _ _ hI ) hw_6_123 hmX11_good ⟨rfl, rfl⟩ (na := 0) rfl (by decide +kernel) (by decide) (by decide) rfl rfl hK hP hD hS hA hl.1 rfl (Nat.le_of_ble_eq_true rfl) ⟨Nat.zero_le _, Nat.zero_le _⟩ dX11_number_1 (fun r_1 I_1 R_1 J_1 H locs hp_1 hP hD hS _ _ => ?_)
  rcases hp_1 with ⟨rfl, hu_1, nn_1⟩ | ⟨rfl, hu_1, nn_1⟩
  · cases hu_1
    refine lv_if_eq (tgt := 20) hx hb dX11_number_4 (by decide) (fun c_0 => absurd c_0 (zD_ne zk_1 zk_z (by decide))) (fun _ => ?_)
    refine lv_aload_n hx hb dX11_number_7 rfl (lv_at hl 0 rfl) ?_
    refine z_get hx hb ht hown hK hP ziX11 rfl 0 (by decide) 10 (by decide) hw_5_197 rfl (v := .int (I 0 10)) rfl dX11_number_8 ?_
    refine lv_iconst (v := nI 2) hx hb dX11_number_11 (by decide +kernel) ?_
    refine lv_icmp_eq (tgt := 20) hx hb dX11_number_12 (by decide) (fun c_2 => ?_) (fun c_2 => ?_)
    · have t_c_2 := z_eqT c_2
      have f_3 : zR 2 2 (I 0 10) := zR_eqx t_c_2 zk_2
      refine lv_aload_n hx hb dX11_number_20 rfl (lv_at hl 0 rfl) ?_
      refine z_callVi (k := 0) (As := []) (rest := []) hx hb hml hown ht (mk_X11_good l D q cA F _ _ _ hI ) hw_6_123 hmX11_good ⟨rfl, rfl⟩ (na := 0) rfl (by decide +kernel) (by decide) (by decide) rfl rfl hK hP hD hS hA hl.1 rfl (Nat.le_of_ble_eq_true rfl) ⟨Nat.zero_le _, Nat.zero_le _⟩ dX11_number_21 (fun r_4 I_4 R_4 J_4 H locs hp_4 hP hD hS _ _ => ?_)
      rcases hp_4 with ⟨rfl, hu_4, nn_4⟩ | ⟨rfl, hu_4, nn_4⟩
      · cases hu_4
        refine lv_if_eq (tgt := 47) hx hb dX11_number_24 (by decide) (fun c_0 => absurd c_0 (zD_ne zk_1 zk_z (by decide))) (fun _ => ?_)
        refine lv_aload_n hx hb dX11_number_27 rfl (lv_at hl 0 rfl) ?_
        refine z_get hx hb ht hown hK hP ziX11 rfl 0 (by decide) 11 (by decide) hw_5_198 rfl (v := .int (I 0 11)) rfl dX11_number_28 ?_
        refine lv_i2l (v := (I 0 11).toInt64) hx hb dX11_number_31 rfl ?_
        refine lv_iload_n hx hb dX11_number_32 rfl (lv_at hl 1 rfl) ?_
        refine lv_i2l (v := (0 : Int64)) hx hb dX11_number_33 (by decide +kernel) ?_
        refine lv_iload_n hx hb dX11_number_34 rfl (lv_at hl 2 rfl) ?_
        refine lv_i2l (v := (pa1).toInt64) hx hb dX11_number_35 rfl ?_
        refine z_callSi (As := [.long ((I 0 11).toInt64), .long ((0 : Int64)), .long ((pa1).toInt64)]) (rest := []) hx hb hml hown ht (mk_X11_in l D q cA F _ _ _ hI ((I 0 11).toInt64) ((0 : Int64)) ((pa1).toInt64)) hw_6_86 hmX11_in ⟨rfl, rfl⟩ (na := 3) rfl (by decide +kernel) (by decide) hK hP hD hS hA hl.1 rfl (Nat.le_of_ble_eq_true rfl) ⟨Nat.zero_le _, Nat.zero_le _⟩ dX11_number_36 (fun r_5 I_5 R_5 J_5 H locs hp_5 hP hD hS _ _ => ?_)
        rcases hp_5 with ⟨rfl, hu_5, h1_5, h2_5⟩ | ⟨rfl, hu_5, h1_5 | h2_5⟩
        · cases hu_5
          have f_6 : zL 0 2147483647 ((I 0 11).toInt64) := zL_ley h1_5 zkl_0 (zR_i2l (zR_any (I 0 11))) (by decide)
          have f_7 : zR 0 2147483647 (I 0 11) := zL_back f_6
          have f_8 : zL 0 4 ((I 0 11).toInt64) := zL_lex h2_5 f_6 (zR_i2l hpa1) (by decide)
          have f_9 : zR 0 4 (I 0 11) := zL_back f_8
          have f_10 : zL 0 4 ((pa1).toInt64) := zL_ley h2_5 f_6 (zR_i2l hpa1) (by decide)
          have f_11 : zR 0 4 (pa1) := zL_back f_10
          refine lv_if_ne (tgt := 47) hx hb dX11_number_39 (by decide) (fun _ => ?_) (fun c_0 => absurd c_0 (zD_ne zk_1 zk_z (by decide)))
          refine lv_aload_n hx hb dX11_number_47 rfl (lv_at hl 0 rfl) ?_
          refine z_callVi (k := 0) (As := []) (rest := []) hx hb hml hown ht (mk_X11_good l D q cA F _ _ _ hI ) hw_6_123 hmX11_good ⟨rfl, rfl⟩ (na := 0) rfl (by decide +kernel) (by decide) (by decide) rfl rfl hK hP hD hS hA hl.1 rfl (Nat.le_of_ble_eq_true rfl) ⟨Nat.zero_le _, Nat.zero_le _⟩ dX11_number_48 (fun r_12 I_12 R_12 J_12 H locs hp_12 hP hD hS _ _ => ?_)
          rcases hp_12 with ⟨rfl, hu_12, nn_12⟩ | ⟨rfl, hu_12, nn_12⟩
          · cases hu_12
            refine lv_if_ne (tgt := 56) hx hb dX11_number_51 (by decide) (fun _ => ?_) (fun c_0 => absurd c_0 (zD_ne zk_1 zk_z (by decide)))
            refine lv_aload_n hx hb dX11_number_56 rfl (lv_at hl 0 rfl) ?_
            refine z_get hx hb ht hown hK hP ziX11 rfl 0 (by decide) 11 (by decide) hw_5_198 rfl (v := .int (I 0 11)) rfl dX11_number_57 ?_
            refine lv_istore_n (lv' := [(3, .int (I 0 11)), (0, .ref (q 0)), (1, .int (nI 0)), (2, .int (pa1))]) hx hb dX11_number_60 rfl hl (by decide) rfl (fun ls hl => ?_)
            refine lv_aload_n hx hb dX11_number_61 rfl (lv_at hl 1 rfl) ?_
            refine z_callVv (k := 0) (As := []) (rest := []) hx hb hml hown ht (mk_X11_advance l D q cA F _ _ _ hI ) hw_6_109 hmX11_advance ⟨rfl, rfl⟩ (na := 0) rfl (by decide +kernel) (by decide) (by decide) rfl rfl hK hP hD hS hA hl.1 rfl (Nat.le_of_ble_eq_true rfl) ⟨Nat.zero_le _, Nat.zero_le _⟩ dX11_number_62 (fun I_13 R_13 J_13 H locs hp_13 hP hD hS _ _ => ?_)
            obtain ⟨hq_13, he_13⟩ := hp_13
            try dsimp only at he_13
            obtain ⟨hv_13, hk_13, hj_13⟩ := hq_13
            try dsimp only at hj_13 hk_13
            cases hj_13
            have hf_14 : ∀ k, k ≠ 0 → I_13 k = I k := fun k h => (hk_13 k h).trans ((fun (_ : Nat) _ => rfl) k h)
            refine lv_iload_n hx hb dX11_number_65 rfl (lv_at hl 0 rfl) ?_
            exact z_iret (v := I 0 11) hx hb hr hlocks hP hD hS dX11_number_66 ⟨⟨⟨hv_13, hf_14, rfl⟩, he_13⟩, f_9⟩
          · cases hu_12
            exact (zR_abs2 nn_12 nn_4 (by decide)).elim
        · cases hu_5
          have f_15 : zL (-2147483648) (-1) ((I 0 11).toInt64) := zL_ltx h1_5 (zR_i2l (zR_any (I 0 11))) zkl_0 (by decide)
          have f_16 : zR (-2147483648) (-1) (I 0 11) := zL_back f_15
          refine lv_if_ne (tgt := 47) hx hb dX11_number_39 (by decide) (fun c_0 => absurd (zD_eq zk_0 zk_z) c_0) (fun _ => ?_)
          refine lv_aload_n hx hb dX11_number_42 rfl (lv_at hl 0 rfl) ?_
          refine lv_iconst (v := nI 2) hx hb dX11_number_43 (by decide +kernel) ?_
          refine z_callVv (k := 0) (As := [.int (nI 2)]) (rest := []) hx hb hml hown ht (mk_X11_errs_1 l D q cA F _ _ _ hI ) hw_6_146 hmX11_errs ⟨rfl, rfl⟩ (na := 1) rfl (by decide +kernel) (by decide) (by decide) rfl rfl hK hP hD hS hA hl.1 rfl (Nat.le_of_ble_eq_true rfl) ⟨Nat.zero_le _, Nat.zero_le _⟩ dX11_number_44 (fun I_17 R_17 J_17 H locs hp_17 hP hD hS _ _ => ?_)
          obtain ⟨hq_17, he_17⟩ := hp_17
          obtain ⟨hv_17, hk_17, hj_17⟩ := hq_17
          try dsimp only at hj_17 hk_17
          cases hj_17
          have hf_18 : ∀ k, k ≠ 0 → I_17 k = I k := fun k h => (hk_17 k h).trans ((fun (_ : Nat) _ => rfl) k h)
          refine lv_aload_n hx hb dX11_number_47 rfl (lv_at hl 0 rfl) ?_
          refine z_callVi (k := 0) (As := []) (rest := []) hx hb hml hown ht (mk_X11_good l D q cA F _ _ _ hv_17 ) hw_6_123 hmX11_good ⟨rfl, rfl⟩ (na := 0) rfl (by decide +kernel) (by decide) (by decide) rfl rfl hK hP hD hS hA hl.1 rfl (Nat.le_of_ble_eq_true rfl) ⟨Nat.zero_le _, Nat.zero_le _⟩ dX11_number_48 (fun r_19 I_19 R_19 J_19 H locs hp_19 hP hD hS _ _ => ?_)
          rcases hp_19 with ⟨rfl, hu_19, nn_19⟩ | ⟨rfl, hu_19, nn_19⟩
          · cases hu_19
            exact (zR_abs2 nn_19 he_17 (by decide)).elim
          · cases hu_19
            refine lv_if_ne (tgt := 56) hx hb dX11_number_51 (by decide) (fun c_0 => absurd (zD_eq zk_0 zk_z) c_0) (fun _ => ?_)
            refine lv_iconst (v := nI 0) hx hb dX11_number_54 (by decide +kernel) ?_
            exact z_iret (v := nI 0) hx hb hr hlocks hP hD hS dX11_number_55 ⟨⟨⟨hv_17, hf_18, rfl⟩, (mTr_f he_17)⟩, (zR_w zk_0 (by decide))⟩
        · cases hu_5
          have f_20 : zL 0 2147483647 ((I 0 11).toInt64) := zL_lty h2_5 (zR_i2l hpa1) (zR_i2l (zR_any (I 0 11))) (by decide)
          have f_21 : zR 0 2147483647 (I 0 11) := zL_back f_20
          refine lv_if_ne (tgt := 47) hx hb dX11_number_39 (by decide) (fun c_0 => absurd (zD_eq zk_0 zk_z) c_0) (fun _ => ?_)
          refine lv_aload_n hx hb dX11_number_42 rfl (lv_at hl 0 rfl) ?_
          refine lv_iconst (v := nI 2) hx hb dX11_number_43 (by decide +kernel) ?_
          refine z_callVv (k := 0) (As := [.int (nI 2)]) (rest := []) hx hb hml hown ht (mk_X11_errs_1 l D q cA F _ _ _ hI ) hw_6_146 hmX11_errs ⟨rfl, rfl⟩ (na := 1) rfl (by decide +kernel) (by decide) (by decide) rfl rfl hK hP hD hS hA hl.1 rfl (Nat.le_of_ble_eq_true rfl) ⟨Nat.zero_le _, Nat.zero_le _⟩ dX11_number_44 (fun I_22 R_22 J_22 H locs hp_22 hP hD hS _ _ => ?_)
          obtain ⟨hq_22, he_22⟩ := hp_22
          obtain ⟨hv_22, hk_22, hj_22⟩ := hq_22
          try dsimp only at hj_22 hk_22
          cases hj_22
          have hf_23 : ∀ k, k ≠ 0 → I_22 k = I k := fun k h => (hk_22 k h).trans ((fun (_ : Nat) _ => rfl) k h)
          refine lv_aload_n hx hb dX11_number_47 rfl (lv_at hl 0 rfl) ?_
          refine z_callVi (k := 0) (As := []) (rest := []) hx hb hml hown ht (mk_X11_good l D q cA F _ _ _ hv_22 ) hw_6_123 hmX11_good ⟨rfl, rfl⟩ (na := 0) rfl (by decide +kernel) (by decide) (by decide) rfl rfl hK hP hD hS hA hl.1 rfl (Nat.le_of_ble_eq_true rfl) ⟨Nat.zero_le _, Nat.zero_le _⟩ dX11_number_48 (fun r_24 I_24 R_24 J_24 H locs hp_24 hP hD hS _ _ => ?_)
          rcases hp_24 with ⟨rfl, hu_24, nn_24⟩ | ⟨rfl, hu_24, nn_24⟩
          · cases hu_24
            exact (zR_abs2 nn_24 he_22 (by decide)).elim
          · cases hu_24
            refine lv_if_ne (tgt := 56) hx hb dX11_number_51 (by decide) (fun c_0 => absurd (zD_eq zk_0 zk_z) c_0) (fun _ => ?_)
            refine lv_iconst (v := nI 0) hx hb dX11_number_54 (by decide +kernel) ?_
            exact z_iret (v := nI 0) hx hb hr hlocks hP hD hS dX11_number_55 ⟨⟨⟨hv_22, hf_23, rfl⟩, (mTr_f he_22)⟩, (zR_w zk_0 (by decide))⟩
      · cases hu_4
        exact (zR_abs2 nn_4 nn_1 (by decide)).elim
    · have t_c_2 := z_eqF c_2
      refine lv_aload_n hx hb dX11_number_15 rfl (lv_at hl 0 rfl) ?_
      refine lv_iconst (v := nI 1) hx hb dX11_number_16 (by decide +kernel) ?_
      refine z_callVv (k := 0) (As := [.int (nI 1)]) (rest := []) hx hb hml hown ht (mk_X11_errs l D q cA F _ _ _ hI ) hw_6_146 hmX11_errs ⟨rfl, rfl⟩ (na := 1) rfl (by decide +kernel) (by decide) (by decide) rfl rfl hK hP hD hS hA hl.1 rfl (Nat.le_of_ble_eq_true rfl) ⟨Nat.zero_le _, Nat.zero_le _⟩ dX11_number_17 (fun I_25 R_25 J_25 H locs hp_25 hP hD hS _ _ => ?_)
      obtain ⟨hq_25, he_25⟩ := hp_25
      obtain ⟨hv_25, hk_25, hj_25⟩ := hq_25
      try dsimp only at hj_25 hk_25
      cases hj_25
      have hf_26 : ∀ k, k ≠ 0 → I_25 k = I k := fun k h => (hk_25 k h).trans ((fun (_ : Nat) _ => rfl) k h)
      refine lv_aload_n hx hb dX11_number_20 rfl (lv_at hl 0 rfl) ?_
      refine z_callVi (k := 0) (As := []) (rest := []) hx hb hml hown ht (mk_X11_good l D q cA F _ _ _ hv_25 ) hw_6_123 hmX11_good ⟨rfl, rfl⟩ (na := 0) rfl (by decide +kernel) (by decide) (by decide) rfl rfl hK hP hD hS hA hl.1 rfl (Nat.le_of_ble_eq_true rfl) ⟨Nat.zero_le _, Nat.zero_le _⟩ dX11_number_21 (fun r_27 I_27 R_27 J_27 H locs hp_27 hP hD hS _ _ => ?_)
      rcases hp_27 with ⟨rfl, hu_27, nn_27⟩ | ⟨rfl, hu_27, nn_27⟩
      · cases hu_27
        exact (zR_abs2 nn_27 he_25 (by decide)).elim
      · cases hu_27
        refine lv_if_eq (tgt := 47) hx hb dX11_number_24 (by decide) (fun _ => ?_) (fun c_0 => absurd (zD_eq zk_0 zk_z) c_0)
        refine lv_aload_n hx hb dX11_number_47 rfl (lv_at hl 0 rfl) ?_
        refine z_callVi (k := 0) (As := []) (rest := []) hx hb hml hown ht (mk_X11_good l D q cA F _ _ _ hv_25 ) hw_6_123 hmX11_good ⟨rfl, rfl⟩ (na := 0) rfl (by decide +kernel) (by decide) (by decide) rfl rfl hK hP hD hS hA hl.1 rfl (Nat.le_of_ble_eq_true rfl) ⟨Nat.zero_le _, Nat.zero_le _⟩ dX11_number_48 (fun r_28 I_28 R_28 J_28 H locs hp_28 hP hD hS _ _ => ?_)
        rcases hp_28 with ⟨rfl, hu_28, nn_28⟩ | ⟨rfl, hu_28, nn_28⟩
        · cases hu_28
          exact (zR_abs2 nn_28 nn_27 (by decide)).elim
        · cases hu_28
          refine lv_if_ne (tgt := 56) hx hb dX11_number_51 (by decide) (fun c_0 => absurd (zD_eq zk_0 zk_z) c_0) (fun _ => ?_)
          refine lv_iconst (v := nI 0) hx hb dX11_number_54 (by decide +kernel) ?_
          exact z_iret (v := nI 0) hx hb hr hlocks hP hD hS dX11_number_55 ⟨⟨⟨hv_25, hf_26, rfl⟩, (mTr_f he_25)⟩, (zR_w zk_0 (by decide))⟩
  · cases hu_1
    refine lv_if_eq (tgt := 20) hx hb dX11_number_4 (by decide) (fun _ => ?_) (fun c_0 => absurd (zD_eq zk_0 zk_z) c_0)
    refine lv_aload_n hx hb dX11_number_20 rfl (lv_at hl 0 rfl) ?_
    refine z_callVi (k := 0) (As := []) (rest := []) hx hb hml hown ht (mk_X11_good l D q cA F _ _ _ hI ) hw_6_123 hmX11_good ⟨rfl, rfl⟩ (na := 0) rfl (by decide +kernel) (by decide) (by decide) rfl rfl hK hP hD hS hA hl.1 rfl (Nat.le_of_ble_eq_true rfl) ⟨Nat.zero_le _, Nat.zero_le _⟩ dX11_number_21 (fun r_29 I_29 R_29 J_29 H locs hp_29 hP hD hS _ _ => ?_)
    rcases hp_29 with ⟨rfl, hu_29, nn_29⟩ | ⟨rfl, hu_29, nn_29⟩
    · cases hu_29
      exact (zR_abs2 nn_29 nn_1 (by decide)).elim
    · cases hu_29
      refine lv_if_eq (tgt := 47) hx hb dX11_number_24 (by decide) (fun _ => ?_) (fun c_0 => absurd (zD_eq zk_0 zk_z) c_0)
      refine lv_aload_n hx hb dX11_number_47 rfl (lv_at hl 0 rfl) ?_
      refine z_callVi (k := 0) (As := []) (rest := []) hx hb hml hown ht (mk_X11_good l D q cA F _ _ _ hI ) hw_6_123 hmX11_good ⟨rfl, rfl⟩ (na := 0) rfl (by decide +kernel) (by decide) (by decide) rfl rfl hK hP hD hS hA hl.1 rfl (Nat.le_of_ble_eq_true rfl) ⟨Nat.zero_le _, Nat.zero_le _⟩ dX11_number_48 (fun r_30 I_30 R_30 J_30 H locs hp_30 hP hD hS _ _ => ?_)
      rcases hp_30 with ⟨rfl, hu_30, nn_30⟩ | ⟨rfl, hu_30, nn_30⟩
      · cases hu_30
        exact (zR_abs2 nn_30 nn_29 (by decide)).elim
      · cases hu_30
        refine lv_if_ne (tgt := 56) hx hb dX11_number_51 (by decide) (fun c_0 => absurd (zD_eq zk_0 zk_z) c_0) (fun _ => ?_)
        refine lv_iconst (v := nI 0) hx hb dX11_number_54 (by decide +kernel) ?_
        exact z_iret (v := nI 0) hx hb hr hlocks hP hD hS dX11_number_55 ⟨⟨⟨hI, (fun (_ : Nat) _ => rfl), rfl⟩, (mTr_f nn_30)⟩, (zR_w zk_0 (by decide))⟩
set_option maxHeartbeats 4000000 in
set_option maxRecDepth 100000 in
theorem mk_X11_told_1 (l : Launch) (D : va_G) (q : Nat → Nat) (cA : Nat → ClassId) (ad av : Nat → Nat) (t9 : Nat) (F : Nat → Nat → Int32) (I R : Nat → Nat → Int32) (J : Nat → Nat → Int64) (hI : mInv F (I, R, J)) (pa2 : Int32) (hpa2 : zR (-1) 4 pa2) : zNi (zSS zMRs 25 q ad av t9) l D vwCl (zMtys cA) 25 q (zMd q cA) yX11_told cX11_told 4 (some .int) ({ frames := 7, cells := 0, slots := 0, locals := 151 } : Room) [.ref (q 0), .ref (ad 8), .int (nI 0), .int (pa2)] (I, R, J) (fun r u => ((mInv F u ∧ (∀ k, k ≠ 0 → u.1 k = I k) ∧ u.2 = (R, J)) ∧ mTr I u.1) ∧ zR 0 4 r) := by
  intro sz
  refine z_bodyN (by decide +kernel) (Nat.le_of_ble_eq_true rfl) (fun p e s m below meth c ls hx hb hml hr ht hown hlocks hsz hK hP hD hS hN hl => ?_)
  have hA : ∀ a, s.heap.size ≤ a → zA 25 q sz a := fun a h => Or.inr (hsz ▸ h)
  have hl : lv_has ls 4 [(0, .ref (q 0)), (1, .ref (ad 8)), (2, .int (nI 0)), (3, .int (pa2))] := hl
  have hZ : zSz zMRs 25 q ad av t9 sz s := hsz ▸ hN
  refine lv_aload_n hx hb dX11_told_0 rfl (lv_at hl 0 rfl) ?_
  refine lv_aload_n hx hb dX11_told_1 rfl (lv_at hl 1 rfl) ?_
  refine z_cNVv (k := 0) (As := [.ref (ad 8)]) (rest := []) hx hb hml hown ht (mk_X11_needs_1 l D q cA ad av t9 F _ _ _ hI ) hw_6_132 hmX11_needs ⟨rfl, rfl⟩ (na := 1) rfl (by decide +kernel) (by decide) (by decide) rfl rfl hK hP hD hS hA (zSS_c (Rs := zMRs) (t9 := t9) (fun _ _ _ => zMRs_c)) (zSS_w (Rs := zMRs) (t9 := t9) (fun _ _ _ => zMRs_w) hN hsz hS) hl.1 rfl (Nat.le_of_ble_eq_true rfl) ⟨Nat.zero_le _, Nat.zero_le _⟩ dX11_told_2 (fun I_1 R_1 J_1 H locs hp_1 hP hD hS _ _ => ?_)
  obtain ⟨hq_1, he_1⟩ := hp_1
  try dsimp only at he_1
  obtain ⟨hv_1, hk_1, hj_1⟩ := hq_1
  try dsimp only at hj_1 hk_1
  cases hj_1
  have hf_2 : ∀ k, k ≠ 0 → I_1 k = I k := fun k h => (hk_1 k h).trans ((fun (_ : Nat) _ => rfl) k h)
  refine lv_aload_n hx hb dX11_told_5 rfl (lv_at hl 0 rfl) ?_
  refine lv_iload_n hx hb dX11_told_6 rfl (lv_at hl 2 rfl) ?_
  refine lv_iload_n hx hb dX11_told_7 rfl (lv_at hl 3 rfl) ?_
  refine z_callVi (k := 0) (As := [.int (nI 0), .int (pa2)]) (rest := []) hx hb hml hown ht (mk_X11_number_1 l D q cA F _ _ _ hv_1 (pa2) hpa2) hw_6_155 hmX11_number ⟨rfl, rfl⟩ (na := 2) rfl (by decide +kernel) (by decide) (by decide) rfl rfl hK hP hD hS hA hl.1 rfl (Nat.le_of_ble_eq_true rfl) ⟨Nat.zero_le _, Nat.zero_le _⟩ dX11_told_8 (fun r_3 I_3 R_3 J_3 H locs hp_3 hP hD hS _ _ => ?_)
  obtain ⟨⟨hq_3, he_3⟩, hr_3⟩ := hp_3
  try dsimp only at he_3
  obtain ⟨hv_3, hk_3, hj_3⟩ := hq_3
  try dsimp only at hj_3 hk_3
  cases hj_3
  have hf_4 : ∀ k, k ≠ 0 → I_3 k = I k := fun k h => (hk_3 k h).trans (hf_2 k h)
  exact z_iret (v := r_3) hx hb hr hlocks hP hD hS dX11_told_11 ⟨⟨⟨hv_3, hf_4, rfl⟩, (mTr_t he_1 he_3)⟩, hr_3⟩
