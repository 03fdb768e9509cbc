set_option maxHeartbeats 4000000 in
set_option maxRecDepth 100000 in
theorem mk_X11_wrong (l : Launch) (D : va_G) (q : Nat → Nat) (cA : Nat → ClassId) (F : Nat → Nat → Int32) (I R : Nat → Nat → Int32) (J : Nat → Nat → Int64) (hI : mInv F (I, R, J)) (pa0 : Int32) : zMi l D vwCl (zMtys cA) 25 q (zMd q cA) yX11_wrong cX11_wrong 3 (some .int) ({ frames := 7, cells := 0, slots := 0, locals := 177 } : Room) [.ref (q 0), .int (pa0)] (I, R, J) (fun _ u => mInv F u) := by
  intro sz
  refine z_body (by decide +kernel) (Nat.le_of_ble_eq_true rfl) (fun p e s m below meth c ls hx hb hml hr ht hown hlocks hsz hK hP hD hS hl => ?_)
  have hA : ∀ a, s.heap.size ≤ a → zA 25 q sz a := fun a h => Or.inr (hsz ▸ h)
  have hl : lv_has ls 3 [(0, .ref (q 0)), (1, .int (pa0))] := hl
  refine lv_aload_n hx hb dX11_wrong_0 rfl (lv_at hl 0 rfl) ?_
  refine lv_iload_n hx hb dX11_wrong_1 rfl (lv_at hl 1 rfl) ?_
  refine z_callVi (k := 0) (As := [.int (pa0)]) (rest := []) hx hb hml hown ht (mk_X11_asksPapers l D q cA F _ _ _ hI (pa0)) hw_8_72 hmX11_asksPapers ⟨rfl, rfl⟩ (na := 1) rfl (by decide +kernel) (by decide) (by decide) rfl rfl hK hP hD hS hA hl.1 rfl (Nat.le_of_ble_eq_true rfl) ⟨Nat.zero_le _, Nat.zero_le _⟩ dX11_wrong_2 (fun r_1 I_1 R_1 J_1 H locs hp_1 hP hD hS _ _ => ?_)
  rcases hp_1 with ⟨rfl, hv_1, hj_1, hz_1, hs_1⟩ | ⟨hr_1, hv_1⟩
  · try dsimp only at hj_1
    subst J_1
    refine lv_istore_n (lv' := [(2, .int (nI 0)), (0, .ref (q 0)), (1, .int (pa0))]) hx hb dX11_wrong_5 rfl hl (by decide) rfl (fun ls hl => ?_)
    refine lv_iload_n hx hb dX11_wrong_6 rfl (lv_at hl 0 rfl) ?_
    refine lv_if_ge (tgt := 12) hx hb dX11_wrong_7 (by decide) (fun _ => ?_) (fun c_0 => absurd (zD_le zk_z zk_0 (by decide)) c_0)
    refine lv_aload_n hx hb dX11_wrong_12 rfl (lv_at hl 1 rfl) ?_
    refine lv_iload_n hx hb dX11_wrong_13 rfl (lv_at hl 2 rfl) ?_
    refine z_callVv (k := 0) (As := [.int (pa0)]) (rest := []) hx hb hml hown ht (mk_X11_layFalse l D q cA F _ _ _ hv_1 (pa0) hz_1 hs_1) hw_8_88 hmX11_layFalse ⟨rfl, rfl⟩ (na := 1) rfl (by decide +kernel) (by decide) (by decide) rfl rfl hK hP hD hS hA hl.1 rfl (Nat.le_of_ble_eq_true rfl) ⟨Nat.zero_le _, Nat.zero_le _⟩ dX11_wrong_14 (fun I_2 R_2 J_2 H locs hp_2 hP hD hS _ _ => ?_)
    obtain ⟨hv_2, hj_2⟩ := hp_2
    try dsimp only at hj_2
    subst J_2
    refine lv_aload_n hx hb dX11_wrong_17 rfl (lv_at hl 1 rfl) ?_
    refine z_get hx hb ht hown hK hP ziX11 rfl 0 (by decide) 36 (by decide) hw_5_223 rfl (v := .int (I_2 0 36)) rfl dX11_wrong_18 ?_
    exact z_iret (v := I_2 0 36) hx hb hr hlocks hP hD hS dX11_wrong_21 hv_2
  · refine lv_istore_n (lv' := [(2, .int (r_1)), (0, .ref (q 0)), (1, .int (pa0))]) hx hb dX11_wrong_5 rfl hl (by decide) rfl (fun ls hl => ?_)
    refine lv_iload_n hx hb dX11_wrong_6 rfl (lv_at hl 0 rfl) ?_
    refine lv_if_ge (tgt := 12) hx hb dX11_wrong_7 (by decide) (fun c_0 => absurd c_0 (zD_nle zk_z hr_1 (by decide))) (fun _ => ?_)
    refine lv_iload_n hx hb dX11_wrong_10 rfl (lv_at hl 0 rfl) ?_
    exact z_iret (v := r_1) hx hb hr hlocks hP hD hS dX11_wrong_11 hv_1
set_option maxHeartbeats 4000000 in
set_option maxRecDepth 100000 in
theorem mk_X11_forged (l : Launch) (D : va_G) (q : Nat → Nat) (cA : Nat → ClassId) (F : Nat → Nat → Int32) (I R : Nat → Nat → Int32) (J : Nat → Nat → Int64) (hI : mInv F (I, R, J)) (pa0 : Int32) : zMi l D vwCl (zMtys cA) 25 q (zMd q cA) yX11_forged cX11_forged 3 (some .int) ({ frames := 7, cells := 0, slots := 0, locals := 177 } : Room) [.ref (q 0), .int (pa0)] (I, R, J) (fun _ u => mInv F u) := by
  intro sz
  refine z_body (by decide +kernel) (Nat.le_of_ble_eq_true rfl) (fun p e s m below meth c ls hx hb hml hr ht hown hlocks hsz hK hP hD hS hl => ?_)
  have hA : ∀ a, s.heap.size ≤ a → zA 25 q sz a := fun a h => Or.inr (hsz ▸ h)
  have hl : lv_has ls 3 [(0, .ref (q 0)), (1, .int (pa0))] := hl
  refine lv_aload_n hx hb dX11_forged_0 rfl (lv_at hl 0 rfl) ?_
  refine lv_iload_n hx hb dX11_forged_1 rfl (lv_at hl 1 rfl) ?_
  refine z_callVi (k := 0) (As := [.int (pa0)]) (rest := []) hx hb hml hown ht (mk_X11_asksPapers l D q cA F _ _ _ hI (pa0)) hw_8_72 hmX11_asksPapers ⟨rfl, rfl⟩ (na := 1) rfl (by decide +kernel) (by decide) (by decide) rfl rfl hK hP hD hS hA hl.1 rfl (Nat.le_of_ble_eq_true rfl) ⟨Nat.zero_le _, Nat.zero_le _⟩ dX11_forged_2 (fun r_1 I_1 R_1 J_1 H locs hp_1 hP hD hS _ _ => ?_)
  rcases hp_1 with ⟨rfl, hv_1, hj_1, hz_1, hs_1⟩ | ⟨hr_1, hv_1⟩
  · try dsimp only at hj_1
    subst J_1
    refine lv_istore_n (lv' := [(2, .int (nI 0)), (0, .ref (q 0)), (1, .int (pa0))]) hx hb dX11_forged_5 rfl hl (by decide) rfl (fun ls hl => ?_)
    refine lv_iload_n hx hb dX11_forged_6 rfl (lv_at hl 0 rfl) ?_
    refine lv_if_ge (tgt := 12) hx hb dX11_forged_7 (by decide) (fun _ => ?_) (fun c_0 => absurd (zD_le zk_z zk_0 (by decide)) c_0)
    refine lv_aload_n hx hb dX11_forged_12 rfl (lv_at hl 1 rfl) ?_
    refine lv_iload_n hx hb dX11_forged_13 rfl (lv_at hl 2 rfl) ?_
    refine z_callVv (k := 0) (As := [.int (pa0)]) (rest := []) hx hb hml hown ht (mk_X11_layFalse l D q cA F _ _ _ hv_1 (pa0) hz_1 hs_1) hw_8_88 hmX11_layFalse ⟨rfl, rfl⟩ (na := 1) rfl (by decide +kernel) (by decide) (by decide) rfl rfl hK hP hD hS hA hl.1 rfl (Nat.le_of_ble_eq_true rfl) ⟨Nat.zero_le _, Nat.zero_le _⟩ dX11_forged_14 (fun I_2 R_2 J_2 H locs hp_2 hP hD hS _ _ => ?_)
    obtain ⟨hv_2, hj_2⟩ := hp_2
    try dsimp only at hj_2
    subst J_2
    refine lv_aload_n hx hb dX11_forged_17 rfl (lv_at hl 1 rfl) ?_
    refine z_get hx hb ht hown hK hP ziX11 rfl 0 (by decide) 37 (by decide) hw_5_224 rfl (v := .int (I_2 0 37)) rfl dX11_forged_18 ?_
    exact z_iret (v := I_2 0 37) hx hb hr hlocks hP hD hS dX11_forged_21 hv_2
  · refine lv_istore_n (lv' := [(2, .int (r_1)), (0, .ref (q 0)), (1, .int (pa0))]) hx hb dX11_forged_5 rfl hl (by decide) rfl (fun ls hl => ?_)
    refine lv_iload_n hx hb dX11_forged_6 rfl (lv_at hl 0 rfl) ?_
    refine lv_if_ge (tgt := 12) hx hb dX11_forged_7 (by decide) (fun c_0 => absurd c_0 (zD_nle zk_z hr_1 (by decide))) (fun _ => ?_)
    refine lv_iload_n hx hb dX11_forged_10 rfl (lv_at hl 0 rfl) ?_
    exact z_iret (v := r_1) hx hb hr hlocks hP hD hS dX11_forged_11 hv_1
set_option maxHeartbeats 4000000 in
set_option maxRecDepth 100000 in
theorem mk_X11_argued (l : Launch) (D : va_G) (q : Nat → Nat) (cA : Nat → ClassId) (F : Nat → Nat → Int32) (I R : Nat → Nat → Int32) (J : Nat → Nat → Int64) (hI : mInv F (I, R, J)) (pa0 : Int32) : zMi l D vwCl (zMtys cA) 25 q (zMd q cA) yX11_argued cX11_argued 3 (some .int) ({ frames := 7, cells := 0, slots := 0, locals := 177 } : Room) [.ref (q 0), .int (pa0)] (I, R, J) (fun _ u => mInv F u) := by
  intro sz
  refine z_body (by decide +kernel) (Nat.le_of_ble_eq_true rfl) (fun p e s m below meth c ls hx hb hml hr ht hown hlocks hsz hK hP hD hS hl => ?_)
  have hA : ∀ a, s.heap.size ≤ a → zA 25 q sz a := fun a h => Or.inr (hsz ▸ h)
  have hl : lv_has ls 3 [(0, .ref (q 0)), (1, .int (pa0))] := hl
  refine lv_aload_n hx hb dX11_argued_0 rfl (lv_at hl 0 rfl) ?_
  refine lv_iload_n hx hb dX11_argued_1 rfl (lv_at hl 1 rfl) ?_
  refine z_callVi (k := 0) (As := [.int (pa0)]) (rest := []) hx hb hml hown ht (mk_X11_asksPapers l D q cA F _ _ _ hI (pa0)) hw_8_72 hmX11_asksPapers ⟨rfl, rfl⟩ (na := 1) rfl (by decide +kernel) (by decide) (by decide) rfl rfl hK hP hD hS hA hl.1 rfl (Nat.le_of_ble_eq_true rfl) ⟨Nat.zero_le _, Nat.zero_le _⟩ dX11_argued_2 (fun r_1 I_1 R_1 J_1 H locs hp_1 hP hD hS _ _ => ?_)
  rcases hp_1 with ⟨rfl, hv_1, hj_1, hz_1, hs_1⟩ | ⟨hr_1, hv_1⟩
  · try dsimp only at hj_1
    subst J_1
    refine lv_istore_n (lv' := [(2, .int (nI 0)), (0, .ref (q 0)), (1, .int (pa0))]) hx hb dX11_argued_5 rfl hl (by decide) rfl (fun ls hl => ?_)
    refine lv_iload_n hx hb dX11_argued_6 rfl (lv_at hl 0 rfl) ?_
    refine lv_if_ge (tgt := 12) hx hb dX11_argued_7 (by decide) (fun _ => ?_) (fun c_0 => absurd (zD_le zk_z zk_0 (by decide)) c_0)
    refine lv_aload_n hx hb dX11_argued_12 rfl (lv_at hl 1 rfl) ?_
    refine lv_iload_n hx hb dX11_argued_13 rfl (lv_at hl 2 rfl) ?_
    refine z_callVv (k := 0) (As := [.int (pa0)]) (rest := []) hx hb hml hown ht (mk_X11_layFalse l D q cA F _ _ _ hv_1 (pa0) hz_1 hs_1) hw_8_88 hmX11_layFalse ⟨rfl, rfl⟩ (na := 1) rfl (by decide +kernel) (by decide) (by decide) rfl rfl hK hP hD hS hA hl.1 rfl (Nat.le_of_ble_eq_true rfl) ⟨Nat.zero_le _, Nat.zero_le _⟩ dX11_argued_14 (fun I_2 R_2 J_2 H locs hp_2 hP hD hS _ _ => ?_)
    obtain ⟨hv_2, hj_2⟩ := hp_2
    try dsimp only at hj_2
    subst J_2
    refine lv_aload_n hx hb dX11_argued_17 rfl (lv_at hl 1 rfl) ?_
    refine z_get hx hb ht hown hK hP ziX11 rfl 0 (by decide) 38 (by decide) hw_5_225 rfl (v := .int (I_2 0 38)) rfl dX11_argued_18 ?_
    exact z_iret (v := I_2 0 38) hx hb hr hlocks hP hD hS dX11_argued_21 hv_2
  · refine lv_istore_n (lv' := [(2, .int (r_1)), (0, .ref (q 0)), (1, .int (pa0))]) hx hb dX11_argued_5 rfl hl (by decide) rfl (fun ls hl => ?_)
    refine lv_iload_n hx hb dX11_argued_6 rfl (lv_at hl 0 rfl) ?_
    refine lv_if_ge (tgt := 12) hx hb dX11_argued_7 (by decide) (fun c_0 => absurd c_0 (zD_nle zk_z hr_1 (by decide))) (fun _ => ?_)
    refine lv_iload_n hx hb dX11_argued_10 rfl (lv_at hl 0 rfl) ?_
    exact z_iret (v := r_1) hx hb hr hlocks hP hD hS dX11_argued_11 hv_1
set_option maxHeartbeats 4000000 in
set_option maxRecDepth 100000 in
theorem mk_X11_areDrawn (l : Launch) (D : va_G) (q : Nat → Nat) (cA : Nat → ClassId) (F : Nat → Nat → Int32) (I R : Nat → Nat → Int32) (J : Nat → Nat → Int64) (hI : mInv F (I, R, J)) (pa0 : Int32) (pa1 : Int32) : zMi l D vwCl (zMtys cA) 25 q (zMd q cA) yX11_areDrawn cX11_areDrawn 3 (some .boolean) ({ frames := 1, cells := 0, slots := 0, locals := 25 } : Room) [.ref (q 0), .int (pa0), .int (pa1)] (I, R, J) (fun r u => (r = nI 1 ∧ u = (I, R, J) ∧ zR 0 2000000000 pa0 ∧ zR 0 40 pa1) ∨ (r = nI 0 ∧ u = (I, R, J))) := by
  intro sz
  refine z_body (by decide +kernel) (Nat.le_of_ble_eq_true rfl) (fun p e s m below meth c ls hx hb hml hr ht hown hlocks hsz hK hP hD hS hl => ?_)
  have hA : ∀ a, s.heap.size ≤ a → zA 25 q sz a := fun a h => Or.inr (hsz ▸ h)
  have hl : lv_has ls 3 [(0, .ref (q 0)), (1, .int (pa0)), (2, .int (pa1))] := hl
  refine lv_aload_n hx hb dX11_areDrawn_0 rfl (lv_at hl 0 rfl) ?_
  refine z_callVi (k := 0) (As := []) (rest := []) hx hb hml hown ht (mk_X11_isCity l D q cA F _ _ _ hI ) hw_7_75 hmX11_isCity ⟨rfl, rfl⟩ (na := 0) rfl (by decide +kernel) (by decide) (by decide) rfl rfl hK hP hD hS hA hl.1 rfl (Nat.le_of_ble_eq_true rfl) ⟨Nat.zero_le _, Nat.zero_le _⟩ dX11_areDrawn_1 (fun r_1 I_1 R_1 J_1 H locs hp_1 hP hD hS _ _ => ?_)
  rcases hp_1 with ⟨rfl, hu_1⟩ | ⟨rfl, hu_1⟩
  · cases hu_1
    refine lv_if_eq (tgt := 35) hx hb dX11_areDrawn_4 (by decide) (fun c_0 => absurd c_0 (zD_ne zk_1 zk_z (by decide))) (fun _ => ?_)
    refine lv_iload_n hx hb dX11_areDrawn_7 rfl (lv_at hl 1 rfl) ?_
    refine lv_i2l (v := (pa0).toInt64) hx hb dX11_areDrawn_8 rfl ?_
    refine lv_lconst (v := (0 : Int64)) hx hb dX11_areDrawn_9 (by decide +kernel) ?_
    refine lv_ldc2 (v := (2000000000 : Int64)) hx hb hown (ht _ hw_8_112) dX11_areDrawn_10 ?_
    refine z_callSi (As := [.long ((pa0).toInt64), .long ((0 : Int64)), .long ((2000000000 : Int64))]) (rest := []) hx hb hml hown ht (mk_X11_in l D q cA F _ _ _ hI ((pa0).toInt64) ((0 : Int64)) ((2000000000 : Int64))) hw_6_86 hmX11_in ⟨rfl, rfl⟩ (na := 3) rfl (by decide +kernel) (by decide) hK hP hD hS hA hl.1 rfl (Nat.le_of_ble_eq_true rfl) ⟨Nat.zero_le _, Nat.zero_le _⟩ dX11_areDrawn_13 (fun r_2 I_2 R_2 J_2 H locs hp_2 hP hD hS _ _ => ?_)
    rcases hp_2 with ⟨rfl, hu_2, h1_2, h2_2⟩ | ⟨rfl, hu_2, h1_2 | h2_2⟩
    · cases hu_2
      have f_3 : zL 0 2147483647 ((pa0).toInt64) := zL_ley h1_2 zkl_0 (zR_i2l (zR_any (pa0))) (by decide)
      have f_4 : zR 0 2147483647 (pa0) := zL_back f_3
      have f_5 : zL 0 2000000000 ((pa0).toInt64) := zL_lex h2_2 f_3 zkl_2000000000 (by decide)
      have f_6 : zR 0 2000000000 (pa0) := zL_back f_5
      refine lv_if_eq (tgt := 35) hx hb dX11_areDrawn_16 (by decide) (fun c_0 => absurd c_0 (zD_ne zk_1 zk_z (by decide))) (fun _ => ?_)
      refine lv_iload_n hx hb dX11_areDrawn_19 rfl (lv_at hl 2 rfl) ?_
      refine lv_i2l (v := (pa1).toInt64) hx hb dX11_areDrawn_20 rfl ?_
      refine lv_lconst (v := (0 : Int64)) hx hb dX11_areDrawn_21 (by decide +kernel) ?_
      refine lv_ldc2 (v := (40 : Int64)) hx hb hown (ht _ hw_8_113) dX11_areDrawn_22 ?_
      refine z_callSi (As := [.long ((pa1).toInt64), .long ((0 : Int64)), .long ((40 : Int64))]) (rest := []) hx hb hml hown ht (mk_X11_in l D q cA F _ _ _ hI ((pa1).toInt64) ((0 : Int64)) ((40 : Int64))) hw_6_86 hmX11_in ⟨rfl, rfl⟩ (na := 3) rfl (by decide +kernel) (by decide) hK hP hD hS hA hl.1 rfl (Nat.le_of_ble_eq_true rfl) ⟨Nat.zero_le _, Nat.zero_le _⟩ dX11_areDrawn_25 (fun r_7 I_7 R_7 J_7 H locs hp_7 hP hD hS _ _ => ?_)
      rcases hp_7 with ⟨rfl, hu_7, h1_7, h2_7⟩ | ⟨rfl, hu_7, h1_7 | h2_7⟩
      · cases hu_7
        have f_8 : zL 0 2147483647 ((pa1).toInt64) := zL_ley h1_7 zkl_0 (zR_i2l (zR_any (pa1))) (by decide)
        have f_9 : zR 0 2147483647 (pa1) := zL_back f_8
        have f_10 : zL 0 40 ((pa1).toInt64) := zL_lex h2_7 f_8 zkl_40 (by decide)
        have f_11 : zR 0 40 (pa1) := zL_back f_10
        refine lv_if_eq (tgt := 35) hx hb dX11_areDrawn_28 (by decide) (fun c_0 => absurd c_0 (zD_ne zk_1 zk_z (by decide))) (fun _ => ?_)
        refine lv_iconst (v := nI 1) hx hb dX11_areDrawn_31 (by decide +kernel) ?_
        refine lv_goto (tgt := 36) hx hb dX11_areDrawn_32 (by decide) ?_
        exact z_zret (v := nI 1) hx hb hr hlocks hP hD hS (by decide +kernel) dX11_areDrawn_36 (Or.inl ⟨rfl, rfl, f_6, f_11⟩)
      · cases hu_7
        have f_12 : zL (-2147483648) (-1) ((pa1).toInt64) := zL_ltx h1_7 (zR_i2l (zR_any (pa1))) zkl_0 (by decide)
        have f_13 : zR (-2147483648) (-1) (pa1) := zL_back f_12
        refine lv_if_eq (tgt := 35) hx hb dX11_areDrawn_28 (by decide) (fun _ => ?_) (fun c_0 => absurd (zD_eq zk_0 zk_z) c_0)
        refine lv_iconst (v := nI 0) hx hb dX11_areDrawn_35 (by decide +kernel) ?_
        exact z_zret (v := nI 0) hx hb hr hlocks hP hD hS (by decide +kernel) dX11_areDrawn_36 (Or.inr ⟨rfl, rfl⟩)
      · cases hu_7
        have f_14 : zL 41 2147483647 ((pa1).toInt64) := zL_lty h2_7 zkl_40 (zR_i2l (zR_any (pa1))) (by decide)
        have f_15 : zR 41 2147483647 (pa1) := zL_back f_14
        refine lv_if_eq (tgt := 35) hx hb dX11_areDrawn_28 (by decide) (fun _ => ?_) (fun c_0 => absurd (zD_eq zk_0 zk_z) c_0)
        refine lv_iconst (v := nI 0) hx hb dX11_areDrawn_35 (by decide +kernel) ?_
        exact z_zret (v := nI 0) hx hb hr hlocks hP hD hS (by decide +kernel) dX11_areDrawn_36 (Or.inr ⟨rfl, rfl⟩)
    · cases hu_2
      have f_16 : zL (-2147483648) (-1) ((pa0).toInt64) := zL_ltx h1_2 (zR_i2l (zR_any (pa0))) zkl_0 (by decide)
      have f_17 : zR (-2147483648) (-1) (pa0) := zL_back f_16
      refine lv_if_eq (tgt := 35) hx hb dX11_areDrawn_16 (by decide) (fun _ => ?_) (fun c_0 => absurd (zD_eq zk_0 zk_z) c_0)
      refine lv_iconst (v := nI 0) hx hb dX11_areDrawn_35 (by decide +kernel) ?_
      exact z_zret (v := nI 0) hx hb hr hlocks hP hD hS (by decide +kernel) dX11_areDrawn_36 (Or.inr ⟨rfl, rfl⟩)
    · cases hu_2
      have f_18 : zL 2000000001 2147483647 ((pa0).toInt64) := zL_lty h2_2 zkl_2000000000 (zR_i2l (zR_any (pa0))) (by decide)
      have f_19 : zR 2000000001 2147483647 (pa0) := zL_back f_18
      refine lv_if_eq (tgt := 35) hx hb dX11_areDrawn_16 (by decide) (fun _ => ?_) (fun c_0 => absurd (zD_eq zk_0 zk_z) c_0)
      refine lv_iconst (v := nI 0) hx hb dX11_areDrawn_35 (by decide +kernel) ?_
      exact z_zret (v := nI 0) hx hb hr hlocks hP hD hS (by decide +kernel) dX11_areDrawn_36 (Or.inr ⟨rfl, rfl⟩)
  · cases hu_1
    refine lv_if_eq (tgt := 35) hx hb dX11_areDrawn_4 (by decide) (fun _ => ?_) (fun c_0 => absurd (zD_eq zk_0 zk_z) c_0)
    refine lv_iconst (v := nI 0) hx hb dX11_areDrawn_35 (by decide +kernel) ?_
    exact z_zret (v := nI 0) hx hb hr hlocks hP hD hS (by decide +kernel) dX11_areDrawn_36 (Or.inr ⟨rfl, rfl⟩)
set_option maxHeartbeats 4000000 in
set_option maxRecDepth 100000 in
theorem mk_X11_draw (l : Launch) (D : va_G) (q : Nat → Nat) (cA : Nat → ClassId) (F : Nat → Nat → Int32) (I R : Nat → Nat → Int32) (J : Nat → Nat → Int64) (hI : mInv F (I, R, J))  : zMi l D vwCl (zMtys cA) 25 q (zMd q cA) yX11_draw cX11_draw 2 (some .int) ({ frames := 0, cells := 0, slots := 0, locals := 0 } : Room) [.ref (q 0), .int (nI 100)] (I, R, J) (fun r u => zR 0 99 r ∧ mInv F u) := by
  intro sz
  refine z_body (by decide +kernel) (Nat.le_of_ble_eq_true rfl) (fun p e s m below meth c ls hx hb hml hr ht hown hlocks hsz hK hP hD hS hl => ?_)
  have hA : ∀ a, s.heap.size ≤ a → zA 25 q sz a := fun a h => Or.inr (hsz ▸ h)
  have hl : lv_has ls 2 [(0, .ref (q 0)), (1, .int (nI 100))] := hl
  refine lv_aload_n hx hb dX11_draw_0 rfl (lv_at hl 0 rfl) ?_
  refine lv_ldc2 (v := (1103515245 : Int64)) hx hb hown (ht _ hw_8_122) dX11_draw_1 ?_
  refine lv_aload_n hx hb dX11_draw_4 rfl (lv_at hl 0 rfl) ?_
  refine z_get hx hb ht hown hK hP ziX11 rfl 0 (by decide) 39 (by decide) hw_5_226 rfl (v := .long (J 0 39)) rfl dX11_draw_5 ?_
  have f_1 : zL 0 2147483647 (J 0 39) := mJd hI
  refine lv_lmul hx hb dX11_draw_8 ?_
  refine z_rngL (a := 0) (b := 2369780942852698515) (zL_mul zkl_1103515245 f_1 (by decide)) (fun j_2 hj_2 => ?_)
  refine lv_ldc2 (v := (12345 : Int64)) hx hb hown (ht _ hw_8_123) dX11_draw_9 ?_
  refine lv_ladd hx hb dX11_draw_12 ?_
  refine z_rngL (a := 12345) (b := 2369780942852710860) (zL_add hj_2 zkl_12345 (by decide)) (fun j_3 hj_3 => ?_)
  refine lv_ldc2 (v := (2147483648 : Int64)) hx hb hown (ht _ hw_8_124) dX11_draw_13 ?_
  refine lv_lrem hx hb dX11_draw_16 (by decide +kernel) ?_
  refine z_rngL (a := 0) (b := 2147483647) (zL_rem hj_3 zkl_2147483648 (by decide)) (fun j_4 hj_4 => ?_)
  refine z_putJ hx hb ht hown hK hP hD hS ziX11 tyX11 tyX11_ok nmX11 rfl 0 (by decide) 39 (by decide) hw_5_226 rfl (v := j_4) rfl rfl rfl (Nat.le_of_ble_eq_true rfl) rfl dX11_draw_17 (fun H locs hP hD hS => ?_)
  have hI_5 := mInv_Jf hI (j_4) hj_4
  refine lv_aload_n hx hb dX11_draw_20 rfl (lv_at hl 0 rfl) ?_
  refine z_get hx hb ht hown hK hP ziX11 rfl 0 (by decide) 39 (by decide) hw_5_226 rfl (v := .long (j_4)) rfl dX11_draw_21 ?_
  refine lv_ldc2 (v := (65536 : Int64)) hx hb hown (ht _ hw_8_125) dX11_draw_24 ?_
  refine lv_ldiv hx hb dX11_draw_27 (by decide +kernel) ?_
  refine z_rngL (a := 0) (b := 32767) (zL_divc hj_4 zkl_65536 (by decide)) (fun j_6 hj_6 => ?_)
  refine lv_iload_n hx hb dX11_draw_28 rfl (lv_at hl 1 rfl) ?_
  refine lv_i2l (v := (100 : Int64)) hx hb dX11_draw_29 (by decide +kernel) ?_
  refine lv_lrem hx hb dX11_draw_30 (by decide +kernel) ?_
  refine z_rngL (a := 0) (b := 99) (zL_rem hj_6 zkl_100 (by decide)) (fun j_7 hj_7 => ?_)
  refine lv_l2i hx hb dX11_draw_31 rfl ?_
  refine z_rng (a := 0) (b := 99) (zL_l2i hj_7 (by decide)) (fun v_8 hv_8 => ?_)
  exact z_iret (v := v_8) hx hb hr hlocks hP hD hS dX11_draw_32 ⟨hv_8, hI_5⟩
set_option maxHeartbeats 4000000 in
set_option maxRecDepth 100000 in
theorem mk_X11_draw_1 (l : Launch) (D : va_G) (q : Nat → Nat) (cA : Nat → ClassId) (F : Nat → Nat → Int32) (I R : Nat → Nat → Int32) (J : Nat → Nat → Int64) (hI : mInv F (I, R, J)) (pa0 : Int32) (hpa0 : zR 1 6 pa0) : zMi l D vwCl (zMtys cA) 25 q (zMd q cA) yX11_draw cX11_draw 2 (some .int) ({ frames := 0, cells := 0, slots := 0, locals := 0 } : Room) [.ref (q 0), .int (pa0)] (I, R, J) (fun r u => zR 0 5 r ∧ mInv F u) := by
  intro sz
  refine z_body (by decide +kernel) (Nat.le_of_ble_eq_true rfl) (fun p e s m below meth c ls hx hb hml hr ht hown hlocks hsz hK hP hD hS hl => ?_)
  have hA : ∀ a, s.heap.size ≤ a → zA 25 q sz a := fun a h => Or.inr (hsz ▸ h)
  have hl : lv_has ls 2 [(0, .ref (q 0)), (1, .int (pa0))] := hl
  refine lv_aload_n hx hb dX11_draw_0 rfl (lv_at hl 0 rfl) ?_
  refine lv_ldc2 (v := (1103515245 : Int64)) hx hb hown (ht _ hw_8_122) dX11_draw_1 ?_
  refine lv_aload_n hx hb dX11_draw_4 rfl (lv_at hl 0 rfl) ?_
  refine z_get hx hb ht hown hK hP ziX11 rfl 0 (by decide) 39 (by decide) hw_5_226 rfl (v := .long (J 0 39)) rfl dX11_draw_5 ?_
  have f_1 : zL 0 2147483647 (J 0 39) := mJd hI
  refine lv_lmul hx hb dX11_draw_8 ?_
  refine z_rngL (a := 0) (b := 2369780942852698515) (zL_mul zkl_1103515245 f_1 (by decide)) (fun j_2 hj_2 => ?_)
  refine lv_ldc2 (v := (12345 : Int64)) hx hb hown (ht _ hw_8_123) dX11_draw_9 ?_
  refine lv_ladd hx hb dX11_draw_12 ?_
  refine z_rngL (a := 12345) (b := 2369780942852710860) (zL_add hj_2 zkl_12345 (by decide)) (fun j_3 hj_3 => ?_)
  refine lv_ldc2 (v := (2147483648 : Int64)) hx hb hown (ht _ hw_8_124) dX11_draw_13 ?_
  refine lv_lrem hx hb dX11_draw_16 (by decide +kernel) ?_
  refine z_rngL (a := 0) (b := 2147483647) (zL_rem hj_3 zkl_2147483648 (by decide)) (fun j_4 hj_4 => ?_)
  refine z_putJ hx hb ht hown hK hP hD hS ziX11 tyX11 tyX11_ok nmX11 rfl 0 (by decide) 39 (by decide) hw_5_226 rfl (v := j_4) rfl rfl rfl (Nat.le_of_ble_eq_true rfl) rfl dX11_draw_17 (fun H locs hP hD hS => ?_)
  have hI_5 := mInv_Jf hI (j_4) hj_4
  refine lv_aload_n hx hb dX11_draw_20 rfl (lv_at hl 0 rfl) ?_
  refine z_get hx hb ht hown hK hP ziX11 rfl 0 (by decide) 39 (by decide) hw_5_226 rfl (v := .long (j_4)) rfl dX11_draw_21 ?_
  refine lv_ldc2 (v := (65536 : Int64)) hx hb hown (ht _ hw_8_125) dX11_draw_24 ?_
  refine lv_ldiv hx hb dX11_draw_27 (by decide +kernel) ?_
  refine z_rngL (a := 0) (b := 32767) (zL_divc hj_4 zkl_65536 (by decide)) (fun j_6 hj_6 => ?_)
  refine lv_iload_n hx hb dX11_draw_28 rfl (lv_at hl 1 rfl) ?_
  refine lv_i2l (v := (pa0).toInt64) hx hb dX11_draw_29 rfl ?_
  refine lv_lrem hx hb dX11_draw_30 (zL_ne0 (zR_i2l hpa0) (by decide)) ?_
  refine z_rngL (a := 0) (b := 5) (zL_rem hj_6 (zR_i2l hpa0) (by decide)) (fun j_7 hj_7 => ?_)
  refine lv_l2i hx hb dX11_draw_31 rfl ?_
  refine z_rng (a := 0) (b := 5) (zL_l2i hj_7 (by decide)) (fun v_8 hv_8 => ?_)
  exact z_iret (v := v_8) hx hb hr hlocks hP hD hS dX11_draw_32 ⟨hv_8, hI_5⟩
set_option maxHeartbeats 4000000 in
set_option maxRecDepth 100000 in
theorem mk_X11_goDrawn (l : Launch) (D : va_G) (q : Nat → Nat) (cA : Nat → ClassId) (F : Nat → Nat → Int32) (I R : Nat → Nat → Int32) (J : Nat → Nat → Int64) (hI : mInv F (I, R, J)) (pa0 : Int64) (hpa0 : zL 0 2000000000 pa0) (pa1 : Int32) (hpa1 : zR 0 40 pa1) : zMi l D vwCl (zMtys cA) 25 q (zMd q cA) yX11_goDrawn cX11_goDrawn 8 (some .int) ({ frames := 6, cells := 0, slots := 0, locals := 155 } : Room) [.ref (q 0), .long (pa0), .int (pa1)] (I, R, J) (fun _ u => mInv F u) := by
  intro sz
  refine z_body (by decide +kernel) (Nat.le_of_ble_eq_true rfl) (fun p e s m below meth c ls hx hb hml hr ht hown hlocks hsz hK hP hD hS hl => ?_)
  have hA : ∀ a, s.heap.size ≤ a → zA 25 q sz a := fun a h => Or.inr (hsz ▸ h)
  have hl : lv_has ls 8 [(0, .ref (q 0)), (1, .long (pa0)), (3, .int (pa1))] := hl
  refine lv_aload_n hx hb dX11_goDrawn_0 rfl (lv_at hl 0 rfl) ?_
  refine z_callVv (k := 0) (As := []) (rest := []) hx hb hml hown ht (mk_X11_asItIs l D q cA F _ _ _ hI ) hw_6_181 hmX11_asItIs ⟨rfl, rfl⟩ (na := 0) rfl (by decide +kernel) (by decide) (by decide) rfl rfl hK hP hD hS hA hl.1 rfl (Nat.le_of_ble_eq_true rfl) ⟨Nat.zero_le _, Nat.zero_le _⟩ dX11_goDrawn_1 (fun I_1 R_1 J_1 H locs hp_1 hP hD hS _ _ => ?_)
  obtain ⟨hv_1, hj_1, hs_1⟩ := hp_1
  try dsimp only at hj_1
  subst J_1
  refine lv_aload_n hx hb dX11_goDrawn_4 rfl (lv_at hl 0 rfl) ?_
  refine lv_lload_n hx hb dX11_goDrawn_5 rfl (lv_at hl 1 rfl) ?_
  refine z_putJ hx hb ht hown hK hP hD hS ziX11 tyX11 tyX11_ok nmX11 rfl 0 (by decide) 39 (by decide) hw_5_226 rfl (v := pa0) rfl rfl rfl (Nat.le_of_ble_eq_true rfl) rfl dX11_goDrawn_6 (fun H locs hP hD hS => ?_)
  have hI_2 := mInv_Jf hv_1 (pa0) (zL_w hpa0 (by decide))
  refine lv_iconst (v := nI 0) hx hb dX11_goDrawn_9 (by decide +kernel) ?_
  refine lv_istore (lv' := [(4, .int (nI 0)), (0, .ref (q 0)), (1, .long (pa0)), (3, .int (pa1))]) hx hb dX11_goDrawn_10 hl (by decide) rfl (fun ls hl => ?_)
  refine lv_iconst (v := nI 0) hx hb dX11_goDrawn_12 (by decide +kernel) ?_
  refine lv_istore (lv' := [(5, .int (nI 0)), (4, .int (nI 0)), (0, .ref (q 0)), (1, .long (pa0)), (3, .int (pa1))]) hx hb dX11_goDrawn_13 hl (by decide) rfl (fun ls hl => ?_)
  have loop_354 : ∀ N : Nat, ∀ x_351 : Int32, ∀ x_352 : Int32, zR 0 40 x_352 → ∀ I_353 : Nat → Nat → Int32, ∀ R_353 : Nat → Nat → Int32, ∀ J_353 : Nat → Nat → Int64, mInv F (I_353, R_353, J_353) → (2147483648 - (x_352).toInt).toNat < N → ∀ (H : Heap) (locs : List Loc), va_P D vwCl (zw 25 q (zMd q cA) I_353 R_353 J_353) H → va_D (zA 25 q sz) (zw 25 q (zMd q cA) I_353 R_353 J_353) → va_S (zA 25 q sz) s.heap H locs → ∀ ls : Array Slot, lv_has ls 8 [(0, .ref (q 0)), (1, .long (pa0)), (3, .int (pa1)), (4, .int (x_351)), (5, .int (x_352))] → W p l e ({ frames := 6, cells := 0, slots := 0, locals := 155 } : Room) s m ([.ref (q 0), .long (pa0), .int (pa1)] : List Value).toArray below meth c H locs 0 0 (MQ below (va_Qi (fun _ u => mInv F u) (zB D vwCl 25 q (zMd q cA) sz) (zA 25 q sz)) ([.ref (q 0), .long (pa0), .int (pa1)] : List Value).toArray s 0 0 (zA 25 q sz)) (F0 m 15 ls []) := by
    intro N
    induction N with
    | zero => intro x_351 x_352 hx_352 I_353 R_353 J_353 hI_353 hN; exact absurd hN (Nat.not_lt_zero _)
    | succ N ih_356 =>
      intro x_351 x_352 hx_352 I_353 R_353 J_353 hI_353 hN_355 H locs hP hD hS ls hl
      refine lv_iload hx hb dX11_goDrawn_15 (lv_at hl 4 rfl) ?_
      refine lv_iload_n hx hb dX11_goDrawn_17 rfl (lv_at hl 2 rfl) ?_
      refine lv_icmp_ge (tgt := 121) hx hb dX11_goDrawn_18 (by decide) (fun c_357 => ?_) (fun c_357 => ?_)
      · have t_c_357 := z_leT c_357
        refine lv_iload hx hb dX11_goDrawn_121 (lv_at hl 3 rfl) ?_
        exact z_iret (v := x_351) hx hb hr hlocks hP hD hS dX11_goDrawn_123 hI_353
      · have t_c_357 := z_leF c_357
        have f_358 : zR 0 39 (x_352) := zR_ltx t_c_357 hx_352 hpa1 (by decide)
        have f_359 : zR 1 40 (pa1) := zR_lty t_c_357 hx_352 hpa1 (by decide)
        refine lv_iconst (v := nI 0) hx hb dX11_goDrawn_21 (by decide +kernel) ?_
        refine lv_istore (lv' := [(6, .int (nI 0)), (0, .ref (q 0)), (1, .long (pa0)), (3, .int (pa1)), (4, .int (x_351)), (5, .int (x_352))]) hx hb dX11_goDrawn_22 hl (by decide) rfl (fun ls hl => ?_)
        have loop_439 : ∀ N : Nat, ∀ x_437 : Int32, zR 0 5 x_437 → ∀ I_438 : Nat → Nat → Int32, ∀ R_438 : Nat → Nat → Int32, ∀ J_438 : Nat → Nat → Int64, mInv F (I_438, R_438, J_438) → (2147483648 - (x_437).toInt).toNat < N → ∀ (H : Heap) (locs : List Loc), va_P D vwCl (zw 25 q (zMd q cA) I_438 R_438 J_438) H → va_D (zA 25 q sz) (zw 25 q (zMd q cA) I_438 R_438 J_438) → va_S (zA 25 q sz) s.heap H locs → ∀ ls : Array Slot, lv_has ls 8 [(0, .ref (q 0)), (1, .long (pa0)), (3, .int (pa1)), (4, .int (x_351)), (5, .int (x_352)), (6, .int (x_437))] → W p l e ({ frames := 6, cells := 0, slots := 0, locals := 155 } : Room) s m ([.ref (q 0), .long (pa0), .int (pa1)] : List Value).toArray below meth c H locs 0 0 (MQ below (va_Qi (fun _ u => mInv F u) (zB D vwCl 25 q (zMd q cA) sz) (zA 25 q sz)) ([.ref (q 0), .long (pa0), .int (pa1)] : List Value).toArray s 0 0 (zA 25 q sz)) (F0 m 24 ls []) := by
          intro N
          induction N with
          | zero => intro x_437 hx_437 I_438 R_438 J_438 hI_438 hN; exact absurd hN (Nat.not_lt_zero _)
          | succ N ih_441 =>
            intro x_437 hx_437 I_438 R_438 J_438 hI_438 hN_440 H locs hP hD hS ls hl
            refine lv_iload hx hb dX11_goDrawn_24 (lv_at hl 5 rfl) ?_
            refine lv_aload_n hx hb dX11_goDrawn_26 rfl (lv_at hl 0 rfl) ?_
            refine z_get hx hb ht hown hK hP ziX11 rfl 0 (by decide) 1 (by decide) hw_5_188 rfl (v := .ref (q 1)) rfl dX11_goDrawn_27 ?_
            refine lv_iconst (v := nI 3) hx hb dX11_goDrawn_30 (by decide +kernel) ?_
            refine z_iald hx hb hK hP 1 (by decide) 0 rfl rfl (zR_vin zk_3 (by decide)) dX11_goDrawn_31 ?_
            refine z_eqi (y := R_438 1 (nI 3).toNatClampNeg) rfl ?_
            have f_442 : zR 0 5 (R_438 1 (nI 3).toNatClampNeg) := mR hI_438 1 3
            refine lv_icmp_ge (tgt := 106) hx hb dX11_goDrawn_32 (by decide) (fun c_443 => ?_) (fun c_443 => ?_)
            · have t_c_443 := z_leT c_443
              refine lv_iload hx hb dX11_goDrawn_106 (lv_at hl 3 rfl) ?_
              refine lv_aload_n hx hb dX11_goDrawn_108 rfl (lv_at hl 0 rfl) ?_
              refine z_callVi (k := 0) (As := []) (rest := [.int (x_351)]) hx hb hml hown ht (mk_X11_night0 l D q cA F _ _ _ hI_438 ) hw_6_222 hmX11_night0 ⟨rfl, rfl⟩ (na := 0) rfl (by decide +kernel) (by decide) (by decide) rfl rfl hK hP hD hS hA hl.1 rfl (Nat.le_of_ble_eq_true rfl) ⟨Nat.zero_le _, Nat.zero_le _⟩ dX11_goDrawn_109 (fun r_460 I_460 R_460 J_460 H locs hp_460 hP hD hS _ _ => ?_)
              obtain ⟨hv_460, hj_460, hk26_460⟩ := hp_460
              try dsimp only at hj_460
              subst J_460
              refine lv_iadd hx hb dX11_goDrawn_112 ?_
              refine z_any (fun v_461 => ?_)
              refine lv_istore (lv' := [(4, .int (v_461)), (0, .ref (q 0)), (1, .long (pa0)), (3, .int (pa1)), (5, .int (x_352)), (6, .int (x_437))]) hx hb dX11_goDrawn_113 hl (by decide) rfl (fun ls hl => ?_)
              obtain ⟨v_462, ev_462⟩ : ∃ y : Int32, y = x_352 + nI 1 := ⟨_, rfl⟩
              have hv_462 : zR 1 40 v_462 := ev_462 ▸ zR_add f_358 zk_1 (by decide)
              have mv_462 : v_462.toInt = (x_352).toInt + 1 := by rw [ev_462, zR_addE f_358 zk_1 (by decide)]; rfl
              refine lv_iinc (v := v_462) (lv' := [(5, .int (v_462)), (4, .int (v_461)), (0, .ref (q 0)), (1, .long (pa0)), (3, .int (pa1)), (6, .int (x_437))]) hx hb dX11_goDrawn_115 hl (k := 4) rfl (ev_462 ▸ rfl) (by decide) rfl (fun ls hl => ?_)
              refine lv_goto (tgt := 15) hx hb dX11_goDrawn_118 (by decide) ?_
              exact ih_356 (v_461) (v_462) (zR_w hv_462 (by decide)) _ _ _ hv_460 (z2_up mv_462 (by decide) hN_355) _ _ hP hD hS _ (lv_sub hl [2, 3, 4, 1, 0] rfl)
            · have t_c_443 := z_leF c_443
              have f_463 : zR 0 4 (x_437) := zR_ltx t_c_443 hx_437 f_442 (by decide)
              have f_464 : zR 1 5 (R_438 1 (nI 3).toNatClampNeg) := zR_lty t_c_443 hx_437 f_442 (by decide)
              refine lv_aload_n hx hb dX11_goDrawn_35 rfl (lv_at hl 0 rfl) ?_
              refine lv_bipush (v := nI 100) hx hb dX11_goDrawn_36 (by decide +kernel) ?_
              refine z_callVi (k := 0) (As := [.int (nI 100)]) (rest := []) hx hb hml hown ht (mk_X11_draw l D q cA F _ _ _ hI_438 ) hw_8_118 hmX11_draw ⟨rfl, rfl⟩ (na := 1) rfl (by decide +kernel) (by decide) (by decide) rfl rfl hK hP hD hS hA hl.1 rfl (Nat.le_of_ble_eq_true rfl) ⟨Nat.zero_le _, Nat.zero_le _⟩ dX11_goDrawn_38 (fun r_465 I_465 R_465 J_465 H locs hp_465 hP hD hS _ _ => ?_)
              obtain ⟨hr_465, hu_465⟩ := hp_465
              refine lv_aload_n hx hb dX11_goDrawn_41 rfl (lv_at hl 0 rfl) ?_
              refine z_get hx hb ht hown hK hP ziX11 rfl 0 (by decide) 1 (by decide) hw_5_188 rfl (v := .ref (q 1)) rfl dX11_goDrawn_42 ?_
              refine lv_iconst (v := nI 2) hx hb dX11_goDrawn_45 (by decide +kernel) ?_
              refine z_iald hx hb hK hP 1 (by decide) 0 rfl rfl (zR_vin zk_2 (by decide)) dX11_goDrawn_46 ?_
              refine z_eqi (y := R_465 1 (nI 2).toNatClampNeg) rfl ?_
              have t_478 : ∀ I_477 : Nat → Nat → Int32, ∀ R_477 : Nat → Nat → Int32, ∀ J_477 : Nat → Nat → Int64, mInv F (I_477, R_477, J_477) → ∀ (H : Heap) (locs : List Loc), va_P D vwCl (zw 25 q (zMd q cA) I_477 R_477 J_477) H → va_D (zA 25 q sz) (zw 25 q (zMd q cA) I_477 R_477 J_477) → va_S (zA 25 q sz) s.heap H locs → ∀ ls : Array Slot, lv_has ls 8 [(0, .ref (q 0)), (1, .long (pa0)), (3, .int (pa1)), (4, .int (x_351)), (5, .int (x_352)), (6, .int (x_437))] → W p l e ({ frames := 6, cells := 0, slots := 0, locals := 155 } : Room) s m ([.ref (q 0), .long (pa0), .int (pa1)] : List Value).toArray below meth c H locs 0 0 (MQ below (va_Qi (fun _ u => mInv F u) (zB D vwCl 25 q (zMd q cA) sz) (zA 25 q sz)) ([.ref (q 0), .long (pa0), .int (pa1)] : List Value).toArray s 0 0 (zA 25 q sz)) (F0 m 100 ls []) := by
                intro I_477 R_477 J_477 hI_477 H locs hP hD hS ls hl
                obtain ⟨v_479, ev_479⟩ : ∃ y : Int32, y = x_437 + nI 1 := ⟨_, rfl⟩
                have hv_479 : zR 1 5 v_479 := ev_479 ▸ zR_add f_463 zk_1 (by decide)
                have mv_479 : v_479.toInt = (x_437).toInt + 1 := by rw [ev_479, zR_addE f_463 zk_1 (by decide)]; rfl
                refine lv_iinc (v := v_479) (lv' := [(6, .int (v_479)), (0, .ref (q 0)), (1, .long (pa0)), (3, .int (pa1)), (4, .int (x_351)), (5, .int (x_352))]) hx hb dX11_goDrawn_100 hl (k := 5) rfl (ev_479 ▸ rfl) (by decide) rfl (fun ls hl => ?_)
                refine lv_goto (tgt := 24) hx hb dX11_goDrawn_103 (by decide) ?_
                exact ih_441 (v_479) (zR_w hv_479 (by decide)) _ _ _ hI_477 (z2_up mv_479 (by decide) hN_440) _ _ hP hD hS _ (lv_sub hl [1, 2, 3, 4, 5, 0] rfl)
              refine lv_icmp_ge (tgt := 100) hx hb dX11_goDrawn_47 (by decide) (fun c_466 => ?_) (fun c_466 => ?_)
              · have t_c_466 := z_leT c_466
                have f_480 : zR (-2147483648) 99 (R_465 1 (nI 2).toNatClampNeg) := zR_lex t_c_466 (zR_any (R_465 1 (nI 2).toNatClampNeg)) hr_465 (by decide)
                exact t_478 _ _ _ hu_465 _ _ hP hD hS _ (lv_sub hl [0, 1, 2, 3, 4, 5] rfl)
              · have t_c_466 := z_leF c_466
                have f_481 : zR 1 2147483647 (R_465 1 (nI 2).toNatClampNeg) := zR_lty t_c_466 hr_465 (zR_any (R_465 1 (nI 2).toNatClampNeg)) (by decide)
                refine lv_aload_n hx hb dX11_goDrawn_50 rfl (lv_at hl 0 rfl) ?_
                refine z_get hx hb ht hown hK hP ziX11 rfl 0 (by decide) 1 (by decide) hw_5_188 rfl (v := .ref (q 1)) rfl dX11_goDrawn_51 ?_
                refine lv_iconst (v := nI 4) hx hb dX11_goDrawn_54 (by decide +kernel) ?_
                refine z_iald hx hb hK hP 1 (by decide) 0 rfl rfl (zR_vin zk_4 (by decide)) dX11_goDrawn_55 ?_
                refine z_eqi (y := R_465 1 (nI 4).toNatClampNeg) rfl ?_
                have f_482 : zR 0 6 (R_465 1 (nI 4).toNatClampNeg) := mR hu_465 1 4
                refine lv_if_ne (tgt := 62) hx hb dX11_goDrawn_56 (by decide) (fun c_483 => ?_) (fun c_483 => ?_)
                · have t_c_483 := z_eqF c_483
                  have f_484 : zR 1 6 (R_465 1 (nI 4).toNatClampNeg) := zR_nex t_c_483 f_482 zk_z (by decide)
                  refine lv_aload_n hx hb dX11_goDrawn_62 rfl (lv_at hl 0 rfl) ?_
                  refine lv_aload_n hx hb dX11_goDrawn_63 rfl (lv_at hl 0 rfl) ?_
                  refine z_get hx hb ht hown hK hP ziX11 rfl 0 (by decide) 1 (by decide) hw_5_188 rfl (v := .ref (q 1)) rfl dX11_goDrawn_64 ?_
                  refine lv_iconst (v := nI 4) hx hb dX11_goDrawn_67 (by decide +kernel) ?_
                  refine z_iald hx hb hK hP 1 (by decide) 0 rfl rfl (zR_vin zk_4 (by decide)) dX11_goDrawn_68 ?_
                  refine z_eqi (y := R_465 1 (nI 4).toNatClampNeg) rfl ?_
                  refine z_callVi (k := 0) (As := [.int (R_465 1 (nI 4).toNatClampNeg)]) (rest := []) hx hb hml hown ht (mk_X11_draw_1 l D q cA F _ _ _ hu_465 (R_465 1 (nI 4).toNatClampNeg) f_484) hw_8_118 hmX11_draw ⟨rfl, rfl⟩ (na := 1) rfl (by decide +kernel) (by decide) (by decide) rfl rfl hK hP hD hS hA hl.1 rfl (Nat.le_of_ble_eq_true rfl) ⟨Nat.zero_le _, Nat.zero_le _⟩ dX11_goDrawn_69 (fun r_485 I_485 R_485 J_485 H locs hp_485 hP hD hS _ _ => ?_)
                  obtain ⟨hr_485, hu_485⟩ := hp_485
                  refine lv_istore (lv' := [(7, .int (r_485)), (0, .ref (q 0)), (1, .long (pa0)), (3, .int (pa1)), (4, .int (x_351)), (5, .int (x_352)), (6, .int (x_437))]) hx hb dX11_goDrawn_72 hl (by decide) rfl (fun ls hl => ?_)
                  refine lv_aload_n hx hb dX11_goDrawn_74 rfl (lv_at hl 1 rfl) ?_
                  refine lv_iload hx hb dX11_goDrawn_75 (lv_at hl 6 rfl) ?_
                  refine lv_iload hx hb dX11_goDrawn_77 (lv_at hl 0 rfl) ?_
                  refine z_callVi (k := 0) (As := [.int (x_437), .int (r_485)]) (rest := []) hx hb hml hown ht (mk_X11_canSteal l D q cA F _ _ _ hu_485 (x_437) f_463 (r_485) hr_485) hw_7_40 hmX11_canSteal ⟨rfl, rfl⟩ (na := 2) rfl (by decide +kernel) (by decide) (by decide) rfl rfl hK hP hD hS hA hl.1 rfl (Nat.le_of_ble_eq_true rfl) ⟨Nat.zero_le _, Nat.zero_le _⟩ dX11_goDrawn_79 (fun r_486 I_486 R_486 J_486 H locs hp_486 hP hD hS _ _ => ?_)
                  rcases hp_486 with ⟨rfl, hu_486, nn_486⟩ | ⟨rfl, hu_486, nn_486⟩
                  · cases hu_486
                    refine lv_if_eq (tgt := 100) hx hb dX11_goDrawn_82 (by decide) (fun c_0 => absurd c_0 (zD_ne zk_1 zk_z (by decide))) (fun _ => ?_)
                    refine lv_aload_n hx hb dX11_goDrawn_85 rfl (lv_at hl 1 rfl) ?_
                    refine lv_iload hx hb dX11_goDrawn_86 (lv_at hl 6 rfl) ?_
                    refine lv_iload hx hb dX11_goDrawn_88 (lv_at hl 0 rfl) ?_
                    refine lv_aload_n hx hb dX11_goDrawn_90 rfl (lv_at hl 1 rfl) ?_
                    refine z_get hx hb ht hown hK hP ziX11 rfl 0 (by decide) 27 (by decide) hw_5_214 rfl (v := .int (I_485 0 27)) rfl dX11_goDrawn_91 ?_
                    refine lv_bipush (v := nI 7) hx hb dX11_goDrawn_94 (by decide +kernel) ?_
                    refine lv_iadd hx hb dX11_goDrawn_96 ?_
                    refine z_any (fun v_487 => ?_)
                    refine z_callVv (k := 0) (As := [.int (x_437), .int (r_485), .int (v_487)]) (rest := []) hx hb hml hown ht (mk_X11_steal0 l D q cA F _ _ _ hu_485 (x_437) f_463 (r_485) hr_485 (v_487) nn_486) hw_6_190 hmX11_steal0 ⟨rfl, rfl⟩ (na := 3) rfl (by decide +kernel) (by decide) (by decide) rfl rfl hK hP hD hS hA hl.1 rfl (Nat.le_of_ble_eq_true rfl) ⟨Nat.zero_le _, Nat.zero_le _⟩ dX11_goDrawn_97 (fun I_488 R_488 J_488 H locs hp_488 hP hD hS _ _ => ?_)
                    obtain ⟨hv_488, hj_488, hs_488⟩ := hp_488
                    try dsimp only at hj_488
                    subst J_488
                    exact t_478 _ _ _ hv_488 _ _ hP hD hS _ (lv_sub hl [1, 2, 3, 4, 5, 6] rfl)
                  · cases hu_486
                    refine lv_if_eq (tgt := 100) hx hb dX11_goDrawn_82 (by decide) (fun _ => ?_) (fun c_0 => absurd (zD_eq zk_0 zk_z) c_0)
                    exact t_478 _ _ _ hu_485 _ _ hP hD hS _ (lv_sub hl [1, 2, 3, 4, 5, 6] rfl)
                · have t_c_483 := z_eqT c_483
                  have f_489 : zR 0 0 (R_465 1 (nI 4).toNatClampNeg) := zR_eqx t_c_483 zk_z
                  refine lv_goto (tgt := 100) hx hb dX11_goDrawn_59 (by decide) ?_
                  exact t_478 _ _ _ hu_465 _ _ hP hD hS _ (lv_sub hl [0, 1, 2, 3, 4, 5] rfl)
        exact loop_439 _ (nI 0) (zR_w zk_0 (by decide)) _ _ _ hI_353 (Nat.lt_succ_self _) _ _ hP hD hS _ (lv_sub hl [1, 2, 3, 4, 5, 0] rfl)
  exact loop_354 _ (nI 0) (nI 0) (zR_w zk_0 (by decide)) _ _ _ hI_2 (Nat.lt_succ_self _) _ _ hP hD hS _ (lv_sub hl [2, 3, 4, 1, 0] rfl)
set_option maxHeartbeats 4000000 in
set_option maxRecDepth 100000 in
theorem mk_X11_drawn (l : Launch) (D : va_G) (q : Nat → Nat) (cA : Nat → ClassId) (F : Nat → Nat → Int32) (I R : Nat → Nat → Int32) (J : Nat → Nat → Int64) (hI : mInv F (I, R, J)) (pa0 : Int32) (pa1 : Int32) (pa2 : Int32) : zMi l D vwCl (zMtys cA) 25 q (zMd q cA) yX11_drawn cX11_drawn 5 (some .int) ({ frames := 7, cells := 0, slots := 0, locals := 182 } : Room) [.ref (q 0), .int (pa0), .int (pa1), .int (pa2)] (I, R, J) (fun _ u => mInv F u) := by
  intro sz
  refine z_body (by decide +kernel) (Nat.le_of_ble_eq_true rfl) (fun p e s m below meth c ls hx hb hml hr ht hown hlocks hsz hK hP hD hS hl => ?_)
  have hA : ∀ a, s.heap.size ≤ a → zA 25 q sz a := fun a h => Or.inr (hsz ▸ h)
  have hl : lv_has ls 5 [(0, .ref (q 0)), (1, .int (pa0)), (2, .int (pa1)), (3, .int (pa2))] := hl
  refine lv_aload_n hx hb dX11_drawn_0 rfl (lv_at hl 0 rfl) ?_
  refine lv_iload_n hx hb dX11_drawn_1 rfl (lv_at hl 1 rfl) ?_
  refine lv_iload_n hx hb dX11_drawn_2 rfl (lv_at hl 2 rfl) ?_
  refine z_callVi (k := 0) (As := [.int (pa0), .int (pa1)]) (rest := []) hx hb hml hown ht (mk_X11_areDrawn l D q cA F _ _ _ hI (pa0) (pa1)) hw_8_108 hmX11_areDrawn ⟨rfl, rfl⟩ (na := 2) rfl (by decide +kernel) (by decide) (by decide) rfl rfl hK hP hD hS hA hl.1 rfl (Nat.le_of_ble_eq_true rfl) ⟨Nat.zero_le _, Nat.zero_le _⟩ dX11_drawn_3 (fun r_1 I_1 R_1 J_1 H locs hp_1 hP hD hS _ _ => ?_)
  rcases hp_1 with ⟨rfl, hu_1, f0_1, f1_1⟩ | ⟨rfl, hu_1⟩
  · cases hu_1
    refine lv_if_eq (tgt := 21) hx hb dX11_drawn_6 (by decide) (fun c_0 => absurd c_0 (zD_ne zk_1 zk_z (by decide))) (fun _ => ?_)
    refine lv_iload_n hx hb dX11_drawn_9 rfl (lv_at hl 3 rfl) ?_
    refine lv_i2l (v := (pa2).toInt64) hx hb dX11_drawn_10 rfl ?_
    refine lv_lconst (v := (0 : Int64)) hx hb dX11_drawn_11 (by decide +kernel) ?_
    refine lv_ldc2 (v := (2 : Int64)) hx hb hown (ht _ hw_6_85) dX11_drawn_12 ?_
    refine z_callSi (As := [.long ((pa2).toInt64), .long ((0 : Int64)), .long ((2 : Int64))]) (rest := []) hx hb hml hown ht (mk_X11_in l D q cA F _ _ _ hI ((pa2).toInt64) ((0 : Int64)) ((2 : Int64))) hw_6_86 hmX11_in ⟨rfl, rfl⟩ (na := 3) rfl (by decide +kernel) (by decide) hK hP hD hS hA hl.1 rfl (Nat.le_of_ble_eq_true rfl) ⟨Nat.zero_le _, Nat.zero_le _⟩ dX11_drawn_15 (fun r_2 I_2 R_2 J_2 H locs hp_2 hP hD hS _ _ => ?_)
    rcases hp_2 with ⟨rfl, hu_2, h1_2, h2_2⟩ | ⟨rfl, hu_2, h1_2 | h2_2⟩
    · cases hu_2
      have f_3 : zL 0 2147483647 ((pa2).toInt64) := zL_ley h1_2 zkl_0 (zR_i2l (zR_any (pa2))) (by decide)
      have f_4 : zR 0 2147483647 (pa2) := zL_back f_3
      have f_5 : zL 0 2 ((pa2).toInt64) := zL_lex h2_2 f_3 zkl_2 (by decide)
      have f_6 : zR 0 2 (pa2) := zL_back f_5
      refine lv_if_ne (tgt := 24) hx hb dX11_drawn_18 (by decide) (fun _ => ?_) (fun c_0 => absurd c_0 (zD_ne zk_1 zk_z (by decide)))
      refine lv_aload_n hx hb dX11_drawn_24 rfl (lv_at hl 0 rfl) ?_
      refine lv_iload_n hx hb dX11_drawn_25 rfl (lv_at hl 1 rfl) ?_
      refine lv_i2l (v := (pa0).toInt64) hx hb dX11_drawn_26 rfl ?_
      refine lv_iload_n hx hb dX11_drawn_27 rfl (lv_at hl 2 rfl) ?_
      refine z_callVi (k := 0) (As := [.long ((pa0).toInt64), .int (pa1)]) (rest := []) hx hb hml hown ht (mk_X11_goDrawn l D q cA F _ _ _ hI ((pa0).toInt64) (zR_i2l f0_1) (pa1) f1_1) hw_8_114 hmX11_goDrawn ⟨rfl, rfl⟩ (na := 2) rfl (by decide +kernel) (by decide) (by decide) rfl rfl hK hP hD hS hA hl.1 rfl (Nat.le_of_ble_eq_true rfl) ⟨Nat.zero_le _, Nat.zero_le _⟩ dX11_drawn_28 (fun r_7 I_7 R_7 J_7 H locs hp_7 hP hD hS _ _ => ?_)
      refine lv_istore (lv' := [(4, .int (r_7)), (0, .ref (q 0)), (1, .int (pa0)), (2, .int (pa1)), (3, .int (pa2))]) hx hb dX11_drawn_31 hl (by decide) rfl (fun ls hl => ?_)
      refine lv_iload_n hx hb dX11_drawn_33 rfl (lv_at hl 4 rfl) ?_
      refine lv_if_ne (tgt := 42) hx hb dX11_drawn_34 (by decide) (fun c_8 => ?_) (fun c_8 => ?_)
      · have t_c_8 := z_eqF c_8
        have f_9 : zR 1 2 (pa2) := zR_nex t_c_8 f_6 zk_z (by decide)
        refine lv_iload_n hx hb dX11_drawn_42 rfl (lv_at hl 4 rfl) ?_
        refine lv_iconst (v := nI 1) hx hb dX11_drawn_43 (by decide +kernel) ?_
        refine lv_icmp_ne (tgt := 54) hx hb dX11_drawn_44 (by decide) (fun c_10 => ?_) (fun c_10 => ?_)
        · have t_c_10 := z_eqF c_10
          have f_11 : zR 2 2 (pa2) := zR_nex t_c_10 f_9 zk_1 (by decide)
          refine lv_aload_n hx hb dX11_drawn_54 rfl (lv_at hl 1 rfl) ?_
          refine z_get hx hb ht hown hK hP ziX11 rfl 0 (by decide) 1 (by decide) hw_5_188 rfl (v := .ref (q 1)) rfl dX11_drawn_55 ?_
          refine lv_iconst (v := nI 3) hx hb dX11_drawn_58 (by decide +kernel) ?_
          refine z_iald hx hb hK hP 1 (by decide) 0 rfl rfl (zR_vin zk_3 (by decide)) dX11_drawn_59 ?_
          refine z_eqi (y := R_7 1 (nI 3).toNatClampNeg) rfl ?_
          have f_12 : zR 0 5 (R_7 1 (nI 3).toNatClampNeg) := mR hp_7 1 3
          refine lv_if_ne (tgt := 67) hx hb dX11_drawn_60 (by decide) (fun c_13 => ?_) (fun c_13 => ?_)
          · have t_c_13 := z_eqF c_13
            have f_14 : zR 1 5 (R_7 1 (nI 3).toNatClampNeg) := zR_nex t_c_13 f_12 zk_z (by decide)
            refine lv_aload_n hx hb dX11_drawn_67 rfl (lv_at hl 1 rfl) ?_
            refine z_get hx hb ht hown hK hP ziX11 rfl 0 (by decide) 15 (by decide) hw_5_202 rfl (v := .ref (q 7)) rfl dX11_drawn_68 ?_
            refine lv_iconst (v := nI 0) hx hb dX11_drawn_71 (by decide +kernel) ?_
            refine z_iald hx hb hK hP 7 (by decide) 6 rfl rfl (zR_vin zk_0 (by decide)) dX11_drawn_72 ?_
            refine z_eqi (y := R_7 7 (nI 0).toNatClampNeg) rfl ?_
            exact z_iret (v := R_7 7 (nI 0).toNatClampNeg) hx hb hr hlocks hP hD hS dX11_drawn_73 hp_7
          · have t_c_13 := z_eqT c_13
            have f_15 : zR 0 0 (R_7 1 (nI 3).toNatClampNeg) := zR_eqx t_c_13 zk_z
            refine lv_iconst (v := (-1)) hx hb dX11_drawn_63 (by decide +kernel) ?_
            refine lv_goto (tgt := 73) hx hb dX11_drawn_64 (by decide) ?_
            exact z_iret (v := (-1)) hx hb hr hlocks hP hD hS dX11_drawn_73 hp_7
        · have t_c_10 := z_eqT c_10
          have f_16 : zR 1 1 (pa2) := zR_eqx t_c_10 zk_1
          refine lv_aload_n hx hb dX11_drawn_47 rfl (lv_at hl 1 rfl) ?_
          refine z_get hx hb ht hown hK hP ziX11 rfl 0 (by decide) 26 (by decide) hw_5_213 rfl (v := .int (I_7 0 26)) rfl dX11_drawn_48 ?_
          have f_17 : zR 0 24 (I_7 0 26) := mI hp_7 0 26
          refine lv_goto (tgt := 73) hx hb dX11_drawn_51 (by decide) ?_
          exact z_iret (v := I_7 0 26) hx hb hr hlocks hP hD hS dX11_drawn_73 hp_7
      · have t_c_8 := z_eqT c_8
        have f_18 : zR 0 0 (pa2) := zR_eqx t_c_8 zk_z
        refine lv_iload hx hb dX11_drawn_37 (lv_at hl 0 rfl) ?_
        refine lv_goto (tgt := 73) hx hb dX11_drawn_39 (by decide) ?_
        exact z_iret (v := r_7) hx hb hr hlocks hP hD hS dX11_drawn_73 hp_7
    · cases hu_2
      have f_19 : zL (-2147483648) (-1) ((pa2).toInt64) := zL_ltx h1_2 (zR_i2l (zR_any (pa2))) zkl_0 (by decide)
      have f_20 : zR (-2147483648) (-1) (pa2) := zL_back f_19
      refine lv_if_ne (tgt := 24) hx hb dX11_drawn_18 (by decide) (fun c_0 => absurd (zD_eq zk_0 zk_z) c_0) (fun _ => ?_)
      refine lv_bipush (v := (-2)) hx hb dX11_drawn_21 (by decide +kernel) ?_
      exact z_iret (v := (-2)) hx hb hr hlocks hP hD hS dX11_drawn_23 hI
    · cases hu_2
      have f_21 : zL 3 2147483647 ((pa2).toInt64) := zL_lty h2_2 zkl_2 (zR_i2l (zR_any (pa2))) (by decide)
      have f_22 : zR 3 2147483647 (pa2) := zL_back f_21
      refine lv_if_ne (tgt := 24) hx hb dX11_drawn_18 (by decide) (fun c_0 => absurd (zD_eq zk_0 zk_z) c_0) (fun _ => ?_)
      refine lv_bipush (v := (-2)) hx hb dX11_drawn_21 (by decide +kernel) ?_
      exact z_iret (v := (-2)) hx hb hr hlocks hP hD hS dX11_drawn_23 hI
  · cases hu_1
    refine lv_if_eq (tgt := 21) hx hb dX11_drawn_6 (by decide) (fun _ => ?_) (fun c_0 => absurd (zD_eq zk_0 zk_z) c_0)
    refine lv_bipush (v := (-2)) hx hb dX11_drawn_21 (by decide +kernel) ?_
    exact z_iret (v := (-2)) hx hb hr hlocks hP hD hS dX11_drawn_23 hI
set_option maxHeartbeats 4000000 in
set_option maxRecDepth 100000 in
theorem mk_X11_goDrawn_2 (l : Launch) (D : va_G) (q : Nat → Nat) (cA : Nat → ClassId) (F : Nat → Nat → Int32) (I R : Nat → Nat → Int32) (J : Nat → Nat → Int64) (hI : mInv F (I, R, J)) (pa0 : Int64) (hpa0 : zL 0 2000000019 pa0) (pa1 : Int32) (hpa1 : zR 0 40 pa1) : zMi l D vwCl (zMtys cA) 25 q (zMd q cA) yX11_goDrawn cX11_goDrawn 8 (some .int) ({ frames := 6, cells := 0, slots := 0, locals := 155 } : Room) [.ref (q 0), .long (pa0), .int (pa1)] (I, R, J) (fun _ u => mInv F u) := by
  intro sz
  refine z_body (by decide +kernel) (Nat.le_of_ble_eq_true rfl) (fun p e s m below meth c ls hx hb hml hr ht hown hlocks hsz hK hP hD hS hl => ?_)
  have hA : ∀ a, s.heap.size ≤ a → zA 25 q sz a := fun a h => Or.inr (hsz ▸ h)
  have hl : lv_has ls 8 [(0, .ref (q 0)), (1, .long (pa0)), (3, .int (pa1))] := hl
  refine lv_aload_n hx hb dX11_goDrawn_0 rfl (lv_at hl 0 rfl) ?_
  refine z_callVv (k := 0) (As := []) (rest := []) hx hb hml hown ht (mk_X11_asItIs l D q cA F _ _ _ hI ) hw_6_181 hmX11_asItIs ⟨rfl, rfl⟩ (na := 0) rfl (by decide +kernel) (by decide) (by decide) rfl rfl hK hP hD hS hA hl.1 rfl (Nat.le_of_ble_eq_true rfl) ⟨Nat.zero_le _, Nat.zero_le _⟩ dX11_goDrawn_1 (fun I_1 R_1 J_1 H locs hp_1 hP hD hS _ _ => ?_)
  obtain ⟨hv_1, hj_1, hs_1⟩ := hp_1
  try dsimp only at hj_1
  subst J_1
  refine lv_aload_n hx hb dX11_goDrawn_4 rfl (lv_at hl 0 rfl) ?_
  refine lv_lload_n hx hb dX11_goDrawn_5 rfl (lv_at hl 1 rfl) ?_
  refine z_putJ hx hb ht hown hK hP hD hS ziX11 tyX11 tyX11_ok nmX11 rfl 0 (by decide) 39 (by decide) hw_5_226 rfl (v := pa0) rfl rfl rfl (Nat.le_of_ble_eq_true rfl) rfl dX11_goDrawn_6 (fun H locs hP hD hS => ?_)
  have hI_2 := mInv_Jf hv_1 (pa0) (zL_w hpa0 (by decide))
  refine lv_iconst (v := nI 0) hx hb dX11_goDrawn_9 (by decide +kernel) ?_
  refine lv_istore (lv' := [(4, .int (nI 0)), (0, .ref (q 0)), (1, .long (pa0)), (3, .int (pa1))]) hx hb dX11_goDrawn_10 hl (by decide) rfl (fun ls hl => ?_)
  refine lv_iconst (v := nI 0) hx hb dX11_goDrawn_12 (by decide +kernel) ?_
  refine lv_istore (lv' := [(5, .int (nI 0)), (4, .int (nI 0)), (0, .ref (q 0)), (1, .long (pa0)), (3, .int (pa1))]) hx hb dX11_goDrawn_13 hl (by decide) rfl (fun ls hl => ?_)
  have loop_354 : ∀ N : Nat, ∀ x_351 : Int32, ∀ x_352 : Int32, zR 0 40 x_352 → ∀ I_353 : Nat → Nat → Int32, ∀ R_353 : Nat → Nat → Int32, ∀ J_353 : Nat → Nat → Int64, mInv F (I_353, R_353, J_353) → (2147483648 - (x_352).toInt).toNat < N → ∀ (H : Heap) (locs : List Loc), va_P D vwCl (zw 25 q (zMd q cA) I_353 R_353 J_353) H → va_D (zA 25 q sz) (zw 25 q (zMd q cA) I_353 R_353 J_353) → va_S (zA 25 q sz) s.heap H locs → ∀ ls : Array Slot, lv_has ls 8 [(0, .ref (q 0)), (1, .long (pa0)), (3, .int (pa1)), (4, .int (x_351)), (5, .int (x_352))] → W p l e ({ frames := 6, cells := 0, slots := 0, locals := 155 } : Room) s m ([.ref (q 0), .long (pa0), .int (pa1)] : List Value).toArray below meth c H locs 0 0 (MQ below (va_Qi (fun _ u => mInv F u) (zB D vwCl 25 q (zMd q cA) sz) (zA 25 q sz)) ([.ref (q 0), .long (pa0), .int (pa1)] : List Value).toArray s 0 0 (zA 25 q sz)) (F0 m 15 ls []) := by
    intro N
    induction N with
    | zero => intro x_351 x_352 hx_352 I_353 R_353 J_353 hI_353 hN; exact absurd hN (Nat.not_lt_zero _)
    | succ N ih_356 =>
      intro x_351 x_352 hx_352 I_353 R_353 J_353 hI_353 hN_355 H locs hP hD hS ls hl
      refine lv_iload hx hb dX11_goDrawn_15 (lv_at hl 4 rfl) ?_
      refine lv_iload_n hx hb dX11_goDrawn_17 rfl (lv_at hl 2 rfl) ?_
      refine lv_icmp_ge (tgt := 121) hx hb dX11_goDrawn_18 (by decide) (fun c_357 => ?_) (fun c_357 => ?_)
      · have t_c_357 := z_leT c_357
        refine lv_iload hx hb dX11_goDrawn_121 (lv_at hl 3 rfl) ?_
        exact z_iret (v := x_351) hx hb hr hlocks hP hD hS dX11_goDrawn_123 hI_353
      · have t_c_357 := z_leF c_357
        have f_358 : zR 0 39 (x_352) := zR_ltx t_c_357 hx_352 hpa1 (by decide)
        have f_359 : zR 1 40 (pa1) := zR_lty t_c_357 hx_352 hpa1 (by decide)
        refine lv_iconst (v := nI 0) hx hb dX11_goDrawn_21 (by decide +kernel) ?_
        refine lv_istore (lv' := [(6, .int (nI 0)), (0, .ref (q 0)), (1, .long (pa0)), (3, .int (pa1)), (4, .int (x_351)), (5, .int (x_352))]) hx hb dX11_goDrawn_22 hl (by decide) rfl (fun ls hl => ?_)
        have loop_439 : ∀ N : Nat, ∀ x_437 : Int32, zR 0 5 x_437 → ∀ I_438 : Nat → Nat → Int32, ∀ R_438 : Nat → Nat → Int32, ∀ J_438 : Nat → Nat → Int64, mInv F (I_438, R_438, J_438) → (2147483648 - (x_437).toInt).toNat < N → ∀ (H : Heap) (locs : List Loc), va_P D vwCl (zw 25 q (zMd q cA) I_438 R_438 J_438) H → va_D (zA 25 q sz) (zw 25 q (zMd q cA) I_438 R_438 J_438) → va_S (zA 25 q sz) s.heap H locs → ∀ ls : Array Slot, lv_has ls 8 [(0, .ref (q 0)), (1, .long (pa0)), (3, .int (pa1)), (4, .int (x_351)), (5, .int (x_352)), (6, .int (x_437))] → W p l e ({ frames := 6, cells := 0, slots := 0, locals := 155 } : Room) s m ([.ref (q 0), .long (pa0), .int (pa1)] : List Value).toArray below meth c H locs 0 0 (MQ below (va_Qi (fun _ u => mInv F u) (zB D vwCl 25 q (zMd q cA) sz) (zA 25 q sz)) ([.ref (q 0), .long (pa0), .int (pa1)] : List Value).toArray s 0 0 (zA 25 q sz)) (F0 m 24 ls []) := by
          intro N
          induction N with
          | zero => intro x_437 hx_437 I_438 R_438 J_438 hI_438 hN; exact absurd hN (Nat.not_lt_zero _)
          | succ N ih_441 =>
            intro x_437 hx_437 I_438 R_438 J_438 hI_438 hN_440 H locs hP hD hS ls hl
            refine lv_iload hx hb dX11_goDrawn_24 (lv_at hl 5 rfl) ?_
            refine lv_aload_n hx hb dX11_goDrawn_26 rfl (lv_at hl 0 rfl) ?_
            refine z_get hx hb ht hown hK hP ziX11 rfl 0 (by decide) 1 (by decide) hw_5_188 rfl (v := .ref (q 1)) rfl dX11_goDrawn_27 ?_
            refine lv_iconst (v := nI 3) hx hb dX11_goDrawn_30 (by decide +kernel) ?_
            refine z_iald hx hb hK hP 1 (by decide) 0 rfl rfl (zR_vin zk_3 (by decide)) dX11_goDrawn_31 ?_
            refine z_eqi (y := R_438 1 (nI 3).toNatClampNeg) rfl ?_
            have f_442 : zR 0 5 (R_438 1 (nI 3).toNatClampNeg) := mR hI_438 1 3
            refine lv_icmp_ge (tgt := 106) hx hb dX11_goDrawn_32 (by decide) (fun c_443 => ?_) (fun c_443 => ?_)
            · have t_c_443 := z_leT c_443
              refine lv_iload hx hb dX11_goDrawn_106 (lv_at hl 3 rfl) ?_
              refine lv_aload_n hx hb dX11_goDrawn_108 rfl (lv_at hl 0 rfl) ?_
              refine z_callVi (k := 0) (As := []) (rest := [.int (x_351)]) hx hb hml hown ht (mk_X11_night0 l D q cA F _ _ _ hI_438 ) hw_6_222 hmX11_night0 ⟨rfl, rfl⟩ (na := 0) rfl (by decide +kernel) (by decide) (by decide) rfl rfl hK hP hD hS hA hl.1 rfl (Nat.le_of_ble_eq_true rfl) ⟨Nat.zero_le _, Nat.zero_le _⟩ dX11_goDrawn_109 (fun r_460 I_460 R_460 J_460 H locs hp_460 hP hD hS _ _ => ?_)
              obtain ⟨hv_460, hj_460, hk26_460⟩ := hp_460
              try dsimp only at hj_460
              subst J_460
              refine lv_iadd hx hb dX11_goDrawn_112 ?_
              refine z_any (fun v_461 => ?_)
              refine lv_istore (lv' := [(4, .int (v_461)), (0, .ref (q 0)), (1, .long (pa0)), (3, .int (pa1)), (5, .int (x_352)), (6, .int (x_437))]) hx hb dX11_goDrawn_113 hl (by decide) rfl (fun ls hl => ?_)
              obtain ⟨v_462, ev_462⟩ : ∃ y : Int32, y = x_352 + nI 1 := ⟨_, rfl⟩
              have hv_462 : zR 1 40 v_462 := ev_462 ▸ zR_add f_358 zk_1 (by decide)
              have mv_462 : v_462.toInt = (x_352).toInt + 1 := by rw [ev_462, zR_addE f_358 zk_1 (by decide)]; rfl
              refine lv_iinc (v := v_462) (lv' := [(5, .int (v_462)), (4, .int (v_461)), (0, .ref (q 0)), (1, .long (pa0)), (3, .int (pa1)), (6, .int (x_437))]) hx hb dX11_goDrawn_115 hl (k := 4) rfl (ev_462 ▸ rfl) (by decide) rfl (fun ls hl => ?_)
              refine lv_goto (tgt := 15) hx hb dX11_goDrawn_118 (by decide) ?_
              exact ih_356 (v_461) (v_462) (zR_w hv_462 (by decide)) _ _ _ hv_460 (z2_up mv_462 (by decide) hN_355) _ _ hP hD hS _ (lv_sub hl [2, 3, 4, 1, 0] rfl)
            · have t_c_443 := z_leF c_443
              have f_463 : zR 0 4 (x_437) := zR_ltx t_c_443 hx_437 f_442 (by decide)
              have f_464 : zR 1 5 (R_438 1 (nI 3).toNatClampNeg) := zR_lty t_c_443 hx_437 f_442 (by decide)
              refine lv_aload_n hx hb dX11_goDrawn_35 rfl (lv_at hl 0 rfl) ?_
              refine lv_bipush (v := nI 100) hx hb dX11_goDrawn_36 (by decide +kernel) ?_
              refine z_callVi (k := 0) (As := [.int (nI 100)]) (rest := []) hx hb hml hown ht (mk_X11_draw l D q cA F _ _ _ hI_438 ) hw_8_118 hmX11_draw ⟨rfl, rfl⟩ (na := 1) rfl (by decide +kernel) (by decide) (by decide) rfl rfl hK hP hD hS hA hl.1 rfl (Nat.le_of_ble_eq_true rfl) ⟨Nat.zero_le _, Nat.zero_le _⟩ dX11_goDrawn_38 (fun r_465 I_465 R_465 J_465 H locs hp_465 hP hD hS _ _ => ?_)
              obtain ⟨hr_465, hu_465⟩ := hp_465
              refine lv_aload_n hx hb dX11_goDrawn_41 rfl (lv_at hl 0 rfl) ?_
              refine z_get hx hb ht hown hK hP ziX11 rfl 0 (by decide) 1 (by decide) hw_5_188 rfl (v := .ref (q 1)) rfl dX11_goDrawn_42 ?_
              refine lv_iconst (v := nI 2) hx hb dX11_goDrawn_45 (by decide +kernel) ?_
              refine z_iald hx hb hK hP 1 (by decide) 0 rfl rfl (zR_vin zk_2 (by decide)) dX11_goDrawn_46 ?_
              refine z_eqi (y := R_465 1 (nI 2).toNatClampNeg) rfl ?_
              have t_478 : ∀ I_477 : Nat → Nat → Int32, ∀ R_477 : Nat → Nat → Int32, ∀ J_477 : Nat → Nat → Int64, mInv F (I_477, R_477, J_477) → ∀ (H : Heap) (locs : List Loc), va_P D vwCl (zw 25 q (zMd q cA) I_477 R_477 J_477) H → va_D (zA 25 q sz) (zw 25 q (zMd q cA) I_477 R_477 J_477) → va_S (zA 25 q sz) s.heap H locs → ∀ ls : Array Slot, lv_has ls 8 [(0, .ref (q 0)), (1, .long (pa0)), (3, .int (pa1)), (4, .int (x_351)), (5, .int (x_352)), (6, .int (x_437))] → W p l e ({ frames := 6, cells := 0, slots := 0, locals := 155 } : Room) s m ([.ref (q 0), .long (pa0), .int (pa1)] : List Value).toArray below meth c H locs 0 0 (MQ below (va_Qi (fun _ u => mInv F u) (zB D vwCl 25 q (zMd q cA) sz) (zA 25 q sz)) ([.ref (q 0), .long (pa0), .int (pa1)] : List Value).toArray s 0 0 (zA 25 q sz)) (F0 m 100 ls []) := by
                intro I_477 R_477 J_477 hI_477 H locs hP hD hS ls hl
                obtain ⟨v_479, ev_479⟩ : ∃ y : Int32, y = x_437 + nI 1 := ⟨_, rfl⟩
                have hv_479 : zR 1 5 v_479 := ev_479 ▸ zR_add f_463 zk_1 (by decide)
                have mv_479 : v_479.toInt = (x_437).toInt + 1 := by rw [ev_479, zR_addE f_463 zk_1 (by decide)]; rfl
                refine lv_iinc (v := v_479) (lv' := [(6, .int (v_479)), (0, .ref (q 0)), (1, .long (pa0)), (3, .int (pa1)), (4, .int (x_351)), (5, .int (x_352))]) hx hb dX11_goDrawn_100 hl (k := 5) rfl (ev_479 ▸ rfl) (by decide) rfl (fun ls hl => ?_)
                refine lv_goto (tgt := 24) hx hb dX11_goDrawn_103 (by decide) ?_
                exact ih_441 (v_479) (zR_w hv_479 (by decide)) _ _ _ hI_477 (z2_up mv_479 (by decide) hN_440) _ _ hP hD hS _ (lv_sub hl [1, 2, 3, 4, 5, 0] rfl)
              refine lv_icmp_ge (tgt := 100) hx hb dX11_goDrawn_47 (by decide) (fun c_466 => ?_) (fun c_466 => ?_)
              · have t_c_466 := z_leT c_466
                have f_480 : zR (-2147483648) 99 (R_465 1 (nI 2).toNatClampNeg) := zR_lex t_c_466 (zR_any (R_465 1 (nI 2).toNatClampNeg)) hr_465 (by decide)
                exact t_478 _ _ _ hu_465 _ _ hP hD hS _ (lv_sub hl [0, 1, 2, 3, 4, 5] rfl)
              · have t_c_466 := z_leF c_466
                have f_481 : zR 1 2147483647 (R_465 1 (nI 2).toNatClampNeg) := zR_lty t_c_466 hr_465 (zR_any (R_465 1 (nI 2).toNatClampNeg)) (by decide)
                refine lv_aload_n hx hb dX11_goDrawn_50 rfl (lv_at hl 0 rfl) ?_
                refine z_get hx hb ht hown hK hP ziX11 rfl 0 (by decide) 1 (by decide) hw_5_188 rfl (v := .ref (q 1)) rfl dX11_goDrawn_51 ?_
                refine lv_iconst (v := nI 4) hx hb dX11_goDrawn_54 (by decide +kernel) ?_
                refine z_iald hx hb hK hP 1 (by decide) 0 rfl rfl (zR_vin zk_4 (by decide)) dX11_goDrawn_55 ?_
                refine z_eqi (y := R_465 1 (nI 4).toNatClampNeg) rfl ?_
                have f_482 : zR 0 6 (R_465 1 (nI 4).toNatClampNeg) := mR hu_465 1 4
                refine lv_if_ne (tgt := 62) hx hb dX11_goDrawn_56 (by decide) (fun c_483 => ?_) (fun c_483 => ?_)
                · have t_c_483 := z_eqF c_483
                  have f_484 : zR 1 6 (R_465 1 (nI 4).toNatClampNeg) := zR_nex t_c_483 f_482 zk_z (by decide)
                  refine lv_aload_n hx hb dX11_goDrawn_62 rfl (lv_at hl 0 rfl) ?_
                  refine lv_aload_n hx hb dX11_goDrawn_63 rfl (lv_at hl 0 rfl) ?_
                  refine z_get hx hb ht hown hK hP ziX11 rfl 0 (by decide) 1 (by decide) hw_5_188 rfl (v := .ref (q 1)) rfl dX11_goDrawn_64 ?_
                  refine lv_iconst (v := nI 4) hx hb dX11_goDrawn_67 (by decide +kernel) ?_
                  refine z_iald hx hb hK hP 1 (by decide) 0 rfl rfl (zR_vin zk_4 (by decide)) dX11_goDrawn_68 ?_
                  refine z_eqi (y := R_465 1 (nI 4).toNatClampNeg) rfl ?_
                  refine z_callVi (k := 0) (As := [.int (R_465 1 (nI 4).toNatClampNeg)]) (rest := []) hx hb hml hown ht (mk_X11_draw_1 l D q cA F _ _ _ hu_465 (R_465 1 (nI 4).toNatClampNeg) f_484) hw_8_118 hmX11_draw ⟨rfl, rfl⟩ (na := 1) rfl (by decide +kernel) (by decide) (by decide) rfl rfl hK hP hD hS hA hl.1 rfl (Nat.le_of_ble_eq_true rfl) ⟨Nat.zero_le _, Nat.zero_le _⟩ dX11_goDrawn_69 (fun r_485 I_485 R_485 J_485 H locs hp_485 hP hD hS _ _ => ?_)
                  obtain ⟨hr_485, hu_485⟩ := hp_485
                  refine lv_istore (lv' := [(7, .int (r_485)), (0, .ref (q 0)), (1, .long (pa0)), (3, .int (pa1)), (4, .int (x_351)), (5, .int (x_352)), (6, .int (x_437))]) hx hb dX11_goDrawn_72 hl (by decide) rfl (fun ls hl => ?_)
                  refine lv_aload_n hx hb dX11_goDrawn_74 rfl (lv_at hl 1 rfl) ?_
                  refine lv_iload hx hb dX11_goDrawn_75 (lv_at hl 6 rfl) ?_
                  refine lv_iload hx hb dX11_goDrawn_77 (lv_at hl 0 rfl) ?_
                  refine z_callVi (k := 0) (As := [.int (x_437), .int (r_485)]) (rest := []) hx hb hml hown ht (mk_X11_canSteal l D q cA F _ _ _ hu_485 (x_437) f_463 (r_485) hr_485) hw_7_40 hmX11_canSteal ⟨rfl, rfl⟩ (na := 2) rfl (by decide +kernel) (by decide) (by decide) rfl rfl hK hP hD hS hA hl.1 rfl (Nat.le_of_ble_eq_true rfl) ⟨Nat.zero_le _, Nat.zero_le _⟩ dX11_goDrawn_79 (fun r_486 I_486 R_486 J_486 H locs hp_486 hP hD hS _ _ => ?_)
                  rcases hp_486 with ⟨rfl, hu_486, nn_486⟩ | ⟨rfl, hu_486, nn_486⟩
                  · cases hu_486
                    refine lv_if_eq (tgt := 100) hx hb dX11_goDrawn_82 (by decide) (fun c_0 => absurd c_0 (zD_ne zk_1 zk_z (by decide))) (fun _ => ?_)
                    refine lv_aload_n hx hb dX11_goDrawn_85 rfl (lv_at hl 1 rfl) ?_
                    refine lv_iload hx hb dX11_goDrawn_86 (lv_at hl 6 rfl) ?_
                    refine lv_iload hx hb dX11_goDrawn_88 (lv_at hl 0 rfl) ?_
                    refine lv_aload_n hx hb dX11_goDrawn_90 rfl (lv_at hl 1 rfl) ?_
                    refine z_get hx hb ht hown hK hP ziX11 rfl 0 (by decide) 27 (by decide) hw_5_214 rfl (v := .int (I_485 0 27)) rfl dX11_goDrawn_91 ?_
                    refine lv_bipush (v := nI 7) hx hb dX11_goDrawn_94 (by decide +kernel) ?_
                    refine lv_iadd hx hb dX11_goDrawn_96 ?_
                    refine z_any (fun v_487 => ?_)
                    refine z_callVv (k := 0) (As := [.int (x_437), .int (r_485), .int (v_487)]) (rest := []) hx hb hml hown ht (mk_X11_steal0 l D q cA F _ _ _ hu_485 (x_437) f_463 (r_485) hr_485 (v_487) nn_486) hw_6_190 hmX11_steal0 ⟨rfl, rfl⟩ (na := 3) rfl (by decide +kernel) (by decide) (by decide) rfl rfl hK hP hD hS hA hl.1 rfl (Nat.le_of_ble_eq_true rfl) ⟨Nat.zero_le _, Nat.zero_le _⟩ dX11_goDrawn_97 (fun I_488 R_488 J_488 H locs hp_488 hP hD hS _ _ => ?_)
                    obtain ⟨hv_488, hj_488, hs_488⟩ := hp_488
                    try dsimp only at hj_488
                    subst J_488
                    exact t_478 _ _ _ hv_488 _ _ hP hD hS _ (lv_sub hl [1, 2, 3, 4, 5, 6] rfl)
                  · cases hu_486
                    refine lv_if_eq (tgt := 100) hx hb dX11_goDrawn_82 (by decide) (fun _ => ?_) (fun c_0 => absurd (zD_eq zk_0 zk_z) c_0)
                    exact t_478 _ _ _ hu_485 _ _ hP hD hS _ (lv_sub hl [1, 2, 3, 4, 5, 6] rfl)
                · have t_c_483 := z_eqT c_483
                  have f_489 : zR 0 0 (R_465 1 (nI 4).toNatClampNeg) := zR_eqx t_c_483 zk_z
                  refine lv_goto (tgt := 100) hx hb dX11_goDrawn_59 (by decide) ?_
                  exact t_478 _ _ _ hu_465 _ _ hP hD hS _ (lv_sub hl [0, 1, 2, 3, 4, 5] rfl)
        exact loop_439 _ (nI 0) (zR_w zk_0 (by decide)) _ _ _ hI_353 (Nat.lt_succ_self _) _ _ hP hD hS _ (lv_sub hl [1, 2, 3, 4, 5, 0] rfl)
  exact loop_354 _ (nI 0) (nI 0) (zR_w zk_0 (by decide)) _ _ _ hI_2 (Nat.lt_succ_self _) _ _ hP hD hS _ (lv_sub hl [2, 3, 4, 1, 0] rfl)
set_option maxHeartbeats 4000000 in
set_option maxRecDepth 100000 in
theorem mk_X11_luck (l : Launch) (D : va_G) (q : Nat → Nat) (cA : Nat → ClassId) (F : Nat → Nat → Int32) (I R : Nat → Nat → Int32) (J : Nat → Nat → Int64) (hI : mInv F (I, R, J)) (pa0 : Int32) (pa1 : Int32) (pa2 : Int32) (pa3 : Int32) (pa4 : Int32) : zMi l D vwCl (zMtys cA) 25 q (zMd q cA) yX11_luck cX11_luck 8 (some .int) ({ frames := 7, cells := 0, slots := 0, locals := 182 } : Room) [.ref (q 0), .int (pa0), .int (pa1), .int (pa2), .int (pa3), .int (pa4)] (I, R, J) (fun _ u => mInv F u) := by
  intro sz
  refine z_body (by decide +kernel) (Nat.le_of_ble_eq_true rfl) (fun p e s m below meth c ls hx hb hml hr ht hown hlocks hsz hK hP hD hS hl => ?_)
  have hA : ∀ a, s.heap.size ≤ a → zA 25 q sz a := fun a h => Or.inr (hsz ▸ h)
  have hl : lv_has ls 8 [(0, .ref (q 0)), (1, .int (pa0)), (2, .int (pa1)), (3, .int (pa2)), (4, .int (pa3)), (5, .int (pa4))] := hl
  refine lv_aload_n hx hb dX11_luck_0 rfl (lv_at hl 0 rfl) ?_
  refine lv_iload_n hx hb dX11_luck_1 rfl (lv_at hl 1 rfl) ?_
  refine lv_iload_n hx hb dX11_luck_2 rfl (lv_at hl 3 rfl) ?_
  refine z_callVi (k := 0) (As := [.int (pa0), .int (pa2)]) (rest := []) hx hb hml hown ht (mk_X11_areDrawn l D q cA F _ _ _ hI (pa0) (pa2)) hw_8_108 hmX11_areDrawn ⟨rfl, rfl⟩ (na := 2) rfl (by decide +kernel) (by decide) (by decide) rfl rfl hK hP hD hS hA hl.1 rfl (Nat.le_of_ble_eq_true rfl) ⟨Nat.zero_le _, Nat.zero_le _⟩ dX11_luck_3 (fun r_1 I_1 R_1 J_1 H locs hp_1 hP hD hS _ _ => ?_)
  rcases hp_1 with ⟨rfl, hu_1, f0_1, f1_1⟩ | ⟨rfl, hu_1⟩
  · cases hu_1
    refine lv_if_eq (tgt := 41) hx hb dX11_luck_6 (by decide) (fun c_0 => absurd c_0 (zD_ne zk_1 zk_z (by decide))) (fun _ => ?_)
    refine lv_iload_n hx hb dX11_luck_9 rfl (lv_at hl 2 rfl) ?_
    refine lv_i2l (v := (pa1).toInt64) hx hb dX11_luck_10 rfl ?_
    refine lv_lconst (v := (1 : Int64)) hx hb dX11_luck_11 (by decide +kernel) ?_
    refine lv_ldc2 (v := (20 : Int64)) hx hb hown (ht _ hw_8_130) dX11_luck_12 ?_
    refine z_callSi (As := [.long ((pa1).toInt64), .long ((1 : Int64)), .long ((20 : Int64))]) (rest := []) hx hb hml hown ht (mk_X11_in l D q cA F _ _ _ hI ((pa1).toInt64) ((1 : Int64)) ((20 : Int64))) hw_6_86 hmX11_in ⟨rfl, rfl⟩ (na := 3) rfl (by decide +kernel) (by decide) hK hP hD hS hA hl.1 rfl (Nat.le_of_ble_eq_true rfl) ⟨Nat.zero_le _, Nat.zero_le _⟩ dX11_luck_15 (fun r_2 I_2 R_2 J_2 H locs hp_2 hP hD hS _ _ => ?_)
    rcases hp_2 with ⟨rfl, hu_2, h1_2, h2_2⟩ | ⟨rfl, hu_2, h1_2 | h2_2⟩
    · cases hu_2
      have f_3 : zL 1 2147483647 ((pa1).toInt64) := zL_ley h1_2 zkl_1 (zR_i2l (zR_any (pa1))) (by decide)
      have f_4 : zR 1 2147483647 (pa1) := zL_back f_3
      have f_5 : zL 1 20 ((pa1).toInt64) := zL_lex h2_2 f_3 zkl_20 (by decide)
      have f_6 : zR 1 20 (pa1) := zL_back f_5
      refine lv_if_eq (tgt := 41) hx hb dX11_luck_18 (by decide) (fun c_0 => absurd c_0 (zD_ne zk_1 zk_z (by decide))) (fun _ => ?_)
      refine lv_aload_n hx hb dX11_luck_21 rfl (lv_at hl 0 rfl) ?_
      refine lv_iload hx hb dX11_luck_22 (lv_at hl 4 rfl) ?_
      refine lv_i2l (v := (pa3).toInt64) hx hb dX11_luck_24 rfl ?_
      refine z_callVi (k := 0) (As := [.long ((pa3).toInt64)]) (rest := []) hx hb hml hown ht (mk_X11_isThing l D q cA F _ _ _ hI ((pa3).toInt64) (zR_i2l (zR_any (pa3)))) hw_6_238 hmX11_isThing ⟨rfl, rfl⟩ (na := 1) rfl (by decide +kernel) (by decide) (by decide) rfl rfl hK hP hD hS hA hl.1 rfl (Nat.le_of_ble_eq_true rfl) ⟨Nat.zero_le _, Nat.zero_le _⟩ dX11_luck_25 (fun r_7 I_7 R_7 J_7 H locs hp_7 hP hD hS _ _ => ?_)
      rcases hp_7 with ⟨rfl, hu_7, f0_7⟩ | ⟨rfl, hu_7⟩
      · cases hu_7
        have f_8 : zR 0 5 (pa3) := zL_back f0_7
        refine lv_if_eq (tgt := 41) hx hb dX11_luck_28 (by decide) (fun c_0 => absurd c_0 (zD_ne zk_1 zk_z (by decide))) (fun _ => ?_)
        refine lv_aload_n hx hb dX11_luck_31 rfl (lv_at hl 0 rfl) ?_
        refine lv_iload hx hb dX11_luck_32 (lv_at hl 5 rfl) ?_
        refine lv_i2l (v := (pa4).toInt64) hx hb dX11_luck_34 rfl ?_
        refine z_callVi (k := 0) (As := [.long ((pa4).toInt64)]) (rest := []) hx hb hml hown ht (mk_X11_isHouse l D q cA F _ _ _ hI ((pa4).toInt64) (zR_i2l (zR_any (pa4)))) hw_6_176 hmX11_isHouse ⟨rfl, rfl⟩ (na := 1) rfl (by decide +kernel) (by decide) (by decide) rfl rfl hK hP hD hS hA hl.1 rfl (Nat.le_of_ble_eq_true rfl) ⟨Nat.zero_le _, Nat.zero_le _⟩ dX11_luck_35 (fun r_9 I_9 R_9 J_9 H locs hp_9 hP hD hS _ _ => ?_)
        rcases hp_9 with ⟨rfl, hu_9, f0_9⟩ | ⟨rfl, hu_9⟩
        · cases hu_9
          have f_10 : zR 0 4 (pa4) := zL_back f0_9
          refine lv_if_ne (tgt := 44) hx hb dX11_luck_38 (by decide) (fun _ => ?_) (fun c_0 => absurd c_0 (zD_ne zk_1 zk_z (by decide)))
          refine lv_iconst (v := nI 0) hx hb dX11_luck_44 (by decide +kernel) ?_
          refine lv_istore (lv' := [(6, .int (nI 0)), (0, .ref (q 0)), (1, .int (pa0)), (2, .int (pa1)), (3, .int (pa2)), (4, .int (pa3)), (5, .int (pa4))]) hx hb dX11_luck_45 hl (by decide) rfl (fun ls hl => ?_)
          refine lv_iconst (v := nI 0) hx hb dX11_luck_47 (by decide +kernel) ?_
          refine lv_istore (lv' := [(7, .int (nI 0)), (6, .int (nI 0)), (0, .ref (q 0)), (1, .int (pa0)), (2, .int (pa1)), (3, .int (pa2)), (4, .int (pa3)), (5, .int (pa4))]) hx hb dX11_luck_48 hl (by decide) rfl (fun ls hl => ?_)
          have loop_150 : ∀ N : Nat, ∀ x_147 : Int32, ∀ x_148 : Int32, zR 0 20 x_148 → ∀ I_149 : Nat → Nat → Int32, ∀ R_149 : Nat → Nat → Int32, ∀ J_149 : Nat → Nat → Int64, mInv F (I_149, R_149, J_149) → (2147483648 - (x_148).toInt).toNat < N → ∀ (H : Heap) (locs : List Loc), va_P D vwCl (zw 25 q (zMd q cA) I_149 R_149 J_149) H → va_D (zA 25 q sz) (zw 25 q (zMd q cA) I_149 R_149 J_149) → va_S (zA 25 q sz) s.heap H locs → ∀ ls : Array Slot, lv_has ls 8 [(0, .ref (q 0)), (1, .int (pa0)), (2, .int (pa1)), (3, .int (pa2)), (4, .int (pa3)), (5, .int (pa4)), (6, .int (x_147)), (7, .int (x_148))] → W p l e ({ frames := 7, cells := 0, slots := 0, locals := 182 } : Room) s m ([.ref (q 0), .int (pa0), .int (pa1), .int (pa2), .int (pa3), .int (pa4)] : List Value).toArray below meth c H locs 0 0 (MQ below (va_Qi (fun _ u => mInv F u) (zB D vwCl 25 q (zMd q cA) sz) (zA 25 q sz)) ([.ref (q 0), .int (pa0), .int (pa1), .int (pa2), .int (pa3), .int (pa4)] : List Value).toArray s 0 0 (zA 25 q sz)) (F0 m 50 ls []) := by
            intro N
            induction N with
            | zero => intro x_147 x_148 hx_148 I_149 R_149 J_149 hI_149 hN; exact absurd hN (Nat.not_lt_zero _)
            | succ N ih_152 =>
              intro x_147 x_148 hx_148 I_149 R_149 J_149 hI_149 hN_151 H locs hP hD hS ls hl
              refine lv_iload hx hb dX11_luck_50 (lv_at hl 7 rfl) ?_
              refine lv_iload_n hx hb dX11_luck_52 rfl (lv_at hl 2 rfl) ?_
              refine lv_icmp_ge (tgt := 96) hx hb dX11_luck_53 (by decide) (fun c_153 => ?_) (fun c_153 => ?_)
              · have t_c_153 := z_leT c_153
                have f_154 : zR 1 20 (x_148) := zR_ley t_c_153 f_6 hx_148 (by decide)
                refine lv_iload hx hb dX11_luck_96 (lv_at hl 6 rfl) ?_
                exact z_iret (v := x_147) hx hb hr hlocks hP hD hS dX11_luck_98 hI_149
              · have t_c_153 := z_leF c_153
                have f_155 : zR 0 19 (x_148) := zR_ltx t_c_153 hx_148 f_6 (by decide)
                refine lv_aload_n hx hb dX11_luck_56 rfl (lv_at hl 0 rfl) ?_
                refine lv_iload_n hx hb dX11_luck_57 rfl (lv_at hl 1 rfl) ?_
                refine lv_i2l (v := (pa0).toInt64) hx hb dX11_luck_58 rfl ?_
                refine lv_iload hx hb dX11_luck_59 (lv_at hl 7 rfl) ?_
                refine lv_i2l (v := (x_148).toInt64) hx hb dX11_luck_61 rfl ?_
                refine lv_ladd hx hb dX11_luck_62 ?_
                refine z_rngL (a := 0) (b := 2000000019) (zL_add (zR_i2l f0_1) (zR_i2l f_155) (by decide)) (fun j_156 hj_156 => ?_)
                refine lv_iload_n hx hb dX11_luck_63 rfl (lv_at hl 3 rfl) ?_
                refine z_callVi (k := 0) (As := [.long (j_156), .int (pa2)]) (rest := []) hx hb hml hown ht (mk_X11_goDrawn_2 l D q cA F _ _ _ hI_149 (j_156) hj_156 (pa2) f1_1) hw_8_114 hmX11_goDrawn ⟨rfl, rfl⟩ (na := 2) rfl (by decide +kernel) (by decide) (by decide) rfl rfl hK hP hD hS hA hl.1 rfl (Nat.le_of_ble_eq_true rfl) ⟨Nat.zero_le _, Nat.zero_le _⟩ dX11_luck_64 (fun r_157 I_157 R_157 J_157 H locs hp_157 hP hD hS _ _ => ?_)
                refine lv_pop hx hb dX11_luck_67 rfl ?_
                refine lv_iload hx hb dX11_luck_68 (lv_at hl 6 rfl) ?_
                refine lv_aload_n hx hb dX11_luck_70 rfl (lv_at hl 0 rfl) ?_
                refine z_get hx hb ht hown hK hP ziX11 rfl 0 (by decide) 17 (by decide) hw_5_204 rfl (v := .ref (q 9)) rfl dX11_luck_71 ?_
                refine lv_iload hx hb dX11_luck_74 (lv_at hl 4 rfl) ?_
                refine z_iald hx hb hK hP 9 (by decide) 8 rfl rfl (zR_vin f_8 (by decide)) dX11_luck_76 ?_
                refine z_eqi (y := R_157 9 (pa3).toNatClampNeg) rfl ?_
                have f_158 : zR 0 4 (R_157 9 (pa3).toNatClampNeg) := mR hp_157 9 (pa3).toNatClampNeg
                refine lv_iload hx hb dX11_luck_77 (lv_at hl 5 rfl) ?_
                have t_161 : ∀ x_160 : Int32, zR 0 1 x_160 → ∀ (H : Heap) (locs : List Loc), va_P D vwCl (zw 25 q (zMd q cA) I_157 R_157 J_157) H → va_D (zA 25 q sz) (zw 25 q (zMd q cA) I_157 R_157 J_157) → va_S (zA 25 q sz) s.heap H locs → ∀ ls : Array Slot, lv_has ls 8 [(0, .ref (q 0)), (1, .int (pa0)), (2, .int (pa1)), (3, .int (pa2)), (4, .int (pa3)), (5, .int (pa4)), (6, .int (x_147)), (7, .int (x_148))] → W p l e ({ frames := 7, cells := 0, slots := 0, locals := 182 } : Room) s m ([.ref (q 0), .int (pa0), .int (pa1), .int (pa2), .int (pa3), .int (pa4)] : List Value).toArray below meth c H locs 0 0 (MQ below (va_Qi (fun _ u => mInv F u) (zB D vwCl 25 q (zMd q cA) sz) (zA 25 q sz)) ([.ref (q 0), .int (pa0), .int (pa1), .int (pa2), .int (pa3), .int (pa4)] : List Value).toArray s 0 0 (zA 25 q sz)) (F0 m 87 ls [.int (x_160), .int (x_147)]) := by
                  intro x_160 hx_160 H locs hP hD hS ls hl
                  refine lv_iadd hx hb dX11_luck_87 ?_
                  refine z_any (fun v_162 => ?_)
                  refine lv_istore (lv' := [(6, .int (v_162)), (0, .ref (q 0)), (1, .int (pa0)), (2, .int (pa1)), (3, .int (pa2)), (4, .int (pa3)), (5, .int (pa4)), (7, .int (x_148))]) hx hb dX11_luck_88 hl (by decide) rfl (fun ls hl => ?_)
                  obtain ⟨v_163, ev_163⟩ : ∃ y : Int32, y = x_148 + nI 1 := ⟨_, rfl⟩
                  have hv_163 : zR 1 20 v_163 := ev_163 ▸ zR_add f_155 zk_1 (by decide)
                  have mv_163 : v_163.toInt = (x_148).toInt + 1 := by rw [ev_163, zR_addE f_155 zk_1 (by decide)]; rfl
                  refine lv_iinc (v := v_163) (lv' := [(7, .int (v_163)), (6, .int (v_162)), (0, .ref (q 0)), (1, .int (pa0)), (2, .int (pa1)), (3, .int (pa2)), (4, .int (pa3)), (5, .int (pa4))]) hx hb dX11_luck_90 hl (k := 7) rfl (ev_163 ▸ rfl) (by decide) rfl (fun ls hl => ?_)
                  refine lv_goto (tgt := 50) hx hb dX11_luck_93 (by decide) ?_
                  exact ih_152 (v_162) (v_163) (zR_w hv_163 (by decide)) _ _ _ hp_157 (z2_up mv_163 (by decide) hN_151) _ _ hP hD hS _ (lv_sub hl [2, 3, 4, 5, 6, 7, 1, 0] rfl)
                refine lv_icmp_ne (tgt := 86) hx hb dX11_luck_79 (by decide) (fun c_159 => ?_) (fun c_159 => ?_)
                · have t_c_159 := z_eqF c_159
                  refine lv_iconst (v := nI 0) hx hb dX11_luck_86 (by decide +kernel) ?_
                  exact t_161 (nI 0) (zR_w zk_0 (by decide)) _ _ hP hD hS _ (lv_sub hl [0, 1, 2, 3, 4, 5, 6, 7] rfl)
                · have t_c_159 := z_eqT c_159
                  refine lv_iconst (v := nI 1) hx hb dX11_luck_82 (by decide +kernel) ?_
                  refine lv_goto (tgt := 87) hx hb dX11_luck_83 (by decide) ?_
                  exact t_161 (nI 1) (zR_w zk_1 (by decide)) _ _ hP hD hS _ (lv_sub hl [0, 1, 2, 3, 4, 5, 6, 7] rfl)
          exact loop_150 _ (nI 0) (nI 0) (zR_w zk_0 (by decide)) _ _ _ hI (Nat.lt_succ_self _) _ _ hP hD hS _ (lv_sub hl [2, 3, 4, 5, 6, 7, 1, 0] rfl)
        · cases hu_9
          refine lv_if_ne (tgt := 44) hx hb dX11_luck_38 (by decide) (fun c_0 => absurd (zD_eq zk_0 zk_z) c_0) (fun _ => ?_)
          refine lv_bipush (v := (-2)) hx hb dX11_luck_41 (by decide +kernel) ?_
          exact z_iret (v := (-2)) hx hb hr hlocks hP hD hS dX11_luck_43 hI
      · cases hu_7
        refine lv_if_eq (tgt := 41) hx hb dX11_luck_28 (by decide) (fun _ => ?_) (fun c_0 => absurd (zD_eq zk_0 zk_z) c_0)
        refine lv_bipush (v := (-2)) hx hb dX11_luck_41 (by decide +kernel) ?_
        exact z_iret (v := (-2)) hx hb hr hlocks hP hD hS dX11_luck_43 hI
    · cases hu_2
      have f_164 : zL (-2147483648) 0 ((pa1).toInt64) := zL_ltx h1_2 (zR_i2l (zR_any (pa1))) zkl_1 (by decide)
      have f_165 : zR (-2147483648) 0 (pa1) := zL_back f_164
      refine lv_if_eq (tgt := 41) hx hb dX11_luck_18 (by decide) (fun _ => ?_) (fun c_0 => absurd (zD_eq zk_0 zk_z) c_0)
      refine lv_bipush (v := (-2)) hx hb dX11_luck_41 (by decide +kernel) ?_
      exact z_iret (v := (-2)) hx hb hr hlocks hP hD hS dX11_luck_43 hI
    · cases hu_2
      have f_166 : zL 21 2147483647 ((pa1).toInt64) := zL_lty h2_2 zkl_20 (zR_i2l (zR_any (pa1))) (by decide)
      have f_167 : zR 21 2147483647 (pa1) := zL_back f_166
      refine lv_if_eq (tgt := 41) hx hb dX11_luck_18 (by decide) (fun _ => ?_) (fun c_0 => absurd (zD_eq zk_0 zk_z) c_0)
      refine lv_bipush (v := (-2)) hx hb dX11_luck_41 (by decide +kernel) ?_
      exact z_iret (v := (-2)) hx hb hr hlocks hP hD hS dX11_luck_43 hI
  · cases hu_1
    refine lv_if_eq (tgt := 41) hx hb dX11_luck_6 (by decide) (fun _ => ?_) (fun c_0 => absurd (zD_eq zk_0 zk_z) c_0)
    refine lv_bipush (v := (-2)) hx hb dX11_luck_41 (by decide +kernel) ?_
    exact z_iret (v := (-2)) hx hb hr hlocks hP hD hS dX11_luck_43 hI
set_option maxHeartbeats 4000000 in
set_option maxRecDepth 100000 in
theorem mk_X11_tell (l : Launch) (D : va_G) (q : Nat → Nat) (cA : Nat → ClassId) (F : Nat → Nat → Int32) (I R : Nat → Nat → Int32) (J : Nat → Nat → Int64) (hI : mInv F (I, R, J)) (pa0 : Int32) (hpa0 : zR 0 118 pa0) (pa1 : Int32) (ht9 : mTold pa0) : zMi l D vwCl (zMtys cA) 25 q (zMd q cA) yX11_tell cX11_tell 4 (some .int) ({ frames := 0, cells := 0, slots := 0, locals := 0 } : Room) [.ref (q 0), .int (pa0), .int (pa1)] (I, R, J) (fun _ u => ∃ w9, mInv (zr F 1 w9) u) := by
  intro sz
  refine z_body (by decide +kernel) (Nat.le_of_ble_eq_true rfl) (fun p e s m below meth c ls hx hb hml hr ht hown hlocks hsz hK hP hD hS hl => ?_)
  have hA : ∀ a, s.heap.size ≤ a → zA 25 q sz a := fun a h => Or.inr (hsz ▸ h)
  have hl : lv_has ls 4 [(0, .ref (q 0)), (1, .int (pa0)), (2, .int (pa1))] := hl
  refine lv_aload_n hx hb dX11_tell_0 rfl (lv_at hl 0 rfl) ?_
  refine z_get hx hb ht hown hK hP ziX11 rfl 0 (by decide) 1 (by decide) hw_5_188 rfl (v := .ref (q 1)) rfl dX11_tell_1 ?_
  refine lv_bipush (v := nI 6) hx hb dX11_tell_4 (by decide +kernel) ?_
  refine z_iald hx hb hK hP 1 (by decide) 0 rfl rfl (zR_vin zk_6 (by decide)) dX11_tell_6 ?_
  refine z_eqi (y := R 1 (nI 6).toNatClampNeg) rfl ?_
  have f_1 : zR 0 60 (R 1 (nI 6).toNatClampNeg) := mR hI 1 6
  refine lv_if_le (tgt := 13) hx hb dX11_tell_7 (by decide) (fun c_2 => ?_) (fun c_2 => ?_)
  · have t_c_2 := z_leT c_2
    have f_3 : zR 0 0 (R 1 (nI 6).toNatClampNeg) := zR_lex t_c_2 f_1 zk_z (by decide)
    refine lv_aload_n hx hb dX11_tell_13 rfl (lv_at hl 0 rfl) ?_
    refine z_get hx hb ht hown hK hP ziX11 rfl 0 (by decide) 1 (by decide) hw_5_188 rfl (v := .ref (q 1)) rfl dX11_tell_14 ?_
    refine lv_iload_n hx hb dX11_tell_17 rfl (lv_at hl 1 rfl) ?_
    refine z_iald hx hb hK hP 1 (by decide) 0 rfl rfl (zR_vin hpa0 (by decide)) dX11_tell_18 ?_
    refine z_eqi (y := R 1 (pa0).toNatClampNeg) rfl ?_
    refine lv_istore_n (lv' := [(3, .int (R 1 (pa0).toNatClampNeg)), (0, .ref (q 0)), (1, .int (pa0)), (2, .int (pa1))]) hx hb dX11_tell_19 rfl hl (by decide) rfl (fun ls hl => ?_)
    refine lv_aload_n hx hb dX11_tell_20 rfl (lv_at hl 1 rfl) ?_
    refine z_get hx hb ht hown hK hP ziX11 rfl 0 (by decide) 1 (by decide) hw_5_188 rfl (v := .ref (q 1)) rfl dX11_tell_21 ?_
    refine lv_iload_n hx hb dX11_tell_24 rfl (lv_at hl 2 rfl) ?_
    refine lv_iload_n hx hb dX11_tell_25 rfl (lv_at hl 3 rfl) ?_
    refine z_iast hx hb hK hP hD hS 1 (by decide) 0 (fun _ => rfl) rfl (zR_vin hpa0 (by decide)) dX11_tell_26 (fun H locs hP hD hS => ?_)
    have hI_4 := mInv_wt hI (i := pa0) (pa1) ht9
    refine lv_iload_n hx hb dX11_tell_27 rfl (lv_at hl 0 rfl) ?_
    exact z_iret (v := R 1 (pa0).toNatClampNeg) hx hb hr hlocks hP hD hS dX11_tell_28 ⟨_, hI_4⟩
  · have t_c_2 := z_leF c_2
    have f_5 : zR 1 60 (R 1 (nI 6).toNatClampNeg) := zR_lty t_c_2 zk_z f_1 (by decide)
    refine lv_bipush (v := (-5)) hx hb dX11_tell_10 (by decide +kernel) ?_
    exact z_iret (v := (-5)) hx hb hr hlocks hP hD hS dX11_tell_12 ⟨_, mInv_E hI⟩
set_option maxHeartbeats 4000000 in
set_option maxRecDepth 100000 in
theorem mk_X11_rate (l : Launch) (D : va_G) (q : Nat → Nat) (cA : Nat → ClassId) (F : Nat → Nat → Int32) (I R : Nat → Nat → Int32) (J : Nat → Nat → Int64) (hI : mInv F (I, R, J)) (pa0 : Int32) (pa1 : Int32) : zMi l D vwCl (zMtys cA) 25 q (zMd q cA) yX11_rate cX11_rate 3 (some .int) ({ frames := 2, cells := 0, slots := 0, locals := 47 } : Room) [.ref (q 0), .int (pa0), .int (pa1)] (I, R, J) (fun _ u => ∃ w9, mInv (zr F 1 w9) u) := by
  intro sz
  refine z_body (by decide +kernel) (Nat.le_of_ble_eq_true rfl) (fun p e s m below meth c ls hx hb hml hr ht hown hlocks hsz hK hP hD hS hl => ?_)
  have hA : ∀ a, s.heap.size ≤ a → zA 25 q sz a := fun a h => Or.inr (hsz ▸ h)
  have hl : lv_has ls 3 [(0, .ref (q 0)), (1, .int (pa0)), (2, .int (pa1))] := hl
  refine lv_aload_n hx hb dX11_rate_0 rfl (lv_at hl 0 rfl) ?_
  refine lv_iload_n hx hb dX11_rate_1 rfl (lv_at hl 1 rfl) ?_
  refine lv_i2l (v := (pa0).toInt64) hx hb dX11_rate_2 rfl ?_
  refine z_callVi (k := 0) (As := [.long ((pa0).toInt64)]) (rest := []) hx hb hml hown ht (mk_X11_isThing l D q cA F _ _ _ hI ((pa0).toInt64) (zR_i2l (zR_any (pa0)))) hw_6_238 hmX11_isThing ⟨rfl, rfl⟩ (na := 1) rfl (by decide +kernel) (by decide) (by decide) rfl rfl hK hP hD hS hA hl.1 rfl (Nat.le_of_ble_eq_true rfl) ⟨Nat.zero_le _, Nat.zero_le _⟩ dX11_rate_3 (fun r_1 I_1 R_1 J_1 H locs hp_1 hP hD hS _ _ => ?_)
  rcases hp_1 with ⟨rfl, hu_1, f0_1⟩ | ⟨rfl, hu_1⟩
  · cases hu_1
    have f_2 : zR 0 5 (pa0) := zL_back f0_1
    refine lv_if_eq (tgt := 37) hx hb dX11_rate_6 (by decide) (fun c_0 => absurd c_0 (zD_ne zk_1 zk_z (by decide))) (fun _ => ?_)
    refine lv_iload_n hx hb dX11_rate_9 rfl (lv_at hl 2 rfl) ?_
    refine lv_i2l (v := (pa1).toInt64) hx hb dX11_rate_10 rfl ?_
    refine lv_lconst (v := (1 : Int64)) hx hb dX11_rate_11 (by decide +kernel) ?_
    refine lv_ldc2 (v := (999 : Int64)) hx hb hown (ht _ hw_8_43) dX11_rate_12 ?_
    refine z_callSi (As := [.long ((pa1).toInt64), .long ((1 : Int64)), .long ((999 : Int64))]) (rest := []) hx hb hml hown ht (mk_X11_in l D q cA F _ _ _ hI ((pa1).toInt64) ((1 : Int64)) ((999 : Int64))) hw_6_86 hmX11_in ⟨rfl, rfl⟩ (na := 3) rfl (by decide +kernel) (by decide) hK hP hD hS hA hl.1 rfl (Nat.le_of_ble_eq_true rfl) ⟨Nat.zero_le _, Nat.zero_le _⟩ dX11_rate_15 (fun r_3 I_3 R_3 J_3 H locs hp_3 hP hD hS _ _ => ?_)
    rcases hp_3 with ⟨rfl, hu_3, h1_3, h2_3⟩ | ⟨rfl, hu_3, h1_3 | h2_3⟩
    · cases hu_3
      have f_4 : zL 1 2147483647 ((pa1).toInt64) := zL_ley h1_3 zkl_1 (zR_i2l (zR_any (pa1))) (by decide)
      have f_5 : zR 1 2147483647 (pa1) := zL_back f_4
      have f_6 : zL 1 999 ((pa1).toInt64) := zL_lex h2_3 f_4 zkl_999 (by decide)
      have f_7 : zR 1 999 (pa1) := zL_back f_6
      refine lv_if_eq (tgt := 37) hx hb dX11_rate_18 (by decide) (fun c_0 => absurd c_0 (zD_ne zk_1 zk_z (by decide))) (fun _ => ?_)
      refine lv_aload_n hx hb dX11_rate_21 rfl (lv_at hl 0 rfl) ?_
      refine lv_bipush (v := nI 17) hx hb dX11_rate_22 (by decide +kernel) ?_
      refine lv_iconst (v := nI 2) hx hb dX11_rate_24 (by decide +kernel) ?_
      refine lv_iload_n hx hb dX11_rate_25 rfl (lv_at hl 1 rfl) ?_
      refine lv_imul hx hb dX11_rate_26 ?_
      refine lv_topi (fun v_8 ev_8 => ?_)
      have hv_8 : zR 0 10 v_8 := ev_8 ▸ zR_mul zk_2 f_2 (by decide)
      refine lv_iadd hx hb dX11_rate_27 ?_
      refine z_cadd 17 27 zk_17 hv_8 (by decide) (fun v_9 hv_9 mv_9 => ?_)
      refine lv_iconst (v := nI 1) hx hb dX11_rate_28 (by decide +kernel) ?_
      refine lv_iadd hx hb dX11_rate_29 ?_
      refine z_addc 18 28 hv_9 zk_1 (by decide) (fun v_10 hv_10 mv_10 => ?_)
      refine lv_iload_n hx hb dX11_rate_30 rfl (lv_at hl 2 rfl) ?_
      refine z_callVi (k := 0) (As := [.int (v_10), .int (pa1)]) (rest := []) hx hb hml hown ht (mk_X11_tell l D q cA F _ _ _ hI (v_10) (zR_w hv_10 (by decide)) (pa1) (mTold_r f_2 ev_8 mv_9 mv_10)) hw_8_135 hmX11_tell ⟨rfl, rfl⟩ (na := 2) rfl (by decide +kernel) (by decide) (by decide) rfl rfl hK hP hD hS hA hl.1 rfl (Nat.le_of_ble_eq_true rfl) ⟨Nat.zero_le _, Nat.zero_le _⟩ dX11_rate_31 (fun r_11 I_11 R_11 J_11 H locs hp_11 hP hD hS _ _ => ?_)
      obtain ⟨w_11, hv_11⟩ := hp_11
      refine lv_goto (tgt := 39) hx hb dX11_rate_34 (by decide) ?_
      exact z_iret (v := r_11) hx hb hr hlocks hP hD hS dX11_rate_39 ⟨_, hv_11⟩
    · cases hu_3
      have f_12 : zL (-2147483648) 0 ((pa1).toInt64) := zL_ltx h1_3 (zR_i2l (zR_any (pa1))) zkl_1 (by decide)
      have f_13 : zR (-2147483648) 0 (pa1) := zL_back f_12
      refine lv_if_eq (tgt := 37) hx hb dX11_rate_18 (by decide) (fun _ => ?_) (fun c_0 => absurd (zD_eq zk_0 zk_z) c_0)
      refine lv_bipush (v := (-2)) hx hb dX11_rate_37 (by decide +kernel) ?_
      exact z_iret (v := (-2)) hx hb hr hlocks hP hD hS dX11_rate_39 ⟨_, mInv_E hI⟩
    · cases hu_3
      have f_14 : zL 1000 2147483647 ((pa1).toInt64) := zL_lty h2_3 zkl_999 (zR_i2l (zR_any (pa1))) (by decide)
      have f_15 : zR 1000 2147483647 (pa1) := zL_back f_14
      refine lv_if_eq (tgt := 37) hx hb dX11_rate_18 (by decide) (fun _ => ?_) (fun c_0 => absurd (zD_eq zk_0 zk_z) c_0)
      refine lv_bipush (v := (-2)) hx hb dX11_rate_37 (by decide +kernel) ?_
      exact z_iret (v := (-2)) hx hb hr hlocks hP hD hS dX11_rate_39 ⟨_, mInv_E hI⟩
  · cases hu_1
    refine lv_if_eq (tgt := 37) hx hb dX11_rate_6 (by decide) (fun _ => ?_) (fun c_0 => absurd (zD_eq zk_0 zk_z) c_0)
    refine lv_bipush (v := (-2)) hx hb dX11_rate_37 (by decide +kernel) ?_
    exact z_iret (v := (-2)) hx hb hr hlocks hP hD hS dX11_rate_39 ⟨_, mInv_E hI⟩
set_option maxHeartbeats 4000000 in
set_option maxRecDepth 100000 in
theorem mk_X11_want (l : Launch) (D : va_G) (q : Nat → Nat) (cA : Nat → ClassId) (F : Nat → Nat → Int32) (I R : Nat → Nat → Int32) (J : Nat → Nat → Int64) (hI : mInv F (I, R, J)) (pa0 : Int32) (pa1 : Int32) (pa2 : Int32) : zMi l D vwCl (zMtys cA) 25 q (zMd q cA) yX11_want cX11_want 4 (some .int) ({ frames := 2, cells := 0, slots := 0, locals := 47 } : Room) [.ref (q 0), .int (pa0), .int (pa1), .int (pa2)] (I, R, J) (fun _ u => ∃ w9, mInv (zr F 1 w9) u) := by
  intro sz
  refine z_body (by decide +kernel) (Nat.le_of_ble_eq_true rfl) (fun p e s m below meth c ls hx hb hml hr ht hown hlocks hsz hK hP hD hS hl => ?_)
  have hA : ∀ a, s.heap.size ≤ a → zA 25 q sz a := fun a h => Or.inr (hsz ▸ h)
  have hl : lv_has ls 4 [(0, .ref (q 0)), (1, .int (pa0)), (2, .int (pa1)), (3, .int (pa2))] := hl
  refine lv_aload_n hx hb dX11_want_0 rfl (lv_at hl 0 rfl) ?_
  refine lv_iload_n hx hb dX11_want_1 rfl (lv_at hl 1 rfl) ?_
  refine lv_i2l (v := (pa0).toInt64) hx hb dX11_want_2 rfl ?_
  refine z_callVi (k := 0) (As := [.long ((pa0).toInt64)]) (rest := []) hx hb hml hown ht (mk_X11_isHouse l D q cA F _ _ _ hI ((pa0).toInt64) (zR_i2l (zR_any (pa0)))) hw_6_176 hmX11_isHouse ⟨rfl, rfl⟩ (na := 1) rfl (by decide +kernel) (by decide) (by decide) rfl rfl hK hP hD hS hA hl.1 rfl (Nat.le_of_ble_eq_true rfl) ⟨Nat.zero_le _, Nat.zero_le _⟩ dX11_want_3 (fun r_1 I_1 R_1 J_1 H locs hp_1 hP hD hS _ _ => ?_)
  rcases hp_1 with ⟨rfl, hu_1, f0_1⟩ | ⟨rfl, hu_1⟩
  · cases hu_1
    have f_2 : zR 0 4 (pa0) := zL_back f0_1
    refine lv_if_eq (tgt := 47) hx hb dX11_want_6 (by decide) (fun c_0 => absurd c_0 (zD_ne zk_1 zk_z (by decide))) (fun _ => ?_)
    refine lv_aload_n hx hb dX11_want_9 rfl (lv_at hl 0 rfl) ?_
    refine lv_iload_n hx hb dX11_want_10 rfl (lv_at hl 2 rfl) ?_
    refine lv_i2l (v := (pa1).toInt64) hx hb dX11_want_11 rfl ?_
    refine z_callVi (k := 0) (As := [.long ((pa1).toInt64)]) (rest := []) hx hb hml hown ht (mk_X11_isThing l D q cA F _ _ _ hI ((pa1).toInt64) (zR_i2l (zR_any (pa1)))) hw_6_238 hmX11_isThing ⟨rfl, rfl⟩ (na := 1) rfl (by decide +kernel) (by decide) (by decide) rfl rfl hK hP hD hS hA hl.1 rfl (Nat.le_of_ble_eq_true rfl) ⟨Nat.zero_le _, Nat.zero_le _⟩ dX11_want_12 (fun r_3 I_3 R_3 J_3 H locs hp_3 hP hD hS _ _ => ?_)
    rcases hp_3 with ⟨rfl, hu_3, f0_3⟩ | ⟨rfl, hu_3⟩
    · cases hu_3
      have f_4 : zR 0 5 (pa1) := zL_back f0_3
      refine lv_if_eq (tgt := 47) hx hb dX11_want_15 (by decide) (fun c_0 => absurd c_0 (zD_ne zk_1 zk_z (by decide))) (fun _ => ?_)
      refine lv_iload_n hx hb dX11_want_18 rfl (lv_at hl 3 rfl) ?_
      refine lv_i2l (v := (pa2).toInt64) hx hb dX11_want_19 rfl ?_
      refine lv_lconst (v := (0 : Int64)) hx hb dX11_want_20 (by decide +kernel) ?_
      refine lv_ldc2 (v := (500 : Int64)) hx hb hown (ht _ hw_8_143) dX11_want_21 ?_
      refine z_callSi (As := [.long ((pa2).toInt64), .long ((0 : Int64)), .long ((500 : Int64))]) (rest := []) hx hb hml hown ht (mk_X11_in l D q cA F _ _ _ hI ((pa2).toInt64) ((0 : Int64)) ((500 : Int64))) hw_6_86 hmX11_in ⟨rfl, rfl⟩ (na := 3) rfl (by decide +kernel) (by decide) hK hP hD hS hA hl.1 rfl (Nat.le_of_ble_eq_true rfl) ⟨Nat.zero_le _, Nat.zero_le _⟩ dX11_want_24 (fun r_5 I_5 R_5 J_5 H locs hp_5 hP hD hS _ _ => ?_)
      rcases hp_5 with ⟨rfl, hu_5, h1_5, h2_5⟩ | ⟨rfl, hu_5, h1_5 | h2_5⟩
      · cases hu_5
        have f_6 : zL 0 2147483647 ((pa2).toInt64) := zL_ley h1_5 zkl_0 (zR_i2l (zR_any (pa2))) (by decide)
        have f_7 : zR 0 2147483647 (pa2) := zL_back f_6
        have f_8 : zL 0 500 ((pa2).toInt64) := zL_lex h2_5 f_6 zkl_500 (by decide)
        have f_9 : zR 0 500 (pa2) := zL_back f_8
        refine lv_if_eq (tgt := 47) hx hb dX11_want_27 (by decide) (fun c_0 => absurd c_0 (zD_ne zk_1 zk_z (by decide))) (fun _ => ?_)
        refine lv_aload_n hx hb dX11_want_30 rfl (lv_at hl 0 rfl) ?_
        refine lv_bipush (v := nI 29) hx hb dX11_want_31 (by decide +kernel) ?_
        refine lv_bipush (v := nI 6) hx hb dX11_want_33 (by decide +kernel) ?_
        refine lv_iload_n hx hb dX11_want_35 rfl (lv_at hl 1 rfl) ?_
        refine lv_imul hx hb dX11_want_36 ?_
        refine z_rng (a := 0) (b := 24) (zR_mul zk_6 f_2 (by decide)) (fun v_10 hv_10 => ?_)
        refine lv_iadd hx hb dX11_want_37 ?_
        refine z_cadd 29 53 zk_29 hv_10 (by decide) (fun v_11 hv_11 mv_11 => ?_)
        refine lv_iload_n hx hb dX11_want_38 rfl (lv_at hl 2 rfl) ?_
        refine lv_iadd hx hb dX11_want_39 ?_
        refine z_rng (a := 29) (b := 58) (zR_add hv_11 f_4 (by decide)) (fun v_12 hv_12 => ?_)
        refine lv_iload_n hx hb dX11_want_40 rfl (lv_at hl 3 rfl) ?_
        refine z_callVi (k := 0) (As := [.int (v_12), .int (pa2)]) (rest := []) hx hb hml hown ht (mk_X11_tell l D q cA F _ _ _ hI (v_12) (zR_w hv_12 (by decide)) (pa2) (mTold_w hv_12)) hw_8_135 hmX11_tell ⟨rfl, rfl⟩ (na := 2) rfl (by decide +kernel) (by decide) (by decide) rfl rfl hK hP hD hS hA hl.1 rfl (Nat.le_of_ble_eq_true rfl) ⟨Nat.zero_le _, Nat.zero_le _⟩ dX11_want_41 (fun r_13 I_13 R_13 J_13 H locs hp_13 hP hD hS _ _ => ?_)
        obtain ⟨w_13, hv_13⟩ := hp_13
        refine lv_goto (tgt := 49) hx hb dX11_want_44 (by decide) ?_
        exact z_iret (v := r_13) hx hb hr hlocks hP hD hS dX11_want_49 ⟨_, hv_13⟩
      · cases hu_5
        have f_14 : zL (-2147483648) (-1) ((pa2).toInt64) := zL_ltx h1_5 (zR_i2l (zR_any (pa2))) zkl_0 (by decide)
        have f_15 : zR (-2147483648) (-1) (pa2) := zL_back f_14
        refine lv_if_eq (tgt := 47) hx hb dX11_want_27 (by decide) (fun _ => ?_) (fun c_0 => absurd (zD_eq zk_0 zk_z) c_0)
        refine lv_bipush (v := (-2)) hx hb dX11_want_47 (by decide +kernel) ?_
        exact z_iret (v := (-2)) hx hb hr hlocks hP hD hS dX11_want_49 ⟨_, mInv_E hI⟩
      · cases hu_5
        have f_16 : zL 501 2147483647 ((pa2).toInt64) := zL_lty h2_5 zkl_500 (zR_i2l (zR_any (pa2))) (by decide)
        have f_17 : zR 501 2147483647 (pa2) := zL_back f_16
        refine lv_if_eq (tgt := 47) hx hb dX11_want_27 (by decide) (fun _ => ?_) (fun c_0 => absurd (zD_eq zk_0 zk_z) c_0)
        refine lv_bipush (v := (-2)) hx hb dX11_want_47 (by decide +kernel) ?_
        exact z_iret (v := (-2)) hx hb hr hlocks hP hD hS dX11_want_49 ⟨_, mInv_E hI⟩
    · cases hu_3
      refine lv_if_eq (tgt := 47) hx hb dX11_want_15 (by decide) (fun _ => ?_) (fun c_0 => absurd (zD_eq zk_0 zk_z) c_0)
      refine lv_bipush (v := (-2)) hx hb dX11_want_47 (by decide +kernel) ?_
      exact z_iret (v := (-2)) hx hb hr hlocks hP hD hS dX11_want_49 ⟨_, mInv_E hI⟩
  · cases hu_1
    refine lv_if_eq (tgt := 47) hx hb dX11_want_6 (by decide) (fun _ => ?_) (fun c_0 => absurd (zD_eq zk_0 zk_z) c_0)
    refine lv_bipush (v := (-2)) hx hb dX11_want_47 (by decide +kernel) ?_
    exact z_iret (v := (-2)) hx hb hr hlocks hP hD hS dX11_want_49 ⟨_, mInv_E hI⟩
set_option maxHeartbeats 4000000 in
set_option maxRecDepth 100000 in
theorem mk_X11_count (l : Launch) (D : va_G) (q : Nat → Nat) (cA : Nat → ClassId) (F : Nat → Nat → Int32) (I R : Nat → Nat → Int32) (J : Nat → Nat → Int64) (hI : mInv F (I, R, J)) (pa0 : Int32) : zMi l D vwCl (zMtys cA) 25 q (zMd q cA) yX11_count cX11_count 4 (some .int) ({ frames := 6, cells := 0, slots := 0, locals := 155 } : Room) [.ref (q 0), .int (pa0)] (I, R, J) (fun _ u => (mInv F u ∧ u.2.2 = J)) := by
  intro sz
  refine z_body (by decide +kernel) (Nat.le_of_ble_eq_true rfl) (fun p e s m below meth c ls hx hb hml hr ht hown hlocks hsz hK hP hD hS hl => ?_)
  have hA : ∀ a, s.heap.size ≤ a → zA 25 q sz a := fun a h => Or.inr (hsz ▸ h)
  have hl : lv_has ls 4 [(0, .ref (q 0)), (1, .int (pa0))] := hl
  refine lv_iconst (v := nI 0) hx hb dX11_count_0 (by decide +kernel) ?_
  refine lv_istore_n (lv' := [(2, .int (nI 0)), (0, .ref (q 0)), (1, .int (pa0))]) hx hb dX11_count_1 rfl hl (by decide) rfl (fun ls hl => ?_)
  refine lv_iload_n hx hb dX11_count_2 rfl (lv_at hl 2 rfl) ?_
  rcases (show ((pa0).toInt < 0 ∨ 9 < (pa0).toInt) ∨ (pa0).toInt = 0 ∨ (pa0).toInt = 1 ∨ (pa0).toInt = 2 ∨ (pa0).toInt = 3 ∨ (pa0).toInt = 4 ∨ (pa0).toInt = 5 ∨ (pa0).toInt = 6 ∨ (pa0).toInt = 7 ∨ (pa0).toInt = 8 ∨ (pa0).toInt = 9 by omega) with c_1 | k_2 | k_2 | k_2 | k_2 | k_2 | k_2 | k_2 | k_2 | k_2 | k_2
  · refine lv_tableOut (tgt := 153) hx hb dX11_count_3 c_1 (by decide) ?_
    refine lv_iconst (v := (-1)) hx hb dX11_count_153 (by decide +kernel) ?_
    exact z_iret (v := (-1)) hx hb hr hlocks hP hD hS dX11_count_154 ⟨hI, rfl⟩
  · refine lv_tableIn (off := 53) (tgt := 56) hx hb dX11_count_3 (by omega) (by omega) (by rw [k_2]; decide +kernel) (by decide) ?_
    refine lv_aload_n hx hb dX11_count_56 rfl (lv_at hl 1 rfl) ?_
    refine z_get hx hb ht hown hK hP ziX11 rfl 0 (by decide) 1 (by decide) hw_5_188 rfl (v := .ref (q 1)) rfl dX11_count_57 ?_
    refine lv_iconst (v := nI 0) hx hb dX11_count_60 (by decide +kernel) ?_
    refine z_iald hx hb hK hP 1 (by decide) 0 rfl rfl (zR_vin zk_0 (by decide)) dX11_count_61 ?_
    refine z_eqi (y := R 1 (nI 0).toNatClampNeg) rfl ?_
    exact z_iret (v := R 1 (nI 0).toNatClampNeg) hx hb hr hlocks hP hD hS dX11_count_62 ⟨hI, rfl⟩
  · refine lv_tableIn (off := 60) (tgt := 63) hx hb dX11_count_3 (by omega) (by omega) (by rw [k_2]; decide +kernel) (by decide) ?_
    refine lv_aload_n hx hb dX11_count_63 rfl (lv_at hl 1 rfl) ?_
    refine z_get hx hb ht hown hK hP ziX11 rfl 0 (by decide) 1 (by decide) hw_5_188 rfl (v := .ref (q 1)) rfl dX11_count_64 ?_
    refine lv_iconst (v := nI 1) hx hb dX11_count_67 (by decide +kernel) ?_
    refine z_iald hx hb hK hP 1 (by decide) 0 rfl rfl (zR_vin zk_1 (by decide)) dX11_count_68 ?_
    refine z_eqi (y := R 1 (nI 1).toNatClampNeg) rfl ?_
    exact z_iret (v := R 1 (nI 1).toNatClampNeg) hx hb hr hlocks hP hD hS dX11_count_69 ⟨hI, rfl⟩
  · refine lv_tableIn (off := 67) (tgt := 70) hx hb dX11_count_3 (by omega) (by omega) (by rw [k_2]; decide +kernel) (by decide) ?_
    refine lv_aload_n hx hb dX11_count_70 rfl (lv_at hl 1 rfl) ?_
    refine z_get hx hb ht hown hK hP ziX11 rfl 0 (by decide) 1 (by decide) hw_5_188 rfl (v := .ref (q 1)) rfl dX11_count_71 ?_
    refine lv_iconst (v := nI 2) hx hb dX11_count_74 (by decide +kernel) ?_
    refine z_iald hx hb hK hP 1 (by decide) 0 rfl rfl (zR_vin zk_2 (by decide)) dX11_count_75 ?_
    refine z_eqi (y := R 1 (nI 2).toNatClampNeg) rfl ?_
    exact z_iret (v := R 1 (nI 2).toNatClampNeg) hx hb hr hlocks hP hD hS dX11_count_76 ⟨hI, rfl⟩
  · refine lv_tableIn (off := 74) (tgt := 77) hx hb dX11_count_3 (by omega) (by omega) (by rw [k_2]; decide +kernel) (by decide) ?_
    refine lv_aload_n hx hb dX11_count_77 rfl (lv_at hl 1 rfl) ?_
    refine z_get hx hb ht hown hK hP ziX11 rfl 0 (by decide) 1 (by decide) hw_5_188 rfl (v := .ref (q 1)) rfl dX11_count_78 ?_
    refine lv_iconst (v := nI 3) hx hb dX11_count_81 (by decide +kernel) ?_
    refine z_iald hx hb hK hP 1 (by decide) 0 rfl rfl (zR_vin zk_3 (by decide)) dX11_count_82 ?_
    refine z_eqi (y := R 1 (nI 3).toNatClampNeg) rfl ?_
    have f_3 : zR 0 5 (R 1 (nI 3).toNatClampNeg) := mR hI 1 3
    exact z_iret (v := R 1 (nI 3).toNatClampNeg) hx hb hr hlocks hP hD hS dX11_count_83 ⟨hI, rfl⟩
  · refine lv_tableIn (off := 81) (tgt := 84) hx hb dX11_count_3 (by omega) (by omega) (by rw [k_2]; decide +kernel) (by decide) ?_
    refine lv_aload_n hx hb dX11_count_84 rfl (lv_at hl 1 rfl) ?_
    refine z_get hx hb ht hown hK hP ziX11 rfl 0 (by decide) 1 (by decide) hw_5_188 rfl (v := .ref (q 1)) rfl dX11_count_85 ?_
    refine lv_iconst (v := nI 4) hx hb dX11_count_88 (by decide +kernel) ?_
    refine z_iald hx hb hK hP 1 (by decide) 0 rfl rfl (zR_vin zk_4 (by decide)) dX11_count_89 ?_
    refine z_eqi (y := R 1 (nI 4).toNatClampNeg) rfl ?_
    have f_4 : zR 0 6 (R 1 (nI 4).toNatClampNeg) := mR hI 1 4
    exact z_iret (v := R 1 (nI 4).toNatClampNeg) hx hb hr hlocks hP hD hS dX11_count_90 ⟨hI, rfl⟩
  · refine lv_tableIn (off := 88) (tgt := 91) hx hb dX11_count_3 (by omega) (by omega) (by rw [k_2]; decide +kernel) (by decide) ?_
    refine lv_aload_n hx hb dX11_count_91 rfl (lv_at hl 1 rfl) ?_
    refine z_callVv (k := 0) (As := []) (rest := []) hx hb hml hown ht (mk_X11_asItIs l D q cA F _ _ _ hI ) hw_6_181 hmX11_asItIs ⟨rfl, rfl⟩ (na := 0) rfl (by decide +kernel) (by decide) (by decide) rfl rfl hK hP hD hS hA hl.1 rfl (Nat.le_of_ble_eq_true rfl) ⟨Nat.zero_le _, Nat.zero_le _⟩ dX11_count_92 (fun I_5 R_5 J_5 H locs hp_5 hP hD hS _ _ => ?_)
    obtain ⟨hv_5, hj_5, hs_5⟩ := hp_5
    try dsimp only at hj_5
    subst J_5
    refine lv_aload_n hx hb dX11_count_95 rfl (lv_at hl 1 rfl) ?_
    refine z_get hx hb ht hown hK hP ziX11 rfl 0 (by decide) 26 (by decide) hw_5_213 rfl (v := .int (I_5 0 26)) rfl dX11_count_96 ?_
    have f_6 : zR 0 24 (I_5 0 26) := mI hv_5 0 26
    exact z_iret (v := I_5 0 26) hx hb hr hlocks hP hD hS dX11_count_99 ⟨hv_5, rfl⟩
  · refine lv_tableIn (off := 97) (tgt := 100) hx hb dX11_count_3 (by omega) (by omega) (by rw [k_2]; decide +kernel) (by decide) ?_
    refine lv_aload_n hx hb dX11_count_100 rfl (lv_at hl 1 rfl) ?_
    refine z_get hx hb ht hown hK hP ziX11 rfl 0 (by decide) 1 (by decide) hw_5_188 rfl (v := .ref (q 1)) rfl dX11_count_101 ?_
    refine lv_bipush (v := nI 6) hx hb dX11_count_104 (by decide +kernel) ?_
    refine z_iald hx hb hK hP 1 (by decide) 0 rfl rfl (zR_vin zk_6 (by decide)) dX11_count_106 ?_
    refine z_eqi (y := R 1 (nI 6).toNatClampNeg) rfl ?_
    have f_7 : zR 0 60 (R 1 (nI 6).toNatClampNeg) := mR hI 1 6
    exact z_iret (v := R 1 (nI 6).toNatClampNeg) hx hb hr hlocks hP hD hS dX11_count_107 ⟨hI, rfl⟩
  · refine lv_tableIn (off := 105) (tgt := 108) hx hb dX11_count_3 (by omega) (by omega) (by rw [k_2]; decide +kernel) (by decide) ?_
    refine lv_aload_n hx hb dX11_count_108 rfl (lv_at hl 1 rfl) ?_
    refine z_get hx hb ht hown hK hP ziX11 rfl 0 (by decide) 1 (by decide) hw_5_188 rfl (v := .ref (q 1)) rfl dX11_count_109 ?_
    refine lv_iconst (v := nI 5) hx hb dX11_count_112 (by decide +kernel) ?_
    refine z_iald hx hb hK hP 1 (by decide) 0 rfl rfl (zR_vin zk_5 (by decide)) dX11_count_113 ?_
    refine z_eqi (y := R 1 (nI 5).toNatClampNeg) rfl ?_
    exact z_iret (v := R 1 (nI 5).toNatClampNeg) hx hb hr hlocks hP hD hS dX11_count_114 ⟨hI, rfl⟩
  · refine lv_tableIn (off := 112) (tgt := 115) hx hb dX11_count_3 (by omega) (by omega) (by rw [k_2]; decide +kernel) (by decide) ?_
    refine lv_aload_n hx hb dX11_count_115 rfl (lv_at hl 1 rfl) ?_
    refine z_get hx hb ht hown hK hP ziX11 rfl 0 (by decide) 5 (by decide) hw_5_192 rfl (v := .int (I 0 5)) rfl dX11_count_116 ?_
    have f_8 : zR 0 800 (I 0 5) := mI hI 0 5
    exact z_iret (v := I 0 5) hx hb hr hlocks hP hD hS dX11_count_119 ⟨hI, rfl⟩
  · refine lv_tableIn (off := 117) (tgt := 120) hx hb dX11_count_3 (by omega) (by omega) (by rw [k_2]; decide +kernel) (by decide) ?_
    refine lv_iconst (v := nI 0) hx hb dX11_count_120 (by decide +kernel) ?_
    refine lv_istore_n (lv' := [(3, .int (nI 0)), (2, .int (nI 0)), (0, .ref (q 0)), (1, .int (pa0))]) hx hb dX11_count_121 rfl hl (by decide) rfl (fun ls hl => ?_)
    have loop_134 : ∀ N : Nat, ∀ x_132 : Int32, ∀ x_133 : Int32, zR 0 4 x_133 → (2147483648 - (x_133).toInt).toNat < N → ∀ (H : Heap) (locs : List Loc), va_P D vwCl (zw 25 q (zMd q cA) I R J) H → va_D (zA 25 q sz) (zw 25 q (zMd q cA) I R J) → va_S (zA 25 q sz) s.heap H locs → ∀ ls : Array Slot, lv_has ls 4 [(0, .ref (q 0)), (1, .int (pa0)), (2, .int (x_132)), (3, .int (x_133))] → W p l e ({ frames := 6, cells := 0, slots := 0, locals := 155 } : Room) s m ([.ref (q 0), .int (pa0)] : List Value).toArray below meth c H locs 0 0 (MQ below (va_Qi (fun _ u => (mInv F u ∧ u.2.2 = J)) (zB D vwCl 25 q (zMd q cA) sz) (zA 25 q sz)) ([.ref (q 0), .int (pa0)] : List Value).toArray s 0 0 (zA 25 q sz)) (F0 m 122 ls []) := by
      intro N
      induction N with
      | zero => intro x_132 x_133 hx_133 hN; exact absurd hN (Nat.not_lt_zero _)
      | succ N ih_136 =>
        intro x_132 x_133 hx_133 hN_135 H locs hP hD hS ls hl
        refine lv_iload_n hx hb dX11_count_122 rfl (lv_at hl 3 rfl) ?_
        refine lv_iconst (v := nI 4) hx hb dX11_count_123 (by decide +kernel) ?_
        refine lv_icmp_ge (tgt := 151) hx hb dX11_count_124 (by decide) (fun c_137 => ?_) (fun c_137 => ?_)
        · have t_c_137 := z_leT c_137
          have f_138 : zR 4 4 (x_133) := zR_ley t_c_137 zk_4 hx_133 (by decide)
          refine lv_iload_n hx hb dX11_count_151 rfl (lv_at hl 2 rfl) ?_
          exact z_iret (v := x_132) hx hb hr hlocks hP hD hS dX11_count_152 ⟨hI, rfl⟩
        · have t_c_137 := z_leF c_137
          have f_139 : zR 0 3 (x_133) := zR_ltx t_c_137 hx_133 zk_4 (by decide)
          refine lv_iload_n hx hb dX11_count_127 rfl (lv_at hl 2 rfl) ?_
          refine lv_aload_n hx hb dX11_count_128 rfl (lv_at hl 0 rfl) ?_
          refine z_get hx hb ht hown hK hP ziX11 rfl 0 (by decide) 40 (by decide) hw_5_227 rfl (v := .ref (q 21)) rfl dX11_count_129 ?_
          refine lv_iload_n hx hb dX11_count_132 rfl (lv_at hl 3 rfl) ?_
          refine z_iald hx hb hK hP 21 (by decide) 20 rfl rfl (zR_vin f_139 (by decide)) dX11_count_133 ?_
          refine z_eqi (y := R 21 (x_133).toNatClampNeg) rfl ?_
          have f_140 : zR (-1) 60 (R 21 (x_133).toNatClampNeg) := mR hI 21 (x_133).toNatClampNeg
          refine lv_iconst (v := (-1)) hx hb dX11_count_134 (by decide +kernel) ?_
          have t_145 : ∀ x_144 : Int32, zR 0 1 x_144 → ∀ (H : Heap) (locs : List Loc), va_P D vwCl (zw 25 q (zMd q cA) I R J) H → va_D (zA 25 q sz) (zw 25 q (zMd q cA) I R J) → va_S (zA 25 q sz) s.heap H locs → ∀ ls : Array Slot, lv_has ls 4 [(0, .ref (q 0)), (1, .int (pa0)), (2, .int (x_132)), (3, .int (x_133))] → W p l e ({ frames := 6, cells := 0, slots := 0, locals := 155 } : Room) s m ([.ref (q 0), .int (pa0)] : List Value).toArray below meth c H locs 0 0 (MQ below (va_Qi (fun _ u => (mInv F u ∧ u.2.2 = J)) (zB D vwCl 25 q (zMd q cA) sz) (zA 25 q sz)) ([.ref (q 0), .int (pa0)] : List Value).toArray s 0 0 (zA 25 q sz)) (F0 m 143 ls [.int (x_144), .int (x_132)]) := by
            intro x_144 hx_144 H locs hP hD hS ls hl
            refine lv_iadd hx hb dX11_count_143 ?_
            refine z_any (fun v_146 => ?_)
            refine lv_istore_n (lv' := [(2, .int (v_146)), (0, .ref (q 0)), (1, .int (pa0)), (3, .int (x_133))]) hx hb dX11_count_144 rfl hl (by decide) rfl (fun ls hl => ?_)
            obtain ⟨v_147, ev_147⟩ : ∃ y : Int32, y = x_133 + nI 1 := ⟨_, rfl⟩
            have hv_147 : zR 1 4 v_147 := ev_147 ▸ zR_add f_139 zk_1 (by decide)
            have mv_147 : v_147.toInt = (x_133).toInt + 1 := by rw [ev_147, zR_addE f_139 zk_1 (by decide)]; rfl
            refine lv_iinc (v := v_147) (lv' := [(3, .int (v_147)), (2, .int (v_146)), (0, .ref (q 0)), (1, .int (pa0))]) hx hb dX11_count_145 hl (k := 3) rfl (ev_147 ▸ rfl) (by decide) rfl (fun ls hl => ?_)
            refine lv_goto (tgt := 122) hx hb dX11_count_148 (by decide) ?_
            exact ih_136 (v_146) (v_147) (zR_w hv_147 (by decide)) (z2_up mv_147 (by decide) hN_135) _ _ hP hD hS _ (lv_sub hl [2, 3, 1, 0] rfl)
          refine lv_icmp_ne (tgt := 142) hx hb dX11_count_135 (by decide) (fun c_141 => ?_) (fun c_141 => ?_)
          · have t_c_141 := z_eqF c_141
            have f_148 : zR 0 60 (R 21 (x_133).toNatClampNeg) := zR_nex t_c_141 f_140 zk_m1 (by decide)
            refine lv_iconst (v := nI 1) hx hb dX11_count_142 (by decide +kernel) ?_
            exact t_145 (nI 1) (zR_w zk_1 (by decide)) _ _ hP hD hS _ (lv_sub hl [0, 1, 2, 3] rfl)
          · have t_c_141 := z_eqT c_141
            have f_149 : zR (-1) (-1) (R 21 (x_133).toNatClampNeg) := zR_eqx t_c_141 zk_m1
            refine lv_iconst (v := nI 0) hx hb dX11_count_138 (by decide +kernel) ?_
            refine lv_goto (tgt := 143) hx hb dX11_count_139 (by decide) ?_
            exact t_145 (nI 0) (zR_w zk_0 (by decide)) _ _ hP hD hS _ (lv_sub hl [0, 1, 2, 3] rfl)
    exact loop_134 _ (nI 0) (nI 0) (zR_w zk_0 (by decide)) (Nat.lt_succ_self _) _ _ hP hD hS _ (lv_sub hl [2, 3, 1, 0] rfl)
set_option maxHeartbeats 4000000 in
set_option maxRecDepth 100000 in
theorem mk_X11_image (l : Launch) (D : va_G) (q : Nat → Nat) (cA : Nat → ClassId) (F : Nat → Nat → Int32) (I R : Nat → Nat → Int32) (J : Nat → Nat → Int64) (hI : mInv F (I, R, J)) (pa0 : Int32) : zMi l D vwCl (zMtys cA) 25 q (zMd q cA) yX11_image cX11_image 3 (some .int) ({ frames := 1, cells := 0, slots := 0, locals := 25 } : Room) [.ref (q 0), .int (pa0)] (I, R, J) (fun r u => ((pa0.toInt < 0 ∨ 2 < pa0.toInt) ∧ r = (-2) ∧ u = (I, R, J)) ∨ (¬ (pa0.toInt < 0 ∨ 2 < pa0.toInt) ∧ r = nI 0 ∧ mInv (mimg F pa0) u)) := by
  intro sz
  refine z_body (by decide +kernel) (Nat.le_of_ble_eq_true rfl) (fun p e s m below meth c ls hx hb hml hr ht hown hlocks hsz hK hP hD hS hl => ?_)
  have hA : ∀ a, s.heap.size ≤ a → zA 25 q sz a := fun a h => Or.inr (hsz ▸ h)
  have hl : lv_has ls 3 [(0, .ref (q 0)), (1, .int (pa0))] := hl
  refine lv_iload_n hx hb dX11_image_0 rfl (lv_at hl 1 rfl) ?_
  refine lv_i2l (v := (pa0).toInt64) hx hb dX11_image_1 rfl ?_
  refine lv_lconst (v := (0 : Int64)) hx hb dX11_image_2 (by decide +kernel) ?_
  refine lv_ldc2 (v := (2 : Int64)) hx hb hown (ht _ hw_6_85) dX11_image_3 ?_
  refine z_callSi (As := [.long ((pa0).toInt64), .long ((0 : Int64)), .long ((2 : Int64))]) (rest := []) hx hb hml hown ht (mk_X11_in l D q cA F _ _ _ hI ((pa0).toInt64) ((0 : Int64)) ((2 : Int64))) hw_6_86 hmX11_in ⟨rfl, rfl⟩ (na := 3) rfl (by decide +kernel) (by decide) hK hP hD hS hA hl.1 rfl (Nat.le_of_ble_eq_true rfl) ⟨Nat.zero_le _, Nat.zero_le _⟩ dX11_image_6 (fun r_1 I_1 R_1 J_1 H locs hp_1 hP hD hS _ _ => ?_)
  rcases hp_1 with ⟨rfl, hu_1, h1_1, h2_1⟩ | ⟨rfl, hu_1, h1_1 | h2_1⟩
  · cases hu_1
    have f_2 : zL 0 2147483647 ((pa0).toInt64) := zL_ley h1_1 zkl_0 (zR_i2l (zR_any (pa0))) (by decide)
    have f_3 : zR 0 2147483647 (pa0) := zL_back f_2
    have f_4 : zL 0 2 ((pa0).toInt64) := zL_lex h2_1 f_2 zkl_2 (by decide)
    have f_5 : zR 0 2 (pa0) := zL_back f_4
    refine lv_if_ne (tgt := 15) hx hb dX11_image_9 (by decide) (fun _ => ?_) (fun c_0 => absurd c_0 (zD_ne zk_1 zk_z (by decide)))
    obtain ⟨n_6, hn_6, rfl⟩ := z_ex (x := pa0) (N := 3) (zR_w f_5 (a' := 0) (b' := 2) (by decide)).1 (Int.lt_of_le_of_lt (zR_w f_5 (a' := 0) (b' := 2) (by decide)).2 (by decide))
    rcases (show n_6 = 0 ∨ n_6 = 1 ∨ n_6 = 2 by omega) with rfl | rfl | rfl
    · refine lv_iconst (v := nI 0) hx hb dX11_image_15 (by decide +kernel) ?_
      refine lv_istore_n (lv' := [(2, .int (nI 0)), (0, .ref (q 0)), (1, .int (nI 0))]) hx hb dX11_image_16 rfl hl (by decide) rfl (fun ls hl => ?_)
      have loopk_7 : ∀ (N k_7 : Nat), k_7 ≤ 119 → 119 < k_7 + N → ∀ (H : Heap) (locs : List Loc), va_P D vwCl (zw 25 q (zMd q cA) I (zr R 2 (va_cpy (R 1) (R 2) 0 (119 * 0) k_7)) J) H → va_D (zA 25 q sz) (zw 25 q (zMd q cA) I (zr R 2 (va_cpy (R 1) (R 2) 0 (119 * 0) k_7)) J) → va_S (zA 25 q sz) s.heap H locs → ∀ ls : Array Slot, lv_has ls 3 [(0, .ref (q 0)), (1, .int (nI 0)), (2, .int (nI k_7))] → W p l e ({ frames := 1, cells := 0, slots := 0, locals := 25 } : Room) s m ([.ref (q 0), .int ((nI 0))] : List Value).toArray below meth c H locs 0 0 (MQ below (va_Qi (fun r u => (((nI 0).toInt < 0 ∨ 2 < (nI 0).toInt) ∧ r = (-2) ∧ u = (I, R, J)) ∨ (¬ ((nI 0).toInt < 0 ∨ 2 < (nI 0).toInt) ∧ r = nI 0 ∧ mInv (mimg F (nI 0)) u)) (zB D vwCl 25 q (zMd q cA) sz) (zA 25 q sz)) ([.ref (q 0), .int ((nI 0))] : List Value).toArray s 0 0 (zA 25 q sz)) (F0 m 17 ls []) := by
        intro N
        induction N with
        | zero => intro k_7 h1 h2; exact absurd h2 (by omega)
        | succ N ihk_7 =>
          intro k_7 h1k_7 h2k_7 H locs hP hD hS ls hl
          rcases Nat.lt_or_ge k_7 119 with hkk_7 | hkk_7
          · have hnk_7 : zR 0 118 (nI k_7) := z2_nI (b := 118) (by omega) (by decide)
            refine lv_iload_n hx hb dX11_image_17 rfl (lv_at hl 2 rfl) ?_
            refine lv_bipush (v := nI 119) hx hb dX11_image_18 (by decide +kernel) ?_
            refine lv_icmp_ge (tgt := 46) hx hb dX11_image_20 (by decide) (fun c_0 => absurd c_0 (zD_nle zk_119 hnk_7 (by decide))) (fun _ => ?_)
            refine lv_aload_n hx hb dX11_image_23 rfl (lv_at hl 0 rfl) ?_
            refine z_get hx hb ht hown hK hP ziX11 rfl 0 (by decide) 2 (by decide) hw_5_189 rfl (v := .ref (q 2)) rfl dX11_image_24 ?_
            refine lv_bipush (v := nI 119) hx hb dX11_image_27 (by decide +kernel) ?_
            refine lv_iload_n hx hb dX11_image_29 rfl (lv_at hl 1 rfl) ?_
            refine lv_imul hx hb dX11_image_30 ?_
            refine z_eqi (y := nI 0) (by decide +kernel) ?_
            refine lv_iload_n hx hb dX11_image_31 rfl (lv_at hl 2 rfl) ?_
            refine lv_iadd hx hb dX11_image_32 ?_
            refine z_cadd 0 118 zk_0 hnk_7 (by decide) (fun v_8 hv_8 mv_8 => ?_)
            refine lv_aload_n hx hb dX11_image_33 rfl (lv_at hl 0 rfl) ?_
            refine z_get hx hb ht hown hK hP ziX11 rfl 0 (by decide) 1 (by decide) hw_5_188 rfl (v := .ref (q 1)) rfl dX11_image_34 ?_
            refine lv_iload_n hx hb dX11_image_37 rfl (lv_at hl 2 rfl) ?_
            refine z_iald hx hb hK hP 1 (by decide) 0 rfl rfl (zR_vin hnk_7 (by decide)) dX11_image_38 ?_
            refine z_eqi (y := (zr R 2 (va_cpy (R 1) (R 2) 0 (119 * 0) k_7)) 1 (nI k_7).toNatClampNeg) rfl ?_
            refine z_iast hx hb hK hP hD hS 2 (by decide) 1 (fun _ => rfl) rfl (zR_vin hv_8 (by decide)) dX11_image_39 (fun H locs hP hD hS => ?_)
            obtain ⟨v_9, ev_9⟩ : ∃ y : Int32, y = nI k_7 + nI 1 := ⟨_, rfl⟩
            have hv_9 : zR 1 119 v_9 := ev_9 ▸ zR_add hnk_7 zk_1 (by decide)
            have mv_9 : v_9.toInt = (nI k_7).toInt + 1 := by rw [ev_9, zR_addE hnk_7 zk_1 (by decide)]; rfl
            refine lv_iinc (v := v_9) (lv' := [(2, .int (v_9)), (0, .ref (q 0)), (1, .int (nI 0))]) hx hb dX11_image_40 hl (k := 2) rfl (ev_9 ▸ rfl) (by decide) rfl (fun ls hl => ?_)
            refine lv_goto (tgt := 17) hx hb dX11_image_43 (by decide) ?_
            have ev_99 : v_9 = nI (k_7 + 1) := ev_9.trans (nI_add k_7 1)
            rw [ev_99] at hl
            have er : (zp (zr R 2 (va_cpy (R 1) (R 2) 0 (119 * 0) k_7)) 2 (v_8).toNatClampNeg ((zr R 2 (va_cpy (R 1) (R 2) 0 (119 * 0) k_7)) 1 (nI k_7).toNatClampNeg)) = (zr R 2 (va_cpy (R 1) (R 2) 0 (119 * 0) (k_7 + 1))) := m_cpy_s (m_nat (by have := mv_8; rw [nI_toInt (by omega)] at this; omega)) (show R 1 (nI k_7).toNatClampNeg = R 1 (0 + k_7) from by rw [nI_clamp (by omega), Nat.zero_add])
            rw [er] at hP hD
            exact ihk_7 (k_7 + 1) (by omega) (by omega) _ _ hP hD hS _ (lv_sub hl [1, 2, 0] rfl)
          · obtain rfl : k_7 = 119 := by omega
            have hI_10 := mInv_img hI 0 (by decide)
            refine lv_iload_n hx hb dX11_image_17 rfl (lv_at hl 2 rfl) ?_
            refine lv_bipush (v := nI 119) hx hb dX11_image_18 (by decide +kernel) ?_
            refine lv_icmp_ge (tgt := 46) hx hb dX11_image_20 (by decide) (fun _ => ?_) (fun c_0 => absurd (zD_le zk_119 zk_119 (by decide)) c_0)
            refine lv_aload_n hx hb dX11_image_46 rfl (lv_at hl 0 rfl) ?_
            refine z_get hx hb ht hown hK hP ziX11 rfl 0 (by decide) 3 (by decide) hw_5_190 rfl (v := .ref (q 3)) rfl dX11_image_47 ?_
            refine lv_iload_n hx hb dX11_image_50 rfl (lv_at hl 1 rfl) ?_
            refine lv_iconst (v := nI 1) hx hb dX11_image_51 (by decide +kernel) ?_
            refine z_zast hx hb hK hP hD hS 3 (by decide) 2 (fun _ => rfl) rfl (zR_vin zk_0 (by decide)) dX11_image_52 (fun H locs hP hD hS => ?_)
            have hI_11 := mInv_F hI_10 3 (nI 0).toNatClampNeg (vp_nar .boolean (nI 1)) (show zR 0 1 (vp_nar .boolean (nI 1)) from zR_w (show zR 1 1 (vp_nar .boolean (nI 1)) from ⟨by decide +kernel, by decide +kernel⟩) (by decide)) (by decide)
            refine lv_iconst (v := nI 0) hx hb dX11_image_53 (by decide +kernel) ?_
            exact z_iret (v := nI 0) hx hb hr hlocks hP hD hS dX11_image_54 (Or.inr ⟨(by obtain ⟨_, _⟩ := zk_0; omega), rfl, hI_11⟩)
      exact loopk_7 120 0 (by omega) (by omega) _ _ (by rw [m_cpy_0]; exact hP) (by rw [m_cpy_0]; exact hD) hS _ (lv_sub hl [1, 2, 0] rfl)
    · refine lv_iconst (v := nI 0) hx hb dX11_image_15 (by decide +kernel) ?_
      refine lv_istore_n (lv' := [(2, .int (nI 0)), (0, .ref (q 0)), (1, .int (nI 1))]) hx hb dX11_image_16 rfl hl (by decide) rfl (fun ls hl => ?_)
      have loopk_12 : ∀ (N k_12 : Nat), k_12 ≤ 119 → 119 < k_12 + N → ∀ (H : Heap) (locs : List Loc), va_P D vwCl (zw 25 q (zMd q cA) I (zr R 2 (va_cpy (R 1) (R 2) 0 (119 * 1) k_12)) J) H → va_D (zA 25 q sz) (zw 25 q (zMd q cA) I (zr R 2 (va_cpy (R 1) (R 2) 0 (119 * 1) k_12)) J) → va_S (zA 25 q sz) s.heap H locs → ∀ ls : Array Slot, lv_has ls 3 [(0, .ref (q 0)), (1, .int (nI 1)), (2, .int (nI k_12))] → W p l e ({ frames := 1, cells := 0, slots := 0, locals := 25 } : Room) s m ([.ref (q 0), .int ((nI 1))] : List Value).toArray below meth c H locs 0 0 (MQ below (va_Qi (fun r u => (((nI 1).toInt < 0 ∨ 2 < (nI 1).toInt) ∧ r = (-2) ∧ u = (I, R, J)) ∨ (¬ ((nI 1).toInt < 0 ∨ 2 < (nI 1).toInt) ∧ r = nI 0 ∧ mInv (mimg F (nI 1)) u)) (zB D vwCl 25 q (zMd q cA) sz) (zA 25 q sz)) ([.ref (q 0), .int ((nI 1))] : List Value).toArray s 0 0 (zA 25 q sz)) (F0 m 17 ls []) := by
        intro N
        induction N with
        | zero => intro k_12 h1 h2; exact absurd h2 (by omega)
        | succ N ihk_12 =>
          intro k_12 h1k_12 h2k_12 H locs hP hD hS ls hl
          rcases Nat.lt_or_ge k_12 119 with hkk_12 | hkk_12
          · have hnk_12 : zR 0 118 (nI k_12) := z2_nI (b := 118) (by omega) (by decide)
            refine lv_iload_n hx hb dX11_image_17 rfl (lv_at hl 2 rfl) ?_
            refine lv_bipush (v := nI 119) hx hb dX11_image_18 (by decide +kernel) ?_
            refine lv_icmp_ge (tgt := 46) hx hb dX11_image_20 (by decide) (fun c_0 => absurd c_0 (zD_nle zk_119 hnk_12 (by decide))) (fun _ => ?_)
            refine lv_aload_n hx hb dX11_image_23 rfl (lv_at hl 0 rfl) ?_
            refine z_get hx hb ht hown hK hP ziX11 rfl 0 (by decide) 2 (by decide) hw_5_189 rfl (v := .ref (q 2)) rfl dX11_image_24 ?_
            refine lv_bipush (v := nI 119) hx hb dX11_image_27 (by decide +kernel) ?_
            refine lv_iload_n hx hb dX11_image_29 rfl (lv_at hl 1 rfl) ?_
            refine lv_imul hx hb dX11_image_30 ?_
            refine z_eqi (y := nI 119) (by decide +kernel) ?_
            refine lv_iload_n hx hb dX11_image_31 rfl (lv_at hl 2 rfl) ?_
            refine lv_iadd hx hb dX11_image_32 ?_
            refine z_cadd 119 237 zk_119 hnk_12 (by decide) (fun v_13 hv_13 mv_13 => ?_)
            refine lv_aload_n hx hb dX11_image_33 rfl (lv_at hl 0 rfl) ?_
            refine z_get hx hb ht hown hK hP ziX11 rfl 0 (by decide) 1 (by decide) hw_5_188 rfl (v := .ref (q 1)) rfl dX11_image_34 ?_
            refine lv_iload_n hx hb dX11_image_37 rfl (lv_at hl 2 rfl) ?_
            refine z_iald hx hb hK hP 1 (by decide) 0 rfl rfl (zR_vin hnk_12 (by decide)) dX11_image_38 ?_
            refine z_eqi (y := (zr R 2 (va_cpy (R 1) (R 2) 0 (119 * 1) k_12)) 1 (nI k_12).toNatClampNeg) rfl ?_
            refine z_iast hx hb hK hP hD hS 2 (by decide) 1 (fun _ => rfl) rfl (zR_vin hv_13 (by decide)) dX11_image_39 (fun H locs hP hD hS => ?_)
            obtain ⟨v_14, ev_14⟩ : ∃ y : Int32, y = nI k_12 + nI 1 := ⟨_, rfl⟩
            have hv_14 : zR 1 119 v_14 := ev_14 ▸ zR_add hnk_12 zk_1 (by decide)
            have mv_14 : v_14.toInt = (nI k_12).toInt + 1 := by rw [ev_14, zR_addE hnk_12 zk_1 (by decide)]; rfl
            refine lv_iinc (v := v_14) (lv' := [(2, .int (v_14)), (0, .ref (q 0)), (1, .int (nI 1))]) hx hb dX11_image_40 hl (k := 2) rfl (ev_14 ▸ rfl) (by decide) rfl (fun ls hl => ?_)
            refine lv_goto (tgt := 17) hx hb dX11_image_43 (by decide) ?_
            have ev_149 : v_14 = nI (k_12 + 1) := ev_14.trans (nI_add k_12 1)
            rw [ev_149] at hl
            have er : (zp (zr R 2 (va_cpy (R 1) (R 2) 0 (119 * 1) k_12)) 2 (v_13).toNatClampNeg ((zr R 2 (va_cpy (R 1) (R 2) 0 (119 * 1) k_12)) 1 (nI k_12).toNatClampNeg)) = (zr R 2 (va_cpy (R 1) (R 2) 0 (119 * 1) (k_12 + 1))) := m_cpy_s (m_nat (by have := mv_13; rw [nI_toInt (by omega)] at this; omega)) (show R 1 (nI k_12).toNatClampNeg = R 1 (0 + k_12) from by rw [nI_clamp (by omega), Nat.zero_add])
            rw [er] at hP hD
            exact ihk_12 (k_12 + 1) (by omega) (by omega) _ _ hP hD hS _ (lv_sub hl [1, 2, 0] rfl)
          · obtain rfl : k_12 = 119 := by omega
            have hI_15 := mInv_img hI 1 (by decide)
            refine lv_iload_n hx hb dX11_image_17 rfl (lv_at hl 2 rfl) ?_
            refine lv_bipush (v := nI 119) hx hb dX11_image_18 (by decide +kernel) ?_
            refine lv_icmp_ge (tgt := 46) hx hb dX11_image_20 (by decide) (fun _ => ?_) (fun c_0 => absurd (zD_le zk_119 zk_119 (by decide)) c_0)
            refine lv_aload_n hx hb dX11_image_46 rfl (lv_at hl 0 rfl) ?_
            refine z_get hx hb ht hown hK hP ziX11 rfl 0 (by decide) 3 (by decide) hw_5_190 rfl (v := .ref (q 3)) rfl dX11_image_47 ?_
            refine lv_iload_n hx hb dX11_image_50 rfl (lv_at hl 1 rfl) ?_
            refine lv_iconst (v := nI 1) hx hb dX11_image_51 (by decide +kernel) ?_
            refine z_zast hx hb hK hP hD hS 3 (by decide) 2 (fun _ => rfl) rfl (zR_vin zk_1 (by decide)) dX11_image_52 (fun H locs hP hD hS => ?_)
            have hI_16 := mInv_F hI_15 3 (nI 1).toNatClampNeg (vp_nar .boolean (nI 1)) (show zR 0 1 (vp_nar .boolean (nI 1)) from zR_w (show zR 1 1 (vp_nar .boolean (nI 1)) from ⟨by decide +kernel, by decide +kernel⟩) (by decide)) (by decide)
            refine lv_iconst (v := nI 0) hx hb dX11_image_53 (by decide +kernel) ?_
            exact z_iret (v := nI 0) hx hb hr hlocks hP hD hS dX11_image_54 (Or.inr ⟨(by obtain ⟨_, _⟩ := zk_1; omega), rfl, hI_16⟩)
      exact loopk_12 120 0 (by omega) (by omega) _ _ (by rw [m_cpy_0]; exact hP) (by rw [m_cpy_0]; exact hD) hS _ (lv_sub hl [1, 2, 0] rfl)
    · refine lv_iconst (v := nI 0) hx hb dX11_image_15 (by decide +kernel) ?_
      refine lv_istore_n (lv' := [(2, .int (nI 0)), (0, .ref (q 0)), (1, .int (nI 2))]) hx hb dX11_image_16 rfl hl (by decide) rfl (fun ls hl => ?_)
      have loopk_17 : ∀ (N k_17 : Nat), k_17 ≤ 119 → 119 < k_17 + N → ∀ (H : Heap) (locs : List Loc), va_P D vwCl (zw 25 q (zMd q cA) I (zr R 2 (va_cpy (R 1) (R 2) 0 (119 * 2) k_17)) J) H → va_D (zA 25 q sz) (zw 25 q (zMd q cA) I (zr R 2 (va_cpy (R 1) (R 2) 0 (119 * 2) k_17)) J) → va_S (zA 25 q sz) s.heap H locs → ∀ ls : Array Slot, lv_has ls 3 [(0, .ref (q 0)), (1, .int (nI 2)), (2, .int (nI k_17))] → W p l e ({ frames := 1, cells := 0, slots := 0, locals := 25 } : Room) s m ([.ref (q 0), .int ((nI 2))] : List Value).toArray below meth c H locs 0 0 (MQ below (va_Qi (fun r u => (((nI 2).toInt < 0 ∨ 2 < (nI 2).toInt) ∧ r = (-2) ∧ u = (I, R, J)) ∨ (¬ ((nI 2).toInt < 0 ∨ 2 < (nI 2).toInt) ∧ r = nI 0 ∧ mInv (mimg F (nI 2)) u)) (zB D vwCl 25 q (zMd q cA) sz) (zA 25 q sz)) ([.ref (q 0), .int ((nI 2))] : List Value).toArray s 0 0 (zA 25 q sz)) (F0 m 17 ls []) := by
        intro N
        induction N with
        | zero => intro k_17 h1 h2; exact absurd h2 (by omega)
        | succ N ihk_17 =>
          intro k_17 h1k_17 h2k_17 H locs hP hD hS ls hl
          rcases Nat.lt_or_ge k_17 119 with hkk_17 | hkk_17
          · have hnk_17 : zR 0 118 (nI k_17) := z2_nI (b := 118) (by omega) (by decide)
            refine lv_iload_n hx hb dX11_image_17 rfl (lv_at hl 2 rfl) ?_
            refine lv_bipush (v := nI 119) hx hb dX11_image_18 (by decide +kernel) ?_
            refine lv_icmp_ge (tgt := 46) hx hb dX11_image_20 (by decide) (fun c_0 => absurd c_0 (zD_nle zk_119 hnk_17 (by decide))) (fun _ => ?_)
            refine lv_aload_n hx hb dX11_image_23 rfl (lv_at hl 0 rfl) ?_
            refine z_get hx hb ht hown hK hP ziX11 rfl 0 (by decide) 2 (by decide) hw_5_189 rfl (v := .ref (q 2)) rfl dX11_image_24 ?_
            refine lv_bipush (v := nI 119) hx hb dX11_image_27 (by decide +kernel) ?_
            refine lv_iload_n hx hb dX11_image_29 rfl (lv_at hl 1 rfl) ?_
            refine lv_imul hx hb dX11_image_30 ?_
            refine z_eqi (y := nI 238) (by decide +kernel) ?_
            refine lv_iload_n hx hb dX11_image_31 rfl (lv_at hl 2 rfl) ?_
            refine lv_iadd hx hb dX11_image_32 ?_
            refine z_cadd 238 356 zk_238 hnk_17 (by decide) (fun v_18 hv_18 mv_18 => ?_)
            refine lv_aload_n hx hb dX11_image_33 rfl (lv_at hl 0 rfl) ?_
            refine z_get hx hb ht hown hK hP ziX11 rfl 0 (by decide) 1 (by decide) hw_5_188 rfl (v := .ref (q 1)) rfl dX11_image_34 ?_
            refine lv_iload_n hx hb dX11_image_37 rfl (lv_at hl 2 rfl) ?_
            refine z_iald hx hb hK hP 1 (by decide) 0 rfl rfl (zR_vin hnk_17 (by decide)) dX11_image_38 ?_
            refine z_eqi (y := (zr R 2 (va_cpy (R 1) (R 2) 0 (119 * 2) k_17)) 1 (nI k_17).toNatClampNeg) rfl ?_
            refine z_iast hx hb hK hP hD hS 2 (by decide) 1 (fun _ => rfl) rfl (zR_vin hv_18 (by decide)) dX11_image_39 (fun H locs hP hD hS => ?_)
            obtain ⟨v_19, ev_19⟩ : ∃ y : Int32, y = nI k_17 + nI 1 := ⟨_, rfl⟩
            have hv_19 : zR 1 119 v_19 := ev_19 ▸ zR_add hnk_17 zk_1 (by decide)
            have mv_19 : v_19.toInt = (nI k_17).toInt + 1 := by rw [ev_19, zR_addE hnk_17 zk_1 (by decide)]; rfl
            refine lv_iinc (v := v_19) (lv' := [(2, .int (v_19)), (0, .ref (q 0)), (1, .int (nI 2))]) hx hb dX11_image_40 hl (k := 2) rfl (ev_19 ▸ rfl) (by decide) rfl (fun ls hl => ?_)
            refine lv_goto (tgt := 17) hx hb dX11_image_43 (by decide) ?_
            have ev_199 : v_19 = nI (k_17 + 1) := ev_19.trans (nI_add k_17 1)
            rw [ev_199] at hl
            have er : (zp (zr R 2 (va_cpy (R 1) (R 2) 0 (119 * 2) k_17)) 2 (v_18).toNatClampNeg ((zr R 2 (va_cpy (R 1) (R 2) 0 (119 * 2) k_17)) 1 (nI k_17).toNatClampNeg)) = (zr R 2 (va_cpy (R 1) (R 2) 0 (119 * 2) (k_17 + 1))) := m_cpy_s (m_nat (by have := mv_18; rw [nI_toInt (by omega)] at this; omega)) (show R 1 (nI k_17).toNatClampNeg = R 1 (0 + k_17) from by rw [nI_clamp (by omega), Nat.zero_add])
            rw [er] at hP hD
            exact ihk_17 (k_17 + 1) (by omega) (by omega) _ _ hP hD hS _ (lv_sub hl [1, 2, 0] rfl)
          · obtain rfl : k_17 = 119 := by omega
            have hI_20 := mInv_img hI 2 (by decide)
            refine lv_iload_n hx hb dX11_image_17 rfl (lv_at hl 2 rfl) ?_
            refine lv_bipush (v := nI 119) hx hb dX11_image_18 (by decide +kernel) ?_
            refine lv_icmp_ge (tgt := 46) hx hb dX11_image_20 (by decide) (fun _ => ?_) (fun c_0 => absurd (zD_le zk_119 zk_119 (by decide)) c_0)
            refine lv_aload_n hx hb dX11_image_46 rfl (lv_at hl 0 rfl) ?_
            refine z_get hx hb ht hown hK hP ziX11 rfl 0 (by decide) 3 (by decide) hw_5_190 rfl (v := .ref (q 3)) rfl dX11_image_47 ?_
            refine lv_iload_n hx hb dX11_image_50 rfl (lv_at hl 1 rfl) ?_
            refine lv_iconst (v := nI 1) hx hb dX11_image_51 (by decide +kernel) ?_
            refine z_zast hx hb hK hP hD hS 3 (by decide) 2 (fun _ => rfl) rfl (zR_vin zk_2 (by decide)) dX11_image_52 (fun H locs hP hD hS => ?_)
            have hI_21 := mInv_F hI_20 3 (nI 2).toNatClampNeg (vp_nar .boolean (nI 1)) (show zR 0 1 (vp_nar .boolean (nI 1)) from zR_w (show zR 1 1 (vp_nar .boolean (nI 1)) from ⟨by decide +kernel, by decide +kernel⟩) (by decide)) (by decide)
            refine lv_iconst (v := nI 0) hx hb dX11_image_53 (by decide +kernel) ?_
            exact z_iret (v := nI 0) hx hb hr hlocks hP hD hS dX11_image_54 (Or.inr ⟨(by obtain ⟨_, _⟩ := zk_2; omega), rfl, hI_21⟩)
      exact loopk_17 120 0 (by omega) (by omega) _ _ (by rw [m_cpy_0]; exact hP) (by rw [m_cpy_0]; exact hD) hS _ (lv_sub hl [1, 2, 0] rfl)
  · cases hu_1
    have f_22 : zL (-2147483648) (-1) ((pa0).toInt64) := zL_ltx h1_1 (zR_i2l (zR_any (pa0))) zkl_0 (by decide)
    have f_23 : zR (-2147483648) (-1) (pa0) := zL_back f_22
    refine lv_if_ne (tgt := 15) hx hb dX11_image_9 (by decide) (fun c_0 => absurd (zD_eq zk_0 zk_z) c_0) (fun _ => ?_)
    refine lv_bipush (v := (-2)) hx hb dX11_image_12 (by decide +kernel) ?_
    exact z_iret (v := (-2)) hx hb hr hlocks hP hD hS dX11_image_14 (Or.inl ⟨(by obtain ⟨_, _⟩ := f_23; omega), rfl, rfl⟩)
  · cases hu_1
    have f_24 : zL 3 2147483647 ((pa0).toInt64) := zL_lty h2_1 zkl_2 (zR_i2l (zR_any (pa0))) (by decide)
    have f_25 : zR 3 2147483647 (pa0) := zL_back f_24
    refine lv_if_ne (tgt := 15) hx hb dX11_image_9 (by decide) (fun c_0 => absurd (zD_eq zk_0 zk_z) c_0) (fun _ => ?_)
    refine lv_bipush (v := (-2)) hx hb dX11_image_12 (by decide +kernel) ?_
    exact z_iret (v := (-2)) hx hb hr hlocks hP hD hS dX11_image_14 (Or.inl ⟨(by obtain ⟨_, _⟩ := f_25; omega), rfl, rfl⟩)
set_option maxHeartbeats 4000000 in
set_option maxRecDepth 100000 in
theorem mk_X11_back (l : Launch) (D : va_G) (q : Nat → Nat) (cA : Nat → ClassId) (F : Nat → Nat → Int32) (I R : Nat → Nat → Int32) (J : Nat → Nat → Int64) (hI : mInv F (I, R, J)) (pa0 : Int32) : zMi l D vwCl (zMtys cA) 25 q (zMd q cA) yX11_back cX11_back 3 (some .int) ({ frames := 1, cells := 0, slots := 0, locals := 25 } : Room) [.ref (q 0), .int (pa0)] (I, R, J) (fun r u => ((pa0.toInt < 0 ∨ 2 < pa0.toInt) ∧ r = (-2) ∧ u = (I, R, J)) ∨ (¬ (pa0.toInt < 0 ∨ 2 < pa0.toInt) ∧ mkept F pa0 = nI 0 ∧ r = (-6) ∧ u = (I, R, J)) ∨ (¬ (pa0.toInt < 0 ∨ 2 < pa0.toInt) ∧ mkept F pa0 ≠ nI 0 ∧ r = nI 0 ∧ ∃ w9, mInv (zr F 1 w9) u)) := by
  intro sz
  refine z_body (by decide +kernel) (Nat.le_of_ble_eq_true rfl) (fun p e s m below meth c ls hx hb hml hr ht hown hlocks hsz hK hP hD hS hl => ?_)
  have hA : ∀ a, s.heap.size ≤ a → zA 25 q sz a := fun a h => Or.inr (hsz ▸ h)
  have hl : lv_has ls 3 [(0, .ref (q 0)), (1, .int (pa0))] := hl
  refine lv_iload_n hx hb dX11_back_0 rfl (lv_at hl 1 rfl) ?_
  refine lv_i2l (v := (pa0).toInt64) hx hb dX11_back_1 rfl ?_
  refine lv_lconst (v := (0 : Int64)) hx hb dX11_back_2 (by decide +kernel) ?_
  refine lv_ldc2 (v := (2 : Int64)) hx hb hown (ht _ hw_6_85) dX11_back_3 ?_
  refine z_callSi (As := [.long ((pa0).toInt64), .long ((0 : Int64)), .long ((2 : Int64))]) (rest := []) hx hb hml hown ht (mk_X11_in l D q cA F _ _ _ hI ((pa0).toInt64) ((0 : Int64)) ((2 : Int64))) hw_6_86 hmX11_in ⟨rfl, rfl⟩ (na := 3) rfl (by decide +kernel) (by decide) hK hP hD hS hA hl.1 rfl (Nat.le_of_ble_eq_true rfl) ⟨Nat.zero_le _, Nat.zero_le _⟩ dX11_back_6 (fun r_1 I_1 R_1 J_1 H locs hp_1 hP hD hS _ _ => ?_)
  rcases hp_1 with ⟨rfl, hu_1, h1_1, h2_1⟩ | ⟨rfl, hu_1, h1_1 | h2_1⟩
  · cases hu_1
    have f_2 : zL 0 2147483647 ((pa0).toInt64) := zL_ley h1_1 zkl_0 (zR_i2l (zR_any (pa0))) (by decide)
    have f_3 : zR 0 2147483647 (pa0) := zL_back f_2
    have f_4 : zL 0 2 ((pa0).toInt64) := zL_lex h2_1 f_2 zkl_2 (by decide)
    have f_5 : zR 0 2 (pa0) := zL_back f_4
    refine lv_if_ne (tgt := 15) hx hb dX11_back_9 (by decide) (fun _ => ?_) (fun c_0 => absurd c_0 (zD_ne zk_1 zk_z (by decide)))
    obtain ⟨n_6, hn_6, rfl⟩ := z_ex (x := pa0) (N := 3) (zR_w f_5 (a' := 0) (b' := 2) (by decide)).1 (Int.lt_of_le_of_lt (zR_w f_5 (a' := 0) (b' := 2) (by decide)).2 (by decide))
    rcases (show n_6 = 0 ∨ n_6 = 1 ∨ n_6 = 2 by omega) with rfl | rfl | rfl
    · refine lv_aload_n hx hb dX11_back_15 rfl (lv_at hl 0 rfl) ?_
      refine z_get hx hb ht hown hK hP ziX11 rfl 0 (by decide) 3 (by decide) hw_5_190 rfl (v := .ref (q 3)) rfl dX11_back_16 ?_
      refine lv_iload_n hx hb dX11_back_19 rfl (lv_at hl 1 rfl) ?_
      refine z_zald hx hb hK hP 3 (by decide) 2 rfl rfl (zR_vin zk_0 (by decide)) dX11_back_20 ?_
      refine z_eqi (y := R 3 (nI 0).toNatClampNeg) rfl ?_
      have f_7 : zR 0 1 (R 3 (nI 0).toNatClampNeg) := mR hI 3 (nI 0).toNatClampNeg
      refine lv_if_ne (tgt := 27) hx hb dX11_back_21 (by decide) (fun c_8 => ?_) (fun c_8 => ?_)
      · have t_c_8 := z_eqF c_8
        have f_9 : zR 1 1 (R 3 (nI 0).toNatClampNeg) := zR_nex t_c_8 f_7 zk_z (by decide)
        refine lv_iconst (v := nI 0) hx hb dX11_back_27 (by decide +kernel) ?_
        refine lv_istore_n (lv' := [(2, .int (nI 0)), (0, .ref (q 0)), (1, .int (nI 0))]) hx hb dX11_back_28 rfl hl (by decide) rfl (fun ls hl => ?_)
        have loopk_10 : ∀ (N k_10 : Nat), k_10 ≤ 119 → 119 < k_10 + N → ∀ (H : Heap) (locs : List Loc), va_P D vwCl (zw 25 q (zMd q cA) I (zr R 1 (va_cpy (R 2) (R 1) (119 * 0) 0 k_10)) J) H → va_D (zA 25 q sz) (zw 25 q (zMd q cA) I (zr R 1 (va_cpy (R 2) (R 1) (119 * 0) 0 k_10)) J) → va_S (zA 25 q sz) s.heap H locs → ∀ ls : Array Slot, lv_has ls 3 [(0, .ref (q 0)), (1, .int (nI 0)), (2, .int (nI k_10))] → W p l e ({ frames := 1, cells := 0, slots := 0, locals := 25 } : Room) s m ([.ref (q 0), .int ((nI 0))] : List Value).toArray below meth c H locs 0 0 (MQ below (va_Qi (fun r u => (((nI 0).toInt < 0 ∨ 2 < (nI 0).toInt) ∧ r = (-2) ∧ u = (I, R, J)) ∨ (¬ ((nI 0).toInt < 0 ∨ 2 < (nI 0).toInt) ∧ mkept F (nI 0) = nI 0 ∧ r = (-6) ∧ u = (I, R, J)) ∨ (¬ ((nI 0).toInt < 0 ∨ 2 < (nI 0).toInt) ∧ mkept F (nI 0) ≠ nI 0 ∧ r = nI 0 ∧ ∃ w9, mInv (zr F 1 w9) u)) (zB D vwCl 25 q (zMd q cA) sz) (zA 25 q sz)) ([.ref (q 0), .int ((nI 0))] : List Value).toArray s 0 0 (zA 25 q sz)) (F0 m 29 ls []) := by
          intro N
          induction N with
          | zero => intro k_10 h1 h2; exact absurd h2 (by omega)
          | succ N ihk_10 =>
            intro k_10 h1k_10 h2k_10 H locs hP hD hS ls hl
            rcases Nat.lt_or_ge k_10 119 with hkk_10 | hkk_10
            · have hnk_10 : zR 0 118 (nI k_10) := z2_nI (b := 118) (by omega) (by decide)
              refine lv_iload_n hx hb dX11_back_29 rfl (lv_at hl 2 rfl) ?_
              refine lv_bipush (v := nI 119) hx hb dX11_back_30 (by decide +kernel) ?_
              refine lv_icmp_ge (tgt := 58) hx hb dX11_back_32 (by decide) (fun c_0 => absurd c_0 (zD_nle zk_119 hnk_10 (by decide))) (fun _ => ?_)
              refine lv_aload_n hx hb dX11_back_35 rfl (lv_at hl 0 rfl) ?_
              refine z_get hx hb ht hown hK hP ziX11 rfl 0 (by decide) 1 (by decide) hw_5_188 rfl (v := .ref (q 1)) rfl dX11_back_36 ?_
              refine lv_iload_n hx hb dX11_back_39 rfl (lv_at hl 2 rfl) ?_
              refine lv_aload_n hx hb dX11_back_40 rfl (lv_at hl 0 rfl) ?_
              refine z_get hx hb ht hown hK hP ziX11 rfl 0 (by decide) 2 (by decide) hw_5_189 rfl (v := .ref (q 2)) rfl dX11_back_41 ?_
              refine lv_bipush (v := nI 119) hx hb dX11_back_44 (by decide +kernel) ?_
              refine lv_iload_n hx hb dX11_back_46 rfl (lv_at hl 1 rfl) ?_
              refine lv_imul hx hb dX11_back_47 ?_
              refine z_eqi (y := nI 0) (by decide +kernel) ?_
              refine lv_iload_n hx hb dX11_back_48 rfl (lv_at hl 2 rfl) ?_
              refine lv_iadd hx hb dX11_back_49 ?_
              refine z_cadd 0 118 zk_0 hnk_10 (by decide) (fun v_11 hv_11 mv_11 => ?_)
              refine z_iald hx hb hK hP 2 (by decide) 1 rfl rfl (zR_vin hv_11 (by decide)) dX11_back_50 ?_
              refine z_eqi (y := (zr R 1 (va_cpy (R 2) (R 1) (119 * 0) 0 k_10)) 2 (v_11).toNatClampNeg) rfl ?_
              refine z_iast hx hb hK hP hD hS 1 (by decide) 0 (fun _ => rfl) rfl (zR_vin hnk_10 (by decide)) dX11_back_51 (fun H locs hP hD hS => ?_)
              obtain ⟨v_12, ev_12⟩ : ∃ y : Int32, y = nI k_10 + nI 1 := ⟨_, rfl⟩
              have hv_12 : zR 1 119 v_12 := ev_12 ▸ zR_add hnk_10 zk_1 (by decide)
              have mv_12 : v_12.toInt = (nI k_10).toInt + 1 := by rw [ev_12, zR_addE hnk_10 zk_1 (by decide)]; rfl
              refine lv_iinc (v := v_12) (lv' := [(2, .int (v_12)), (0, .ref (q 0)), (1, .int (nI 0))]) hx hb dX11_back_52 hl (k := 2) rfl (ev_12 ▸ rfl) (by decide) rfl (fun ls hl => ?_)
              refine lv_goto (tgt := 29) hx hb dX11_back_55 (by decide) ?_
              have ev_129 : v_12 = nI (k_10 + 1) := ev_12.trans (nI_add k_10 1)
              rw [ev_129] at hl
              have er : (zp (zr R 1 (va_cpy (R 2) (R 1) (119 * 0) 0 k_10)) 1 (nI k_10).toNatClampNeg ((zr R 1 (va_cpy (R 2) (R 1) (119 * 0) 0 k_10)) 2 (v_11).toNatClampNeg)) = (zr R 1 (va_cpy (R 2) (R 1) (119 * 0) 0 (k_10 + 1))) := m_cpy_s ((nI_clamp (by omega)).trans (by omega)) (show R 2 (v_11).toNatClampNeg = R 2 (119 * 0 + k_10) from by rw [m_nat (n := 119 * 0 + k_10) (by have := mv_11; rw [nI_toInt (by omega)] at this; omega)])
              rw [er] at hP hD
              exact ihk_10 (k_10 + 1) (by omega) (by omega) _ _ hP hD hS _ (lv_sub hl [1, 2, 0] rfl)
            · obtain rfl : k_10 = 119 := by omega
              have hI_13 := mInv_bk hI 0 (by decide)
              refine lv_iload_n hx hb dX11_back_29 rfl (lv_at hl 2 rfl) ?_
              refine lv_bipush (v := nI 119) hx hb dX11_back_30 (by decide +kernel) ?_
              refine lv_icmp_ge (tgt := 58) hx hb dX11_back_32 (by decide) (fun _ => ?_) (fun c_0 => absurd (zD_le zk_119 zk_119 (by decide)) c_0)
              refine lv_iconst (v := nI 0) hx hb dX11_back_58 (by decide +kernel) ?_
              exact z_iret (v := nI 0) hx hb hr hlocks hP hD hS dX11_back_59 (Or.inr (Or.inr ⟨(by obtain ⟨_, _⟩ := zk_0; omega), (fun h => t_c_8 (congrArg Int32.toInt ((congrFun (mFr hI 3 rfl) 0).trans h))), rfl, ⟨_, hI_13⟩⟩))
        exact loopk_10 120 0 (by omega) (by omega) _ _ (by rw [m_cpy_0]; exact hP) (by rw [m_cpy_0]; exact hD) hS _ (lv_sub hl [1, 2, 0] rfl)
      · have t_c_8 := z_eqT c_8
        have f_14 : zR 0 0 (R 3 (nI 0).toNatClampNeg) := zR_eqx t_c_8 zk_z
        refine lv_bipush (v := (-6)) hx hb dX11_back_24 (by decide +kernel) ?_
        exact z_iret (v := (-6)) hx hb hr hlocks hP hD hS dX11_back_26 (Or.inr (Or.inl ⟨(by obtain ⟨_, _⟩ := zk_0; omega), (congrFun (mFr hI 3 rfl) 0).symm.trans (Int32.toInt_inj.mp t_c_8), rfl, rfl⟩))
    · refine lv_aload_n hx hb dX11_back_15 rfl (lv_at hl 0 rfl) ?_
      refine z_get hx hb ht hown hK hP ziX11 rfl 0 (by decide) 3 (by decide) hw_5_190 rfl (v := .ref (q 3)) rfl dX11_back_16 ?_
      refine lv_iload_n hx hb dX11_back_19 rfl (lv_at hl 1 rfl) ?_
      refine z_zald hx hb hK hP 3 (by decide) 2 rfl rfl (zR_vin zk_1 (by decide)) dX11_back_20 ?_
      refine z_eqi (y := R 3 (nI 1).toNatClampNeg) rfl ?_
      have f_15 : zR 0 1 (R 3 (nI 1).toNatClampNeg) := mR hI 3 (nI 1).toNatClampNeg
      refine lv_if_ne (tgt := 27) hx hb dX11_back_21 (by decide) (fun c_16 => ?_) (fun c_16 => ?_)
      · have t_c_16 := z_eqF c_16
        have f_17 : zR 1 1 (R 3 (nI 1).toNatClampNeg) := zR_nex t_c_16 f_15 zk_z (by decide)
        refine lv_iconst (v := nI 0) hx hb dX11_back_27 (by decide +kernel) ?_
        refine lv_istore_n (lv' := [(2, .int (nI 0)), (0, .ref (q 0)), (1, .int (nI 1))]) hx hb dX11_back_28 rfl hl (by decide) rfl (fun ls hl => ?_)
        have loopk_18 : ∀ (N k_18 : Nat), k_18 ≤ 119 → 119 < k_18 + N → ∀ (H : Heap) (locs : List Loc), va_P D vwCl (zw 25 q (zMd q cA) I (zr R 1 (va_cpy (R 2) (R 1) (119 * 1) 0 k_18)) J) H → va_D (zA 25 q sz) (zw 25 q (zMd q cA) I (zr R 1 (va_cpy (R 2) (R 1) (119 * 1) 0 k_18)) J) → va_S (zA 25 q sz) s.heap H locs → ∀ ls : Array Slot, lv_has ls 3 [(0, .ref (q 0)), (1, .int (nI 1)), (2, .int (nI k_18))] → W p l e ({ frames := 1, cells := 0, slots := 0, locals := 25 } : Room) s m ([.ref (q 0), .int ((nI 1))] : List Value).toArray below meth c H locs 0 0 (MQ below (va_Qi (fun r u => (((nI 1).toInt < 0 ∨ 2 < (nI 1).toInt) ∧ r = (-2) ∧ u = (I, R, J)) ∨ (¬ ((nI 1).toInt < 0 ∨ 2 < (nI 1).toInt) ∧ mkept F (nI 1) = nI 0 ∧ r = (-6) ∧ u = (I, R, J)) ∨ (¬ ((nI 1).toInt < 0 ∨ 2 < (nI 1).toInt) ∧ mkept F (nI 1) ≠ nI 0 ∧ r = nI 0 ∧ ∃ w9, mInv (zr F 1 w9) u)) (zB D vwCl 25 q (zMd q cA) sz) (zA 25 q sz)) ([.ref (q 0), .int ((nI 1))] : List Value).toArray s 0 0 (zA 25 q sz)) (F0 m 29 ls []) := by
          intro N
          induction N with
          | zero => intro k_18 h1 h2; exact absurd h2 (by omega)
          | succ N ihk_18 =>
            intro k_18 h1k_18 h2k_18 H locs hP hD hS ls hl
            rcases Nat.lt_or_ge k_18 119 with hkk_18 | hkk_18
            · have hnk_18 : zR 0 118 (nI k_18) := z2_nI (b := 118) (by omega) (by decide)
              refine lv_iload_n hx hb dX11_back_29 rfl (lv_at hl 2 rfl) ?_
              refine lv_bipush (v := nI 119) hx hb dX11_back_30 (by decide +kernel) ?_
              refine lv_icmp_ge (tgt := 58) hx hb dX11_back_32 (by decide) (fun c_0 => absurd c_0 (zD_nle zk_119 hnk_18 (by decide))) (fun _ => ?_)
              refine lv_aload_n hx hb dX11_back_35 rfl (lv_at hl 0 rfl) ?_
              refine z_get hx hb ht hown hK hP ziX11 rfl 0 (by decide) 1 (by decide) hw_5_188 rfl (v := .ref (q 1)) rfl dX11_back_36 ?_
              refine lv_iload_n hx hb dX11_back_39 rfl (lv_at hl 2 rfl) ?_
              refine lv_aload_n hx hb dX11_back_40 rfl (lv_at hl 0 rfl) ?_
              refine z_get hx hb ht hown hK hP ziX11 rfl 0 (by decide) 2 (by decide) hw_5_189 rfl (v := .ref (q 2)) rfl dX11_back_41 ?_
              refine lv_bipush (v := nI 119) hx hb dX11_back_44 (by decide +kernel) ?_
              refine lv_iload_n hx hb dX11_back_46 rfl (lv_at hl 1 rfl) ?_
              refine lv_imul hx hb dX11_back_47 ?_
              refine z_eqi (y := nI 119) (by decide +kernel) ?_
              refine lv_iload_n hx hb dX11_back_48 rfl (lv_at hl 2 rfl) ?_
              refine lv_iadd hx hb dX11_back_49 ?_
              refine z_cadd 119 237 zk_119 hnk_18 (by decide) (fun v_19 hv_19 mv_19 => ?_)
              refine z_iald hx hb hK hP 2 (by decide) 1 rfl rfl (zR_vin hv_19 (by decide)) dX11_back_50 ?_
              refine z_eqi (y := (zr R 1 (va_cpy (R 2) (R 1) (119 * 1) 0 k_18)) 2 (v_19).toNatClampNeg) rfl ?_
              refine z_iast hx hb hK hP hD hS 1 (by decide) 0 (fun _ => rfl) rfl (zR_vin hnk_18 (by decide)) dX11_back_51 (fun H locs hP hD hS => ?_)
              obtain ⟨v_20, ev_20⟩ : ∃ y : Int32, y = nI k_18 + nI 1 := ⟨_, rfl⟩
              have hv_20 : zR 1 119 v_20 := ev_20 ▸ zR_add hnk_18 zk_1 (by decide)
              have mv_20 : v_20.toInt = (nI k_18).toInt + 1 := by rw [ev_20, zR_addE hnk_18 zk_1 (by decide)]; rfl
              refine lv_iinc (v := v_20) (lv' := [(2, .int (v_20)), (0, .ref (q 0)), (1, .int (nI 1))]) hx hb dX11_back_52 hl (k := 2) rfl (ev_20 ▸ rfl) (by decide) rfl (fun ls hl => ?_)
              refine lv_goto (tgt := 29) hx hb dX11_back_55 (by decide) ?_
              have ev_209 : v_20 = nI (k_18 + 1) := ev_20.trans (nI_add k_18 1)
              rw [ev_209] at hl
              have er : (zp (zr R 1 (va_cpy (R 2) (R 1) (119 * 1) 0 k_18)) 1 (nI k_18).toNatClampNeg ((zr R 1 (va_cpy (R 2) (R 1) (119 * 1) 0 k_18)) 2 (v_19).toNatClampNeg)) = (zr R 1 (va_cpy (R 2) (R 1) (119 * 1) 0 (k_18 + 1))) := m_cpy_s ((nI_clamp (by omega)).trans (by omega)) (show R 2 (v_19).toNatClampNeg = R 2 (119 * 1 + k_18) from by rw [m_nat (n := 119 * 1 + k_18) (by have := mv_19; rw [nI_toInt (by omega)] at this; omega)])
              rw [er] at hP hD
              exact ihk_18 (k_18 + 1) (by omega) (by omega) _ _ hP hD hS _ (lv_sub hl [1, 2, 0] rfl)
            · obtain rfl : k_18 = 119 := by omega
              have hI_21 := mInv_bk hI 1 (by decide)
              refine lv_iload_n hx hb dX11_back_29 rfl (lv_at hl 2 rfl) ?_
              refine lv_bipush (v := nI 119) hx hb dX11_back_30 (by decide +kernel) ?_
              refine lv_icmp_ge (tgt := 58) hx hb dX11_back_32 (by decide) (fun _ => ?_) (fun c_0 => absurd (zD_le zk_119 zk_119 (by decide)) c_0)
              refine lv_iconst (v := nI 0) hx hb dX11_back_58 (by decide +kernel) ?_
              exact z_iret (v := nI 0) hx hb hr hlocks hP hD hS dX11_back_59 (Or.inr (Or.inr ⟨(by obtain ⟨_, _⟩ := zk_1; omega), (fun h => t_c_16 (congrArg Int32.toInt ((congrFun (mFr hI 3 rfl) 1).trans h))), rfl, ⟨_, hI_21⟩⟩))
        exact loopk_18 120 0 (by omega) (by omega) _ _ (by rw [m_cpy_0]; exact hP) (by rw [m_cpy_0]; exact hD) hS _ (lv_sub hl [1, 2, 0] rfl)
      · have t_c_16 := z_eqT c_16
        have f_22 : zR 0 0 (R 3 (nI 1).toNatClampNeg) := zR_eqx t_c_16 zk_z
        refine lv_bipush (v := (-6)) hx hb dX11_back_24 (by decide +kernel) ?_
        exact z_iret (v := (-6)) hx hb hr hlocks hP hD hS dX11_back_26 (Or.inr (Or.inl ⟨(by obtain ⟨_, _⟩ := zk_1; omega), (congrFun (mFr hI 3 rfl) 1).symm.trans (Int32.toInt_inj.mp t_c_16), rfl, rfl⟩))
    · refine lv_aload_n hx hb dX11_back_15 rfl (lv_at hl 0 rfl) ?_
      refine z_get hx hb ht hown hK hP ziX11 rfl 0 (by decide) 3 (by decide) hw_5_190 rfl (v := .ref (q 3)) rfl dX11_back_16 ?_
      refine lv_iload_n hx hb dX11_back_19 rfl (lv_at hl 1 rfl) ?_
      refine z_zald hx hb hK hP 3 (by decide) 2 rfl rfl (zR_vin zk_2 (by decide)) dX11_back_20 ?_
      refine z_eqi (y := R 3 (nI 2).toNatClampNeg) rfl ?_
      have f_23 : zR 0 1 (R 3 (nI 2).toNatClampNeg) := mR hI 3 (nI 2).toNatClampNeg
      refine lv_if_ne (tgt := 27) hx hb dX11_back_21 (by decide) (fun c_24 => ?_) (fun c_24 => ?_)
      · have t_c_24 := z_eqF c_24
        have f_25 : zR 1 1 (R 3 (nI 2).toNatClampNeg) := zR_nex t_c_24 f_23 zk_z (by decide)
        refine lv_iconst (v := nI 0) hx hb dX11_back_27 (by decide +kernel) ?_
        refine lv_istore_n (lv' := [(2, .int (nI 0)), (0, .ref (q 0)), (1, .int (nI 2))]) hx hb dX11_back_28 rfl hl (by decide) rfl (fun ls hl => ?_)
        have loopk_26 : ∀ (N k_26 : Nat), k_26 ≤ 119 → 119 < k_26 + N → ∀ (H : Heap) (locs : List Loc), va_P D vwCl (zw 25 q (zMd q cA) I (zr R 1 (va_cpy (R 2) (R 1) (119 * 2) 0 k_26)) J) H → va_D (zA 25 q sz) (zw 25 q (zMd q cA) I (zr R 1 (va_cpy (R 2) (R 1) (119 * 2) 0 k_26)) J) → va_S (zA 25 q sz) s.heap H locs → ∀ ls : Array Slot, lv_has ls 3 [(0, .ref (q 0)), (1, .int (nI 2)), (2, .int (nI k_26))] → W p l e ({ frames := 1, cells := 0, slots := 0, locals := 25 } : Room) s m ([.ref (q 0), .int ((nI 2))] : List Value).toArray below meth c H locs 0 0 (MQ below (va_Qi (fun r u => (((nI 2).toInt < 0 ∨ 2 < (nI 2).toInt) ∧ r = (-2) ∧ u = (I, R, J)) ∨ (¬ ((nI 2).toInt < 0 ∨ 2 < (nI 2).toInt) ∧ mkept F (nI 2) = nI 0 ∧ r = (-6) ∧ u = (I, R, J)) ∨ (¬ ((nI 2).toInt < 0 ∨ 2 < (nI 2).toInt) ∧ mkept F (nI 2) ≠ nI 0 ∧ r = nI 0 ∧ ∃ w9, mInv (zr F 1 w9) u)) (zB D vwCl 25 q (zMd q cA) sz) (zA 25 q sz)) ([.ref (q 0), .int ((nI 2))] : List Value).toArray s 0 0 (zA 25 q sz)) (F0 m 29 ls []) := by
          intro N
          induction N with
          | zero => intro k_26 h1 h2; exact absurd h2 (by omega)
          | succ N ihk_26 =>
            intro k_26 h1k_26 h2k_26 H locs hP hD hS ls hl
            rcases Nat.lt_or_ge k_26 119 with hkk_26 | hkk_26
            · have hnk_26 : zR 0 118 (nI k_26) := z2_nI (b := 118) (by omega) (by decide)
              refine lv_iload_n hx hb dX11_back_29 rfl (lv_at hl 2 rfl) ?_
              refine lv_bipush (v := nI 119) hx hb dX11_back_30 (by decide +kernel) ?_
              refine lv_icmp_ge (tgt := 58) hx hb dX11_back_32 (by decide) (fun c_0 => absurd c_0 (zD_nle zk_119 hnk_26 (by decide))) (fun _ => ?_)
              refine lv_aload_n hx hb dX11_back_35 rfl (lv_at hl 0 rfl) ?_
              refine z_get hx hb ht hown hK hP ziX11 rfl 0 (by decide) 1 (by decide) hw_5_188 rfl (v := .ref (q 1)) rfl dX11_back_36 ?_
              refine lv_iload_n hx hb dX11_back_39 rfl (lv_at hl 2 rfl) ?_
              refine lv_aload_n hx hb dX11_back_40 rfl (lv_at hl 0 rfl) ?_
              refine z_get hx hb ht hown hK hP ziX11 rfl 0 (by decide) 2 (by decide) hw_5_189 rfl (v := .ref (q 2)) rfl dX11_back_41 ?_
              refine lv_bipush (v := nI 119) hx hb dX11_back_44 (by decide +kernel) ?_
              refine lv_iload_n hx hb dX11_back_46 rfl (lv_at hl 1 rfl) ?_
              refine lv_imul hx hb dX11_back_47 ?_
              refine z_eqi (y := nI 238) (by decide +kernel) ?_
              refine lv_iload_n hx hb dX11_back_48 rfl (lv_at hl 2 rfl) ?_
              refine lv_iadd hx hb dX11_back_49 ?_
              refine z_cadd 238 356 zk_238 hnk_26 (by decide) (fun v_27 hv_27 mv_27 => ?_)
              refine z_iald hx hb hK hP 2 (by decide) 1 rfl rfl (zR_vin hv_27 (by decide)) dX11_back_50 ?_
              refine z_eqi (y := (zr R 1 (va_cpy (R 2) (R 1) (119 * 2) 0 k_26)) 2 (v_27).toNatClampNeg) rfl ?_
              refine z_iast hx hb hK hP hD hS 1 (by decide) 0 (fun _ => rfl) rfl (zR_vin hnk_26 (by decide)) dX11_back_51 (fun H locs hP hD hS => ?_)
              obtain ⟨v_28, ev_28⟩ : ∃ y : Int32, y = nI k_26 + nI 1 := ⟨_, rfl⟩
              have hv_28 : zR 1 119 v_28 := ev_28 ▸ zR_add hnk_26 zk_1 (by decide)
              have mv_28 : v_28.toInt = (nI k_26).toInt + 1 := by rw [ev_28, zR_addE hnk_26 zk_1 (by decide)]; rfl
              refine lv_iinc (v := v_28) (lv' := [(2, .int (v_28)), (0, .ref (q 0)), (1, .int (nI 2))]) hx hb dX11_back_52 hl (k := 2) rfl (ev_28 ▸ rfl) (by decide) rfl (fun ls hl => ?_)
              refine lv_goto (tgt := 29) hx hb dX11_back_55 (by decide) ?_
              have ev_289 : v_28 = nI (k_26 + 1) := ev_28.trans (nI_add k_26 1)
              rw [ev_289] at hl
              have er : (zp (zr R 1 (va_cpy (R 2) (R 1) (119 * 2) 0 k_26)) 1 (nI k_26).toNatClampNeg ((zr R 1 (va_cpy (R 2) (R 1) (119 * 2) 0 k_26)) 2 (v_27).toNatClampNeg)) = (zr R 1 (va_cpy (R 2) (R 1) (119 * 2) 0 (k_26 + 1))) := m_cpy_s ((nI_clamp (by omega)).trans (by omega)) (show R 2 (v_27).toNatClampNeg = R 2 (119 * 2 + k_26) from by rw [m_nat (n := 119 * 2 + k_26) (by have := mv_27; rw [nI_toInt (by omega)] at this; omega)])
              rw [er] at hP hD
              exact ihk_26 (k_26 + 1) (by omega) (by omega) _ _ hP hD hS _ (lv_sub hl [1, 2, 0] rfl)
            · obtain rfl : k_26 = 119 := by omega
              have hI_29 := mInv_bk hI 2 (by decide)
              refine lv_iload_n hx hb dX11_back_29 rfl (lv_at hl 2 rfl) ?_
              refine lv_bipush (v := nI 119) hx hb dX11_back_30 (by decide +kernel) ?_
              refine lv_icmp_ge (tgt := 58) hx hb dX11_back_32 (by decide) (fun _ => ?_) (fun c_0 => absurd (zD_le zk_119 zk_119 (by decide)) c_0)
              refine lv_iconst (v := nI 0) hx hb dX11_back_58 (by decide +kernel) ?_
              exact z_iret (v := nI 0) hx hb hr hlocks hP hD hS dX11_back_59 (Or.inr (Or.inr ⟨(by obtain ⟨_, _⟩ := zk_2; omega), (fun h => t_c_24 (congrArg Int32.toInt ((congrFun (mFr hI 3 rfl) 2).trans h))), rfl, ⟨_, hI_29⟩⟩))
        exact loopk_26 120 0 (by omega) (by omega) _ _ (by rw [m_cpy_0]; exact hP) (by rw [m_cpy_0]; exact hD) hS _ (lv_sub hl [1, 2, 0] rfl)
      · have t_c_24 := z_eqT c_24
        have f_30 : zR 0 0 (R 3 (nI 2).toNatClampNeg) := zR_eqx t_c_24 zk_z
        refine lv_bipush (v := (-6)) hx hb dX11_back_24 (by decide +kernel) ?_
        exact z_iret (v := (-6)) hx hb hr hlocks hP hD hS dX11_back_26 (Or.inr (Or.inl ⟨(by obtain ⟨_, _⟩ := zk_2; omega), (congrFun (mFr hI 3 rfl) 2).symm.trans (Int32.toInt_inj.mp t_c_24), rfl, rfl⟩))
  · cases hu_1
    have f_31 : zL (-2147483648) (-1) ((pa0).toInt64) := zL_ltx h1_1 (zR_i2l (zR_any (pa0))) zkl_0 (by decide)
    have f_32 : zR (-2147483648) (-1) (pa0) := zL_back f_31
    refine lv_if_ne (tgt := 15) hx hb dX11_back_9 (by decide) (fun c_0 => absurd (zD_eq zk_0 zk_z) c_0) (fun _ => ?_)
    refine lv_bipush (v := (-2)) hx hb dX11_back_12 (by decide +kernel) ?_
    exact z_iret (v := (-2)) hx hb hr hlocks hP hD hS dX11_back_14 (Or.inl ⟨(by obtain ⟨_, _⟩ := f_32; omega), rfl, rfl⟩)
  · cases hu_1
    have f_33 : zL 3 2147483647 ((pa0).toInt64) := zL_lty h2_1 zkl_2 (zR_i2l (zR_any (pa0))) (by decide)
    have f_34 : zR 3 2147483647 (pa0) := zL_back f_33
    refine lv_if_ne (tgt := 15) hx hb dX11_back_9 (by decide) (fun c_0 => absurd (zD_eq zk_0 zk_z) c_0) (fun _ => ?_)
    refine lv_bipush (v := (-2)) hx hb dX11_back_12 (by decide +kernel) ?_
    exact z_iret (v := (-2)) hx hb hr hlocks hP hD hS dX11_back_14 (Or.inl ⟨(by obtain ⟨_, _⟩ := f_34; omega), rfl, rfl⟩)
set_option maxHeartbeats 4000000 in
set_option maxRecDepth 100000 in
theorem mk_X11_row (l : Launch) (D : va_G) (q : Nat → Nat) (cA : Nat → ClassId) (F : Nat → Nat → Int32) (I R : Nat → Nat → Int32) (J : Nat → Nat → Int64) (hI : mInv F (I, R, J)) (pa0 : Int32) (pa1 : Int32) (pa2 : Int32) : zMi l D vwCl (zMtys cA) 25 q (zMd q cA) yX11_row cX11_row 5 (some .int) ({ frames := 2, cells := 0, slots := 0, locals := 45 } : Room) [.ref (q 0), .int (pa0), .int (pa1), .int (pa2)] (I, R, J) (fun r u => ((pa0.toInt < 0 ∨ 3 < pa0.toInt ∨ pa1.toInt < 0 ∨ 3 < pa1.toInt ∨ 60 < pa2.toInt) ∧ r = (-2) ∧ u = (I, R, J)) ∨ (¬ (pa0.toInt < 0 ∨ 3 < pa0.toInt ∨ pa1.toInt < 0 ∨ 3 < pa1.toInt ∨ 60 < pa2.toInt) ∧ pa2.toInt < 0 ∧ r = (-3) ∧ u = (I, R, J)) ∨ (¬ (pa0.toInt < 0 ∨ 3 < pa0.toInt ∨ pa1.toInt < 0 ∨ 3 < pa1.toInt ∨ 60 < pa2.toInt) ∧ 0 ≤ pa2.toInt ∧ r = nI 0 ∧ mInv (mrow F pa0 pa1 pa2) u)) := by
  intro sz
  refine z_body (by decide +kernel) (Nat.le_of_ble_eq_true rfl) (fun p e s m below meth c ls hx hb hml hr ht hown hlocks hsz hK hP hD hS hl => ?_)
  have hA : ∀ a, s.heap.size ≤ a → zA 25 q sz a := fun a h => Or.inr (hsz ▸ h)
  have hl : lv_has ls 5 [(0, .ref (q 0)), (1, .int (pa0)), (2, .int (pa1)), (3, .int (pa2))] := hl
  refine lv_iload_n hx hb dX11_row_0 rfl (lv_at hl 1 rfl) ?_
  refine z_callSi (As := [.int (pa0)]) (rest := []) hx hb hml hown ht (mk_X11_isSlot l D q cA F _ _ _ hI (pa0)) hw_8_76 hmX11_isSlot ⟨rfl, rfl⟩ (na := 1) rfl (by decide +kernel) (by decide) hK hP hD hS hA hl.1 rfl (Nat.le_of_ble_eq_true rfl) ⟨Nat.zero_le _, Nat.zero_le _⟩ dX11_row_1 (fun r_1 I_1 R_1 J_1 H locs hp_1 hP hD hS _ _ => ?_)
  rcases hp_1 with ⟨rfl, hu_1, f0_1⟩ | ⟨rfl, hu_1, nn_1⟩
  · cases hu_1
    refine lv_if_eq (tgt := 25) hx hb dX11_row_4 (by decide) (fun c_0 => absurd c_0 (zD_ne zk_1 zk_z (by decide))) (fun _ => ?_)
    refine lv_iload_n hx hb dX11_row_7 rfl (lv_at hl 2 rfl) ?_
    refine lv_i2l (v := (pa1).toInt64) hx hb dX11_row_8 rfl ?_
    refine lv_lconst (v := (0 : Int64)) hx hb dX11_row_9 (by decide +kernel) ?_
    refine lv_ldc2 (v := (3 : Int64)) hx hb hown (ht _ hw_7_91) dX11_row_10 ?_
    refine z_callSi (As := [.long ((pa1).toInt64), .long ((0 : Int64)), .long ((3 : Int64))]) (rest := []) hx hb hml hown ht (mk_X11_in l D q cA F _ _ _ hI ((pa1).toInt64) ((0 : Int64)) ((3 : Int64))) hw_6_86 hmX11_in ⟨rfl, rfl⟩ (na := 3) rfl (by decide +kernel) (by decide) hK hP hD hS hA hl.1 rfl (Nat.le_of_ble_eq_true rfl) ⟨Nat.zero_le _, Nat.zero_le _⟩ dX11_row_13 (fun r_2 I_2 R_2 J_2 H locs hp_2 hP hD hS _ _ => ?_)
    rcases hp_2 with ⟨rfl, hu_2, h1_2, h2_2⟩ | ⟨rfl, hu_2, h1_2 | h2_2⟩
    · cases hu_2
      have f_3 : zL 0 2147483647 ((pa1).toInt64) := zL_ley h1_2 zkl_0 (zR_i2l (zR_any (pa1))) (by decide)
      have f_4 : zR 0 2147483647 (pa1) := zL_back f_3
      have f_5 : zL 0 3 ((pa1).toInt64) := zL_lex h2_2 f_3 zkl_3 (by decide)
      have f_6 : zR 0 3 (pa1) := zL_back f_5
      refine lv_if_eq (tgt := 25) hx hb dX11_row_16 (by decide) (fun c_0 => absurd c_0 (zD_ne zk_1 zk_z (by decide))) (fun _ => ?_)
      refine lv_iload_n hx hb dX11_row_19 rfl (lv_at hl 3 rfl) ?_
      refine lv_bipush (v := nI 60) hx hb dX11_row_20 (by decide +kernel) ?_
      refine lv_icmp_le (tgt := 28) hx hb dX11_row_22 (by decide) (fun c_7 => ?_) (fun c_7 => ?_)
      · have t_c_7 := z_leT c_7
        have f_8 : zR (-2147483648) 60 (pa2) := zR_lex t_c_7 (zR_any (pa2)) zk_60 (by decide)
        refine lv_iload_n hx hb dX11_row_28 rfl (lv_at hl 3 rfl) ?_
        refine lv_if_ge (tgt := 35) hx hb dX11_row_29 (by decide) (fun c_9 => ?_) (fun c_9 => ?_)
        · have t_c_9 := z_leT c_9
          have f_10 : zR 0 60 (pa2) := zR_ley t_c_9 zk_z f_8 (by decide)
          refine lv_aload_n hx hb dX11_row_35 rfl (lv_at hl 0 rfl) ?_
          refine z_get hx hb ht hown hK hP ziX11 rfl 0 (by decide) 40 (by decide) hw_5_227 rfl (v := .ref (q 21)) rfl dX11_row_36 ?_
          refine lv_iload_n hx hb dX11_row_39 rfl (lv_at hl 1 rfl) ?_
          refine lv_iload_n hx hb dX11_row_40 rfl (lv_at hl 3 rfl) ?_
          refine z_iast hx hb hK hP hD hS 21 (by decide) 20 (fun _ => rfl) rfl (zR_vin f0_1 (by decide)) dX11_row_41 (fun H locs hP hD hS => ?_)
          have hI_11 := mInv_F hI 21 (pa0).toNatClampNeg (pa2) (show zR (-1) 60 (pa2) from zR_w f_10 (by decide)) (by decide)
          refine lv_aload_n hx hb dX11_row_42 rfl (lv_at hl 0 rfl) ?_
          refine z_get hx hb ht hown hK hP ziX11 rfl 0 (by decide) 41 (by decide) hw_5_228 rfl (v := .ref (q 22)) rfl dX11_row_43 ?_
          refine lv_iload_n hx hb dX11_row_46 rfl (lv_at hl 1 rfl) ?_
          refine lv_iload_n hx hb dX11_row_47 rfl (lv_at hl 2 rfl) ?_
          refine z_iast hx hb hK hP hD hS 22 (by decide) 21 (fun _ => rfl) rfl (zR_vin f0_1 (by decide)) dX11_row_48 (fun H locs hP hD hS => ?_)
          have hI_12 := mInv_F hI_11 22 (pa0).toNatClampNeg (pa1) (zR_any _) (by decide)
          refine lv_iconst (v := nI 0) hx hb dX11_row_49 (by decide +kernel) ?_
          refine lv_istore (lv' := [(4, .int (nI 0)), (0, .ref (q 0)), (1, .int (pa0)), (2, .int (pa1)), (3, .int (pa2))]) hx hb dX11_row_50 hl (by decide) rfl (fun ls hl => ?_)
          have loop_42 : ∀ N : Nat, ∀ x_40 : Int32, zR 0 60 x_40 → ∀ J_41 : Nat → Nat → Int64, mInv (zp (zp F 21 (pa0).toNatClampNeg (pa2)) 22 (pa0).toNatClampNeg (pa1)) (I, (zp (zp R 21 (pa0).toNatClampNeg (pa2)) 22 (pa0).toNatClampNeg (pa1)), J_41) → (2147483648 - (x_40).toInt).toNat < N → ∀ (H : Heap) (locs : List Loc), va_P D vwCl (zw 25 q (zMd q cA) I (zp (zp R 21 (pa0).toNatClampNeg (pa2)) 22 (pa0).toNatClampNeg (pa1)) J_41) H → va_D (zA 25 q sz) (zw 25 q (zMd q cA) I (zp (zp R 21 (pa0).toNatClampNeg (pa2)) 22 (pa0).toNatClampNeg (pa1)) J_41) → va_S (zA 25 q sz) s.heap H locs → ∀ ls : Array Slot, lv_has ls 5 [(0, .ref (q 0)), (1, .int (pa0)), (2, .int (pa1)), (3, .int (pa2)), (4, .int (x_40))] → W p l e ({ frames := 2, cells := 0, slots := 0, locals := 45 } : Room) s m ([.ref (q 0), .int (pa0), .int (pa1), .int (pa2)] : List Value).toArray below meth c H locs 0 0 (MQ below (va_Qi (fun r u => ((pa0.toInt < 0 ∨ 3 < pa0.toInt ∨ pa1.toInt < 0 ∨ 3 < pa1.toInt ∨ 60 < pa2.toInt) ∧ r = (-2) ∧ u = (I, R, J)) ∨ (¬ (pa0.toInt < 0 ∨ 3 < pa0.toInt ∨ pa1.toInt < 0 ∨ 3 < pa1.toInt ∨ 60 < pa2.toInt) ∧ pa2.toInt < 0 ∧ r = (-3) ∧ u = (I, R, J)) ∨ (¬ (pa0.toInt < 0 ∨ 3 < pa0.toInt ∨ pa1.toInt < 0 ∨ 3 < pa1.toInt ∨ 60 < pa2.toInt) ∧ 0 ≤ pa2.toInt ∧ r = nI 0 ∧ mInv (mrow F pa0 pa1 pa2) u)) (zB D vwCl 25 q (zMd q cA) sz) (zA 25 q sz)) ([.ref (q 0), .int (pa0), .int (pa1), .int (pa2)] : List Value).toArray s 0 0 (zA 25 q sz)) (F0 m 52 ls []) := by
            intro N
            induction N with
            | zero => intro x_40 hx_40 J_41 hI_41 hN; exact absurd hN (Nat.not_lt_zero _)
            | succ N ih_44 =>
              intro x_40 hx_40 J_41 hI_41 hN_43 H locs hP hD hS ls hl
              refine lv_iload hx hb dX11_row_52 (lv_at hl 4 rfl) ?_
              refine lv_bipush (v := nI 60) hx hb dX11_row_54 (by decide +kernel) ?_
              refine lv_icmp_ge (tgt := 78) hx hb dX11_row_56 (by decide) (fun c_45 => ?_) (fun c_45 => ?_)
              · have t_c_45 := z_leT c_45
                have f_46 : zR 60 60 (x_40) := zR_ley t_c_45 zk_60 hx_40 (by decide)
                refine lv_iconst (v := nI 0) hx hb dX11_row_78 (by decide +kernel) ?_
                exact z_iret (v := nI 0) hx hb hr hlocks hP hD hS dX11_row_79 (Or.inr (Or.inr ⟨(by obtain ⟨_, _⟩ := f0_1; obtain ⟨_, _⟩ := f_6; obtain ⟨_, _⟩ := f_10; omega), (by obtain ⟨_, _⟩ := f0_1; obtain ⟨_, _⟩ := f_6; obtain ⟨_, _⟩ := f_10; omega), rfl, hI_41⟩))
              · have t_c_45 := z_leF c_45
                have f_47 : zR 0 59 (x_40) := zR_ltx t_c_45 hx_40 zk_60 (by decide)
                refine lv_aload_n hx hb dX11_row_59 rfl (lv_at hl 0 rfl) ?_
                refine z_get hx hb ht hown hK hP ziX11 rfl 0 (by decide) 42 (by decide) hw_5_229 rfl (v := .ref (q 23)) rfl dX11_row_60 ?_
                refine lv_bipush (v := nI 60) hx hb dX11_row_63 (by decide +kernel) ?_
                refine lv_iload_n hx hb dX11_row_65 rfl (lv_at hl 1 rfl) ?_
                refine lv_imul hx hb dX11_row_66 ?_
                refine z_rng (a := 0) (b := 180) (zR_mul zk_60 f0_1 (by decide)) (fun v_48 hv_48 => ?_)
                refine lv_iload hx hb dX11_row_67 (lv_at hl 4 rfl) ?_
                refine lv_iadd hx hb dX11_row_69 ?_
                refine z_rng (a := 0) (b := 239) (zR_add hv_48 f_47 (by decide)) (fun v_49 hv_49 => ?_)
                refine lv_lconst (v := (0 : Int64)) hx hb dX11_row_70 (by decide +kernel) ?_
                refine z_last hx hb hK hP hD hS 23 (by decide) 22 (fun _ => rfl) rfl (zR_vin hv_49 (by decide)) dX11_row_71 (fun H locs hP hD hS => ?_)
                have hI_50 := mInv_Ja hI_41 23 (v_49).toNatClampNeg ((0 : Int64)) (by decide)
                obtain ⟨v_51, ev_51⟩ : ∃ y : Int32, y = x_40 + nI 1 := ⟨_, rfl⟩
                have hv_51 : zR 1 60 v_51 := ev_51 ▸ zR_add f_47 zk_1 (by decide)
                have mv_51 : v_51.toInt = (x_40).toInt + 1 := by rw [ev_51, zR_addE f_47 zk_1 (by decide)]; rfl
                refine lv_iinc (v := v_51) (lv' := [(4, .int (v_51)), (0, .ref (q 0)), (1, .int (pa0)), (2, .int (pa1)), (3, .int (pa2))]) hx hb dX11_row_72 hl (k := 4) rfl (ev_51 ▸ rfl) (by decide) rfl (fun ls hl => ?_)
                refine lv_goto (tgt := 52) hx hb dX11_row_75 (by decide) ?_
                exact ih_44 (v_51) (zR_w hv_51 (by decide)) _ hI_50 (z2_up mv_51 (by decide) hN_43) _ _ hP hD hS _ (lv_sub hl [1, 2, 3, 4, 0] rfl)
          exact loop_42 _ (nI 0) (zR_w zk_0 (by decide)) _ hI_12 (Nat.lt_succ_self _) _ _ hP hD hS _ (lv_sub hl [1, 2, 3, 4, 0] rfl)
        · have t_c_9 := z_leF c_9
          have f_52 : zR (-2147483648) (-1) (pa2) := zR_ltx t_c_9 f_8 zk_z (by decide)
          refine lv_bipush (v := (-3)) hx hb dX11_row_32 (by decide +kernel) ?_
          exact z_iret (v := (-3)) hx hb hr hlocks hP hD hS dX11_row_34 (Or.inr (Or.inl ⟨(by obtain ⟨_, _⟩ := f0_1; obtain ⟨_, _⟩ := f_6; obtain ⟨_, _⟩ := f_52; omega), (by obtain ⟨_, _⟩ := f0_1; obtain ⟨_, _⟩ := f_6; obtain ⟨_, _⟩ := f_52; omega), rfl, rfl⟩))
      · have t_c_7 := z_leF c_7
        have f_53 : zR 61 2147483647 (pa2) := zR_lty t_c_7 zk_60 (zR_any (pa2)) (by decide)
        refine lv_bipush (v := (-2)) hx hb dX11_row_25 (by decide +kernel) ?_
        exact z_iret (v := (-2)) hx hb hr hlocks hP hD hS dX11_row_27 (Or.inl ⟨(by obtain ⟨_, _⟩ := f0_1; obtain ⟨_, _⟩ := f_6; obtain ⟨_, _⟩ := f_53; omega), rfl, rfl⟩)
    · cases hu_2
      have f_54 : zL (-2147483648) (-1) ((pa1).toInt64) := zL_ltx h1_2 (zR_i2l (zR_any (pa1))) zkl_0 (by decide)
      have f_55 : zR (-2147483648) (-1) (pa1) := zL_back f_54
      refine lv_if_eq (tgt := 25) hx hb dX11_row_16 (by decide) (fun _ => ?_) (fun c_0 => absurd (zD_eq zk_0 zk_z) c_0)
      refine lv_bipush (v := (-2)) hx hb dX11_row_25 (by decide +kernel) ?_
      exact z_iret (v := (-2)) hx hb hr hlocks hP hD hS dX11_row_27 (Or.inl ⟨(by obtain ⟨_, _⟩ := f0_1; obtain ⟨_, _⟩ := f_55; obtain ⟨_, _⟩ := (zR_any (pa2)); omega), rfl, rfl⟩)
    · cases hu_2
      have f_56 : zL 4 2147483647 ((pa1).toInt64) := zL_lty h2_2 zkl_3 (zR_i2l (zR_any (pa1))) (by decide)
      have f_57 : zR 4 2147483647 (pa1) := zL_back f_56
      refine lv_if_eq (tgt := 25) hx hb dX11_row_16 (by decide) (fun _ => ?_) (fun c_0 => absurd (zD_eq zk_0 zk_z) c_0)
      refine lv_bipush (v := (-2)) hx hb dX11_row_25 (by decide +kernel) ?_
      exact z_iret (v := (-2)) hx hb hr hlocks hP hD hS dX11_row_27 (Or.inl ⟨(by obtain ⟨_, _⟩ := f0_1; obtain ⟨_, _⟩ := f_57; obtain ⟨_, _⟩ := (zR_any (pa2)); omega), rfl, rfl⟩)
  · cases hu_1
    refine lv_if_eq (tgt := 25) hx hb dX11_row_4 (by decide) (fun _ => ?_) (fun c_0 => absurd (zD_eq zk_0 zk_z) c_0)
    refine lv_bipush (v := (-2)) hx hb dX11_row_25 (by decide +kernel) ?_
    exact z_iret (v := (-2)) hx hb hr hlocks hP hD hS dX11_row_27 (Or.inl ⟨(by obtain ⟨_, _⟩ := (zR_any (pa0)); obtain ⟨_, _⟩ := (zR_any (pa1)); obtain ⟨_, _⟩ := (zR_any (pa2)); have _ := nn_1; omega), rfl, rfl⟩)
set_option maxHeartbeats 4000000 in
set_option maxRecDepth 100000 in
theorem mk_X11_cut (l : Launch) (D : va_G) (q : Nat → Nat) (cA : Nat → ClassId) (F : Nat → Nat → Int32) (I R : Nat → Nat → Int32) (J : Nat → Nat → Int64) (hI : mInv F (I, R, J)) (pa0 : Int64) (pa1 : Int32) : zMl l D vwCl (zMtys cA) 25 q (zMd q cA) yX11_cut cX11_cut 4 (some .long) ({ frames := 0, cells := 0, slots := 0, locals := 0 } : Room) [.long (pa0), .int (pa1)] (I, R, J) (fun _ u => u = (I, R, J)) := by
  intro sz
  refine z_body (by decide +kernel) (Nat.le_of_ble_eq_true rfl) (fun p e s m below meth c ls hx hb hml hr ht hown hlocks hsz hK hP hD hS hl => ?_)
  have hA : ∀ a, s.heap.size ≤ a → zA 25 q sz a := fun a h => Or.inr (hsz ▸ h)
  have hl : lv_has ls 4 [(0, .long (pa0)), (2, .int (pa1))] := hl
  refine lv_bipush (v := nI 64) hx hb dX11_cut_0 (by decide +kernel) ?_
  refine lv_bipush (v := nI 8) hx hb dX11_cut_2 (by decide +kernel) ?_
  refine lv_iload_n hx hb dX11_cut_4 rfl (lv_at hl 1 rfl) ?_
  refine lv_ishl hx hb dX11_cut_5 ?_
  refine z_any (fun v_1 => ?_)
  refine lv_isub hx hb dX11_cut_6 ?_
  refine z_any (fun v_2 => ?_)
  refine lv_istore_n (lv' := [(3, .int (v_2)), (0, .long (pa0)), (2, .int (pa1))]) hx hb dX11_cut_7 rfl hl (by decide) rfl (fun ls hl => ?_)
  refine lv_lload_n hx hb dX11_cut_8 rfl (lv_at hl 1 rfl) ?_
  refine lv_iload_n hx hb dX11_cut_9 rfl (lv_at hl 0 rfl) ?_
  refine lv_lshl hx hb dX11_cut_10 rfl ?_
  refine z_anyL (fun j_3 => ?_)
  refine lv_iload_n hx hb dX11_cut_11 rfl (lv_at hl 0 rfl) ?_
  refine lv_lshr hx hb dX11_cut_12 rfl ?_
  refine z_anyL (fun j_4 => ?_)
  exact z_lret (v := j_4) hx hb hr hlocks hP hD hS dX11_cut_13 rfl
set_option maxHeartbeats 4000000 in
set_option maxRecDepth 100000 in
theorem mk_X11_write (l : Launch) (D : va_G) (q : Nat → Nat) (cA : Nat → ClassId) (F : Nat → Nat → Int32) (I R : Nat → Nat → Int32) (J : Nat → Nat → Int64) (hI : mInv F (I, R, J)) (pa0 : Int32) (pa1 : Int32) (pa2 : Int64) : zMi l D vwCl (zMtys cA) 25 q (zMd q cA) yX11_write cX11_write 5 (some .int) ({ frames := 2, cells := 0, slots := 0, locals := 45 } : Room) [.ref (q 0), .int (pa0), .int (pa1), .long (pa2)] (I, R, J) (fun r u => ((pa0.toInt < 0 ∨ 3 < pa0.toInt) ∧ r = (-2) ∧ mInv F u) ∨ (¬ (pa0.toInt < 0 ∨ 3 < pa0.toInt) ∧ (mlen F pa0).toInt = -1 ∧ r = (-6) ∧ mInv F u) ∨ (¬ (pa0.toInt < 0 ∨ 3 < pa0.toInt) ∧ (mlen F pa0).toInt ≠ -1 ∧ (pa1.toInt < 0 ∨ (mlen F pa0).toInt ≤ pa1.toInt) ∧ r = (-7) ∧ mInv F u) ∨ (¬ (pa0.toInt < 0 ∨ 3 < pa0.toInt) ∧ (mlen F pa0).toInt ≠ -1 ∧ 0 ≤ pa1.toInt ∧ pa1.toInt < (mlen F pa0).toInt ∧ r = nI 0 ∧ mInv F u)) := by
  intro sz
  refine z_body (by decide +kernel) (Nat.le_of_ble_eq_true rfl) (fun p e s m below meth c ls hx hb hml hr ht hown hlocks hsz hK hP hD hS hl => ?_)
  have hA : ∀ a, s.heap.size ≤ a → zA 25 q sz a := fun a h => Or.inr (hsz ▸ h)
  have hl : lv_has ls 5 [(0, .ref (q 0)), (1, .int (pa0)), (2, .int (pa1)), (3, .long (pa2))] := hl
  refine lv_iload_n hx hb dX11_write_0 rfl (lv_at hl 1 rfl) ?_
  refine z_callSi (As := [.int (pa0)]) (rest := []) hx hb hml hown ht (mk_X11_isSlot l D q cA F _ _ _ hI (pa0)) hw_8_76 hmX11_isSlot ⟨rfl, rfl⟩ (na := 1) rfl (by decide +kernel) (by decide) hK hP hD hS hA hl.1 rfl (Nat.le_of_ble_eq_true rfl) ⟨Nat.zero_le _, Nat.zero_le _⟩ dX11_write_1 (fun r_1 I_1 R_1 J_1 H locs hp_1 hP hD hS _ _ => ?_)
  rcases hp_1 with ⟨rfl, hu_1, f0_1⟩ | ⟨rfl, hu_1, nn_1⟩
  · cases hu_1
    refine lv_if_ne (tgt := 10) hx hb dX11_write_4 (by decide) (fun _ => ?_) (fun c_0 => absurd c_0 (zD_ne zk_1 zk_z (by decide)))
    refine lv_aload_n hx hb dX11_write_10 rfl (lv_at hl 0 rfl) ?_
    refine z_get hx hb ht hown hK hP ziX11 rfl 0 (by decide) 40 (by decide) hw_5_227 rfl (v := .ref (q 21)) rfl dX11_write_11 ?_
    refine lv_iload_n hx hb dX11_write_14 rfl (lv_at hl 1 rfl) ?_
    refine z_iald hx hb hK hP 21 (by decide) 20 rfl rfl (zR_vin f0_1 (by decide)) dX11_write_15 ?_
    refine z_eqi (y := R 21 (pa0).toNatClampNeg) rfl ?_
    have f_2 : zR (-1) 60 (R 21 (pa0).toNatClampNeg) := mR hI 21 (pa0).toNatClampNeg
    refine lv_iconst (v := (-1)) hx hb dX11_write_16 (by decide +kernel) ?_
    refine lv_icmp_ne (tgt := 23) hx hb dX11_write_17 (by decide) (fun c_3 => ?_) (fun c_3 => ?_)
    · have t_c_3 := z_eqF c_3
      have f_4 : zR 0 60 (R 21 (pa0).toNatClampNeg) := zR_nex t_c_3 f_2 zk_m1 (by decide)
      refine lv_iload_n hx hb dX11_write_23 rfl (lv_at hl 2 rfl) ?_
      refine lv_i2l (v := (pa1).toInt64) hx hb dX11_write_24 rfl ?_
      refine lv_lconst (v := (0 : Int64)) hx hb dX11_write_25 (by decide +kernel) ?_
      refine lv_aload_n hx hb dX11_write_26 rfl (lv_at hl 0 rfl) ?_
      refine z_get hx hb ht hown hK hP ziX11 rfl 0 (by decide) 40 (by decide) hw_5_227 rfl (v := .ref (q 21)) rfl dX11_write_27 ?_
      refine lv_iload_n hx hb dX11_write_30 rfl (lv_at hl 1 rfl) ?_
      refine z_iald hx hb hK hP 21 (by decide) 20 rfl rfl (zR_vin f0_1 (by decide)) dX11_write_31 ?_
      refine z_eqi (y := R 21 (pa0).toNatClampNeg) rfl ?_
      refine lv_iconst (v := nI 1) hx hb dX11_write_32 (by decide +kernel) ?_
      refine lv_isub hx hb dX11_write_33 ?_
      refine z_subc (-1) 59 (-1) f_4 zk_1 (by decide) (fun v_5 hv_5 mv_5 => ?_)
      refine lv_i2l (v := (v_5).toInt64) hx hb dX11_write_34 rfl ?_
      refine z_callSi (As := [.long ((pa1).toInt64), .long ((0 : Int64)), .long ((v_5).toInt64)]) (rest := []) hx hb hml hown ht (mk_X11_in l D q cA F _ _ _ hI ((pa1).toInt64) ((0 : Int64)) ((v_5).toInt64)) hw_6_86 hmX11_in ⟨rfl, rfl⟩ (na := 3) rfl (by decide +kernel) (by decide) hK hP hD hS hA hl.1 rfl (Nat.le_of_ble_eq_true rfl) ⟨Nat.zero_le _, Nat.zero_le _⟩ dX11_write_35 (fun r_6 I_6 R_6 J_6 H locs hp_6 hP hD hS _ _ => ?_)
      rcases hp_6 with ⟨rfl, hu_6, h1_6, h2_6⟩ | ⟨rfl, hu_6, h1_6 | h2_6⟩
      · cases hu_6
        have f_7 : zL 0 2147483647 ((pa1).toInt64) := zL_ley h1_6 zkl_0 (zR_i2l (zR_any (pa1))) (by decide)
        have f_8 : zR 0 2147483647 (pa1) := zL_back f_7
        have f_9 : zL 0 59 ((pa1).toInt64) := zL_lex h2_6 f_7 (zR_i2l hv_5) (by decide)
        have f_10 : zR 0 59 (pa1) := zL_back f_9
        have f_11 : zL 0 59 ((v_5).toInt64) := zL_ley h2_6 f_7 (zR_i2l hv_5) (by decide)
        have f_12 : zR 0 59 (v_5) := zL_back f_11
        refine lv_if_ne (tgt := 44) hx hb dX11_write_38 (by decide) (fun _ => ?_) (fun c_0 => absurd c_0 (zD_ne zk_1 zk_z (by decide)))
        refine lv_aload_n hx hb dX11_write_44 rfl (lv_at hl 0 rfl) ?_
        refine z_get hx hb ht hown hK hP ziX11 rfl 0 (by decide) 42 (by decide) hw_5_229 rfl (v := .ref (q 23)) rfl dX11_write_45 ?_
        refine lv_bipush (v := nI 60) hx hb dX11_write_48 (by decide +kernel) ?_
        refine lv_iload_n hx hb dX11_write_50 rfl (lv_at hl 1 rfl) ?_
        refine lv_imul hx hb dX11_write_51 ?_
        refine z_rng (a := 0) (b := 180) (zR_mul zk_60 f0_1 (by decide)) (fun v_13 hv_13 => ?_)
        refine lv_iload_n hx hb dX11_write_52 rfl (lv_at hl 2 rfl) ?_
        refine lv_iadd hx hb dX11_write_53 ?_
        refine z_rng (a := 0) (b := 239) (zR_add hv_13 f_10 (by decide)) (fun v_14 hv_14 => ?_)
        refine lv_lload_n hx hb dX11_write_54 rfl (lv_at hl 3 rfl) ?_
        refine lv_aload_n hx hb dX11_write_55 rfl (lv_at hl 0 rfl) ?_
        refine z_get hx hb ht hown hK hP ziX11 rfl 0 (by decide) 41 (by decide) hw_5_228 rfl (v := .ref (q 22)) rfl dX11_write_56 ?_
        refine lv_iload_n hx hb dX11_write_59 rfl (lv_at hl 1 rfl) ?_
        refine z_iald hx hb hK hP 22 (by decide) 21 rfl rfl (zR_vin f0_1 (by decide)) dX11_write_60 ?_
        refine z_eqi (y := R 22 (pa0).toNatClampNeg) rfl ?_
        refine z_callSl (As := [.long (pa2), .int (R 22 (pa0).toNatClampNeg)]) (rest := [.int (v_14), .ref (q 23)]) hx hb hml hown ht (mk_X11_cut l D q cA F _ _ _ hI (pa2) (R 22 (pa0).toNatClampNeg)) hw_8_156 hmX11_cut ⟨rfl, rfl⟩ (na := 2) rfl (by decide +kernel) (by decide) hK hP hD hS hA hl.1 rfl (Nat.le_of_ble_eq_true rfl) ⟨Nat.zero_le _, Nat.zero_le _⟩ dX11_write_61 (fun r_15 I_15 R_15 J_15 H locs hp_15 hP hD hS _ _ => ?_)
        cases hp_15
        refine z_last hx hb hK hP hD hS 23 (by decide) 22 (fun _ => rfl) rfl (zR_vin hv_14 (by decide)) dX11_write_64 (fun H locs hP hD hS => ?_)
        have hI_16 := mInv_Ja hI 23 (v_14).toNatClampNeg (r_15) (by decide)
        refine lv_iconst (v := nI 0) hx hb dX11_write_65 (by decide +kernel) ?_
        exact z_iret (v := nI 0) hx hb hr hlocks hP hD hS dX11_write_66 (Or.inr (Or.inr (Or.inr ⟨(by obtain ⟨_, _⟩ := f0_1; omega), (show (F 21 (pa0).toNatClampNeg).toInt ≠ -1 from (by have e9 : (R 21 (pa0).toNatClampNeg).toInt = (F 21 (pa0).toNatClampNeg).toInt := (congrArg Int32.toInt (congrFun (mFr hI 21 rfl) (pa0).toNatClampNeg)); have z1 : (-1 : Int32).toInt = -1 := (by decide +kernel); have _ := t_c_3; omega)), (by have i9 := h1_6; have i8 := h2_6; rw [z_i2l] at i9; rw [z_i2l, z_i2l] at i8; have z2 : (0 : Int64).toInt = 0 := (by decide +kernel); have l9 := mv_5; have e9 : (R 21 (pa0).toNatClampNeg).toInt = (F 21 (pa0).toNatClampNeg).toInt := (congrArg Int32.toInt (congrFun (mFr hI 21 rfl) (pa0).toNatClampNeg)); have z1 : (-1 : Int32).toInt = -1 := (by decide +kernel); have _ := t_c_3; omega), (show pa1.toInt < (F 21 (pa0).toNatClampNeg).toInt from (by have i9 := h1_6; have i8 := h2_6; rw [z_i2l] at i9; rw [z_i2l, z_i2l] at i8; have z2 : (0 : Int64).toInt = 0 := (by decide +kernel); have l9 := mv_5; have e9 : (R 21 (pa0).toNatClampNeg).toInt = (F 21 (pa0).toNatClampNeg).toInt := (congrArg Int32.toInt (congrFun (mFr hI 21 rfl) (pa0).toNatClampNeg)); have z1 : (-1 : Int32).toInt = -1 := (by decide +kernel); have _ := t_c_3; omega)), rfl, hI_16⟩)))
      · cases hu_6
        have f_17 : zL (-2147483648) (-1) ((pa1).toInt64) := zL_ltx h1_6 (zR_i2l (zR_any (pa1))) zkl_0 (by decide)
        have f_18 : zR (-2147483648) (-1) (pa1) := zL_back f_17
        refine lv_if_ne (tgt := 44) hx hb dX11_write_38 (by decide) (fun c_0 => absurd (zD_eq zk_0 zk_z) c_0) (fun _ => ?_)
        refine lv_bipush (v := (-7)) hx hb dX11_write_41 (by decide +kernel) ?_
        exact z_iret (v := (-7)) hx hb hr hlocks hP hD hS dX11_write_43 (Or.inr (Or.inr (Or.inl ⟨(by obtain ⟨_, _⟩ := f0_1; omega), (show (F 21 (pa0).toNatClampNeg).toInt ≠ -1 from (by have e9 : (R 21 (pa0).toNatClampNeg).toInt = (F 21 (pa0).toNatClampNeg).toInt := (congrArg Int32.toInt (congrFun (mFr hI 21 rfl) (pa0).toNatClampNeg)); have z1 : (-1 : Int32).toInt = -1 := (by decide +kernel); have _ := t_c_3; omega)), (show pa1.toInt < 0 ∨ (F 21 (pa0).toNatClampNeg).toInt ≤ pa1.toInt from (by have i9 := h1_6; rw [z_i2l] at i9; have z2 : (0 : Int64).toInt = 0 := (by decide +kernel); have l9 := mv_5; have e9 : (R 21 (pa0).toNatClampNeg).toInt = (F 21 (pa0).toNatClampNeg).toInt := (congrArg Int32.toInt (congrFun (mFr hI 21 rfl) (pa0).toNatClampNeg)); have z1 : (-1 : Int32).toInt = -1 := (by decide +kernel); have _ := t_c_3; omega)), rfl, hI⟩)))
      · cases hu_6
        have f_19 : zL 0 2147483647 ((pa1).toInt64) := zL_lty h2_6 (zR_i2l hv_5) (zR_i2l (zR_any (pa1))) (by decide)
        have f_20 : zR 0 2147483647 (pa1) := zL_back f_19
        refine lv_if_ne (tgt := 44) hx hb dX11_write_38 (by decide) (fun c_0 => absurd (zD_eq zk_0 zk_z) c_0) (fun _ => ?_)
        refine lv_bipush (v := (-7)) hx hb dX11_write_41 (by decide +kernel) ?_
        exact z_iret (v := (-7)) hx hb hr hlocks hP hD hS dX11_write_43 (Or.inr (Or.inr (Or.inl ⟨(by obtain ⟨_, _⟩ := f0_1; omega), (show (F 21 (pa0).toNatClampNeg).toInt ≠ -1 from (by have e9 : (R 21 (pa0).toNatClampNeg).toInt = (F 21 (pa0).toNatClampNeg).toInt := (congrArg Int32.toInt (congrFun (mFr hI 21 rfl) (pa0).toNatClampNeg)); have z1 : (-1 : Int32).toInt = -1 := (by decide +kernel); have _ := t_c_3; omega)), (show pa1.toInt < 0 ∨ (F 21 (pa0).toNatClampNeg).toInt ≤ pa1.toInt from (by have i9 := h2_6; rw [z_i2l, z_i2l] at i9; have z2 : (0 : Int64).toInt = 0 := (by decide +kernel); have l9 := mv_5; have e9 : (R 21 (pa0).toNatClampNeg).toInt = (F 21 (pa0).toNatClampNeg).toInt := (congrArg Int32.toInt (congrFun (mFr hI 21 rfl) (pa0).toNatClampNeg)); have z1 : (-1 : Int32).toInt = -1 := (by decide +kernel); have _ := t_c_3; omega)), rfl, hI⟩)))
    · have t_c_3 := z_eqT c_3
      have f_21 : zR (-1) (-1) (R 21 (pa0).toNatClampNeg) := zR_eqx t_c_3 zk_m1
      refine lv_bipush (v := (-6)) hx hb dX11_write_20 (by decide +kernel) ?_
      exact z_iret (v := (-6)) hx hb hr hlocks hP hD hS dX11_write_22 (Or.inr (Or.inl ⟨(by obtain ⟨_, _⟩ := f0_1; omega), (show (F 21 (pa0).toNatClampNeg).toInt = -1 from (by have e9 : (R 21 (pa0).toNatClampNeg).toInt = (F 21 (pa0).toNatClampNeg).toInt := (congrArg Int32.toInt (congrFun (mFr hI 21 rfl) (pa0).toNatClampNeg)); have z1 : (-1 : Int32).toInt = -1 := (by decide +kernel); have _ := t_c_3; omega)), rfl, hI⟩))
  · cases hu_1
    refine lv_if_ne (tgt := 10) hx hb dX11_write_4 (by decide) (fun c_0 => absurd (zD_eq zk_0 zk_z) c_0) (fun _ => ?_)
    refine lv_bipush (v := (-2)) hx hb dX11_write_7 (by decide +kernel) ?_
    exact z_iret (v := (-2)) hx hb hr hlocks hP hD hS dX11_write_9 (Or.inl ⟨(by obtain ⟨_, _⟩ := (zR_any (pa0)); have _ := nn_1; omega), rfl, hI⟩)
set_option maxHeartbeats 4000000 in
set_option maxRecDepth 100000 in
theorem mk_X11_paste (l : Launch) (D : va_G) (q : Nat → Nat) (cA : Nat → ClassId) (F : Nat → Nat → Int32) (I R : Nat → Nat → Int32) (J : Nat → Nat → Int64) (hI : mInv F (I, R, J)) (pa0 : Int32) (pa1 : Int32) (pa2 : Int32) (pa3 : Int32) (pa4 : Int32) : zMi l D vwCl (zMtys cA) 25 q (zMd q cA) yX11_paste cX11_paste 7 (some .int) ({ frames := 2, cells := 0, slots := 0, locals := 45 } : Room) [.ref (q 0), .int (pa0), .int (pa1), .int (pa2), .int (pa3), .int (pa4)] (I, R, J) (fun r u => ((pa0.toInt < 0 ∨ 3 < pa0.toInt ∨ pa2.toInt < 0 ∨ 3 < pa2.toInt) ∧ r = (-2) ∧ mInv F u) ∨ (¬ (pa0.toInt < 0 ∨ 3 < pa0.toInt ∨ pa2.toInt < 0 ∨ 3 < pa2.toInt) ∧ ((mlen F pa0).toInt = -1 ∨ (mlen F pa2).toInt = -1) ∧ r = (-6) ∧ mInv F u) ∨ (¬ (pa0.toInt < 0 ∨ 3 < pa0.toInt ∨ pa2.toInt < 0 ∨ 3 < pa2.toInt) ∧ ((mlen F pa0).toInt ≠ -1 ∧ (mlen F pa2).toInt ≠ -1) ∧ (mwid F pa0).toInt ≠ (mwid F pa2).toInt ∧ r = (-8) ∧ mInv F u) ∨ (¬ (pa0.toInt < 0 ∨ 3 < pa0.toInt ∨ pa2.toInt < 0 ∨ 3 < pa2.toInt) ∧ ((mlen F pa0).toInt ≠ -1 ∧ (mlen F pa2).toInt ≠ -1) ∧ (mwid F pa0).toInt = (mwid F pa2).toInt ∧ ¬ (0 ≤ pa1.toInt ∧ 0 ≤ pa3.toInt ∧ 0 ≤ pa4.toInt ∧ pa1.toInt + pa4.toInt ≤ (mlen F pa0).toInt ∧ pa3.toInt + pa4.toInt ≤ (mlen F pa2).toInt) ∧ r = (-7) ∧ mInv F u) ∨ (¬ (pa0.toInt < 0 ∨ 3 < pa0.toInt ∨ pa2.toInt < 0 ∨ 3 < pa2.toInt) ∧ ((mlen F pa0).toInt ≠ -1 ∧ (mlen F pa2).toInt ≠ -1) ∧ (mwid F pa0).toInt = (mwid F pa2).toInt ∧ (0 ≤ pa1.toInt ∧ 0 ≤ pa3.toInt ∧ 0 ≤ pa4.toInt ∧ pa1.toInt + pa4.toInt ≤ (mlen F pa0).toInt ∧ pa3.toInt + pa4.toInt ≤ (mlen F pa2).toInt) ∧ r = nI 0 ∧ mInv F u)) := by
  intro sz
  refine z_body (by decide +kernel) (Nat.le_of_ble_eq_true rfl) (fun p e s m below meth c ls hx hb hml hr ht hown hlocks hsz hK hP hD hS hl => ?_)
  have hA : ∀ a, s.heap.size ≤ a → zA 25 q sz a := fun a h => Or.inr (hsz ▸ h)
  have hl : lv_has ls 7 [(0, .ref (q 0)), (1, .int (pa0)), (2, .int (pa1)), (3, .int (pa2)), (4, .int (pa3)), (5, .int (pa4))] := hl
  refine lv_iload_n hx hb dX11_paste_0 rfl (lv_at hl 1 rfl) ?_
  refine z_callSi (As := [.int (pa0)]) (rest := []) hx hb hml hown ht (mk_X11_isSlot l D q cA F _ _ _ hI (pa0)) hw_8_76 hmX11_isSlot ⟨rfl, rfl⟩ (na := 1) rfl (by decide +kernel) (by decide) hK hP hD hS hA hl.1 rfl (Nat.le_of_ble_eq_true rfl) ⟨Nat.zero_le _, Nat.zero_le _⟩ dX11_paste_1 (fun r_1 I_1 R_1 J_1 H locs hp_1 hP hD hS _ _ => ?_)
  rcases hp_1 with ⟨rfl, hu_1, f0_1⟩ | ⟨rfl, hu_1, nn_1⟩
  · cases hu_1
    refine lv_if_eq (tgt := 14) hx hb dX11_paste_4 (by decide) (fun c_0 => absurd c_0 (zD_ne zk_1 zk_z (by decide))) (fun _ => ?_)
    refine lv_iload_n hx hb dX11_paste_7 rfl (lv_at hl 3 rfl) ?_
    refine z_callSi (As := [.int (pa2)]) (rest := []) hx hb hml hown ht (mk_X11_isSlot l D q cA F _ _ _ hI (pa2)) hw_8_76 hmX11_isSlot ⟨rfl, rfl⟩ (na := 1) rfl (by decide +kernel) (by decide) hK hP hD hS hA hl.1 rfl (Nat.le_of_ble_eq_true rfl) ⟨Nat.zero_le _, Nat.zero_le _⟩ dX11_paste_8 (fun r_2 I_2 R_2 J_2 H locs hp_2 hP hD hS _ _ => ?_)
    rcases hp_2 with ⟨rfl, hu_2, f0_2⟩ | ⟨rfl, hu_2, nn_2⟩
    · cases hu_2
      refine lv_if_ne (tgt := 17) hx hb dX11_paste_11 (by decide) (fun _ => ?_) (fun c_0 => absurd c_0 (zD_ne zk_1 zk_z (by decide)))
      refine lv_aload_n hx hb dX11_paste_17 rfl (lv_at hl 0 rfl) ?_
      refine z_get hx hb ht hown hK hP ziX11 rfl 0 (by decide) 40 (by decide) hw_5_227 rfl (v := .ref (q 21)) rfl dX11_paste_18 ?_
      refine lv_iload_n hx hb dX11_paste_21 rfl (lv_at hl 1 rfl) ?_
      refine z_iald hx hb hK hP 21 (by decide) 20 rfl rfl (zR_vin f0_1 (by decide)) dX11_paste_22 ?_
      refine z_eqi (y := R 21 (pa0).toNatClampNeg) rfl ?_
      have f_3 : zR (-1) 60 (R 21 (pa0).toNatClampNeg) := mR hI 21 (pa0).toNatClampNeg
      refine lv_iconst (v := (-1)) hx hb dX11_paste_23 (by decide +kernel) ?_
      refine lv_icmp_eq (tgt := 37) hx hb dX11_paste_24 (by decide) (fun c_4 => ?_) (fun c_4 => ?_)
      · have t_c_4 := z_eqT c_4
        have f_5 : zR (-1) (-1) (R 21 (pa0).toNatClampNeg) := zR_eqx t_c_4 zk_m1
        refine lv_bipush (v := (-6)) hx hb dX11_paste_37 (by decide +kernel) ?_
        exact z_iret (v := (-6)) hx hb hr hlocks hP hD hS dX11_paste_39 (Or.inr (Or.inl ⟨(by obtain ⟨_, _⟩ := f0_1; obtain ⟨_, _⟩ := f0_2; omega), (show (F 21 (pa0).toNatClampNeg).toInt = -1 ∨ (F 21 (pa2).toNatClampNeg).toInt = -1 from (by have e0 : (R 21 (pa0).toNatClampNeg).toInt = (F 21 (pa0).toNatClampNeg).toInt := congrArg Int32.toInt (congrFun (mFr hI 21 rfl) (pa0).toNatClampNeg); have e1 : (R 21 (pa2).toNatClampNeg).toInt = (F 21 (pa2).toNatClampNeg).toInt := congrArg Int32.toInt (congrFun (mFr hI 21 rfl) (pa2).toNatClampNeg); have e2 : (R 22 (pa0).toNatClampNeg).toInt = (F 22 (pa0).toNatClampNeg).toInt := congrArg Int32.toInt (congrFun (mFr hI 22 rfl) (pa0).toNatClampNeg); have e3 : (R 22 (pa2).toNatClampNeg).toInt = (F 22 (pa2).toNatClampNeg).toInt := congrArg Int32.toInt (congrFun (mFr hI 22 rfl) (pa2).toNatClampNeg); have z1 : (-1 : Int32).toInt = -1 := (by decide +kernel); have z0 : (0 : Int32).toInt = 0 := (by decide +kernel); have _ := t_c_4; omega)), rfl, hI⟩))
      · have t_c_4 := z_eqF c_4
        have f_6 : zR 0 60 (R 21 (pa0).toNatClampNeg) := zR_nex t_c_4 f_3 zk_m1 (by decide)
        refine lv_aload_n hx hb dX11_paste_27 rfl (lv_at hl 0 rfl) ?_
        refine z_get hx hb ht hown hK hP ziX11 rfl 0 (by decide) 40 (by decide) hw_5_227 rfl (v := .ref (q 21)) rfl dX11_paste_28 ?_
        refine lv_iload_n hx hb dX11_paste_31 rfl (lv_at hl 3 rfl) ?_
        refine z_iald hx hb hK hP 21 (by decide) 20 rfl rfl (zR_vin f0_2 (by decide)) dX11_paste_32 ?_
        refine z_eqi (y := R 21 (pa2).toNatClampNeg) rfl ?_
        have f_7 : zR (-1) 60 (R 21 (pa2).toNatClampNeg) := mR hI 21 (pa2).toNatClampNeg
        refine lv_iconst (v := (-1)) hx hb dX11_paste_33 (by decide +kernel) ?_
        refine lv_icmp_ne (tgt := 40) hx hb dX11_paste_34 (by decide) (fun c_8 => ?_) (fun c_8 => ?_)
        · have t_c_8 := z_eqF c_8
          have f_9 : zR 0 60 (R 21 (pa2).toNatClampNeg) := zR_nex t_c_8 f_7 zk_m1 (by decide)
          refine lv_aload_n hx hb dX11_paste_40 rfl (lv_at hl 0 rfl) ?_
          refine z_get hx hb ht hown hK hP ziX11 rfl 0 (by decide) 41 (by decide) hw_5_228 rfl (v := .ref (q 22)) rfl dX11_paste_41 ?_
          refine lv_iload_n hx hb dX11_paste_44 rfl (lv_at hl 1 rfl) ?_
          refine z_iald hx hb hK hP 22 (by decide) 21 rfl rfl (zR_vin f0_1 (by decide)) dX11_paste_45 ?_
          refine z_eqi (y := R 22 (pa0).toNatClampNeg) rfl ?_
          refine lv_aload_n hx hb dX11_paste_46 rfl (lv_at hl 0 rfl) ?_
          refine z_get hx hb ht hown hK hP ziX11 rfl 0 (by decide) 41 (by decide) hw_5_228 rfl (v := .ref (q 22)) rfl dX11_paste_47 ?_
          refine lv_iload_n hx hb dX11_paste_50 rfl (lv_at hl 3 rfl) ?_
          refine z_iald hx hb hK hP 22 (by decide) 21 rfl rfl (zR_vin f0_2 (by decide)) dX11_paste_51 ?_
          refine z_eqi (y := R 22 (pa2).toNatClampNeg) rfl ?_
          refine lv_icmp_eq (tgt := 58) hx hb dX11_paste_52 (by decide) (fun c_10 => ?_) (fun c_10 => ?_)
          · have t_c_10 := z_eqT c_10
            refine lv_iload_n hx hb dX11_paste_58 rfl (lv_at hl 2 rfl) ?_
            refine lv_if_lt (tgt := 107) hx hb dX11_paste_59 (by decide) (fun c_11 => ?_) (fun c_11 => ?_)
            · have t_c_11 := z_ltT c_11
              have f_12 : zR (-2147483648) (-1) (pa1) := zR_ltx t_c_11 (zR_any (pa1)) zk_z (by decide)
              refine lv_bipush (v := (-7)) hx hb dX11_paste_107 (by decide +kernel) ?_
              exact z_iret (v := (-7)) hx hb hr hlocks hP hD hS dX11_paste_109 (Or.inr (Or.inr (Or.inr (Or.inl ⟨(by obtain ⟨_, _⟩ := f0_1; obtain ⟨_, _⟩ := f0_2; omega), (show (F 21 (pa0).toNatClampNeg).toInt ≠ -1 ∧ (F 21 (pa2).toNatClampNeg).toInt ≠ -1 from (by have e0 : (R 21 (pa0).toNatClampNeg).toInt = (F 21 (pa0).toNatClampNeg).toInt := congrArg Int32.toInt (congrFun (mFr hI 21 rfl) (pa0).toNatClampNeg); have e1 : (R 21 (pa2).toNatClampNeg).toInt = (F 21 (pa2).toNatClampNeg).toInt := congrArg Int32.toInt (congrFun (mFr hI 21 rfl) (pa2).toNatClampNeg); have e2 : (R 22 (pa0).toNatClampNeg).toInt = (F 22 (pa0).toNatClampNeg).toInt := congrArg Int32.toInt (congrFun (mFr hI 22 rfl) (pa0).toNatClampNeg); have e3 : (R 22 (pa2).toNatClampNeg).toInt = (F 22 (pa2).toNatClampNeg).toInt := congrArg Int32.toInt (congrFun (mFr hI 22 rfl) (pa2).toNatClampNeg); have z1 : (-1 : Int32).toInt = -1 := (by decide +kernel); have z0 : (0 : Int32).toInt = 0 := (by decide +kernel); have _ := t_c_4; have _ := t_c_8; omega)), (show (F 22 (pa0).toNatClampNeg).toInt = (F 22 (pa2).toNatClampNeg).toInt from (by have e0 : (R 21 (pa0).toNatClampNeg).toInt = (F 21 (pa0).toNatClampNeg).toInt := congrArg Int32.toInt (congrFun (mFr hI 21 rfl) (pa0).toNatClampNeg); have e1 : (R 21 (pa2).toNatClampNeg).toInt = (F 21 (pa2).toNatClampNeg).toInt := congrArg Int32.toInt (congrFun (mFr hI 21 rfl) (pa2).toNatClampNeg); have e2 : (R 22 (pa0).toNatClampNeg).toInt = (F 22 (pa0).toNatClampNeg).toInt := congrArg Int32.toInt (congrFun (mFr hI 22 rfl) (pa0).toNatClampNeg); have e3 : (R 22 (pa2).toNatClampNeg).toInt = (F 22 (pa2).toNatClampNeg).toInt := congrArg Int32.toInt (congrFun (mFr hI 22 rfl) (pa2).toNatClampNeg); have z1 : (-1 : Int32).toInt = -1 := (by decide +kernel); have z0 : (0 : Int32).toInt = 0 := (by decide +kernel); have _ := t_c_10; omega)), (show ¬ (0 ≤ pa1.toInt ∧ 0 ≤ pa3.toInt ∧ 0 ≤ pa4.toInt ∧ pa1.toInt + pa4.toInt ≤ (F 21 (pa0).toNatClampNeg).toInt ∧ pa3.toInt + pa4.toInt ≤ (F 21 (pa2).toNatClampNeg).toInt) from (by have e0 : (R 21 (pa0).toNatClampNeg).toInt = (F 21 (pa0).toNatClampNeg).toInt := congrArg Int32.toInt (congrFun (mFr hI 21 rfl) (pa0).toNatClampNeg); have e1 : (R 21 (pa2).toNatClampNeg).toInt = (F 21 (pa2).toNatClampNeg).toInt := congrArg Int32.toInt (congrFun (mFr hI 21 rfl) (pa2).toNatClampNeg); have e2 : (R 22 (pa0).toNatClampNeg).toInt = (F 22 (pa0).toNatClampNeg).toInt := congrArg Int32.toInt (congrFun (mFr hI 22 rfl) (pa0).toNatClampNeg); have e3 : (R 22 (pa2).toNatClampNeg).toInt = (F 22 (pa2).toNatClampNeg).toInt := congrArg Int32.toInt (congrFun (mFr hI 22 rfl) (pa2).toNatClampNeg); have z1 : (-1 : Int32).toInt = -1 := (by decide +kernel); have z0 : (0 : Int32).toInt = 0 := (by decide +kernel); have _ := t_c_11; omega)), rfl, hI⟩))))
            · have t_c_11 := z_ltF c_11
              have f_13 : zR 0 2147483647 (pa1) := zR_ley t_c_11 zk_z (zR_any (pa1)) (by decide)
              refine lv_iload hx hb dX11_paste_62 (lv_at hl 4 rfl) ?_
              refine lv_if_lt (tgt := 107) hx hb dX11_paste_64 (by decide) (fun c_14 => ?_) (fun c_14 => ?_)
              · have t_c_14 := z_ltT c_14
                have f_15 : zR (-2147483648) (-1) (pa3) := zR_ltx t_c_14 (zR_any (pa3)) zk_z (by decide)
                refine lv_bipush (v := (-7)) hx hb dX11_paste_107 (by decide +kernel) ?_
                exact z_iret (v := (-7)) hx hb hr hlocks hP hD hS dX11_paste_109 (Or.inr (Or.inr (Or.inr (Or.inl ⟨(by obtain ⟨_, _⟩ := f0_1; obtain ⟨_, _⟩ := f0_2; omega), (show (F 21 (pa0).toNatClampNeg).toInt ≠ -1 ∧ (F 21 (pa2).toNatClampNeg).toInt ≠ -1 from (by have e0 : (R 21 (pa0).toNatClampNeg).toInt = (F 21 (pa0).toNatClampNeg).toInt := congrArg Int32.toInt (congrFun (mFr hI 21 rfl) (pa0).toNatClampNeg); have e1 : (R 21 (pa2).toNatClampNeg).toInt = (F 21 (pa2).toNatClampNeg).toInt := congrArg Int32.toInt (congrFun (mFr hI 21 rfl) (pa2).toNatClampNeg); have e2 : (R 22 (pa0).toNatClampNeg).toInt = (F 22 (pa0).toNatClampNeg).toInt := congrArg Int32.toInt (congrFun (mFr hI 22 rfl) (pa0).toNatClampNeg); have e3 : (R 22 (pa2).toNatClampNeg).toInt = (F 22 (pa2).toNatClampNeg).toInt := congrArg Int32.toInt (congrFun (mFr hI 22 rfl) (pa2).toNatClampNeg); have z1 : (-1 : Int32).toInt = -1 := (by decide +kernel); have z0 : (0 : Int32).toInt = 0 := (by decide +kernel); have _ := t_c_4; have _ := t_c_8; omega)), (show (F 22 (pa0).toNatClampNeg).toInt = (F 22 (pa2).toNatClampNeg).toInt from (by have e0 : (R 21 (pa0).toNatClampNeg).toInt = (F 21 (pa0).toNatClampNeg).toInt := congrArg Int32.toInt (congrFun (mFr hI 21 rfl) (pa0).toNatClampNeg); have e1 : (R 21 (pa2).toNatClampNeg).toInt = (F 21 (pa2).toNatClampNeg).toInt := congrArg Int32.toInt (congrFun (mFr hI 21 rfl) (pa2).toNatClampNeg); have e2 : (R 22 (pa0).toNatClampNeg).toInt = (F 22 (pa0).toNatClampNeg).toInt := congrArg Int32.toInt (congrFun (mFr hI 22 rfl) (pa0).toNatClampNeg); have e3 : (R 22 (pa2).toNatClampNeg).toInt = (F 22 (pa2).toNatClampNeg).toInt := congrArg Int32.toInt (congrFun (mFr hI 22 rfl) (pa2).toNatClampNeg); have z1 : (-1 : Int32).toInt = -1 := (by decide +kernel); have z0 : (0 : Int32).toInt = 0 := (by decide +kernel); have _ := t_c_10; omega)), (show ¬ (0 ≤ pa1.toInt ∧ 0 ≤ pa3.toInt ∧ 0 ≤ pa4.toInt ∧ pa1.toInt + pa4.toInt ≤ (F 21 (pa0).toNatClampNeg).toInt ∧ pa3.toInt + pa4.toInt ≤ (F 21 (pa2).toNatClampNeg).toInt) from (by have e0 : (R 21 (pa0).toNatClampNeg).toInt = (F 21 (pa0).toNatClampNeg).toInt := congrArg Int32.toInt (congrFun (mFr hI 21 rfl) (pa0).toNatClampNeg); have e1 : (R 21 (pa2).toNatClampNeg).toInt = (F 21 (pa2).toNatClampNeg).toInt := congrArg Int32.toInt (congrFun (mFr hI 21 rfl) (pa2).toNatClampNeg); have e2 : (R 22 (pa0).toNatClampNeg).toInt = (F 22 (pa0).toNatClampNeg).toInt := congrArg Int32.toInt (congrFun (mFr hI 22 rfl) (pa0).toNatClampNeg); have e3 : (R 22 (pa2).toNatClampNeg).toInt = (F 22 (pa2).toNatClampNeg).toInt := congrArg Int32.toInt (congrFun (mFr hI 22 rfl) (pa2).toNatClampNeg); have z1 : (-1 : Int32).toInt = -1 := (by decide +kernel); have z0 : (0 : Int32).toInt = 0 := (by decide +kernel); have _ := t_c_11; have _ := t_c_14; omega)), rfl, hI⟩))))
              · have t_c_14 := z_ltF c_14
                have f_16 : zR 0 2147483647 (pa3) := zR_ley t_c_14 zk_z (zR_any (pa3)) (by decide)
                refine lv_iload hx hb dX11_paste_67 (lv_at hl 5 rfl) ?_
                refine lv_if_lt (tgt := 107) hx hb dX11_paste_69 (by decide) (fun c_17 => ?_) (fun c_17 => ?_)
                · have t_c_17 := z_ltT c_17
                  have f_18 : zR (-2147483648) (-1) (pa4) := zR_ltx t_c_17 (zR_any (pa4)) zk_z (by decide)
                  refine lv_bipush (v := (-7)) hx hb dX11_paste_107 (by decide +kernel) ?_
                  exact z_iret (v := (-7)) hx hb hr hlocks hP hD hS dX11_paste_109 (Or.inr (Or.inr (Or.inr (Or.inl ⟨(by obtain ⟨_, _⟩ := f0_1; obtain ⟨_, _⟩ := f0_2; omega), (show (F 21 (pa0).toNatClampNeg).toInt ≠ -1 ∧ (F 21 (pa2).toNatClampNeg).toInt ≠ -1 from (by have e0 : (R 21 (pa0).toNatClampNeg).toInt = (F 21 (pa0).toNatClampNeg).toInt := congrArg Int32.toInt (congrFun (mFr hI 21 rfl) (pa0).toNatClampNeg); have e1 : (R 21 (pa2).toNatClampNeg).toInt = (F 21 (pa2).toNatClampNeg).toInt := congrArg Int32.toInt (congrFun (mFr hI 21 rfl) (pa2).toNatClampNeg); have e2 : (R 22 (pa0).toNatClampNeg).toInt = (F 22 (pa0).toNatClampNeg).toInt := congrArg Int32.toInt (congrFun (mFr hI 22 rfl) (pa0).toNatClampNeg); have e3 : (R 22 (pa2).toNatClampNeg).toInt = (F 22 (pa2).toNatClampNeg).toInt := congrArg Int32.toInt (congrFun (mFr hI 22 rfl) (pa2).toNatClampNeg); have z1 : (-1 : Int32).toInt = -1 := (by decide +kernel); have z0 : (0 : Int32).toInt = 0 := (by decide +kernel); have _ := t_c_4; have _ := t_c_8; omega)), (show (F 22 (pa0).toNatClampNeg).toInt = (F 22 (pa2).toNatClampNeg).toInt from (by have e0 : (R 21 (pa0).toNatClampNeg).toInt = (F 21 (pa0).toNatClampNeg).toInt := congrArg Int32.toInt (congrFun (mFr hI 21 rfl) (pa0).toNatClampNeg); have e1 : (R 21 (pa2).toNatClampNeg).toInt = (F 21 (pa2).toNatClampNeg).toInt := congrArg Int32.toInt (congrFun (mFr hI 21 rfl) (pa2).toNatClampNeg); have e2 : (R 22 (pa0).toNatClampNeg).toInt = (F 22 (pa0).toNatClampNeg).toInt := congrArg Int32.toInt (congrFun (mFr hI 22 rfl) (pa0).toNatClampNeg); have e3 : (R 22 (pa2).toNatClampNeg).toInt = (F 22 (pa2).toNatClampNeg).toInt := congrArg Int32.toInt (congrFun (mFr hI 22 rfl) (pa2).toNatClampNeg); have z1 : (-1 : Int32).toInt = -1 := (by decide +kernel); have z0 : (0 : Int32).toInt = 0 := (by decide +kernel); have _ := t_c_10; omega)), (show ¬ (0 ≤ pa1.toInt ∧ 0 ≤ pa3.toInt ∧ 0 ≤ pa4.toInt ∧ pa1.toInt + pa4.toInt ≤ (F 21 (pa0).toNatClampNeg).toInt ∧ pa3.toInt + pa4.toInt ≤ (F 21 (pa2).toNatClampNeg).toInt) from (by have e0 : (R 21 (pa0).toNatClampNeg).toInt = (F 21 (pa0).toNatClampNeg).toInt := congrArg Int32.toInt (congrFun (mFr hI 21 rfl) (pa0).toNatClampNeg); have e1 : (R 21 (pa2).toNatClampNeg).toInt = (F 21 (pa2).toNatClampNeg).toInt := congrArg Int32.toInt (congrFun (mFr hI 21 rfl) (pa2).toNatClampNeg); have e2 : (R 22 (pa0).toNatClampNeg).toInt = (F 22 (pa0).toNatClampNeg).toInt := congrArg Int32.toInt (congrFun (mFr hI 22 rfl) (pa0).toNatClampNeg); have e3 : (R 22 (pa2).toNatClampNeg).toInt = (F 22 (pa2).toNatClampNeg).toInt := congrArg Int32.toInt (congrFun (mFr hI 22 rfl) (pa2).toNatClampNeg); have z1 : (-1 : Int32).toInt = -1 := (by decide +kernel); have z0 : (0 : Int32).toInt = 0 := (by decide +kernel); have _ := t_c_11; have _ := t_c_14; have _ := t_c_17; omega)), rfl, hI⟩))))
                · have t_c_17 := z_ltF c_17
                  have f_19 : zR 0 2147483647 (pa4) := zR_ley t_c_17 zk_z (zR_any (pa4)) (by decide)
                  refine lv_iload_n hx hb dX11_paste_72 rfl (lv_at hl 2 rfl) ?_
                  refine lv_i2l (v := (pa1).toInt64) hx hb dX11_paste_73 rfl ?_
                  refine lv_iload hx hb dX11_paste_74 (lv_at hl 5 rfl) ?_
                  refine lv_i2l (v := (pa4).toInt64) hx hb dX11_paste_76 rfl ?_
                  refine lv_ladd hx hb dX11_paste_77 ?_
                  refine lv_topl (fun j_20 ej_20 => ?_)
                  have hj_20 : zL 0 4294967294 j_20 := ej_20 ▸ zL_add (zR_i2l f_13) (zR_i2l f_19) (by decide)
                  refine lv_aload_n hx hb dX11_paste_78 rfl (lv_at hl 0 rfl) ?_
                  refine z_get hx hb ht hown hK hP ziX11 rfl 0 (by decide) 40 (by decide) hw_5_227 rfl (v := .ref (q 21)) rfl dX11_paste_79 ?_
                  refine lv_iload_n hx hb dX11_paste_82 rfl (lv_at hl 1 rfl) ?_
                  refine z_iald hx hb hK hP 21 (by decide) 20 rfl rfl (zR_vin f0_1 (by decide)) dX11_paste_83 ?_
                  refine z_eqi (y := R 21 (pa0).toNatClampNeg) rfl ?_
                  refine lv_i2l (v := (R 21 (pa0).toNatClampNeg).toInt64) hx hb dX11_paste_84 rfl ?_
                  refine W.lcmp hx hb dX11_paste_85 ?_
                  refine lv_if_gt (tgt := 107) hx hb dX11_paste_86 (by decide) (fun c_21 => ?_) (fun c_21 => ?_)
                  · have t_c_21 := z_lltT ((lg_cmp_gt _ _).mp c_21)
                    have f_22 : zL 1 4294967294 (j_20) := zL_lty t_c_21 (zR_i2l f_6) hj_20 (by decide)
                    refine lv_bipush (v := (-7)) hx hb dX11_paste_107 (by decide +kernel) ?_
                    exact z_iret (v := (-7)) hx hb hr hlocks hP hD hS dX11_paste_109 (Or.inr (Or.inr (Or.inr (Or.inl ⟨(by obtain ⟨_, _⟩ := f0_1; obtain ⟨_, _⟩ := f0_2; omega), (show (F 21 (pa0).toNatClampNeg).toInt ≠ -1 ∧ (F 21 (pa2).toNatClampNeg).toInt ≠ -1 from (by have e0 : (R 21 (pa0).toNatClampNeg).toInt = (F 21 (pa0).toNatClampNeg).toInt := congrArg Int32.toInt (congrFun (mFr hI 21 rfl) (pa0).toNatClampNeg); have e1 : (R 21 (pa2).toNatClampNeg).toInt = (F 21 (pa2).toNatClampNeg).toInt := congrArg Int32.toInt (congrFun (mFr hI 21 rfl) (pa2).toNatClampNeg); have e2 : (R 22 (pa0).toNatClampNeg).toInt = (F 22 (pa0).toNatClampNeg).toInt := congrArg Int32.toInt (congrFun (mFr hI 22 rfl) (pa0).toNatClampNeg); have e3 : (R 22 (pa2).toNatClampNeg).toInt = (F 22 (pa2).toNatClampNeg).toInt := congrArg Int32.toInt (congrFun (mFr hI 22 rfl) (pa2).toNatClampNeg); have z1 : (-1 : Int32).toInt = -1 := (by decide +kernel); have z0 : (0 : Int32).toInt = 0 := (by decide +kernel); have _ := t_c_4; have _ := t_c_8; omega)), (show (F 22 (pa0).toNatClampNeg).toInt = (F 22 (pa2).toNatClampNeg).toInt from (by have e0 : (R 21 (pa0).toNatClampNeg).toInt = (F 21 (pa0).toNatClampNeg).toInt := congrArg Int32.toInt (congrFun (mFr hI 21 rfl) (pa0).toNatClampNeg); have e1 : (R 21 (pa2).toNatClampNeg).toInt = (F 21 (pa2).toNatClampNeg).toInt := congrArg Int32.toInt (congrFun (mFr hI 21 rfl) (pa2).toNatClampNeg); have e2 : (R 22 (pa0).toNatClampNeg).toInt = (F 22 (pa0).toNatClampNeg).toInt := congrArg Int32.toInt (congrFun (mFr hI 22 rfl) (pa0).toNatClampNeg); have e3 : (R 22 (pa2).toNatClampNeg).toInt = (F 22 (pa2).toNatClampNeg).toInt := congrArg Int32.toInt (congrFun (mFr hI 22 rfl) (pa2).toNatClampNeg); have z1 : (-1 : Int32).toInt = -1 := (by decide +kernel); have z0 : (0 : Int32).toInt = 0 := (by decide +kernel); have _ := t_c_10; omega)), (show ¬ (0 ≤ pa1.toInt ∧ 0 ≤ pa3.toInt ∧ 0 ≤ pa4.toInt ∧ pa1.toInt + pa4.toInt ≤ (F 21 (pa0).toNatClampNeg).toInt ∧ pa3.toInt + pa4.toInt ≤ (F 21 (pa2).toNatClampNeg).toInt) from (by have e0 : (R 21 (pa0).toNatClampNeg).toInt = (F 21 (pa0).toNatClampNeg).toInt := congrArg Int32.toInt (congrFun (mFr hI 21 rfl) (pa0).toNatClampNeg); have e1 : (R 21 (pa2).toNatClampNeg).toInt = (F 21 (pa2).toNatClampNeg).toInt := congrArg Int32.toInt (congrFun (mFr hI 21 rfl) (pa2).toNatClampNeg); have e2 : (R 22 (pa0).toNatClampNeg).toInt = (F 22 (pa0).toNatClampNeg).toInt := congrArg Int32.toInt (congrFun (mFr hI 22 rfl) (pa0).toNatClampNeg); have e3 : (R 22 (pa2).toNatClampNeg).toInt = (F 22 (pa2).toNatClampNeg).toInt := congrArg Int32.toInt (congrFun (mFr hI 22 rfl) (pa2).toNatClampNeg); have z1 : (-1 : Int32).toInt = -1 := (by decide +kernel); have z0 : (0 : Int32).toInt = 0 := (by decide +kernel); have _ := t_c_11; have _ := t_c_14; have _ := t_c_17; have l86 := t_c_21; rw [z_i2l, m_lsum ej_20] at l86; omega)), rfl, hI⟩))))
                  · have t_c_21 := z_lltF (fun h => c_21 ((lg_cmp_gt _ _).mpr h))
                    have f_23 : zL 0 60 (j_20) := zL_lex t_c_21 hj_20 (zR_i2l f_6) (by decide)
                    refine lv_iload hx hb dX11_paste_89 (lv_at hl 4 rfl) ?_
                    refine lv_i2l (v := (pa3).toInt64) hx hb dX11_paste_91 rfl ?_
                    refine lv_iload hx hb dX11_paste_92 (lv_at hl 5 rfl) ?_
                    refine lv_i2l (v := (pa4).toInt64) hx hb dX11_paste_94 rfl ?_
                    refine lv_ladd hx hb dX11_paste_95 ?_
                    refine lv_topl (fun j_24 ej_24 => ?_)
                    have hj_24 : zL 0 4294967294 j_24 := ej_24 ▸ zL_add (zR_i2l f_16) (zR_i2l f_19) (by decide)
                    refine lv_aload_n hx hb dX11_paste_96 rfl (lv_at hl 0 rfl) ?_
                    refine z_get hx hb ht hown hK hP ziX11 rfl 0 (by decide) 40 (by decide) hw_5_227 rfl (v := .ref (q 21)) rfl dX11_paste_97 ?_
                    refine lv_iload_n hx hb dX11_paste_100 rfl (lv_at hl 3 rfl) ?_
                    refine z_iald hx hb hK hP 21 (by decide) 20 rfl rfl (zR_vin f0_2 (by decide)) dX11_paste_101 ?_
                    refine z_eqi (y := R 21 (pa2).toNatClampNeg) rfl ?_
                    refine lv_i2l (v := (R 21 (pa2).toNatClampNeg).toInt64) hx hb dX11_paste_102 rfl ?_
                    refine W.lcmp hx hb dX11_paste_103 ?_
                    refine lv_if_le (tgt := 110) hx hb dX11_paste_104 (by decide) (fun c_25 => ?_) (fun c_25 => ?_)
                    · have t_c_25 := z_lleT ((lg_cmp_le _ _).mp c_25)
                      have f_26 : zL 0 60 (j_24) := zL_lex t_c_25 hj_24 (zR_i2l f_9) (by decide)
                      have hA_27 : (pa1).toInt + (pa4).toInt ≤ 60 := by have h9 := t_c_21; rw [z_i2l, m_lsum ej_20] at h9; have := (show zR (-1) 60 (R 21 (pa0).toNatClampNeg) from mR hI 21 _).2; omega
                      have hB_27 : (pa3).toInt + (pa4).toInt ≤ 60 := by have h9 := t_c_25; rw [z_i2l, m_lsum ej_24] at h9; have := (show zR (-1) 60 (R 21 (pa2).toNatClampNeg) from mR hI 21 _).2; omega
                      have hC_27 : zR 0 60 (pa4) := by obtain ⟨_, _⟩ := f_13; obtain ⟨_, _⟩ := f_19; exact ⟨by omega, by omega⟩
                      refine lv_iconst (v := nI 0) hx hb dX11_paste_110 (by decide +kernel) ?_
                      refine lv_istore (lv' := [(6, .int (nI 0)), (0, .ref (q 0)), (1, .int (pa0)), (2, .int (pa1)), (3, .int (pa2)), (4, .int (pa3)), (5, .int (pa4))]) hx hb dX11_paste_111 hl (by decide) rfl (fun ls hl => ?_)
                      have loop_67 : ∀ N : Nat, ∀ x_65 : Int32, zR 0 60 x_65 → ∀ J_66 : Nat → Nat → Int64, mInv F (I, R, J_66) → (2147483648 - (x_65).toInt).toNat < N → ∀ (H : Heap) (locs : List Loc), va_P D vwCl (zw 25 q (zMd q cA) I R J_66) H → va_D (zA 25 q sz) (zw 25 q (zMd q cA) I R J_66) → va_S (zA 25 q sz) s.heap H locs → ∀ ls : Array Slot, lv_has ls 7 [(0, .ref (q 0)), (1, .int (pa0)), (2, .int (pa1)), (3, .int (pa2)), (4, .int (pa3)), (5, .int (pa4)), (6, .int (x_65))] → W p l e ({ frames := 2, cells := 0, slots := 0, locals := 45 } : Room) s m ([.ref (q 0), .int (pa0), .int (pa1), .int (pa2), .int (pa3), .int (pa4)] : List Value).toArray below meth c H locs 0 0 (MQ below (va_Qi (fun r u => ((pa0.toInt < 0 ∨ 3 < pa0.toInt ∨ pa2.toInt < 0 ∨ 3 < pa2.toInt) ∧ r = (-2) ∧ mInv F u) ∨ (¬ (pa0.toInt < 0 ∨ 3 < pa0.toInt ∨ pa2.toInt < 0 ∨ 3 < pa2.toInt) ∧ ((mlen F pa0).toInt = -1 ∨ (mlen F pa2).toInt = -1) ∧ r = (-6) ∧ mInv F u) ∨ (¬ (pa0.toInt < 0 ∨ 3 < pa0.toInt ∨ pa2.toInt < 0 ∨ 3 < pa2.toInt) ∧ ((mlen F pa0).toInt ≠ -1 ∧ (mlen F pa2).toInt ≠ -1) ∧ (mwid F pa0).toInt ≠ (mwid F pa2).toInt ∧ r = (-8) ∧ mInv F u) ∨ (¬ (pa0.toInt < 0 ∨ 3 < pa0.toInt ∨ pa2.toInt < 0 ∨ 3 < pa2.toInt) ∧ ((mlen F pa0).toInt ≠ -1 ∧ (mlen F pa2).toInt ≠ -1) ∧ (mwid F pa0).toInt = (mwid F pa2).toInt ∧ ¬ (0 ≤ pa1.toInt ∧ 0 ≤ pa3.toInt ∧ 0 ≤ pa4.toInt ∧ pa1.toInt + pa4.toInt ≤ (mlen F pa0).toInt ∧ pa3.toInt + pa4.toInt ≤ (mlen F pa2).toInt) ∧ r = (-7) ∧ mInv F u) ∨ (¬ (pa0.toInt < 0 ∨ 3 < pa0.toInt ∨ pa2.toInt < 0 ∨ 3 < pa2.toInt) ∧ ((mlen F pa0).toInt ≠ -1 ∧ (mlen F pa2).toInt ≠ -1) ∧ (mwid F pa0).toInt = (mwid F pa2).toInt ∧ (0 ≤ pa1.toInt ∧ 0 ≤ pa3.toInt ∧ 0 ≤ pa4.toInt ∧ pa1.toInt + pa4.toInt ≤ (mlen F pa0).toInt ∧ pa3.toInt + pa4.toInt ≤ (mlen F pa2).toInt) ∧ r = nI 0 ∧ mInv F u)) (zB D vwCl 25 q (zMd q cA) sz) (zA 25 q sz)) ([.ref (q 0), .int (pa0), .int (pa1), .int (pa2), .int (pa3), .int (pa4)] : List Value).toArray s 0 0 (zA 25 q sz)) (F0 m 113 ls []) := by
                        intro N
                        induction N with
                        | zero => intro x_65 hx_65 J_66 hI_66 hN; exact absurd hN (Nat.not_lt_zero _)
                        | succ N ih_69 =>
                          intro x_65 hx_65 J_66 hI_66 hN_68 H locs hP hD hS ls hl
                          refine lv_iload hx hb dX11_paste_113 (lv_at hl 6 rfl) ?_
                          refine lv_iload hx hb dX11_paste_115 (lv_at hl 5 rfl) ?_
                          refine lv_icmp_ge (tgt := 147) hx hb dX11_paste_117 (by decide) (fun c_70 => ?_) (fun c_70 => ?_)
                          · have t_c_70 := z_leT c_70
                            refine lv_iconst (v := nI 0) hx hb dX11_paste_147 (by decide +kernel) ?_
                            refine lv_istore (lv' := [(6, .int (nI 0)), (0, .ref (q 0)), (1, .int (pa0)), (2, .int (pa1)), (3, .int (pa2)), (4, .int (pa3)), (5, .int (pa4))]) hx hb dX11_paste_148 hl (by decide) rfl (fun ls hl => ?_)
                            have loop_117 : ∀ N : Nat, ∀ x_115 : Int32, zR 0 60 x_115 → ∀ J_116 : Nat → Nat → Int64, mInv F (I, R, J_116) → (2147483648 - (x_115).toInt).toNat < N → ∀ (H : Heap) (locs : List Loc), va_P D vwCl (zw 25 q (zMd q cA) I R J_116) H → va_D (zA 25 q sz) (zw 25 q (zMd q cA) I R J_116) → va_S (zA 25 q sz) s.heap H locs → ∀ ls : Array Slot, lv_has ls 7 [(0, .ref (q 0)), (1, .int (pa0)), (2, .int (pa1)), (3, .int (pa2)), (4, .int (pa3)), (5, .int (pa4)), (6, .int (x_115))] → W p l e ({ frames := 2, cells := 0, slots := 0, locals := 45 } : Room) s m ([.ref (q 0), .int (pa0), .int (pa1), .int (pa2), .int (pa3), .int (pa4)] : List Value).toArray below meth c H locs 0 0 (MQ below (va_Qi (fun r u => ((pa0.toInt < 0 ∨ 3 < pa0.toInt ∨ pa2.toInt < 0 ∨ 3 < pa2.toInt) ∧ r = (-2) ∧ mInv F u) ∨ (¬ (pa0.toInt < 0 ∨ 3 < pa0.toInt ∨ pa2.toInt < 0 ∨ 3 < pa2.toInt) ∧ ((mlen F pa0).toInt = -1 ∨ (mlen F pa2).toInt = -1) ∧ r = (-6) ∧ mInv F u) ∨ (¬ (pa0.toInt < 0 ∨ 3 < pa0.toInt ∨ pa2.toInt < 0 ∨ 3 < pa2.toInt) ∧ ((mlen F pa0).toInt ≠ -1 ∧ (mlen F pa2).toInt ≠ -1) ∧ (mwid F pa0).toInt ≠ (mwid F pa2).toInt ∧ r = (-8) ∧ mInv F u) ∨ (¬ (pa0.toInt < 0 ∨ 3 < pa0.toInt ∨ pa2.toInt < 0 ∨ 3 < pa2.toInt) ∧ ((mlen F pa0).toInt ≠ -1 ∧ (mlen F pa2).toInt ≠ -1) ∧ (mwid F pa0).toInt = (mwid F pa2).toInt ∧ ¬ (0 ≤ pa1.toInt ∧ 0 ≤ pa3.toInt ∧ 0 ≤ pa4.toInt ∧ pa1.toInt + pa4.toInt ≤ (mlen F pa0).toInt ∧ pa3.toInt + pa4.toInt ≤ (mlen F pa2).toInt) ∧ r = (-7) ∧ mInv F u) ∨ (¬ (pa0.toInt < 0 ∨ 3 < pa0.toInt ∨ pa2.toInt < 0 ∨ 3 < pa2.toInt) ∧ ((mlen F pa0).toInt ≠ -1 ∧ (mlen F pa2).toInt ≠ -1) ∧ (mwid F pa0).toInt = (mwid F pa2).toInt ∧ (0 ≤ pa1.toInt ∧ 0 ≤ pa3.toInt ∧ 0 ≤ pa4.toInt ∧ pa1.toInt + pa4.toInt ≤ (mlen F pa0).toInt ∧ pa3.toInt + pa4.toInt ≤ (mlen F pa2).toInt) ∧ r = nI 0 ∧ mInv F u)) (zB D vwCl 25 q (zMd q cA) sz) (zA 25 q sz)) ([.ref (q 0), .int (pa0), .int (pa1), .int (pa2), .int (pa3), .int (pa4)] : List Value).toArray s 0 0 (zA 25 q sz)) (F0 m 150 ls []) := by
                              intro N
                              induction N with
                              | zero => intro x_115 hx_115 J_116 hI_116 hN; exact absurd hN (Nat.not_lt_zero _)
                              | succ N ih_119 =>
                                intro x_115 hx_115 J_116 hI_116 hN_118 H locs hP hD hS ls hl
                                refine lv_iload hx hb dX11_paste_150 (lv_at hl 6 rfl) ?_
                                refine lv_iload hx hb dX11_paste_152 (lv_at hl 5 rfl) ?_
                                refine lv_icmp_ge (tgt := 185) hx hb dX11_paste_154 (by decide) (fun c_120 => ?_) (fun c_120 => ?_)
                                · have t_c_120 := z_leT c_120
                                  refine lv_iconst (v := nI 0) hx hb dX11_paste_185 (by decide +kernel) ?_
                                  exact z_iret (v := nI 0) hx hb hr hlocks hP hD hS dX11_paste_186 (Or.inr (Or.inr (Or.inr (Or.inr ⟨(by obtain ⟨_, _⟩ := f0_1; obtain ⟨_, _⟩ := f0_2; omega), (show (F 21 (pa0).toNatClampNeg).toInt ≠ -1 ∧ (F 21 (pa2).toNatClampNeg).toInt ≠ -1 from (by have e0 : (R 21 (pa0).toNatClampNeg).toInt = (F 21 (pa0).toNatClampNeg).toInt := congrArg Int32.toInt (congrFun (mFr hI 21 rfl) (pa0).toNatClampNeg); have e1 : (R 21 (pa2).toNatClampNeg).toInt = (F 21 (pa2).toNatClampNeg).toInt := congrArg Int32.toInt (congrFun (mFr hI 21 rfl) (pa2).toNatClampNeg); have e2 : (R 22 (pa0).toNatClampNeg).toInt = (F 22 (pa0).toNatClampNeg).toInt := congrArg Int32.toInt (congrFun (mFr hI 22 rfl) (pa0).toNatClampNeg); have e3 : (R 22 (pa2).toNatClampNeg).toInt = (F 22 (pa2).toNatClampNeg).toInt := congrArg Int32.toInt (congrFun (mFr hI 22 rfl) (pa2).toNatClampNeg); have z1 : (-1 : Int32).toInt = -1 := (by decide +kernel); have z0 : (0 : Int32).toInt = 0 := (by decide +kernel); have _ := t_c_4; have _ := t_c_8; omega)), (show (F 22 (pa0).toNatClampNeg).toInt = (F 22 (pa2).toNatClampNeg).toInt from (by have e0 : (R 21 (pa0).toNatClampNeg).toInt = (F 21 (pa0).toNatClampNeg).toInt := congrArg Int32.toInt (congrFun (mFr hI 21 rfl) (pa0).toNatClampNeg); have e1 : (R 21 (pa2).toNatClampNeg).toInt = (F 21 (pa2).toNatClampNeg).toInt := congrArg Int32.toInt (congrFun (mFr hI 21 rfl) (pa2).toNatClampNeg); have e2 : (R 22 (pa0).toNatClampNeg).toInt = (F 22 (pa0).toNatClampNeg).toInt := congrArg Int32.toInt (congrFun (mFr hI 22 rfl) (pa0).toNatClampNeg); have e3 : (R 22 (pa2).toNatClampNeg).toInt = (F 22 (pa2).toNatClampNeg).toInt := congrArg Int32.toInt (congrFun (mFr hI 22 rfl) (pa2).toNatClampNeg); have z1 : (-1 : Int32).toInt = -1 := (by decide +kernel); have z0 : (0 : Int32).toInt = 0 := (by decide +kernel); have _ := t_c_10; omega)), (show 0 ≤ pa1.toInt ∧ 0 ≤ pa3.toInt ∧ 0 ≤ pa4.toInt ∧ pa1.toInt + pa4.toInt ≤ (F 21 (pa0).toNatClampNeg).toInt ∧ pa3.toInt + pa4.toInt ≤ (F 21 (pa2).toNatClampNeg).toInt from (by have e0 : (R 21 (pa0).toNatClampNeg).toInt = (F 21 (pa0).toNatClampNeg).toInt := congrArg Int32.toInt (congrFun (mFr hI 21 rfl) (pa0).toNatClampNeg); have e1 : (R 21 (pa2).toNatClampNeg).toInt = (F 21 (pa2).toNatClampNeg).toInt := congrArg Int32.toInt (congrFun (mFr hI 21 rfl) (pa2).toNatClampNeg); have e2 : (R 22 (pa0).toNatClampNeg).toInt = (F 22 (pa0).toNatClampNeg).toInt := congrArg Int32.toInt (congrFun (mFr hI 22 rfl) (pa0).toNatClampNeg); have e3 : (R 22 (pa2).toNatClampNeg).toInt = (F 22 (pa2).toNatClampNeg).toInt := congrArg Int32.toInt (congrFun (mFr hI 22 rfl) (pa2).toNatClampNeg); have z1 : (-1 : Int32).toInt = -1 := (by decide +kernel); have z0 : (0 : Int32).toInt = 0 := (by decide +kernel); have _ := t_c_11; have _ := t_c_14; have _ := t_c_17; have l86 := t_c_21; rw [z_i2l, m_lsum ej_20] at l86; have l104 := t_c_25; rw [z_i2l, m_lsum ej_24] at l104; omega)), rfl, hI_116⟩))))
                                · have t_c_120 := z_leF c_120
                                  have f_121 : zR 0 59 (x_115) := zR_ltx t_c_120 hx_115 hC_27 (by decide)
                                  have f_122 : zR 1 60 (pa4) := zR_lty t_c_120 hx_115 hC_27 (by decide)
                                  refine lv_aload_n hx hb dX11_paste_157 rfl (lv_at hl 0 rfl) ?_
                                  refine z_get hx hb ht hown hK hP ziX11 rfl 0 (by decide) 42 (by decide) hw_5_229 rfl (v := .ref (q 23)) rfl dX11_paste_158 ?_
                                  refine lv_bipush (v := nI 60) hx hb dX11_paste_161 (by decide +kernel) ?_
                                  refine lv_iload_n hx hb dX11_paste_163 rfl (lv_at hl 3 rfl) ?_
                                  refine lv_imul hx hb dX11_paste_164 ?_
                                  refine lv_topi (fun v_123 ev_123 => ?_)
                                  have hv_123 : zR 0 180 v_123 := ev_123 ▸ zR_mul zk_60 f0_2 (by decide)
                                  refine lv_iload hx hb dX11_paste_165 (lv_at hl 4 rfl) ?_
                                  refine lv_iadd hx hb dX11_paste_167 ?_
                                  refine lv_topi (fun v_124 ev_124 => ?_)
                                  refine lv_iload hx hb dX11_paste_168 (lv_at hl 6 rfl) ?_
                                  refine lv_iadd hx hb dX11_paste_170 ?_
                                  refine lv_topi (fun v_125 ev_125 => ?_)
                                  refine lv_aload_n hx hb dX11_paste_171 rfl (lv_at hl 0 rfl) ?_
                                  refine z_get hx hb ht hown hK hP ziX11 rfl 0 (by decide) 43 (by decide) hw_5_230 rfl (v := .ref (q 24)) rfl dX11_paste_172 ?_
                                  refine lv_iload hx hb dX11_paste_175 (lv_at hl 6 rfl) ?_
                                  refine z_lald hx hb hK hP 24 (by decide) 23 rfl rfl (zR_vin f_121 (by decide)) dX11_paste_177 ?_
                                  refine z_eql (y := J_116 24 (x_115).toNatClampNeg) rfl ?_
                                  refine z_last hx hb hK hP hD hS 23 (by decide) 22 (fun _ => rfl) rfl (m_pidx f0_2 ev_123 ev_124 ev_125 (zR_w f_16 (a' := 0) (b' := 2147483647) (by decide)).1 (zR_w f_121 (a' := 0) (b' := 2147483647) (by decide)).1 t_c_120 hB_27) dX11_paste_178 (fun H locs hP hD hS => ?_)
                                  have hI_126 := mInv_Ja hI_116 23 (v_125).toNatClampNeg (J_116 24 (x_115).toNatClampNeg) (by decide)
                                  obtain ⟨v_127, ev_127⟩ : ∃ y : Int32, y = x_115 + nI 1 := ⟨_, rfl⟩
                                  have hv_127 : zR 1 60 v_127 := ev_127 ▸ zR_add f_121 zk_1 (by decide)
                                  have mv_127 : v_127.toInt = (x_115).toInt + 1 := by rw [ev_127, zR_addE f_121 zk_1 (by decide)]; rfl
                                  refine lv_iinc (v := v_127) (lv' := [(6, .int (v_127)), (0, .ref (q 0)), (1, .int (pa0)), (2, .int (pa1)), (3, .int (pa2)), (4, .int (pa3)), (5, .int (pa4))]) hx hb dX11_paste_179 hl (k := 6) rfl (ev_127 ▸ rfl) (by decide) rfl (fun ls hl => ?_)
                                  refine lv_goto (tgt := 150) hx hb dX11_paste_182 (by decide) ?_
                                  exact ih_119 (v_127) (zR_w hv_127 (by decide)) _ hI_126 (z2_up mv_127 (by decide) hN_118) _ _ hP hD hS _ (lv_sub hl [1, 2, 3, 4, 5, 6, 0] rfl)
                            exact loop_117 _ (nI 0) (zR_w zk_0 (by decide)) _ hI_66 (Nat.lt_succ_self _) _ _ hP hD hS _ (lv_sub hl [1, 2, 3, 4, 5, 6, 0] rfl)
                          · have t_c_70 := z_leF c_70
                            have f_128 : zR 0 59 (x_65) := zR_ltx t_c_70 hx_65 hC_27 (by decide)
                            have f_129 : zR 1 60 (pa4) := zR_lty t_c_70 hx_65 hC_27 (by decide)
                            refine lv_aload_n hx hb dX11_paste_120 rfl (lv_at hl 0 rfl) ?_
                            refine z_get hx hb ht hown hK hP ziX11 rfl 0 (by decide) 43 (by decide) hw_5_230 rfl (v := .ref (q 24)) rfl dX11_paste_121 ?_
                            refine lv_iload hx hb dX11_paste_124 (lv_at hl 6 rfl) ?_
                            refine lv_aload_n hx hb dX11_paste_126 rfl (lv_at hl 0 rfl) ?_
                            refine z_get hx hb ht hown hK hP ziX11 rfl 0 (by decide) 42 (by decide) hw_5_229 rfl (v := .ref (q 23)) rfl dX11_paste_127 ?_
                            refine lv_bipush (v := nI 60) hx hb dX11_paste_130 (by decide +kernel) ?_
                            refine lv_iload_n hx hb dX11_paste_132 rfl (lv_at hl 1 rfl) ?_
                            refine lv_imul hx hb dX11_paste_133 ?_
                            refine lv_topi (fun v_130 ev_130 => ?_)
                            have hv_130 : zR 0 180 v_130 := ev_130 ▸ zR_mul zk_60 f0_1 (by decide)
                            refine lv_iload_n hx hb dX11_paste_134 rfl (lv_at hl 2 rfl) ?_
                            refine lv_iadd hx hb dX11_paste_135 ?_
                            refine lv_topi (fun v_131 ev_131 => ?_)
                            refine lv_iload hx hb dX11_paste_136 (lv_at hl 6 rfl) ?_
                            refine lv_iadd hx hb dX11_paste_138 ?_
                            refine lv_topi (fun v_132 ev_132 => ?_)
                            refine z_lald hx hb hK hP 23 (by decide) 22 rfl rfl (m_pidx f0_1 ev_130 ev_131 ev_132 (zR_w f_13 (a' := 0) (b' := 2147483647) (by decide)).1 (zR_w f_128 (a' := 0) (b' := 2147483647) (by decide)).1 t_c_70 hA_27) dX11_paste_139 ?_
                            refine z_eql (y := J_66 23 (v_132).toNatClampNeg) rfl ?_
                            refine z_last hx hb hK hP hD hS 24 (by decide) 23 (fun _ => rfl) rfl (zR_vin f_128 (by decide)) dX11_paste_140 (fun H locs hP hD hS => ?_)
                            have hI_133 := mInv_Ja hI_66 24 (x_65).toNatClampNeg (J_66 23 (v_132).toNatClampNeg) (by decide)
                            obtain ⟨v_134, ev_134⟩ : ∃ y : Int32, y = x_65 + nI 1 := ⟨_, rfl⟩
                            have hv_134 : zR 1 60 v_134 := ev_134 ▸ zR_add f_128 zk_1 (by decide)
                            have mv_134 : v_134.toInt = (x_65).toInt + 1 := by rw [ev_134, zR_addE f_128 zk_1 (by decide)]; rfl
                            refine lv_iinc (v := v_134) (lv' := [(6, .int (v_134)), (0, .ref (q 0)), (1, .int (pa0)), (2, .int (pa1)), (3, .int (pa2)), (4, .int (pa3)), (5, .int (pa4))]) hx hb dX11_paste_141 hl (k := 6) rfl (ev_134 ▸ rfl) (by decide) rfl (fun ls hl => ?_)
                            refine lv_goto (tgt := 113) hx hb dX11_paste_144 (by decide) ?_
                            exact ih_69 (v_134) (zR_w hv_134 (by decide)) _ hI_133 (z2_up mv_134 (by decide) hN_68) _ _ hP hD hS _ (lv_sub hl [1, 2, 3, 4, 5, 6, 0] rfl)
                      exact loop_67 _ (nI 0) (zR_w zk_0 (by decide)) _ hI (Nat.lt_succ_self _) _ _ hP hD hS _ (lv_sub hl [1, 2, 3, 4, 5, 6, 0] rfl)
                    · have t_c_25 := z_lleF (fun h => c_25 ((lg_cmp_le _ _).mpr h))
                      have f_135 : zL 1 4294967294 (j_24) := zL_lty t_c_25 (zR_i2l f_9) hj_24 (by decide)
                      refine lv_bipush (v := (-7)) hx hb dX11_paste_107 (by decide +kernel) ?_
                      exact z_iret (v := (-7)) hx hb hr hlocks hP hD hS dX11_paste_109 (Or.inr (Or.inr (Or.inr (Or.inl ⟨(by obtain ⟨_, _⟩ := f0_1; obtain ⟨_, _⟩ := f0_2; omega), (show (F 21 (pa0).toNatClampNeg).toInt ≠ -1 ∧ (F 21 (pa2).toNatClampNeg).toInt ≠ -1 from (by have e0 : (R 21 (pa0).toNatClampNeg).toInt = (F 21 (pa0).toNatClampNeg).toInt := congrArg Int32.toInt (congrFun (mFr hI 21 rfl) (pa0).toNatClampNeg); have e1 : (R 21 (pa2).toNatClampNeg).toInt = (F 21 (pa2).toNatClampNeg).toInt := congrArg Int32.toInt (congrFun (mFr hI 21 rfl) (pa2).toNatClampNeg); have e2 : (R 22 (pa0).toNatClampNeg).toInt = (F 22 (pa0).toNatClampNeg).toInt := congrArg Int32.toInt (congrFun (mFr hI 22 rfl) (pa0).toNatClampNeg); have e3 : (R 22 (pa2).toNatClampNeg).toInt = (F 22 (pa2).toNatClampNeg).toInt := congrArg Int32.toInt (congrFun (mFr hI 22 rfl) (pa2).toNatClampNeg); have z1 : (-1 : Int32).toInt = -1 := (by decide +kernel); have z0 : (0 : Int32).toInt = 0 := (by decide +kernel); have _ := t_c_4; have _ := t_c_8; omega)), (show (F 22 (pa0).toNatClampNeg).toInt = (F 22 (pa2).toNatClampNeg).toInt from (by have e0 : (R 21 (pa0).toNatClampNeg).toInt = (F 21 (pa0).toNatClampNeg).toInt := congrArg Int32.toInt (congrFun (mFr hI 21 rfl) (pa0).toNatClampNeg); have e1 : (R 21 (pa2).toNatClampNeg).toInt = (F 21 (pa2).toNatClampNeg).toInt := congrArg Int32.toInt (congrFun (mFr hI 21 rfl) (pa2).toNatClampNeg); have e2 : (R 22 (pa0).toNatClampNeg).toInt = (F 22 (pa0).toNatClampNeg).toInt := congrArg Int32.toInt (congrFun (mFr hI 22 rfl) (pa0).toNatClampNeg); have e3 : (R 22 (pa2).toNatClampNeg).toInt = (F 22 (pa2).toNatClampNeg).toInt := congrArg Int32.toInt (congrFun (mFr hI 22 rfl) (pa2).toNatClampNeg); have z1 : (-1 : Int32).toInt = -1 := (by decide +kernel); have z0 : (0 : Int32).toInt = 0 := (by decide +kernel); have _ := t_c_10; omega)), (show ¬ (0 ≤ pa1.toInt ∧ 0 ≤ pa3.toInt ∧ 0 ≤ pa4.toInt ∧ pa1.toInt + pa4.toInt ≤ (F 21 (pa0).toNatClampNeg).toInt ∧ pa3.toInt + pa4.toInt ≤ (F 21 (pa2).toNatClampNeg).toInt) from (by have e0 : (R 21 (pa0).toNatClampNeg).toInt = (F 21 (pa0).toNatClampNeg).toInt := congrArg Int32.toInt (congrFun (mFr hI 21 rfl) (pa0).toNatClampNeg); have e1 : (R 21 (pa2).toNatClampNeg).toInt = (F 21 (pa2).toNatClampNeg).toInt := congrArg Int32.toInt (congrFun (mFr hI 21 rfl) (pa2).toNatClampNeg); have e2 : (R 22 (pa0).toNatClampNeg).toInt = (F 22 (pa0).toNatClampNeg).toInt := congrArg Int32.toInt (congrFun (mFr hI 22 rfl) (pa0).toNatClampNeg); have e3 : (R 22 (pa2).toNatClampNeg).toInt = (F 22 (pa2).toNatClampNeg).toInt := congrArg Int32.toInt (congrFun (mFr hI 22 rfl) (pa2).toNatClampNeg); have z1 : (-1 : Int32).toInt = -1 := (by decide +kernel); have z0 : (0 : Int32).toInt = 0 := (by decide +kernel); have _ := t_c_11; have _ := t_c_14; have _ := t_c_17; have l86 := t_c_21; rw [z_i2l, m_lsum ej_20] at l86; have l104 := t_c_25; rw [z_i2l, m_lsum ej_24] at l104; omega)), rfl, hI⟩))))
          · have t_c_10 := z_eqF c_10
            refine lv_bipush (v := (-8)) hx hb dX11_paste_55 (by decide +kernel) ?_
            exact z_iret (v := (-8)) hx hb hr hlocks hP hD hS dX11_paste_57 (Or.inr (Or.inr (Or.inl ⟨(by obtain ⟨_, _⟩ := f0_1; obtain ⟨_, _⟩ := f0_2; omega), (show (F 21 (pa0).toNatClampNeg).toInt ≠ -1 ∧ (F 21 (pa2).toNatClampNeg).toInt ≠ -1 from (by have e0 : (R 21 (pa0).toNatClampNeg).toInt = (F 21 (pa0).toNatClampNeg).toInt := congrArg Int32.toInt (congrFun (mFr hI 21 rfl) (pa0).toNatClampNeg); have e1 : (R 21 (pa2).toNatClampNeg).toInt = (F 21 (pa2).toNatClampNeg).toInt := congrArg Int32.toInt (congrFun (mFr hI 21 rfl) (pa2).toNatClampNeg); have e2 : (R 22 (pa0).toNatClampNeg).toInt = (F 22 (pa0).toNatClampNeg).toInt := congrArg Int32.toInt (congrFun (mFr hI 22 rfl) (pa0).toNatClampNeg); have e3 : (R 22 (pa2).toNatClampNeg).toInt = (F 22 (pa2).toNatClampNeg).toInt := congrArg Int32.toInt (congrFun (mFr hI 22 rfl) (pa2).toNatClampNeg); have z1 : (-1 : Int32).toInt = -1 := (by decide +kernel); have z0 : (0 : Int32).toInt = 0 := (by decide +kernel); have _ := t_c_4; have _ := t_c_8; omega)), (show (F 22 (pa0).toNatClampNeg).toInt ≠ (F 22 (pa2).toNatClampNeg).toInt from (by have e0 : (R 21 (pa0).toNatClampNeg).toInt = (F 21 (pa0).toNatClampNeg).toInt := congrArg Int32.toInt (congrFun (mFr hI 21 rfl) (pa0).toNatClampNeg); have e1 : (R 21 (pa2).toNatClampNeg).toInt = (F 21 (pa2).toNatClampNeg).toInt := congrArg Int32.toInt (congrFun (mFr hI 21 rfl) (pa2).toNatClampNeg); have e2 : (R 22 (pa0).toNatClampNeg).toInt = (F 22 (pa0).toNatClampNeg).toInt := congrArg Int32.toInt (congrFun (mFr hI 22 rfl) (pa0).toNatClampNeg); have e3 : (R 22 (pa2).toNatClampNeg).toInt = (F 22 (pa2).toNatClampNeg).toInt := congrArg Int32.toInt (congrFun (mFr hI 22 rfl) (pa2).toNatClampNeg); have z1 : (-1 : Int32).toInt = -1 := (by decide +kernel); have z0 : (0 : Int32).toInt = 0 := (by decide +kernel); have _ := t_c_10; omega)), rfl, hI⟩)))
        · have t_c_8 := z_eqT c_8
          have f_136 : zR (-1) (-1) (R 21 (pa2).toNatClampNeg) := zR_eqx t_c_8 zk_m1
          refine lv_bipush (v := (-6)) hx hb dX11_paste_37 (by decide +kernel) ?_
          exact z_iret (v := (-6)) hx hb hr hlocks hP hD hS dX11_paste_39 (Or.inr (Or.inl ⟨(by obtain ⟨_, _⟩ := f0_1; obtain ⟨_, _⟩ := f0_2; omega), (show (F 21 (pa0).toNatClampNeg).toInt = -1 ∨ (F 21 (pa2).toNatClampNeg).toInt = -1 from (by have e0 : (R 21 (pa0).toNatClampNeg).toInt = (F 21 (pa0).toNatClampNeg).toInt := congrArg Int32.toInt (congrFun (mFr hI 21 rfl) (pa0).toNatClampNeg); have e1 : (R 21 (pa2).toNatClampNeg).toInt = (F 21 (pa2).toNatClampNeg).toInt := congrArg Int32.toInt (congrFun (mFr hI 21 rfl) (pa2).toNatClampNeg); have e2 : (R 22 (pa0).toNatClampNeg).toInt = (F 22 (pa0).toNatClampNeg).toInt := congrArg Int32.toInt (congrFun (mFr hI 22 rfl) (pa0).toNatClampNeg); have e3 : (R 22 (pa2).toNatClampNeg).toInt = (F 22 (pa2).toNatClampNeg).toInt := congrArg Int32.toInt (congrFun (mFr hI 22 rfl) (pa2).toNatClampNeg); have z1 : (-1 : Int32).toInt = -1 := (by decide +kernel); have z0 : (0 : Int32).toInt = 0 := (by decide +kernel); have _ := t_c_4; have _ := t_c_8; omega)), rfl, hI⟩))
    · cases hu_2
      refine lv_if_ne (tgt := 17) hx hb dX11_paste_11 (by decide) (fun c_0 => absurd (zD_eq zk_0 zk_z) c_0) (fun _ => ?_)
      refine lv_bipush (v := (-2)) hx hb dX11_paste_14 (by decide +kernel) ?_
      exact z_iret (v := (-2)) hx hb hr hlocks hP hD hS dX11_paste_16 (Or.inl ⟨(by obtain ⟨_, _⟩ := f0_1; obtain ⟨_, _⟩ := (zR_any (pa2)); have _ := nn_2; omega), rfl, hI⟩)
  · cases hu_1
    refine lv_if_eq (tgt := 14) hx hb dX11_paste_4 (by decide) (fun _ => ?_) (fun c_0 => absurd (zD_eq zk_0 zk_z) c_0)
    refine lv_bipush (v := (-2)) hx hb dX11_paste_14 (by decide +kernel) ?_
    exact z_iret (v := (-2)) hx hb hr hlocks hP hD hS dX11_paste_16 (Or.inl ⟨(by obtain ⟨_, _⟩ := (zR_any (pa0)); obtain ⟨_, _⟩ := (zR_any (pa2)); have _ := nn_1; omega), rfl, hI⟩)
