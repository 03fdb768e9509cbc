set_option maxHeartbeats 4000000 in
set_option maxRecDepth 100000 in
theorem mk_X11_told_4 (l : Launch) (D : va_G) (q : Nat → Nat) (cA : Nat → ClassId) (ad av : Nat → Nat) (t9 : Nat) (F : Nat → Nat → Int32) (I R : Nat → Nat → Int32) (J : Nat → Nat → Int64) (hI : mInv F (I, R, J))  : zNi (zSS zMRs 25 q ad av t9) l D vwCl (zMtys cA) 25 q (zMd q cA) yX11_told cX11_told 4 (some .int) ({ frames := 7, cells := 0, slots := 0, locals := 151 } : Room) [.ref (q 0), .ref (ad 2), .int (nI 1), .int (nI 6)] (I, R, J) (fun r u => ((mInv F u ∧ (∀ k, k ≠ 0 → u.1 k = I k) ∧ u.2 = (R, J)) ∧ mTr I u.1) ∧ zR 0 6 r) := by
  intro sz
  refine z_bodyN (by decide +kernel) (Nat.le_of_ble_eq_true rfl) (fun p e s m below meth c ls hx hb hml hr ht hown hlocks hsz hK hP hD hS hN hl => ?_)
  have hA : ∀ a, s.heap.size ≤ a → zA 25 q sz a := fun a h => Or.inr (hsz ▸ h)
  have hl : lv_has ls 4 [(0, .ref (q 0)), (1, .ref (ad 2)), (2, .int (nI 1)), (3, .int (nI 6))] := hl
  have hZ : zSz zMRs 25 q ad av t9 sz s := hsz ▸ hN
  refine lv_aload_n hx hb dX11_told_0 rfl (lv_at hl 0 rfl) ?_
  refine lv_aload_n hx hb dX11_told_1 rfl (lv_at hl 1 rfl) ?_
  refine z_cNVv (k := 0) (As := [.ref (ad 2)]) (rest := []) hx hb hml hown ht (mk_X11_needs_5 l D q cA ad av t9 F _ _ _ hI ) hw_6_132 hmX11_needs ⟨rfl, rfl⟩ (na := 1) rfl (by decide +kernel) (by decide) (by decide) rfl rfl hK hP hD hS hA (zSS_c (Rs := zMRs) (t9 := t9) (fun _ _ _ => zMRs_c)) (zSS_w (Rs := zMRs) (t9 := t9) (fun _ _ _ => zMRs_w) hN hsz hS) hl.1 rfl (Nat.le_of_ble_eq_true rfl) ⟨Nat.zero_le _, Nat.zero_le _⟩ dX11_told_2 (fun I_1 R_1 J_1 H locs hp_1 hP hD hS _ _ => ?_)
  obtain ⟨hq_1, he_1⟩ := hp_1
  try dsimp only at he_1
  obtain ⟨hv_1, hk_1, hj_1⟩ := hq_1
  try dsimp only at hj_1 hk_1
  cases hj_1
  have hf_2 : ∀ k, k ≠ 0 → I_1 k = I k := fun k h => (hk_1 k h).trans ((fun (_ : Nat) _ => rfl) k h)
  refine lv_aload_n hx hb dX11_told_5 rfl (lv_at hl 0 rfl) ?_
  refine lv_iload_n hx hb dX11_told_6 rfl (lv_at hl 2 rfl) ?_
  refine lv_iload_n hx hb dX11_told_7 rfl (lv_at hl 3 rfl) ?_
  refine z_callVi (k := 0) (As := [.int (nI 1), .int (nI 6)]) (rest := []) hx hb hml hown ht (mk_X11_number_6 l D q cA F _ _ _ hv_1 ) hw_6_155 hmX11_number ⟨rfl, rfl⟩ (na := 2) rfl (by decide +kernel) (by decide) (by decide) rfl rfl hK hP hD hS hA hl.1 rfl (Nat.le_of_ble_eq_true rfl) ⟨Nat.zero_le _, Nat.zero_le _⟩ dX11_told_8 (fun r_3 I_3 R_3 J_3 H locs hp_3 hP hD hS _ _ => ?_)
  obtain ⟨⟨hq_3, he_3⟩, hr_3⟩ := hp_3
  try dsimp only at he_3
  obtain ⟨hv_3, hk_3, hj_3⟩ := hq_3
  try dsimp only at hj_3 hk_3
  cases hj_3
  have hf_4 : ∀ k, k ≠ 0 → I_3 k = I k := fun k h => (hk_3 k h).trans (hf_2 k h)
  exact z_iret (v := r_3) hx hb hr hlocks hP hD hS dX11_told_11 ⟨⟨⟨hv_3, hf_4, rfl⟩, (mTr_t he_1 he_3)⟩, hr_3⟩
set_option maxHeartbeats 4000000 in
set_option maxRecDepth 100000 in
theorem mk_J0_coder_7d493_10 (l : Launch) (D : va_G) (q : Nat → Nat) (cA : Nat → ClassId) (ad av : Nat → Nat) (t9 : Nat) (F : Nat → Nat → Int32) (I R : Nat → Nat → Int32) (J : Nat → Nat → Int64) (hI : mInv F (I, R, J))  : zNi (zSS zMRs 25 q ad av t9) l D vwCl (zMtys cA) 25 q (zMd q cA) yJ0_coder_7d493 cJ0_coder_7d493 1 (some .byte) ({ frames := 0, cells := 0, slots := 0, locals := 0 } : Room) [.ref (ad 3)] (I, R, J) (fun r u => r = nI 0 ∧ u = (I, R, J)) := by
  intro sz
  refine z_bodyN (by decide +kernel) (Nat.le_of_ble_eq_true rfl) (fun p e s m below meth c ls hx hb hml hr ht hown hlocks hsz hK hP hD hS hN hl => ?_)
  have hA : ∀ a, s.heap.size ≤ a → zA 25 q sz a := fun a h => Or.inr (hsz ▸ h)
  have hl : lv_has ls 1 [(0, .ref (ad 3))] := hl
  have hZ : zSz zMRs 25 q ad av t9 sz s := hsz ▸ hN
  refine va_gets hx hb hZ.2.1 hS hown (ht _ hw_2_195) (fun _ h => h) dJ0_coder_7d493_0 ?_
  refine z_eqi (y := nI 1) rfl ?_
  refine lv_if_eq (tgt := 13) hx hb dJ0_coder_7d493_3 (by decide) (fun c_0 => absurd c_0 (zD_ne zk_1 zk_z (by decide))) (fun _ => ?_)
  refine lv_aload_n hx hb dJ0_coder_7d493_6 rfl (lv_at hl 0 rfl) ?_
  refine vk_getf hx hb (hZ.1.1 3 (by decide)).2.1 hS hown (ht _ hw_8_165) (fun _ h => h) dJ0_coder_7d493_7 ?_
  refine z_eqi (y := nI 0) rfl ?_
  refine lv_goto (tgt := 14) hx hb dJ0_coder_7d493_10 (by decide) ?_
  exact z_zret (v := nI 0) hx hb hr hlocks hP hD hS (by decide +kernel) dJ0_coder_7d493_14 ⟨rfl, rfl⟩
set_option maxHeartbeats 4000000 in
set_option maxRecDepth 100000 in
theorem mk_J0_length_8abf5_10 (l : Launch) (D : va_G) (q : Nat → Nat) (cA : Nat → ClassId) (ad av : Nat → Nat) (t9 : Nat) (F : Nat → Nat → Int32) (I R : Nat → Nat → Int32) (J : Nat → Nat → Int64) (hI : mInv F (I, R, J))  : zNi (zSS zMRs 25 q ad av t9) l D vwCl (zMtys cA) 25 q (zMd q cA) yJ0_length_8abf5 cJ0_length_8abf5 1 (some .int) ({ frames := 1, cells := 0, slots := 0, locals := 20 } : Room) [.ref (ad 3)] (I, R, J) (fun r u => r = nI 4 ∧ u = (I, R, J)) := by
  intro sz
  refine z_bodyN (by decide +kernel) (Nat.le_of_ble_eq_true rfl) (fun p e s m below meth c ls hx hb hml hr ht hown hlocks hsz hK hP hD hS hN hl => ?_)
  have hA : ∀ a, s.heap.size ≤ a → zA 25 q sz a := fun a h => Or.inr (hsz ▸ h)
  have hl : lv_has ls 1 [(0, .ref (ad 3))] := hl
  have hZ : zSz zMRs 25 q ad av t9 sz s := hsz ▸ hN
  refine lv_aload_n hx hb dJ0_length_8abf5_0 rfl (lv_at hl 0 rfl) ?_
  refine vk_getf hx hb (hZ.1.1 3 (by decide)).2.2.1 hS hown (ht _ hw_8_164) (fun _ h => h) dJ0_length_8abf5_1 ?_
  refine va_tlen hx hb (hZ.1.1 3 (by decide)).2.2.2 hS (v := nI 4) rfl dJ0_length_8abf5_4 ?_
  refine lv_aload_n hx hb dJ0_length_8abf5_5 rfl (lv_at hl 0 rfl) ?_
  refine z_cNXi (As := []) (rest := [.int (nI 4)]) hx hb hml hown ht (mk_J0_coder_7d493_10 l D q cA ad av t9 F _ _ _ hI ) hw_2_191 hmJ0_coder_7d493 ⟨rfl, rfl⟩ (na := 0) rfl (by decide +kernel) (by decide) (vk_recv hZ.1 (by decide) hS) hK hP hD hS hA (zSS_c (Rs := zMRs) (t9 := t9) (fun _ _ _ => zMRs_c)) (zSS_w (Rs := zMRs) (t9 := t9) (fun _ _ _ => zMRs_w) hN hsz hS) hl.1 rfl (Nat.le_of_ble_eq_true rfl) ⟨Nat.zero_le _, Nat.zero_le _⟩ dJ0_length_8abf5_6 (fun r_1 I_1 R_1 J_1 H locs hp_1 hP hD hS _ _ => ?_)
  obtain ⟨rfl, hu_1⟩ := hp_1
  cases hu_1
  refine lv_ishr hx hb dJ0_length_8abf5_9 ?_
  refine z_eqi (y := nI 4) (by decide +kernel) ?_
  exact z_iret (v := nI 4) hx hb hr hlocks hP hD hS dJ0_length_8abf5_10 ⟨rfl, rfl⟩
set_option maxHeartbeats 4000000 in
set_option maxRecDepth 100000 in
theorem mk_J0_isLatin1_aae02_10 (l : Launch) (D : va_G) (q : Nat → Nat) (cA : Nat → ClassId) (ad av : Nat → Nat) (t9 : Nat) (F : Nat → Nat → Int32) (I R : Nat → Nat → Int32) (J : Nat → Nat → Int64) (hI : mInv F (I, R, J))  : zNi (zSS zMRs 25 q ad av t9) l D vwCl (zMtys cA) 25 q (zMd q cA) yJ0_isLatin1_aae02 cJ0_isLatin1_aae02 1 (some .boolean) ({ frames := 0, cells := 0, slots := 0, locals := 0 } : Room) [.ref (ad 3)] (I, R, J) (fun r u => (r = nI 1 ∧ u = (I, R, J))) := by
  intro sz
  refine z_bodyN (by decide +kernel) (Nat.le_of_ble_eq_true rfl) (fun p e s m below meth c ls hx hb hml hr ht hown hlocks hsz hK hP hD hS hN hl => ?_)
  have hA : ∀ a, s.heap.size ≤ a → zA 25 q sz a := fun a h => Or.inr (hsz ▸ h)
  have hl : lv_has ls 1 [(0, .ref (ad 3))] := hl
  have hZ : zSz zMRs 25 q ad av t9 sz s := hsz ▸ hN
  refine va_gets hx hb hZ.2.1 hS hown (ht _ hw_2_195) (fun _ h => h) dJ0_isLatin1_aae02_0 ?_
  refine z_eqi (y := nI 1) rfl ?_
  refine lv_if_eq (tgt := 17) hx hb dJ0_isLatin1_aae02_3 (by decide) (fun c_0 => absurd c_0 (zD_ne zk_1 zk_z (by decide))) (fun _ => ?_)
  refine lv_aload_n hx hb dJ0_isLatin1_aae02_6 rfl (lv_at hl 0 rfl) ?_
  refine vk_getf hx hb (hZ.1.1 3 (by decide)).2.1 hS hown (ht _ hw_8_165) (fun _ h => h) dJ0_isLatin1_aae02_7 ?_
  refine z_eqi (y := nI 0) rfl ?_
  refine lv_if_ne (tgt := 17) hx hb dJ0_isLatin1_aae02_10 (by decide) (fun c_0 => absurd (zD_eq zk_0 zk_z) c_0) (fun _ => ?_)
  refine lv_iconst (v := nI 1) hx hb dJ0_isLatin1_aae02_13 (by decide +kernel) ?_
  refine lv_goto (tgt := 18) hx hb dJ0_isLatin1_aae02_14 (by decide) ?_
  exact z_zret (v := nI 1) hx hb hr hlocks hP hD hS (by decide +kernel) dJ0_isLatin1_aae02_18 ⟨rfl, rfl⟩
set_option maxHeartbeats 4000000 in
set_option maxRecDepth 100000 in
theorem mk_J1_charAt_3b067_20 (l : Launch) (D : va_G) (q : Nat → Nat) (cA : Nat → ClassId) (ad av : Nat → Nat) (t9 : Nat) (F : Nat → Nat → Int32) (I R : Nat → Nat → Int32) (J : Nat → Nat → Int64) (hI : mInv F (I, R, J)) (pa1 : Int32) (hpa1 : zR 0 3 pa1) : zNi (zSS zMRs 25 q ad av t9) l D vwCl (zMtys cA) 25 q (zMd q cA) yJ1_charAt_3b067 cJ1_charAt_3b067 2 (some .char) ({ frames := 2, cells := 0, slots := 0, locals := 43 } : Room) [.ref (av 3), .int (pa1)] (I, R, J) (fun r u => (r = zch 3 (pa1).toNatClampNeg ∧ zR 0 65535 r) ∧ u = (I, R, J)) := by
  intro sz
  refine z_bodyN (by decide +kernel) (Nat.le_of_ble_eq_true rfl) (fun p e s m below meth c ls hx hb hml hr ht hown hlocks hsz hK hP hD hS hN hl => ?_)
  have hA : ∀ a, s.heap.size ≤ a → zA 25 q sz a := fun a h => Or.inr (hsz ▸ h)
  have hl : lv_has ls 2 [(0, .ref (av 3)), (1, .int (pa1))] := hl
  have hZ : zSz zMRs 25 q ad av t9 sz s := hsz ▸ hN
  refine lv_iload_n hx hb dJ1_charAt_3b067_0 rfl (lv_at hl 1 rfl) ?_
  refine lv_aload_n hx hb dJ1_charAt_3b067_1 rfl (lv_at hl 0 rfl) ?_
  refine va_tlen hx hb (hZ.1.1 3 (by decide)).2.2.2 hS (v := nI 4) rfl dJ1_charAt_3b067_2 ?_
  refine z_cNSv (As := [.int (pa1), .int (nI 4)]) (rest := []) hx hb hml hown ht (mk_J0_checkIndex_df160_6 l D q cA ad av t9 F _ _ _ hI (pa1) hpa1) hw_2_208 hmJ0_checkIndex_df160 ⟨rfl, rfl⟩ (na := 2) rfl (by decide +kernel) (by decide) hK hP hD hS hA (zSS_c (Rs := zMRs) (t9 := t9) (fun _ _ _ => zMRs_c)) (zSS_w (Rs := zMRs) (t9 := t9) (fun _ _ _ => zMRs_w) hN hsz hS) hl.1 rfl (Nat.le_of_ble_eq_true rfl) ⟨Nat.zero_le _, Nat.zero_le _⟩ dJ1_charAt_3b067_3 (fun I_1 R_1 J_1 H locs hp_1 hP hD hS _ _ => ?_)
  cases hp_1
  refine lv_aload_n hx hb dJ1_charAt_3b067_6 rfl (lv_at hl 0 rfl) ?_
  refine lv_iload_n hx hb dJ1_charAt_3b067_7 rfl (lv_at hl 1 rfl) ?_
  refine va_tb hx hb (hZ.1.1 3 (by decide)).2.2.2 hS (zR_vin hpa1 (by decide)) (v := .int ((zByt.getD 3 []).getD (pa1).toNatClampNeg 0)) rfl dJ1_charAt_3b067_8 ?_
  refine lv_sipush (v := nI 255) hx hb dJ1_charAt_3b067_9 (by decide +kernel) ?_
  refine lv_iand hx hb dJ1_charAt_3b067_12 ?_
  refine lv_i2c (v := ((((zByt.getD 3 []).getD (pa1).toNatClampNeg 0) &&& (nI 255)).toUInt32 % 65536).toInt32) hx hb dJ1_charAt_3b067_13 rfl ?_
  exact z_zret (v := ((((zByt.getD 3 []).getD (pa1).toNatClampNeg 0) &&& (nI 255)).toUInt32 % 65536).toInt32) hx hb hr hlocks hP hD hS (zR_char (zR_i2c _)) dJ1_charAt_3b067_14 ⟨⟨rfl, (zR_i2c _)⟩, rfl⟩
set_option maxHeartbeats 4000000 in
set_option maxRecDepth 100000 in
theorem mk_J0_charAt_5068e_20 (l : Launch) (D : va_G) (q : Nat → Nat) (cA : Nat → ClassId) (ad av : Nat → Nat) (t9 : Nat) (F : Nat → Nat → Int32) (I R : Nat → Nat → Int32) (J : Nat → Nat → Int64) (hI : mInv F (I, R, J)) (pa0 : Int32) (hpa0 : zR 0 3 pa0) : zNi (zSS zMRs 25 q ad av t9) l D vwCl (zMtys cA) 25 q (zMd q cA) yJ0_charAt_5068e cJ0_charAt_5068e 2 (some .char) ({ frames := 3, cells := 0, slots := 0, locals := 64 } : Room) [.ref (ad 3), .int (pa0)] (I, R, J) (fun r u => (r = zch 3 (pa0).toNatClampNeg ∧ zR 0 65535 r) ∧ u = (I, R, J)) := by
  intro sz
  refine z_bodyN (by decide +kernel) (Nat.le_of_ble_eq_true rfl) (fun p e s m below meth c ls hx hb hml hr ht hown hlocks hsz hK hP hD hS hN hl => ?_)
  have hA : ∀ a, s.heap.size ≤ a → zA 25 q sz a := fun a h => Or.inr (hsz ▸ h)
  have hl : lv_has ls 2 [(0, .ref (ad 3)), (1, .int (pa0))] := hl
  have hZ : zSz zMRs 25 q ad av t9 sz s := hsz ▸ hN
  refine lv_aload_n hx hb dJ0_charAt_5068e_0 rfl (lv_at hl 0 rfl) ?_
  refine z_cNXi (As := []) (rest := []) hx hb hml hown ht (mk_J0_isLatin1_aae02_10 l D q cA ad av t9 F _ _ _ hI ) hw_2_201 hmJ0_isLatin1_aae02 ⟨rfl, rfl⟩ (na := 0) rfl (by decide +kernel) (by decide) (vk_recv hZ.1 (by decide) hS) hK hP hD hS hA (zSS_c (Rs := zMRs) (t9 := t9) (fun _ _ _ => zMRs_c)) (zSS_w (Rs := zMRs) (t9 := t9) (fun _ _ _ => zMRs_w) hN hsz hS) hl.1 rfl (Nat.le_of_ble_eq_true rfl) ⟨Nat.zero_le _, Nat.zero_le _⟩ dJ0_charAt_5068e_1 (fun r_1 I_1 R_1 J_1 H locs hp_1 hP hD hS _ _ => ?_)
  obtain ⟨rfl, hu_1⟩ := hp_1
  cases hu_1
  refine lv_if_eq (tgt := 16) hx hb dJ0_charAt_5068e_4 (by decide) (fun c_0 => absurd c_0 (zD_ne zk_1 zk_z (by decide))) (fun _ => ?_)
  refine lv_aload_n hx hb dJ0_charAt_5068e_7 rfl (lv_at hl 0 rfl) ?_
  refine vk_getf hx hb (hZ.1.1 3 (by decide)).2.2.1 hS hown (ht _ hw_8_164) (fun _ h => h) dJ0_charAt_5068e_8 ?_
  refine lv_iload_n hx hb dJ0_charAt_5068e_11 rfl (lv_at hl 1 rfl) ?_
  refine z_cNSi (As := [.ref (av 3), .int (pa0)]) (rest := []) hx hb hml hown ht (mk_J1_charAt_3b067_20 l D q cA ad av t9 F _ _ _ hI (pa0) hpa0) hw_2_205 hmJ1_charAt_3b067 ⟨rfl, rfl⟩ (na := 2) rfl (by decide +kernel) (by decide) hK hP hD hS hA (zSS_c (Rs := zMRs) (t9 := t9) (fun _ _ _ => zMRs_c)) (zSS_w (Rs := zMRs) (t9 := t9) (fun _ _ _ => zMRs_w) hN hsz hS) hl.1 rfl (Nat.le_of_ble_eq_true rfl) ⟨Nat.zero_le _, Nat.zero_le _⟩ dJ0_charAt_5068e_12 (fun r_2 I_2 R_2 J_2 H locs hp_2 hP hD hS _ _ => ?_)
  obtain ⟨⟨rfl, hr_2⟩, hu_2⟩ := hp_2
  cases hu_2
  exact z_zret (v := zch 3 (pa0).toNatClampNeg) hx hb hr hlocks hP hD hS (zR_char hr_2) dJ0_charAt_5068e_15 ⟨⟨rfl, hr_2⟩, rfl⟩
set_option maxHeartbeats 4000000 in
set_option maxRecDepth 100000 in
theorem mk_X11_is_10 (l : Launch) (D : va_G) (q : Nat → Nat) (cA : Nat → ClassId) (ad av : Nat → Nat) (t9 : Nat) (F : Nat → Nat → Int32) (I R : Nat → Nat → Int32) (J : Nat → Nat → Int64) (hI : mInv F (I, R, J))  : zNi (zSS zMRs 25 q ad av t9) l D vwCl (zMtys cA) 25 q (zMd q cA) yX11_is cX11_is 4 (some .boolean) ({ frames := 4, cells := 0, slots := 0, locals := 85 } : Room) [.ref (q 0), .ref (ad 3)] (I, R, J) (fun r u => (r = nI 1 ∧ u = (I, R, J) ∧ mIs 3 I R) ∨ (r = nI 0 ∧ u = (I, R, J) ∧ ¬ mIs 3 I R)) := by
  intro sz
  refine z_bodyN (by decide +kernel) (Nat.le_of_ble_eq_true rfl) (fun p e s m below meth c ls hx hb hml hr ht hown hlocks hsz hK hP hD hS hN hl => ?_)
  have hA : ∀ a, s.heap.size ≤ a → zA 25 q sz a := fun a h => Or.inr (hsz ▸ h)
  have hl : lv_has ls 4 [(0, .ref (q 0)), (1, .ref (ad 3))] := hl
  have hZ : zSz zMRs 25 q ad av t9 sz s := hsz ▸ hN
  refine lv_aload_n hx hb dX11_is_0 rfl (lv_at hl 0 rfl) ?_
  refine z_callVi (k := 0) (As := []) (rest := []) hx hb hml hown ht (mk_X11_good l D q cA F _ _ _ hI ) hw_6_123 hmX11_good ⟨rfl, rfl⟩ (na := 0) rfl (by decide +kernel) (by decide) (by decide) rfl rfl hK hP hD hS hA hl.1 rfl (Nat.le_of_ble_eq_true rfl) ⟨Nat.zero_le _, Nat.zero_le _⟩ dX11_is_1 (fun r_1 I_1 R_1 J_1 H locs hp_1 hP hD hS _ _ => ?_)
  rcases hp_1 with ⟨rfl, hu_1, nn_1⟩ | ⟨rfl, hu_1, nn_1⟩
  · cases hu_1
    refine lv_if_eq (tgt := 35) hx hb dX11_is_4 (by decide) (fun c_0 => absurd c_0 (zD_ne zk_1 zk_z (by decide))) (fun _ => ?_)
    refine lv_aload_n hx hb dX11_is_7 rfl (lv_at hl 0 rfl) ?_
    refine z_get hx hb ht hown hK hP ziX11 rfl 0 (by decide) 10 (by decide) hw_5_197 rfl (v := .int (I 0 10)) rfl dX11_is_8 ?_
    refine lv_iconst (v := nI 1) hx hb dX11_is_11 (by decide +kernel) ?_
    refine lv_icmp_ne (tgt := 35) hx hb dX11_is_12 (by decide) (fun c_2 => ?_) (fun c_2 => ?_)
    · have t_c_2 := z_eqF c_2
      refine lv_iconst (v := nI 0) hx hb dX11_is_35 (by decide +kernel) ?_
      refine lv_istore_n (lv' := [(2, .int (nI 0)), (0, .ref (q 0)), (1, .ref (ad 3))]) hx hb dX11_is_36 rfl hl (by decide) rfl (fun ls hl => ?_)
      refine lv_iconst (v := nI 0) hx hb dX11_is_37 (by decide +kernel) ?_
      refine lv_istore_n (lv' := [(3, .int (nI 0)), (2, .int (nI 0)), (0, .ref (q 0)), (1, .ref (ad 3))]) hx hb dX11_is_38 rfl hl (by decide) rfl (fun ls hl => ?_)
      refine lv_iload_n hx hb dX11_is_39 rfl (lv_at hl 0 rfl) ?_
      refine lv_aload_n hx hb dX11_is_40 rfl (lv_at hl 3 rfl) ?_
      refine z_cNXi (As := []) (rest := [.int (nI 0)]) hx hb hml hown ht (mk_J0_length_8abf5_10 l D q cA ad av t9 F _ _ _ hI ) hw_6_144 hmJ0_length_8abf5 ⟨rfl, rfl⟩ (na := 0) rfl (by decide +kernel) (by decide) (vk_recv hZ.1 (by decide) hS) hK hP hD hS hA (zSS_c (Rs := zMRs) (t9 := t9) (fun _ _ _ => zMRs_c)) (zSS_w (Rs := zMRs) (t9 := t9) (fun _ _ _ => zMRs_w) hN hsz hS) hl.1 rfl (Nat.le_of_ble_eq_true rfl) ⟨Nat.zero_le _, Nat.zero_le _⟩ dX11_is_41 (fun r_5 I_5 R_5 J_5 H locs hp_5 hP hD hS _ _ => ?_)
      obtain ⟨rfl, hu_5⟩ := hp_5
      cases hu_5
      refine lv_icmp_ge (tgt := 82) hx hb dX11_is_44 (by decide) (fun c_0 => absurd c_0 (zD_nle zk_4 zk_0 (by decide))) (fun _ => ?_)
      refine lv_iload_n hx hb dX11_is_47 rfl (lv_at hl 1 rfl) ?_
      refine lv_if_eq (tgt := 82) hx hb dX11_is_48 (by decide) (fun _ => ?_) (fun c_0 => absurd (zD_eq zk_0 zk_z) c_0)
      refine lv_iload_n hx hb dX11_is_82 rfl (lv_at hl 1 rfl) ?_
      exact z_zret (v := nI 0) hx hb hr hlocks hP hD hS (by decide +kernel) dX11_is_83 (Or.inr ⟨rfl, rfl, (mIs_n2 t_c_2)⟩)
    · have t_c_2 := z_eqT c_2
      have f_6 : zR 1 1 (I 0 10) := zR_eqx t_c_2 zk_1
      refine lv_aload_n hx hb dX11_is_15 rfl (lv_at hl 0 rfl) ?_
      refine z_get hx hb ht hown hK hP ziX11 rfl 0 (by decide) 8 (by decide) hw_5_195 rfl (v := .int (I 0 8)) rfl dX11_is_16 ?_
      have f_7 : zR 0 800 (I 0 8) := mI hI 0 8
      refine lv_aload_n hx hb dX11_is_19 rfl (lv_at hl 0 rfl) ?_
      refine z_get hx hb ht hown hK hP ziX11 rfl 0 (by decide) 9 (by decide) hw_5_196 rfl (v := .int (I 0 9)) rfl dX11_is_20 ?_
      have f_8 : zR 0 800 (I 0 9) := mI hI 0 9
      refine lv_isub hx hb dX11_is_23 ?_
      refine lv_topi (fun v_9 ev_9 => ?_)
      have hv_9 : zR (-800) 800 v_9 := ev_9 ▸ zR_sub f_7 f_8 (by decide)
      refine lv_aload_n hx hb dX11_is_24 rfl (lv_at hl 1 rfl) ?_
      refine z_cNXi (As := []) (rest := [.int (v_9)]) hx hb hml hown ht (mk_J0_length_8abf5_10 l D q cA ad av t9 F _ _ _ hI ) hw_6_144 hmJ0_length_8abf5 ⟨rfl, rfl⟩ (na := 0) rfl (by decide +kernel) (by decide) (vk_recv hZ.1 (by decide) hS) hK hP hD hS hA (zSS_c (Rs := zMRs) (t9 := t9) (fun _ _ _ => zMRs_c)) (zSS_w (Rs := zMRs) (t9 := t9) (fun _ _ _ => zMRs_w) hN hsz hS) hl.1 rfl (Nat.le_of_ble_eq_true rfl) ⟨Nat.zero_le _, Nat.zero_le _⟩ dX11_is_25 (fun r_10 I_10 R_10 J_10 H locs hp_10 hP hD hS _ _ => ?_)
      obtain ⟨rfl, hu_10⟩ := hp_10
      cases hu_10
      refine lv_icmp_ne (tgt := 35) hx hb dX11_is_28 (by decide) (fun c_11 => ?_) (fun c_11 => ?_)
      · have t_c_11 := z_eqF c_11
        refine lv_iconst (v := nI 0) hx hb dX11_is_35 (by decide +kernel) ?_
        refine lv_istore_n (lv' := [(2, .int (nI 0)), (0, .ref (q 0)), (1, .ref (ad 3))]) hx hb dX11_is_36 rfl hl (by decide) rfl (fun ls hl => ?_)
        refine lv_iconst (v := nI 0) hx hb dX11_is_37 (by decide +kernel) ?_
        refine lv_istore_n (lv' := [(3, .int (nI 0)), (2, .int (nI 0)), (0, .ref (q 0)), (1, .ref (ad 3))]) hx hb dX11_is_38 rfl hl (by decide) rfl (fun ls hl => ?_)
        refine lv_iload_n hx hb dX11_is_39 rfl (lv_at hl 0 rfl) ?_
        refine lv_aload_n hx hb dX11_is_40 rfl (lv_at hl 3 rfl) ?_
        refine z_cNXi (As := []) (rest := [.int (nI 0)]) hx hb hml hown ht (mk_J0_length_8abf5_10 l D q cA ad av t9 F _ _ _ hI ) hw_6_144 hmJ0_length_8abf5 ⟨rfl, rfl⟩ (na := 0) rfl (by decide +kernel) (by decide) (vk_recv hZ.1 (by decide) hS) hK hP hD hS hA (zSS_c (Rs := zMRs) (t9 := t9) (fun _ _ _ => zMRs_c)) (zSS_w (Rs := zMRs) (t9 := t9) (fun _ _ _ => zMRs_w) hN hsz hS) hl.1 rfl (Nat.le_of_ble_eq_true rfl) ⟨Nat.zero_le _, Nat.zero_le _⟩ dX11_is_41 (fun r_14 I_14 R_14 J_14 H locs hp_14 hP hD hS _ _ => ?_)
        obtain ⟨rfl, hu_14⟩ := hp_14
        cases hu_14
        refine lv_icmp_ge (tgt := 82) hx hb dX11_is_44 (by decide) (fun c_0 => absurd c_0 (zD_nle zk_4 zk_0 (by decide))) (fun _ => ?_)
        refine lv_iload_n hx hb dX11_is_47 rfl (lv_at hl 1 rfl) ?_
        refine lv_if_eq (tgt := 82) hx hb dX11_is_48 (by decide) (fun _ => ?_) (fun c_0 => absurd (zD_eq zk_0 zk_z) c_0)
        refine lv_iload_n hx hb dX11_is_82 rfl (lv_at hl 1 rfl) ?_
        exact z_zret (v := nI 0) hx hb hr hlocks hP hD hS (by decide +kernel) dX11_is_83 (Or.inr ⟨rfl, rfl, (mIs_n3 ev_9 t_c_11)⟩)
      · have t_c_11 := z_eqT c_11
        have f_15 : zR 4 4 (v_9) := zR_eqx t_c_11 zk_4
        have f_16 : zR 0 796 (I 0 9) := z_start f_7 f_8 ev_9 f_15 (by decide)
        refine lv_iconst (v := nI 1) hx hb dX11_is_31 (by decide +kernel) ?_
        refine lv_goto (tgt := 36) hx hb dX11_is_32 (by decide) ?_
        refine lv_istore_n (lv' := [(2, .int (nI 1)), (0, .ref (q 0)), (1, .ref (ad 3))]) hx hb dX11_is_36 rfl hl (by decide) rfl (fun ls hl => ?_)
        refine lv_iconst (v := nI 0) hx hb dX11_is_37 (by decide +kernel) ?_
        refine lv_istore_n (lv' := [(3, .int (nI 0)), (2, .int (nI 1)), (0, .ref (q 0)), (1, .ref (ad 3))]) hx hb dX11_is_38 rfl hl (by decide) rfl (fun ls hl => ?_)
        have loop_71 : ∀ N : Nat, ∀ x_68 : Int32, zR 0 1 x_68 → ∀ x_69 : Int32, zR 0 4 x_69 → (mIsL 3 I R (x_69) (x_68)) → (2147483648 - (x_69).toInt).toNat < N → ∀ (H : Heap) (locs : List Loc), va_P D vwCl (zw 25 q (zMd q cA) I R J) H → va_D (zA 25 q sz) (zw 25 q (zMd q cA) I R J) → va_S (zA 25 q sz) s.heap H locs → ∀ ls : Array Slot, lv_has ls 4 [(0, .ref (q 0)), (1, .ref (ad 3)), (2, .int (x_68)), (3, .int (x_69))] → W p l e ({ frames := 4, cells := 0, slots := 0, locals := 85 } : Room) s m ([.ref (q 0), .ref (ad 3)] : List Value).toArray below meth c H locs 0 0 (MQ below (va_Qi (fun r u => (r = nI 1 ∧ u = (I, R, J) ∧ mIs 3 I R) ∨ (r = nI 0 ∧ u = (I, R, J) ∧ ¬ mIs 3 I R)) (zB D vwCl 25 q (zMd q cA) sz) (zA 25 q sz)) ([.ref (q 0), .ref (ad 3)] : List Value).toArray s 0 0 (zA 25 q sz)) (F0 m 39 ls []) := by
          intro N
          induction N with
          | zero => intro x_68 hx_68 x_69 hx_69 hx_70 hN; exact absurd hN (Nat.not_lt_zero _)
          | succ N ih_73 =>
            intro x_68 hx_68 x_69 hx_69 hx_70 hN_72 H locs hP hD hS ls hl
            refine lv_iload_n hx hb dX11_is_39 rfl (lv_at hl 3 rfl) ?_
            refine lv_aload_n hx hb dX11_is_40 rfl (lv_at hl 1 rfl) ?_
            refine z_cNXi (As := []) (rest := [.int (x_69)]) hx hb hml hown ht (mk_J0_length_8abf5_10 l D q cA ad av t9 F _ _ _ hI ) hw_6_144 hmJ0_length_8abf5 ⟨rfl, rfl⟩ (na := 0) rfl (by decide +kernel) (by decide) (vk_recv hZ.1 (by decide) hS) hK hP hD hS hA (zSS_c (Rs := zMRs) (t9 := t9) (fun _ _ _ => zMRs_c)) (zSS_w (Rs := zMRs) (t9 := t9) (fun _ _ _ => zMRs_w) hN hsz hS) hl.1 rfl (Nat.le_of_ble_eq_true rfl) ⟨Nat.zero_le _, Nat.zero_le _⟩ dX11_is_41 (fun r_74 I_74 R_74 J_74 H locs hp_74 hP hD hS _ _ => ?_)
            obtain ⟨rfl, hu_74⟩ := hp_74
            cases hu_74
            refine lv_icmp_ge (tgt := 82) hx hb dX11_is_44 (by decide) (fun c_75 => ?_) (fun c_75 => ?_)
            · have t_c_75 := z_leT c_75
              have f_76 : zR 4 4 (x_69) := zR_ley t_c_75 zk_4 hx_69 (by decide)
              refine lv_iload_n hx hb dX11_is_82 rfl (lv_at hl 2 rfl) ?_
              exact z_zret (v := x_68) hx hb hr hlocks hP hD hS (zR_bool (a := 0) (b := 1) hx_68 (by decide)).1 dX11_is_83 (mIs_r1 hx_70 hx_68 t_c_75)
            · have t_c_75 := z_leF c_75
              have f_77 : zR 0 3 (x_69) := zR_ltx t_c_75 hx_69 zk_4 (by decide)
              refine lv_iload_n hx hb dX11_is_47 rfl (lv_at hl 2 rfl) ?_
              refine lv_if_eq (tgt := 82) hx hb dX11_is_48 (by decide) (fun c_78 => ?_) (fun c_78 => ?_)
              · have t_c_78 := z_eqT c_78
                have f_79 : zR 0 0 (x_68) := zR_eqx t_c_78 zk_z
                refine lv_iload_n hx hb dX11_is_82 rfl (lv_at hl 2 rfl) ?_
                exact z_zret (v := x_68) hx hb hr hlocks hP hD hS (zR_bool (a := 0) (b := 1) (zR_w f_79 (by decide)) (by decide)).1 dX11_is_83 (mIs_r0 hx_70 f_79)
              · have t_c_78 := z_eqF c_78
                have f_80 : zR 1 1 (x_68) := zR_nex t_c_78 hx_68 zk_z (by decide)
                refine lv_aload_n hx hb dX11_is_51 rfl (lv_at hl 0 rfl) ?_
                refine z_get hx hb ht hown hK hP ziX11 rfl 0 (by decide) 4 (by decide) hw_5_191 rfl (v := .ref (q 4)) rfl dX11_is_52 ?_
                refine lv_aload_n hx hb dX11_is_55 rfl (lv_at hl 0 rfl) ?_
                refine z_get hx hb ht hown hK hP ziX11 rfl 0 (by decide) 9 (by decide) hw_5_196 rfl (v := .int (I 0 9)) rfl dX11_is_56 ?_
                refine lv_iload_n hx hb dX11_is_59 rfl (lv_at hl 3 rfl) ?_
                refine lv_iadd hx hb dX11_is_60 ?_
                refine lv_topi (fun v_81 ev_81 => ?_)
                have hv_81 : zR 0 799 v_81 := ev_81 ▸ zR_add f_16 f_77 (by decide)
                refine z_bald hx hb hK hP 4 (by decide) 3 rfl rfl (zR_vin hv_81 (by decide)) dX11_is_61 ?_
                refine z_eqi (y := R 4 (v_81).toNatClampNeg) rfl ?_
                refine lv_aload_n hx hb dX11_is_62 rfl (lv_at hl 1 rfl) ?_
                refine lv_iload_n hx hb dX11_is_63 rfl (lv_at hl 3 rfl) ?_
                refine z_cNXi (As := [.int (x_69)]) (rest := [.int (R 4 (v_81).toNatClampNeg)]) hx hb hml hown ht (mk_J0_charAt_5068e_20 l D q cA ad av t9 F _ _ _ hI (x_69) f_77) hw_6_145 hmJ0_charAt_5068e ⟨rfl, rfl⟩ (na := 1) rfl (by decide +kernel) (by decide) (vk_recv hZ.1 (by decide) hS) hK hP hD hS hA (zSS_c (Rs := zMRs) (t9 := t9) (fun _ _ _ => zMRs_c)) (zSS_w (Rs := zMRs) (t9 := t9) (fun _ _ _ => zMRs_w) hN hsz hS) hl.1 rfl (Nat.le_of_ble_eq_true rfl) ⟨Nat.zero_le _, Nat.zero_le _⟩ dX11_is_64 (fun r_82 I_82 R_82 J_82 H locs hp_82 hP hD hS _ _ => ?_)
                obtain ⟨⟨rfl, hr_82⟩, hu_82⟩ := hp_82
                cases hu_82
                refine lv_icmp_ne (tgt := 74) hx hb dX11_is_67 (by decide) (fun c_83 => ?_) (fun c_83 => ?_)
                · have t_c_83 := z_eqF c_83
                  refine lv_iconst (v := nI 0) hx hb dX11_is_74 (by decide +kernel) ?_
                  refine lv_istore_n (lv' := [(2, .int (nI 0)), (0, .ref (q 0)), (1, .ref (ad 3)), (3, .int (x_69))]) hx hb dX11_is_75 rfl hl (by decide) rfl (fun ls hl => ?_)
                  obtain ⟨v_84, ev_84⟩ : ∃ y : Int32, y = x_69 + nI 1 := ⟨_, rfl⟩
                  have hv_84 : zR 1 4 v_84 := ev_84 ▸ zR_add f_77 zk_1 (by decide)
                  have mv_84 : v_84.toInt = (x_69).toInt + 1 := by rw [ev_84, zR_addE f_77 zk_1 (by decide)]; rfl
                  refine lv_iinc (v := v_84) (lv' := [(3, .int (v_84)), (2, .int (nI 0)), (0, .ref (q 0)), (1, .ref (ad 3))]) hx hb dX11_is_76 hl (k := 3) rfl (ev_84 ▸ rfl) (by decide) rfl (fun ls hl => ?_)
                  refine lv_goto (tgt := 39) hx hb dX11_is_79 (by decide) ?_
                  exact ih_73 (nI 0) (zR_w zk_0 (by decide)) (v_84) (zR_w hv_84 (by decide)) (mIsL_n hx_70 f_80 t_c_75 t_c_83 (mIs_ix (zR_w f_16 (by decide)) (zR_w f_77 (by decide)) ev_81)) (z2_up mv_84 (by decide) hN_72) _ _ hP hD hS _ (lv_sub hl [2, 3, 1, 0] rfl)
                · have t_c_83 := z_eqT c_83
                  have f_85 : zR 0 65535 (R 4 (v_81).toNatClampNeg) := zR_eqx t_c_83 hr_82
                  refine lv_iconst (v := nI 1) hx hb dX11_is_70 (by decide +kernel) ?_
                  refine lv_goto (tgt := 75) hx hb dX11_is_71 (by decide) ?_
                  refine lv_istore_n (lv' := [(2, .int (nI 1)), (0, .ref (q 0)), (1, .ref (ad 3)), (3, .int (x_69))]) hx hb dX11_is_75 rfl hl (by decide) rfl (fun ls hl => ?_)
                  obtain ⟨v_86, ev_86⟩ : ∃ y : Int32, y = x_69 + nI 1 := ⟨_, rfl⟩
                  have hv_86 : zR 1 4 v_86 := ev_86 ▸ zR_add f_77 zk_1 (by decide)
                  have mv_86 : v_86.toInt = (x_69).toInt + 1 := by rw [ev_86, zR_addE f_77 zk_1 (by decide)]; rfl
                  refine lv_iinc (v := v_86) (lv' := [(3, .int (v_86)), (2, .int (nI 1)), (0, .ref (q 0)), (1, .ref (ad 3))]) hx hb dX11_is_76 hl (k := 3) rfl (ev_86 ▸ rfl) (by decide) rfl (fun ls hl => ?_)
                  refine lv_goto (tgt := 39) hx hb dX11_is_79 (by decide) ?_
                  exact ih_73 (nI 1) (zR_w zk_1 (by decide)) (v_86) (zR_w hv_86 (by decide)) (mIsL_1 hx_70 f_80 mv_86 t_c_83 (mIs_ix (zR_w f_16 (by decide)) (zR_w f_77 (by decide)) ev_81)) (z2_up mv_86 (by decide) hN_72) _ _ hP hD hS _ (lv_sub hl [2, 3, 1, 0] rfl)
        exact loop_71 _ (nI 1) (zR_w zk_1 (by decide)) (nI 0) (zR_w zk_0 (by decide)) (mIsL_0 (mIs_a3 nn_1 t_c_2 ev_9 f_15)) (Nat.lt_succ_self _) _ _ hP hD hS _ (lv_sub hl [2, 3, 1, 0] rfl)
  · cases hu_1
    refine lv_if_eq (tgt := 35) hx hb dX11_is_4 (by decide) (fun _ => ?_) (fun c_0 => absurd (zD_eq zk_0 zk_z) c_0)
    refine lv_iconst (v := nI 0) hx hb dX11_is_35 (by decide +kernel) ?_
    refine lv_istore_n (lv' := [(2, .int (nI 0)), (0, .ref (q 0)), (1, .ref (ad 3))]) hx hb dX11_is_36 rfl hl (by decide) rfl (fun ls hl => ?_)
    refine lv_iconst (v := nI 0) hx hb dX11_is_37 (by decide +kernel) ?_
    refine lv_istore_n (lv' := [(3, .int (nI 0)), (2, .int (nI 0)), (0, .ref (q 0)), (1, .ref (ad 3))]) hx hb dX11_is_38 rfl hl (by decide) rfl (fun ls hl => ?_)
    refine lv_iload_n hx hb dX11_is_39 rfl (lv_at hl 0 rfl) ?_
    refine lv_aload_n hx hb dX11_is_40 rfl (lv_at hl 3 rfl) ?_
    refine z_cNXi (As := []) (rest := [.int (nI 0)]) hx hb hml hown ht (mk_J0_length_8abf5_10 l D q cA ad av t9 F _ _ _ hI ) hw_6_144 hmJ0_length_8abf5 ⟨rfl, rfl⟩ (na := 0) rfl (by decide +kernel) (by decide) (vk_recv hZ.1 (by decide) hS) hK hP hD hS hA (zSS_c (Rs := zMRs) (t9 := t9) (fun _ _ _ => zMRs_c)) (zSS_w (Rs := zMRs) (t9 := t9) (fun _ _ _ => zMRs_w) hN hsz hS) hl.1 rfl (Nat.le_of_ble_eq_true rfl) ⟨Nat.zero_le _, Nat.zero_le _⟩ dX11_is_41 (fun r_89 I_89 R_89 J_89 H locs hp_89 hP hD hS _ _ => ?_)
    obtain ⟨rfl, hu_89⟩ := hp_89
    cases hu_89
    refine lv_icmp_ge (tgt := 82) hx hb dX11_is_44 (by decide) (fun c_0 => absurd c_0 (zD_nle zk_4 zk_0 (by decide))) (fun _ => ?_)
    refine lv_iload_n hx hb dX11_is_47 rfl (lv_at hl 1 rfl) ?_
    refine lv_if_eq (tgt := 82) hx hb dX11_is_48 (by decide) (fun _ => ?_) (fun c_0 => absurd (zD_eq zk_0 zk_z) c_0)
    refine lv_iload_n hx hb dX11_is_82 rfl (lv_at hl 1 rfl) ?_
    exact z_zret (v := nI 0) hx hb hr hlocks hP hD hS (by decide +kernel) dX11_is_83 (Or.inr ⟨rfl, rfl, (mIs_n1 nn_1)⟩)
set_option maxHeartbeats 4000000 in
set_option maxRecDepth 100000 in
theorem mk_X11_takes_9 (l : Launch) (D : va_G) (q : Nat → Nat) (cA : Nat → ClassId) (ad av : Nat → Nat) (t9 : Nat) (F : Nat → Nat → Int32) (I R : Nat → Nat → Int32) (J : Nat → Nat → Int64) (hI : mInv F (I, R, J))  : zNi (zSS zMRs 25 q ad av t9) l D vwCl (zMtys cA) 25 q (zMd q cA) yX11_takes cX11_takes 3 (some .boolean) ({ frames := 5, cells := 0, slots := 0, locals := 108 } : Room) [.ref (q 0), .ref (ad 3)] (I, R, J) (fun r u => (r = nI 1 ∧ ((mInv F u ∧ (∀ k, k ≠ 0 → u.1 k = I k) ∧ u.2 = (R, J)) ∧ mTr I u.1) ∧ mIs 3 I R) ∨ (r = nI 0 ∧ u = (I, R, J) ∧ ¬ mIs 3 I R)) := by
  intro sz
  refine z_bodyN (by decide +kernel) (Nat.le_of_ble_eq_true rfl) (fun p e s m below meth c ls hx hb hml hr ht hown hlocks hsz hK hP hD hS hN hl => ?_)
  have hA : ∀ a, s.heap.size ≤ a → zA 25 q sz a := fun a h => Or.inr (hsz ▸ h)
  have hl : lv_has ls 3 [(0, .ref (q 0)), (1, .ref (ad 3))] := hl
  have hZ : zSz zMRs 25 q ad av t9 sz s := hsz ▸ hN
  refine lv_aload_n hx hb dX11_takes_0 rfl (lv_at hl 0 rfl) ?_
  refine lv_aload_n hx hb dX11_takes_1 rfl (lv_at hl 1 rfl) ?_
  refine z_cNVi (k := 0) (As := [.ref (ad 3)]) (rest := []) hx hb hml hown ht (mk_X11_is_10 l D q cA ad av t9 F _ _ _ hI ) hw_6_140 hmX11_is ⟨rfl, rfl⟩ (na := 1) rfl (by decide +kernel) (by decide) (by decide) rfl rfl hK hP hD hS hA (zSS_c (Rs := zMRs) (t9 := t9) (fun _ _ _ => zMRs_c)) (zSS_w (Rs := zMRs) (t9 := t9) (fun _ _ _ => zMRs_w) hN hsz hS) hl.1 rfl (Nat.le_of_ble_eq_true rfl) ⟨Nat.zero_le _, Nat.zero_le _⟩ dX11_takes_2 (fun r_1 I_1 R_1 J_1 H locs hp_1 hP hD hS _ _ => ?_)
  rcases hp_1 with ⟨rfl, hu_1, nn_1⟩ | ⟨rfl, hu_1, nn_1⟩
  · cases hu_1
    refine lv_istore_n (lv' := [(2, .int (nI 1)), (0, .ref (q 0)), (1, .ref (ad 3))]) hx hb dX11_takes_5 rfl hl (by decide) rfl (fun ls hl => ?_)
    refine lv_iload_n hx hb dX11_takes_6 rfl (lv_at hl 0 rfl) ?_
    refine lv_if_eq (tgt := 14) hx hb dX11_takes_7 (by decide) (fun c_0 => absurd c_0 (zD_ne zk_1 zk_z (by decide))) (fun _ => ?_)
    refine lv_aload_n hx hb dX11_takes_10 rfl (lv_at hl 1 rfl) ?_
    refine z_callVv (k := 0) (As := []) (rest := []) hx hb hml hown ht (mk_X11_advance l D q cA F _ _ _ hI ) hw_6_109 hmX11_advance ⟨rfl, rfl⟩ (na := 0) rfl (by decide +kernel) (by decide) (by decide) rfl rfl hK hP hD hS hA hl.1 rfl (Nat.le_of_ble_eq_true rfl) ⟨Nat.zero_le _, Nat.zero_le _⟩ dX11_takes_11 (fun I_2 R_2 J_2 H locs hp_2 hP hD hS _ _ => ?_)
    obtain ⟨hq_2, he_2⟩ := hp_2
    try dsimp only at he_2
    obtain ⟨hv_2, hk_2, hj_2⟩ := hq_2
    try dsimp only at hj_2 hk_2
    cases hj_2
    have hf_3 : ∀ k, k ≠ 0 → I_2 k = I k := fun k h => (hk_2 k h).trans ((fun (_ : Nat) _ => rfl) k h)
    refine lv_iload_n hx hb dX11_takes_14 rfl (lv_at hl 0 rfl) ?_
    exact z_zret (v := nI 1) hx hb hr hlocks hP hD hS (by decide +kernel) dX11_takes_15 (Or.inl ⟨rfl, ⟨⟨hv_2, hf_3, rfl⟩, he_2⟩, nn_1⟩)
  · cases hu_1
    refine lv_istore_n (lv' := [(2, .int (nI 0)), (0, .ref (q 0)), (1, .ref (ad 3))]) hx hb dX11_takes_5 rfl hl (by decide) rfl (fun ls hl => ?_)
    refine lv_iload_n hx hb dX11_takes_6 rfl (lv_at hl 0 rfl) ?_
    refine lv_if_eq (tgt := 14) hx hb dX11_takes_7 (by decide) (fun _ => ?_) (fun c_0 => absurd (zD_eq zk_0 zk_z) c_0)
    refine lv_iload_n hx hb dX11_takes_14 rfl (lv_at hl 0 rfl) ?_
    exact z_zret (v := nI 0) hx hb hr hlocks hP hD hS (by decide +kernel) dX11_takes_15 (Or.inr ⟨rfl, rfl, nn_1⟩)
set_option maxHeartbeats 4000000 in
set_option maxRecDepth 100000 in
theorem mk_X11_needs_6 (l : Launch) (D : va_G) (q : Nat → Nat) (cA : Nat → ClassId) (ad av : Nat → Nat) (t9 : Nat) (F : Nat → Nat → Int32) (I R : Nat → Nat → Int32) (J : Nat → Nat → Int64) (hI : mInv F (I, R, J))  : zNv (zSS zMRs 25 q ad av t9) l D vwCl (zMtys cA) 25 q (zMd q cA) yX11_needs cX11_needs 2 none ({ frames := 6, cells := 0, slots := 0, locals := 130 } : Room) [.ref (q 0), .ref (ad 3)] (I, R, J) (fun u => (mInv F u ∧ (∀ k, k ≠ 0 → u.1 k = I k) ∧ u.2 = (R, J)) ∧ mTr I u.1) := by
  intro sz
  refine z_bodyN (by decide +kernel) (Nat.le_of_ble_eq_true rfl) (fun p e s m below meth c ls hx hb hml hr ht hown hlocks hsz hK hP hD hS hN hl => ?_)
  have hA : ∀ a, s.heap.size ≤ a → zA 25 q sz a := fun a h => Or.inr (hsz ▸ h)
  have hl : lv_has ls 2 [(0, .ref (q 0)), (1, .ref (ad 3))] := hl
  have hZ : zSz zMRs 25 q ad av t9 sz s := hsz ▸ hN
  refine lv_aload_n hx hb dX11_needs_0 rfl (lv_at hl 0 rfl) ?_
  refine lv_aload_n hx hb dX11_needs_1 rfl (lv_at hl 1 rfl) ?_
  refine z_cNVi (k := 0) (As := [.ref (ad 3)]) (rest := []) hx hb hml hown ht (mk_X11_takes_9 l D q cA ad av t9 F _ _ _ hI ) hw_6_136 hmX11_takes ⟨rfl, rfl⟩ (na := 1) rfl (by decide +kernel) (by decide) (by decide) rfl rfl hK hP hD hS hA (zSS_c (Rs := zMRs) (t9 := t9) (fun _ _ _ => zMRs_c)) (zSS_w (Rs := zMRs) (t9 := t9) (fun _ _ _ => zMRs_w) hN hsz hS) hl.1 rfl (Nat.le_of_ble_eq_true rfl) ⟨Nat.zero_le _, Nat.zero_le _⟩ dX11_needs_2 (fun r_1 I_1 R_1 J_1 H locs hp_1 hP hD hS _ _ => ?_)
  rcases hp_1 with ⟨rfl, hu_1, nn_1⟩ | ⟨rfl, hu_1, nn_1⟩
  · obtain ⟨hq_1, he_1⟩ := hu_1
    try dsimp only at he_1
    obtain ⟨hv_1, hk_1, hj_1⟩ := hq_1
    try dsimp only at hj_1 hk_1
    cases hj_1
    have hf_2 : ∀ k, k ≠ 0 → I_1 k = I k := fun k h => (hk_1 k h).trans ((fun (_ : Nat) _ => rfl) k h)
    refine lv_if_ne (tgt := 13) hx hb dX11_needs_5 (by decide) (fun _ => ?_) (fun c_0 => absurd c_0 (zD_ne zk_1 zk_z (by decide)))
    exact z_vret hx hb hr hlocks hP hD hS dX11_needs_13 ⟨⟨hv_1, hf_2, rfl⟩, he_1⟩
  · cases hu_1
    refine lv_if_ne (tgt := 13) hx hb dX11_needs_5 (by decide) (fun c_0 => absurd (zD_eq zk_0 zk_z) c_0) (fun _ => ?_)
    refine lv_aload_n hx hb dX11_needs_8 rfl (lv_at hl 0 rfl) ?_
    refine lv_iconst (v := nI 1) hx hb dX11_needs_9 (by decide +kernel) ?_
    refine z_callVv (k := 0) (As := [.int (nI 1)]) (rest := []) hx hb hml hown ht (mk_X11_errs l D q cA F _ _ _ hI ) hw_6_146 hmX11_errs ⟨rfl, rfl⟩ (na := 1) rfl (by decide +kernel) (by decide) (by decide) rfl rfl hK hP hD hS hA hl.1 rfl (Nat.le_of_ble_eq_true rfl) ⟨Nat.zero_le _, Nat.zero_le _⟩ dX11_needs_10 (fun I_3 R_3 J_3 H locs hp_3 hP hD hS _ _ => ?_)
    obtain ⟨hq_3, he_3⟩ := hp_3
    obtain ⟨hv_3, hk_3, hj_3⟩ := hq_3
    try dsimp only at hj_3 hk_3
    cases hj_3
    have hf_4 : ∀ k, k ≠ 0 → I_3 k = I k := fun k h => (hk_3 k h).trans ((fun (_ : Nat) _ => rfl) k h)
    exact z_vret hx hb hr hlocks hP hD hS dX11_needs_13 ⟨⟨hv_3, hf_4, rfl⟩, (mTr_f he_3)⟩
set_option maxHeartbeats 4000000 in
set_option maxRecDepth 100000 in
theorem mk_X11_number_7 (l : Launch) (D : va_G) (q : Nat → Nat) (cA : Nat → ClassId) (F : Nat → Nat → Int32) (I R : Nat → Nat → Int32) (J : Nat → Nat → Int64) (hI : mInv F (I, R, J))  : zMi l D vwCl (zMtys cA) 25 q (zMd q cA) yX11_number cX11_number 4 (some .int) ({ frames := 2, cells := 0, slots := 0, locals := 85 } : Room) [.ref (q 0), .int (nI 0), .int (nI 100)] (I, R, J) (fun r u => ((mInv F u ∧ (∀ k, k ≠ 0 → u.1 k = I k) ∧ u.2 = (R, J)) ∧ mTr I u.1) ∧ zR 0 100 r) := by
  intro sz
  refine z_body (by decide +kernel) (Nat.le_of_ble_eq_true rfl) (fun p e s m below meth c ls hx hb hml hr ht hown hlocks hsz hK hP hD hS hl => ?_)
  have hA : ∀ a, s.heap.size ≤ a → zA 25 q sz a := fun a h => Or.inr (hsz ▸ h)
  have hl : lv_has ls 4 [(0, .ref (q 0)), (1, .int (nI 0)), (2, .int (nI 100))] := hl
  refine lv_aload_n hx hb dX11_number_0 rfl (lv_at hl 0 rfl) ?_
  refine z_callVi (k := 0) (As := []) (rest := []) hx hb hml hown ht (mk_X11_good l D q cA F _ _ _ hI ) hw_6_123 hmX11_good ⟨rfl, rfl⟩ (na := 0) rfl (by decide +kernel) (by decide) (by decide) rfl rfl hK hP hD hS hA hl.1 rfl (Nat.le_of_ble_eq_true rfl) ⟨Nat.zero_le _, Nat.zero_le _⟩ dX11_number_1 (fun r_1 I_1 R_1 J_1 H locs hp_1 hP hD hS _ _ => ?_)
  rcases hp_1 with ⟨rfl, hu_1, nn_1⟩ | ⟨rfl, hu_1, nn_1⟩
  · cases hu_1
    refine lv_if_eq (tgt := 20) hx hb dX11_number_4 (by decide) (fun c_0 => absurd c_0 (zD_ne zk_1 zk_z (by decide))) (fun _ => ?_)
    refine lv_aload_n hx hb dX11_number_7 rfl (lv_at hl 0 rfl) ?_
    refine z_get hx hb ht hown hK hP ziX11 rfl 0 (by decide) 10 (by decide) hw_5_197 rfl (v := .int (I 0 10)) rfl dX11_number_8 ?_
    refine lv_iconst (v := nI 2) hx hb dX11_number_11 (by decide +kernel) ?_
    refine lv_icmp_eq (tgt := 20) hx hb dX11_number_12 (by decide) (fun c_2 => ?_) (fun c_2 => ?_)
    · have t_c_2 := z_eqT c_2
      have f_3 : zR 2 2 (I 0 10) := zR_eqx t_c_2 zk_2
      refine lv_aload_n hx hb dX11_number_20 rfl (lv_at hl 0 rfl) ?_
      refine z_callVi (k := 0) (As := []) (rest := []) hx hb hml hown ht (mk_X11_good l D q cA F _ _ _ hI ) hw_6_123 hmX11_good ⟨rfl, rfl⟩ (na := 0) rfl (by decide +kernel) (by decide) (by decide) rfl rfl hK hP hD hS hA hl.1 rfl (Nat.le_of_ble_eq_true rfl) ⟨Nat.zero_le _, Nat.zero_le _⟩ dX11_number_21 (fun r_4 I_4 R_4 J_4 H locs hp_4 hP hD hS _ _ => ?_)
      rcases hp_4 with ⟨rfl, hu_4, nn_4⟩ | ⟨rfl, hu_4, nn_4⟩
      · cases hu_4
        refine lv_if_eq (tgt := 47) hx hb dX11_number_24 (by decide) (fun c_0 => absurd c_0 (zD_ne zk_1 zk_z (by decide))) (fun _ => ?_)
        refine lv_aload_n hx hb dX11_number_27 rfl (lv_at hl 0 rfl) ?_
        refine z_get hx hb ht hown hK hP ziX11 rfl 0 (by decide) 11 (by decide) hw_5_198 rfl (v := .int (I 0 11)) rfl dX11_number_28 ?_
        refine lv_i2l (v := (I 0 11).toInt64) hx hb dX11_number_31 rfl ?_
        refine lv_iload_n hx hb dX11_number_32 rfl (lv_at hl 1 rfl) ?_
        refine lv_i2l (v := (0 : Int64)) hx hb dX11_number_33 (by decide +kernel) ?_
        refine lv_iload_n hx hb dX11_number_34 rfl (lv_at hl 2 rfl) ?_
        refine lv_i2l (v := (100 : Int64)) hx hb dX11_number_35 (by decide +kernel) ?_
        refine z_callSi (As := [.long ((I 0 11).toInt64), .long ((0 : Int64)), .long ((100 : Int64))]) (rest := []) hx hb hml hown ht (mk_X11_in l D q cA F _ _ _ hI ((I 0 11).toInt64) ((0 : Int64)) ((100 : Int64))) hw_6_86 hmX11_in ⟨rfl, rfl⟩ (na := 3) rfl (by decide +kernel) (by decide) hK hP hD hS hA hl.1 rfl (Nat.le_of_ble_eq_true rfl) ⟨Nat.zero_le _, Nat.zero_le _⟩ dX11_number_36 (fun r_5 I_5 R_5 J_5 H locs hp_5 hP hD hS _ _ => ?_)
        rcases hp_5 with ⟨rfl, hu_5, h1_5, h2_5⟩ | ⟨rfl, hu_5, h1_5 | h2_5⟩
        · cases hu_5
          have f_6 : zL 0 2147483647 ((I 0 11).toInt64) := zL_ley h1_5 zkl_0 (zR_i2l (zR_any (I 0 11))) (by decide)
          have f_7 : zR 0 2147483647 (I 0 11) := zL_back f_6
          have f_8 : zL 0 100 ((I 0 11).toInt64) := zL_lex h2_5 f_6 zkl_100 (by decide)
          have f_9 : zR 0 100 (I 0 11) := zL_back f_8
          refine lv_if_ne (tgt := 47) hx hb dX11_number_39 (by decide) (fun _ => ?_) (fun c_0 => absurd c_0 (zD_ne zk_1 zk_z (by decide)))
          refine lv_aload_n hx hb dX11_number_47 rfl (lv_at hl 0 rfl) ?_
          refine z_callVi (k := 0) (As := []) (rest := []) hx hb hml hown ht (mk_X11_good l D q cA F _ _ _ hI ) hw_6_123 hmX11_good ⟨rfl, rfl⟩ (na := 0) rfl (by decide +kernel) (by decide) (by decide) rfl rfl hK hP hD hS hA hl.1 rfl (Nat.le_of_ble_eq_true rfl) ⟨Nat.zero_le _, Nat.zero_le _⟩ dX11_number_48 (fun r_10 I_10 R_10 J_10 H locs hp_10 hP hD hS _ _ => ?_)
          rcases hp_10 with ⟨rfl, hu_10, nn_10⟩ | ⟨rfl, hu_10, nn_10⟩
          · cases hu_10
            refine lv_if_ne (tgt := 56) hx hb dX11_number_51 (by decide) (fun _ => ?_) (fun c_0 => absurd c_0 (zD_ne zk_1 zk_z (by decide)))
            refine lv_aload_n hx hb dX11_number_56 rfl (lv_at hl 0 rfl) ?_
            refine z_get hx hb ht hown hK hP ziX11 rfl 0 (by decide) 11 (by decide) hw_5_198 rfl (v := .int (I 0 11)) rfl dX11_number_57 ?_
            refine lv_istore_n (lv' := [(3, .int (I 0 11)), (0, .ref (q 0)), (1, .int (nI 0)), (2, .int (nI 100))]) hx hb dX11_number_60 rfl hl (by decide) rfl (fun ls hl => ?_)
            refine lv_aload_n hx hb dX11_number_61 rfl (lv_at hl 1 rfl) ?_
            refine z_callVv (k := 0) (As := []) (rest := []) hx hb hml hown ht (mk_X11_advance l D q cA F _ _ _ hI ) hw_6_109 hmX11_advance ⟨rfl, rfl⟩ (na := 0) rfl (by decide +kernel) (by decide) (by decide) rfl rfl hK hP hD hS hA hl.1 rfl (Nat.le_of_ble_eq_true rfl) ⟨Nat.zero_le _, Nat.zero_le _⟩ dX11_number_62 (fun I_11 R_11 J_11 H locs hp_11 hP hD hS _ _ => ?_)
            obtain ⟨hq_11, he_11⟩ := hp_11
            try dsimp only at he_11
            obtain ⟨hv_11, hk_11, hj_11⟩ := hq_11
            try dsimp only at hj_11 hk_11
            cases hj_11
            have hf_12 : ∀ k, k ≠ 0 → I_11 k = I k := fun k h => (hk_11 k h).trans ((fun (_ : Nat) _ => rfl) k h)
            refine lv_iload_n hx hb dX11_number_65 rfl (lv_at hl 0 rfl) ?_
            exact z_iret (v := I 0 11) hx hb hr hlocks hP hD hS dX11_number_66 ⟨⟨⟨hv_11, hf_12, rfl⟩, he_11⟩, f_9⟩
          · cases hu_10
            exact (zR_abs2 nn_10 nn_4 (by decide)).elim
        · cases hu_5
          have f_13 : zL (-2147483648) (-1) ((I 0 11).toInt64) := zL_ltx h1_5 (zR_i2l (zR_any (I 0 11))) zkl_0 (by decide)
          have f_14 : zR (-2147483648) (-1) (I 0 11) := zL_back f_13
          refine lv_if_ne (tgt := 47) hx hb dX11_number_39 (by decide) (fun c_0 => absurd (zD_eq zk_0 zk_z) c_0) (fun _ => ?_)
          refine lv_aload_n hx hb dX11_number_42 rfl (lv_at hl 0 rfl) ?_
          refine lv_iconst (v := nI 2) hx hb dX11_number_43 (by decide +kernel) ?_
          refine z_callVv (k := 0) (As := [.int (nI 2)]) (rest := []) hx hb hml hown ht (mk_X11_errs_1 l D q cA F _ _ _ hI ) hw_6_146 hmX11_errs ⟨rfl, rfl⟩ (na := 1) rfl (by decide +kernel) (by decide) (by decide) rfl rfl hK hP hD hS hA hl.1 rfl (Nat.le_of_ble_eq_true rfl) ⟨Nat.zero_le _, Nat.zero_le _⟩ dX11_number_44 (fun I_15 R_15 J_15 H locs hp_15 hP hD hS _ _ => ?_)
          obtain ⟨hq_15, he_15⟩ := hp_15
          obtain ⟨hv_15, hk_15, hj_15⟩ := hq_15
          try dsimp only at hj_15 hk_15
          cases hj_15
          have hf_16 : ∀ k, k ≠ 0 → I_15 k = I k := fun k h => (hk_15 k h).trans ((fun (_ : Nat) _ => rfl) k h)
          refine lv_aload_n hx hb dX11_number_47 rfl (lv_at hl 0 rfl) ?_
          refine z_callVi (k := 0) (As := []) (rest := []) hx hb hml hown ht (mk_X11_good l D q cA F _ _ _ hv_15 ) hw_6_123 hmX11_good ⟨rfl, rfl⟩ (na := 0) rfl (by decide +kernel) (by decide) (by decide) rfl rfl hK hP hD hS hA hl.1 rfl (Nat.le_of_ble_eq_true rfl) ⟨Nat.zero_le _, Nat.zero_le _⟩ dX11_number_48 (fun r_17 I_17 R_17 J_17 H locs hp_17 hP hD hS _ _ => ?_)
          rcases hp_17 with ⟨rfl, hu_17, nn_17⟩ | ⟨rfl, hu_17, nn_17⟩
          · cases hu_17
            exact (zR_abs2 nn_17 he_15 (by decide)).elim
          · cases hu_17
            refine lv_if_ne (tgt := 56) hx hb dX11_number_51 (by decide) (fun c_0 => absurd (zD_eq zk_0 zk_z) c_0) (fun _ => ?_)
            refine lv_iconst (v := nI 0) hx hb dX11_number_54 (by decide +kernel) ?_
            exact z_iret (v := nI 0) hx hb hr hlocks hP hD hS dX11_number_55 ⟨⟨⟨hv_15, hf_16, rfl⟩, (mTr_f he_15)⟩, (zR_w zk_0 (by decide))⟩
        · cases hu_5
          have f_18 : zL 101 2147483647 ((I 0 11).toInt64) := zL_lty h2_5 zkl_100 (zR_i2l (zR_any (I 0 11))) (by decide)
          have f_19 : zR 101 2147483647 (I 0 11) := zL_back f_18
          refine lv_if_ne (tgt := 47) hx hb dX11_number_39 (by decide) (fun c_0 => absurd (zD_eq zk_0 zk_z) c_0) (fun _ => ?_)
          refine lv_aload_n hx hb dX11_number_42 rfl (lv_at hl 0 rfl) ?_
          refine lv_iconst (v := nI 2) hx hb dX11_number_43 (by decide +kernel) ?_
          refine z_callVv (k := 0) (As := [.int (nI 2)]) (rest := []) hx hb hml hown ht (mk_X11_errs_1 l D q cA F _ _ _ hI ) hw_6_146 hmX11_errs ⟨rfl, rfl⟩ (na := 1) rfl (by decide +kernel) (by decide) (by decide) rfl rfl hK hP hD hS hA hl.1 rfl (Nat.le_of_ble_eq_true rfl) ⟨Nat.zero_le _, Nat.zero_le _⟩ dX11_number_44 (fun I_20 R_20 J_20 H locs hp_20 hP hD hS _ _ => ?_)
          obtain ⟨hq_20, he_20⟩ := hp_20
          obtain ⟨hv_20, hk_20, hj_20⟩ := hq_20
          try dsimp only at hj_20 hk_20
          cases hj_20
          have hf_21 : ∀ k, k ≠ 0 → I_20 k = I k := fun k h => (hk_20 k h).trans ((fun (_ : Nat) _ => rfl) k h)
          refine lv_aload_n hx hb dX11_number_47 rfl (lv_at hl 0 rfl) ?_
          refine z_callVi (k := 0) (As := []) (rest := []) hx hb hml hown ht (mk_X11_good l D q cA F _ _ _ hv_20 ) hw_6_123 hmX11_good ⟨rfl, rfl⟩ (na := 0) rfl (by decide +kernel) (by decide) (by decide) rfl rfl hK hP hD hS hA hl.1 rfl (Nat.le_of_ble_eq_true rfl) ⟨Nat.zero_le _, Nat.zero_le _⟩ dX11_number_48 (fun r_22 I_22 R_22 J_22 H locs hp_22 hP hD hS _ _ => ?_)
          rcases hp_22 with ⟨rfl, hu_22, nn_22⟩ | ⟨rfl, hu_22, nn_22⟩
          · cases hu_22
            exact (zR_abs2 nn_22 he_20 (by decide)).elim
          · cases hu_22
            refine lv_if_ne (tgt := 56) hx hb dX11_number_51 (by decide) (fun c_0 => absurd (zD_eq zk_0 zk_z) c_0) (fun _ => ?_)
            refine lv_iconst (v := nI 0) hx hb dX11_number_54 (by decide +kernel) ?_
            exact z_iret (v := nI 0) hx hb hr hlocks hP hD hS dX11_number_55 ⟨⟨⟨hv_20, hf_21, rfl⟩, (mTr_f he_20)⟩, (zR_w zk_0 (by decide))⟩
      · cases hu_4
        exact (zR_abs2 nn_4 nn_1 (by decide)).elim
    · have t_c_2 := z_eqF c_2
      refine lv_aload_n hx hb dX11_number_15 rfl (lv_at hl 0 rfl) ?_
      refine lv_iconst (v := nI 1) hx hb dX11_number_16 (by decide +kernel) ?_
      refine z_callVv (k := 0) (As := [.int (nI 1)]) (rest := []) hx hb hml hown ht (mk_X11_errs l D q cA F _ _ _ hI ) hw_6_146 hmX11_errs ⟨rfl, rfl⟩ (na := 1) rfl (by decide +kernel) (by decide) (by decide) rfl rfl hK hP hD hS hA hl.1 rfl (Nat.le_of_ble_eq_true rfl) ⟨Nat.zero_le _, Nat.zero_le _⟩ dX11_number_17 (fun I_23 R_23 J_23 H locs hp_23 hP hD hS _ _ => ?_)
      obtain ⟨hq_23, he_23⟩ := hp_23
      obtain ⟨hv_23, hk_23, hj_23⟩ := hq_23
      try dsimp only at hj_23 hk_23
      cases hj_23
      have hf_24 : ∀ k, k ≠ 0 → I_23 k = I k := fun k h => (hk_23 k h).trans ((fun (_ : Nat) _ => rfl) k h)
      refine lv_aload_n hx hb dX11_number_20 rfl (lv_at hl 0 rfl) ?_
      refine z_callVi (k := 0) (As := []) (rest := []) hx hb hml hown ht (mk_X11_good l D q cA F _ _ _ hv_23 ) hw_6_123 hmX11_good ⟨rfl, rfl⟩ (na := 0) rfl (by decide +kernel) (by decide) (by decide) rfl rfl hK hP hD hS hA hl.1 rfl (Nat.le_of_ble_eq_true rfl) ⟨Nat.zero_le _, Nat.zero_le _⟩ dX11_number_21 (fun r_25 I_25 R_25 J_25 H locs hp_25 hP hD hS _ _ => ?_)
      rcases hp_25 with ⟨rfl, hu_25, nn_25⟩ | ⟨rfl, hu_25, nn_25⟩
      · cases hu_25
        exact (zR_abs2 nn_25 he_23 (by decide)).elim
      · cases hu_25
        refine lv_if_eq (tgt := 47) hx hb dX11_number_24 (by decide) (fun _ => ?_) (fun c_0 => absurd (zD_eq zk_0 zk_z) c_0)
        refine lv_aload_n hx hb dX11_number_47 rfl (lv_at hl 0 rfl) ?_
        refine z_callVi (k := 0) (As := []) (rest := []) hx hb hml hown ht (mk_X11_good l D q cA F _ _ _ hv_23 ) hw_6_123 hmX11_good ⟨rfl, rfl⟩ (na := 0) rfl (by decide +kernel) (by decide) (by decide) rfl rfl hK hP hD hS hA hl.1 rfl (Nat.le_of_ble_eq_true rfl) ⟨Nat.zero_le _, Nat.zero_le _⟩ dX11_number_48 (fun r_26 I_26 R_26 J_26 H locs hp_26 hP hD hS _ _ => ?_)
        rcases hp_26 with ⟨rfl, hu_26, nn_26⟩ | ⟨rfl, hu_26, nn_26⟩
        · cases hu_26
          exact (zR_abs2 nn_26 nn_25 (by decide)).elim
        · cases hu_26
          refine lv_if_ne (tgt := 56) hx hb dX11_number_51 (by decide) (fun c_0 => absurd (zD_eq zk_0 zk_z) c_0) (fun _ => ?_)
          refine lv_iconst (v := nI 0) hx hb dX11_number_54 (by decide +kernel) ?_
          exact z_iret (v := nI 0) hx hb hr hlocks hP hD hS dX11_number_55 ⟨⟨⟨hv_23, hf_24, rfl⟩, (mTr_f he_23)⟩, (zR_w zk_0 (by decide))⟩
  · cases hu_1
    refine lv_if_eq (tgt := 20) hx hb dX11_number_4 (by decide) (fun _ => ?_) (fun c_0 => absurd (zD_eq zk_0 zk_z) c_0)
    refine lv_aload_n hx hb dX11_number_20 rfl (lv_at hl 0 rfl) ?_
    refine z_callVi (k := 0) (As := []) (rest := []) hx hb hml hown ht (mk_X11_good l D q cA F _ _ _ hI ) hw_6_123 hmX11_good ⟨rfl, rfl⟩ (na := 0) rfl (by decide +kernel) (by decide) (by decide) rfl rfl hK hP hD hS hA hl.1 rfl (Nat.le_of_ble_eq_true rfl) ⟨Nat.zero_le _, Nat.zero_le _⟩ dX11_number_21 (fun r_27 I_27 R_27 J_27 H locs hp_27 hP hD hS _ _ => ?_)
    rcases hp_27 with ⟨rfl, hu_27, nn_27⟩ | ⟨rfl, hu_27, nn_27⟩
    · cases hu_27
      exact (zR_abs2 nn_27 nn_1 (by decide)).elim
    · cases hu_27
      refine lv_if_eq (tgt := 47) hx hb dX11_number_24 (by decide) (fun _ => ?_) (fun c_0 => absurd (zD_eq zk_0 zk_z) c_0)
      refine lv_aload_n hx hb dX11_number_47 rfl (lv_at hl 0 rfl) ?_
      refine z_callVi (k := 0) (As := []) (rest := []) hx hb hml hown ht (mk_X11_good l D q cA F _ _ _ hI ) hw_6_123 hmX11_good ⟨rfl, rfl⟩ (na := 0) rfl (by decide +kernel) (by decide) (by decide) rfl rfl hK hP hD hS hA hl.1 rfl (Nat.le_of_ble_eq_true rfl) ⟨Nat.zero_le _, Nat.zero_le _⟩ dX11_number_48 (fun r_28 I_28 R_28 J_28 H locs hp_28 hP hD hS _ _ => ?_)
      rcases hp_28 with ⟨rfl, hu_28, nn_28⟩ | ⟨rfl, hu_28, nn_28⟩
      · cases hu_28
        exact (zR_abs2 nn_28 nn_27 (by decide)).elim
      · cases hu_28
        refine lv_if_ne (tgt := 56) hx hb dX11_number_51 (by decide) (fun c_0 => absurd (zD_eq zk_0 zk_z) c_0) (fun _ => ?_)
        refine lv_iconst (v := nI 0) hx hb dX11_number_54 (by decide +kernel) ?_
        exact z_iret (v := nI 0) hx hb hr hlocks hP hD hS dX11_number_55 ⟨⟨⟨hI, (fun (_ : Nat) _ => rfl), rfl⟩, (mTr_f nn_28)⟩, (zR_w zk_0 (by decide))⟩
set_option maxHeartbeats 4000000 in
set_option maxRecDepth 100000 in
theorem mk_X11_told_5 (l : Launch) (D : va_G) (q : Nat → Nat) (cA : Nat → ClassId) (ad av : Nat → Nat) (t9 : Nat) (F : Nat → Nat → Int32) (I R : Nat → Nat → Int32) (J : Nat → Nat → Int64) (hI : mInv F (I, R, J))  : zNi (zSS zMRs 25 q ad av t9) l D vwCl (zMtys cA) 25 q (zMd q cA) yX11_told cX11_told 4 (some .int) ({ frames := 7, cells := 0, slots := 0, locals := 151 } : Room) [.ref (q 0), .ref (ad 3), .int (nI 0), .int (nI 100)] (I, R, J) (fun r u => ((mInv F u ∧ (∀ k, k ≠ 0 → u.1 k = I k) ∧ u.2 = (R, J)) ∧ mTr I u.1) ∧ zR 0 100 r) := by
  intro sz
  refine z_bodyN (by decide +kernel) (Nat.le_of_ble_eq_true rfl) (fun p e s m below meth c ls hx hb hml hr ht hown hlocks hsz hK hP hD hS hN hl => ?_)
  have hA : ∀ a, s.heap.size ≤ a → zA 25 q sz a := fun a h => Or.inr (hsz ▸ h)
  have hl : lv_has ls 4 [(0, .ref (q 0)), (1, .ref (ad 3)), (2, .int (nI 0)), (3, .int (nI 100))] := hl
  have hZ : zSz zMRs 25 q ad av t9 sz s := hsz ▸ hN
  refine lv_aload_n hx hb dX11_told_0 rfl (lv_at hl 0 rfl) ?_
  refine lv_aload_n hx hb dX11_told_1 rfl (lv_at hl 1 rfl) ?_
  refine z_cNVv (k := 0) (As := [.ref (ad 3)]) (rest := []) hx hb hml hown ht (mk_X11_needs_6 l D q cA ad av t9 F _ _ _ hI ) hw_6_132 hmX11_needs ⟨rfl, rfl⟩ (na := 1) rfl (by decide +kernel) (by decide) (by decide) rfl rfl hK hP hD hS hA (zSS_c (Rs := zMRs) (t9 := t9) (fun _ _ _ => zMRs_c)) (zSS_w (Rs := zMRs) (t9 := t9) (fun _ _ _ => zMRs_w) hN hsz hS) hl.1 rfl (Nat.le_of_ble_eq_true rfl) ⟨Nat.zero_le _, Nat.zero_le _⟩ dX11_told_2 (fun I_1 R_1 J_1 H locs hp_1 hP hD hS _ _ => ?_)
  obtain ⟨hq_1, he_1⟩ := hp_1
  try dsimp only at he_1
  obtain ⟨hv_1, hk_1, hj_1⟩ := hq_1
  try dsimp only at hj_1 hk_1
  cases hj_1
  have hf_2 : ∀ k, k ≠ 0 → I_1 k = I k := fun k h => (hk_1 k h).trans ((fun (_ : Nat) _ => rfl) k h)
  refine lv_aload_n hx hb dX11_told_5 rfl (lv_at hl 0 rfl) ?_
  refine lv_iload_n hx hb dX11_told_6 rfl (lv_at hl 2 rfl) ?_
  refine lv_iload_n hx hb dX11_told_7 rfl (lv_at hl 3 rfl) ?_
  refine z_callVi (k := 0) (As := [.int (nI 0), .int (nI 100)]) (rest := []) hx hb hml hown ht (mk_X11_number_7 l D q cA F _ _ _ hv_1 ) hw_6_155 hmX11_number ⟨rfl, rfl⟩ (na := 2) rfl (by decide +kernel) (by decide) (by decide) rfl rfl hK hP hD hS hA hl.1 rfl (Nat.le_of_ble_eq_true rfl) ⟨Nat.zero_le _, Nat.zero_le _⟩ dX11_told_8 (fun r_3 I_3 R_3 J_3 H locs hp_3 hP hD hS _ _ => ?_)
  obtain ⟨⟨hq_3, he_3⟩, hr_3⟩ := hp_3
  try dsimp only at he_3
  obtain ⟨hv_3, hk_3, hj_3⟩ := hq_3
  try dsimp only at hj_3 hk_3
  cases hj_3
  have hf_4 : ∀ k, k ≠ 0 → I_3 k = I k := fun k h => (hk_3 k h).trans (hf_2 k h)
  exact z_iret (v := r_3) hx hb hr hlocks hP hD hS dX11_told_11 ⟨⟨⟨hv_3, hf_4, rfl⟩, (mTr_t he_1 he_3)⟩, hr_3⟩
set_option maxHeartbeats 4000000 in
set_option maxRecDepth 100000 in
theorem mk_X11_readLine (l : Launch) (D : va_G) (q : Nat → Nat) (cA : Nat → ClassId) (ad av : Nat → Nat) (t9 : Nat) (F : Nat → Nat → Int32) (I R : Nat → Nat → Int32) (J : Nat → Nat → Int64) (hI : mInv F (I, R, J))  : zNv (zSS zMRs 25 q ad av t9) l D vwCl (zMtys cA) 25 q (zMd q cA) yX11_readLine cX11_readLine 1 none ({ frames := 9, cells := 0, slots := 0, locals := 197 } : Room) [.ref (q 0)] (I, R, J) (fun u => mInv F u ∧ mQ I u.1) := by
  intro sz
  refine z_bodyN (by decide +kernel) (Nat.le_of_ble_eq_true rfl) (fun p e s m below meth c ls hx hb hml hr ht hown hlocks hsz hK hP hD hS hN hl => ?_)
  have hA : ∀ a, s.heap.size ≤ a → zA 25 q sz a := fun a h => Or.inr (hsz ▸ h)
  have hl : lv_has ls 1 [(0, .ref (q 0))] := hl
  have hZ : zSz zMRs 25 q ad av t9 sz s := hsz ▸ hN
  refine lv_aload_n hx hb dX11_readLine_0 rfl (lv_at hl 0 rfl) ?_
  refine z_get hx hb ht hown hK hP ziX11 rfl 0 (by decide) 14 (by decide) hw_5_201 rfl (v := .ref (q 6)) rfl dX11_readLine_1 ?_
  refine lv_iconst (v := nI 5) hx hb dX11_readLine_4 (by decide +kernel) ?_
  refine z_iald hx hb hK hP 6 (by decide) 5 rfl rfl (zR_vin zk_5 (by decide)) dX11_readLine_5 ?_
  refine z_eqi (y := R 6 (nI 5).toNatClampNeg) rfl ?_
  refine lv_if_ne (tgt := 63) hx hb dX11_readLine_6 (by decide) (fun c_1 => ?_) (fun c_1 => ?_)
  · have t_c_1 := z_eqF c_1
    refine lv_aload_n hx hb dX11_readLine_63 rfl (lv_at hl 0 rfl) ?_
    refine z_cNVv (k := 0) (As := []) (rest := []) hx hb hml hown ht (mk_X11_readNext l D q cA ad av t9 F _ _ _ hI ) hw_6_161 hmX11_readNext ⟨rfl, rfl⟩ (na := 0) rfl (by decide +kernel) (by decide) (by decide) rfl rfl hK hP hD hS hA (zSS_c (Rs := zMRs) (t9 := t9) (fun _ _ _ => zMRs_c)) (zSS_w (Rs := zMRs) (t9 := t9) (fun _ _ _ => zMRs_w) hN hsz hS) hl.1 rfl (Nat.le_of_ble_eq_true rfl) ⟨Nat.zero_le _, Nat.zero_le _⟩ dX11_readLine_64 (fun I_2 R_2 J_2 H locs hp_2 hP hD hS _ _ => ?_)
    obtain ⟨hI_2, he_2⟩ := hp_2
    try dsimp only at he_2
    refine lv_aload_n hx hb dX11_readLine_67 rfl (lv_at hl 0 rfl) ?_
    refine z_callVi (k := 0) (As := []) (rest := []) hx hb hml hown ht (mk_X11_good l D q cA F _ _ _ hI_2 ) hw_6_123 hmX11_good ⟨rfl, rfl⟩ (na := 0) rfl (by decide +kernel) (by decide) (by decide) rfl rfl hK hP hD hS hA hl.1 rfl (Nat.le_of_ble_eq_true rfl) ⟨Nat.zero_le _, Nat.zero_le _⟩ dX11_readLine_68 (fun r_3 I_3 R_3 J_3 H locs hp_3 hP hD hS _ _ => ?_)
    rcases hp_3 with ⟨rfl, hu_3, nn_3⟩ | ⟨rfl, hu_3, nn_3⟩
    · cases hu_3
      refine lv_if_eq (tgt := 87) hx hb dX11_readLine_71 (by decide) (fun c_0 => absurd c_0 (zD_ne zk_1 zk_z (by decide))) (fun _ => ?_)
      refine lv_aload_n hx hb dX11_readLine_74 rfl (lv_at hl 0 rfl) ?_
      refine z_get hx hb ht hown hK hP ziX11 rfl 0 (by decide) 10 (by decide) hw_5_197 rfl (v := .int (I_2 0 10)) rfl dX11_readLine_75 ?_
      refine lv_iconst (v := nI 3) hx hb dX11_readLine_78 (by decide +kernel) ?_
      refine lv_icmp_eq (tgt := 87) hx hb dX11_readLine_79 (by decide) (fun c_4 => ?_) (fun c_4 => ?_)
      · have t_c_4 := z_eqT c_4
        have f_5 : zR 3 3 (I_2 0 10) := zR_eqx t_c_4 zk_3
        refine lv_aload_n hx hb dX11_readLine_87 rfl (lv_at hl 0 rfl) ?_
        refine z_callVi (k := 0) (As := []) (rest := []) hx hb hml hown ht (mk_X11_good l D q cA F _ _ _ hI_2 ) hw_6_123 hmX11_good ⟨rfl, rfl⟩ (na := 0) rfl (by decide +kernel) (by decide) (by decide) rfl rfl hK hP hD hS hA hl.1 rfl (Nat.le_of_ble_eq_true rfl) ⟨Nat.zero_le _, Nat.zero_le _⟩ dX11_readLine_88 (fun r_6 I_6 R_6 J_6 H locs hp_6 hP hD hS _ _ => ?_)
        rcases hp_6 with ⟨rfl, hu_6, nn_6⟩ | ⟨rfl, hu_6, nn_6⟩
        · cases hu_6
          refine lv_if_eq (tgt := 98) hx hb dX11_readLine_91 (by decide) (fun c_0 => absurd c_0 (zD_ne zk_1 zk_z (by decide))) (fun _ => ?_)
          refine lv_aload_n hx hb dX11_readLine_94 rfl (lv_at hl 0 rfl) ?_
          refine z_callVv (k := 0) (As := []) (rest := []) hx hb hml hown ht (mk_X11_advance l D q cA F _ _ _ hI_2 ) hw_6_109 hmX11_advance ⟨rfl, rfl⟩ (na := 0) rfl (by decide +kernel) (by decide) (by decide) rfl rfl hK hP hD hS hA hl.1 rfl (Nat.le_of_ble_eq_true rfl) ⟨Nat.zero_le _, Nat.zero_le _⟩ dX11_readLine_95 (fun I_7 R_7 J_7 H locs hp_7 hP hD hS _ _ => ?_)
          obtain ⟨hq_7, he_7⟩ := hp_7
          try dsimp only at he_7
          obtain ⟨hv_7, hk_7, hj_7⟩ := hq_7
          try dsimp only at hj_7 hk_7
          cases hj_7
          refine lv_aload_n hx hb dX11_readLine_98 rfl (lv_at hl 0 rfl) ?_
          refine z_get hx hb ht hown hK hP ziX11 rfl 0 (by decide) 14 (by decide) hw_5_201 rfl (v := .ref (q 6)) rfl dX11_readLine_99 ?_
          refine lv_iconst (v := nI 5) hx hb dX11_readLine_102 (by decide +kernel) ?_
          refine lv_dup2_11 hx hb dX11_readLine_103 rfl rfl ?_
          refine z_iald hx hb hK hP 6 (by decide) 5 rfl rfl (zR_vin zk_5 (by decide)) dX11_readLine_104 ?_
          refine z_eqi (y := R_2 6 (nI 5).toNatClampNeg) rfl ?_
          refine lv_iconst (v := nI 1) hx hb dX11_readLine_105 (by decide +kernel) ?_
          refine lv_iadd hx hb dX11_readLine_106 ?_
          refine z_any (fun v_8 => ?_)
          refine z_iast hx hb hK hP hD hS 6 (by decide) 5 (fun _ => rfl) rfl (zR_vin zk_5 (by decide)) dX11_readLine_107 (fun H locs hP hD hS => ?_)
          have hI_9 := mInv_R hv_7 6 (nI 5).toNatClampNeg (v_8) (zR_any _) rfl
          exact z_vret hx hb hr hlocks hP hD hS dX11_readLine_108 ⟨hI_9, (mTr_fin he_2 t_c_4 he_7)⟩
        · cases hu_6
          exact (zR_abs2 nn_6 nn_3 (by decide)).elim
      · have t_c_4 := z_eqF c_4
        refine lv_aload_n hx hb dX11_readLine_82 rfl (lv_at hl 0 rfl) ?_
        refine lv_iconst (v := nI 1) hx hb dX11_readLine_83 (by decide +kernel) ?_
        refine z_callVv (k := 0) (As := [.int (nI 1)]) (rest := []) hx hb hml hown ht (mk_X11_errs l D q cA F _ _ _ hI_2 ) hw_6_146 hmX11_errs ⟨rfl, rfl⟩ (na := 1) rfl (by decide +kernel) (by decide) (by decide) rfl rfl hK hP hD hS hA hl.1 rfl (Nat.le_of_ble_eq_true rfl) ⟨Nat.zero_le _, Nat.zero_le _⟩ dX11_readLine_84 (fun I_10 R_10 J_10 H locs hp_10 hP hD hS _ _ => ?_)
        obtain ⟨hq_10, he_10⟩ := hp_10
        obtain ⟨hv_10, hk_10, hj_10⟩ := hq_10
        try dsimp only at hj_10 hk_10
        cases hj_10
        refine lv_aload_n hx hb dX11_readLine_87 rfl (lv_at hl 0 rfl) ?_
        refine z_callVi (k := 0) (As := []) (rest := []) hx hb hml hown ht (mk_X11_good l D q cA F _ _ _ hv_10 ) hw_6_123 hmX11_good ⟨rfl, rfl⟩ (na := 0) rfl (by decide +kernel) (by decide) (by decide) rfl rfl hK hP hD hS hA hl.1 rfl (Nat.le_of_ble_eq_true rfl) ⟨Nat.zero_le _, Nat.zero_le _⟩ dX11_readLine_88 (fun r_11 I_11 R_11 J_11 H locs hp_11 hP hD hS _ _ => ?_)
        rcases hp_11 with ⟨rfl, hu_11, nn_11⟩ | ⟨rfl, hu_11, nn_11⟩
        · cases hu_11
          exact (zR_abs2 nn_11 he_10 (by decide)).elim
        · cases hu_11
          refine lv_if_eq (tgt := 98) hx hb dX11_readLine_91 (by decide) (fun _ => ?_) (fun c_0 => absurd (zD_eq zk_0 zk_z) c_0)
          refine lv_aload_n hx hb dX11_readLine_98 rfl (lv_at hl 0 rfl) ?_
          refine z_get hx hb ht hown hK hP ziX11 rfl 0 (by decide) 14 (by decide) hw_5_201 rfl (v := .ref (q 6)) rfl dX11_readLine_99 ?_
          refine lv_iconst (v := nI 5) hx hb dX11_readLine_102 (by decide +kernel) ?_
          refine lv_dup2_11 hx hb dX11_readLine_103 rfl rfl ?_
          refine z_iald hx hb hK hP 6 (by decide) 5 rfl rfl (zR_vin zk_5 (by decide)) dX11_readLine_104 ?_
          refine z_eqi (y := R_2 6 (nI 5).toNatClampNeg) rfl ?_
          refine lv_iconst (v := nI 1) hx hb dX11_readLine_105 (by decide +kernel) ?_
          refine lv_iadd hx hb dX11_readLine_106 ?_
          refine z_any (fun v_12 => ?_)
          refine z_iast hx hb hK hP hD hS 6 (by decide) 5 (fun _ => rfl) rfl (zR_vin zk_5 (by decide)) dX11_readLine_107 (fun H locs hP hD hS => ?_)
          have hI_13 := mInv_R hv_10 6 (nI 5).toNatClampNeg (v_12) (zR_any _) rfl
          exact z_vret hx hb hr hlocks hP hD hS dX11_readLine_108 ⟨hI_13, (Or.inl nn_11)⟩
    · cases hu_3
      refine lv_if_eq (tgt := 87) hx hb dX11_readLine_71 (by decide) (fun _ => ?_) (fun c_0 => absurd (zD_eq zk_0 zk_z) c_0)
      refine lv_aload_n hx hb dX11_readLine_87 rfl (lv_at hl 0 rfl) ?_
      refine z_callVi (k := 0) (As := []) (rest := []) hx hb hml hown ht (mk_X11_good l D q cA F _ _ _ hI_2 ) hw_6_123 hmX11_good ⟨rfl, rfl⟩ (na := 0) rfl (by decide +kernel) (by decide) (by decide) rfl rfl hK hP hD hS hA hl.1 rfl (Nat.le_of_ble_eq_true rfl) ⟨Nat.zero_le _, Nat.zero_le _⟩ dX11_readLine_88 (fun r_14 I_14 R_14 J_14 H locs hp_14 hP hD hS _ _ => ?_)
      rcases hp_14 with ⟨rfl, hu_14, nn_14⟩ | ⟨rfl, hu_14, nn_14⟩
      · cases hu_14
        exact (zR_abs2 nn_14 nn_3 (by decide)).elim
      · cases hu_14
        refine lv_if_eq (tgt := 98) hx hb dX11_readLine_91 (by decide) (fun _ => ?_) (fun c_0 => absurd (zD_eq zk_0 zk_z) c_0)
        refine lv_aload_n hx hb dX11_readLine_98 rfl (lv_at hl 0 rfl) ?_
        refine z_get hx hb ht hown hK hP ziX11 rfl 0 (by decide) 14 (by decide) hw_5_201 rfl (v := .ref (q 6)) rfl dX11_readLine_99 ?_
        refine lv_iconst (v := nI 5) hx hb dX11_readLine_102 (by decide +kernel) ?_
        refine lv_dup2_11 hx hb dX11_readLine_103 rfl rfl ?_
        refine z_iald hx hb hK hP 6 (by decide) 5 rfl rfl (zR_vin zk_5 (by decide)) dX11_readLine_104 ?_
        refine z_eqi (y := R_2 6 (nI 5).toNatClampNeg) rfl ?_
        refine lv_iconst (v := nI 1) hx hb dX11_readLine_105 (by decide +kernel) ?_
        refine lv_iadd hx hb dX11_readLine_106 ?_
        refine z_any (fun v_15 => ?_)
        refine z_iast hx hb hK hP hD hS 6 (by decide) 5 (fun _ => rfl) rfl (zR_vin zk_5 (by decide)) dX11_readLine_107 (fun H locs hP hD hS => ?_)
        have hI_16 := mInv_R hI_2 6 (nI 5).toNatClampNeg (v_15) (zR_any _) rfl
        exact z_vret hx hb hr hlocks hP hD hS dX11_readLine_108 ⟨hI_16, (Or.inl nn_14)⟩
  · have t_c_1 := z_eqT c_1
    have f_17 : zR 0 0 (R 6 (nI 5).toNatClampNeg) := zR_eqx t_c_1 zk_z
    refine lv_aload_n hx hb dX11_readLine_9 rfl (lv_at hl 0 rfl) ?_
    refine va_ldcS hx hb hown (hZ.2.2.2.1) dX11_readLine_10 ?_
    refine z_cNVv (k := 0) (As := [.ref (ad 0)]) (rest := []) hx hb hml hown ht (mk_X11_needs_3 l D q cA ad av t9 F _ _ _ hI ) hw_6_132 hmX11_needs ⟨rfl, rfl⟩ (na := 1) rfl (by decide +kernel) (by decide) (by decide) rfl rfl hK hP hD hS hA (zSS_c (Rs := zMRs) (t9 := t9) (fun _ _ _ => zMRs_c)) (zSS_w (Rs := zMRs) (t9 := t9) (fun _ _ _ => zMRs_w) hN hsz hS) hl.1 rfl (Nat.le_of_ble_eq_true rfl) ⟨Nat.zero_le _, Nat.zero_le _⟩ dX11_readLine_12 (fun I_18 R_18 J_18 H locs hp_18 hP hD hS _ _ => ?_)
    obtain ⟨hq_18, he_18⟩ := hp_18
    try dsimp only at he_18
    obtain ⟨hv_18, hk_18, hj_18⟩ := hq_18
    try dsimp only at hj_18 hk_18
    cases hj_18
    refine lv_aload_n hx hb dX11_readLine_15 rfl (lv_at hl 0 rfl) ?_
    refine z_get hx hb ht hown hK hP ziX11 rfl 0 (by decide) 14 (by decide) hw_5_201 rfl (v := .ref (q 6)) rfl dX11_readLine_16 ?_
    refine lv_iconst (v := nI 0) hx hb dX11_readLine_19 (by decide +kernel) ?_
    refine lv_aload_n hx hb dX11_readLine_20 rfl (lv_at hl 0 rfl) ?_
    refine va_ldcS hx hb hown (hZ.2.2.2.2.1) dX11_readLine_21 ?_
    refine lv_iconst (v := nI 0) hx hb dX11_readLine_23 (by decide +kernel) ?_
    refine lv_bipush (v := nI 50) hx hb dX11_readLine_24 (by decide +kernel) ?_
    refine z_cNVi (k := 0) (As := [.ref (ad 1), .int (nI 0), .int (nI 50)]) (rest := [.int (nI 0), .ref (q 6)]) hx hb hml hown ht (mk_X11_told_3 l D q cA ad av t9 F _ _ _ hv_18 ) hw_6_151 hmX11_told ⟨rfl, rfl⟩ (na := 3) rfl (by decide +kernel) (by decide) (by decide) rfl rfl hK hP hD hS hA (zSS_c (Rs := zMRs) (t9 := t9) (fun _ _ _ => zMRs_c)) (zSS_w (Rs := zMRs) (t9 := t9) (fun _ _ _ => zMRs_w) hN hsz hS) hl.1 rfl (Nat.le_of_ble_eq_true rfl) ⟨Nat.zero_le _, Nat.zero_le _⟩ dX11_readLine_26 (fun r_19 I_19 R_19 J_19 H locs hp_19 hP hD hS _ _ => ?_)
    obtain ⟨⟨hq_19, he_19⟩, hr_19⟩ := hp_19
    try dsimp only at he_19
    obtain ⟨hv_19, hk_19, hj_19⟩ := hq_19
    try dsimp only at hj_19 hk_19
    cases hj_19
    refine z_iast hx hb hK hP hD hS 6 (by decide) 5 (fun _ => rfl) rfl (zR_vin zk_0 (by decide)) dX11_readLine_29 (fun H locs hP hD hS => ?_)
    have hI_20 := mInv_R hv_19 6 (nI 0).toNatClampNeg (r_19) (zR_any _) rfl
    refine lv_aload_n hx hb dX11_readLine_30 rfl (lv_at hl 0 rfl) ?_
    refine z_get hx hb ht hown hK hP ziX11 rfl 0 (by decide) 14 (by decide) hw_5_201 rfl (v := .ref (q 6)) rfl dX11_readLine_31 ?_
    refine lv_iconst (v := nI 1) hx hb dX11_readLine_34 (by decide +kernel) ?_
    refine lv_aload_n hx hb dX11_readLine_35 rfl (lv_at hl 0 rfl) ?_
    refine va_ldcS hx hb hown (hZ.2.2.2.2.2.1) dX11_readLine_36 ?_
    refine lv_iconst (v := nI 1) hx hb dX11_readLine_38 (by decide +kernel) ?_
    refine lv_bipush (v := nI 6) hx hb dX11_readLine_39 (by decide +kernel) ?_
    refine z_cNVi (k := 0) (As := [.ref (ad 2), .int (nI 1), .int (nI 6)]) (rest := [.int (nI 1), .ref (q 6)]) hx hb hml hown ht (mk_X11_told_4 l D q cA ad av t9 F _ _ _ hI_20 ) hw_6_151 hmX11_told ⟨rfl, rfl⟩ (na := 3) rfl (by decide +kernel) (by decide) (by decide) rfl rfl hK hP hD hS hA (zSS_c (Rs := zMRs) (t9 := t9) (fun _ _ _ => zMRs_c)) (zSS_w (Rs := zMRs) (t9 := t9) (fun _ _ _ => zMRs_w) hN hsz hS) hl.1 rfl (Nat.le_of_ble_eq_true rfl) ⟨Nat.zero_le _, Nat.zero_le _⟩ dX11_readLine_41 (fun r_21 I_21 R_21 J_21 H locs hp_21 hP hD hS _ _ => ?_)
    obtain ⟨⟨hq_21, he_21⟩, hr_21⟩ := hp_21
    try dsimp only at he_21
    obtain ⟨hv_21, hk_21, hj_21⟩ := hq_21
    try dsimp only at hj_21 hk_21
    cases hj_21
    refine z_iast hx hb hK hP hD hS 6 (by decide) 5 (fun _ => rfl) rfl (zR_vin zk_1 (by decide)) dX11_readLine_44 (fun H locs hP hD hS => ?_)
    have hI_22 := mInv_R hv_21 6 (nI 1).toNatClampNeg (r_21) (zR_any _) rfl
    refine lv_aload_n hx hb dX11_readLine_45 rfl (lv_at hl 0 rfl) ?_
    refine z_get hx hb ht hown hK hP ziX11 rfl 0 (by decide) 14 (by decide) hw_5_201 rfl (v := .ref (q 6)) rfl dX11_readLine_46 ?_
    refine lv_iconst (v := nI 2) hx hb dX11_readLine_49 (by decide +kernel) ?_
    refine lv_aload_n hx hb dX11_readLine_50 rfl (lv_at hl 0 rfl) ?_
    refine va_ldcS hx hb hown (hZ.2.2.2.2.2.2.1) dX11_readLine_51 ?_
    refine lv_iconst (v := nI 0) hx hb dX11_readLine_53 (by decide +kernel) ?_
    refine lv_bipush (v := nI 100) hx hb dX11_readLine_54 (by decide +kernel) ?_
    refine z_cNVi (k := 0) (As := [.ref (ad 3), .int (nI 0), .int (nI 100)]) (rest := [.int (nI 2), .ref (q 6)]) hx hb hml hown ht (mk_X11_told_5 l D q cA ad av t9 F _ _ _ hI_22 ) hw_6_151 hmX11_told ⟨rfl, rfl⟩ (na := 3) rfl (by decide +kernel) (by decide) (by decide) rfl rfl hK hP hD hS hA (zSS_c (Rs := zMRs) (t9 := t9) (fun _ _ _ => zMRs_c)) (zSS_w (Rs := zMRs) (t9 := t9) (fun _ _ _ => zMRs_w) hN hsz hS) hl.1 rfl (Nat.le_of_ble_eq_true rfl) ⟨Nat.zero_le _, Nat.zero_le _⟩ dX11_readLine_56 (fun r_23 I_23 R_23 J_23 H locs hp_23 hP hD hS _ _ => ?_)
    obtain ⟨⟨hq_23, he_23⟩, hr_23⟩ := hp_23
    try dsimp only at he_23
    obtain ⟨hv_23, hk_23, hj_23⟩ := hq_23
    try dsimp only at hj_23 hk_23
    cases hj_23
    refine z_iast hx hb hK hP hD hS 6 (by decide) 5 (fun _ => rfl) rfl (zR_vin zk_2 (by decide)) dX11_readLine_59 (fun H locs hP hD hS => ?_)
    have hI_24 := mInv_R hv_23 6 (nI 2).toNatClampNeg (r_23) (zR_any _) rfl
    refine lv_goto (tgt := 67) hx hb dX11_readLine_60 (by decide) ?_
    refine lv_aload_n hx hb dX11_readLine_67 rfl (lv_at hl 0 rfl) ?_
    refine z_callVi (k := 0) (As := []) (rest := []) hx hb hml hown ht (mk_X11_good l D q cA F _ _ _ hI_24 ) hw_6_123 hmX11_good ⟨rfl, rfl⟩ (na := 0) rfl (by decide +kernel) (by decide) (by decide) rfl rfl hK hP hD hS hA hl.1 rfl (Nat.le_of_ble_eq_true rfl) ⟨Nat.zero_le _, Nat.zero_le _⟩ dX11_readLine_68 (fun r_25 I_25 R_25 J_25 H locs hp_25 hP hD hS _ _ => ?_)
    rcases hp_25 with ⟨rfl, hu_25, nn_25⟩ | ⟨rfl, hu_25, nn_25⟩
    · cases hu_25
      refine lv_if_eq (tgt := 87) hx hb dX11_readLine_71 (by decide) (fun c_0 => absurd c_0 (zD_ne zk_1 zk_z (by decide))) (fun _ => ?_)
      refine lv_aload_n hx hb dX11_readLine_74 rfl (lv_at hl 0 rfl) ?_
      refine z_get hx hb ht hown hK hP ziX11 rfl 0 (by decide) 10 (by decide) hw_5_197 rfl (v := .int (I_23 0 10)) rfl dX11_readLine_75 ?_
      refine lv_iconst (v := nI 3) hx hb dX11_readLine_78 (by decide +kernel) ?_
      refine lv_icmp_eq (tgt := 87) hx hb dX11_readLine_79 (by decide) (fun c_26 => ?_) (fun c_26 => ?_)
      · have t_c_26 := z_eqT c_26
        have f_27 : zR 3 3 (I_23 0 10) := zR_eqx t_c_26 zk_3
        refine lv_aload_n hx hb dX11_readLine_87 rfl (lv_at hl 0 rfl) ?_
        refine z_callVi (k := 0) (As := []) (rest := []) hx hb hml hown ht (mk_X11_good l D q cA F _ _ _ hI_24 ) hw_6_123 hmX11_good ⟨rfl, rfl⟩ (na := 0) rfl (by decide +kernel) (by decide) (by decide) rfl rfl hK hP hD hS hA hl.1 rfl (Nat.le_of_ble_eq_true rfl) ⟨Nat.zero_le _, Nat.zero_le _⟩ dX11_readLine_88 (fun r_28 I_28 R_28 J_28 H locs hp_28 hP hD hS _ _ => ?_)
        rcases hp_28 with ⟨rfl, hu_28, nn_28⟩ | ⟨rfl, hu_28, nn_28⟩
        · cases hu_28
          refine lv_if_eq (tgt := 98) hx hb dX11_readLine_91 (by decide) (fun c_0 => absurd c_0 (zD_ne zk_1 zk_z (by decide))) (fun _ => ?_)
          refine lv_aload_n hx hb dX11_readLine_94 rfl (lv_at hl 0 rfl) ?_
          refine z_callVv (k := 0) (As := []) (rest := []) hx hb hml hown ht (mk_X11_advance l D q cA F _ _ _ hI_24 ) hw_6_109 hmX11_advance ⟨rfl, rfl⟩ (na := 0) rfl (by decide +kernel) (by decide) (by decide) rfl rfl hK hP hD hS hA hl.1 rfl (Nat.le_of_ble_eq_true rfl) ⟨Nat.zero_le _, Nat.zero_le _⟩ dX11_readLine_95 (fun I_29 R_29 J_29 H locs hp_29 hP hD hS _ _ => ?_)
          obtain ⟨hq_29, he_29⟩ := hp_29
          try dsimp only at he_29
          obtain ⟨hv_29, hk_29, hj_29⟩ := hq_29
          try dsimp only at hj_29 hk_29
          cases hj_29
          refine lv_aload_n hx hb dX11_readLine_98 rfl (lv_at hl 0 rfl) ?_
          refine z_get hx hb ht hown hK hP ziX11 rfl 0 (by decide) 14 (by decide) hw_5_201 rfl (v := .ref (q 6)) rfl dX11_readLine_99 ?_
          refine lv_iconst (v := nI 5) hx hb dX11_readLine_102 (by decide +kernel) ?_
          refine lv_dup2_11 hx hb dX11_readLine_103 rfl rfl ?_
          refine z_iald hx hb hK hP 6 (by decide) 5 rfl rfl (zR_vin zk_5 (by decide)) dX11_readLine_104 ?_
          refine z_eqi (y := R 6 (nI 5).toNatClampNeg) (Eq.trans (zp_nf (m_nc 5 zk_2 (by decide))) (Eq.trans (zp_nf (m_nc 5 zk_1 (by decide))) (zp_nf (m_nc 5 zk_0 (by decide))))) ?_
          refine lv_iconst (v := nI 1) hx hb dX11_readLine_105 (by decide +kernel) ?_
          refine lv_iadd hx hb dX11_readLine_106 ?_
          refine z_addc 1 1 f_17 zk_1 (by decide) (fun v_30 hv_30 mv_30 => ?_)
          refine z_iast hx hb hK hP hD hS 6 (by decide) 5 (fun _ => rfl) rfl (zR_vin zk_5 (by decide)) dX11_readLine_107 (fun H locs hP hD hS => ?_)
          have hI_31 := mInv_R hv_29 6 (nI 5).toNatClampNeg (v_30) (zR_any _) rfl
          exact z_vret hx hb hr hlocks hP hD hS dX11_readLine_108 ⟨hI_31, (mTr_fin (mTr_t (mTr_t (mTr_t he_18 he_19) he_21) he_23) t_c_26 he_29)⟩
        · cases hu_28
          exact (zR_abs2 nn_28 nn_25 (by decide)).elim
      · have t_c_26 := z_eqF c_26
        refine lv_aload_n hx hb dX11_readLine_82 rfl (lv_at hl 0 rfl) ?_
        refine lv_iconst (v := nI 1) hx hb dX11_readLine_83 (by decide +kernel) ?_
        refine z_callVv (k := 0) (As := [.int (nI 1)]) (rest := []) hx hb hml hown ht (mk_X11_errs l D q cA F _ _ _ hI_24 ) hw_6_146 hmX11_errs ⟨rfl, rfl⟩ (na := 1) rfl (by decide +kernel) (by decide) (by decide) rfl rfl hK hP hD hS hA hl.1 rfl (Nat.le_of_ble_eq_true rfl) ⟨Nat.zero_le _, Nat.zero_le _⟩ dX11_readLine_84 (fun I_32 R_32 J_32 H locs hp_32 hP hD hS _ _ => ?_)
        obtain ⟨hq_32, he_32⟩ := hp_32
        obtain ⟨hv_32, hk_32, hj_32⟩ := hq_32
        try dsimp only at hj_32 hk_32
        cases hj_32
        refine lv_aload_n hx hb dX11_readLine_87 rfl (lv_at hl 0 rfl) ?_
        refine z_callVi (k := 0) (As := []) (rest := []) hx hb hml hown ht (mk_X11_good l D q cA F _ _ _ hv_32 ) hw_6_123 hmX11_good ⟨rfl, rfl⟩ (na := 0) rfl (by decide +kernel) (by decide) (by decide) rfl rfl hK hP hD hS hA hl.1 rfl (Nat.le_of_ble_eq_true rfl) ⟨Nat.zero_le _, Nat.zero_le _⟩ dX11_readLine_88 (fun r_33 I_33 R_33 J_33 H locs hp_33 hP hD hS _ _ => ?_)
        rcases hp_33 with ⟨rfl, hu_33, nn_33⟩ | ⟨rfl, hu_33, nn_33⟩
        · cases hu_33
          exact (zR_abs2 nn_33 he_32 (by decide)).elim
        · cases hu_33
          refine lv_if_eq (tgt := 98) hx hb dX11_readLine_91 (by decide) (fun _ => ?_) (fun c_0 => absurd (zD_eq zk_0 zk_z) c_0)
          refine lv_aload_n hx hb dX11_readLine_98 rfl (lv_at hl 0 rfl) ?_
          refine z_get hx hb ht hown hK hP ziX11 rfl 0 (by decide) 14 (by decide) hw_5_201 rfl (v := .ref (q 6)) rfl dX11_readLine_99 ?_
          refine lv_iconst (v := nI 5) hx hb dX11_readLine_102 (by decide +kernel) ?_
          refine lv_dup2_11 hx hb dX11_readLine_103 rfl rfl ?_
          refine z_iald hx hb hK hP 6 (by decide) 5 rfl rfl (zR_vin zk_5 (by decide)) dX11_readLine_104 ?_
          refine z_eqi (y := R 6 (nI 5).toNatClampNeg) (Eq.trans (zp_nf (m_nc 5 zk_2 (by decide))) (Eq.trans (zp_nf (m_nc 5 zk_1 (by decide))) (zp_nf (m_nc 5 zk_0 (by decide))))) ?_
          refine lv_iconst (v := nI 1) hx hb dX11_readLine_105 (by decide +kernel) ?_
          refine lv_iadd hx hb dX11_readLine_106 ?_
          refine z_addc 1 1 f_17 zk_1 (by decide) (fun v_34 hv_34 mv_34 => ?_)
          refine z_iast hx hb hK hP hD hS 6 (by decide) 5 (fun _ => rfl) rfl (zR_vin zk_5 (by decide)) dX11_readLine_107 (fun H locs hP hD hS => ?_)
          have hI_35 := mInv_R hv_32 6 (nI 5).toNatClampNeg (v_34) (zR_any _) rfl
          exact z_vret hx hb hr hlocks hP hD hS dX11_readLine_108 ⟨hI_35, (Or.inl nn_33)⟩
    · cases hu_25
      refine lv_if_eq (tgt := 87) hx hb dX11_readLine_71 (by decide) (fun _ => ?_) (fun c_0 => absurd (zD_eq zk_0 zk_z) c_0)
      refine lv_aload_n hx hb dX11_readLine_87 rfl (lv_at hl 0 rfl) ?_
      refine z_callVi (k := 0) (As := []) (rest := []) hx hb hml hown ht (mk_X11_good l D q cA F _ _ _ hI_24 ) hw_6_123 hmX11_good ⟨rfl, rfl⟩ (na := 0) rfl (by decide +kernel) (by decide) (by decide) rfl rfl hK hP hD hS hA hl.1 rfl (Nat.le_of_ble_eq_true rfl) ⟨Nat.zero_le _, Nat.zero_le _⟩ dX11_readLine_88 (fun r_36 I_36 R_36 J_36 H locs hp_36 hP hD hS _ _ => ?_)
      rcases hp_36 with ⟨rfl, hu_36, nn_36⟩ | ⟨rfl, hu_36, nn_36⟩
      · cases hu_36
        exact (zR_abs2 nn_36 nn_25 (by decide)).elim
      · cases hu_36
        refine lv_if_eq (tgt := 98) hx hb dX11_readLine_91 (by decide) (fun _ => ?_) (fun c_0 => absurd (zD_eq zk_0 zk_z) c_0)
        refine lv_aload_n hx hb dX11_readLine_98 rfl (lv_at hl 0 rfl) ?_
        refine z_get hx hb ht hown hK hP ziX11 rfl 0 (by decide) 14 (by decide) hw_5_201 rfl (v := .ref (q 6)) rfl dX11_readLine_99 ?_
        refine lv_iconst (v := nI 5) hx hb dX11_readLine_102 (by decide +kernel) ?_
        refine lv_dup2_11 hx hb dX11_readLine_103 rfl rfl ?_
        refine z_iald hx hb hK hP 6 (by decide) 5 rfl rfl (zR_vin zk_5 (by decide)) dX11_readLine_104 ?_
        refine z_eqi (y := R 6 (nI 5).toNatClampNeg) (Eq.trans (zp_nf (m_nc 5 zk_2 (by decide))) (Eq.trans (zp_nf (m_nc 5 zk_1 (by decide))) (zp_nf (m_nc 5 zk_0 (by decide))))) ?_
        refine lv_iconst (v := nI 1) hx hb dX11_readLine_105 (by decide +kernel) ?_
        refine lv_iadd hx hb dX11_readLine_106 ?_
        refine z_addc 1 1 f_17 zk_1 (by decide) (fun v_37 hv_37 mv_37 => ?_)
        refine z_iast hx hb hK hP hD hS 6 (by decide) 5 (fun _ => rfl) rfl (zR_vin zk_5 (by decide)) dX11_readLine_107 (fun H locs hP hD hS => ?_)
        have hI_38 := mInv_R hI_24 6 (nI 5).toNatClampNeg (v_37) (zR_any _) rfl
        exact z_vret hx hb hr hlocks hP hD hS dX11_readLine_108 ⟨hI_38, (Or.inl nn_36)⟩
set_option maxHeartbeats 4000000 in
set_option maxRecDepth 100000 in
theorem mk_X11_city (l : Launch) (D : va_G) (q : Nat → Nat) (cA : Nat → ClassId) (ad av : Nat → Nat) (t9 : Nat) (F : Nat → Nat → Int32) (I R : Nat → Nat → Int32) (J : Nat → Nat → Int64) (hI : mInv F (I, R, J))  : zNi (zSS zMRs 25 q ad av t9) l D vwCl (zMtys cA) 25 q (zMd q cA) yX11_city cX11_city 2 (some .int) ({ frames := 10, cells := 0, slots := 0, locals := 217 } : Room) [.ref (q 0)] (I, R, J) (fun _ u => ∃ w9, mInv (zr F 1 w9) u) := by
  intro sz
  refine z_bodyN (by decide +kernel) (Nat.le_of_ble_eq_true rfl) (fun p e s m below meth c ls hx hb hml hr ht hown hlocks hsz hK hP hD hS hN hl => ?_)
  have hA : ∀ a, s.heap.size ≤ a → zA 25 q sz a := fun a h => Or.inr (hsz ▸ h)
  have hl : lv_has ls 2 [(0, .ref (q 0))] := hl
  have hZ : zSz zMRs 25 q ad av t9 sz s := hsz ▸ hN
  refine lv_aload_n hx hb dX11_city_0 rfl (lv_at hl 0 rfl) ?_
  refine lv_aload_n hx hb dX11_city_1 rfl (lv_at hl 0 rfl) ?_
  refine z_get hx hb ht hown hK hP ziX11 rfl 0 (by decide) 5 (by decide) hw_5_192 rfl (v := .int (I 0 5)) rfl dX11_city_2 ?_
  have f_1 : zR 0 800 (I 0 5) := mI hI 0 5
  refine z_putI hx hb ht hown hK hP hD hS ziX11 tyX11 tyX11_ok nmX11 rfl 0 (by decide) 7 (by decide) hw_5_194 rfl (v := I 0 5) rfl rfl rfl (Nat.le_of_ble_eq_true rfl) rfl dX11_city_5 (fun H locs hP hD hS => ?_)
  have hI_2 := mInv_I hI 0 7 (I 0 5) f_1 rfl
  refine lv_aload_n hx hb dX11_city_8 rfl (lv_at hl 0 rfl) ?_
  refine lv_iconst (v := nI 0) hx hb dX11_city_9 (by decide +kernel) ?_
  refine z_putI hx hb ht hown hK hP hD hS ziX11 tyX11 tyX11_ok nmX11 rfl 0 (by decide) 5 (by decide) hw_5_192 rfl (v := nI 0) rfl rfl rfl (Nat.le_of_ble_eq_true rfl) rfl dX11_city_10 (fun H locs hP hD hS => ?_)
  have hI_3 := mInv_I hI_2 0 5 (nI 0) (zR_w zk_0 (by decide)) rfl
  refine lv_aload_n hx hb dX11_city_13 rfl (lv_at hl 0 rfl) ?_
  refine lv_iconst (v := nI 0) hx hb dX11_city_14 (by decide +kernel) ?_
  refine z_putI hx hb ht hown hK hP hD hS ziX11 tyX11 tyX11_ok nmX11 rfl 0 (by decide) 8 (by decide) hw_5_195 rfl (v := nI 0) rfl rfl rfl (Nat.le_of_ble_eq_true rfl) rfl dX11_city_15 (fun H locs hP hD hS => ?_)
  have hI_4 := mInv_I hI_3 0 8 (nI 0) (zR_w zk_0 (by decide)) rfl
  refine lv_aload_n hx hb dX11_city_18 rfl (lv_at hl 0 rfl) ?_
  refine lv_iconst (v := nI 0) hx hb dX11_city_19 (by decide +kernel) ?_
  refine z_putI hx hb ht hown hK hP hD hS ziX11 tyX11 tyX11_ok nmX11 rfl 0 (by decide) 12 (by decide) hw_5_199 rfl (v := nI 0) rfl rfl rfl (Nat.le_of_ble_eq_true rfl) rfl dX11_city_20 (fun H locs hP hD hS => ?_)
  have hI_5 := mInv_I hI_4 0 12 (nI 0) (zR_w zk_0 (by decide)) rfl
  refine lv_aload_n hx hb dX11_city_23 rfl (lv_at hl 0 rfl) ?_
  refine lv_iconst (v := (-1)) hx hb dX11_city_24 (by decide +kernel) ?_
  refine z_putI hx hb ht hown hK hP hD hS ziX11 tyX11 tyX11_ok nmX11 rfl 0 (by decide) 13 (by decide) hw_5_200 rfl (v := (-1)) rfl rfl rfl (Nat.le_of_ble_eq_true rfl) rfl dX11_city_25 (fun H locs hP hD hS => ?_)
  have hI_6 := mInv_I hI_5 0 13 ((-1)) (zR_any ((-1))) rfl
  refine lv_iconst (v := nI 0) hx hb dX11_city_28 (by decide +kernel) ?_
  refine lv_istore_n (lv' := [(1, .int (nI 0)), (0, .ref (q 0))]) hx hb dX11_city_29 rfl hl (by decide) rfl (fun ls hl => ?_)
  have loopk_7 : ∀ (N k_7 : Nat), k_7 ≤ 119 → 119 < k_7 + N → ∀ (H : Heap) (locs : List Loc), va_P D vwCl (zw 25 q (zMd q cA) (zp (zp (zp (zp (zp I 0 7 (I 0 5)) 0 5 (nI 0)) 0 8 (nI 0)) 0 12 (nI 0)) 0 13 ((-1))) (zr R 6 (va_cpy (fun _ => nI 0) (R 6) 0 0 k_7)) J) H → va_D (zA 25 q sz) (zw 25 q (zMd q cA) (zp (zp (zp (zp (zp I 0 7 (I 0 5)) 0 5 (nI 0)) 0 8 (nI 0)) 0 12 (nI 0)) 0 13 ((-1))) (zr R 6 (va_cpy (fun _ => nI 0) (R 6) 0 0 k_7)) J) → va_S (zA 25 q sz) s.heap H locs → ∀ ls : Array Slot, lv_has ls 2 [(0, .ref (q 0)), (1, .int (nI k_7))] → W p l e ({ frames := 10, cells := 0, slots := 0, locals := 217 } : Room) s m ([.ref (q 0)] : List Value).toArray below meth c H locs 0 0 (MQ below (va_Qi (fun _ u => ∃ w9, mInv (zr F 1 w9) u) (zB D vwCl 25 q (zMd q cA) sz) (zA 25 q sz)) ([.ref (q 0)] : List Value).toArray s 0 0 (zA 25 q sz)) (F0 m 30 ls []) := by
    intro N
    induction N with
    | zero => intro k_7 h1 h2; exact absurd h2 (by omega)
    | succ N ihk_7 =>
      intro k_7 h1k_7 h2k_7 H locs hP hD hS ls hl
      rcases Nat.lt_or_ge k_7 119 with hkk_7 | hkk_7
      · have hnk_7 : zR 0 118 (nI k_7) := z2_nI (b := 118) (by omega) (by decide)
        refine lv_iload_n hx hb dX11_city_30 rfl (lv_at hl 1 rfl) ?_
        refine lv_bipush (v := nI 119) hx hb dX11_city_31 (by decide +kernel) ?_
        refine lv_icmp_ge (tgt := 49) hx hb dX11_city_33 (by decide) (fun c_0 => absurd c_0 (zD_nle zk_119 hnk_7 (by decide))) (fun _ => ?_)
        refine lv_aload_n hx hb dX11_city_36 rfl (lv_at hl 0 rfl) ?_
        refine z_get hx hb ht hown hK hP ziX11 rfl 0 (by decide) 14 (by decide) hw_5_201 rfl (v := .ref (q 6)) rfl dX11_city_37 ?_
        refine lv_iload_n hx hb dX11_city_40 rfl (lv_at hl 1 rfl) ?_
        refine lv_iconst (v := nI 0) hx hb dX11_city_41 (by decide +kernel) ?_
        refine z_iast hx hb hK hP hD hS 6 (by decide) 5 (fun _ => rfl) rfl (zR_vin hnk_7 (by decide)) dX11_city_42 (fun H locs hP hD hS => ?_)
        obtain ⟨v_8, ev_8⟩ : ∃ y : Int32, y = nI k_7 + nI 1 := ⟨_, rfl⟩
        have hv_8 : zR 1 119 v_8 := ev_8 ▸ zR_add hnk_7 zk_1 (by decide)
        have mv_8 : v_8.toInt = (nI k_7).toInt + 1 := by rw [ev_8, zR_addE hnk_7 zk_1 (by decide)]; rfl
        refine lv_iinc (v := v_8) (lv' := [(1, .int (v_8)), (0, .ref (q 0))]) hx hb dX11_city_43 hl (k := 1) rfl (ev_8 ▸ rfl) (by decide) rfl (fun ls hl => ?_)
        refine lv_goto (tgt := 30) hx hb dX11_city_46 (by decide) ?_
        have ev_89 : v_8 = nI (k_7 + 1) := ev_8.trans (nI_add k_7 1)
        rw [ev_89] at hl
        have er : (zp (zr R 6 (va_cpy (fun _ => nI 0) (R 6) 0 0 k_7)) 6 (nI k_7).toNatClampNeg (nI 0)) = (zr R 6 (va_cpy (fun _ => nI 0) (R 6) 0 0 (k_7 + 1))) := m_cpy_s ((nI_clamp (by omega)).trans (by omega)) rfl
        rw [er] at hP hD
        exact ihk_7 (k_7 + 1) (by omega) (by omega) _ _ hP hD hS _ (lv_sub hl [1, 0] rfl)
      · obtain rfl : k_7 = 119 := by omega
        have hI_9 := mInv_zero hI_6
        refine lv_iload_n hx hb dX11_city_30 rfl (lv_at hl 1 rfl) ?_
        refine lv_bipush (v := nI 119) hx hb dX11_city_31 (by decide +kernel) ?_
        refine lv_icmp_ge (tgt := 49) hx hb dX11_city_33 (by decide) (fun _ => ?_) (fun c_0 => absurd (zD_le zk_119 zk_119 (by decide)) c_0)
        refine lv_aload_n hx hb dX11_city_49 rfl (lv_at hl 0 rfl) ?_
        refine z_callVv (k := 0) (As := []) (rest := []) hx hb hml hown ht (mk_X11_advance l D q cA F _ _ _ hI_9 ) hw_6_109 hmX11_advance ⟨rfl, rfl⟩ (na := 0) rfl (by decide +kernel) (by decide) (by decide) rfl rfl hK hP hD hS hA hl.1 rfl (Nat.le_of_ble_eq_true rfl) ⟨Nat.zero_le _, Nat.zero_le _⟩ dX11_city_50 (fun I_10 R_10 J_10 H locs hp_10 hP hD hS _ _ => ?_)
        obtain ⟨hq_10, he_10⟩ := hp_10
        try dsimp only at he_10
        obtain ⟨hv_10, hk_10, hj_10⟩ := hq_10
        try dsimp only at hj_10 hk_10
        cases hj_10
        have t_21 : ∀ I_20 : Nat → Nat → Int32, ∀ R_20 : Nat → Nat → Int32, ∀ J_20 : Nat → Nat → Int64, mInv F (I_20, R_20, J_20) → ∀ (H : Heap) (locs : List Loc), va_P D vwCl (zw 25 q (zMd q cA) I_20 R_20 J_20) H → va_D (zA 25 q sz) (zw 25 q (zMd q cA) I_20 R_20 J_20) → va_S (zA 25 q sz) s.heap H locs → ∀ ls : Array Slot, lv_has ls 2 [(0, .ref (q 0)), (1, .int (nI 119))] → W p l e ({ frames := 10, cells := 0, slots := 0, locals := 217 } : Room) s m ([.ref (q 0)] : List Value).toArray below meth c H locs 0 0 (MQ below (va_Qi (fun _ u => ∃ w9, mInv (zr F 1 w9) u) (zB D vwCl 25 q (zMd q cA) sz) (zA 25 q sz)) ([.ref (q 0)] : List Value).toArray s 0 0 (zA 25 q sz)) (F0 m 74 ls []) := by
          intro I_20 R_20 J_20 hI_20 H locs hP hD hS ls hl
          refine lv_aload_n hx hb dX11_city_74 rfl (lv_at hl 0 rfl) ?_
          refine z_callVi (k := 0) (As := []) (rest := []) hx hb hml hown ht (mk_X11_good l D q cA F _ _ _ hI_20 ) hw_6_123 hmX11_good ⟨rfl, rfl⟩ (na := 0) rfl (by decide +kernel) (by decide) (by decide) rfl rfl hK hP hD hS hA hl.1 rfl (Nat.le_of_ble_eq_true rfl) ⟨Nat.zero_le _, Nat.zero_le _⟩ dX11_city_75 (fun r_22 I_22 R_22 J_22 H locs hp_22 hP hD hS _ _ => ?_)
          rcases hp_22 with ⟨rfl, hu_22, nn_22⟩ | ⟨rfl, hu_22, nn_22⟩
          · cases hu_22
            refine lv_if_ne (tgt := 84) hx hb dX11_city_78 (by decide) (fun _ => ?_) (fun c_0 => absurd c_0 (zD_ne zk_1 zk_z (by decide)))
            refine lv_iconst (v := nI 0) hx hb dX11_city_84 (by decide +kernel) ?_
            refine lv_istore_n (lv' := [(1, .int (nI 0)), (0, .ref (q 0))]) hx hb dX11_city_85 rfl hl (by decide) rfl (fun ls hl => ?_)
            have loopk_23 : ∀ (N k_23 : Nat), k_23 ≤ 119 → 119 < k_23 + N → ∀ (H : Heap) (locs : List Loc), va_P D vwCl (zw 25 q (zMd q cA) I_20 (zr R_20 1 (va_cpy (R_20 6) (R_20 1) 0 0 k_23)) J_20) H → va_D (zA 25 q sz) (zw 25 q (zMd q cA) I_20 (zr R_20 1 (va_cpy (R_20 6) (R_20 1) 0 0 k_23)) J_20) → va_S (zA 25 q sz) s.heap H locs → ∀ ls : Array Slot, lv_has ls 2 [(0, .ref (q 0)), (1, .int (nI k_23))] → W p l e ({ frames := 10, cells := 0, slots := 0, locals := 217 } : Room) s m ([.ref (q 0)] : List Value).toArray below meth c H locs 0 0 (MQ below (va_Qi (fun _ u => ∃ w9, mInv (zr F 1 w9) u) (zB D vwCl 25 q (zMd q cA) sz) (zA 25 q sz)) ([.ref (q 0)] : List Value).toArray s 0 0 (zA 25 q sz)) (F0 m 86 ls []) := by
              intro N
              induction N with
              | zero => intro k_23 h1 h2; exact absurd h2 (by omega)
              | succ N ihk_23 =>
                intro k_23 h1k_23 h2k_23 H locs hP hD hS ls hl
                rcases Nat.lt_or_ge k_23 119 with hkk_23 | hkk_23
                · have hnk_23 : zR 0 118 (nI k_23) := z2_nI (b := 118) (by omega) (by decide)
                  refine lv_iload_n hx hb dX11_city_86 rfl (lv_at hl 1 rfl) ?_
                  refine lv_bipush (v := nI 119) hx hb dX11_city_87 (by decide +kernel) ?_
                  refine lv_icmp_ge (tgt := 110) hx hb dX11_city_89 (by decide) (fun c_0 => absurd c_0 (zD_nle zk_119 hnk_23 (by decide))) (fun _ => ?_)
                  refine lv_aload_n hx hb dX11_city_92 rfl (lv_at hl 0 rfl) ?_
                  refine z_get hx hb ht hown hK hP ziX11 rfl 0 (by decide) 1 (by decide) hw_5_188 rfl (v := .ref (q 1)) rfl dX11_city_93 ?_
                  refine lv_iload_n hx hb dX11_city_96 rfl (lv_at hl 1 rfl) ?_
                  refine lv_aload_n hx hb dX11_city_97 rfl (lv_at hl 0 rfl) ?_
                  refine z_get hx hb ht hown hK hP ziX11 rfl 0 (by decide) 14 (by decide) hw_5_201 rfl (v := .ref (q 6)) rfl dX11_city_98 ?_
                  refine lv_iload_n hx hb dX11_city_101 rfl (lv_at hl 1 rfl) ?_
                  refine z_iald hx hb hK hP 6 (by decide) 5 rfl rfl (zR_vin hnk_23 (by decide)) dX11_city_102 ?_
                  refine z_eqi (y := (zr R_20 1 (va_cpy (R_20 6) (R_20 1) 0 0 k_23)) 6 (nI k_23).toNatClampNeg) rfl ?_
                  refine z_iast hx hb hK hP hD hS 1 (by decide) 0 (fun _ => rfl) rfl (zR_vin hnk_23 (by decide)) dX11_city_103 (fun H locs hP hD hS => ?_)
                  obtain ⟨v_24, ev_24⟩ : ∃ y : Int32, y = nI k_23 + nI 1 := ⟨_, rfl⟩
                  have hv_24 : zR 1 119 v_24 := ev_24 ▸ zR_add hnk_23 zk_1 (by decide)
                  have mv_24 : v_24.toInt = (nI k_23).toInt + 1 := by rw [ev_24, zR_addE hnk_23 zk_1 (by decide)]; rfl
                  refine lv_iinc (v := v_24) (lv' := [(1, .int (v_24)), (0, .ref (q 0))]) hx hb dX11_city_104 hl (k := 1) rfl (ev_24 ▸ rfl) (by decide) rfl (fun ls hl => ?_)
                  refine lv_goto (tgt := 86) hx hb dX11_city_107 (by decide) ?_
                  have ev_249 : v_24 = nI (k_23 + 1) := ev_24.trans (nI_add k_23 1)
                  rw [ev_249] at hl
                  have er : (zp (zr R_20 1 (va_cpy (R_20 6) (R_20 1) 0 0 k_23)) 1 (nI k_23).toNatClampNeg ((zr R_20 1 (va_cpy (R_20 6) (R_20 1) 0 0 k_23)) 6 (nI k_23).toNatClampNeg)) = (zr R_20 1 (va_cpy (R_20 6) (R_20 1) 0 0 (k_23 + 1))) := m_cpy_s ((nI_clamp (by omega)).trans (by omega)) (show (zr R_20 1 (va_cpy (R_20 6) (R_20 1) 0 0 k_23)) 6 (nI k_23).toNatClampNeg = (zr R_20 1 (va_cpy (R_20 6) (R_20 1) 0 0 k_23)) 6 (0 + k_23) from by rw [nI_clamp (by omega), Nat.zero_add])
                  rw [er] at hP hD
                  exact ihk_23 (k_23 + 1) (by omega) (by omega) _ _ hP hD hS _ (lv_sub hl [1, 0] rfl)
                · obtain rfl : k_23 = 119 := by omega
                  have hI_25 := mInv_cy hI_20
                  refine lv_iload_n hx hb dX11_city_86 rfl (lv_at hl 1 rfl) ?_
                  refine lv_bipush (v := nI 119) hx hb dX11_city_87 (by decide +kernel) ?_
                  refine lv_icmp_ge (tgt := 110) hx hb dX11_city_89 (by decide) (fun _ => ?_) (fun c_0 => absurd (zD_le zk_119 zk_119 (by decide)) c_0)
                  refine lv_aload_n hx hb dX11_city_110 rfl (lv_at hl 0 rfl) ?_
                  refine z_get hx hb ht hown hK hP ziX11 rfl 0 (by decide) 1 (by decide) hw_5_188 rfl (v := .ref (q 1)) rfl dX11_city_111 ?_
                  refine lv_iconst (v := nI 5) hx hb dX11_city_114 (by decide +kernel) ?_
                  refine z_iald hx hb hK hP 1 (by decide) 0 rfl rfl (zR_vin zk_5 (by decide)) dX11_city_115 ?_
                  refine z_eqi (y := (zr R_20 1 (va_cpy (R_20 6) (R_20 1) 0 0 119)) 1 (nI 5).toNatClampNeg) rfl ?_
                  exact z_iret (v := (zr R_20 1 (va_cpy (R_20 6) (R_20 1) 0 0 119)) 1 (nI 5).toNatClampNeg) hx hb hr hlocks hP hD hS dX11_city_116 ⟨_, hI_25⟩
            exact loopk_23 120 0 (by omega) (by omega) _ _ (by rw [m_cpy_0]; exact hP) (by rw [m_cpy_0]; exact hD) hS _ (lv_sub hl [1, 0] rfl)
          · cases hu_22
            refine lv_if_ne (tgt := 84) hx hb dX11_city_78 (by decide) (fun c_0 => absurd (zD_eq zk_0 zk_z) c_0) (fun _ => ?_)
            refine lv_bipush (v := (-4)) hx hb dX11_city_81 (by decide +kernel) ?_
            exact z_iret (v := (-4)) hx hb hr hlocks hP hD hS dX11_city_83 ⟨_, mInv_E hI_20⟩
        have loop_27 : ∀ N : Nat, ∀ I_26 : Nat → Nat → Int32, ∀ R_26 : Nat → Nat → Int32, ∀ J_26 : Nat → Nat → Int64, mInv F (I_26, R_26, J_26) → mMs I_26 < N → ∀ (H : Heap) (locs : List Loc), va_P D vwCl (zw 25 q (zMd q cA) I_26 R_26 J_26) H → va_D (zA 25 q sz) (zw 25 q (zMd q cA) I_26 R_26 J_26) → va_S (zA 25 q sz) s.heap H locs → ∀ ls : Array Slot, lv_has ls 2 [(0, .ref (q 0)), (1, .int (nI 119))] → W p l e ({ frames := 10, cells := 0, slots := 0, locals := 217 } : Room) s m ([.ref (q 0)] : List Value).toArray below meth c H locs 0 0 (MQ below (va_Qi (fun _ u => ∃ w9, mInv (zr F 1 w9) u) (zB D vwCl 25 q (zMd q cA) sz) (zA 25 q sz)) ([.ref (q 0)] : List Value).toArray s 0 0 (zA 25 q sz)) (F0 m 53 ls []) := by
          intro N
          induction N with
          | zero => intro I_26 R_26 J_26 hI_26 hN; exact absurd hN (Nat.not_lt_zero _)
          | succ N ih_29 =>
            intro I_26 R_26 J_26 hI_26 hN_28 H locs hP hD hS ls hl
            refine lv_aload_n hx hb dX11_city_53 rfl (lv_at hl 0 rfl) ?_
            refine z_callVi (k := 0) (As := []) (rest := []) hx hb hml hown ht (mk_X11_good l D q cA F _ _ _ hI_26 ) hw_6_123 hmX11_good ⟨rfl, rfl⟩ (na := 0) rfl (by decide +kernel) (by decide) (by decide) rfl rfl hK hP hD hS hA hl.1 rfl (Nat.le_of_ble_eq_true rfl) ⟨Nat.zero_le _, Nat.zero_le _⟩ dX11_city_54 (fun r_30 I_30 R_30 J_30 H locs hp_30 hP hD hS _ _ => ?_)
            rcases hp_30 with ⟨rfl, hu_30, nn_30⟩ | ⟨rfl, hu_30, nn_30⟩
            · cases hu_30
              refine lv_if_eq (tgt := 74) hx hb dX11_city_57 (by decide) (fun c_0 => absurd c_0 (zD_ne zk_1 zk_z (by decide))) (fun _ => ?_)
              refine lv_aload_n hx hb dX11_city_60 rfl (lv_at hl 0 rfl) ?_
              refine z_get hx hb ht hown hK hP ziX11 rfl 0 (by decide) 10 (by decide) hw_5_197 rfl (v := .int (I_26 0 10)) rfl dX11_city_61 ?_
              refine lv_if_eq (tgt := 74) hx hb dX11_city_64 (by decide) (fun c_31 => ?_) (fun c_31 => ?_)
              · have t_c_31 := z_eqT c_31
                have f_32 : zR 0 0 (I_26 0 10) := zR_eqx t_c_31 zk_z
                exact t_21 _ _ _ hI_26 _ _ hP hD hS _ (lv_sub hl [0, 1] rfl)
              · have t_c_31 := z_eqF c_31
                refine lv_aload_n hx hb dX11_city_67 rfl (lv_at hl 0 rfl) ?_
                refine z_cNVv (k := 0) (As := []) (rest := []) hx hb hml hown ht (mk_X11_readLine l D q cA ad av t9 F _ _ _ hI_26 ) hw_6_127 hmX11_readLine ⟨rfl, rfl⟩ (na := 0) rfl (by decide +kernel) (by decide) (by decide) rfl rfl hK hP hD hS hA (zSS_c (Rs := zMRs) (t9 := t9) (fun _ _ _ => zMRs_c)) (zSS_w (Rs := zMRs) (t9 := t9) (fun _ _ _ => zMRs_w) hN hsz hS) hl.1 rfl (Nat.le_of_ble_eq_true rfl) ⟨Nat.zero_le _, Nat.zero_le _⟩ dX11_city_68 (fun I_33 R_33 J_33 H locs hp_33 hP hD hS _ _ => ?_)
                obtain ⟨hI_33, he_33⟩ := hp_33
                try dsimp only at he_33
                refine lv_goto (tgt := 53) hx hb dX11_city_71 (by decide) ?_
                exact ih_29 _ _ _ hI_33 (mMs_dec nn_30 (mI hI_26 0 8) he_33 hN_28) _ _ hP hD hS _ (lv_sub hl [0, 1] rfl)
            · cases hu_30
              refine lv_if_eq (tgt := 74) hx hb dX11_city_57 (by decide) (fun _ => ?_) (fun c_0 => absurd (zD_eq zk_0 zk_z) c_0)
              exact t_21 _ _ _ hI_26 _ _ hP hD hS _ (lv_sub hl [0, 1] rfl)
        exact loop_27 _ _ _ _ hv_10 (Nat.lt_succ_self _) _ _ hP hD hS _ (lv_sub hl [0, 1] rfl)
  exact loopk_7 120 0 (by omega) (by omega) _ _ (by rw [m_cpy_0]; exact hP) (by rw [m_cpy_0]; exact hD) hS _ (lv_sub hl [1, 0] rfl)
set_option maxHeartbeats 4000000 in
set_option maxRecDepth 100000 in
theorem mk_X11_fault (l : Launch) (D : va_G) (q : Nat → Nat) (cA : Nat → ClassId) (F : Nat → Nat → Int32) (I R : Nat → Nat → Int32) (J : Nat → Nat → Int64) (hI : mInv F (I, R, J)) (pa0 : Int32) : zMi l D vwCl (zMtys cA) 25 q (zMd q cA) yX11_fault cX11_fault 2 (some .int) ({ frames := 0, cells := 0, slots := 0, locals := 0 } : Room) [.ref (q 0), .int (pa0)] (I, R, J) (fun _ u => u = (I, R, J)) := by
  intro sz
  refine z_body (by decide +kernel) (Nat.le_of_ble_eq_true rfl) (fun p e s m below meth c ls hx hb hml hr ht hown hlocks hsz hK hP hD hS hl => ?_)
  have hA : ∀ a, s.heap.size ≤ a → zA 25 q sz a := fun a h => Or.inr (hsz ▸ h)
  have hl : lv_has ls 2 [(0, .ref (q 0)), (1, .int (pa0))] := hl
  refine lv_iload_n hx hb dX11_fault_0 rfl (lv_at hl 1 rfl) ?_
  refine lv_if_ne (tgt := 11) hx hb dX11_fault_1 (by decide) (fun c_1 => ?_) (fun c_1 => ?_)
  · have t_c_1 := z_eqF c_1
    refine lv_iload_n hx hb dX11_fault_11 rfl (lv_at hl 1 rfl) ?_
    refine lv_iconst (v := nI 1) hx hb dX11_fault_12 (by decide +kernel) ?_
    refine lv_icmp_ne (tgt := 23) hx hb dX11_fault_13 (by decide) (fun c_2 => ?_) (fun c_2 => ?_)
    · have t_c_2 := z_eqF c_2
      refine lv_iconst (v := (-1)) hx hb dX11_fault_23 (by decide +kernel) ?_
      exact z_iret (v := (-1)) hx hb hr hlocks hP hD hS dX11_fault_24 rfl
    · have t_c_2 := z_eqT c_2
      have f_3 : zR 1 1 (pa0) := zR_eqx t_c_2 zk_1
      refine lv_aload_n hx hb dX11_fault_16 rfl (lv_at hl 0 rfl) ?_
      refine z_get hx hb ht hown hK hP ziX11 rfl 0 (by decide) 13 (by decide) hw_5_200 rfl (v := .int (I 0 13)) rfl dX11_fault_17 ?_
      refine lv_goto (tgt := 24) hx hb dX11_fault_20 (by decide) ?_
      exact z_iret (v := I 0 13) hx hb hr hlocks hP hD hS dX11_fault_24 rfl
  · have t_c_1 := z_eqT c_1
    have f_4 : zR 0 0 (pa0) := zR_eqx t_c_1 zk_z
    refine lv_aload_n hx hb dX11_fault_4 rfl (lv_at hl 0 rfl) ?_
    refine z_get hx hb ht hown hK hP ziX11 rfl 0 (by decide) 12 (by decide) hw_5_199 rfl (v := .int (I 0 12)) rfl dX11_fault_5 ?_
    have f_5 : zR 0 3 (I 0 12) := mI hI 0 12
    refine lv_goto (tgt := 24) hx hb dX11_fault_8 (by decide) ?_
    exact z_iret (v := I 0 12) hx hb hr hlocks hP hD hS dX11_fault_24 rfl
set_option maxHeartbeats 4000000 in
set_option maxRecDepth 100000 in
theorem mk_X11_isHouse (l : Launch) (D : va_G) (q : Nat → Nat) (cA : Nat → ClassId) (F : Nat → Nat → Int32) (I R : Nat → Nat → Int32) (J : Nat → Nat → Int64) (hI : mInv F (I, R, J)) (pa0 : Int64) (hpa0 : zL (-2147483648) 2147483647 pa0) : zMi l D vwCl (zMtys cA) 25 q (zMd q cA) yX11_isHouse cX11_isHouse 3 (some .boolean) ({ frames := 1, cells := 0, slots := 0, locals := 25 } : Room) [.ref (q 0), .long (pa0)] (I, R, J) (fun r u => (r = nI 1 ∧ u = (I, R, J) ∧ zL 0 4 pa0) ∨ (r = nI 0 ∧ u = (I, R, J))) := by
  intro sz
  refine z_body (by decide +kernel) (Nat.le_of_ble_eq_true rfl) (fun p e s m below meth c ls hx hb hml hr ht hown hlocks hsz hK hP hD hS hl => ?_)
  have hA : ∀ a, s.heap.size ≤ a → zA 25 q sz a := fun a h => Or.inr (hsz ▸ h)
  have hl : lv_has ls 3 [(0, .ref (q 0)), (1, .long (pa0))] := hl
  refine lv_lload_n hx hb dX11_isHouse_0 rfl (lv_at hl 1 rfl) ?_
  refine lv_lconst (v := (0 : Int64)) hx hb dX11_isHouse_1 (by decide +kernel) ?_
  refine lv_aload_n hx hb dX11_isHouse_2 rfl (lv_at hl 0 rfl) ?_
  refine z_get hx hb ht hown hK hP ziX11 rfl 0 (by decide) 1 (by decide) hw_5_188 rfl (v := .ref (q 1)) rfl dX11_isHouse_3 ?_
  refine lv_iconst (v := nI 3) hx hb dX11_isHouse_6 (by decide +kernel) ?_
  refine z_iald hx hb hK hP 1 (by decide) 0 rfl rfl (zR_vin zk_3 (by decide)) dX11_isHouse_7 ?_
  refine z_eqi (y := R 1 (nI 3).toNatClampNeg) rfl ?_
  have f_1 : zR 0 5 (R 1 (nI 3).toNatClampNeg) := mR hI 1 3
  refine lv_iconst (v := nI 1) hx hb dX11_isHouse_8 (by decide +kernel) ?_
  refine lv_isub hx hb dX11_isHouse_9 ?_
  refine z_subc (-1) 4 (-1) f_1 zk_1 (by decide) (fun v_2 hv_2 mv_2 => ?_)
  refine lv_i2l (v := (v_2).toInt64) hx hb dX11_isHouse_10 rfl ?_
  refine z_callSi (As := [.long (pa0), .long ((0 : Int64)), .long ((v_2).toInt64)]) (rest := []) hx hb hml hown ht (mk_X11_in l D q cA F _ _ _ hI (pa0) ((0 : Int64)) ((v_2).toInt64)) hw_6_86 hmX11_in ⟨rfl, rfl⟩ (na := 3) rfl (by decide +kernel) (by decide) hK hP hD hS hA hl.1 rfl (Nat.le_of_ble_eq_true rfl) ⟨Nat.zero_le _, Nat.zero_le _⟩ dX11_isHouse_11 (fun r_3 I_3 R_3 J_3 H locs hp_3 hP hD hS _ _ => ?_)
  rcases hp_3 with ⟨rfl, hu_3, h1_3, h2_3⟩ | ⟨rfl, hu_3, h1_3 | h2_3⟩
  · cases hu_3
    have f_4 : zL 0 2147483647 (pa0) := zL_ley h1_3 zkl_0 hpa0 (by decide)
    have f_5 : zL 0 4 (pa0) := zL_lex h2_3 f_4 (zR_i2l hv_2) (by decide)
    have f_6 : zL 0 4 ((v_2).toInt64) := zL_ley h2_3 f_4 (zR_i2l hv_2) (by decide)
    have f_7 : zR 0 4 (v_2) := zL_back f_6
    exact z_zret (v := nI 1) hx hb hr hlocks hP hD hS (by decide +kernel) dX11_isHouse_14 (Or.inl ⟨rfl, rfl, f_5⟩)
  · cases hu_3
    have f_8 : zL (-2147483648) (-1) (pa0) := zL_ltx h1_3 hpa0 zkl_0 (by decide)
    exact z_zret (v := nI 0) hx hb hr hlocks hP hD hS (by decide +kernel) dX11_isHouse_14 (Or.inr ⟨rfl, rfl⟩)
  · cases hu_3
    have f_9 : zL 0 2147483647 (pa0) := zL_lty h2_3 (zR_i2l hv_2) hpa0 (by decide)
    exact z_zret (v := nI 0) hx hb hr hlocks hP hD hS (by decide +kernel) dX11_isHouse_14 (Or.inr ⟨rfl, rfl⟩)
set_option maxHeartbeats 4000000 in
set_option maxRecDepth 100000 in
theorem mk_X11_worthOf (l : Launch) (D : va_G) (q : Nat → Nat) (cA : Nat → ClassId) (F : Nat → Nat → Int32) (I R : Nat → Nat → Int32) (J : Nat → Nat → Int64) (hI : mInv F (I, R, J)) (pa0 : Int32) (hpa0 : zR 0 5 pa0) : zMi l D vwCl (zMtys cA) 25 q (zMd q cA) yX11_worthOf cX11_worthOf 2 (some .int) ({ frames := 0, cells := 0, slots := 0, locals := 0 } : Room) [.ref (q 0), .int (pa0)] (I, R, J) (fun _ u => u = (I, R, J)) := by
  intro sz
  refine z_body (by decide +kernel) (Nat.le_of_ble_eq_true rfl) (fun p e s m below meth c ls hx hb hml hr ht hown hlocks hsz hK hP hD hS hl => ?_)
  have hA : ∀ a, s.heap.size ≤ a → zA 25 q sz a := fun a h => Or.inr (hsz ▸ h)
  have hl : lv_has ls 2 [(0, .ref (q 0)), (1, .int (pa0))] := hl
  refine lv_aload_n hx hb dX11_worthOf_0 rfl (lv_at hl 0 rfl) ?_
  refine z_get hx hb ht hown hK hP ziX11 rfl 0 (by decide) 1 (by decide) hw_5_188 rfl (v := .ref (q 1)) rfl dX11_worthOf_1 ?_
  refine lv_bipush (v := nI 17) hx hb dX11_worthOf_4 (by decide +kernel) ?_
  refine lv_iconst (v := nI 2) hx hb dX11_worthOf_6 (by decide +kernel) ?_
  refine lv_iload_n hx hb dX11_worthOf_7 rfl (lv_at hl 1 rfl) ?_
  refine lv_imul hx hb dX11_worthOf_8 ?_
  refine z_rng (a := 0) (b := 10) (zR_mul zk_2 hpa0 (by decide)) (fun v_1 hv_1 => ?_)
  refine lv_iadd hx hb dX11_worthOf_9 ?_
  refine z_cadd 17 27 zk_17 hv_1 (by decide) (fun v_2 hv_2 mv_2 => ?_)
  refine lv_iconst (v := nI 1) hx hb dX11_worthOf_10 (by decide +kernel) ?_
  refine lv_iadd hx hb dX11_worthOf_11 ?_
  refine z_addc 18 28 hv_2 zk_1 (by decide) (fun v_3 hv_3 mv_3 => ?_)
  refine z_iald hx hb hK hP 1 (by decide) 0 rfl rfl (zR_vin hv_3 (by decide)) dX11_worthOf_12 ?_
  refine z_eqi (y := R 1 (v_3).toNatClampNeg) rfl ?_
  exact z_iret (v := R 1 (v_3).toNatClampNeg) hx hb hr hlocks hP hD hS dX11_worthOf_13 rfl
set_option maxHeartbeats 4000000 in
set_option maxRecDepth 100000 in
theorem mk_X11_pay (l : Launch) (D : va_G) (q : Nat → Nat) (cA : Nat → ClassId) (F : Nat → Nat → Int32) (I R : Nat → Nat → Int32) (J : Nat → Nat → Int64) (hI : mInv F (I, R, J)) (pa0 : Int32) (hpa0 : zR 0 4 pa0) (pa1 : Int32) (hpa1 : zR 0 4 pa1) (pa2 : Int32) : zMv l D vwCl (zMtys cA) 25 q (zMd q cA) yX11_pay cX11_pay 4 none ({ frames := 1, cells := 0, slots := 0, locals := 64 } : Room) [.ref (q 0), .int (pa0), .int (pa1), .int (pa2)] (I, R, J) (fun u => (mInv F u ∧ u.2.2 = J ∧ u.1 0 26 = I 0 26)) := by
  intro sz
  refine z_body (by decide +kernel) (Nat.le_of_ble_eq_true rfl) (fun p e s m below meth c ls hx hb hml hr ht hown hlocks hsz hK hP hD hS hl => ?_)
  have hA : ∀ a, s.heap.size ≤ a → zA 25 q sz a := fun a h => Or.inr (hsz ▸ h)
  have hl : lv_has ls 4 [(0, .ref (q 0)), (1, .int (pa0)), (2, .int (pa1)), (3, .int (pa2))] := hl
  refine lv_aload_n hx hb dX11_pay_0 rfl (lv_at hl 0 rfl) ?_
  refine z_get hx hb ht hown hK hP ziX11 rfl 0 (by decide) 15 (by decide) hw_5_202 rfl (v := .ref (q 7)) rfl dX11_pay_1 ?_
  refine lv_iload_n hx hb dX11_pay_4 rfl (lv_at hl 1 rfl) ?_
  refine lv_dup2_11 hx hb dX11_pay_5 rfl rfl ?_
  refine z_iald hx hb hK hP 7 (by decide) 6 rfl rfl (zR_vin hpa0 (by decide)) dX11_pay_6 ?_
  refine z_eqi (y := R 7 (pa0).toNatClampNeg) rfl ?_
  refine lv_iload_n hx hb dX11_pay_7 rfl (lv_at hl 3 rfl) ?_
  refine lv_isub hx hb dX11_pay_8 ?_
  refine z_any (fun v_1 => ?_)
  refine z_iast hx hb hK hP hD hS 7 (by decide) 6 (fun _ => rfl) rfl (zR_vin hpa0 (by decide)) dX11_pay_9 (fun H locs hP hD hS => ?_)
  have hI_2 := mInv_R hI 7 (pa0).toNatClampNeg (v_1) (zR_any _) rfl
  refine lv_iload_n hx hb dX11_pay_10 rfl (lv_at hl 1 rfl) ?_
  refine lv_aload_n hx hb dX11_pay_11 rfl (lv_at hl 0 rfl) ?_
  refine z_get hx hb ht hown hK hP ziX11 rfl 0 (by decide) 29 (by decide) hw_5_216 rfl (v := .int (I 0 29)) rfl dX11_pay_12 ?_
  have t_10 : ∀ I_8 : Nat → Nat → Int32, mInv F (I_8, (zp R 7 (pa0).toNatClampNeg (v_1)), J) → I_8 0 26 = I 0 26 → ∀ (H : Heap) (locs : List Loc), va_P D vwCl (zw 25 q (zMd q cA) I_8 (zp R 7 (pa0).toNatClampNeg (v_1)) J) H → va_D (zA 25 q sz) (zw 25 q (zMd q cA) I_8 (zp R 7 (pa0).toNatClampNeg (v_1)) J) → va_S (zA 25 q sz) s.heap H locs → ∀ ls : Array Slot, lv_has ls 4 [(0, .ref (q 0)), (1, .int (pa0)), (2, .int (pa1)), (3, .int (pa2))] → W p l e ({ frames := 1, cells := 0, slots := 0, locals := 64 } : Room) s m ([.ref (q 0), .int (pa0), .int (pa1), .int (pa2)] : List Value).toArray below meth c H locs 0 0 (MQ below (va_Qv (fun u => (mInv F u ∧ u.2.2 = J ∧ u.1 0 26 = I 0 26)) (zB D vwCl 25 q (zMd q cA) sz) (zA 25 q sz)) ([.ref (q 0), .int (pa0), .int (pa1), .int (pa2)] : List Value).toArray s 0 0 (zA 25 q sz)) (F0 m 35 ls []) := by
    intro I_8 hI_8 kf_9 H locs hP hD hS ls hl
    refine lv_aload_n hx hb dX11_pay_35 rfl (lv_at hl 0 rfl) ?_
    refine z_get hx hb ht hown hK hP ziX11 rfl 0 (by decide) 15 (by decide) hw_5_202 rfl (v := .ref (q 7)) rfl dX11_pay_36 ?_
    refine lv_iload_n hx hb dX11_pay_39 rfl (lv_at hl 2 rfl) ?_
    refine lv_dup2_11 hx hb dX11_pay_40 rfl rfl ?_
    refine z_iald hx hb hK hP 7 (by decide) 6 rfl rfl (zR_vin hpa1 (by decide)) dX11_pay_41 ?_
    refine z_any (fun v_11 => ?_)
    refine lv_iload_n hx hb dX11_pay_42 rfl (lv_at hl 3 rfl) ?_
    refine lv_iadd hx hb dX11_pay_43 ?_
    refine z_any (fun v_12 => ?_)
    refine z_iast hx hb hK hP hD hS 7 (by decide) 6 (fun _ => rfl) rfl (zR_vin hpa1 (by decide)) dX11_pay_44 (fun H locs hP hD hS => ?_)
    have hI_13 := mInv_R hI_8 7 (pa1).toNatClampNeg (v_12) (zR_any _) rfl
    exact z_vret hx hb hr hlocks hP hD hS dX11_pay_45 ⟨hI_13, rfl, kf_9⟩
  refine lv_icmp_ne (tgt := 35) hx hb dX11_pay_15 (by decide) (fun c_3 => ?_) (fun c_3 => ?_)
  · have t_c_3 := z_eqF c_3
    exact t_10 _ hI_2 rfl _ _ hP hD hS _ (lv_sub hl [0, 1, 2, 3] rfl)
  · have t_c_3 := z_eqT c_3
    have f_14 : zR 0 4 (I 0 29) := zR_eqy t_c_3 hpa0
    refine lv_aload_n hx hb dX11_pay_18 rfl (lv_at hl 0 rfl) ?_
    refine lv_aload_n hx hb dX11_pay_19 rfl (lv_at hl 0 rfl) ?_
    refine z_get hx hb ht hown hK hP ziX11 rfl 0 (by decide) 28 (by decide) hw_5_215 rfl (v := .int (I 0 28)) rfl dX11_pay_20 ?_
    refine lv_aload_n hx hb dX11_pay_23 rfl (lv_at hl 0 rfl) ?_
    refine z_get hx hb ht hown hK hP ziX11 rfl 0 (by decide) 15 (by decide) hw_5_202 rfl (v := .ref (q 7)) rfl dX11_pay_24 ?_
    refine lv_iload_n hx hb dX11_pay_27 rfl (lv_at hl 1 rfl) ?_
    refine z_iald hx hb hK hP 7 (by decide) 6 rfl rfl (zR_vin hpa0 (by decide)) dX11_pay_28 ?_
    refine z_any (fun v_15 => ?_)
    refine va_mmin hx hb (hml.trans hl.1.symm) hown (ht _ hw_6_122) (ht _ hw_3_217) (ht _ hw_1_19) (ht _ hw_3_218) (by decide) (Nat.le_of_ble_eq_true rfl) (Nat.zero_le _) (Nat.zero_le _) dX11_pay_29 ?_
    refine z_any (fun v_16 => ?_)
    refine z_putI hx hb ht hown hK hP hD hS ziX11 tyX11 tyX11_ok nmX11 rfl 0 (by decide) 28 (by decide) hw_5_215 rfl (v := v_16) rfl rfl rfl (Nat.le_of_ble_eq_true rfl) rfl dX11_pay_32 (fun H locs hP hD hS => ?_)
    have hI_17 := mInv_I hI_2 0 28 (v_16) (zR_any (v_16)) rfl
    exact t_10 _ hI_17 rfl _ _ hP hD hS _ (lv_sub hl [0, 1, 2, 3] rfl)
set_option maxHeartbeats 4000000 in
set_option maxRecDepth 100000 in
theorem mk_X11_goTo (l : Launch) (D : va_G) (q : Nat → Nat) (cA : Nat → ClassId) (F : Nat → Nat → Int32) (I R : Nat → Nat → Int32) (J : Nat → Nat → Int64) (hI : mInv F (I, R, J)) (pa0 : Int32) (hpa0 : zR 0 5 pa0) (pa1 : Int32) (hpa1 : zR 0 4 pa1) : zMv l D vwCl (zMtys cA) 25 q (zMd q cA) yX11_goTo cX11_goTo 3 none ({ frames := 0, cells := 0, slots := 0, locals := 0 } : Room) [.ref (q 0), .int (pa0), .int (pa1)] (I, R, J) (fun u => (mInv F u ∧ u.2.2 = J ∧ u.1 0 26 = I 0 26)) := by
  intro sz
  refine z_body (by decide +kernel) (Nat.le_of_ble_eq_true rfl) (fun p e s m below meth c ls hx hb hml hr ht hown hlocks hsz hK hP hD hS hl => ?_)
  have hA : ∀ a, s.heap.size ≤ a → zA 25 q sz a := fun a h => Or.inr (hsz ▸ h)
  have hl : lv_has ls 3 [(0, .ref (q 0)), (1, .int (pa0)), (2, .int (pa1))] := hl
  refine lv_aload_n hx hb dX11_goTo_0 rfl (lv_at hl 0 rfl) ?_
  refine z_get hx hb ht hown hK hP ziX11 rfl 0 (by decide) 17 (by decide) hw_5_204 rfl (v := .ref (q 9)) rfl dX11_goTo_1 ?_
  refine lv_iload_n hx hb dX11_goTo_4 rfl (lv_at hl 1 rfl) ?_
  refine z_iald hx hb hK hP 9 (by decide) 8 rfl rfl (zR_vin hpa0 (by decide)) dX11_goTo_5 ?_
  refine z_eqi (y := R 9 (pa0).toNatClampNeg) rfl ?_
  have f_1 : zR 0 4 (R 9 (pa0).toNatClampNeg) := mR hI 9 (pa0).toNatClampNeg
  refine lv_iload_n hx hb dX11_goTo_6 rfl (lv_at hl 2 rfl) ?_
  refine lv_icmp_ne (tgt := 11) hx hb dX11_goTo_7 (by decide) (fun c_2 => ?_) (fun c_2 => ?_)
  · have t_c_2 := z_eqF c_2
    refine lv_aload_n hx hb dX11_goTo_11 rfl (lv_at hl 0 rfl) ?_
    refine z_get hx hb ht hown hK hP ziX11 rfl 0 (by decide) 17 (by decide) hw_5_204 rfl (v := .ref (q 9)) rfl dX11_goTo_12 ?_
    refine lv_iload_n hx hb dX11_goTo_15 rfl (lv_at hl 1 rfl) ?_
    refine lv_iload_n hx hb dX11_goTo_16 rfl (lv_at hl 2 rfl) ?_
    refine z_iast hx hb hK hP hD hS 9 (by decide) 8 (fun _ => rfl) rfl (zR_vin hpa0 (by decide)) dX11_goTo_17 (fun H locs hP hD hS => ?_)
    have hI_3 := mInv_R hI 9 (pa0).toNatClampNeg (pa1) hpa1 rfl
    refine lv_aload_n hx hb dX11_goTo_18 rfl (lv_at hl 0 rfl) ?_
    refine z_get hx hb ht hown hK hP ziX11 rfl 0 (by decide) 25 (by decide) hw_5_212 rfl (v := .ref (q 17)) rfl dX11_goTo_19 ?_
    refine lv_iload_n hx hb dX11_goTo_22 rfl (lv_at hl 1 rfl) ?_
    refine z_iald hx hb hK hP 17 (by decide) 16 rfl rfl (zR_vin hpa0 (by decide)) dX11_goTo_23 ?_
    refine z_eqi (y := R 17 (pa0).toNatClampNeg) rfl ?_
    have f_4 : zR 0 146 (R 17 (pa0).toNatClampNeg) := mR hI 17 (pa0).toNatClampNeg
    refine lv_sipush (v := nI 146) hx hb dX11_goTo_24 (by decide +kernel) ?_
    refine lv_icmp_ne (tgt := 31) hx hb dX11_goTo_27 (by decide) (fun c_5 => ?_) (fun c_5 => ?_)
    · have t_c_5 := z_eqF c_5
      have f_6 : zR 0 145 (R 17 (pa0).toNatClampNeg) := zR_nex t_c_5 f_4 zk_146 (by decide)
      refine lv_aload_n hx hb dX11_goTo_31 rfl (lv_at hl 0 rfl) ?_
      refine z_get hx hb ht hown hK hP ziX11 rfl 0 (by decide) 24 (by decide) hw_5_211 rfl (v := .ref (q 16)) rfl dX11_goTo_32 ?_
      refine lv_sipush (v := nI 146) hx hb dX11_goTo_35 (by decide +kernel) ?_
      refine lv_iload_n hx hb dX11_goTo_38 rfl (lv_at hl 1 rfl) ?_
      refine lv_imul hx hb dX11_goTo_39 ?_
      refine z_rng (a := 0) (b := 730) (zR_mul zk_146 hpa0 (by decide)) (fun v_7 hv_7 => ?_)
      refine lv_aload_n hx hb dX11_goTo_40 rfl (lv_at hl 0 rfl) ?_
      refine z_get hx hb ht hown hK hP ziX11 rfl 0 (by decide) 25 (by decide) hw_5_212 rfl (v := .ref (q 17)) rfl dX11_goTo_41 ?_
      refine lv_iload_n hx hb dX11_goTo_44 rfl (lv_at hl 1 rfl) ?_
      refine z_iald hx hb hK hP 17 (by decide) 16 rfl rfl (zR_vin hpa0 (by decide)) dX11_goTo_45 ?_
      refine z_eqi (y := R 17 (pa0).toNatClampNeg) rfl ?_
      refine lv_iadd hx hb dX11_goTo_46 ?_
      refine z_rng (a := 0) (b := 875) (zR_add hv_7 f_6 (by decide)) (fun v_8 hv_8 => ?_)
      refine lv_iload_n hx hb dX11_goTo_47 rfl (lv_at hl 2 rfl) ?_
      refine z_iast hx hb hK hP hD hS 16 (by decide) 15 (fun _ => rfl) rfl (zR_vin hv_8 (by decide)) dX11_goTo_48 (fun H locs hP hD hS => ?_)
      have hI_9 := mInv_R hI_3 16 (v_8).toNatClampNeg (pa1) (zR_any _) rfl
      refine lv_aload_n hx hb dX11_goTo_49 rfl (lv_at hl 0 rfl) ?_
      refine z_get hx hb ht hown hK hP ziX11 rfl 0 (by decide) 25 (by decide) hw_5_212 rfl (v := .ref (q 17)) rfl dX11_goTo_50 ?_
      refine lv_iload_n hx hb dX11_goTo_53 rfl (lv_at hl 1 rfl) ?_
      refine lv_dup2_11 hx hb dX11_goTo_54 rfl rfl ?_
      refine z_iald hx hb hK hP 17 (by decide) 16 rfl rfl (zR_vin hpa0 (by decide)) dX11_goTo_55 ?_
      refine z_eqi (y := R 17 (pa0).toNatClampNeg) rfl ?_
      refine lv_iconst (v := nI 1) hx hb dX11_goTo_56 (by decide +kernel) ?_
      refine lv_iadd hx hb dX11_goTo_57 ?_
      refine z_addc 1 146 f_6 zk_1 (by decide) (fun v_10 hv_10 mv_10 => ?_)
      refine z_iast hx hb hK hP hD hS 17 (by decide) 16 (fun _ => rfl) rfl (zR_vin hpa0 (by decide)) dX11_goTo_58 (fun H locs hP hD hS => ?_)
      have hI_11 := mInv_R hI_9 17 (pa0).toNatClampNeg (v_10) (show zR 0 146 (v_10) from zR_w hv_10 (by decide)) rfl
      exact z_vret hx hb hr hlocks hP hD hS dX11_goTo_59 ⟨hI_11, rfl, rfl⟩
    · have t_c_5 := z_eqT c_5
      have f_12 : zR 146 146 (R 17 (pa0).toNatClampNeg) := zR_eqx t_c_5 zk_146
      exact z_vret hx hb hr hlocks hP hD hS dX11_goTo_30 ⟨hI_3, rfl, rfl⟩
  · have t_c_2 := z_eqT c_2
    exact z_vret hx hb hr hlocks hP hD hS dX11_goTo_10 ⟨hI, rfl, rfl⟩
set_option maxHeartbeats 4000000 in
set_option maxRecDepth 100000 in
theorem mk_X11_worthP_1 (l : Launch) (D : va_G) (q : Nat → Nat) (cA : Nat → ClassId) (F : Nat → Nat → Int32) (I R : Nat → Nat → Int32) (J : Nat → Nat → Int64) (hI : mInv F (I, R, J)) (pa0 : Int32) (hpa0 : zR 0 23 pa0) : zMi l D vwCl (zMtys cA) 25 q (zMd q cA) yX11_worthP cX11_worthP 2 (some .int) ({ frames := 1, cells := 0, slots := 0, locals := 21 } : Room) [.ref (q 0), .int (pa0)] (I, R, J) (fun _ u => u = (I, R, J)) := by
  intro sz
  refine z_body (by decide +kernel) (Nat.le_of_ble_eq_true rfl) (fun p e s m below meth c ls hx hb hml hr ht hown hlocks hsz hK hP hD hS hl => ?_)
  have hA : ∀ a, s.heap.size ≤ a → zA 25 q sz a := fun a h => Or.inr (hsz ▸ h)
  have hl : lv_has ls 2 [(0, .ref (q 0)), (1, .int (pa0))] := hl
  refine lv_aload_n hx hb dX11_worthP_0 rfl (lv_at hl 0 rfl) ?_
  refine lv_aload_n hx hb dX11_worthP_1 rfl (lv_at hl 0 rfl) ?_
  refine z_get hx hb ht hown hK hP ziX11 rfl 0 (by decide) 19 (by decide) hw_5_206 rfl (v := .ref (q 11)) rfl dX11_worthP_2 ?_
  refine lv_iload_n hx hb dX11_worthP_5 rfl (lv_at hl 1 rfl) ?_
  refine z_iald hx hb hK hP 11 (by decide) 10 rfl rfl (zR_vin hpa0 (by decide)) dX11_worthP_6 ?_
  refine z_eqi (y := R 11 (pa0).toNatClampNeg) rfl ?_
  have f_1 : zR 0 5 (R 11 (pa0).toNatClampNeg) := mR hI 11 (pa0).toNatClampNeg
  refine z_callVi (k := 0) (As := [.int (R 11 (pa0).toNatClampNeg)]) (rest := []) hx hb hml hown ht (mk_X11_worthOf l D q cA F _ _ _ hI (R 11 (pa0).toNatClampNeg) f_1) hw_6_210 hmX11_worthOf ⟨rfl, rfl⟩ (na := 1) rfl (by decide +kernel) (by decide) (by decide) rfl rfl hK hP hD hS hA hl.1 rfl (Nat.le_of_ble_eq_true rfl) ⟨Nat.zero_le _, Nat.zero_le _⟩ dX11_worthP_7 (fun r_2 I_2 R_2 J_2 H locs hp_2 hP hD hS _ _ => ?_)
  cases hp_2
  exact z_iret (v := r_2) hx hb hr hlocks hP hD hS dX11_worthP_10 rfl
set_option maxHeartbeats 4000000 in
set_option maxRecDepth 100000 in
theorem mk_X11_bring0_1 (l : Launch) (D : va_G) (q : Nat → Nat) (cA : Nat → ClassId) (F : Nat → Nat → Int32) (I R : Nat → Nat → Int32) (J : Nat → Nat → Int64) (hI : mInv F (I, R, J)) (pa0 : Int32) (hpa0 : zR 0 23 pa0) : zMv l D vwCl (zMtys cA) 25 q (zMd q cA) yX11_bring0 cX11_bring0 2 none ({ frames := 1, cells := 0, slots := 0, locals := 22 } : Room) [.ref (q 0), .int (pa0)] (I, R, J) (fun u => (mInv F u ∧ u.2.2 = J ∧ u.1 0 26 = I 0 26)) := by
  intro sz
  refine z_body (by decide +kernel) (Nat.le_of_ble_eq_true rfl) (fun p e s m below meth c ls hx hb hml hr ht hown hlocks hsz hK hP hD hS hl => ?_)
  have hA : ∀ a, s.heap.size ≤ a → zA 25 q sz a := fun a h => Or.inr (hsz ▸ h)
  have hl : lv_has ls 2 [(0, .ref (q 0)), (1, .int (pa0))] := hl
  refine lv_aload_n hx hb dX11_bring0_0 rfl (lv_at hl 0 rfl) ?_
  refine lv_aload_n hx hb dX11_bring0_1 rfl (lv_at hl 0 rfl) ?_
  refine z_get hx hb ht hown hK hP ziX11 rfl 0 (by decide) 19 (by decide) hw_5_206 rfl (v := .ref (q 11)) rfl dX11_bring0_2 ?_
  refine lv_iload_n hx hb dX11_bring0_5 rfl (lv_at hl 1 rfl) ?_
  refine z_iald hx hb hK hP 11 (by decide) 10 rfl rfl (zR_vin hpa0 (by decide)) dX11_bring0_6 ?_
  refine z_eqi (y := R 11 (pa0).toNatClampNeg) rfl ?_
  have f_1 : zR 0 5 (R 11 (pa0).toNatClampNeg) := mR hI 11 (pa0).toNatClampNeg
  refine lv_aload_n hx hb dX11_bring0_7 rfl (lv_at hl 0 rfl) ?_
  refine z_get hx hb ht hown hK hP ziX11 rfl 0 (by decide) 20 (by decide) hw_5_207 rfl (v := .ref (q 12)) rfl dX11_bring0_8 ?_
  refine lv_iload_n hx hb dX11_bring0_11 rfl (lv_at hl 1 rfl) ?_
  refine z_iald hx hb hK hP 12 (by decide) 11 rfl rfl (zR_vin hpa0 (by decide)) dX11_bring0_12 ?_
  refine z_eqi (y := R 12 (pa0).toNatClampNeg) rfl ?_
  have f_2 : zR 0 4 (R 12 (pa0).toNatClampNeg) := mR hI 12 (pa0).toNatClampNeg
  refine z_callVv (k := 0) (As := [.int (R 11 (pa0).toNatClampNeg), .int (R 12 (pa0).toNatClampNeg)]) (rest := []) hx hb hml hown ht (mk_X11_goTo l D q cA F _ _ _ hI (R 11 (pa0).toNatClampNeg) f_1 (R 12 (pa0).toNatClampNeg) f_2) hw_6_194 hmX11_goTo ⟨rfl, rfl⟩ (na := 2) rfl (by decide +kernel) (by decide) (by decide) rfl rfl hK hP hD hS hA hl.1 rfl (Nat.le_of_ble_eq_true rfl) ⟨Nat.zero_le _, Nat.zero_le _⟩ dX11_bring0_13 (fun I_3 R_3 J_3 H locs hp_3 hP hD hS _ _ => ?_)
  obtain ⟨hv_3, hj_3, hk26_3⟩ := hp_3
  try dsimp only at hj_3
  subst J_3
  refine lv_aload_n hx hb dX11_bring0_16 rfl (lv_at hl 0 rfl) ?_
  refine z_get hx hb ht hown hK hP ziX11 rfl 0 (by decide) 22 (by decide) hw_5_209 rfl (v := .ref (q 14)) rfl dX11_bring0_17 ?_
  refine lv_iload_n hx hb dX11_bring0_20 rfl (lv_at hl 1 rfl) ?_
  refine lv_iconst (v := nI 1) hx hb dX11_bring0_21 (by decide +kernel) ?_
  refine z_iast hx hb hK hP hD hS 14 (by decide) 13 (fun _ => rfl) rfl (zR_vin hpa0 (by decide)) dX11_bring0_22 (fun H locs hP hD hS => ?_)
  have hI_4 := mInv_R hv_3 14 (pa0).toNatClampNeg (nI 1) (zR_any _) rfl
  exact z_vret hx hb hr hlocks hP hD hS dX11_bring0_23 ⟨hI_4, rfl, hk26_3⟩
set_option maxHeartbeats 4000000 in
set_option maxRecDepth 100000 in
theorem mk_X11_night0 (l : Launch) (D : va_G) (q : Nat → Nat) (cA : Nat → ClassId) (F : Nat → Nat → Int32) (I R : Nat → Nat → Int32) (J : Nat → Nat → Int64) (hI : mInv F (I, R, J))  : zMi l D vwCl (zMtys cA) 25 q (zMd q cA) yX11_night0 cX11_night0 4 (some .int) ({ frames := 2, cells := 0, slots := 0, locals := 87 } : Room) [.ref (q 0)] (I, R, J) (fun _ u => (mInv F u ∧ u.2.2 = J ∧ u.1 0 26 = I 0 26)) := by
  intro sz
  refine z_body (by decide +kernel) (Nat.le_of_ble_eq_true rfl) (fun p e s m below meth c ls hx hb hml hr ht hown hlocks hsz hK hP hD hS hl => ?_)
  have hA : ∀ a, s.heap.size ≤ a → zA 25 q sz a := fun a h => Or.inr (hsz ▸ h)
  have hl : lv_has ls 4 [(0, .ref (q 0))] := hl
  refine lv_iconst (v := nI 0) hx hb dX11_night0_0 (by decide +kernel) ?_
  refine lv_istore_n (lv' := [(1, .int (nI 0)), (0, .ref (q 0))]) hx hb dX11_night0_1 rfl hl (by decide) rfl (fun ls hl => ?_)
  refine lv_aload_n hx hb dX11_night0_2 rfl (lv_at hl 1 rfl) ?_
  refine lv_dup hx hb dX11_night0_3 rfl ?_
  refine z_get hx hb ht hown hK hP ziX11 rfl 0 (by decide) 27 (by decide) hw_5_214 rfl (v := .int (I 0 27)) rfl dX11_night0_4 ?_
  refine lv_iconst (v := nI 1) hx hb dX11_night0_7 (by decide +kernel) ?_
  refine lv_iadd hx hb dX11_night0_8 ?_
  refine z_any (fun v_1 => ?_)
  refine z_putI hx hb ht hown hK hP hD hS ziX11 tyX11 tyX11_ok nmX11 rfl 0 (by decide) 27 (by decide) hw_5_214 rfl (v := v_1) rfl rfl rfl (Nat.le_of_ble_eq_true rfl) rfl dX11_night0_9 (fun H locs hP hD hS => ?_)
  have hI_2 := mInv_I hI 0 27 (v_1) (zR_any (v_1)) rfl
  refine lv_iconst (v := nI 0) hx hb dX11_night0_12 (by decide +kernel) ?_
  refine lv_istore_n (lv' := [(2, .int (nI 0)), (1, .int (nI 0)), (0, .ref (q 0))]) hx hb dX11_night0_13 rfl hl (by decide) rfl (fun ls hl => ?_)
  have loop_24 : ∀ N : Nat, ∀ x_22 : Int32, zR 0 5 x_22 → ∀ R_23 : Nat → Nat → Int32, mInv F ((zp I 0 27 (v_1)), R_23, J) → (2147483648 - (x_22).toInt).toNat < N → ∀ (H : Heap) (locs : List Loc), va_P D vwCl (zw 25 q (zMd q cA) (zp I 0 27 (v_1)) R_23 J) H → va_D (zA 25 q sz) (zw 25 q (zMd q cA) (zp I 0 27 (v_1)) R_23 J) → va_S (zA 25 q sz) s.heap H locs → ∀ ls : Array Slot, lv_has ls 4 [(0, .ref (q 0)), (1, .int (nI 0)), (2, .int (x_22))] → W p l e ({ frames := 2, cells := 0, slots := 0, locals := 87 } : Room) s m ([.ref (q 0)] : List Value).toArray below meth c H locs 0 0 (MQ below (va_Qi (fun _ u => (mInv F u ∧ u.2.2 = J ∧ u.1 0 26 = I 0 26)) (zB D vwCl 25 q (zMd q cA) sz) (zA 25 q sz)) ([.ref (q 0)] : List Value).toArray s 0 0 (zA 25 q sz)) (F0 m 14 ls []) := by
    intro N
    induction N with
    | zero => intro x_22 hx_22 R_23 hI_23 hN; exact absurd hN (Nat.not_lt_zero _)
    | succ N ih_26 =>
      intro x_22 hx_22 R_23 hI_23 hN_25 H locs hP hD hS ls hl
      refine lv_iload_n hx hb dX11_night0_14 rfl (lv_at hl 2 rfl) ?_
      refine lv_iconst (v := nI 5) hx hb dX11_night0_15 (by decide +kernel) ?_
      refine lv_icmp_ge (tgt := 32) hx hb dX11_night0_16 (by decide) (fun c_27 => ?_) (fun c_27 => ?_)
      · have t_c_27 := z_leT c_27
        have f_32 : zR 5 5 (x_22) := zR_ley t_c_27 zk_5 hx_22 (by decide)
        refine lv_iconst (v := nI 0) hx hb dX11_night0_32 (by decide +kernel) ?_
        refine lv_istore_n (lv' := [(2, .int (nI 0)), (0, .ref (q 0)), (1, .int (nI 0))]) hx hb dX11_night0_33 rfl hl (by decide) rfl (fun ls hl => ?_)
        have loop_301 : ∀ N : Nat, ∀ x_297 : Int32, ∀ x_298 : Int32, zR 0 24 x_298 → ∀ I_299 : Nat → Nat → Int32, ∀ R_299 : Nat → Nat → Int32, mInv F (I_299, R_299, J) → I_299 0 26 = I 0 26 → (2147483648 - (x_298).toInt).toNat < N → ∀ (H : Heap) (locs : List Loc), va_P D vwCl (zw 25 q (zMd q cA) I_299 R_299 J) H → va_D (zA 25 q sz) (zw 25 q (zMd q cA) I_299 R_299 J) → va_S (zA 25 q sz) s.heap H locs → ∀ ls : Array Slot, lv_has ls 4 [(0, .ref (q 0)), (1, .int (x_297)), (2, .int (x_298))] → W p l e ({ frames := 2, cells := 0, slots := 0, locals := 87 } : Room) s m ([.ref (q 0)] : List Value).toArray below meth c H locs 0 0 (MQ below (va_Qi (fun _ u => (mInv F u ∧ u.2.2 = J ∧ u.1 0 26 = I 0 26)) (zB D vwCl 25 q (zMd q cA) sz) (zA 25 q sz)) ([.ref (q 0)] : List Value).toArray s 0 0 (zA 25 q sz)) (F0 m 34 ls []) := by
          intro N
          induction N with
          | zero => intro x_297 x_298 hx_298 I_299 R_299 hI_299 kf_300 hN; exact absurd hN (Nat.not_lt_zero _)
          | succ N ih_303 =>
            intro x_297 x_298 hx_298 I_299 R_299 hI_299 kf_300 hN_302 H locs hP hD hS ls hl
            refine lv_iload_n hx hb dX11_night0_34 rfl (lv_at hl 2 rfl) ?_
            refine lv_aload_n hx hb dX11_night0_35 rfl (lv_at hl 0 rfl) ?_
            refine z_get hx hb ht hown hK hP ziX11 rfl 0 (by decide) 26 (by decide) hw_5_213 rfl (v := .int (I_299 0 26)) rfl dX11_night0_36 ?_
            refine z_eqi (y := I 0 26) kf_300 ?_
            have f_304 : zR 0 24 (I 0 26) := mI hI 0 26
            refine lv_icmp_ge (tgt := 178) hx hb dX11_night0_39 (by decide) (fun c_305 => ?_) (fun c_305 => ?_)
            · have t_c_305 := z_leT c_305
              refine lv_iload_n hx hb dX11_night0_178 rfl (lv_at hl 1 rfl) ?_
              exact z_iret (v := x_297) hx hb hr hlocks hP hD hS dX11_night0_179 ⟨hI_299, rfl, kf_300⟩
            · have t_c_305 := z_leF c_305
              have f_306 : zR 0 23 (x_298) := zR_ltx t_c_305 hx_298 f_304 (by decide)
              have f_307 : zR 1 24 (I 0 26) := zR_lty t_c_305 hx_298 f_304 (by decide)
              refine lv_aload_n hx hb dX11_night0_42 rfl (lv_at hl 0 rfl) ?_
              refine z_get hx hb ht hown hK hP ziX11 rfl 0 (by decide) 22 (by decide) hw_5_209 rfl (v := .ref (q 14)) rfl dX11_night0_43 ?_
              refine lv_iload_n hx hb dX11_night0_46 rfl (lv_at hl 2 rfl) ?_
              refine z_iald hx hb hK hP 14 (by decide) 13 rfl rfl (zR_vin f_306 (by decide)) dX11_night0_47 ?_
              refine z_eqi (y := R_299 14 (x_298).toNatClampNeg) rfl ?_
              have t_344 : ∀ x_341 : Int32, ∀ I_342 : Nat → Nat → Int32, ∀ R_342 : Nat → Nat → Int32, mInv F (I_342, R_342, J) → I_342 0 26 = I 0 26 → ∀ (H : Heap) (locs : List Loc), va_P D vwCl (zw 25 q (zMd q cA) I_342 R_342 J) H → va_D (zA 25 q sz) (zw 25 q (zMd q cA) I_342 R_342 J) → va_S (zA 25 q sz) s.heap H locs → ∀ ls : Array Slot, lv_has ls 4 [(0, .ref (q 0)), (1, .int (x_341)), (2, .int (x_298))] → W p l e ({ frames := 2, cells := 0, slots := 0, locals := 87 } : Room) s m ([.ref (q 0)] : List Value).toArray below meth c H locs 0 0 (MQ below (va_Qi (fun _ u => (mInv F u ∧ u.2.2 = J ∧ u.1 0 26 = I 0 26)) (zB D vwCl 25 q (zMd q cA) sz) (zA 25 q sz)) ([.ref (q 0)] : List Value).toArray s 0 0 (zA 25 q sz)) (F0 m 172 ls []) := by
                intro x_341 I_342 R_342 hI_342 kf_343 H locs hP hD hS ls hl
                obtain ⟨v_345, ev_345⟩ : ∃ y : Int32, y = x_298 + nI 1 := ⟨_, rfl⟩
                have hv_345 : zR 1 24 v_345 := ev_345 ▸ zR_add f_306 zk_1 (by decide)
                have mv_345 : v_345.toInt = (x_298).toInt + 1 := by rw [ev_345, zR_addE f_306 zk_1 (by decide)]; rfl
                refine lv_iinc (v := v_345) (lv' := [(2, .int (v_345)), (0, .ref (q 0)), (1, .int (x_341))]) hx hb dX11_night0_172 hl (k := 2) rfl (ev_345 ▸ rfl) (by decide) rfl (fun ls hl => ?_)
                refine lv_goto (tgt := 34) hx hb dX11_night0_175 (by decide) ?_
                exact ih_303 (x_341) (v_345) (zR_w hv_345 (by decide)) _ _ hI_342 kf_343 (z2_up mv_345 (by decide) hN_302) _ _ hP hD hS _ (lv_sub hl [1, 2, 0] rfl)
              refine lv_if_ne (tgt := 172) hx hb dX11_night0_48 (by decide) (fun c_308 => ?_) (fun c_308 => ?_)
              · have t_c_308 := z_eqF c_308
                exact t_344 (x_297) _ _ hI_299 kf_300 _ _ hP hD hS _ (lv_sub hl [0, 1, 2] rfl)
              · have t_c_308 := z_eqT c_308
                have f_346 : zR 0 0 (R_299 14 (x_298).toNatClampNeg) := zR_eqx t_c_308 zk_z
                refine lv_aload_n hx hb dX11_night0_51 rfl (lv_at hl 0 rfl) ?_
                refine z_get hx hb ht hown hK hP ziX11 rfl 0 (by decide) 21 (by decide) hw_5_208 rfl (v := .ref (q 13)) rfl dX11_night0_52 ?_
                refine lv_iload_n hx hb dX11_night0_55 rfl (lv_at hl 2 rfl) ?_
                refine z_iald hx hb hK hP 13 (by decide) 12 rfl rfl (zR_vin f_306 (by decide)) dX11_night0_56 ?_
                refine z_eqi (y := R_299 13 (x_298).toNatClampNeg) rfl ?_
                refine lv_aload_n hx hb dX11_night0_57 rfl (lv_at hl 0 rfl) ?_
                refine z_get hx hb ht hown hK hP ziX11 rfl 0 (by decide) 27 (by decide) hw_5_214 rfl (v := .int (I_299 0 27)) rfl dX11_night0_58 ?_
                refine lv_icmp_eq (tgt := 67) hx hb dX11_night0_61 (by decide) (fun c_347 => ?_) (fun c_347 => ?_)
                · have t_c_347 := z_eqT c_347
                  refine lv_aload_n hx hb dX11_night0_67 rfl (lv_at hl 0 rfl) ?_
                  refine z_get hx hb ht hown hK hP ziX11 rfl 0 (by decide) 18 (by decide) hw_5_205 rfl (v := .ref (q 10)) rfl dX11_night0_68 ?_
                  refine lv_iload_n hx hb dX11_night0_71 rfl (lv_at hl 2 rfl) ?_
                  refine z_iald hx hb hK hP 10 (by decide) 9 rfl rfl (zR_vin f_306 (by decide)) dX11_night0_72 ?_
                  refine z_eqi (y := R_299 10 (x_298).toNatClampNeg) rfl ?_
                  have f_348 : zR 0 4 (R_299 10 (x_298).toNatClampNeg) := mR hI_299 10 (x_298).toNatClampNeg
                  refine lv_istore_n (lv' := [(3, .int (R_299 10 (x_298).toNatClampNeg)), (0, .ref (q 0)), (1, .int (x_297)), (2, .int (x_298))]) hx hb dX11_night0_73 rfl hl (by decide) rfl (fun ls hl => ?_)
                  refine lv_aload_n hx hb dX11_night0_74 rfl (lv_at hl 1 rfl) ?_
                  refine z_get hx hb ht hown hK hP ziX11 rfl 0 (by decide) 17 (by decide) hw_5_204 rfl (v := .ref (q 9)) rfl dX11_night0_75 ?_
                  refine lv_aload_n hx hb dX11_night0_78 rfl (lv_at hl 1 rfl) ?_
                  refine z_get hx hb ht hown hK hP ziX11 rfl 0 (by decide) 19 (by decide) hw_5_206 rfl (v := .ref (q 11)) rfl dX11_night0_79 ?_
                  refine lv_iload_n hx hb dX11_night0_82 rfl (lv_at hl 3 rfl) ?_
                  refine z_iald hx hb hK hP 11 (by decide) 10 rfl rfl (zR_vin f_306 (by decide)) dX11_night0_83 ?_
                  refine z_eqi (y := R_299 11 (x_298).toNatClampNeg) rfl ?_
                  have f_349 : zR 0 5 (R_299 11 (x_298).toNatClampNeg) := mR hI_299 11 (x_298).toNatClampNeg
                  refine z_iald hx hb hK hP 9 (by decide) 8 rfl rfl (zR_vin f_349 (by decide)) dX11_night0_84 ?_
                  refine z_eqi (y := R_299 9 (R_299 11 (x_298).toNatClampNeg).toNatClampNeg) rfl ?_
                  have f_350 : zR 0 4 (R_299 9 (R_299 11 (x_298).toNatClampNeg).toNatClampNeg) := mR hI_299 9 (R_299 11 (x_298).toNatClampNeg).toNatClampNeg
                  refine lv_iload_n hx hb dX11_night0_85 rfl (lv_at hl 0 rfl) ?_
                  refine lv_icmp_ne (tgt := 122) hx hb dX11_night0_86 (by decide) (fun c_351 => ?_) (fun c_351 => ?_)
                  · have t_c_351 := z_eqF c_351
                    refine lv_aload_n hx hb dX11_night0_122 rfl (lv_at hl 1 rfl) ?_
                    refine z_get hx hb ht hown hK hP ziX11 rfl 0 (by decide) 15 (by decide) hw_5_202 rfl (v := .ref (q 7)) rfl dX11_night0_123 ?_
                    refine lv_iload_n hx hb dX11_night0_126 rfl (lv_at hl 0 rfl) ?_
                    refine z_iald hx hb hK hP 7 (by decide) 6 rfl rfl (zR_vin f_348 (by decide)) dX11_night0_127 ?_
                    refine z_eqi (y := R_299 7 (R_299 10 (x_298).toNatClampNeg).toNatClampNeg) rfl ?_
                    refine lv_aload_n hx hb dX11_night0_128 rfl (lv_at hl 1 rfl) ?_
                    refine lv_iload_n hx hb dX11_night0_129 rfl (lv_at hl 3 rfl) ?_
                    refine z_callVi (k := 0) (As := [.int (x_298)]) (rest := [.int (R_299 7 (R_299 10 (x_298).toNatClampNeg).toNatClampNeg)]) hx hb hml hown ht (mk_X11_worthP_1 l D q cA F _ _ _ hI_299 (x_298) f_306) hw_6_206 hmX11_worthP ⟨rfl, rfl⟩ (na := 1) rfl (by decide +kernel) (by decide) (by decide) rfl rfl hK hP hD hS hA hl.1 rfl (Nat.le_of_ble_eq_true rfl) ⟨Nat.zero_le _, Nat.zero_le _⟩ dX11_night0_130 (fun r_352 I_352 R_352 J_352 H locs hp_352 hP hD hS _ _ => ?_)
                    cases hp_352
                    refine lv_icmp_lt (tgt := 162) hx hb dX11_night0_133 (by decide) (fun c_353 => ?_) (fun c_353 => ?_)
                    · have t_c_353 := z_ltT c_353
                      have f_354 : zR (-2147483648) 2147483646 (R_299 7 (R_299 10 (x_298).toNatClampNeg).toNatClampNeg) := zR_ltx t_c_353 (zR_any (R_299 7 (R_299 10 (x_298).toNatClampNeg).toNatClampNeg)) (zR_any (r_352)) (by decide)
                      have f_355 : zR (-2147483647) 2147483647 (r_352) := zR_lty t_c_353 (zR_any (R_299 7 (R_299 10 (x_298).toNatClampNeg).toNatClampNeg)) (zR_any (r_352)) (by decide)
                      refine lv_aload_n hx hb dX11_night0_162 rfl (lv_at hl 1 rfl) ?_
                      refine z_get hx hb ht hown hK hP ziX11 rfl 0 (by decide) 22 (by decide) hw_5_209 rfl (v := .ref (q 14)) rfl dX11_night0_163 ?_
                      refine lv_iload_n hx hb dX11_night0_166 rfl (lv_at hl 3 rfl) ?_
                      refine lv_iconst (v := nI 3) hx hb dX11_night0_167 (by decide +kernel) ?_
                      refine z_iast hx hb hK hP hD hS 14 (by decide) 13 (fun _ => rfl) rfl (zR_vin f_306 (by decide)) dX11_night0_168 (fun H locs hP hD hS => ?_)
                      have hI_356 := mInv_R hI_299 14 (x_298).toNatClampNeg (nI 3) (zR_any _) rfl
                      obtain ⟨v_357, ev_357⟩ : ∃ y : Int32, y = x_297 + nI 1 := ⟨_, rfl⟩
                      refine lv_iinc (v := v_357) (lv' := [(1, .int (v_357)), (3, .int (R_299 10 (x_298).toNatClampNeg)), (0, .ref (q 0)), (2, .int (x_298))]) hx hb dX11_night0_169 hl (k := 2) rfl (ev_357 ▸ rfl) (by decide) rfl (fun ls hl => ?_)
                      exact t_344 (v_357) _ _ hI_356 kf_300 _ _ hP hD hS _ (lv_sub hl [2, 0, 3] rfl)
                    · have t_c_353 := z_ltF c_353
                      refine lv_aload_n hx hb dX11_night0_136 rfl (lv_at hl 1 rfl) ?_
                      refine lv_iload_n hx hb dX11_night0_137 rfl (lv_at hl 0 rfl) ?_
                      refine lv_aload_n hx hb dX11_night0_138 rfl (lv_at hl 1 rfl) ?_
                      refine z_get hx hb ht hown hK hP ziX11 rfl 0 (by decide) 20 (by decide) hw_5_207 rfl (v := .ref (q 12)) rfl dX11_night0_139 ?_
                      refine lv_iload_n hx hb dX11_night0_142 rfl (lv_at hl 3 rfl) ?_
                      refine z_iald hx hb hK hP 12 (by decide) 11 rfl rfl (zR_vin f_306 (by decide)) dX11_night0_143 ?_
                      refine z_eqi (y := R_299 12 (x_298).toNatClampNeg) rfl ?_
                      have f_358 : zR 0 4 (R_299 12 (x_298).toNatClampNeg) := mR hI_299 12 (x_298).toNatClampNeg
                      refine lv_aload_n hx hb dX11_night0_144 rfl (lv_at hl 1 rfl) ?_
                      refine lv_iload_n hx hb dX11_night0_145 rfl (lv_at hl 3 rfl) ?_
                      refine z_callVi (k := 0) (As := [.int (x_298)]) (rest := [.int (R_299 12 (x_298).toNatClampNeg), .int (R_299 10 (x_298).toNatClampNeg), .ref (q 0)]) hx hb hml hown ht (mk_X11_worthP_1 l D q cA F _ _ _ hI_299 (x_298) f_306) hw_6_206 hmX11_worthP ⟨rfl, rfl⟩ (na := 1) rfl (by decide +kernel) (by decide) (by decide) rfl rfl hK hP hD hS hA hl.1 rfl (Nat.le_of_ble_eq_true rfl) ⟨Nat.zero_le _, Nat.zero_le _⟩ dX11_night0_146 (fun r_359 I_359 R_359 J_359 H locs hp_359 hP hD hS _ _ => ?_)
                      cases hp_359
                      refine z_callVv (k := 0) (As := [.int (R_299 10 (x_298).toNatClampNeg), .int (R_299 12 (x_298).toNatClampNeg), .int (r_359)]) (rest := []) hx hb hml hown ht (mk_X11_pay l D q cA F _ _ _ hI_299 (R_299 10 (x_298).toNatClampNeg) f_348 (R_299 12 (x_298).toNatClampNeg) f_358 (r_359)) hw_6_214 hmX11_pay ⟨rfl, rfl⟩ (na := 3) rfl (by decide +kernel) (by decide) (by decide) rfl rfl hK hP hD hS hA hl.1 rfl (Nat.le_of_ble_eq_true rfl) ⟨Nat.zero_le _, Nat.zero_le _⟩ dX11_night0_149 (fun I_360 R_360 J_360 H locs hp_360 hP hD hS _ _ => ?_)
                      obtain ⟨hv_360, hj_360, hk26_360⟩ := hp_360
                      try dsimp only at hj_360
                      subst J_360
                      refine lv_aload_n hx hb dX11_night0_152 rfl (lv_at hl 1 rfl) ?_
                      refine z_get hx hb ht hown hK hP ziX11 rfl 0 (by decide) 22 (by decide) hw_5_209 rfl (v := .ref (q 14)) rfl dX11_night0_153 ?_
                      refine lv_iload_n hx hb dX11_night0_156 rfl (lv_at hl 3 rfl) ?_
                      refine lv_iconst (v := nI 2) hx hb dX11_night0_157 (by decide +kernel) ?_
                      refine z_iast hx hb hK hP hD hS 14 (by decide) 13 (fun _ => rfl) rfl (zR_vin f_306 (by decide)) dX11_night0_158 (fun H locs hP hD hS => ?_)
                      have hI_361 := mInv_R hv_360 14 (x_298).toNatClampNeg (nI 2) (zR_any _) rfl
                      refine lv_goto (tgt := 172) hx hb dX11_night0_159 (by decide) ?_
                      exact t_344 (x_297) _ _ hI_361 (hk26_360.trans kf_300) _ _ hP hD hS _ (lv_sub hl [1, 2, 3] rfl)
                  · have t_c_351 := z_eqT c_351
                    refine lv_aload_n hx hb dX11_night0_89 rfl (lv_at hl 1 rfl) ?_
                    refine z_get hx hb ht hown hK hP ziX11 rfl 0 (by decide) 23 (by decide) hw_5_210 rfl (v := .ref (q 15)) rfl dX11_night0_90 ?_
                    refine lv_iload_n hx hb dX11_night0_93 rfl (lv_at hl 0 rfl) ?_
                    refine z_iald hx hb hK hP 15 (by decide) 14 rfl rfl (zR_vin f_348 (by decide)) dX11_night0_94 ?_
                    refine z_eqi (y := R_299 15 (R_299 10 (x_298).toNatClampNeg).toNatClampNeg) rfl ?_
                    refine lv_aload_n hx hb dX11_night0_95 rfl (lv_at hl 1 rfl) ?_
                    refine z_get hx hb ht hown hK hP ziX11 rfl 0 (by decide) 1 (by decide) hw_5_188 rfl (v := .ref (q 1)) rfl dX11_night0_96 ?_
                    refine lv_iconst (v := nI 1) hx hb dX11_night0_99 (by decide +kernel) ?_
                    refine z_iald hx hb hK hP 1 (by decide) 0 rfl rfl (zR_vin zk_1 (by decide)) dX11_night0_100 ?_
                    refine z_eqi (y := R_299 1 (nI 1).toNatClampNeg) rfl ?_
                    refine lv_icmp_ge (tgt := 122) hx hb dX11_night0_101 (by decide) (fun c_362 => ?_) (fun c_362 => ?_)
                    · have t_c_362 := z_leT c_362
                      refine lv_aload_n hx hb dX11_night0_122 rfl (lv_at hl 1 rfl) ?_
                      refine z_get hx hb ht hown hK hP ziX11 rfl 0 (by decide) 15 (by decide) hw_5_202 rfl (v := .ref (q 7)) rfl dX11_night0_123 ?_
                      refine lv_iload_n hx hb dX11_night0_126 rfl (lv_at hl 0 rfl) ?_
                      refine z_iald hx hb hK hP 7 (by decide) 6 rfl rfl (zR_vin f_348 (by decide)) dX11_night0_127 ?_
                      refine z_eqi (y := R_299 7 (R_299 10 (x_298).toNatClampNeg).toNatClampNeg) rfl ?_
                      refine lv_aload_n hx hb dX11_night0_128 rfl (lv_at hl 1 rfl) ?_
                      refine lv_iload_n hx hb dX11_night0_129 rfl (lv_at hl 3 rfl) ?_
                      refine z_callVi (k := 0) (As := [.int (x_298)]) (rest := [.int (R_299 7 (R_299 10 (x_298).toNatClampNeg).toNatClampNeg)]) hx hb hml hown ht (mk_X11_worthP_1 l D q cA F _ _ _ hI_299 (x_298) f_306) hw_6_206 hmX11_worthP ⟨rfl, rfl⟩ (na := 1) rfl (by decide +kernel) (by decide) (by decide) rfl rfl hK hP hD hS hA hl.1 rfl (Nat.le_of_ble_eq_true rfl) ⟨Nat.zero_le _, Nat.zero_le _⟩ dX11_night0_130 (fun r_363 I_363 R_363 J_363 H locs hp_363 hP hD hS _ _ => ?_)
                      cases hp_363
                      refine lv_icmp_lt (tgt := 162) hx hb dX11_night0_133 (by decide) (fun c_364 => ?_) (fun c_364 => ?_)
                      · have t_c_364 := z_ltT c_364
                        have f_365 : zR (-2147483648) 2147483646 (R_299 7 (R_299 10 (x_298).toNatClampNeg).toNatClampNeg) := zR_ltx t_c_364 (zR_any (R_299 7 (R_299 10 (x_298).toNatClampNeg).toNatClampNeg)) (zR_any (r_363)) (by decide)
                        have f_366 : zR (-2147483647) 2147483647 (r_363) := zR_lty t_c_364 (zR_any (R_299 7 (R_299 10 (x_298).toNatClampNeg).toNatClampNeg)) (zR_any (r_363)) (by decide)
                        refine lv_aload_n hx hb dX11_night0_162 rfl (lv_at hl 1 rfl) ?_
                        refine z_get hx hb ht hown hK hP ziX11 rfl 0 (by decide) 22 (by decide) hw_5_209 rfl (v := .ref (q 14)) rfl dX11_night0_163 ?_
                        refine lv_iload_n hx hb dX11_night0_166 rfl (lv_at hl 3 rfl) ?_
                        refine lv_iconst (v := nI 3) hx hb dX11_night0_167 (by decide +kernel) ?_
                        refine z_iast hx hb hK hP hD hS 14 (by decide) 13 (fun _ => rfl) rfl (zR_vin f_306 (by decide)) dX11_night0_168 (fun H locs hP hD hS => ?_)
                        have hI_367 := mInv_R hI_299 14 (x_298).toNatClampNeg (nI 3) (zR_any _) rfl
                        obtain ⟨v_368, ev_368⟩ : ∃ y : Int32, y = x_297 + nI 1 := ⟨_, rfl⟩
                        refine lv_iinc (v := v_368) (lv' := [(1, .int (v_368)), (3, .int (R_299 10 (x_298).toNatClampNeg)), (0, .ref (q 0)), (2, .int (x_298))]) hx hb dX11_night0_169 hl (k := 2) rfl (ev_368 ▸ rfl) (by decide) rfl (fun ls hl => ?_)
                        exact t_344 (v_368) _ _ hI_367 kf_300 _ _ hP hD hS _ (lv_sub hl [2, 0, 3] rfl)
                      · have t_c_364 := z_ltF c_364
                        refine lv_aload_n hx hb dX11_night0_136 rfl (lv_at hl 1 rfl) ?_
                        refine lv_iload_n hx hb dX11_night0_137 rfl (lv_at hl 0 rfl) ?_
                        refine lv_aload_n hx hb dX11_night0_138 rfl (lv_at hl 1 rfl) ?_
                        refine z_get hx hb ht hown hK hP ziX11 rfl 0 (by decide) 20 (by decide) hw_5_207 rfl (v := .ref (q 12)) rfl dX11_night0_139 ?_
                        refine lv_iload_n hx hb dX11_night0_142 rfl (lv_at hl 3 rfl) ?_
                        refine z_iald hx hb hK hP 12 (by decide) 11 rfl rfl (zR_vin f_306 (by decide)) dX11_night0_143 ?_
                        refine z_eqi (y := R_299 12 (x_298).toNatClampNeg) rfl ?_
                        have f_369 : zR 0 4 (R_299 12 (x_298).toNatClampNeg) := mR hI_299 12 (x_298).toNatClampNeg
                        refine lv_aload_n hx hb dX11_night0_144 rfl (lv_at hl 1 rfl) ?_
                        refine lv_iload_n hx hb dX11_night0_145 rfl (lv_at hl 3 rfl) ?_
                        refine z_callVi (k := 0) (As := [.int (x_298)]) (rest := [.int (R_299 12 (x_298).toNatClampNeg), .int (R_299 10 (x_298).toNatClampNeg), .ref (q 0)]) hx hb hml hown ht (mk_X11_worthP_1 l D q cA F _ _ _ hI_299 (x_298) f_306) hw_6_206 hmX11_worthP ⟨rfl, rfl⟩ (na := 1) rfl (by decide +kernel) (by decide) (by decide) rfl rfl hK hP hD hS hA hl.1 rfl (Nat.le_of_ble_eq_true rfl) ⟨Nat.zero_le _, Nat.zero_le _⟩ dX11_night0_146 (fun r_370 I_370 R_370 J_370 H locs hp_370 hP hD hS _ _ => ?_)
                        cases hp_370
                        refine z_callVv (k := 0) (As := [.int (R_299 10 (x_298).toNatClampNeg), .int (R_299 12 (x_298).toNatClampNeg), .int (r_370)]) (rest := []) hx hb hml hown ht (mk_X11_pay l D q cA F _ _ _ hI_299 (R_299 10 (x_298).toNatClampNeg) f_348 (R_299 12 (x_298).toNatClampNeg) f_369 (r_370)) hw_6_214 hmX11_pay ⟨rfl, rfl⟩ (na := 3) rfl (by decide +kernel) (by decide) (by decide) rfl rfl hK hP hD hS hA hl.1 rfl (Nat.le_of_ble_eq_true rfl) ⟨Nat.zero_le _, Nat.zero_le _⟩ dX11_night0_149 (fun I_371 R_371 J_371 H locs hp_371 hP hD hS _ _ => ?_)
                        obtain ⟨hv_371, hj_371, hk26_371⟩ := hp_371
                        try dsimp only at hj_371
                        subst J_371
                        refine lv_aload_n hx hb dX11_night0_152 rfl (lv_at hl 1 rfl) ?_
                        refine z_get hx hb ht hown hK hP ziX11 rfl 0 (by decide) 22 (by decide) hw_5_209 rfl (v := .ref (q 14)) rfl dX11_night0_153 ?_
                        refine lv_iload_n hx hb dX11_night0_156 rfl (lv_at hl 3 rfl) ?_
                        refine lv_iconst (v := nI 2) hx hb dX11_night0_157 (by decide +kernel) ?_
                        refine z_iast hx hb hK hP hD hS 14 (by decide) 13 (fun _ => rfl) rfl (zR_vin f_306 (by decide)) dX11_night0_158 (fun H locs hP hD hS => ?_)
                        have hI_372 := mInv_R hv_371 14 (x_298).toNatClampNeg (nI 2) (zR_any _) rfl
                        refine lv_goto (tgt := 172) hx hb dX11_night0_159 (by decide) ?_
                        exact t_344 (x_297) _ _ hI_372 (hk26_371.trans kf_300) _ _ hP hD hS _ (lv_sub hl [1, 2, 3] rfl)
                    · have t_c_362 := z_leF c_362
                      have f_373 : zR (-2147483648) 2147483646 (R_299 15 (R_299 10 (x_298).toNatClampNeg).toNatClampNeg) := zR_ltx t_c_362 (zR_any (R_299 15 (R_299 10 (x_298).toNatClampNeg).toNatClampNeg)) (zR_any (R_299 1 (nI 1).toNatClampNeg)) (by decide)
                      have f_374 : zR (-2147483647) 2147483647 (R_299 1 (nI 1).toNatClampNeg) := zR_lty t_c_362 (zR_any (R_299 15 (R_299 10 (x_298).toNatClampNeg).toNatClampNeg)) (zR_any (R_299 1 (nI 1).toNatClampNeg)) (by decide)
                      refine lv_aload_n hx hb dX11_night0_104 rfl (lv_at hl 1 rfl) ?_
                      refine z_get hx hb ht hown hK hP ziX11 rfl 0 (by decide) 23 (by decide) hw_5_210 rfl (v := .ref (q 15)) rfl dX11_night0_105 ?_
                      refine lv_iload_n hx hb dX11_night0_108 rfl (lv_at hl 0 rfl) ?_
                      refine lv_dup2_11 hx hb dX11_night0_109 rfl rfl ?_
                      refine z_iald hx hb hK hP 15 (by decide) 14 rfl rfl (zR_vin f_348 (by decide)) dX11_night0_110 ?_
                      refine z_eqi (y := R_299 15 (R_299 10 (x_298).toNatClampNeg).toNatClampNeg) rfl ?_
                      refine lv_iconst (v := nI 1) hx hb dX11_night0_111 (by decide +kernel) ?_
                      refine lv_iadd hx hb dX11_night0_112 ?_
                      refine z_addc (-2147483647) 2147483647 f_373 zk_1 (by decide) (fun v_375 hv_375 mv_375 => ?_)
                      refine z_iast hx hb hK hP hD hS 15 (by decide) 14 (fun _ => rfl) rfl (zR_vin f_348 (by decide)) dX11_night0_113 (fun H locs hP hD hS => ?_)
                      have hI_376 := mInv_R hI_299 15 (R_299 10 (x_298).toNatClampNeg).toNatClampNeg (v_375) (zR_any _) rfl
                      refine lv_aload_n hx hb dX11_night0_114 rfl (lv_at hl 1 rfl) ?_
                      refine lv_iload_n hx hb dX11_night0_115 rfl (lv_at hl 3 rfl) ?_
                      refine z_callVv (k := 0) (As := [.int (x_298)]) (rest := []) hx hb hml hown ht (mk_X11_bring0_1 l D q cA F _ _ _ hI_376 (x_298) f_306) hw_6_218 hmX11_bring0 ⟨rfl, rfl⟩ (na := 1) rfl (by decide +kernel) (by decide) (by decide) rfl rfl hK hP hD hS hA hl.1 rfl (Nat.le_of_ble_eq_true rfl) ⟨Nat.zero_le _, Nat.zero_le _⟩ dX11_night0_116 (fun I_377 R_377 J_377 H locs hp_377 hP hD hS _ _ => ?_)
                      obtain ⟨hv_377, hj_377, hk26_377⟩ := hp_377
                      try dsimp only at hj_377
                      subst J_377
                      refine lv_goto (tgt := 172) hx hb dX11_night0_119 (by decide) ?_
                      exact t_344 (x_297) _ _ hv_377 (hk26_377.trans kf_300) _ _ hP hD hS _ (lv_sub hl [1, 2, 3] rfl)
                · have t_c_347 := z_eqF c_347
                  refine lv_goto (tgt := 172) hx hb dX11_night0_64 (by decide) ?_
                  exact t_344 (x_297) _ _ hI_299 kf_300 _ _ hP hD hS _ (lv_sub hl [0, 1, 2] rfl)
        exact loop_301 _ (nI 0) (nI 0) (zR_w zk_0 (by decide)) _ _ hI_23 rfl (Nat.lt_succ_self _) _ _ hP hD hS _ (lv_sub hl [1, 2, 0] rfl)
      · have t_c_27 := z_leF c_27
        have f_378 : zR 0 4 (x_22) := zR_ltx t_c_27 hx_22 zk_5 (by decide)
        refine lv_aload_n hx hb dX11_night0_19 rfl (lv_at hl 0 rfl) ?_
        refine z_get hx hb ht hown hK hP ziX11 rfl 0 (by decide) 23 (by decide) hw_5_210 rfl (v := .ref (q 15)) rfl dX11_night0_20 ?_
        refine lv_iload_n hx hb dX11_night0_23 rfl (lv_at hl 2 rfl) ?_
        refine lv_iconst (v := nI 0) hx hb dX11_night0_24 (by decide +kernel) ?_
        refine z_iast hx hb hK hP hD hS 15 (by decide) 14 (fun _ => rfl) rfl (zR_vin f_378 (by decide)) dX11_night0_25 (fun H locs hP hD hS => ?_)
        have hI_379 := mInv_R hI_23 15 (x_22).toNatClampNeg (nI 0) (zR_any _) rfl
        obtain ⟨v_380, ev_380⟩ : ∃ y : Int32, y = x_22 + nI 1 := ⟨_, rfl⟩
        have hv_380 : zR 1 5 v_380 := ev_380 ▸ zR_add f_378 zk_1 (by decide)
        have mv_380 : v_380.toInt = (x_22).toInt + 1 := by rw [ev_380, zR_addE f_378 zk_1 (by decide)]; rfl
        refine lv_iinc (v := v_380) (lv' := [(2, .int (v_380)), (0, .ref (q 0)), (1, .int (nI 0))]) hx hb dX11_night0_26 hl (k := 2) rfl (ev_380 ▸ rfl) (by decide) rfl (fun ls hl => ?_)
        refine lv_goto (tgt := 14) hx hb dX11_night0_29 (by decide) ?_
        exact ih_26 (v_380) (zR_w hv_380 (by decide)) _ hI_379 (z2_up mv_380 (by decide) hN_25) _ _ hP hD hS _ (lv_sub hl [1, 2, 0] rfl)
  exact loop_24 _ (nI 0) (zR_w zk_0 (by decide)) _ hI_2 (Nat.lt_succ_self _) _ _ hP hD hS _ (lv_sub hl [2, 1, 0] rfl)
set_option maxHeartbeats 4000000 in
set_option maxRecDepth 100000 in
theorem mk_X11_steal0 (l : Launch) (D : va_G) (q : Nat → Nat) (cA : Nat → ClassId) (F : Nat → Nat → Int32) (I R : Nat → Nat → Int32) (J : Nat → Nat → Int64) (hI : mInv F (I, R, J)) (pa0 : Int32) (hpa0 : zR 0 4 pa0) (pa1 : Int32) (hpa1 : zR 0 5 pa1) (pa2 : Int32) (hp : zR 0 23 (I 0 26)) : zMv l D vwCl (zMtys cA) 25 q (zMd q cA) yX11_steal0 cX11_steal0 4 none ({ frames := 1, cells := 0, slots := 0, locals := 22 } : Room) [.ref (q 0), .int (pa0), .int (pa1), .int (pa2)] (I, R, J) (fun u => mInv F u ∧ u.2.2 = J ∧ (u.1 0 26).toInt = (I 0 26).toInt + 1) := by
  intro sz
  refine z_body (by decide +kernel) (Nat.le_of_ble_eq_true rfl) (fun p e s m below meth c ls hx hb hml hr ht hown hlocks hsz hK hP hD hS hl => ?_)
  have hA : ∀ a, s.heap.size ≤ a → zA 25 q sz a := fun a h => Or.inr (hsz ▸ h)
  have hl : lv_has ls 4 [(0, .ref (q 0)), (1, .int (pa0)), (2, .int (pa1)), (3, .int (pa2))] := hl
  refine lv_aload_n hx hb dX11_steal0_0 rfl (lv_at hl 0 rfl) ?_
  refine z_get hx hb ht hown hK hP ziX11 rfl 0 (by decide) 18 (by decide) hw_5_205 rfl (v := .ref (q 10)) rfl dX11_steal0_1 ?_
  refine lv_aload_n hx hb dX11_steal0_4 rfl (lv_at hl 0 rfl) ?_
  refine z_get hx hb ht hown hK hP ziX11 rfl 0 (by decide) 26 (by decide) hw_5_213 rfl (v := .int (I 0 26)) rfl dX11_steal0_5 ?_
  refine lv_iload_n hx hb dX11_steal0_8 rfl (lv_at hl 1 rfl) ?_
  refine z_iast hx hb hK hP hD hS 10 (by decide) 9 (fun _ => rfl) rfl (zR_vin hp (by decide)) dX11_steal0_9 (fun H locs hP hD hS => ?_)
  have hI_1 := mInv_R hI 10 (I 0 26).toNatClampNeg (pa0) hpa0 rfl
  refine lv_aload_n hx hb dX11_steal0_10 rfl (lv_at hl 0 rfl) ?_
  refine z_get hx hb ht hown hK hP ziX11 rfl 0 (by decide) 19 (by decide) hw_5_206 rfl (v := .ref (q 11)) rfl dX11_steal0_11 ?_
  refine lv_aload_n hx hb dX11_steal0_14 rfl (lv_at hl 0 rfl) ?_
  refine z_get hx hb ht hown hK hP ziX11 rfl 0 (by decide) 26 (by decide) hw_5_213 rfl (v := .int (I 0 26)) rfl dX11_steal0_15 ?_
  refine lv_iload_n hx hb dX11_steal0_18 rfl (lv_at hl 2 rfl) ?_
  refine z_iast hx hb hK hP hD hS 11 (by decide) 10 (fun _ => rfl) rfl (zR_vin hp (by decide)) dX11_steal0_19 (fun H locs hP hD hS => ?_)
  have hI_2 := mInv_R hI_1 11 (I 0 26).toNatClampNeg (pa1) hpa1 rfl
  refine lv_aload_n hx hb dX11_steal0_20 rfl (lv_at hl 0 rfl) ?_
  refine z_get hx hb ht hown hK hP ziX11 rfl 0 (by decide) 20 (by decide) hw_5_207 rfl (v := .ref (q 12)) rfl dX11_steal0_21 ?_
  refine lv_aload_n hx hb dX11_steal0_24 rfl (lv_at hl 0 rfl) ?_
  refine z_get hx hb ht hown hK hP ziX11 rfl 0 (by decide) 26 (by decide) hw_5_213 rfl (v := .int (I 0 26)) rfl dX11_steal0_25 ?_
  refine lv_aload_n hx hb dX11_steal0_28 rfl (lv_at hl 0 rfl) ?_
  refine z_get hx hb ht hown hK hP ziX11 rfl 0 (by decide) 17 (by decide) hw_5_204 rfl (v := .ref (q 9)) rfl dX11_steal0_29 ?_
  refine lv_iload_n hx hb dX11_steal0_32 rfl (lv_at hl 2 rfl) ?_
  refine z_iald hx hb hK hP 9 (by decide) 8 rfl rfl (zR_vin hpa1 (by decide)) dX11_steal0_33 ?_
  refine z_eqi (y := R 9 (pa1).toNatClampNeg) rfl ?_
  have f_3 : zR 0 4 (R 9 (pa1).toNatClampNeg) := mR hI 9 (pa1).toNatClampNeg
  refine z_iast hx hb hK hP hD hS 12 (by decide) 11 (fun _ => rfl) rfl (zR_vin hp (by decide)) dX11_steal0_34 (fun H locs hP hD hS => ?_)
  have hI_4 := mInv_R hI_2 12 (I 0 26).toNatClampNeg (R 9 (pa1).toNatClampNeg) f_3 rfl
  refine lv_aload_n hx hb dX11_steal0_35 rfl (lv_at hl 0 rfl) ?_
  refine z_get hx hb ht hown hK hP ziX11 rfl 0 (by decide) 21 (by decide) hw_5_208 rfl (v := .ref (q 13)) rfl dX11_steal0_36 ?_
  refine lv_aload_n hx hb dX11_steal0_39 rfl (lv_at hl 0 rfl) ?_
  refine z_get hx hb ht hown hK hP ziX11 rfl 0 (by decide) 26 (by decide) hw_5_213 rfl (v := .int (I 0 26)) rfl dX11_steal0_40 ?_
  refine lv_iload_n hx hb dX11_steal0_43 rfl (lv_at hl 3 rfl) ?_
  refine z_iast hx hb hK hP hD hS 13 (by decide) 12 (fun _ => rfl) rfl (zR_vin hp (by decide)) dX11_steal0_44 (fun H locs hP hD hS => ?_)
  have hI_5 := mInv_R hI_4 13 (I 0 26).toNatClampNeg (pa2) (zR_any _) rfl
  refine lv_aload_n hx hb dX11_steal0_45 rfl (lv_at hl 0 rfl) ?_
  refine z_get hx hb ht hown hK hP ziX11 rfl 0 (by decide) 22 (by decide) hw_5_209 rfl (v := .ref (q 14)) rfl dX11_steal0_46 ?_
  refine lv_aload_n hx hb dX11_steal0_49 rfl (lv_at hl 0 rfl) ?_
  refine z_get hx hb ht hown hK hP ziX11 rfl 0 (by decide) 26 (by decide) hw_5_213 rfl (v := .int (I 0 26)) rfl dX11_steal0_50 ?_
  refine lv_iconst (v := nI 0) hx hb dX11_steal0_53 (by decide +kernel) ?_
  refine z_iast hx hb hK hP hD hS 14 (by decide) 13 (fun _ => rfl) rfl (zR_vin hp (by decide)) dX11_steal0_54 (fun H locs hP hD hS => ?_)
  have hI_6 := mInv_R hI_5 14 (I 0 26).toNatClampNeg (nI 0) (zR_any _) rfl
  refine lv_aload_n hx hb dX11_steal0_55 rfl (lv_at hl 0 rfl) ?_
  refine lv_dup hx hb dX11_steal0_56 rfl ?_
  refine z_get hx hb ht hown hK hP ziX11 rfl 0 (by decide) 26 (by decide) hw_5_213 rfl (v := .int (I 0 26)) rfl dX11_steal0_57 ?_
  refine lv_iconst (v := nI 1) hx hb dX11_steal0_60 (by decide +kernel) ?_
  refine lv_iadd hx hb dX11_steal0_61 ?_
  refine z_addc 1 24 hp zk_1 (by decide) (fun v_7 hv_7 mv_7 => ?_)
  refine z_putI hx hb ht hown hK hP hD hS ziX11 tyX11 tyX11_ok nmX11 rfl 0 (by decide) 26 (by decide) hw_5_213 rfl (v := v_7) rfl rfl rfl (Nat.le_of_ble_eq_true rfl) rfl dX11_steal0_62 (fun H locs hP hD hS => ?_)
  have hI_8 := mInv_I hI_6 0 26 (v_7) (zR_w hv_7 (by decide)) rfl
  refine lv_aload_n hx hb dX11_steal0_65 rfl (lv_at hl 0 rfl) ?_
  refine lv_iload_n hx hb dX11_steal0_66 rfl (lv_at hl 2 rfl) ?_
  refine lv_iload_n hx hb dX11_steal0_67 rfl (lv_at hl 1 rfl) ?_
  refine z_callVv (k := 0) (As := [.int (pa1), .int (pa0)]) (rest := []) hx hb hml hown ht (mk_X11_goTo l D q cA F _ _ _ hI_8 (pa1) hpa1 (pa0) hpa0) hw_6_194 hmX11_goTo ⟨rfl, rfl⟩ (na := 2) rfl (by decide +kernel) (by decide) (by decide) rfl rfl hK hP hD hS hA hl.1 rfl (Nat.le_of_ble_eq_true rfl) ⟨Nat.zero_le _, Nat.zero_le _⟩ dX11_steal0_68 (fun I_9 R_9 J_9 H locs hp_9 hP hD hS _ _ => ?_)
  obtain ⟨hv_9, hj_9, hk26_9⟩ := hp_9
  try dsimp only at hj_9
  subst J_9
  exact z_vret hx hb hr hlocks hP hD hS dX11_steal0_71 ⟨hv_9, rfl, (congrArg Int32.toInt hk26_9).trans mv_7⟩
set_option maxHeartbeats 4000000 in
set_option maxRecDepth 100000 in
theorem mk_X11_priceOf (l : Launch) (D : va_G) (q : Nat → Nat) (cA : Nat → ClassId) (F : Nat → Nat → Int32) (I R : Nat → Nat → Int32) (J : Nat → Nat → Int64) (hI : mInv F (I, R, J)) (pa0 : Int32) (hpa0 : zR 0 23 pa0) : zMi l D vwCl (zMtys cA) 25 q (zMd q cA) yX11_priceOf cX11_priceOf 4 (some .int) ({ frames := 2, cells := 0, slots := 0, locals := 42 } : Room) [.ref (q 0), .int (pa0)] (I, R, J) (fun _ u => u = (I, R, J)) := by
  intro sz
  refine z_body (by decide +kernel) (Nat.le_of_ble_eq_true rfl) (fun p e s m below meth c ls hx hb hml hr ht hown hlocks hsz hK hP hD hS hl => ?_)
  have hA : ∀ a, s.heap.size ≤ a → zA 25 q sz a := fun a h => Or.inr (hsz ▸ h)
  have hl : lv_has ls 4 [(0, .ref (q 0)), (1, .int (pa0))] := hl
  refine lv_aload_n hx hb dX11_priceOf_0 rfl (lv_at hl 0 rfl) ?_
  refine lv_iload_n hx hb dX11_priceOf_1 rfl (lv_at hl 1 rfl) ?_
  refine z_callVi (k := 0) (As := [.int (pa0)]) (rest := []) hx hb hml hown ht (mk_X11_worthP_1 l D q cA F _ _ _ hI (pa0) hpa0) hw_6_206 hmX11_worthP ⟨rfl, rfl⟩ (na := 1) rfl (by decide +kernel) (by decide) (by decide) rfl rfl hK hP hD hS hA hl.1 rfl (Nat.le_of_ble_eq_true rfl) ⟨Nat.zero_le _, Nat.zero_le _⟩ dX11_priceOf_2 (fun r_1 I_1 R_1 J_1 H locs hp_1 hP hD hS _ _ => ?_)
  cases hp_1
  refine lv_istore_n (lv' := [(2, .int (r_1)), (0, .ref (q 0)), (1, .int (pa0))]) hx hb dX11_priceOf_5 rfl hl (by decide) rfl (fun ls hl => ?_)
  refine lv_aload_n hx hb dX11_priceOf_6 rfl (lv_at hl 1 rfl) ?_
  refine z_get hx hb ht hown hK hP ziX11 rfl 0 (by decide) 27 (by decide) hw_5_214 rfl (v := .int (I 0 27)) rfl dX11_priceOf_7 ?_
  refine lv_istore_n (lv' := [(3, .int (I 0 27)), (2, .int (r_1)), (0, .ref (q 0)), (1, .int (pa0))]) hx hb dX11_priceOf_10 rfl hl (by decide) rfl (fun ls hl => ?_)
  have loop_20 : ∀ N : Nat, ∀ x_18 : Int32, ∀ x_19 : Int32, (2147483648 - (x_19).toInt).toNat < N → ∀ (H : Heap) (locs : List Loc), va_P D vwCl (zw 25 q (zMd q cA) I R J) H → va_D (zA 25 q sz) (zw 25 q (zMd q cA) I R J) → va_S (zA 25 q sz) s.heap H locs → ∀ ls : Array Slot, lv_has ls 4 [(0, .ref (q 0)), (1, .int (pa0)), (2, .int (x_18)), (3, .int (x_19))] → W p l e ({ frames := 2, cells := 0, slots := 0, locals := 42 } : Room) s m ([.ref (q 0), .int (pa0)] : List Value).toArray below meth c H locs 0 0 (MQ below (va_Qi (fun _ u => u = (I, R, J)) (zB D vwCl 25 q (zMd q cA) sz) (zA 25 q sz)) ([.ref (q 0), .int (pa0)] : List Value).toArray s 0 0 (zA 25 q sz)) (F0 m 11 ls []) := by
    intro N
    induction N with
    | zero => intro x_18 x_19 hN; exact absurd hN (Nat.not_lt_zero _)
    | succ N ih_22 =>
      intro x_18 x_19 hN_21 H locs hP hD hS ls hl
      refine lv_iload_n hx hb dX11_priceOf_11 rfl (lv_at hl 3 rfl) ?_
      refine lv_aload_n hx hb dX11_priceOf_12 rfl (lv_at hl 0 rfl) ?_
      refine z_get hx hb ht hown hK hP ziX11 rfl 0 (by decide) 21 (by decide) hw_5_208 rfl (v := .ref (q 13)) rfl dX11_priceOf_13 ?_
      refine lv_iload_n hx hb dX11_priceOf_16 rfl (lv_at hl 1 rfl) ?_
      refine z_iald hx hb hK hP 13 (by decide) 12 rfl rfl (zR_vin hpa0 (by decide)) dX11_priceOf_17 ?_
      refine z_eqi (y := R 13 (pa0).toNatClampNeg) rfl ?_
      refine lv_icmp_ge (tgt := 42) hx hb dX11_priceOf_18 (by decide) (fun c_23 => ?_) (fun c_23 => ?_)
      · have t_c_23 := z_leT c_23
        refine lv_iload_n hx hb dX11_priceOf_42 rfl (lv_at hl 2 rfl) ?_
        exact z_iret (v := x_18) hx hb hr hlocks hP hD hS dX11_priceOf_43 rfl
      · have t_c_23 := z_leF c_23
        have f_24 : zR (-2147483648) 2147483646 (x_19) := zR_ltx t_c_23 (zR_any (x_19)) (zR_any (R 13 (pa0).toNatClampNeg)) (by decide)
        have f_25 : zR (-2147483647) 2147483647 (R 13 (pa0).toNatClampNeg) := zR_lty t_c_23 (zR_any (x_19)) (zR_any (R 13 (pa0).toNatClampNeg)) (by decide)
        refine lv_iload_n hx hb dX11_priceOf_21 rfl (lv_at hl 2 rfl) ?_
        refine lv_bipush (v := nI 100) hx hb dX11_priceOf_22 (by decide +kernel) ?_
        refine lv_aload_n hx hb dX11_priceOf_24 rfl (lv_at hl 0 rfl) ?_
        refine z_get hx hb ht hown hK hP ziX11 rfl 0 (by decide) 1 (by decide) hw_5_188 rfl (v := .ref (q 1)) rfl dX11_priceOf_25 ?_
        refine lv_iconst (v := nI 0) hx hb dX11_priceOf_28 (by decide +kernel) ?_
        refine z_iald hx hb hK hP 1 (by decide) 0 rfl rfl (zR_vin zk_0 (by decide)) dX11_priceOf_29 ?_
        refine z_eqi (y := R 1 (nI 0).toNatClampNeg) rfl ?_
        refine lv_isub hx hb dX11_priceOf_30 ?_
        refine z_any (fun v_26 => ?_)
        refine lv_imul hx hb dX11_priceOf_31 ?_
        refine z_any (fun v_27 => ?_)
        refine lv_bipush (v := nI 100) hx hb dX11_priceOf_32 (by decide +kernel) ?_
        refine lv_idiv hx hb dX11_priceOf_34 (by decide +kernel) ?_
        refine z_any (fun v_28 => ?_)
        refine lv_istore_n (lv' := [(2, .int (v_28)), (0, .ref (q 0)), (1, .int (pa0)), (3, .int (x_19))]) hx hb dX11_priceOf_35 rfl hl (by decide) rfl (fun ls hl => ?_)
        obtain ⟨v_29, ev_29⟩ : ∃ y : Int32, y = x_19 + nI 1 := ⟨_, rfl⟩
        have hv_29 : zR (-2147483647) 2147483647 v_29 := ev_29 ▸ zR_add f_24 zk_1 (by decide)
        have mv_29 : v_29.toInt = (x_19).toInt + 1 := by rw [ev_29, zR_addE f_24 zk_1 (by decide)]; rfl
        refine lv_iinc (v := v_29) (lv' := [(3, .int (v_29)), (2, .int (v_28)), (0, .ref (q 0)), (1, .int (pa0))]) hx hb dX11_priceOf_36 hl (k := 3) rfl (ev_29 ▸ rfl) (by decide) rfl (fun ls hl => ?_)
        refine lv_goto (tgt := 11) hx hb dX11_priceOf_39 (by decide) ?_
        exact ih_22 (v_28) (v_29) (z2_up mv_29 (by decide) hN_21) _ _ hP hD hS _ (lv_sub hl [2, 3, 1, 0] rfl)
  exact loop_20 _ (r_1) (I 0 27) (Nat.lt_succ_self _) _ _ hP hD hS _ (lv_sub hl [2, 3, 1, 0] rfl)
set_option maxHeartbeats 4000000 in
set_option maxRecDepth 100000 in
theorem mk_X11_sell0 (l : Launch) (D : va_G) (q : Nat → Nat) (cA : Nat → ClassId) (F : Nat → Nat → Int32) (I R : Nat → Nat → Int32) (J : Nat → Nat → Int64) (hI : mInv F (I, R, J)) (pa0 : Int32) (hpa0 : zR 0 23 pa0) (pa1 : Int32) (hpa1 : zR 0 4 pa1) : zMv l D vwCl (zMtys cA) 25 q (zMd q cA) yX11_sell0 cX11_sell0 3 none ({ frames := 3, cells := 0, slots := 0, locals := 87 } : Room) [.ref (q 0), .int (pa0), .int (pa1)] (I, R, J) (fun u => (mInv F u ∧ u.2.2 = J ∧ u.1 0 26 = I 0 26)) := by
  intro sz
  refine z_body (by decide +kernel) (Nat.le_of_ble_eq_true rfl) (fun p e s m below meth c ls hx hb hml hr ht hown hlocks hsz hK hP hD hS hl => ?_)
  have hA : ∀ a, s.heap.size ≤ a → zA 25 q sz a := fun a h => Or.inr (hsz ▸ h)
  have hl : lv_has ls 3 [(0, .ref (q 0)), (1, .int (pa0)), (2, .int (pa1))] := hl
  refine lv_aload_n hx hb dX11_sell0_0 rfl (lv_at hl 0 rfl) ?_
  refine lv_iload_n hx hb dX11_sell0_1 rfl (lv_at hl 2 rfl) ?_
  refine lv_aload_n hx hb dX11_sell0_2 rfl (lv_at hl 0 rfl) ?_
  refine z_get hx hb ht hown hK hP ziX11 rfl 0 (by decide) 20 (by decide) hw_5_207 rfl (v := .ref (q 12)) rfl dX11_sell0_3 ?_
  refine lv_iload_n hx hb dX11_sell0_6 rfl (lv_at hl 1 rfl) ?_
  refine z_iald hx hb hK hP 12 (by decide) 11 rfl rfl (zR_vin hpa0 (by decide)) dX11_sell0_7 ?_
  refine z_eqi (y := R 12 (pa0).toNatClampNeg) rfl ?_
  have f_1 : zR 0 4 (R 12 (pa0).toNatClampNeg) := mR hI 12 (pa0).toNatClampNeg
  refine lv_aload_n hx hb dX11_sell0_8 rfl (lv_at hl 0 rfl) ?_
  refine lv_iload_n hx hb dX11_sell0_9 rfl (lv_at hl 1 rfl) ?_
  refine z_callVi (k := 0) (As := [.int (pa0)]) (rest := [.int (R 12 (pa0).toNatClampNeg), .int (pa1), .ref (q 0)]) hx hb hml hown ht (mk_X11_priceOf l D q cA F _ _ _ hI (pa0) hpa0) hw_6_202 hmX11_priceOf ⟨rfl, rfl⟩ (na := 1) rfl (by decide +kernel) (by decide) (by decide) rfl rfl hK hP hD hS hA hl.1 rfl (Nat.le_of_ble_eq_true rfl) ⟨Nat.zero_le _, Nat.zero_le _⟩ dX11_sell0_10 (fun r_2 I_2 R_2 J_2 H locs hp_2 hP hD hS _ _ => ?_)
  cases hp_2
  refine z_callVv (k := 0) (As := [.int (pa1), .int (R 12 (pa0).toNatClampNeg), .int (r_2)]) (rest := []) hx hb hml hown ht (mk_X11_pay l D q cA F _ _ _ hI (pa1) hpa1 (R 12 (pa0).toNatClampNeg) f_1 (r_2)) hw_6_214 hmX11_pay ⟨rfl, rfl⟩ (na := 3) rfl (by decide +kernel) (by decide) (by decide) rfl rfl hK hP hD hS hA hl.1 rfl (Nat.le_of_ble_eq_true rfl) ⟨Nat.zero_le _, Nat.zero_le _⟩ dX11_sell0_13 (fun I_3 R_3 J_3 H locs hp_3 hP hD hS _ _ => ?_)
  obtain ⟨hv_3, hj_3, hk26_3⟩ := hp_3
  try dsimp only at hj_3
  subst J_3
  refine lv_aload_n hx hb dX11_sell0_16 rfl (lv_at hl 0 rfl) ?_
  refine z_get hx hb ht hown hK hP ziX11 rfl 0 (by decide) 20 (by decide) hw_5_207 rfl (v := .ref (q 12)) rfl dX11_sell0_17 ?_
  refine lv_iload_n hx hb dX11_sell0_20 rfl (lv_at hl 1 rfl) ?_
  refine lv_iload_n hx hb dX11_sell0_21 rfl (lv_at hl 2 rfl) ?_
  refine z_iast hx hb hK hP hD hS 12 (by decide) 11 (fun _ => rfl) rfl (zR_vin hpa0 (by decide)) dX11_sell0_22 (fun H locs hP hD hS => ?_)
  have hI_4 := mInv_R hv_3 12 (pa0).toNatClampNeg (pa1) hpa1 rfl
  exact z_vret hx hb hr hlocks hP hD hS dX11_sell0_23 ⟨hI_4, rfl, hk26_3⟩
set_option maxHeartbeats 4000000 in
set_option maxRecDepth 100000 in
theorem mk_X11_act0 (l : Launch) (D : va_G) (q : Nat → Nat) (cA : Nat → ClassId) (F : Nat → Nat → Int32) (I R : Nat → Nat → Int32) (J : Nat → Nat → Int64) (hI : mInv F (I, R, J)) (pa0 : Int32) (hact : mAct pa0) (hp : pa0.toInt / 1000000 = 0 → zR 0 23 (I 0 26)) : zMv l D vwCl (zMtys cA) 25 q (zMd q cA) yX11_act0 cX11_act0 5 none ({ frames := 4, cells := 0, slots := 0, locals := 110 } : Room) [.ref (q 0), .int (pa0)] (I, R, J) (fun u => mInv F u ∧ u.2.2 = J ∧ (u.1 0 26).toInt = (I 0 26).toInt + (if pa0.toInt / 1000000 = 0 then 1 else 0)) := by
  intro sz
  refine z_body (by decide +kernel) (Nat.le_of_ble_eq_true rfl) (fun p e s m below meth c ls hx hb hml hr ht hown hlocks hsz hK hP hD hS hl => ?_)
  have hA : ∀ a, s.heap.size ≤ a → zA 25 q sz a := fun a h => Or.inr (hsz ▸ h)
  have hl : lv_has ls 5 [(0, .ref (q 0)), (1, .int (pa0))] := hl
  refine lv_iload_n hx hb dX11_act0_0 rfl (lv_at hl 1 rfl) ?_
  refine lv_ldc (v := nI 1000000) hx hb hown (ht _ hw_6_189) dX11_act0_1 ?_
  refine lv_irem hx hb dX11_act0_3 (by decide +kernel) ?_
  refine lv_topi (fun v_1 ev_1 => ?_)
  have hv_1 : zR 0 999999 v_1 := ev_1 ▸ zR_rem (m_pos hact) zk_1000000 (by decide)
  refine lv_sipush (v := nI 10000) hx hb dX11_act0_4 (by decide +kernel) ?_
  refine lv_idiv hx hb dX11_act0_7 (by decide +kernel) ?_
  refine lv_topi (fun v_2 ev_2 => ?_)
  have hv_2 : zR 0 99 v_2 := ev_2 ▸ zR_divc hv_1 zk_10000 (by decide)
  refine lv_istore_n (lv' := [(2, .int (v_2)), (0, .ref (q 0)), (1, .int (pa0))]) hx hb dX11_act0_8 rfl hl (by decide) rfl (fun ls hl => ?_)
  refine lv_iload_n hx hb dX11_act0_9 rfl (lv_at hl 2 rfl) ?_
  refine lv_sipush (v := nI 10000) hx hb dX11_act0_10 (by decide +kernel) ?_
  refine lv_irem hx hb dX11_act0_13 (by decide +kernel) ?_
  refine lv_topi (fun v_3 ev_3 => ?_)
  have hv_3 : zR 0 9999 v_3 := ev_3 ▸ zR_rem (m_pos hact) zk_10000 (by decide)
  refine lv_bipush (v := nI 100) hx hb dX11_act0_14 (by decide +kernel) ?_
  refine lv_idiv hx hb dX11_act0_16 (by decide +kernel) ?_
  refine lv_topi (fun v_4 ev_4 => ?_)
  have hv_4 : zR 0 99 v_4 := ev_4 ▸ zR_divc hv_3 zk_100 (by decide)
  refine lv_istore_n (lv' := [(3, .int (v_4)), (2, .int (v_2)), (0, .ref (q 0)), (1, .int (pa0))]) hx hb dX11_act0_17 rfl hl (by decide) rfl (fun ls hl => ?_)
  refine lv_iload_n hx hb dX11_act0_18 rfl (lv_at hl 3 rfl) ?_
  refine lv_bipush (v := nI 100) hx hb dX11_act0_19 (by decide +kernel) ?_
  refine lv_irem hx hb dX11_act0_21 (by decide +kernel) ?_
  refine z_rng (a := 0) (b := 99) (zR_rem (m_pos hact) zk_100 (by decide)) (fun v_5 hv_5 => ?_)
  refine lv_istore (lv' := [(4, .int (v_5)), (3, .int (v_4)), (2, .int (v_2)), (0, .ref (q 0)), (1, .int (pa0))]) hx hb dX11_act0_22 hl (by decide) rfl (fun ls hl => ?_)
  refine lv_iload_n hx hb dX11_act0_24 rfl (lv_at hl 4 rfl) ?_
  refine lv_ldc (v := nI 1000000) hx hb hown (ht _ hw_6_189) dX11_act0_25 ?_
  refine lv_idiv hx hb dX11_act0_27 (by decide +kernel) ?_
  refine lv_topi (fun v_6 ev_6 => ?_)
  have hv_6 : zR 0 2147 v_6 := ev_6 ▸ zR_divc (m_pos hact) zk_1000000 (by decide)
  rcases (show ((v_6).toInt < 0 ∨ 4 < (v_6).toInt) ∨ (v_6).toInt = 0 ∨ (v_6).toInt = 1 ∨ (v_6).toInt = 2 ∨ (v_6).toInt = 3 ∨ (v_6).toInt = 4 by omega) with c_7 | k_8 | k_8 | k_8 | k_8 | k_8
  · refine lv_tableOut (tgt := 102) hx hb dX11_act0_28 c_7 (by decide) ?_
    have ek : (v_6).toInt = pa0.toInt / 1000000 := m_div hact.1 zk_1000000 (by decide) ev_6
    refine lv_aload_n hx hb dX11_act0_102 rfl (lv_at hl 3 rfl) ?_
    refine z_callVi (k := 0) (As := []) (rest := []) hx hb hml hown ht (mk_X11_night0 l D q cA F _ _ _ hI ) hw_6_222 hmX11_night0 ⟨rfl, rfl⟩ (na := 0) rfl (by decide +kernel) (by decide) (by decide) rfl rfl hK hP hD hS hA hl.1 rfl (Nat.le_of_ble_eq_true rfl) ⟨Nat.zero_le _, Nat.zero_le _⟩ dX11_act0_103 (fun r_9 I_9 R_9 J_9 H locs hp_9 hP hD hS _ _ => ?_)
    obtain ⟨hv_9, hj_9, hk26_9⟩ := hp_9
    try dsimp only at hj_9
    subst J_9
    refine lv_pop hx hb dX11_act0_106 rfl ?_
    exact z_vret hx hb hr hlocks hP hD hS dX11_act0_107 ⟨hv_9, rfl, (congrArg Int32.toInt hk26_9).trans (by rw [if_neg (fun h9 => by have := ek; have := c_7; omega), Int.add_zero])⟩
  · refine lv_tableIn (off := 36) (tgt := 64) hx hb dX11_act0_28 (by omega) (by omega) (by rw [k_8]; decide +kernel) (by decide) ?_
    have ek : (v_6).toInt = pa0.toInt / 1000000 := m_div hact.1 zk_1000000 (by decide) ev_6
    have hab := mAct_ab hact (m_rem hact.1 zk_1000000 (by decide) ev_1) (m_div (zR_w hv_1 (a' := 0) (b' := 999999) (by decide)).1 zk_10000 (by decide) ev_2) (m_rem hact.1 zk_10000 (by decide) ev_3) (m_div (zR_w hv_3 (a' := 0) (b' := 9999) (by decide)).1 zk_100 (by decide) ev_4) ek
    have f_10 : zR 0 4 (v_2) := (hab.1 k_8).1
    have f_11 : zR 0 5 (v_4) := (hab.1 k_8).2
    refine lv_aload_n hx hb dX11_act0_64 rfl (lv_at hl 3 rfl) ?_
    refine lv_iload_n hx hb dX11_act0_65 rfl (lv_at hl 2 rfl) ?_
    refine lv_iload_n hx hb dX11_act0_66 rfl (lv_at hl 1 rfl) ?_
    refine lv_iload hx hb dX11_act0_67 (lv_at hl 0 rfl) ?_
    refine z_callVv (k := 0) (As := [.int (v_2), .int (v_4), .int (v_5)]) (rest := []) hx hb hml hown ht (mk_X11_steal0 l D q cA F _ _ _ hI (v_2) f_10 (v_4) f_11 (v_5) (hp (ek.symm.trans k_8))) hw_6_190 hmX11_steal0 ⟨rfl, rfl⟩ (na := 3) rfl (by decide +kernel) (by decide) (by decide) rfl rfl hK hP hD hS hA hl.1 rfl (Nat.le_of_ble_eq_true rfl) ⟨Nat.zero_le _, Nat.zero_le _⟩ dX11_act0_69 (fun I_12 R_12 J_12 H locs hp_12 hP hD hS _ _ => ?_)
    obtain ⟨hv_12, hj_12, hs_12⟩ := hp_12
    try dsimp only at hj_12
    subst J_12
    exact z_vret hx hb hr hlocks hP hD hS dX11_act0_72 ⟨hv_12, rfl, by rw [if_pos (ek.symm.trans k_8)]; exact hs_12⟩
  · refine lv_tableIn (off := 45) (tgt := 73) hx hb dX11_act0_28 (by omega) (by omega) (by rw [k_8]; decide +kernel) (by decide) ?_
    have ek : (v_6).toInt = pa0.toInt / 1000000 := m_div hact.1 zk_1000000 (by decide) ev_6
    have hab := mAct_ab hact (m_rem hact.1 zk_1000000 (by decide) ev_1) (m_div (zR_w hv_1 (a' := 0) (b' := 999999) (by decide)).1 zk_10000 (by decide) ev_2) (m_rem hact.1 zk_10000 (by decide) ev_3) (m_div (zR_w hv_3 (a' := 0) (b' := 9999) (by decide)).1 zk_100 (by decide) ev_4) ek
    have f_13 : zR 0 23 (v_2) := (hab.2.1 k_8).1
    have f_14 : zR 0 4 (v_4) := (hab.2.1 k_8).2
    refine lv_aload_n hx hb dX11_act0_73 rfl (lv_at hl 3 rfl) ?_
    refine lv_iload_n hx hb dX11_act0_74 rfl (lv_at hl 2 rfl) ?_
    refine lv_iload_n hx hb dX11_act0_75 rfl (lv_at hl 1 rfl) ?_
    refine z_callVv (k := 0) (As := [.int (v_2), .int (v_4)]) (rest := []) hx hb hml hown ht (mk_X11_sell0 l D q cA F _ _ _ hI (v_2) f_13 (v_4) f_14) hw_6_198 hmX11_sell0 ⟨rfl, rfl⟩ (na := 2) rfl (by decide +kernel) (by decide) (by decide) rfl rfl hK hP hD hS hA hl.1 rfl (Nat.le_of_ble_eq_true rfl) ⟨Nat.zero_le _, Nat.zero_le _⟩ dX11_act0_76 (fun I_15 R_15 J_15 H locs hp_15 hP hD hS _ _ => ?_)
    obtain ⟨hv_15, hj_15, hk26_15⟩ := hp_15
    try dsimp only at hj_15
    subst J_15
    exact z_vret hx hb hr hlocks hP hD hS dX11_act0_79 ⟨hv_15, rfl, (congrArg Int32.toInt hk26_15).trans (by rw [if_neg (fun h9 => by have := ek; have := k_8; omega), Int.add_zero])⟩
  · refine lv_tableIn (off := 52) (tgt := 80) hx hb dX11_act0_28 (by omega) (by omega) (by rw [k_8]; decide +kernel) (by decide) ?_
    have ek : (v_6).toInt = pa0.toInt / 1000000 := m_div hact.1 zk_1000000 (by decide) ev_6
    have hab := mAct_ab hact (m_rem hact.1 zk_1000000 (by decide) ev_1) (m_div (zR_w hv_1 (a' := 0) (b' := 999999) (by decide)).1 zk_10000 (by decide) ev_2) (m_rem hact.1 zk_10000 (by decide) ev_3) (m_div (zR_w hv_3 (a' := 0) (b' := 9999) (by decide)).1 zk_100 (by decide) ev_4) ek
    have f_16 : zR 0 23 (v_2) := hab.2.2.1 k_8
    refine lv_aload_n hx hb dX11_act0_80 rfl (lv_at hl 3 rfl) ?_
    refine lv_iload_n hx hb dX11_act0_81 rfl (lv_at hl 2 rfl) ?_
    refine z_callVv (k := 0) (As := [.int (v_2)]) (rest := []) hx hb hml hown ht (mk_X11_bring0_1 l D q cA F _ _ _ hI (v_2) f_16) hw_6_218 hmX11_bring0 ⟨rfl, rfl⟩ (na := 1) rfl (by decide +kernel) (by decide) (by decide) rfl rfl hK hP hD hS hA hl.1 rfl (Nat.le_of_ble_eq_true rfl) ⟨Nat.zero_le _, Nat.zero_le _⟩ dX11_act0_82 (fun I_17 R_17 J_17 H locs hp_17 hP hD hS _ _ => ?_)
    obtain ⟨hv_17, hj_17, hk26_17⟩ := hp_17
    try dsimp only at hj_17
    subst J_17
    exact z_vret hx hb hr hlocks hP hD hS dX11_act0_85 ⟨hv_17, rfl, (congrArg Int32.toInt hk26_17).trans (by rw [if_neg (fun h9 => by have := ek; have := k_8; omega), Int.add_zero])⟩
  · refine lv_tableIn (off := 58) (tgt := 86) hx hb dX11_act0_28 (by omega) (by omega) (by rw [k_8]; decide +kernel) (by decide) ?_
    have ek : (v_6).toInt = pa0.toInt / 1000000 := m_div hact.1 zk_1000000 (by decide) ev_6
    have hab := mAct_ab hact (m_rem hact.1 zk_1000000 (by decide) ev_1) (m_div (zR_w hv_1 (a' := 0) (b' := 999999) (by decide)).1 zk_10000 (by decide) ev_2) (m_rem hact.1 zk_10000 (by decide) ev_3) (m_div (zR_w hv_3 (a' := 0) (b' := 9999) (by decide)).1 zk_100 (by decide) ev_4) ek
    have f_18 : zR 0 23 (v_2) := hab.2.2.2.1 k_8
    refine lv_aload_n hx hb dX11_act0_86 rfl (lv_at hl 3 rfl) ?_
    refine z_get hx hb ht hown hK hP ziX11 rfl 0 (by decide) 22 (by decide) hw_5_209 rfl (v := .ref (q 14)) rfl dX11_act0_87 ?_
    refine lv_iload_n hx hb dX11_act0_90 rfl (lv_at hl 2 rfl) ?_
    refine lv_iconst (v := nI 4) hx hb dX11_act0_91 (by decide +kernel) ?_
    refine z_iast hx hb hK hP hD hS 14 (by decide) 13 (fun _ => rfl) rfl (zR_vin f_18 (by decide)) dX11_act0_92 (fun H locs hP hD hS => ?_)
    have hI_19 := mInv_R hI 14 (v_2).toNatClampNeg (nI 4) (zR_any _) rfl
    exact z_vret hx hb hr hlocks hP hD hS dX11_act0_93 ⟨hI_19, rfl, (congrArg Int32.toInt (Eq.refl (I 0 26))).trans (by rw [if_neg (fun h9 => by have := ek; have := k_8; omega), Int.add_zero])⟩
  · refine lv_tableIn (off := 66) (tgt := 94) hx hb dX11_act0_28 (by omega) (by omega) (by rw [k_8]; decide +kernel) (by decide) ?_
    have ek : (v_6).toInt = pa0.toInt / 1000000 := m_div hact.1 zk_1000000 (by decide) ev_6
    have hab := mAct_ab hact (m_rem hact.1 zk_1000000 (by decide) ev_1) (m_div (zR_w hv_1 (a' := 0) (b' := 999999) (by decide)).1 zk_10000 (by decide) ev_2) (m_rem hact.1 zk_10000 (by decide) ev_3) (m_div (zR_w hv_3 (a' := 0) (b' := 9999) (by decide)).1 zk_100 (by decide) ev_4) ek
    have f_20 : zR 0 4 (v_2) := hab.2.2.2.2 k_8
    refine lv_aload_n hx hb dX11_act0_94 rfl (lv_at hl 3 rfl) ?_
    refine z_get hx hb ht hown hK hP ziX11 rfl 0 (by decide) 16 (by decide) hw_5_203 rfl (v := .ref (q 8)) rfl dX11_act0_95 ?_
    refine lv_iload_n hx hb dX11_act0_98 rfl (lv_at hl 2 rfl) ?_
    refine lv_iload_n hx hb dX11_act0_99 rfl (lv_at hl 1 rfl) ?_
    refine z_iast hx hb hK hP hD hS 8 (by decide) 7 (fun _ => rfl) rfl (zR_vin f_20 (by decide)) dX11_act0_100 (fun H locs hP hD hS => ?_)
    have hI_21 := mInv_R hI 8 (v_2).toNatClampNeg (v_4) (zR_any _) rfl
    exact z_vret hx hb hr hlocks hP hD hS dX11_act0_101 ⟨hI_21, rfl, (congrArg Int32.toInt (Eq.refl (I 0 26))).trans (by rw [if_neg (fun h9 => by have := ek; have := k_8; omega), Int.add_zero])⟩
set_option maxHeartbeats 4000000 in
set_option maxRecDepth 100000 in
theorem mk_X11_asItIs (l : Launch) (D : va_G) (q : Nat → Nat) (cA : Nat → ClassId) (F : Nat → Nat → Int32) (I R : Nat → Nat → Int32) (J : Nat → Nat → Int64) (hI : mInv F (I, R, J))  : zMv l D vwCl (zMtys cA) 25 q (zMd q cA) yX11_asItIs cX11_asItIs 2 none ({ frames := 5, cells := 0, slots := 0, locals := 134 } : Room) [.ref (q 0)] (I, R, J) (fun u => mInv F u ∧ u.2.2 = J ∧ (u.1 0 26).toInt = (mSt (F 1) (F 1 6).toInt.toNat : Int)) := by
  intro sz
  refine z_body (by decide +kernel) (Nat.le_of_ble_eq_true rfl) (fun p e s m below meth c ls hx hb hml hr ht hown hlocks hsz hK hP hD hS hl => ?_)
  have hA : ∀ a, s.heap.size ≤ a → zA 25 q sz a := fun a h => Or.inr (hsz ▸ h)
  have hl : lv_has ls 2 [(0, .ref (q 0))] := hl
  refine lv_aload_n hx hb dX11_asItIs_0 rfl (lv_at hl 0 rfl) ?_
  refine lv_iconst (v := nI 0) hx hb dX11_asItIs_1 (by decide +kernel) ?_
  refine z_putI hx hb ht hown hK hP hD hS ziX11 tyX11 tyX11_ok nmX11 rfl 0 (by decide) 26 (by decide) hw_5_213 rfl (v := nI 0) rfl rfl rfl (Nat.le_of_ble_eq_true rfl) rfl dX11_asItIs_2 (fun H locs hP hD hS => ?_)
  have hI_1 := mInv_I hI 0 26 (nI 0) (zR_w zk_0 (by decide)) rfl
  refine lv_aload_n hx hb dX11_asItIs_5 rfl (lv_at hl 0 rfl) ?_
  refine lv_iconst (v := nI 0) hx hb dX11_asItIs_6 (by decide +kernel) ?_
  refine z_putI hx hb ht hown hK hP hD hS ziX11 tyX11 tyX11_ok nmX11 rfl 0 (by decide) 27 (by decide) hw_5_214 rfl (v := nI 0) rfl rfl rfl (Nat.le_of_ble_eq_true rfl) rfl dX11_asItIs_7 (fun H locs hP hD hS => ?_)
  have hI_2 := mInv_I hI_1 0 27 (nI 0) (zR_any (nI 0)) rfl
  refine lv_aload_n hx hb dX11_asItIs_10 rfl (lv_at hl 0 rfl) ?_
  refine lv_iconst (v := (-1)) hx hb dX11_asItIs_11 (by decide +kernel) ?_
  refine z_putI hx hb ht hown hK hP hD hS ziX11 tyX11 tyX11_ok nmX11 rfl 0 (by decide) 29 (by decide) hw_5_216 rfl (v := (-1)) rfl rfl rfl (Nat.le_of_ble_eq_true rfl) rfl dX11_asItIs_12 (fun H locs hP hD hS => ?_)
  have hI_3 := mInv_I hI_2 0 29 ((-1)) (zR_any ((-1))) rfl
  refine lv_iconst (v := nI 0) hx hb dX11_asItIs_15 (by decide +kernel) ?_
  refine lv_istore_n (lv' := [(1, .int (nI 0)), (0, .ref (q 0))]) hx hb dX11_asItIs_16 rfl hl (by decide) rfl (fun ls hl => ?_)
  have loop_44 : ∀ N : Nat, ∀ x_42 : Int32, zR 0 5 x_42 → ∀ R_43 : Nat → Nat → Int32, mInv F ((zp (zp (zp I 0 26 (nI 0)) 0 27 (nI 0)) 0 29 ((-1))), R_43, J) → (2147483648 - (x_42).toInt).toNat < N → ∀ (H : Heap) (locs : List Loc), va_P D vwCl (zw 25 q (zMd q cA) (zp (zp (zp I 0 26 (nI 0)) 0 27 (nI 0)) 0 29 ((-1))) R_43 J) H → va_D (zA 25 q sz) (zw 25 q (zMd q cA) (zp (zp (zp I 0 26 (nI 0)) 0 27 (nI 0)) 0 29 ((-1))) R_43 J) → va_S (zA 25 q sz) s.heap H locs → ∀ ls : Array Slot, lv_has ls 2 [(0, .ref (q 0)), (1, .int (x_42))] → W p l e ({ frames := 5, cells := 0, slots := 0, locals := 134 } : Room) s m ([.ref (q 0)] : List Value).toArray below meth c H locs 0 0 (MQ below (va_Qv (fun u => mInv F u ∧ u.2.2 = J ∧ (u.1 0 26).toInt = (mSt (F 1) (F 1 6).toInt.toNat : Int)) (zB D vwCl 25 q (zMd q cA) sz) (zA 25 q sz)) ([.ref (q 0)] : List Value).toArray s 0 0 (zA 25 q sz)) (F0 m 17 ls []) := by
    intro N
    induction N with
    | zero => intro x_42 hx_42 R_43 hI_43 hN; exact absurd hN (Nat.not_lt_zero _)
    | succ N ih_46 =>
      intro x_42 hx_42 R_43 hI_43 hN_45 H locs hP hD hS ls hl
      refine lv_iload_n hx hb dX11_asItIs_17 rfl (lv_at hl 1 rfl) ?_
      refine lv_iconst (v := nI 5) hx hb dX11_asItIs_18 (by decide +kernel) ?_
      refine lv_icmp_ge (tgt := 64) hx hb dX11_asItIs_19 (by decide) (fun c_47 => ?_) (fun c_47 => ?_)
      · have t_c_47 := z_leT c_47
        have f_58 : zR 5 5 (x_42) := zR_ley t_c_47 zk_5 hx_42 (by decide)
        refine lv_iconst (v := nI 0) hx hb dX11_asItIs_64 (by decide +kernel) ?_
        refine lv_istore_n (lv' := [(1, .int (nI 0)), (0, .ref (q 0))]) hx hb dX11_asItIs_65 rfl hl (by decide) rfl (fun ls hl => ?_)
        have loop_105 : ∀ N : Nat, ∀ x_103 : Int32, zR 0 6 x_103 → ∀ R_104 : Nat → Nat → Int32, mInv F ((zp (zp (zp I 0 26 (nI 0)) 0 27 (nI 0)) 0 29 ((-1))), R_104, J) → (2147483648 - (x_103).toInt).toNat < N → ∀ (H : Heap) (locs : List Loc), va_P D vwCl (zw 25 q (zMd q cA) (zp (zp (zp I 0 26 (nI 0)) 0 27 (nI 0)) 0 29 ((-1))) R_104 J) H → va_D (zA 25 q sz) (zw 25 q (zMd q cA) (zp (zp (zp I 0 26 (nI 0)) 0 27 (nI 0)) 0 29 ((-1))) R_104 J) → va_S (zA 25 q sz) s.heap H locs → ∀ ls : Array Slot, lv_has ls 2 [(0, .ref (q 0)), (1, .int (x_103))] → W p l e ({ frames := 5, cells := 0, slots := 0, locals := 134 } : Room) s m ([.ref (q 0)] : List Value).toArray below meth c H locs 0 0 (MQ below (va_Qv (fun u => mInv F u ∧ u.2.2 = J ∧ (u.1 0 26).toInt = (mSt (F 1) (F 1 6).toInt.toNat : Int)) (zB D vwCl 25 q (zMd q cA) sz) (zA 25 q sz)) ([.ref (q 0)] : List Value).toArray s 0 0 (zA 25 q sz)) (F0 m 66 ls []) := by
          intro N
          induction N with
          | zero => intro x_103 hx_103 R_104 hI_104 hN; exact absurd hN (Nat.not_lt_zero _)
          | succ N ih_107 =>
            intro x_103 hx_103 R_104 hI_104 hN_106 H locs hP hD hS ls hl
            refine lv_iload_n hx hb dX11_asItIs_66 rfl (lv_at hl 1 rfl) ?_
            refine lv_bipush (v := nI 6) hx hb dX11_asItIs_67 (by decide +kernel) ?_
            refine lv_icmp_ge (tgt := 118) hx hb dX11_asItIs_69 (by decide) (fun c_108 => ?_) (fun c_108 => ?_)
            · have t_c_108 := z_leT c_108
              have f_120 : zR 6 6 (x_103) := zR_ley t_c_108 zk_6 hx_103 (by decide)
              refine lv_iconst (v := nI 0) hx hb dX11_asItIs_118 (by decide +kernel) ?_
              refine lv_istore_n (lv' := [(1, .int (nI 0)), (0, .ref (q 0))]) hx hb dX11_asItIs_119 rfl hl (by decide) rfl (fun ls hl => ?_)
              have loop_160 : ∀ N : Nat, ∀ x_157 : Int32, zR 0 60 x_157 → ∀ I_158 : Nat → Nat → Int32, ∀ R_158 : Nat → Nat → Int32, mInv F (I_158, R_158, J) → ((I_158 0 26).toInt = (mSt (F 1) (x_157).toInt.toNat : Int) ∧ (x_157).toInt ≤ (R_158 1 6).toInt) → (2147483648 - (x_157).toInt).toNat < N → ∀ (H : Heap) (locs : List Loc), va_P D vwCl (zw 25 q (zMd q cA) I_158 R_158 J) H → va_D (zA 25 q sz) (zw 25 q (zMd q cA) I_158 R_158 J) → va_S (zA 25 q sz) s.heap H locs → ∀ ls : Array Slot, lv_has ls 2 [(0, .ref (q 0)), (1, .int (x_157))] → W p l e ({ frames := 5, cells := 0, slots := 0, locals := 134 } : Room) s m ([.ref (q 0)] : List Value).toArray below meth c H locs 0 0 (MQ below (va_Qv (fun u => mInv F u ∧ u.2.2 = J ∧ (u.1 0 26).toInt = (mSt (F 1) (F 1 6).toInt.toNat : Int)) (zB D vwCl 25 q (zMd q cA) sz) (zA 25 q sz)) ([.ref (q 0)] : List Value).toArray s 0 0 (zA 25 q sz)) (F0 m 120 ls []) := by
                intro N
                induction N with
                | zero => intro x_157 hx_157 I_158 R_158 hI_158 hx_159 hN; exact absurd hN (Nat.not_lt_zero _)
                | succ N ih_162 =>
                  intro x_157 hx_157 I_158 R_158 hI_158 hx_159 hN_161 H locs hP hD hS ls hl
                  refine lv_iload_n hx hb dX11_asItIs_120 rfl (lv_at hl 1 rfl) ?_
                  refine lv_aload_n hx hb dX11_asItIs_121 rfl (lv_at hl 0 rfl) ?_
                  refine z_get hx hb ht hown hK hP ziX11 rfl 0 (by decide) 1 (by decide) hw_5_188 rfl (v := .ref (q 1)) rfl dX11_asItIs_122 ?_
                  refine lv_bipush (v := nI 6) hx hb dX11_asItIs_125 (by decide +kernel) ?_
                  refine z_iald hx hb hK hP 1 (by decide) 0 rfl rfl (zR_vin zk_6 (by decide)) dX11_asItIs_127 ?_
                  refine z_eqi (y := R_158 1 (nI 6).toNatClampNeg) rfl ?_
                  have f_163 : zR 0 60 (R_158 1 (nI 6).toNatClampNeg) := mR hI_158 1 6
                  refine lv_icmp_ge (tgt := 150) hx hb dX11_asItIs_128 (by decide) (fun c_164 => ?_) (fun c_164 => ?_)
                  · have t_c_164 := z_leT c_164
                    exact z_vret hx hb hr hlocks hP hD hS dX11_asItIs_150 ⟨hI_158, rfl, mSt_end hI_158 (zR_w hx_157 (a' := 0) (b' := 60) (by decide)).1 t_c_164 hx_159.1 hx_159.2⟩
                  · have t_c_164 := z_leF c_164
                    have f_165 : zR 0 59 (x_157) := zR_ltx t_c_164 hx_157 f_163 (by decide)
                    have f_166 : zR 1 60 (R_158 1 (nI 6).toNatClampNeg) := zR_lty t_c_164 hx_157 f_163 (by decide)
                    refine lv_aload_n hx hb dX11_asItIs_131 rfl (lv_at hl 0 rfl) ?_
                    refine lv_aload_n hx hb dX11_asItIs_132 rfl (lv_at hl 0 rfl) ?_
                    refine z_get hx hb ht hown hK hP ziX11 rfl 0 (by decide) 1 (by decide) hw_5_188 rfl (v := .ref (q 1)) rfl dX11_asItIs_133 ?_
                    refine lv_bipush (v := nI 59) hx hb dX11_asItIs_136 (by decide +kernel) ?_
                    refine lv_iload_n hx hb dX11_asItIs_138 rfl (lv_at hl 1 rfl) ?_
                    refine lv_iadd hx hb dX11_asItIs_139 ?_
                    refine z_cadd 59 118 zk_59 f_165 (by decide) (fun v_167 hv_167 mv_167 => ?_)
                    refine z_iald hx hb hK hP 1 (by decide) 0 rfl rfl (zR_vin hv_167 (by decide)) dX11_asItIs_140 ?_
                    refine z_eqi (y := R_158 1 (v_167).toNatClampNeg) rfl ?_
                    refine z_callVv (k := 0) (As := [.int (R_158 1 (v_167).toNatClampNeg)]) (rest := []) hx hb hml hown ht (mk_X11_act0 l D q cA F _ _ _ hI_158 (R_158 1 (v_167).toNatClampNeg) (mAct_at hI_158 (zR_w f_165 (a' := 0) (b' := 59) (by decide)).1 t_c_164 mv_167) (mSt_room hI_158 (zR_w f_165 (a' := 0) (b' := 59) (by decide)).1 t_c_164 mv_167 hx_159.1)) hw_6_185 hmX11_act0 ⟨rfl, rfl⟩ (na := 1) rfl (by decide +kernel) (by decide) (by decide) rfl rfl hK hP hD hS hA hl.1 rfl (Nat.le_of_ble_eq_true rfl) ⟨Nat.zero_le _, Nat.zero_le _⟩ dX11_asItIs_141 (fun I_168 R_168 J_168 H locs hp_168 hP hD hS _ _ => ?_)
                    obtain ⟨hv_168, hj_168, ha_168⟩ := hp_168
                    try dsimp only at hj_168
                    subst J_168
                    obtain ⟨v_169, ev_169⟩ : ∃ y : Int32, y = x_157 + nI 1 := ⟨_, rfl⟩
                    have hv_169 : zR 1 60 v_169 := ev_169 ▸ zR_add f_165 zk_1 (by decide)
                    have mv_169 : v_169.toInt = (x_157).toInt + 1 := by rw [ev_169, zR_addE f_165 zk_1 (by decide)]; rfl
                    refine lv_iinc (v := v_169) (lv' := [(1, .int (v_169)), (0, .ref (q 0))]) hx hb dX11_asItIs_144 hl (k := 1) rfl (ev_169 ▸ rfl) (by decide) rfl (fun ls hl => ?_)
                    refine lv_goto (tgt := 120) hx hb dX11_asItIs_147 (by decide) ?_
                    exact ih_162 (v_169) (zR_w hv_169 (by decide)) _ _ hv_168 ⟨mSt_next hI_158 (zR_w f_165 (a' := 0) (b' := 59) (by decide)).1 mv_167 mv_169 hx_159.1 ha_168, m_le1 mv_169 t_c_164 (congrArg (fun g => (g 6).toInt) ((mFr hI_158 1 rfl).trans (mFr hv_168 1 rfl).symm))⟩ (z2_up mv_169 (by decide) hN_161) _ _ hP hD hS _ (lv_sub hl [1, 0] rfl)
              exact loop_160 _ (nI 0) (zR_w zk_0 (by decide)) _ _ hI_104 ⟨rfl, (zR_w (mR hI_104 1 6) (a' := 0) (b' := 60) (by decide)).1⟩ (Nat.lt_succ_self _) _ _ hP hD hS _ (lv_sub hl [1, 0] rfl)
            · have t_c_108 := z_leF c_108
              have f_170 : zR 0 5 (x_103) := zR_ltx t_c_108 hx_103 zk_6 (by decide)
              refine lv_aload_n hx hb dX11_asItIs_72 rfl (lv_at hl 0 rfl) ?_
              refine z_get hx hb ht hown hK hP ziX11 rfl 0 (by decide) 17 (by decide) hw_5_204 rfl (v := .ref (q 9)) rfl dX11_asItIs_73 ?_
              refine lv_iload_n hx hb dX11_asItIs_76 rfl (lv_at hl 1 rfl) ?_
              refine lv_aload_n hx hb dX11_asItIs_77 rfl (lv_at hl 0 rfl) ?_
              refine z_get hx hb ht hown hK hP ziX11 rfl 0 (by decide) 1 (by decide) hw_5_188 rfl (v := .ref (q 1)) rfl dX11_asItIs_78 ?_
              refine lv_bipush (v := nI 17) hx hb dX11_asItIs_81 (by decide +kernel) ?_
              refine lv_iconst (v := nI 2) hx hb dX11_asItIs_83 (by decide +kernel) ?_
              refine lv_iload_n hx hb dX11_asItIs_84 rfl (lv_at hl 1 rfl) ?_
              refine lv_imul hx hb dX11_asItIs_85 ?_
              refine lv_topi (fun v_171 ev_171 => ?_)
              have hv_171 : zR 0 10 v_171 := ev_171 ▸ zR_mul zk_2 f_170 (by decide)
              refine lv_iadd hx hb dX11_asItIs_86 ?_
              refine z_cadd 17 27 zk_17 hv_171 (by decide) (fun v_172 hv_172 mv_172 => ?_)
              refine z_iald hx hb hK hP 1 (by decide) 0 rfl rfl (zR_vin hv_172 (by decide)) dX11_asItIs_87 ?_
              refine z_eqi (y := R_104 1 (v_172).toNatClampNeg) rfl ?_
              have f_173 : zR 0 4 (R_104 1 (v_172).toNatClampNeg) := mAt hI_104 f_170 ev_171 mv_172
              refine z_iast hx hb hK hP hD hS 9 (by decide) 8 (fun _ => rfl) rfl (zR_vin f_170 (by decide)) dX11_asItIs_88 (fun H locs hP hD hS => ?_)
              have hI_174 := mInv_R hI_104 9 (x_103).toNatClampNeg (R_104 1 (v_172).toNatClampNeg) f_173 rfl
              refine lv_aload_n hx hb dX11_asItIs_89 rfl (lv_at hl 0 rfl) ?_
              refine z_get hx hb ht hown hK hP ziX11 rfl 0 (by decide) 25 (by decide) hw_5_212 rfl (v := .ref (q 17)) rfl dX11_asItIs_90 ?_
              refine lv_iload_n hx hb dX11_asItIs_93 rfl (lv_at hl 1 rfl) ?_
              refine lv_iconst (v := nI 1) hx hb dX11_asItIs_94 (by decide +kernel) ?_
              refine z_iast hx hb hK hP hD hS 17 (by decide) 16 (fun _ => rfl) rfl (zR_vin f_170 (by decide)) dX11_asItIs_95 (fun H locs hP hD hS => ?_)
              have hI_175 := mInv_R hI_174 17 (x_103).toNatClampNeg (nI 1) (show zR 0 146 (nI 1) from zR_w zk_1 (by decide)) rfl
              refine lv_aload_n hx hb dX11_asItIs_96 rfl (lv_at hl 0 rfl) ?_
              refine z_get hx hb ht hown hK hP ziX11 rfl 0 (by decide) 24 (by decide) hw_5_211 rfl (v := .ref (q 16)) rfl dX11_asItIs_97 ?_
              refine lv_sipush (v := nI 146) hx hb dX11_asItIs_100 (by decide +kernel) ?_
              refine lv_iload_n hx hb dX11_asItIs_103 rfl (lv_at hl 1 rfl) ?_
              refine lv_imul hx hb dX11_asItIs_104 ?_
              refine z_rng (a := 0) (b := 730) (zR_mul zk_146 f_170 (by decide)) (fun v_176 hv_176 => ?_)
              refine lv_aload_n hx hb dX11_asItIs_105 rfl (lv_at hl 0 rfl) ?_
              refine z_get hx hb ht hown hK hP ziX11 rfl 0 (by decide) 17 (by decide) hw_5_204 rfl (v := .ref (q 9)) rfl dX11_asItIs_106 ?_
              refine lv_iload_n hx hb dX11_asItIs_109 rfl (lv_at hl 1 rfl) ?_
              refine z_iald hx hb hK hP 9 (by decide) 8 rfl rfl (zR_vin f_170 (by decide)) dX11_asItIs_110 ?_
              refine z_rng (a := 0) (b := 4) (mR hI_175 9 (x_103).toNatClampNeg) (fun v_177 hv_177 => ?_)
              refine z_iast hx hb hK hP hD hS 16 (by decide) 15 (fun _ => rfl) rfl (zR_vin hv_176 (by decide)) dX11_asItIs_111 (fun H locs hP hD hS => ?_)
              have hI_178 := mInv_R hI_175 16 (v_176).toNatClampNeg (v_177) (zR_any _) rfl
              obtain ⟨v_179, ev_179⟩ : ∃ y : Int32, y = x_103 + nI 1 := ⟨_, rfl⟩
              have hv_179 : zR 1 6 v_179 := ev_179 ▸ zR_add f_170 zk_1 (by decide)
              have mv_179 : v_179.toInt = (x_103).toInt + 1 := by rw [ev_179, zR_addE f_170 zk_1 (by decide)]; rfl
              refine lv_iinc (v := v_179) (lv' := [(1, .int (v_179)), (0, .ref (q 0))]) hx hb dX11_asItIs_112 hl (k := 1) rfl (ev_179 ▸ rfl) (by decide) rfl (fun ls hl => ?_)
              refine lv_goto (tgt := 66) hx hb dX11_asItIs_115 (by decide) ?_
              exact ih_107 (v_179) (zR_w hv_179 (by decide)) _ hI_178 (z2_up mv_179 (by decide) hN_106) _ _ hP hD hS _ (lv_sub hl [1, 0] rfl)
        exact loop_105 _ (nI 0) (zR_w zk_0 (by decide)) _ hI_43 (Nat.lt_succ_self _) _ _ hP hD hS _ (lv_sub hl [1, 0] rfl)
      · have t_c_47 := z_leF c_47
        have f_180 : zR 0 4 (x_42) := zR_ltx t_c_47 hx_42 zk_5 (by decide)
        refine lv_aload_n hx hb dX11_asItIs_22 rfl (lv_at hl 0 rfl) ?_
        refine z_get hx hb ht hown hK hP ziX11 rfl 0 (by decide) 15 (by decide) hw_5_202 rfl (v := .ref (q 7)) rfl dX11_asItIs_23 ?_
        refine lv_iload_n hx hb dX11_asItIs_26 rfl (lv_at hl 1 rfl) ?_
        refine lv_aload_n hx hb dX11_asItIs_27 rfl (lv_at hl 0 rfl) ?_
        refine z_get hx hb ht hown hK hP ziX11 rfl 0 (by decide) 1 (by decide) hw_5_188 rfl (v := .ref (q 1)) rfl dX11_asItIs_28 ?_
        refine lv_bipush (v := nI 7) hx hb dX11_asItIs_31 (by decide +kernel) ?_
        refine lv_iconst (v := nI 2) hx hb dX11_asItIs_33 (by decide +kernel) ?_
        refine lv_iload_n hx hb dX11_asItIs_34 rfl (lv_at hl 1 rfl) ?_
        refine lv_imul hx hb dX11_asItIs_35 ?_
        refine z_rng (a := 0) (b := 8) (zR_mul zk_2 f_180 (by decide)) (fun v_181 hv_181 => ?_)
        refine lv_iadd hx hb dX11_asItIs_36 ?_
        refine z_cadd 7 15 zk_7 hv_181 (by decide) (fun v_182 hv_182 mv_182 => ?_)
        refine z_iald hx hb hK hP 1 (by decide) 0 rfl rfl (zR_vin hv_182 (by decide)) dX11_asItIs_37 ?_
        refine z_eqi (y := R_43 1 (v_182).toNatClampNeg) rfl ?_
        refine z_iast hx hb hK hP hD hS 7 (by decide) 6 (fun _ => rfl) rfl (zR_vin f_180 (by decide)) dX11_asItIs_38 (fun H locs hP hD hS => ?_)
        have hI_183 := mInv_R hI_43 7 (x_42).toNatClampNeg (R_43 1 (v_182).toNatClampNeg) (zR_any _) rfl
        refine lv_aload_n hx hb dX11_asItIs_39 rfl (lv_at hl 0 rfl) ?_
        refine z_get hx hb ht hown hK hP ziX11 rfl 0 (by decide) 16 (by decide) hw_5_203 rfl (v := .ref (q 8)) rfl dX11_asItIs_40 ?_
        refine lv_iload_n hx hb dX11_asItIs_43 rfl (lv_at hl 1 rfl) ?_
        refine lv_aload_n hx hb dX11_asItIs_44 rfl (lv_at hl 0 rfl) ?_
        refine z_get hx hb ht hown hK hP ziX11 rfl 0 (by decide) 1 (by decide) hw_5_188 rfl (v := .ref (q 1)) rfl dX11_asItIs_45 ?_
        refine lv_bipush (v := nI 7) hx hb dX11_asItIs_48 (by decide +kernel) ?_
        refine lv_iconst (v := nI 2) hx hb dX11_asItIs_50 (by decide +kernel) ?_
        refine lv_iload_n hx hb dX11_asItIs_51 rfl (lv_at hl 1 rfl) ?_
        refine lv_imul hx hb dX11_asItIs_52 ?_
        refine z_rng (a := 0) (b := 8) (zR_mul zk_2 f_180 (by decide)) (fun v_184 hv_184 => ?_)
        refine lv_iadd hx hb dX11_asItIs_53 ?_
        refine z_cadd 7 15 zk_7 hv_184 (by decide) (fun v_185 hv_185 mv_185 => ?_)
        refine lv_iconst (v := nI 1) hx hb dX11_asItIs_54 (by decide +kernel) ?_
        refine lv_iadd hx hb dX11_asItIs_55 ?_
        refine z_addc 8 16 hv_185 zk_1 (by decide) (fun v_186 hv_186 mv_186 => ?_)
        refine z_iald hx hb hK hP 1 (by decide) 0 rfl rfl (zR_vin hv_186 (by decide)) dX11_asItIs_56 ?_
        refine z_eqi (y := R_43 1 (v_186).toNatClampNeg) rfl ?_
        refine z_iast hx hb hK hP hD hS 8 (by decide) 7 (fun _ => rfl) rfl (zR_vin f_180 (by decide)) dX11_asItIs_57 (fun H locs hP hD hS => ?_)
        have hI_187 := mInv_R hI_183 8 (x_42).toNatClampNeg (R_43 1 (v_186).toNatClampNeg) (zR_any _) rfl
        obtain ⟨v_188, ev_188⟩ : ∃ y : Int32, y = x_42 + nI 1 := ⟨_, rfl⟩
        have hv_188 : zR 1 5 v_188 := ev_188 ▸ zR_add f_180 zk_1 (by decide)
        have mv_188 : v_188.toInt = (x_42).toInt + 1 := by rw [ev_188, zR_addE f_180 zk_1 (by decide)]; rfl
        refine lv_iinc (v := v_188) (lv' := [(1, .int (v_188)), (0, .ref (q 0))]) hx hb dX11_asItIs_58 hl (k := 1) rfl (ev_188 ▸ rfl) (by decide) rfl (fun ls hl => ?_)
        refine lv_goto (tgt := 17) hx hb dX11_asItIs_61 (by decide) ?_
        exact ih_46 (v_188) (zR_w hv_188 (by decide)) _ hI_187 (z2_up mv_188 (by decide) hN_45) _ _ hP hD hS _ (lv_sub hl [1, 0] rfl)
  exact loop_44 _ (nI 0) (zR_w zk_0 (by decide)) _ hI_3 (Nat.lt_succ_self _) _ _ hP hD hS _ (lv_sub hl [1, 0] rfl)
set_option maxHeartbeats 4000000 in
set_option maxRecDepth 100000 in
theorem mk_X11_isOpen_1 (l : Launch) (D : va_G) (q : Nat → Nat) (cA : Nat → ClassId) (F : Nat → Nat → Int32) (I R : Nat → Nat → Int32) (J : Nat → Nat → Int64) (hI : mInv F (I, R, J)) (pa0 : Int32) (hpa0 : zR 0 23 pa0) : zMi l D vwCl (zMtys cA) 25 q (zMd q cA) yX11_isOpen cX11_isOpen 2 (some .boolean) ({ frames := 0, cells := 0, slots := 0, locals := 0 } : Room) [.ref (q 0), .int (pa0)] (I, R, J) (fun r u => (r = nI 1 ∧ u = (I, R, J)) ∨ (r = nI 0 ∧ u = (I, R, J))) := by
  intro sz
  refine z_body (by decide +kernel) (Nat.le_of_ble_eq_true rfl) (fun p e s m below meth c ls hx hb hml hr ht hown hlocks hsz hK hP hD hS hl => ?_)
  have hA : ∀ a, s.heap.size ≤ a → zA 25 q sz a := fun a h => Or.inr (hsz ▸ h)
  have hl : lv_has ls 2 [(0, .ref (q 0)), (1, .int (pa0))] := hl
  refine lv_aload_n hx hb dX11_isOpen_0 rfl (lv_at hl 0 rfl) ?_
  refine z_get hx hb ht hown hK hP ziX11 rfl 0 (by decide) 22 (by decide) hw_5_209 rfl (v := .ref (q 14)) rfl dX11_isOpen_1 ?_
  refine lv_iload_n hx hb dX11_isOpen_4 rfl (lv_at hl 1 rfl) ?_
  refine z_iald hx hb hK hP 14 (by decide) 13 rfl rfl (zR_vin hpa0 (by decide)) dX11_isOpen_5 ?_
  refine z_eqi (y := R 14 (pa0).toNatClampNeg) rfl ?_
  refine lv_if_ne (tgt := 13) hx hb dX11_isOpen_6 (by decide) (fun c_1 => ?_) (fun c_1 => ?_)
  · have t_c_1 := z_eqF c_1
    refine lv_iconst (v := nI 0) hx hb dX11_isOpen_13 (by decide +kernel) ?_
    exact z_zret (v := nI 0) hx hb hr hlocks hP hD hS (by decide +kernel) dX11_isOpen_14 (Or.inr ⟨rfl, rfl⟩)
  · have t_c_1 := z_eqT c_1
    have f_2 : zR 0 0 (R 14 (pa0).toNatClampNeg) := zR_eqx t_c_1 zk_z
    refine lv_iconst (v := nI 1) hx hb dX11_isOpen_9 (by decide +kernel) ?_
    refine lv_goto (tgt := 14) hx hb dX11_isOpen_10 (by decide) ?_
    exact z_zret (v := nI 1) hx hb hr hlocks hP hD hS (by decide +kernel) dX11_isOpen_14 (Or.inl ⟨rfl, rfl⟩)
set_option maxHeartbeats 4000000 in
set_option maxRecDepth 100000 in
theorem mk_X11_thingsIn (l : Launch) (D : va_G) (q : Nat → Nat) (cA : Nat → ClassId) (F : Nat → Nat → Int32) (I R : Nat → Nat → Int32) (J : Nat → Nat → Int64) (hI : mInv F (I, R, J)) (pa0 : Int32) (hpa0 : zR 0 4 pa0) : zMi l D vwCl (zMtys cA) 25 q (zMd q cA) yX11_thingsIn cX11_thingsIn 4 (some .int) ({ frames := 0, cells := 0, slots := 0, locals := 0 } : Room) [.ref (q 0), .int (pa0)] (I, R, J) (fun r u => zR 0 63 r ∧ u = (I, R, J)) := by
  intro sz
  refine z_body (by decide +kernel) (Nat.le_of_ble_eq_true rfl) (fun p e s m below meth c ls hx hb hml hr ht hown hlocks hsz hK hP hD hS hl => ?_)
  have hA : ∀ a, s.heap.size ≤ a → zA 25 q sz a := fun a h => Or.inr (hsz ▸ h)
  have hl : lv_has ls 4 [(0, .ref (q 0)), (1, .int (pa0))] := hl
  refine lv_iconst (v := nI 0) hx hb dX11_thingsIn_0 (by decide +kernel) ?_
  refine lv_istore_n (lv' := [(2, .int (nI 0)), (0, .ref (q 0)), (1, .int (pa0))]) hx hb dX11_thingsIn_1 rfl hl (by decide) rfl (fun ls hl => ?_)
  refine lv_iconst (v := nI 0) hx hb dX11_thingsIn_2 (by decide +kernel) ?_
  refine lv_istore_n (lv' := [(3, .int (nI 0)), (2, .int (nI 0)), (0, .ref (q 0)), (1, .int (pa0))]) hx hb dX11_thingsIn_3 rfl hl (by decide) rfl (fun ls hl => ?_)
  have loop_59 : ∀ N : Nat, ∀ x_57 : Int32, zR 0 63 x_57 → ∀ x_58 : Int32, zR 0 6 x_58 → (2147483648 - (x_58).toInt).toNat < N → ∀ (H : Heap) (locs : List Loc), va_P D vwCl (zw 25 q (zMd q cA) I R J) H → va_D (zA 25 q sz) (zw 25 q (zMd q cA) I R J) → va_S (zA 25 q sz) s.heap H locs → ∀ ls : Array Slot, lv_has ls 4 [(0, .ref (q 0)), (1, .int (pa0)), (2, .int (x_57)), (3, .int (x_58))] → W p l e ({ frames := 0, cells := 0, slots := 0, locals := 0 } : Room) s m ([.ref (q 0), .int (pa0)] : List Value).toArray below meth c H locs 0 0 (MQ below (va_Qi (fun r u => zR 0 63 r ∧ u = (I, R, J)) (zB D vwCl 25 q (zMd q cA) sz) (zA 25 q sz)) ([.ref (q 0), .int (pa0)] : List Value).toArray s 0 0 (zA 25 q sz)) (F0 m 4 ls []) := by
    intro N
    induction N with
    | zero => intro x_57 hx_57 x_58 hx_58 hN; exact absurd hN (Nat.not_lt_zero _)
    | succ N ih_61 =>
      intro x_57 hx_57 x_58 hx_58 hN_60 H locs hP hD hS ls hl
      refine lv_iload_n hx hb dX11_thingsIn_4 rfl (lv_at hl 3 rfl) ?_
      refine lv_aload_n hx hb dX11_thingsIn_5 rfl (lv_at hl 0 rfl) ?_
      refine z_get hx hb ht hown hK hP ziX11 rfl 0 (by decide) 1 (by decide) hw_5_188 rfl (v := .ref (q 1)) rfl dX11_thingsIn_6 ?_
      refine lv_iconst (v := nI 4) hx hb dX11_thingsIn_9 (by decide +kernel) ?_
      refine z_iald hx hb hK hP 1 (by decide) 0 rfl rfl (zR_vin zk_4 (by decide)) dX11_thingsIn_10 ?_
      refine z_eqi (y := R 1 (nI 4).toNatClampNeg) rfl ?_
      have f_62 : zR 0 6 (R 1 (nI 4).toNatClampNeg) := mR hI 1 4
      refine lv_icmp_ge (tgt := 40) hx hb dX11_thingsIn_11 (by decide) (fun c_63 => ?_) (fun c_63 => ?_)
      · have t_c_63 := z_leT c_63
        refine lv_iload_n hx hb dX11_thingsIn_40 rfl (lv_at hl 2 rfl) ?_
        exact z_iret (v := x_57) hx hb hr hlocks hP hD hS dX11_thingsIn_41 ⟨hx_57, rfl⟩
      · have t_c_63 := z_leF c_63
        have f_64 : zR 0 5 (x_58) := zR_ltx t_c_63 hx_58 f_62 (by decide)
        have f_65 : zR 1 6 (R 1 (nI 4).toNatClampNeg) := zR_lty t_c_63 hx_58 f_62 (by decide)
        refine lv_iload_n hx hb dX11_thingsIn_14 rfl (lv_at hl 2 rfl) ?_
        refine lv_aload_n hx hb dX11_thingsIn_15 rfl (lv_at hl 0 rfl) ?_
        refine z_get hx hb ht hown hK hP ziX11 rfl 0 (by decide) 17 (by decide) hw_5_204 rfl (v := .ref (q 9)) rfl dX11_thingsIn_16 ?_
        refine lv_iload_n hx hb dX11_thingsIn_19 rfl (lv_at hl 3 rfl) ?_
        refine z_iald hx hb hK hP 9 (by decide) 8 rfl rfl (zR_vin f_64 (by decide)) dX11_thingsIn_20 ?_
        refine z_eqi (y := R 9 (x_58).toNatClampNeg) rfl ?_
        have f_66 : zR 0 4 (R 9 (x_58).toNatClampNeg) := mR hI 9 (x_58).toNatClampNeg
        refine lv_iload_n hx hb dX11_thingsIn_21 rfl (lv_at hl 1 rfl) ?_
        have t_70 : ∀ x_69 : Int32, zR 0 32 x_69 → ∀ (H : Heap) (locs : List Loc), va_P D vwCl (zw 25 q (zMd q cA) I R J) H → va_D (zA 25 q sz) (zw 25 q (zMd q cA) I R J) → va_S (zA 25 q sz) s.heap H locs → ∀ ls : Array Slot, lv_has ls 4 [(0, .ref (q 0)), (1, .int (pa0)), (2, .int (x_57)), (3, .int (x_58))] → W p l e ({ frames := 0, cells := 0, slots := 0, locals := 0 } : Room) s m ([.ref (q 0), .int (pa0)] : List Value).toArray below meth c H locs 0 0 (MQ below (va_Qi (fun r u => zR 0 63 r ∧ u = (I, R, J)) (zB D vwCl 25 q (zMd q cA) sz) (zA 25 q sz)) ([.ref (q 0), .int (pa0)] : List Value).toArray s 0 0 (zA 25 q sz)) (F0 m 32 ls [.int (x_69), .int (x_57)]) := by
          intro x_69 hx_69 H locs hP hD hS ls hl
          refine lv_ior hx hb dX11_thingsIn_32 ?_
          refine z_rng (a := 0) (b := 63) (zR_or 6 hx_57 hx_69 (by decide)) (fun v_71 hv_71 => ?_)
          refine lv_istore_n (lv' := [(2, .int (v_71)), (0, .ref (q 0)), (1, .int (pa0)), (3, .int (x_58))]) hx hb dX11_thingsIn_33 rfl hl (by decide) rfl (fun ls hl => ?_)
          obtain ⟨v_72, ev_72⟩ : ∃ y : Int32, y = x_58 + nI 1 := ⟨_, rfl⟩
          have hv_72 : zR 1 6 v_72 := ev_72 ▸ zR_add f_64 zk_1 (by decide)
          have mv_72 : v_72.toInt = (x_58).toInt + 1 := by rw [ev_72, zR_addE f_64 zk_1 (by decide)]; rfl
          refine lv_iinc (v := v_72) (lv' := [(3, .int (v_72)), (2, .int (v_71)), (0, .ref (q 0)), (1, .int (pa0))]) hx hb dX11_thingsIn_34 hl (k := 3) rfl (ev_72 ▸ rfl) (by decide) rfl (fun ls hl => ?_)
          refine lv_goto (tgt := 4) hx hb dX11_thingsIn_37 (by decide) ?_
          exact ih_61 (v_71) hv_71 (v_72) (zR_w hv_72 (by decide)) (z2_up mv_72 (by decide) hN_60) _ _ hP hD hS _ (lv_sub hl [2, 3, 1, 0] rfl)
        refine lv_icmp_ne (tgt := 31) hx hb dX11_thingsIn_22 (by decide) (fun c_67 => ?_) (fun c_67 => ?_)
        · have t_c_67 := z_eqF c_67
          refine lv_iconst (v := nI 0) hx hb dX11_thingsIn_31 (by decide +kernel) ?_
          exact t_70 (nI 0) (zR_w zk_0 (by decide)) _ _ hP hD hS _ (lv_sub hl [0, 1, 2, 3] rfl)
        · have t_c_67 := z_eqT c_67
          refine lv_iconst (v := nI 1) hx hb dX11_thingsIn_25 (by decide +kernel) ?_
          refine lv_iload_n hx hb dX11_thingsIn_26 rfl (lv_at hl 3 rfl) ?_
          refine lv_ishl hx hb dX11_thingsIn_27 ?_
          refine z_rng (a := 1) (b := 32) (zR_shl1 5 f_64 (by decide)) (fun v_73 hv_73 => ?_)
          refine lv_goto (tgt := 32) hx hb dX11_thingsIn_28 (by decide) ?_
          exact t_70 (v_73) (zR_w hv_73 (by decide)) _ _ hP hD hS _ (lv_sub hl [0, 1, 2, 3] rfl)
  exact loop_59 _ (nI 0) (zR_w zk_0 (by decide)) (nI 0) (zR_w zk_0 (by decide)) (Nat.lt_succ_self _) _ _ hP hD hS _ (lv_sub hl [2, 3, 1, 0] rfl)
set_option maxHeartbeats 4000000 in
set_option maxRecDepth 100000 in
theorem mk_X11_house (l : Launch) (D : va_G) (q : Nat → Nat) (cA : Nat → ClassId) (F : Nat → Nat → Int32) (I R : Nat → Nat → Int32) (J : Nat → Nat → Int64) (hI : mInv F (I, R, J)) (pa0 : Int32) (pa1 : Int32) : zMi l D vwCl (zMtys cA) 25 q (zMd q cA) yX11_house cX11_house 5 (some .int) ({ frames := 6, cells := 0, slots := 0, locals := 155 } : Room) [.ref (q 0), .int (pa0), .int (pa1)] (I, R, J) (fun _ u => (mInv F u ∧ u.2.2 = J)) := by
  intro sz
  refine z_body (by decide +kernel) (Nat.le_of_ble_eq_true rfl) (fun p e s m below meth c ls hx hb hml hr ht hown hlocks hsz hK hP hD hS hl => ?_)
  have hA : ∀ a, s.heap.size ≤ a → zA 25 q sz a := fun a h => Or.inr (hsz ▸ h)
  have hl : lv_has ls 5 [(0, .ref (q 0)), (1, .int (pa0)), (2, .int (pa1))] := hl
  refine lv_aload_n hx hb dX11_house_0 rfl (lv_at hl 0 rfl) ?_
  refine lv_iload_n hx hb dX11_house_1 rfl (lv_at hl 1 rfl) ?_
  refine lv_i2l (v := (pa0).toInt64) hx hb dX11_house_2 rfl ?_
  refine z_callVi (k := 0) (As := [.long ((pa0).toInt64)]) (rest := []) hx hb hml hown ht (mk_X11_isHouse l D q cA F _ _ _ hI ((pa0).toInt64) (zR_i2l (zR_any (pa0)))) hw_6_176 hmX11_isHouse ⟨rfl, rfl⟩ (na := 1) rfl (by decide +kernel) (by decide) (by decide) rfl rfl hK hP hD hS hA hl.1 rfl (Nat.le_of_ble_eq_true rfl) ⟨Nat.zero_le _, Nat.zero_le _⟩ dX11_house_3 (fun r_1 I_1 R_1 J_1 H locs hp_1 hP hD hS _ _ => ?_)
  rcases hp_1 with ⟨rfl, hu_1, f0_1⟩ | ⟨rfl, hu_1⟩
  · cases hu_1
    have f_2 : zR 0 4 (pa0) := zL_back f0_1
    refine lv_if_eq (tgt := 21) hx hb dX11_house_6 (by decide) (fun c_0 => absurd c_0 (zD_ne zk_1 zk_z (by decide))) (fun _ => ?_)
    refine lv_iload_n hx hb dX11_house_9 rfl (lv_at hl 2 rfl) ?_
    refine lv_i2l (v := (pa1).toInt64) hx hb dX11_house_10 rfl ?_
    refine lv_lconst (v := (0 : Int64)) hx hb dX11_house_11 (by decide +kernel) ?_
    refine lv_ldc2 (v := (4 : Int64)) hx hb hown (ht _ hw_6_180) dX11_house_12 ?_
    refine z_callSi (As := [.long ((pa1).toInt64), .long ((0 : Int64)), .long ((4 : Int64))]) (rest := []) hx hb hml hown ht (mk_X11_in l D q cA F _ _ _ hI ((pa1).toInt64) ((0 : Int64)) ((4 : Int64))) hw_6_86 hmX11_in ⟨rfl, rfl⟩ (na := 3) rfl (by decide +kernel) (by decide) hK hP hD hS hA hl.1 rfl (Nat.le_of_ble_eq_true rfl) ⟨Nat.zero_le _, Nat.zero_le _⟩ dX11_house_15 (fun r_3 I_3 R_3 J_3 H locs hp_3 hP hD hS _ _ => ?_)
    rcases hp_3 with ⟨rfl, hu_3, h1_3, h2_3⟩ | ⟨rfl, hu_3, h1_3 | h2_3⟩
    · cases hu_3
      have f_4 : zL 0 2147483647 ((pa1).toInt64) := zL_ley h1_3 zkl_0 (zR_i2l (zR_any (pa1))) (by decide)
      have f_5 : zR 0 2147483647 (pa1) := zL_back f_4
      have f_6 : zL 0 4 ((pa1).toInt64) := zL_lex h2_3 f_4 zkl_4 (by decide)
      have f_7 : zR 0 4 (pa1) := zL_back f_6
      refine lv_if_ne (tgt := 24) hx hb dX11_house_18 (by decide) (fun _ => ?_) (fun c_0 => absurd c_0 (zD_ne zk_1 zk_z (by decide)))
      refine lv_aload_n hx hb dX11_house_24 rfl (lv_at hl 0 rfl) ?_
      refine z_callVv (k := 0) (As := []) (rest := []) hx hb hml hown ht (mk_X11_asItIs l D q cA F _ _ _ hI ) hw_6_181 hmX11_asItIs ⟨rfl, rfl⟩ (na := 0) rfl (by decide +kernel) (by decide) (by decide) rfl rfl hK hP hD hS hA hl.1 rfl (Nat.le_of_ble_eq_true rfl) ⟨Nat.zero_le _, Nat.zero_le _⟩ dX11_house_25 (fun I_8 R_8 J_8 H locs hp_8 hP hD hS _ _ => ?_)
      obtain ⟨hv_8, hj_8, hs_8⟩ := hp_8
      try dsimp only at hj_8
      subst J_8
      refine lv_iload_n hx hb dX11_house_28 rfl (lv_at hl 2 rfl) ?_
      refine lv_if_ne (tgt := 39) hx hb dX11_house_29 (by decide) (fun c_9 => ?_) (fun c_9 => ?_)
      · have t_c_9 := z_eqF c_9
        have f_10 : zR 1 4 (pa1) := zR_nex t_c_9 f_7 zk_z (by decide)
        refine lv_iload_n hx hb dX11_house_39 rfl (lv_at hl 2 rfl) ?_
        refine lv_iconst (v := nI 1) hx hb dX11_house_40 (by decide +kernel) ?_
        refine lv_icmp_ne (tgt := 51) hx hb dX11_house_41 (by decide) (fun c_11 => ?_) (fun c_11 => ?_)
        · have t_c_11 := z_eqF c_11
          have f_12 : zR 2 4 (pa1) := zR_nex t_c_11 f_10 zk_1 (by decide)
          refine lv_iload_n hx hb dX11_house_51 rfl (lv_at hl 2 rfl) ?_
          refine lv_iconst (v := nI 2) hx hb dX11_house_52 (by decide +kernel) ?_
          refine lv_icmp_ne (tgt := 62) hx hb dX11_house_53 (by decide) (fun c_13 => ?_) (fun c_13 => ?_)
          · have t_c_13 := z_eqF c_13
            have f_14 : zR 3 4 (pa1) := zR_nex t_c_13 f_12 zk_2 (by decide)
            refine lv_iconst (v := nI 0) hx hb dX11_house_62 (by decide +kernel) ?_
            refine lv_istore_n (lv' := [(3, .int (nI 0)), (0, .ref (q 0)), (1, .int (pa0)), (2, .int (pa1))]) hx hb dX11_house_63 rfl hl (by decide) rfl (fun ls hl => ?_)
            refine lv_iconst (v := nI 0) hx hb dX11_house_64 (by decide +kernel) ?_
            refine lv_istore (lv' := [(4, .int (nI 0)), (3, .int (nI 0)), (0, .ref (q 0)), (1, .int (pa0)), (2, .int (pa1))]) hx hb dX11_house_65 hl (by decide) rfl (fun ls hl => ?_)
            have loop_103 : ∀ N : Nat, ∀ x_101 : Int32, zR 0 16777215 x_101 → ∀ x_102 : Int32, zR 0 24 x_102 → (2147483648 - (x_102).toInt).toNat < N → ∀ (H : Heap) (locs : List Loc), va_P D vwCl (zw 25 q (zMd q cA) I_8 R_8 J) H → va_D (zA 25 q sz) (zw 25 q (zMd q cA) I_8 R_8 J) → va_S (zA 25 q sz) s.heap H locs → ∀ ls : Array Slot, lv_has ls 5 [(0, .ref (q 0)), (1, .int (pa0)), (2, .int (pa1)), (3, .int (x_101)), (4, .int (x_102))] → W p l e ({ frames := 6, cells := 0, slots := 0, locals := 155 } : Room) s m ([.ref (q 0), .int (pa0), .int (pa1)] : List Value).toArray below meth c H locs 0 0 (MQ below (va_Qi (fun _ u => (mInv F u ∧ u.2.2 = J)) (zB D vwCl 25 q (zMd q cA) sz) (zA 25 q sz)) ([.ref (q 0), .int (pa0), .int (pa1)] : List Value).toArray s 0 0 (zA 25 q sz)) (F0 m 67 ls []) := by
              intro N
              induction N with
              | zero => intro x_101 hx_101 x_102 hx_102 hN; exact absurd hN (Nat.not_lt_zero _)
              | succ N ih_105 =>
                intro x_101 hx_101 x_102 hx_102 hN_104 H locs hP hD hS ls hl
                refine lv_iload hx hb dX11_house_67 (lv_at hl 4 rfl) ?_
                refine lv_aload_n hx hb dX11_house_69 rfl (lv_at hl 0 rfl) ?_
                refine z_get hx hb ht hown hK hP ziX11 rfl 0 (by decide) 26 (by decide) hw_5_213 rfl (v := .int (I_8 0 26)) rfl dX11_house_70 ?_
                have f_106 : zR 0 24 (I_8 0 26) := mI hv_8 0 26
                refine lv_icmp_ge (tgt := 128) hx hb dX11_house_73 (by decide) (fun c_107 => ?_) (fun c_107 => ?_)
                · have t_c_107 := z_leT c_107
                  refine lv_iload_n hx hb dX11_house_128 rfl (lv_at hl 3 rfl) ?_
                  exact z_iret (v := x_101) hx hb hr hlocks hP hD hS dX11_house_129 ⟨hv_8, rfl⟩
                · have t_c_107 := z_leF c_107
                  have f_108 : zR 0 23 (x_102) := zR_ltx t_c_107 hx_102 f_106 (by decide)
                  have f_109 : zR 1 24 (I_8 0 26) := zR_lty t_c_107 hx_102 f_106 (by decide)
                  refine lv_iload_n hx hb dX11_house_76 rfl (lv_at hl 3 rfl) ?_
                  refine lv_aload_n hx hb dX11_house_77 rfl (lv_at hl 0 rfl) ?_
                  refine lv_iload hx hb dX11_house_78 (lv_at hl 4 rfl) ?_
                  have t_120 : ∀ x_119 : Int32, zR 0 8388608 x_119 → ∀ (H : Heap) (locs : List Loc), va_P D vwCl (zw 25 q (zMd q cA) I_8 R_8 J) H → va_D (zA 25 q sz) (zw 25 q (zMd q cA) I_8 R_8 J) → va_S (zA 25 q sz) s.heap H locs → ∀ ls : Array Slot, lv_has ls 5 [(0, .ref (q 0)), (1, .int (pa0)), (2, .int (pa1)), (3, .int (x_101)), (4, .int (x_102))] → W p l e ({ frames := 6, cells := 0, slots := 0, locals := 155 } : Room) s m ([.ref (q 0), .int (pa0), .int (pa1)] : List Value).toArray below meth c H locs 0 0 (MQ below (va_Qi (fun _ u => (mInv F u ∧ u.2.2 = J)) (zB D vwCl 25 q (zMd q cA) sz) (zA 25 q sz)) ([.ref (q 0), .int (pa0), .int (pa1)] : List Value).toArray s 0 0 (zA 25 q sz)) (F0 m 120 ls [.int (x_119), .int (x_101)]) := by
                    intro x_119 hx_119 H locs hP hD hS ls hl
                    refine lv_ior hx hb dX11_house_120 ?_
                    refine z_rng (a := 0) (b := 16777215) (zR_or 24 hx_101 hx_119 (by decide)) (fun v_121 hv_121 => ?_)
                    refine lv_istore_n (lv' := [(3, .int (v_121)), (0, .ref (q 0)), (1, .int (pa0)), (2, .int (pa1)), (4, .int (x_102))]) hx hb dX11_house_121 rfl hl (by decide) rfl (fun ls hl => ?_)
                    obtain ⟨v_122, ev_122⟩ : ∃ y : Int32, y = x_102 + nI 1 := ⟨_, rfl⟩
                    have hv_122 : zR 1 24 v_122 := ev_122 ▸ zR_add f_108 zk_1 (by decide)
                    have mv_122 : v_122.toInt = (x_102).toInt + 1 := by rw [ev_122, zR_addE f_108 zk_1 (by decide)]; rfl
                    refine lv_iinc (v := v_122) (lv' := [(4, .int (v_122)), (3, .int (v_121)), (0, .ref (q 0)), (1, .int (pa0)), (2, .int (pa1))]) hx hb dX11_house_122 hl (k := 4) rfl (ev_122 ▸ rfl) (by decide) rfl (fun ls hl => ?_)
                    refine lv_goto (tgt := 67) hx hb dX11_house_125 (by decide) ?_
                    exact ih_105 (v_121) hv_121 (v_122) (zR_w hv_122 (by decide)) (z2_up mv_122 (by decide) hN_104) _ _ hP hD hS _ (lv_sub hl [2, 3, 4, 1, 0] rfl)
                  refine z_callVi (k := 0) (As := [.int (x_102)]) (rest := [.int (x_101)]) hx hb hml hown ht (mk_X11_isOpen_1 l D q cA F _ _ _ hv_8 (x_102) f_108) hw_6_230 hmX11_isOpen ⟨rfl, rfl⟩ (na := 1) rfl (by decide +kernel) (by decide) (by decide) rfl rfl hK hP hD hS hA hl.1 rfl (Nat.le_of_ble_eq_true rfl) ⟨Nat.zero_le _, Nat.zero_le _⟩ dX11_house_80 (fun r_110 I_110 R_110 J_110 H locs hp_110 hP hD hS _ _ => ?_)
                  rcases hp_110 with ⟨rfl, hu_110⟩ | ⟨rfl, hu_110⟩
                  · cases hu_110
                    refine lv_if_eq (tgt := 119) hx hb dX11_house_83 (by decide) (fun c_0 => absurd c_0 (zD_ne zk_1 zk_z (by decide))) (fun _ => ?_)
                    refine lv_iload_n hx hb dX11_house_86 rfl (lv_at hl 2 rfl) ?_
                    refine lv_iconst (v := nI 3) hx hb dX11_house_87 (by decide +kernel) ?_
                    have t_129 : ∀ x_128 : Int32, zR 0 4 x_128 → ∀ (H : Heap) (locs : List Loc), va_P D vwCl (zw 25 q (zMd q cA) I_8 R_8 J) H → va_D (zA 25 q sz) (zw 25 q (zMd q cA) I_8 R_8 J) → va_S (zA 25 q sz) s.heap H locs → ∀ ls : Array Slot, lv_has ls 5 [(0, .ref (q 0)), (1, .int (pa0)), (2, .int (pa1)), (3, .int (x_101)), (4, .int (x_102))] → W p l e ({ frames := 6, cells := 0, slots := 0, locals := 155 } : Room) s m ([.ref (q 0), .int (pa0), .int (pa1)] : List Value).toArray below meth c H locs 0 0 (MQ below (va_Qi (fun _ u => (mInv F u ∧ u.2.2 = J)) (zB D vwCl 25 q (zMd q cA) sz) (zA 25 q sz)) ([.ref (q 0), .int (pa0), .int (pa1)] : List Value).toArray s 0 0 (zA 25 q sz)) (F0 m 108 ls [.int (x_128), .int (x_101)]) := by
                      intro x_128 hx_128 H locs hP hD hS ls hl
                      refine lv_iload_n hx hb dX11_house_108 rfl (lv_at hl 1 rfl) ?_
                      refine lv_icmp_ne (tgt := 119) hx hb dX11_house_109 (by decide) (fun c_130 => ?_) (fun c_130 => ?_)
                      · have t_c_130 := z_eqF c_130
                        refine lv_iconst (v := nI 0) hx hb dX11_house_119 (by decide +kernel) ?_
                        exact t_120 (nI 0) (zR_w zk_0 (by decide)) _ _ hP hD hS _ (lv_sub hl [0, 1, 2, 3, 4] rfl)
                      · have t_c_130 := z_eqT c_130
                        refine lv_iconst (v := nI 1) hx hb dX11_house_112 (by decide +kernel) ?_
                        refine lv_iload hx hb dX11_house_113 (lv_at hl 4 rfl) ?_
                        refine lv_ishl hx hb dX11_house_115 ?_
                        refine z_rng (a := 1) (b := 8388608) (zR_shl1 23 f_108 (by decide)) (fun v_131 hv_131 => ?_)
                        refine lv_goto (tgt := 120) hx hb dX11_house_116 (by decide) ?_
                        exact t_120 (v_131) (zR_w hv_131 (by decide)) _ _ hP hD hS _ (lv_sub hl [0, 1, 2, 3, 4] rfl)
                    refine lv_icmp_ne (tgt := 101) hx hb dX11_house_88 (by decide) (fun c_123 => ?_) (fun c_123 => ?_)
                    · have t_c_123 := z_eqF c_123
                      have f_132 : zR 4 4 (pa1) := zR_nex t_c_123 f_14 zk_3 (by decide)
                      refine lv_aload_n hx hb dX11_house_101 rfl (lv_at hl 0 rfl) ?_
                      refine z_get hx hb ht hown hK hP ziX11 rfl 0 (by decide) 18 (by decide) hw_5_205 rfl (v := .ref (q 10)) rfl dX11_house_102 ?_
                      refine lv_iload hx hb dX11_house_105 (lv_at hl 4 rfl) ?_
                      refine z_iald hx hb hK hP 10 (by decide) 9 rfl rfl (zR_vin f_108 (by decide)) dX11_house_107 ?_
                      refine z_eqi (y := R_8 10 (x_102).toNatClampNeg) rfl ?_
                      have f_133 : zR 0 4 (R_8 10 (x_102).toNatClampNeg) := mR hv_8 10 (x_102).toNatClampNeg
                      exact t_129 (R_8 10 (x_102).toNatClampNeg) f_133 _ _ hP hD hS _ (lv_sub hl [0, 1, 2, 3, 4] rfl)
                    · have t_c_123 := z_eqT c_123
                      have f_134 : zR 3 3 (pa1) := zR_eqx t_c_123 zk_3
                      refine lv_aload_n hx hb dX11_house_91 rfl (lv_at hl 0 rfl) ?_
                      refine z_get hx hb ht hown hK hP ziX11 rfl 0 (by decide) 20 (by decide) hw_5_207 rfl (v := .ref (q 12)) rfl dX11_house_92 ?_
                      refine lv_iload hx hb dX11_house_95 (lv_at hl 4 rfl) ?_
                      refine z_iald hx hb hK hP 12 (by decide) 11 rfl rfl (zR_vin f_108 (by decide)) dX11_house_97 ?_
                      refine z_eqi (y := R_8 12 (x_102).toNatClampNeg) rfl ?_
                      have f_135 : zR 0 4 (R_8 12 (x_102).toNatClampNeg) := mR hv_8 12 (x_102).toNatClampNeg
                      refine lv_goto (tgt := 108) hx hb dX11_house_98 (by decide) ?_
                      exact t_129 (R_8 12 (x_102).toNatClampNeg) f_135 _ _ hP hD hS _ (lv_sub hl [0, 1, 2, 3, 4] rfl)
                  · cases hu_110
                    refine lv_if_eq (tgt := 119) hx hb dX11_house_83 (by decide) (fun _ => ?_) (fun c_0 => absurd (zD_eq zk_0 zk_z) c_0)
                    refine lv_iconst (v := nI 0) hx hb dX11_house_119 (by decide +kernel) ?_
                    exact t_120 (nI 0) (zR_w zk_0 (by decide)) _ _ hP hD hS _ (lv_sub hl [0, 1, 2, 3, 4] rfl)
            exact loop_103 _ (nI 0) (zR_w zk_0 (by decide)) (nI 0) (zR_w zk_0 (by decide)) (Nat.lt_succ_self _) _ _ hP hD hS _ (lv_sub hl [2, 3, 4, 1, 0] rfl)
          · have t_c_13 := z_eqT c_13
            have f_136 : zR 2 2 (pa1) := zR_eqx t_c_13 zk_2
            refine lv_aload_n hx hb dX11_house_56 rfl (lv_at hl 0 rfl) ?_
            refine lv_iload_n hx hb dX11_house_57 rfl (lv_at hl 1 rfl) ?_
            refine z_callVi (k := 0) (As := [.int (pa0)]) (rest := []) hx hb hml hown ht (mk_X11_thingsIn l D q cA F _ _ _ hv_8 (pa0) f_2) hw_6_226 hmX11_thingsIn ⟨rfl, rfl⟩ (na := 1) rfl (by decide +kernel) (by decide) (by decide) rfl rfl hK hP hD hS hA hl.1 rfl (Nat.le_of_ble_eq_true rfl) ⟨Nat.zero_le _, Nat.zero_le _⟩ dX11_house_58 (fun r_137 I_137 R_137 J_137 H locs hp_137 hP hD hS _ _ => ?_)
            obtain ⟨hr_137, hu_137⟩ := hp_137
            cases hu_137
            exact z_iret (v := r_137) hx hb hr hlocks hP hD hS dX11_house_61 ⟨hv_8, rfl⟩
        · have t_c_11 := z_eqT c_11
          have f_138 : zR 1 1 (pa1) := zR_eqx t_c_11 zk_1
          refine lv_aload_n hx hb dX11_house_44 rfl (lv_at hl 0 rfl) ?_
          refine z_get hx hb ht hown hK hP ziX11 rfl 0 (by decide) 16 (by decide) hw_5_203 rfl (v := .ref (q 8)) rfl dX11_house_45 ?_
          refine lv_iload_n hx hb dX11_house_48 rfl (lv_at hl 1 rfl) ?_
          refine z_iald hx hb hK hP 8 (by decide) 7 rfl rfl (zR_vin f_2 (by decide)) dX11_house_49 ?_
          refine z_eqi (y := R_8 8 (pa0).toNatClampNeg) rfl ?_
          exact z_iret (v := R_8 8 (pa0).toNatClampNeg) hx hb hr hlocks hP hD hS dX11_house_50 ⟨hv_8, rfl⟩
      · have t_c_9 := z_eqT c_9
        have f_139 : zR 0 0 (pa1) := zR_eqx t_c_9 zk_z
        refine lv_aload_n hx hb dX11_house_32 rfl (lv_at hl 0 rfl) ?_
        refine z_get hx hb ht hown hK hP ziX11 rfl 0 (by decide) 15 (by decide) hw_5_202 rfl (v := .ref (q 7)) rfl dX11_house_33 ?_
        refine lv_iload_n hx hb dX11_house_36 rfl (lv_at hl 1 rfl) ?_
        refine z_iald hx hb hK hP 7 (by decide) 6 rfl rfl (zR_vin f_2 (by decide)) dX11_house_37 ?_
        refine z_eqi (y := R_8 7 (pa0).toNatClampNeg) rfl ?_
        exact z_iret (v := R_8 7 (pa0).toNatClampNeg) hx hb hr hlocks hP hD hS dX11_house_38 ⟨hv_8, rfl⟩
    · cases hu_3
      have f_140 : zL (-2147483648) (-1) ((pa1).toInt64) := zL_ltx h1_3 (zR_i2l (zR_any (pa1))) zkl_0 (by decide)
      have f_141 : zR (-2147483648) (-1) (pa1) := zL_back f_140
      refine lv_if_ne (tgt := 24) hx hb dX11_house_18 (by decide) (fun c_0 => absurd (zD_eq zk_0 zk_z) c_0) (fun _ => ?_)
      refine lv_bipush (v := (-2)) hx hb dX11_house_21 (by decide +kernel) ?_
      exact z_iret (v := (-2)) hx hb hr hlocks hP hD hS dX11_house_23 ⟨hI, rfl⟩
    · cases hu_3
      have f_142 : zL 5 2147483647 ((pa1).toInt64) := zL_lty h2_3 zkl_4 (zR_i2l (zR_any (pa1))) (by decide)
      have f_143 : zR 5 2147483647 (pa1) := zL_back f_142
      refine lv_if_ne (tgt := 24) hx hb dX11_house_18 (by decide) (fun c_0 => absurd (zD_eq zk_0 zk_z) c_0) (fun _ => ?_)
      refine lv_bipush (v := (-2)) hx hb dX11_house_21 (by decide +kernel) ?_
      exact z_iret (v := (-2)) hx hb hr hlocks hP hD hS dX11_house_23 ⟨hI, rfl⟩
  · cases hu_1
    refine lv_if_eq (tgt := 21) hx hb dX11_house_6 (by decide) (fun _ => ?_) (fun c_0 => absurd (zD_eq zk_0 zk_z) c_0)
    refine lv_bipush (v := (-2)) hx hb dX11_house_21 (by decide +kernel) ?_
    exact z_iret (v := (-2)) hx hb hr hlocks hP hD hS dX11_house_23 ⟨hI, rfl⟩
set_option maxHeartbeats 4000000 in
set_option maxRecDepth 100000 in
theorem mk_X11_isThing (l : Launch) (D : va_G) (q : Nat → Nat) (cA : Nat → ClassId) (F : Nat → Nat → Int32) (I R : Nat → Nat → Int32) (J : Nat → Nat → Int64) (hI : mInv F (I, R, J)) (pa0 : Int64) (hpa0 : zL (-2147483648) 2147483647 pa0) : zMi l D vwCl (zMtys cA) 25 q (zMd q cA) yX11_isThing cX11_isThing 3 (some .boolean) ({ frames := 1, cells := 0, slots := 0, locals := 25 } : Room) [.ref (q 0), .long (pa0)] (I, R, J) (fun r u => (r = nI 1 ∧ u = (I, R, J) ∧ zL 0 5 pa0) ∨ (r = nI 0 ∧ u = (I, R, J))) := by
  intro sz
  refine z_body (by decide +kernel) (Nat.le_of_ble_eq_true rfl) (fun p e s m below meth c ls hx hb hml hr ht hown hlocks hsz hK hP hD hS hl => ?_)
  have hA : ∀ a, s.heap.size ≤ a → zA 25 q sz a := fun a h => Or.inr (hsz ▸ h)
  have hl : lv_has ls 3 [(0, .ref (q 0)), (1, .long (pa0))] := hl
  refine lv_lload_n hx hb dX11_isThing_0 rfl (lv_at hl 1 rfl) ?_
  refine lv_lconst (v := (0 : Int64)) hx hb dX11_isThing_1 (by decide +kernel) ?_
  refine lv_aload_n hx hb dX11_isThing_2 rfl (lv_at hl 0 rfl) ?_
  refine z_get hx hb ht hown hK hP ziX11 rfl 0 (by decide) 1 (by decide) hw_5_188 rfl (v := .ref (q 1)) rfl dX11_isThing_3 ?_
  refine lv_iconst (v := nI 4) hx hb dX11_isThing_6 (by decide +kernel) ?_
  refine z_iald hx hb hK hP 1 (by decide) 0 rfl rfl (zR_vin zk_4 (by decide)) dX11_isThing_7 ?_
  refine z_eqi (y := R 1 (nI 4).toNatClampNeg) rfl ?_
  have f_1 : zR 0 6 (R 1 (nI 4).toNatClampNeg) := mR hI 1 4
  refine lv_iconst (v := nI 1) hx hb dX11_isThing_8 (by decide +kernel) ?_
  refine lv_isub hx hb dX11_isThing_9 ?_
  refine z_subc (-1) 5 (-1) f_1 zk_1 (by decide) (fun v_2 hv_2 mv_2 => ?_)
  refine lv_i2l (v := (v_2).toInt64) hx hb dX11_isThing_10 rfl ?_
  refine z_callSi (As := [.long (pa0), .long ((0 : Int64)), .long ((v_2).toInt64)]) (rest := []) hx hb hml hown ht (mk_X11_in l D q cA F _ _ _ hI (pa0) ((0 : Int64)) ((v_2).toInt64)) hw_6_86 hmX11_in ⟨rfl, rfl⟩ (na := 3) rfl (by decide +kernel) (by decide) hK hP hD hS hA hl.1 rfl (Nat.le_of_ble_eq_true rfl) ⟨Nat.zero_le _, Nat.zero_le _⟩ dX11_isThing_11 (fun r_3 I_3 R_3 J_3 H locs hp_3 hP hD hS _ _ => ?_)
  rcases hp_3 with ⟨rfl, hu_3, h1_3, h2_3⟩ | ⟨rfl, hu_3, h1_3 | h2_3⟩
  · cases hu_3
    have f_4 : zL 0 2147483647 (pa0) := zL_ley h1_3 zkl_0 hpa0 (by decide)
    have f_5 : zL 0 5 (pa0) := zL_lex h2_3 f_4 (zR_i2l hv_2) (by decide)
    have f_6 : zL 0 5 ((v_2).toInt64) := zL_ley h2_3 f_4 (zR_i2l hv_2) (by decide)
    have f_7 : zR 0 5 (v_2) := zL_back f_6
    exact z_zret (v := nI 1) hx hb hr hlocks hP hD hS (by decide +kernel) dX11_isThing_14 (Or.inl ⟨rfl, rfl, f_5⟩)
  · cases hu_3
    have f_8 : zL (-2147483648) (-1) (pa0) := zL_ltx h1_3 hpa0 zkl_0 (by decide)
    exact z_zret (v := nI 0) hx hb hr hlocks hP hD hS (by decide +kernel) dX11_isThing_14 (Or.inr ⟨rfl, rfl⟩)
  · cases hu_3
    have f_9 : zL 0 2147483647 (pa0) := zL_lty h2_3 (zR_i2l hv_2) hpa0 (by decide)
    exact z_zret (v := nI 0) hx hb hr hlocks hP hD hS (by decide +kernel) dX11_isThing_14 (Or.inr ⟨rfl, rfl⟩)
set_option maxHeartbeats 4000000 in
set_option maxRecDepth 100000 in
theorem mk_X11_thing (l : Launch) (D : va_G) (q : Nat → Nat) (cA : Nat → ClassId) (F : Nat → Nat → Int32) (I R : Nat → Nat → Int32) (J : Nat → Nat → Int64) (hI : mInv F (I, R, J)) (pa0 : Int32) (pa1 : Int32) : zMi l D vwCl (zMtys cA) 25 q (zMd q cA) yX11_thing cX11_thing 3 (some .int) ({ frames := 6, cells := 0, slots := 0, locals := 155 } : Room) [.ref (q 0), .int (pa0), .int (pa1)] (I, R, J) (fun _ u => (mInv F u ∧ u.2.2 = J)) := by
  intro sz
  refine z_body (by decide +kernel) (Nat.le_of_ble_eq_true rfl) (fun p e s m below meth c ls hx hb hml hr ht hown hlocks hsz hK hP hD hS hl => ?_)
  have hA : ∀ a, s.heap.size ≤ a → zA 25 q sz a := fun a h => Or.inr (hsz ▸ h)
  have hl : lv_has ls 3 [(0, .ref (q 0)), (1, .int (pa0)), (2, .int (pa1))] := hl
  refine lv_aload_n hx hb dX11_thing_0 rfl (lv_at hl 0 rfl) ?_
  refine lv_iload_n hx hb dX11_thing_1 rfl (lv_at hl 1 rfl) ?_
  refine lv_i2l (v := (pa0).toInt64) hx hb dX11_thing_2 rfl ?_
  refine z_callVi (k := 0) (As := [.long ((pa0).toInt64)]) (rest := []) hx hb hml hown ht (mk_X11_isThing l D q cA F _ _ _ hI ((pa0).toInt64) (zR_i2l (zR_any (pa0)))) hw_6_238 hmX11_isThing ⟨rfl, rfl⟩ (na := 1) rfl (by decide +kernel) (by decide) (by decide) rfl rfl hK hP hD hS hA hl.1 rfl (Nat.le_of_ble_eq_true rfl) ⟨Nat.zero_le _, Nat.zero_le _⟩ dX11_thing_3 (fun r_1 I_1 R_1 J_1 H locs hp_1 hP hD hS _ _ => ?_)
  rcases hp_1 with ⟨rfl, hu_1, f0_1⟩ | ⟨rfl, hu_1⟩
  · cases hu_1
    have f_2 : zR 0 5 (pa0) := zL_back f0_1
    refine lv_if_eq (tgt := 21) hx hb dX11_thing_6 (by decide) (fun c_0 => absurd c_0 (zD_ne zk_1 zk_z (by decide))) (fun _ => ?_)
    refine lv_iload_n hx hb dX11_thing_9 rfl (lv_at hl 2 rfl) ?_
    refine lv_i2l (v := (pa1).toInt64) hx hb dX11_thing_10 rfl ?_
    refine lv_lconst (v := (0 : Int64)) hx hb dX11_thing_11 (by decide +kernel) ?_
    refine lv_ldc2 (v := (2 : Int64)) hx hb hown (ht _ hw_6_85) dX11_thing_12 ?_
    refine z_callSi (As := [.long ((pa1).toInt64), .long ((0 : Int64)), .long ((2 : Int64))]) (rest := []) hx hb hml hown ht (mk_X11_in l D q cA F _ _ _ hI ((pa1).toInt64) ((0 : Int64)) ((2 : Int64))) hw_6_86 hmX11_in ⟨rfl, rfl⟩ (na := 3) rfl (by decide +kernel) (by decide) hK hP hD hS hA hl.1 rfl (Nat.le_of_ble_eq_true rfl) ⟨Nat.zero_le _, Nat.zero_le _⟩ dX11_thing_15 (fun r_3 I_3 R_3 J_3 H locs hp_3 hP hD hS _ _ => ?_)
    rcases hp_3 with ⟨rfl, hu_3, h1_3, h2_3⟩ | ⟨rfl, hu_3, h1_3 | h2_3⟩
    · cases hu_3
      have f_4 : zL 0 2147483647 ((pa1).toInt64) := zL_ley h1_3 zkl_0 (zR_i2l (zR_any (pa1))) (by decide)
      have f_5 : zR 0 2147483647 (pa1) := zL_back f_4
      have f_6 : zL 0 2 ((pa1).toInt64) := zL_lex h2_3 f_4 zkl_2 (by decide)
      have f_7 : zR 0 2 (pa1) := zL_back f_6
      refine lv_if_ne (tgt := 24) hx hb dX11_thing_18 (by decide) (fun _ => ?_) (fun c_0 => absurd c_0 (zD_ne zk_1 zk_z (by decide)))
      refine lv_aload_n hx hb dX11_thing_24 rfl (lv_at hl 0 rfl) ?_
      refine z_callVv (k := 0) (As := []) (rest := []) hx hb hml hown ht (mk_X11_asItIs l D q cA F _ _ _ hI ) hw_6_181 hmX11_asItIs ⟨rfl, rfl⟩ (na := 0) rfl (by decide +kernel) (by decide) (by decide) rfl rfl hK hP hD hS hA hl.1 rfl (Nat.le_of_ble_eq_true rfl) ⟨Nat.zero_le _, Nat.zero_le _⟩ dX11_thing_25 (fun I_8 R_8 J_8 H locs hp_8 hP hD hS _ _ => ?_)
      obtain ⟨hv_8, hj_8, hs_8⟩ := hp_8
      try dsimp only at hj_8
      subst J_8
      refine lv_iload_n hx hb dX11_thing_28 rfl (lv_at hl 2 rfl) ?_
      refine lv_if_ne (tgt := 40) hx hb dX11_thing_29 (by decide) (fun c_9 => ?_) (fun c_9 => ?_)
      · have t_c_9 := z_eqF c_9
        have f_10 : zR 1 2 (pa1) := zR_nex t_c_9 f_7 zk_z (by decide)
        refine lv_iload_n hx hb dX11_thing_40 rfl (lv_at hl 2 rfl) ?_
        refine lv_iconst (v := nI 1) hx hb dX11_thing_41 (by decide +kernel) ?_
        refine lv_icmp_ne (tgt := 54) hx hb dX11_thing_42 (by decide) (fun c_11 => ?_) (fun c_11 => ?_)
        · have t_c_11 := z_eqF c_11
          have f_12 : zR 2 2 (pa1) := zR_nex t_c_11 f_10 zk_1 (by decide)
          refine lv_aload_n hx hb dX11_thing_54 rfl (lv_at hl 0 rfl) ?_
          refine z_get hx hb ht hown hK hP ziX11 rfl 0 (by decide) 1 (by decide) hw_5_188 rfl (v := .ref (q 1)) rfl dX11_thing_55 ?_
          refine lv_bipush (v := nI 17) hx hb dX11_thing_58 (by decide +kernel) ?_
          refine lv_iconst (v := nI 2) hx hb dX11_thing_60 (by decide +kernel) ?_
          refine lv_iload_n hx hb dX11_thing_61 rfl (lv_at hl 1 rfl) ?_
          refine lv_imul hx hb dX11_thing_62 ?_
          refine z_rng (a := 0) (b := 10) (zR_mul zk_2 f_2 (by decide)) (fun v_13 hv_13 => ?_)
          refine lv_iadd hx hb dX11_thing_63 ?_
          refine z_cadd 17 27 zk_17 hv_13 (by decide) (fun v_14 hv_14 mv_14 => ?_)
          refine z_iald hx hb hK hP 1 (by decide) 0 rfl rfl (zR_vin hv_14 (by decide)) dX11_thing_64 ?_
          refine z_eqi (y := R_8 1 (v_14).toNatClampNeg) rfl ?_
          exact z_iret (v := R_8 1 (v_14).toNatClampNeg) hx hb hr hlocks hP hD hS dX11_thing_65 ⟨hv_8, rfl⟩
        · have t_c_11 := z_eqT c_11
          have f_15 : zR 1 1 (pa1) := zR_eqx t_c_11 zk_1
          refine lv_aload_n hx hb dX11_thing_45 rfl (lv_at hl 0 rfl) ?_
          refine z_get hx hb ht hown hK hP ziX11 rfl 0 (by decide) 17 (by decide) hw_5_204 rfl (v := .ref (q 9)) rfl dX11_thing_46 ?_
          refine lv_iload_n hx hb dX11_thing_49 rfl (lv_at hl 1 rfl) ?_
          refine z_iald hx hb hK hP 9 (by decide) 8 rfl rfl (zR_vin f_2 (by decide)) dX11_thing_50 ?_
          refine z_eqi (y := R_8 9 (pa0).toNatClampNeg) rfl ?_
          have f_16 : zR 0 4 (R_8 9 (pa0).toNatClampNeg) := mR hv_8 9 (pa0).toNatClampNeg
          refine lv_goto (tgt := 65) hx hb dX11_thing_51 (by decide) ?_
          exact z_iret (v := R_8 9 (pa0).toNatClampNeg) hx hb hr hlocks hP hD hS dX11_thing_65 ⟨hv_8, rfl⟩
      · have t_c_9 := z_eqT c_9
        have f_17 : zR 0 0 (pa1) := zR_eqx t_c_9 zk_z
        refine lv_aload_n hx hb dX11_thing_32 rfl (lv_at hl 0 rfl) ?_
        refine lv_iload_n hx hb dX11_thing_33 rfl (lv_at hl 1 rfl) ?_
        refine z_callVi (k := 0) (As := [.int (pa0)]) (rest := []) hx hb hml hown ht (mk_X11_worthOf l D q cA F _ _ _ hv_8 (pa0) f_2) hw_6_210 hmX11_worthOf ⟨rfl, rfl⟩ (na := 1) rfl (by decide +kernel) (by decide) (by decide) rfl rfl hK hP hD hS hA hl.1 rfl (Nat.le_of_ble_eq_true rfl) ⟨Nat.zero_le _, Nat.zero_le _⟩ dX11_thing_34 (fun r_18 I_18 R_18 J_18 H locs hp_18 hP hD hS _ _ => ?_)
        cases hp_18
        refine lv_goto (tgt := 65) hx hb dX11_thing_37 (by decide) ?_
        exact z_iret (v := r_18) hx hb hr hlocks hP hD hS dX11_thing_65 ⟨hv_8, rfl⟩
    · cases hu_3
      have f_19 : zL (-2147483648) (-1) ((pa1).toInt64) := zL_ltx h1_3 (zR_i2l (zR_any (pa1))) zkl_0 (by decide)
      have f_20 : zR (-2147483648) (-1) (pa1) := zL_back f_19
      refine lv_if_ne (tgt := 24) hx hb dX11_thing_18 (by decide) (fun c_0 => absurd (zD_eq zk_0 zk_z) c_0) (fun _ => ?_)
      refine lv_bipush (v := (-2)) hx hb dX11_thing_21 (by decide +kernel) ?_
      exact z_iret (v := (-2)) hx hb hr hlocks hP hD hS dX11_thing_23 ⟨hI, rfl⟩
    · cases hu_3
      have f_21 : zL 3 2147483647 ((pa1).toInt64) := zL_lty h2_3 zkl_2 (zR_i2l (zR_any (pa1))) (by decide)
      have f_22 : zR 3 2147483647 (pa1) := zL_back f_21
      refine lv_if_ne (tgt := 24) hx hb dX11_thing_18 (by decide) (fun c_0 => absurd (zD_eq zk_0 zk_z) c_0) (fun _ => ?_)
      refine lv_bipush (v := (-2)) hx hb dX11_thing_21 (by decide +kernel) ?_
      exact z_iret (v := (-2)) hx hb hr hlocks hP hD hS dX11_thing_23 ⟨hI, rfl⟩
  · cases hu_1
    refine lv_if_eq (tgt := 21) hx hb dX11_thing_6 (by decide) (fun _ => ?_) (fun c_0 => absurd (zD_eq zk_0 zk_z) c_0)
    refine lv_bipush (v := (-2)) hx hb dX11_thing_21 (by decide +kernel) ?_
    exact z_iret (v := (-2)) hx hb hr hlocks hP hD hS dX11_thing_23 ⟨hI, rfl⟩
set_option maxHeartbeats 4000000 in
set_option maxRecDepth 100000 in
theorem mk_X11_wantOf (l : Launch) (D : va_G) (q : Nat → Nat) (cA : Nat → ClassId) (F : Nat → Nat → Int32) (I R : Nat → Nat → Int32) (J : Nat → Nat → Int64) (hI : mInv F (I, R, J)) (pa0 : Int32) (hpa0 : zR 0 4 pa0) (pa1 : Int32) (hpa1 : zR 0 5 pa1) : zMi l D vwCl (zMtys cA) 25 q (zMd q cA) yX11_wantOf cX11_wantOf 3 (some .int) ({ frames := 0, cells := 0, slots := 0, locals := 0 } : Room) [.ref (q 0), .int (pa0), .int (pa1)] (I, R, J) (fun _ u => u = (I, R, J)) := by
  intro sz
  refine z_body (by decide +kernel) (Nat.le_of_ble_eq_true rfl) (fun p e s m below meth c ls hx hb hml hr ht hown hlocks hsz hK hP hD hS hl => ?_)
  have hA : ∀ a, s.heap.size ≤ a → zA 25 q sz a := fun a h => Or.inr (hsz ▸ h)
  have hl : lv_has ls 3 [(0, .ref (q 0)), (1, .int (pa0)), (2, .int (pa1))] := hl
  refine lv_aload_n hx hb dX11_wantOf_0 rfl (lv_at hl 0 rfl) ?_
  refine z_get hx hb ht hown hK hP ziX11 rfl 0 (by decide) 1 (by decide) hw_5_188 rfl (v := .ref (q 1)) rfl dX11_wantOf_1 ?_
  refine lv_bipush (v := nI 29) hx hb dX11_wantOf_4 (by decide +kernel) ?_
  refine lv_bipush (v := nI 6) hx hb dX11_wantOf_6 (by decide +kernel) ?_
  refine lv_iload_n hx hb dX11_wantOf_8 rfl (lv_at hl 1 rfl) ?_
  refine lv_imul hx hb dX11_wantOf_9 ?_
  refine z_rng (a := 0) (b := 24) (zR_mul zk_6 hpa0 (by decide)) (fun v_1 hv_1 => ?_)
  refine lv_iadd hx hb dX11_wantOf_10 ?_
  refine z_cadd 29 53 zk_29 hv_1 (by decide) (fun v_2 hv_2 mv_2 => ?_)
  refine lv_iload_n hx hb dX11_wantOf_11 rfl (lv_at hl 2 rfl) ?_
  refine lv_iadd hx hb dX11_wantOf_12 ?_
  refine z_rng (a := 29) (b := 58) (zR_add hv_2 hpa1 (by decide)) (fun v_3 hv_3 => ?_)
  refine z_iald hx hb hK hP 1 (by decide) 0 rfl rfl (zR_vin hv_3 (by decide)) dX11_wantOf_13 ?_
  refine z_eqi (y := R 1 (v_3).toNatClampNeg) rfl ?_
  exact z_iret (v := R 1 (v_3).toNatClampNeg) hx hb hr hlocks hP hD hS dX11_wantOf_14 rfl
set_option maxHeartbeats 4000000 in
set_option maxRecDepth 100000 in
theorem mk_X11_valueOf (l : Launch) (D : va_G) (q : Nat → Nat) (cA : Nat → ClassId) (F : Nat → Nat → Int32) (I R : Nat → Nat → Int32) (J : Nat → Nat → Int64) (hI : mInv F (I, R, J)) (pa0 : Int32) (hpa0 : zR 0 4 pa0) (pa1 : Int32) (hpa1 : zR 0 5 pa1) : zMi l D vwCl (zMtys cA) 25 q (zMd q cA) yX11_valueOf cX11_valueOf 3 (some .int) ({ frames := 1, cells := 0, slots := 0, locals := 22 } : Room) [.ref (q 0), .int (pa0), .int (pa1)] (I, R, J) (fun _ u => u = (I, R, J)) := by
  intro sz
  refine z_body (by decide +kernel) (Nat.le_of_ble_eq_true rfl) (fun p e s m below meth c ls hx hb hml hr ht hown hlocks hsz hK hP hD hS hl => ?_)
  have hA : ∀ a, s.heap.size ≤ a → zA 25 q sz a := fun a h => Or.inr (hsz ▸ h)
  have hl : lv_has ls 3 [(0, .ref (q 0)), (1, .int (pa0)), (2, .int (pa1))] := hl
  refine lv_aload_n hx hb dX11_valueOf_0 rfl (lv_at hl 0 rfl) ?_
  refine lv_iload_n hx hb dX11_valueOf_1 rfl (lv_at hl 2 rfl) ?_
  refine z_callVi (k := 0) (As := [.int (pa1)]) (rest := []) hx hb hml hown ht (mk_X11_worthOf l D q cA F _ _ _ hI (pa1) hpa1) hw_6_210 hmX11_worthOf ⟨rfl, rfl⟩ (na := 1) rfl (by decide +kernel) (by decide) (by decide) rfl rfl hK hP hD hS hA hl.1 rfl (Nat.le_of_ble_eq_true rfl) ⟨Nat.zero_le _, Nat.zero_le _⟩ dX11_valueOf_2 (fun r_1 I_1 R_1 J_1 H locs hp_1 hP hD hS _ _ => ?_)
  cases hp_1
  refine lv_aload_n hx hb dX11_valueOf_5 rfl (lv_at hl 0 rfl) ?_
  refine lv_iload_n hx hb dX11_valueOf_6 rfl (lv_at hl 1 rfl) ?_
  refine lv_iload_n hx hb dX11_valueOf_7 rfl (lv_at hl 2 rfl) ?_
  refine z_callVi (k := 0) (As := [.int (pa0), .int (pa1)]) (rest := [.int (r_1)]) hx hb hml hown ht (mk_X11_wantOf l D q cA F _ _ _ hI (pa0) hpa0 (pa1) hpa1) hw_7_10 hmX11_wantOf ⟨rfl, rfl⟩ (na := 2) rfl (by decide +kernel) (by decide) (by decide) rfl rfl hK hP hD hS hA hl.1 rfl (Nat.le_of_ble_eq_true rfl) ⟨Nat.zero_le _, Nat.zero_le _⟩ dX11_valueOf_8 (fun r_2 I_2 R_2 J_2 H locs hp_2 hP hD hS _ _ => ?_)
  cases hp_2
  refine lv_iadd hx hb dX11_valueOf_11 ?_
  refine z_any (fun v_3 => ?_)
  exact z_iret (v := v_3) hx hb hr hlocks hP hD hS dX11_valueOf_12 rfl
set_option maxHeartbeats 4000000 in
set_option maxRecDepth 100000 in
theorem mk_X11_value (l : Launch) (D : va_G) (q : Nat → Nat) (cA : Nat → ClassId) (F : Nat → Nat → Int32) (I R : Nat → Nat → Int32) (J : Nat → Nat → Int64) (hI : mInv F (I, R, J)) (pa0 : Int32) (pa1 : Int32) : zMi l D vwCl (zMtys cA) 25 q (zMd q cA) yX11_value cX11_value 3 (some .int) ({ frames := 2, cells := 0, slots := 0, locals := 47 } : Room) [.ref (q 0), .int (pa0), .int (pa1)] (I, R, J) (fun _ u => u = (I, R, J)) := by
  intro sz
  refine z_body (by decide +kernel) (Nat.le_of_ble_eq_true rfl) (fun p e s m below meth c ls hx hb hml hr ht hown hlocks hsz hK hP hD hS hl => ?_)
  have hA : ∀ a, s.heap.size ≤ a → zA 25 q sz a := fun a h => Or.inr (hsz ▸ h)
  have hl : lv_has ls 3 [(0, .ref (q 0)), (1, .int (pa0)), (2, .int (pa1))] := hl
  refine lv_aload_n hx hb dX11_value_0 rfl (lv_at hl 0 rfl) ?_
  refine lv_iload_n hx hb dX11_value_1 rfl (lv_at hl 1 rfl) ?_
  refine lv_i2l (v := (pa0).toInt64) hx hb dX11_value_2 rfl ?_
  refine z_callVi (k := 0) (As := [.long ((pa0).toInt64)]) (rest := []) hx hb hml hown ht (mk_X11_isHouse l D q cA F _ _ _ hI ((pa0).toInt64) (zR_i2l (zR_any (pa0)))) hw_6_176 hmX11_isHouse ⟨rfl, rfl⟩ (na := 1) rfl (by decide +kernel) (by decide) (by decide) rfl rfl hK hP hD hS hA hl.1 rfl (Nat.le_of_ble_eq_true rfl) ⟨Nat.zero_le _, Nat.zero_le _⟩ dX11_value_3 (fun r_1 I_1 R_1 J_1 H locs hp_1 hP hD hS _ _ => ?_)
  rcases hp_1 with ⟨rfl, hu_1, f0_1⟩ | ⟨rfl, hu_1⟩
  · cases hu_1
    have f_2 : zR 0 4 (pa0) := zL_back f0_1
    refine lv_if_eq (tgt := 27) hx hb dX11_value_6 (by decide) (fun c_0 => absurd c_0 (zD_ne zk_1 zk_z (by decide))) (fun _ => ?_)
    refine lv_aload_n hx hb dX11_value_9 rfl (lv_at hl 0 rfl) ?_
    refine lv_iload_n hx hb dX11_value_10 rfl (lv_at hl 2 rfl) ?_
    refine lv_i2l (v := (pa1).toInt64) hx hb dX11_value_11 rfl ?_
    refine z_callVi (k := 0) (As := [.long ((pa1).toInt64)]) (rest := []) hx hb hml hown ht (mk_X11_isThing l D q cA F _ _ _ hI ((pa1).toInt64) (zR_i2l (zR_any (pa1)))) hw_6_238 hmX11_isThing ⟨rfl, rfl⟩ (na := 1) rfl (by decide +kernel) (by decide) (by decide) rfl rfl hK hP hD hS hA hl.1 rfl (Nat.le_of_ble_eq_true rfl) ⟨Nat.zero_le _, Nat.zero_le _⟩ dX11_value_12 (fun r_3 I_3 R_3 J_3 H locs hp_3 hP hD hS _ _ => ?_)
    rcases hp_3 with ⟨rfl, hu_3, f0_3⟩ | ⟨rfl, hu_3⟩
    · cases hu_3
      have f_4 : zR 0 5 (pa1) := zL_back f0_3
      refine lv_if_eq (tgt := 27) hx hb dX11_value_15 (by decide) (fun c_0 => absurd c_0 (zD_ne zk_1 zk_z (by decide))) (fun _ => ?_)
      refine lv_aload_n hx hb dX11_value_18 rfl (lv_at hl 0 rfl) ?_
      refine lv_iload_n hx hb dX11_value_19 rfl (lv_at hl 1 rfl) ?_
      refine lv_iload_n hx hb dX11_value_20 rfl (lv_at hl 2 rfl) ?_
      refine z_callVi (k := 0) (As := [.int (pa0), .int (pa1)]) (rest := []) hx hb hml hown ht (mk_X11_valueOf l D q cA F _ _ _ hI (pa0) f_2 (pa1) f_4) hw_7_6 hmX11_valueOf ⟨rfl, rfl⟩ (na := 2) rfl (by decide +kernel) (by decide) (by decide) rfl rfl hK hP hD hS hA hl.1 rfl (Nat.le_of_ble_eq_true rfl) ⟨Nat.zero_le _, Nat.zero_le _⟩ dX11_value_21 (fun r_5 I_5 R_5 J_5 H locs hp_5 hP hD hS _ _ => ?_)
      cases hp_5
      refine lv_goto (tgt := 29) hx hb dX11_value_24 (by decide) ?_
      exact z_iret (v := r_5) hx hb hr hlocks hP hD hS dX11_value_29 rfl
    · cases hu_3
      refine lv_if_eq (tgt := 27) hx hb dX11_value_15 (by decide) (fun _ => ?_) (fun c_0 => absurd (zD_eq zk_0 zk_z) c_0)
      refine lv_bipush (v := (-2)) hx hb dX11_value_27 (by decide +kernel) ?_
      exact z_iret (v := (-2)) hx hb hr hlocks hP hD hS dX11_value_29 rfl
  · cases hu_1
    refine lv_if_eq (tgt := 27) hx hb dX11_value_6 (by decide) (fun _ => ?_) (fun c_0 => absurd (zD_eq zk_0 zk_z) c_0)
    refine lv_bipush (v := (-2)) hx hb dX11_value_27 (by decide +kernel) ?_
    exact z_iret (v := (-2)) hx hb hr hlocks hP hD hS dX11_value_29 rfl
set_option maxHeartbeats 4000000 in
set_option maxRecDepth 100000 in
theorem mk_X11_isPaper (l : Launch) (D : va_G) (q : Nat → Nat) (cA : Nat → ClassId) (F : Nat → Nat → Int32) (I R : Nat → Nat → Int32) (J : Nat → Nat → Int64) (hI : mInv F (I, R, J)) (pa0 : Int32) : zMi l D vwCl (zMtys cA) 25 q (zMd q cA) yX11_isPaper cX11_isPaper 2 (some .boolean) ({ frames := 6, cells := 0, slots := 0, locals := 155 } : Room) [.ref (q 0), .int (pa0)] (I, R, J) (fun r u => (r = nI 1 ∧ (mInv F u ∧ u.2.2 = J) ∧ zR 0 23 pa0) ∨ (r = nI 0 ∧ (mInv F u ∧ u.2.2 = J))) := by
  intro sz
  refine z_body (by decide +kernel) (Nat.le_of_ble_eq_true rfl) (fun p e s m below meth c ls hx hb hml hr ht hown hlocks hsz hK hP hD hS hl => ?_)
  have hA : ∀ a, s.heap.size ≤ a → zA 25 q sz a := fun a h => Or.inr (hsz ▸ h)
  have hl : lv_has ls 2 [(0, .ref (q 0)), (1, .int (pa0))] := hl
  refine lv_aload_n hx hb dX11_isPaper_0 rfl (lv_at hl 0 rfl) ?_
  refine z_callVv (k := 0) (As := []) (rest := []) hx hb hml hown ht (mk_X11_asItIs l D q cA F _ _ _ hI ) hw_6_181 hmX11_asItIs ⟨rfl, rfl⟩ (na := 0) rfl (by decide +kernel) (by decide) (by decide) rfl rfl hK hP hD hS hA hl.1 rfl (Nat.le_of_ble_eq_true rfl) ⟨Nat.zero_le _, Nat.zero_le _⟩ dX11_isPaper_1 (fun I_1 R_1 J_1 H locs hp_1 hP hD hS _ _ => ?_)
  obtain ⟨hv_1, hj_1, hs_1⟩ := hp_1
  try dsimp only at hj_1
  subst J_1
  refine lv_iload_n hx hb dX11_isPaper_4 rfl (lv_at hl 1 rfl) ?_
  refine lv_i2l (v := (pa0).toInt64) hx hb dX11_isPaper_5 rfl ?_
  refine lv_lconst (v := (0 : Int64)) hx hb dX11_isPaper_6 (by decide +kernel) ?_
  refine lv_aload_n hx hb dX11_isPaper_7 rfl (lv_at hl 0 rfl) ?_
  refine z_get hx hb ht hown hK hP ziX11 rfl 0 (by decide) 26 (by decide) hw_5_213 rfl (v := .int (I_1 0 26)) rfl dX11_isPaper_8 ?_
  have f_2 : zR 0 24 (I_1 0 26) := mI hv_1 0 26
  refine lv_iconst (v := nI 1) hx hb dX11_isPaper_11 (by decide +kernel) ?_
  refine lv_isub hx hb dX11_isPaper_12 ?_
  refine z_subc (-1) 23 (-1) f_2 zk_1 (by decide) (fun v_3 hv_3 mv_3 => ?_)
  refine lv_i2l (v := (v_3).toInt64) hx hb dX11_isPaper_13 rfl ?_
  refine z_callSi (As := [.long ((pa0).toInt64), .long ((0 : Int64)), .long ((v_3).toInt64)]) (rest := []) hx hb hml hown ht (mk_X11_in l D q cA F _ _ _ hv_1 ((pa0).toInt64) ((0 : Int64)) ((v_3).toInt64)) hw_6_86 hmX11_in ⟨rfl, rfl⟩ (na := 3) rfl (by decide +kernel) (by decide) hK hP hD hS hA hl.1 rfl (Nat.le_of_ble_eq_true rfl) ⟨Nat.zero_le _, Nat.zero_le _⟩ dX11_isPaper_14 (fun r_4 I_4 R_4 J_4 H locs hp_4 hP hD hS _ _ => ?_)
  rcases hp_4 with ⟨rfl, hu_4, h1_4, h2_4⟩ | ⟨rfl, hu_4, h1_4 | h2_4⟩
  · cases hu_4
    have f_5 : zL 0 2147483647 ((pa0).toInt64) := zL_ley h1_4 zkl_0 (zR_i2l (zR_any (pa0))) (by decide)
    have f_6 : zR 0 2147483647 (pa0) := zL_back f_5
    have f_7 : zL 0 23 ((pa0).toInt64) := zL_lex h2_4 f_5 (zR_i2l hv_3) (by decide)
    have f_8 : zR 0 23 (pa0) := zL_back f_7
    have f_9 : zL 0 23 ((v_3).toInt64) := zL_ley h2_4 f_5 (zR_i2l hv_3) (by decide)
    have f_10 : zR 0 23 (v_3) := zL_back f_9
    exact z_zret (v := nI 1) hx hb hr hlocks hP hD hS (by decide +kernel) dX11_isPaper_17 (Or.inl ⟨rfl, ⟨hv_1, rfl⟩, f_8⟩)
  · cases hu_4
    have f_11 : zL (-2147483648) (-1) ((pa0).toInt64) := zL_ltx h1_4 (zR_i2l (zR_any (pa0))) zkl_0 (by decide)
    have f_12 : zR (-2147483648) (-1) (pa0) := zL_back f_11
    exact z_zret (v := nI 0) hx hb hr hlocks hP hD hS (by decide +kernel) dX11_isPaper_17 (Or.inr ⟨rfl, ⟨hv_1, rfl⟩⟩)
  · cases hu_4
    have f_13 : zL 0 2147483647 ((pa0).toInt64) := zL_lty h2_4 (zR_i2l hv_3) (zR_i2l (zR_any (pa0))) (by decide)
    have f_14 : zR 0 2147483647 (pa0) := zL_back f_13
    exact z_zret (v := nI 0) hx hb hr hlocks hP hD hS (by decide +kernel) dX11_isPaper_17 (Or.inr ⟨rfl, ⟨hv_1, rfl⟩⟩)
set_option maxHeartbeats 4000000 in
set_option maxRecDepth 100000 in
theorem mk_X11_paper (l : Launch) (D : va_G) (q : Nat → Nat) (cA : Nat → ClassId) (F : Nat → Nat → Int32) (I R : Nat → Nat → Int32) (J : Nat → Nat → Int64) (hI : mInv F (I, R, J)) (pa0 : Int32) (pa1 : Int32) : zMi l D vwCl (zMtys cA) 25 q (zMd q cA) yX11_paper cX11_paper 3 (some .int) ({ frames := 7, cells := 0, slots := 0, locals := 176 } : Room) [.ref (q 0), .int (pa0), .int (pa1)] (I, R, J) (fun _ u => (mInv F u ∧ u.2.2 = J)) := by
  intro sz
  refine z_body (by decide +kernel) (Nat.le_of_ble_eq_true rfl) (fun p e s m below meth c ls hx hb hml hr ht hown hlocks hsz hK hP hD hS hl => ?_)
  have hA : ∀ a, s.heap.size ≤ a → zA 25 q sz a := fun a h => Or.inr (hsz ▸ h)
  have hl : lv_has ls 3 [(0, .ref (q 0)), (1, .int (pa0)), (2, .int (pa1))] := hl
  refine lv_aload_n hx hb dX11_paper_0 rfl (lv_at hl 0 rfl) ?_
  refine lv_iload_n hx hb dX11_paper_1 rfl (lv_at hl 1 rfl) ?_
  refine z_callVi (k := 0) (As := [.int (pa0)]) (rest := []) hx hb hml hown ht (mk_X11_isPaper l D q cA F _ _ _ hI (pa0)) hw_7_18 hmX11_isPaper ⟨rfl, rfl⟩ (na := 1) rfl (by decide +kernel) (by decide) (by decide) rfl rfl hK hP hD hS hA hl.1 rfl (Nat.le_of_ble_eq_true rfl) ⟨Nat.zero_le _, Nat.zero_le _⟩ dX11_paper_2 (fun r_1 I_1 R_1 J_1 H locs hp_1 hP hD hS _ _ => ?_)
  rcases hp_1 with ⟨rfl, hu_1, f0_1⟩ | ⟨rfl, hu_1⟩
  · obtain ⟨hv_1, hj_1⟩ := hu_1
    try dsimp only at hj_1
    subst J_1
    refine lv_if_eq (tgt := 20) hx hb dX11_paper_5 (by decide) (fun c_0 => absurd c_0 (zD_ne zk_1 zk_z (by decide))) (fun _ => ?_)
    refine lv_iload_n hx hb dX11_paper_8 rfl (lv_at hl 2 rfl) ?_
    refine lv_i2l (v := (pa1).toInt64) hx hb dX11_paper_9 rfl ?_
    refine lv_lconst (v := (0 : Int64)) hx hb dX11_paper_10 (by decide +kernel) ?_
    refine lv_ldc2 (v := (4 : Int64)) hx hb hown (ht _ hw_6_180) dX11_paper_11 ?_
    refine z_callSi (As := [.long ((pa1).toInt64), .long ((0 : Int64)), .long ((4 : Int64))]) (rest := []) hx hb hml hown ht (mk_X11_in l D q cA F _ _ _ hv_1 ((pa1).toInt64) ((0 : Int64)) ((4 : Int64))) hw_6_86 hmX11_in ⟨rfl, rfl⟩ (na := 3) rfl (by decide +kernel) (by decide) hK hP hD hS hA hl.1 rfl (Nat.le_of_ble_eq_true rfl) ⟨Nat.zero_le _, Nat.zero_le _⟩ dX11_paper_14 (fun r_2 I_2 R_2 J_2 H locs hp_2 hP hD hS _ _ => ?_)
    rcases hp_2 with ⟨rfl, hu_2, h1_2, h2_2⟩ | ⟨rfl, hu_2, h1_2 | h2_2⟩
    · cases hu_2
      have f_3 : zL 0 2147483647 ((pa1).toInt64) := zL_ley h1_2 zkl_0 (zR_i2l (zR_any (pa1))) (by decide)
      have f_4 : zR 0 2147483647 (pa1) := zL_back f_3
      have f_5 : zL 0 4 ((pa1).toInt64) := zL_lex h2_2 f_3 zkl_4 (by decide)
      have f_6 : zR 0 4 (pa1) := zL_back f_5
      refine lv_if_ne (tgt := 23) hx hb dX11_paper_17 (by decide) (fun _ => ?_) (fun c_0 => absurd c_0 (zD_ne zk_1 zk_z (by decide)))
      refine lv_iload_n hx hb dX11_paper_23 rfl (lv_at hl 2 rfl) ?_
      refine lv_if_ne (tgt := 36) hx hb dX11_paper_24 (by decide) (fun c_7 => ?_) (fun c_7 => ?_)
      · have t_c_7 := z_eqF c_7
        have f_8 : zR 1 4 (pa1) := zR_nex t_c_7 f_6 zk_z (by decide)
        refine lv_iload_n hx hb dX11_paper_36 rfl (lv_at hl 2 rfl) ?_
        refine lv_iconst (v := nI 1) hx hb dX11_paper_37 (by decide +kernel) ?_
        refine lv_icmp_ne (tgt := 50) hx hb dX11_paper_38 (by decide) (fun c_9 => ?_) (fun c_9 => ?_)
        · have t_c_9 := z_eqF c_9
          have f_10 : zR 2 4 (pa1) := zR_nex t_c_9 f_8 zk_1 (by decide)
          refine lv_iload_n hx hb dX11_paper_50 rfl (lv_at hl 2 rfl) ?_
          refine lv_iconst (v := nI 2) hx hb dX11_paper_51 (by decide +kernel) ?_
          refine lv_icmp_ne (tgt := 64) hx hb dX11_paper_52 (by decide) (fun c_11 => ?_) (fun c_11 => ?_)
          · have t_c_11 := z_eqF c_11
            have f_12 : zR 3 4 (pa1) := zR_nex t_c_11 f_10 zk_2 (by decide)
            refine lv_iload_n hx hb dX11_paper_64 rfl (lv_at hl 2 rfl) ?_
            refine lv_iconst (v := nI 3) hx hb dX11_paper_65 (by decide +kernel) ?_
            refine lv_icmp_ne (tgt := 78) hx hb dX11_paper_66 (by decide) (fun c_13 => ?_) (fun c_13 => ?_)
            · have t_c_13 := z_eqF c_13
              have f_14 : zR 4 4 (pa1) := zR_nex t_c_13 f_12 zk_3 (by decide)
              refine lv_aload_n hx hb dX11_paper_78 rfl (lv_at hl 0 rfl) ?_
              refine z_get hx hb ht hown hK hP ziX11 rfl 0 (by decide) 22 (by decide) hw_5_209 rfl (v := .ref (q 14)) rfl dX11_paper_79 ?_
              refine lv_iload_n hx hb dX11_paper_82 rfl (lv_at hl 1 rfl) ?_
              refine z_iald hx hb hK hP 14 (by decide) 13 rfl rfl (zR_vin f0_1 (by decide)) dX11_paper_83 ?_
              refine z_eqi (y := R_1 14 (pa0).toNatClampNeg) rfl ?_
              exact z_iret (v := R_1 14 (pa0).toNatClampNeg) hx hb hr hlocks hP hD hS dX11_paper_84 ⟨hv_1, rfl⟩
            · have t_c_13 := z_eqT c_13
              have f_15 : zR 3 3 (pa1) := zR_eqx t_c_13 zk_3
              refine lv_aload_n hx hb dX11_paper_69 rfl (lv_at hl 0 rfl) ?_
              refine z_get hx hb ht hown hK hP ziX11 rfl 0 (by decide) 21 (by decide) hw_5_208 rfl (v := .ref (q 13)) rfl dX11_paper_70 ?_
              refine lv_iload_n hx hb dX11_paper_73 rfl (lv_at hl 1 rfl) ?_
              refine z_iald hx hb hK hP 13 (by decide) 12 rfl rfl (zR_vin f0_1 (by decide)) dX11_paper_74 ?_
              refine z_eqi (y := R_1 13 (pa0).toNatClampNeg) rfl ?_
              refine lv_goto (tgt := 84) hx hb dX11_paper_75 (by decide) ?_
              exact z_iret (v := R_1 13 (pa0).toNatClampNeg) hx hb hr hlocks hP hD hS dX11_paper_84 ⟨hv_1, rfl⟩
          · have t_c_11 := z_eqT c_11
            have f_16 : zR 2 2 (pa1) := zR_eqx t_c_11 zk_2
            refine lv_aload_n hx hb dX11_paper_55 rfl (lv_at hl 0 rfl) ?_
            refine z_get hx hb ht hown hK hP ziX11 rfl 0 (by decide) 20 (by decide) hw_5_207 rfl (v := .ref (q 12)) rfl dX11_paper_56 ?_
            refine lv_iload_n hx hb dX11_paper_59 rfl (lv_at hl 1 rfl) ?_
            refine z_iald hx hb hK hP 12 (by decide) 11 rfl rfl (zR_vin f0_1 (by decide)) dX11_paper_60 ?_
            refine z_eqi (y := R_1 12 (pa0).toNatClampNeg) rfl ?_
            have f_17 : zR 0 4 (R_1 12 (pa0).toNatClampNeg) := mR hv_1 12 (pa0).toNatClampNeg
            refine lv_goto (tgt := 84) hx hb dX11_paper_61 (by decide) ?_
            exact z_iret (v := R_1 12 (pa0).toNatClampNeg) hx hb hr hlocks hP hD hS dX11_paper_84 ⟨hv_1, rfl⟩
        · have t_c_9 := z_eqT c_9
          have f_18 : zR 1 1 (pa1) := zR_eqx t_c_9 zk_1
          refine lv_aload_n hx hb dX11_paper_41 rfl (lv_at hl 0 rfl) ?_
          refine z_get hx hb ht hown hK hP ziX11 rfl 0 (by decide) 19 (by decide) hw_5_206 rfl (v := .ref (q 11)) rfl dX11_paper_42 ?_
          refine lv_iload_n hx hb dX11_paper_45 rfl (lv_at hl 1 rfl) ?_
          refine z_iald hx hb hK hP 11 (by decide) 10 rfl rfl (zR_vin f0_1 (by decide)) dX11_paper_46 ?_
          refine z_eqi (y := R_1 11 (pa0).toNatClampNeg) rfl ?_
          have f_19 : zR 0 5 (R_1 11 (pa0).toNatClampNeg) := mR hv_1 11 (pa0).toNatClampNeg
          refine lv_goto (tgt := 84) hx hb dX11_paper_47 (by decide) ?_
          exact z_iret (v := R_1 11 (pa0).toNatClampNeg) hx hb hr hlocks hP hD hS dX11_paper_84 ⟨hv_1, rfl⟩
      · have t_c_7 := z_eqT c_7
        have f_20 : zR 0 0 (pa1) := zR_eqx t_c_7 zk_z
        refine lv_aload_n hx hb dX11_paper_27 rfl (lv_at hl 0 rfl) ?_
        refine z_get hx hb ht hown hK hP ziX11 rfl 0 (by decide) 18 (by decide) hw_5_205 rfl (v := .ref (q 10)) rfl dX11_paper_28 ?_
        refine lv_iload_n hx hb dX11_paper_31 rfl (lv_at hl 1 rfl) ?_
        refine z_iald hx hb hK hP 10 (by decide) 9 rfl rfl (zR_vin f0_1 (by decide)) dX11_paper_32 ?_
        refine z_eqi (y := R_1 10 (pa0).toNatClampNeg) rfl ?_
        have f_21 : zR 0 4 (R_1 10 (pa0).toNatClampNeg) := mR hv_1 10 (pa0).toNatClampNeg
        refine lv_goto (tgt := 84) hx hb dX11_paper_33 (by decide) ?_
        exact z_iret (v := R_1 10 (pa0).toNatClampNeg) hx hb hr hlocks hP hD hS dX11_paper_84 ⟨hv_1, rfl⟩
    · cases hu_2
      have f_22 : zL (-2147483648) (-1) ((pa1).toInt64) := zL_ltx h1_2 (zR_i2l (zR_any (pa1))) zkl_0 (by decide)
      have f_23 : zR (-2147483648) (-1) (pa1) := zL_back f_22
      refine lv_if_ne (tgt := 23) hx hb dX11_paper_17 (by decide) (fun c_0 => absurd (zD_eq zk_0 zk_z) c_0) (fun _ => ?_)
      refine lv_bipush (v := (-2)) hx hb dX11_paper_20 (by decide +kernel) ?_
      exact z_iret (v := (-2)) hx hb hr hlocks hP hD hS dX11_paper_22 ⟨hv_1, rfl⟩
    · cases hu_2
      have f_24 : zL 5 2147483647 ((pa1).toInt64) := zL_lty h2_2 zkl_4 (zR_i2l (zR_any (pa1))) (by decide)
      have f_25 : zR 5 2147483647 (pa1) := zL_back f_24
      refine lv_if_ne (tgt := 23) hx hb dX11_paper_17 (by decide) (fun c_0 => absurd (zD_eq zk_0 zk_z) c_0) (fun _ => ?_)
      refine lv_bipush (v := (-2)) hx hb dX11_paper_20 (by decide +kernel) ?_
      exact z_iret (v := (-2)) hx hb hr hlocks hP hD hS dX11_paper_22 ⟨hv_1, rfl⟩
  · obtain ⟨hv_1, hj_1⟩ := hu_1
    try dsimp only at hj_1
    subst J_1
    refine lv_if_eq (tgt := 20) hx hb dX11_paper_5 (by decide) (fun _ => ?_) (fun c_0 => absurd (zD_eq zk_0 zk_z) c_0)
    refine lv_bipush (v := (-2)) hx hb dX11_paper_20 (by decide +kernel) ?_
    exact z_iret (v := (-2)) hx hb hr hlocks hP hD hS dX11_paper_22 ⟨hv_1, rfl⟩
set_option maxHeartbeats 4000000 in
set_option maxRecDepth 100000 in
theorem mk_X11_price (l : Launch) (D : va_G) (q : Nat → Nat) (cA : Nat → ClassId) (F : Nat → Nat → Int32) (I R : Nat → Nat → Int32) (J : Nat → Nat → Int64) (hI : mInv F (I, R, J)) (pa0 : Int32) : zMi l D vwCl (zMtys cA) 25 q (zMd q cA) yX11_price cX11_price 2 (some .int) ({ frames := 7, cells := 0, slots := 0, locals := 176 } : Room) [.ref (q 0), .int (pa0)] (I, R, J) (fun _ u => (mInv F u ∧ u.2.2 = J)) := by
  intro sz
  refine z_body (by decide +kernel) (Nat.le_of_ble_eq_true rfl) (fun p e s m below meth c ls hx hb hml hr ht hown hlocks hsz hK hP hD hS hl => ?_)
  have hA : ∀ a, s.heap.size ≤ a → zA 25 q sz a := fun a h => Or.inr (hsz ▸ h)
  have hl : lv_has ls 2 [(0, .ref (q 0)), (1, .int (pa0))] := hl
  refine lv_aload_n hx hb dX11_price_0 rfl (lv_at hl 0 rfl) ?_
  refine lv_iload_n hx hb dX11_price_1 rfl (lv_at hl 1 rfl) ?_
  refine z_callVi (k := 0) (As := [.int (pa0)]) (rest := []) hx hb hml hown ht (mk_X11_isPaper l D q cA F _ _ _ hI (pa0)) hw_7_18 hmX11_isPaper ⟨rfl, rfl⟩ (na := 1) rfl (by decide +kernel) (by decide) (by decide) rfl rfl hK hP hD hS hA hl.1 rfl (Nat.le_of_ble_eq_true rfl) ⟨Nat.zero_le _, Nat.zero_le _⟩ dX11_price_2 (fun r_1 I_1 R_1 J_1 H locs hp_1 hP hD hS _ _ => ?_)
  rcases hp_1 with ⟨rfl, hu_1, f0_1⟩ | ⟨rfl, hu_1⟩
  · obtain ⟨hv_1, hj_1⟩ := hu_1
    try dsimp only at hj_1
    subst J_1
    refine lv_if_ne (tgt := 11) hx hb dX11_price_5 (by decide) (fun _ => ?_) (fun c_0 => absurd c_0 (zD_ne zk_1 zk_z (by decide)))
    refine lv_aload_n hx hb dX11_price_11 rfl (lv_at hl 0 rfl) ?_
    refine lv_iload_n hx hb dX11_price_12 rfl (lv_at hl 1 rfl) ?_
    refine z_callVi (k := 0) (As := [.int (pa0)]) (rest := []) hx hb hml hown ht (mk_X11_isOpen_1 l D q cA F _ _ _ hv_1 (pa0) f0_1) hw_6_230 hmX11_isOpen ⟨rfl, rfl⟩ (na := 1) rfl (by decide +kernel) (by decide) (by decide) rfl rfl hK hP hD hS hA hl.1 rfl (Nat.le_of_ble_eq_true rfl) ⟨Nat.zero_le _, Nat.zero_le _⟩ dX11_price_13 (fun r_2 I_2 R_2 J_2 H locs hp_2 hP hD hS _ _ => ?_)
    rcases hp_2 with ⟨rfl, hu_2⟩ | ⟨rfl, hu_2⟩
    · cases hu_2
      refine lv_if_eq (tgt := 27) hx hb dX11_price_16 (by decide) (fun c_0 => absurd c_0 (zD_ne zk_1 zk_z (by decide))) (fun _ => ?_)
      refine lv_aload_n hx hb dX11_price_19 rfl (lv_at hl 0 rfl) ?_
      refine lv_iload_n hx hb dX11_price_20 rfl (lv_at hl 1 rfl) ?_
      refine z_callVi (k := 0) (As := [.int (pa0)]) (rest := []) hx hb hml hown ht (mk_X11_priceOf l D q cA F _ _ _ hv_1 (pa0) f0_1) hw_6_202 hmX11_priceOf ⟨rfl, rfl⟩ (na := 1) rfl (by decide +kernel) (by decide) (by decide) rfl rfl hK hP hD hS hA hl.1 rfl (Nat.le_of_ble_eq_true rfl) ⟨Nat.zero_le _, Nat.zero_le _⟩ dX11_price_21 (fun r_3 I_3 R_3 J_3 H locs hp_3 hP hD hS _ _ => ?_)
      cases hp_3
      refine lv_goto (tgt := 28) hx hb dX11_price_24 (by decide) ?_
      exact z_iret (v := r_3) hx hb hr hlocks hP hD hS dX11_price_28 ⟨hv_1, rfl⟩
    · cases hu_2
      refine lv_if_eq (tgt := 27) hx hb dX11_price_16 (by decide) (fun _ => ?_) (fun c_0 => absurd (zD_eq zk_0 zk_z) c_0)
      refine lv_iconst (v := (-1)) hx hb dX11_price_27 (by decide +kernel) ?_
      exact z_iret (v := (-1)) hx hb hr hlocks hP hD hS dX11_price_28 ⟨hv_1, rfl⟩
  · obtain ⟨hv_1, hj_1⟩ := hu_1
    try dsimp only at hj_1
    subst J_1
    refine lv_if_ne (tgt := 11) hx hb dX11_price_5 (by decide) (fun c_0 => absurd (zD_eq zk_0 zk_z) c_0) (fun _ => ?_)
    refine lv_bipush (v := (-2)) hx hb dX11_price_8 (by decide +kernel) ?_
    exact z_iret (v := (-2)) hx hb hr hlocks hP hD hS dX11_price_10 ⟨hv_1, rfl⟩
set_option maxHeartbeats 4000000 in
set_option maxRecDepth 100000 in
theorem mk_X11_netOf (l : Launch) (D : va_G) (q : Nat → Nat) (cA : Nat → ClassId) (F : Nat → Nat → Int32) (I R : Nat → Nat → Int32) (J : Nat → Nat → Int64) (hI : mInv F (I, R, J)) (pa0 : Int32) (hpa0 : zR 0 4 pa0) : zMi l D vwCl (zMtys cA) 25 q (zMd q cA) yX11_netOf cX11_netOf 4 (some .int) ({ frames := 2, cells := 0, slots := 0, locals := 44 } : Room) [.ref (q 0), .int (pa0)] (I, R, J) (fun _ u => u = (I, R, J)) := by
  intro sz
  refine z_body (by decide +kernel) (Nat.le_of_ble_eq_true rfl) (fun p e s m below meth c ls hx hb hml hr ht hown hlocks hsz hK hP hD hS hl => ?_)
  have hA : ∀ a, s.heap.size ≤ a → zA 25 q sz a := fun a h => Or.inr (hsz ▸ h)
  have hl : lv_has ls 4 [(0, .ref (q 0)), (1, .int (pa0))] := hl
  refine lv_aload_n hx hb dX11_netOf_0 rfl (lv_at hl 0 rfl) ?_
  refine z_get hx hb ht hown hK hP ziX11 rfl 0 (by decide) 15 (by decide) hw_5_202 rfl (v := .ref (q 7)) rfl dX11_netOf_1 ?_
  refine lv_iload_n hx hb dX11_netOf_4 rfl (lv_at hl 1 rfl) ?_
  refine z_iald hx hb hK hP 7 (by decide) 6 rfl rfl (zR_vin hpa0 (by decide)) dX11_netOf_5 ?_
  refine z_eqi (y := R 7 (pa0).toNatClampNeg) rfl ?_
  refine lv_istore_n (lv' := [(2, .int (R 7 (pa0).toNatClampNeg)), (0, .ref (q 0)), (1, .int (pa0))]) hx hb dX11_netOf_6 rfl hl (by decide) rfl (fun ls hl => ?_)
  refine lv_iconst (v := nI 0) hx hb dX11_netOf_7 (by decide +kernel) ?_
  refine lv_istore_n (lv' := [(3, .int (nI 0)), (2, .int (R 7 (pa0).toNatClampNeg)), (0, .ref (q 0)), (1, .int (pa0))]) hx hb dX11_netOf_8 rfl hl (by decide) rfl (fun ls hl => ?_)
  have loop_48 : ∀ N : Nat, ∀ x_46 : Int32, ∀ x_47 : Int32, zR 0 6 x_47 → (2147483648 - (x_47).toInt).toNat < N → ∀ (H : Heap) (locs : List Loc), va_P D vwCl (zw 25 q (zMd q cA) I R J) H → va_D (zA 25 q sz) (zw 25 q (zMd q cA) I R J) → va_S (zA 25 q sz) s.heap H locs → ∀ ls : Array Slot, lv_has ls 4 [(0, .ref (q 0)), (1, .int (pa0)), (2, .int (x_46)), (3, .int (x_47))] → W p l e ({ frames := 2, cells := 0, slots := 0, locals := 44 } : Room) s m ([.ref (q 0), .int (pa0)] : List Value).toArray below meth c H locs 0 0 (MQ below (va_Qi (fun _ u => u = (I, R, J)) (zB D vwCl 25 q (zMd q cA) sz) (zA 25 q sz)) ([.ref (q 0), .int (pa0)] : List Value).toArray s 0 0 (zA 25 q sz)) (F0 m 9 ls []) := by
    intro N
    induction N with
    | zero => intro x_46 x_47 hx_47 hN; exact absurd hN (Nat.not_lt_zero _)
    | succ N ih_50 =>
      intro x_46 x_47 hx_47 hN_49 H locs hP hD hS ls hl
      refine lv_iload_n hx hb dX11_netOf_9 rfl (lv_at hl 3 rfl) ?_
      refine lv_aload_n hx hb dX11_netOf_10 rfl (lv_at hl 0 rfl) ?_
      refine z_get hx hb ht hown hK hP ziX11 rfl 0 (by decide) 1 (by decide) hw_5_188 rfl (v := .ref (q 1)) rfl dX11_netOf_11 ?_
      refine lv_iconst (v := nI 4) hx hb dX11_netOf_14 (by decide +kernel) ?_
      refine z_iald hx hb hK hP 1 (by decide) 0 rfl rfl (zR_vin zk_4 (by decide)) dX11_netOf_15 ?_
      refine z_eqi (y := R 1 (nI 4).toNatClampNeg) rfl ?_
      have f_51 : zR 0 6 (R 1 (nI 4).toNatClampNeg) := mR hI 1 4
      refine lv_icmp_ge (tgt := 48) hx hb dX11_netOf_16 (by decide) (fun c_52 => ?_) (fun c_52 => ?_)
      · have t_c_52 := z_leT c_52
        refine lv_iconst (v := nI 0) hx hb dX11_netOf_48 (by decide +kernel) ?_
        refine lv_istore_n (lv' := [(3, .int (nI 0)), (0, .ref (q 0)), (1, .int (pa0)), (2, .int (x_46))]) hx hb dX11_netOf_49 rfl hl (by decide) rfl (fun ls hl => ?_)
        have loop_136 : ∀ N : Nat, ∀ x_134 : Int32, ∀ x_135 : Int32, zR 0 24 x_135 → (2147483648 - (x_135).toInt).toNat < N → ∀ (H : Heap) (locs : List Loc), va_P D vwCl (zw 25 q (zMd q cA) I R J) H → va_D (zA 25 q sz) (zw 25 q (zMd q cA) I R J) → va_S (zA 25 q sz) s.heap H locs → ∀ ls : Array Slot, lv_has ls 4 [(0, .ref (q 0)), (1, .int (pa0)), (2, .int (x_134)), (3, .int (x_135))] → W p l e ({ frames := 2, cells := 0, slots := 0, locals := 44 } : Room) s m ([.ref (q 0), .int (pa0)] : List Value).toArray below meth c H locs 0 0 (MQ below (va_Qi (fun _ u => u = (I, R, J)) (zB D vwCl 25 q (zMd q cA) sz) (zA 25 q sz)) ([.ref (q 0), .int (pa0)] : List Value).toArray s 0 0 (zA 25 q sz)) (F0 m 50 ls []) := by
          intro N
          induction N with
          | zero => intro x_134 x_135 hx_135 hN; exact absurd hN (Nat.not_lt_zero _)
          | succ N ih_138 =>
            intro x_134 x_135 hx_135 hN_137 H locs hP hD hS ls hl
            refine lv_iload_n hx hb dX11_netOf_50 rfl (lv_at hl 3 rfl) ?_
            refine lv_aload_n hx hb dX11_netOf_51 rfl (lv_at hl 0 rfl) ?_
            refine z_get hx hb ht hown hK hP ziX11 rfl 0 (by decide) 26 (by decide) hw_5_213 rfl (v := .int (I 0 26)) rfl dX11_netOf_52 ?_
            have f_139 : zR 0 24 (I 0 26) := mI hI 0 26
            refine lv_icmp_ge (tgt := 114) hx hb dX11_netOf_55 (by decide) (fun c_140 => ?_) (fun c_140 => ?_)
            · have t_c_140 := z_leT c_140
              refine lv_iload_n hx hb dX11_netOf_114 rfl (lv_at hl 2 rfl) ?_
              exact z_iret (v := x_134) hx hb hr hlocks hP hD hS dX11_netOf_115 rfl
            · have t_c_140 := z_leF c_140
              have f_141 : zR 0 23 (x_135) := zR_ltx t_c_140 hx_135 f_139 (by decide)
              have f_142 : zR 1 24 (I 0 26) := zR_lty t_c_140 hx_135 f_139 (by decide)
              refine lv_aload_n hx hb dX11_netOf_58 rfl (lv_at hl 0 rfl) ?_
              refine lv_iload_n hx hb dX11_netOf_59 rfl (lv_at hl 3 rfl) ?_
              have t_155 : ∀ x_154 : Int32, ∀ (H : Heap) (locs : List Loc), va_P D vwCl (zw 25 q (zMd q cA) I R J) H → va_D (zA 25 q sz) (zw 25 q (zMd q cA) I R J) → va_S (zA 25 q sz) s.heap H locs → ∀ ls : Array Slot, lv_has ls 4 [(0, .ref (q 0)), (1, .int (pa0)), (2, .int (x_154)), (3, .int (x_135))] → W p l e ({ frames := 2, cells := 0, slots := 0, locals := 44 } : Room) s m ([.ref (q 0), .int (pa0)] : List Value).toArray below meth c H locs 0 0 (MQ below (va_Qi (fun _ u => u = (I, R, J)) (zB D vwCl 25 q (zMd q cA) sz) (zA 25 q sz)) ([.ref (q 0), .int (pa0)] : List Value).toArray s 0 0 (zA 25 q sz)) (F0 m 108 ls []) := by
                intro x_154 H locs hP hD hS ls hl
                obtain ⟨v_156, ev_156⟩ : ∃ y : Int32, y = x_135 + nI 1 := ⟨_, rfl⟩
                have hv_156 : zR 1 24 v_156 := ev_156 ▸ zR_add f_141 zk_1 (by decide)
                have mv_156 : v_156.toInt = (x_135).toInt + 1 := by rw [ev_156, zR_addE f_141 zk_1 (by decide)]; rfl
                refine lv_iinc (v := v_156) (lv' := [(3, .int (v_156)), (0, .ref (q 0)), (1, .int (pa0)), (2, .int (x_154))]) hx hb dX11_netOf_108 hl (k := 3) rfl (ev_156 ▸ rfl) (by decide) rfl (fun ls hl => ?_)
                refine lv_goto (tgt := 50) hx hb dX11_netOf_111 (by decide) ?_
                exact ih_138 (x_154) (v_156) (zR_w hv_156 (by decide)) (z2_up mv_156 (by decide) hN_137) _ _ hP hD hS _ (lv_sub hl [1, 2, 3, 0] rfl)
              refine z_callVi (k := 0) (As := [.int (x_135)]) (rest := []) hx hb hml hown ht (mk_X11_isOpen_1 l D q cA F _ _ _ hI (x_135) f_141) hw_6_230 hmX11_isOpen ⟨rfl, rfl⟩ (na := 1) rfl (by decide +kernel) (by decide) (by decide) rfl rfl hK hP hD hS hA hl.1 rfl (Nat.le_of_ble_eq_true rfl) ⟨Nat.zero_le _, Nat.zero_le _⟩ dX11_netOf_60 (fun r_143 I_143 R_143 J_143 H locs hp_143 hP hD hS _ _ => ?_)
              rcases hp_143 with ⟨rfl, hu_143⟩ | ⟨rfl, hu_143⟩
              · cases hu_143
                refine lv_if_eq (tgt := 108) hx hb dX11_netOf_63 (by decide) (fun c_0 => absurd c_0 (zD_ne zk_1 zk_z (by decide))) (fun _ => ?_)
                refine lv_iload_n hx hb dX11_netOf_66 rfl (lv_at hl 2 rfl) ?_
                refine lv_aload_n hx hb dX11_netOf_67 rfl (lv_at hl 0 rfl) ?_
                refine z_get hx hb ht hown hK hP ziX11 rfl 0 (by decide) 20 (by decide) hw_5_207 rfl (v := .ref (q 12)) rfl dX11_netOf_68 ?_
                refine lv_iload_n hx hb dX11_netOf_71 rfl (lv_at hl 3 rfl) ?_
                refine z_iald hx hb hK hP 12 (by decide) 11 rfl rfl (zR_vin f_141 (by decide)) dX11_netOf_72 ?_
                refine z_eqi (y := R 12 (x_135).toNatClampNeg) rfl ?_
                have f_157 : zR 0 4 (R 12 (x_135).toNatClampNeg) := mR hI 12 (x_135).toNatClampNeg
                refine lv_iload_n hx hb dX11_netOf_73 rfl (lv_at hl 1 rfl) ?_
                have t_161 : ∀ x_160 : Int32, ∀ (H : Heap) (locs : List Loc), va_P D vwCl (zw 25 q (zMd q cA) I R J) H → va_D (zA 25 q sz) (zw 25 q (zMd q cA) I R J) → va_S (zA 25 q sz) s.heap H locs → ∀ ls : Array Slot, lv_has ls 4 [(0, .ref (q 0)), (1, .int (pa0)), (2, .int (x_134)), (3, .int (x_135))] → W p l e ({ frames := 2, cells := 0, slots := 0, locals := 44 } : Room) s m ([.ref (q 0), .int (pa0)] : List Value).toArray below meth c H locs 0 0 (MQ below (va_Qi (fun _ u => u = (I, R, J)) (zB D vwCl 25 q (zMd q cA) sz) (zA 25 q sz)) ([.ref (q 0), .int (pa0)] : List Value).toArray s 0 0 (zA 25 q sz)) (F0 m 86 ls [.int (x_160), .int (x_134)]) := by
                  intro x_160 H locs hP hD hS ls hl
                  refine lv_aload_n hx hb dX11_netOf_86 rfl (lv_at hl 0 rfl) ?_
                  refine z_get hx hb ht hown hK hP ziX11 rfl 0 (by decide) 18 (by decide) hw_5_205 rfl (v := .ref (q 10)) rfl dX11_netOf_87 ?_
                  refine lv_iload_n hx hb dX11_netOf_90 rfl (lv_at hl 3 rfl) ?_
                  refine z_iald hx hb hK hP 10 (by decide) 9 rfl rfl (zR_vin f_141 (by decide)) dX11_netOf_91 ?_
                  refine z_eqi (y := R 10 (x_135).toNatClampNeg) rfl ?_
                  have f_162 : zR 0 4 (R 10 (x_135).toNatClampNeg) := mR hI 10 (x_135).toNatClampNeg
                  refine lv_iload_n hx hb dX11_netOf_92 rfl (lv_at hl 1 rfl) ?_
                  have t_166 : ∀ x_165 : Int32, ∀ (H : Heap) (locs : List Loc), va_P D vwCl (zw 25 q (zMd q cA) I R J) H → va_D (zA 25 q sz) (zw 25 q (zMd q cA) I R J) → va_S (zA 25 q sz) s.heap H locs → ∀ ls : Array Slot, lv_has ls 4 [(0, .ref (q 0)), (1, .int (pa0)), (2, .int (x_134)), (3, .int (x_135))] → W p l e ({ frames := 2, cells := 0, slots := 0, locals := 44 } : Room) s m ([.ref (q 0), .int (pa0)] : List Value).toArray below meth c H locs 0 0 (MQ below (va_Qi (fun _ u => u = (I, R, J)) (zB D vwCl 25 q (zMd q cA) sz) (zA 25 q sz)) ([.ref (q 0), .int (pa0)] : List Value).toArray s 0 0 (zA 25 q sz)) (F0 m 105 ls [.int (x_165), .int (x_160), .int (x_134)]) := by
                    intro x_165 H locs hP hD hS ls hl
                    refine lv_isub hx hb dX11_netOf_105 ?_
                    refine z_any (fun v_167 => ?_)
                    refine lv_iadd hx hb dX11_netOf_106 ?_
                    refine z_any (fun v_168 => ?_)
                    refine lv_istore_n (lv' := [(2, .int (v_168)), (0, .ref (q 0)), (1, .int (pa0)), (3, .int (x_135))]) hx hb dX11_netOf_107 rfl hl (by decide) rfl (fun ls hl => ?_)
                    exact t_155 (v_168) _ _ hP hD hS _ (lv_sub hl [1, 2, 0, 3] rfl)
                  refine lv_icmp_ne (tgt := 104) hx hb dX11_netOf_93 (by decide) (fun c_163 => ?_) (fun c_163 => ?_)
                  · have t_c_163 := z_eqF c_163
                    refine lv_iconst (v := nI 0) hx hb dX11_netOf_104 (by decide +kernel) ?_
                    exact t_166 (nI 0) _ _ hP hD hS _ (lv_sub hl [0, 1, 2, 3] rfl)
                  · have t_c_163 := z_eqT c_163
                    refine lv_aload_n hx hb dX11_netOf_96 rfl (lv_at hl 0 rfl) ?_
                    refine lv_iload_n hx hb dX11_netOf_97 rfl (lv_at hl 3 rfl) ?_
                    refine z_callVi (k := 0) (As := [.int (x_135)]) (rest := [.int (x_160), .int (x_134)]) hx hb hml hown ht (mk_X11_worthP_1 l D q cA F _ _ _ hI (x_135) f_141) hw_6_206 hmX11_worthP ⟨rfl, rfl⟩ (na := 1) rfl (by decide +kernel) (by decide) (by decide) rfl rfl hK hP hD hS hA hl.1 rfl (Nat.le_of_ble_eq_true rfl) ⟨Nat.zero_le _, Nat.zero_le _⟩ dX11_netOf_98 (fun r_169 I_169 R_169 J_169 H locs hp_169 hP hD hS _ _ => ?_)
                    cases hp_169
                    refine lv_goto (tgt := 105) hx hb dX11_netOf_101 (by decide) ?_
                    exact t_166 (r_169) _ _ hP hD hS _ (lv_sub hl [0, 1, 2, 3] rfl)
                refine lv_icmp_ne (tgt := 85) hx hb dX11_netOf_74 (by decide) (fun c_158 => ?_) (fun c_158 => ?_)
                · have t_c_158 := z_eqF c_158
                  refine lv_iconst (v := nI 0) hx hb dX11_netOf_85 (by decide +kernel) ?_
                  exact t_161 (nI 0) _ _ hP hD hS _ (lv_sub hl [0, 1, 2, 3] rfl)
                · have t_c_158 := z_eqT c_158
                  refine lv_aload_n hx hb dX11_netOf_77 rfl (lv_at hl 0 rfl) ?_
                  refine lv_iload_n hx hb dX11_netOf_78 rfl (lv_at hl 3 rfl) ?_
                  refine z_callVi (k := 0) (As := [.int (x_135)]) (rest := [.int (x_134)]) hx hb hml hown ht (mk_X11_worthP_1 l D q cA F _ _ _ hI (x_135) f_141) hw_6_206 hmX11_worthP ⟨rfl, rfl⟩ (na := 1) rfl (by decide +kernel) (by decide) (by decide) rfl rfl hK hP hD hS hA hl.1 rfl (Nat.le_of_ble_eq_true rfl) ⟨Nat.zero_le _, Nat.zero_le _⟩ dX11_netOf_79 (fun r_170 I_170 R_170 J_170 H locs hp_170 hP hD hS _ _ => ?_)
                  cases hp_170
                  refine lv_goto (tgt := 86) hx hb dX11_netOf_82 (by decide) ?_
                  exact t_161 (r_170) _ _ hP hD hS _ (lv_sub hl [0, 1, 2, 3] rfl)
              · cases hu_143
                refine lv_if_eq (tgt := 108) hx hb dX11_netOf_63 (by decide) (fun _ => ?_) (fun c_0 => absurd (zD_eq zk_0 zk_z) c_0)
                exact t_155 (x_134) _ _ hP hD hS _ (lv_sub hl [0, 1, 2, 3] rfl)
        exact loop_136 _ (x_46) (nI 0) (zR_w zk_0 (by decide)) (Nat.lt_succ_self _) _ _ hP hD hS _ (lv_sub hl [1, 2, 3, 0] rfl)
      · have t_c_52 := z_leF c_52
        have f_171 : zR 0 5 (x_47) := zR_ltx t_c_52 hx_47 f_51 (by decide)
        have f_172 : zR 1 6 (R 1 (nI 4).toNatClampNeg) := zR_lty t_c_52 hx_47 f_51 (by decide)
        refine lv_iload_n hx hb dX11_netOf_19 rfl (lv_at hl 2 rfl) ?_
        refine lv_aload_n hx hb dX11_netOf_20 rfl (lv_at hl 0 rfl) ?_
        refine z_get hx hb ht hown hK hP ziX11 rfl 0 (by decide) 17 (by decide) hw_5_204 rfl (v := .ref (q 9)) rfl dX11_netOf_21 ?_
        refine lv_iload_n hx hb dX11_netOf_24 rfl (lv_at hl 3 rfl) ?_
        refine z_iald hx hb hK hP 9 (by decide) 8 rfl rfl (zR_vin f_171 (by decide)) dX11_netOf_25 ?_
        refine z_eqi (y := R 9 (x_47).toNatClampNeg) rfl ?_
        have f_173 : zR 0 4 (R 9 (x_47).toNatClampNeg) := mR hI 9 (x_47).toNatClampNeg
        refine lv_iload_n hx hb dX11_netOf_26 rfl (lv_at hl 1 rfl) ?_
        have t_177 : ∀ x_176 : Int32, ∀ (H : Heap) (locs : List Loc), va_P D vwCl (zw 25 q (zMd q cA) I R J) H → va_D (zA 25 q sz) (zw 25 q (zMd q cA) I R J) → va_S (zA 25 q sz) s.heap H locs → ∀ ls : Array Slot, lv_has ls 4 [(0, .ref (q 0)), (1, .int (pa0)), (2, .int (x_46)), (3, .int (x_47))] → W p l e ({ frames := 2, cells := 0, slots := 0, locals := 44 } : Room) s m ([.ref (q 0), .int (pa0)] : List Value).toArray below meth c H locs 0 0 (MQ below (va_Qi (fun _ u => u = (I, R, J)) (zB D vwCl 25 q (zMd q cA) sz) (zA 25 q sz)) ([.ref (q 0), .int (pa0)] : List Value).toArray s 0 0 (zA 25 q sz)) (F0 m 40 ls [.int (x_176), .int (x_46)]) := by
          intro x_176 H locs hP hD hS ls hl
          refine lv_iadd hx hb dX11_netOf_40 ?_
          refine z_any (fun v_178 => ?_)
          refine lv_istore_n (lv' := [(2, .int (v_178)), (0, .ref (q 0)), (1, .int (pa0)), (3, .int (x_47))]) hx hb dX11_netOf_41 rfl hl (by decide) rfl (fun ls hl => ?_)
          obtain ⟨v_179, ev_179⟩ : ∃ y : Int32, y = x_47 + nI 1 := ⟨_, rfl⟩
          have hv_179 : zR 1 6 v_179 := ev_179 ▸ zR_add f_171 zk_1 (by decide)
          have mv_179 : v_179.toInt = (x_47).toInt + 1 := by rw [ev_179, zR_addE f_171 zk_1 (by decide)]; rfl
          refine lv_iinc (v := v_179) (lv' := [(3, .int (v_179)), (2, .int (v_178)), (0, .ref (q 0)), (1, .int (pa0))]) hx hb dX11_netOf_42 hl (k := 3) rfl (ev_179 ▸ rfl) (by decide) rfl (fun ls hl => ?_)
          refine lv_goto (tgt := 9) hx hb dX11_netOf_45 (by decide) ?_
          exact ih_50 (v_178) (v_179) (zR_w hv_179 (by decide)) (z2_up mv_179 (by decide) hN_49) _ _ hP hD hS _ (lv_sub hl [2, 3, 1, 0] rfl)
        refine lv_icmp_ne (tgt := 39) hx hb dX11_netOf_27 (by decide) (fun c_174 => ?_) (fun c_174 => ?_)
        · have t_c_174 := z_eqF c_174
          refine lv_iconst (v := nI 0) hx hb dX11_netOf_39 (by decide +kernel) ?_
          exact t_177 (nI 0) _ _ hP hD hS _ (lv_sub hl [0, 1, 2, 3] rfl)
        · have t_c_174 := z_eqT c_174
          refine lv_aload_n hx hb dX11_netOf_30 rfl (lv_at hl 0 rfl) ?_
          refine lv_iload_n hx hb dX11_netOf_31 rfl (lv_at hl 1 rfl) ?_
          refine lv_iload_n hx hb dX11_netOf_32 rfl (lv_at hl 3 rfl) ?_
          refine z_callVi (k := 0) (As := [.int (pa0), .int (x_47)]) (rest := [.int (x_46)]) hx hb hml hown ht (mk_X11_valueOf l D q cA F _ _ _ hI (pa0) hpa0 (x_47) f_171) hw_7_6 hmX11_valueOf ⟨rfl, rfl⟩ (na := 2) rfl (by decide +kernel) (by decide) (by decide) rfl rfl hK hP hD hS hA hl.1 rfl (Nat.le_of_ble_eq_true rfl) ⟨Nat.zero_le _, Nat.zero_le _⟩ dX11_netOf_33 (fun r_180 I_180 R_180 J_180 H locs hp_180 hP hD hS _ _ => ?_)
          cases hp_180
          refine lv_goto (tgt := 40) hx hb dX11_netOf_36 (by decide) ?_
          exact t_177 (r_180) _ _ hP hD hS _ (lv_sub hl [0, 1, 2, 3] rfl)
  exact loop_48 _ (R 7 (pa0).toNatClampNeg) (nI 0) (zR_w zk_0 (by decide)) (Nat.lt_succ_self _) _ _ hP hD hS _ (lv_sub hl [2, 3, 1, 0] rfl)
set_option maxHeartbeats 4000000 in
set_option maxRecDepth 100000 in
theorem mk_X11_net (l : Launch) (D : va_G) (q : Nat → Nat) (cA : Nat → ClassId) (F : Nat → Nat → Int32) (I R : Nat → Nat → Int32) (J : Nat → Nat → Int64) (hI : mInv F (I, R, J)) (pa0 : Int32) : zMi l D vwCl (zMtys cA) 25 q (zMd q cA) yX11_net cX11_net 2 (some .int) ({ frames := 6, cells := 0, slots := 0, locals := 155 } : Room) [.ref (q 0), .int (pa0)] (I, R, J) (fun _ u => (mInv F u ∧ u.2.2 = J)) := by
  intro sz
  refine z_body (by decide +kernel) (Nat.le_of_ble_eq_true rfl) (fun p e s m below meth c ls hx hb hml hr ht hown hlocks hsz hK hP hD hS hl => ?_)
  have hA : ∀ a, s.heap.size ≤ a → zA 25 q sz a := fun a h => Or.inr (hsz ▸ h)
  have hl : lv_has ls 2 [(0, .ref (q 0)), (1, .int (pa0))] := hl
  refine lv_aload_n hx hb dX11_net_0 rfl (lv_at hl 0 rfl) ?_
  refine lv_iload_n hx hb dX11_net_1 rfl (lv_at hl 1 rfl) ?_
  refine lv_i2l (v := (pa0).toInt64) hx hb dX11_net_2 rfl ?_
  refine z_callVi (k := 0) (As := [.long ((pa0).toInt64)]) (rest := []) hx hb hml hown ht (mk_X11_isHouse l D q cA F _ _ _ hI ((pa0).toInt64) (zR_i2l (zR_any (pa0)))) hw_6_176 hmX11_isHouse ⟨rfl, rfl⟩ (na := 1) rfl (by decide +kernel) (by decide) (by decide) rfl rfl hK hP hD hS hA hl.1 rfl (Nat.le_of_ble_eq_true rfl) ⟨Nat.zero_le _, Nat.zero_le _⟩ dX11_net_3 (fun r_1 I_1 R_1 J_1 H locs hp_1 hP hD hS _ _ => ?_)
  rcases hp_1 with ⟨rfl, hu_1, f0_1⟩ | ⟨rfl, hu_1⟩
  · cases hu_1
    have f_2 : zR 0 4 (pa0) := zL_back f0_1
    refine lv_if_ne (tgt := 13) hx hb dX11_net_6 (by decide) (fun _ => ?_) (fun c_0 => absurd c_0 (zD_ne zk_1 zk_z (by decide)))
    refine lv_aload_n hx hb dX11_net_13 rfl (lv_at hl 0 rfl) ?_
    refine z_callVv (k := 0) (As := []) (rest := []) hx hb hml hown ht (mk_X11_asItIs l D q cA F _ _ _ hI ) hw_6_181 hmX11_asItIs ⟨rfl, rfl⟩ (na := 0) rfl (by decide +kernel) (by decide) (by decide) rfl rfl hK hP hD hS hA hl.1 rfl (Nat.le_of_ble_eq_true rfl) ⟨Nat.zero_le _, Nat.zero_le _⟩ dX11_net_14 (fun I_3 R_3 J_3 H locs hp_3 hP hD hS _ _ => ?_)
    obtain ⟨hv_3, hj_3, hs_3⟩ := hp_3
    try dsimp only at hj_3
    subst J_3
    refine lv_aload_n hx hb dX11_net_17 rfl (lv_at hl 0 rfl) ?_
    refine lv_iload_n hx hb dX11_net_18 rfl (lv_at hl 1 rfl) ?_
    refine z_callVi (k := 0) (As := [.int (pa0)]) (rest := []) hx hb hml hown ht (mk_X11_netOf l D q cA F _ _ _ hv_3 (pa0) f_2) hw_7_31 hmX11_netOf ⟨rfl, rfl⟩ (na := 1) rfl (by decide +kernel) (by decide) (by decide) rfl rfl hK hP hD hS hA hl.1 rfl (Nat.le_of_ble_eq_true rfl) ⟨Nat.zero_le _, Nat.zero_le _⟩ dX11_net_19 (fun r_4 I_4 R_4 J_4 H locs hp_4 hP hD hS _ _ => ?_)
    cases hp_4
    exact z_iret (v := r_4) hx hb hr hlocks hP hD hS dX11_net_22 ⟨hv_3, rfl⟩
  · cases hu_1
    refine lv_if_ne (tgt := 13) hx hb dX11_net_6 (by decide) (fun c_0 => absurd (zD_eq zk_0 zk_z) c_0) (fun _ => ?_)
    refine lv_ldcw (v := (-100000)) hx hb hown (ht _ hw_7_30) dX11_net_9 ?_
    exact z_iret (v := (-100000)) hx hb hr hlocks hP hD hS dX11_net_12 ⟨hI, rfl⟩
set_option maxHeartbeats 4000000 in
set_option maxRecDepth 100000 in
theorem mk_X11_canSteal (l : Launch) (D : va_G) (q : Nat → Nat) (cA : Nat → ClassId) (F : Nat → Nat → Int32) (I R : Nat → Nat → Int32) (J : Nat → Nat → Int64) (hI : mInv F (I, R, J)) (pa0 : Int32) (hpa0 : zR 0 4 pa0) (pa1 : Int32) (hpa1 : zR 0 5 pa1) : zMi l D vwCl (zMtys cA) 25 q (zMd q cA) yX11_canSteal cX11_canSteal 3 (some .boolean) ({ frames := 0, cells := 0, slots := 0, locals := 0 } : Room) [.ref (q 0), .int (pa0), .int (pa1)] (I, R, J) (fun r u => (r = nI 1 ∧ u = (I, R, J) ∧ zR 0 23 (I 0 26)) ∨ (r = nI 0 ∧ u = (I, R, J) ∧ True)) := by
  intro sz
  refine z_body (by decide +kernel) (Nat.le_of_ble_eq_true rfl) (fun p e s m below meth c ls hx hb hml hr ht hown hlocks hsz hK hP hD hS hl => ?_)
  have hA : ∀ a, s.heap.size ≤ a → zA 25 q sz a := fun a h => Or.inr (hsz ▸ h)
  have hl : lv_has ls 3 [(0, .ref (q 0)), (1, .int (pa0)), (2, .int (pa1))] := hl
  refine lv_aload_n hx hb dX11_canSteal_0 rfl (lv_at hl 0 rfl) ?_
  refine z_get hx hb ht hown hK hP ziX11 rfl 0 (by decide) 17 (by decide) hw_5_204 rfl (v := .ref (q 9)) rfl dX11_canSteal_1 ?_
  refine lv_iload_n hx hb dX11_canSteal_4 rfl (lv_at hl 2 rfl) ?_
  refine z_iald hx hb hK hP 9 (by decide) 8 rfl rfl (zR_vin hpa1 (by decide)) dX11_canSteal_5 ?_
  refine z_eqi (y := R 9 (pa1).toNatClampNeg) rfl ?_
  have f_1 : zR 0 4 (R 9 (pa1).toNatClampNeg) := mR hI 9 (pa1).toNatClampNeg
  refine lv_iload_n hx hb dX11_canSteal_6 rfl (lv_at hl 1 rfl) ?_
  refine lv_icmp_eq (tgt := 37) hx hb dX11_canSteal_7 (by decide) (fun c_2 => ?_) (fun c_2 => ?_)
  · have t_c_2 := z_eqT c_2
    refine lv_iconst (v := nI 0) hx hb dX11_canSteal_37 (by decide +kernel) ?_
    exact z_zret (v := nI 0) hx hb hr hlocks hP hD hS (by decide +kernel) dX11_canSteal_38 (Or.inr ⟨rfl, rfl, trivial⟩)
  · have t_c_2 := z_eqF c_2
    refine lv_aload_n hx hb dX11_canSteal_10 rfl (lv_at hl 0 rfl) ?_
    refine z_get hx hb ht hown hK hP ziX11 rfl 0 (by decide) 16 (by decide) hw_5_203 rfl (v := .ref (q 8)) rfl dX11_canSteal_11 ?_
    refine lv_aload_n hx hb dX11_canSteal_14 rfl (lv_at hl 0 rfl) ?_
    refine z_get hx hb ht hown hK hP ziX11 rfl 0 (by decide) 17 (by decide) hw_5_204 rfl (v := .ref (q 9)) rfl dX11_canSteal_15 ?_
    refine lv_iload_n hx hb dX11_canSteal_18 rfl (lv_at hl 2 rfl) ?_
    refine z_iald hx hb hK hP 9 (by decide) 8 rfl rfl (zR_vin hpa1 (by decide)) dX11_canSteal_19 ?_
    refine z_eqi (y := R 9 (pa1).toNatClampNeg) rfl ?_
    refine z_iald hx hb hK hP 8 (by decide) 7 rfl rfl (zR_vin f_1 (by decide)) dX11_canSteal_20 ?_
    refine z_eqi (y := R 8 (R 9 (pa1).toNatClampNeg).toNatClampNeg) rfl ?_
    refine lv_if_ne (tgt := 37) hx hb dX11_canSteal_21 (by decide) (fun c_3 => ?_) (fun c_3 => ?_)
    · have t_c_3 := z_eqF c_3
      refine lv_iconst (v := nI 0) hx hb dX11_canSteal_37 (by decide +kernel) ?_
      exact z_zret (v := nI 0) hx hb hr hlocks hP hD hS (by decide +kernel) dX11_canSteal_38 (Or.inr ⟨rfl, rfl, trivial⟩)
    · have t_c_3 := z_eqT c_3
      have f_4 : zR 0 0 (R 8 (R 9 (pa1).toNatClampNeg).toNatClampNeg) := zR_eqx t_c_3 zk_z
      refine lv_aload_n hx hb dX11_canSteal_24 rfl (lv_at hl 0 rfl) ?_
      refine z_get hx hb ht hown hK hP ziX11 rfl 0 (by decide) 26 (by decide) hw_5_213 rfl (v := .int (I 0 26)) rfl dX11_canSteal_25 ?_
      have f_5 : zR 0 24 (I 0 26) := mI hI 0 26
      refine lv_bipush (v := nI 24) hx hb dX11_canSteal_28 (by decide +kernel) ?_
      refine lv_icmp_ge (tgt := 37) hx hb dX11_canSteal_30 (by decide) (fun c_6 => ?_) (fun c_6 => ?_)
      · have t_c_6 := z_leT c_6
        have f_7 : zR 24 24 (I 0 26) := zR_ley t_c_6 zk_24 f_5 (by decide)
        refine lv_iconst (v := nI 0) hx hb dX11_canSteal_37 (by decide +kernel) ?_
        exact z_zret (v := nI 0) hx hb hr hlocks hP hD hS (by decide +kernel) dX11_canSteal_38 (Or.inr ⟨rfl, rfl, trivial⟩)
      · have t_c_6 := z_leF c_6
        have f_8 : zR 0 23 (I 0 26) := zR_ltx t_c_6 f_5 zk_24 (by decide)
        refine lv_iconst (v := nI 1) hx hb dX11_canSteal_33 (by decide +kernel) ?_
        refine lv_goto (tgt := 38) hx hb dX11_canSteal_34 (by decide) ?_
        exact z_zret (v := nI 1) hx hb hr hlocks hP hD hS (by decide +kernel) dX11_canSteal_38 (Or.inl ⟨rfl, rfl, f_8⟩)
set_option maxHeartbeats 4000000 in
set_option maxRecDepth 100000 in
theorem mk_X11_keepAct (l : Launch) (D : va_G) (q : Nat → Nat) (cA : Nat → ClassId) (F : Nat → Nat → Int32) (I R : Nat → Nat → Int32) (J : Nat → Nat → Int64) (hI : mInv F (I, R, J)) (pa1 : Int32) (hpa1 : zR 0 4 pa1) (pa2 : Int32) (hpa2 : zR 0 5 pa2) (pa3 : Int32) (hpa3 : zR 0 60 pa3) (hst : mSt (F 1) (F 1 6).toInt.toNat ≤ 23) : zMi l D vwCl (zMtys cA) 25 q (zMd q cA) yX11_keepAct cX11_keepAct 5 (some .boolean) ({ frames := 0, cells := 0, slots := 0, locals := 0 } : Room) [.ref (q 0), .int (nI 0), .int (pa1), .int (pa2), .int (pa3)] (I, R, J) (fun r u => (r = nI 1 ∧ ∃ w9, mInv (zr F 1 w9) u) ∨ (r = nI 0 ∧ u = (I, R, J))) := by
  intro sz
  refine z_body (by decide +kernel) (Nat.le_of_ble_eq_true rfl) (fun p e s m below meth c ls hx hb hml hr ht hown hlocks hsz hK hP hD hS hl => ?_)
  have hA : ∀ a, s.heap.size ≤ a → zA 25 q sz a := fun a h => Or.inr (hsz ▸ h)
  have hl : lv_has ls 5 [(0, .ref (q 0)), (1, .int (nI 0)), (2, .int (pa1)), (3, .int (pa2)), (4, .int (pa3))] := hl
  refine lv_aload_n hx hb dX11_keepAct_0 rfl (lv_at hl 0 rfl) ?_
  refine z_get hx hb ht hown hK hP ziX11 rfl 0 (by decide) 1 (by decide) hw_5_188 rfl (v := .ref (q 1)) rfl dX11_keepAct_1 ?_
  refine lv_bipush (v := nI 6) hx hb dX11_keepAct_4 (by decide +kernel) ?_
  refine z_iald hx hb hK hP 1 (by decide) 0 rfl rfl (zR_vin zk_6 (by decide)) dX11_keepAct_6 ?_
  refine z_eqi (y := R 1 (nI 6).toNatClampNeg) rfl ?_
  have f_1 : zR 0 60 (R 1 (nI 6).toNatClampNeg) := mR hI 1 6
  refine lv_bipush (v := nI 60) hx hb dX11_keepAct_7 (by decide +kernel) ?_
  refine lv_icmp_ne (tgt := 14) hx hb dX11_keepAct_9 (by decide) (fun c_2 => ?_) (fun c_2 => ?_)
  · have t_c_2 := z_eqF c_2
    have f_3 : zR 0 59 (R 1 (nI 6).toNatClampNeg) := zR_nex t_c_2 f_1 zk_60 (by decide)
    refine lv_aload_n hx hb dX11_keepAct_14 rfl (lv_at hl 0 rfl) ?_
    refine z_get hx hb ht hown hK hP ziX11 rfl 0 (by decide) 1 (by decide) hw_5_188 rfl (v := .ref (q 1)) rfl dX11_keepAct_15 ?_
    refine lv_bipush (v := nI 59) hx hb dX11_keepAct_18 (by decide +kernel) ?_
    refine lv_aload_n hx hb dX11_keepAct_20 rfl (lv_at hl 0 rfl) ?_
    refine z_get hx hb ht hown hK hP ziX11 rfl 0 (by decide) 1 (by decide) hw_5_188 rfl (v := .ref (q 1)) rfl dX11_keepAct_21 ?_
    refine lv_bipush (v := nI 6) hx hb dX11_keepAct_24 (by decide +kernel) ?_
    refine z_iald hx hb hK hP 1 (by decide) 0 rfl rfl (zR_vin zk_6 (by decide)) dX11_keepAct_26 ?_
    refine z_eqi (y := R 1 (nI 6).toNatClampNeg) rfl ?_
    refine lv_iadd hx hb dX11_keepAct_27 ?_
    refine z_cadd 59 118 zk_59 f_3 (by decide) (fun v_4 hv_4 mv_4 => ?_)
    refine lv_ldc (v := nI 1000000) hx hb hown (ht _ hw_6_189) dX11_keepAct_28 ?_
    refine lv_iload_n hx hb dX11_keepAct_30 rfl (lv_at hl 1 rfl) ?_
    refine lv_imul hx hb dX11_keepAct_31 ?_
    refine z_eqi (y := nI 0) (by decide +kernel) ?_
    refine lv_sipush (v := nI 10000) hx hb dX11_keepAct_32 (by decide +kernel) ?_
    refine lv_iload_n hx hb dX11_keepAct_35 rfl (lv_at hl 2 rfl) ?_
    refine lv_imul hx hb dX11_keepAct_36 ?_
    refine lv_topi (fun v_5 ev_5 => ?_)
    have hv_5 : zR 0 40000 v_5 := ev_5 ▸ zR_mul zk_10000 hpa1 (by decide)
    refine lv_iadd hx hb dX11_keepAct_37 ?_
    refine z_cadd 0 40000 zk_0 hv_5 (by decide) (fun v_6 hv_6 mv_6 => ?_)
    refine lv_bipush (v := nI 100) hx hb dX11_keepAct_38 (by decide +kernel) ?_
    refine lv_iload_n hx hb dX11_keepAct_40 rfl (lv_at hl 3 rfl) ?_
    refine lv_imul hx hb dX11_keepAct_41 ?_
    refine lv_topi (fun v_7 ev_7 => ?_)
    have hv_7 : zR 0 500 v_7 := ev_7 ▸ zR_mul zk_100 hpa2 (by decide)
    refine lv_iadd hx hb dX11_keepAct_42 ?_
    refine lv_topi (fun v_8 ev_8 => ?_)
    have hv_8 : zR 0 40500 v_8 := ev_8 ▸ zR_add hv_6 hv_7 (by decide)
    refine lv_iload hx hb dX11_keepAct_43 (lv_at hl 4 rfl) ?_
    refine lv_iadd hx hb dX11_keepAct_45 ?_
    refine lv_topi (fun v_9 ev_9 => ?_)
    have hv_9 : zR 0 40560 v_9 := ev_9 ▸ zR_add hv_8 hpa3 (by decide)
    refine z_iast hx hb hK hP hD hS 1 (by decide) 0 (fun _ => rfl) rfl (zR_vin hv_4 (by decide)) dX11_keepAct_46 (fun H locs hP hD hS => ?_)
    refine lv_aload_n hx hb dX11_keepAct_47 rfl (lv_at hl 0 rfl) ?_
    refine z_get hx hb ht hown hK hP ziX11 rfl 0 (by decide) 1 (by decide) hw_5_188 rfl (v := .ref (q 1)) rfl dX11_keepAct_48 ?_
    refine lv_bipush (v := nI 6) hx hb dX11_keepAct_51 (by decide +kernel) ?_
    refine lv_dup2_11 hx hb dX11_keepAct_53 rfl rfl ?_
    refine z_iald hx hb hK hP 1 (by decide) 0 rfl rfl (zR_vin zk_6 (by decide)) dX11_keepAct_54 ?_
    refine z_eqi (y := R 1 (nI 6).toNatClampNeg) (mKeep_old hI mv_4) ?_
    refine lv_iconst (v := nI 1) hx hb dX11_keepAct_55 (by decide +kernel) ?_
    refine lv_iadd hx hb dX11_keepAct_56 ?_
    refine z_addc 1 60 f_3 zk_1 (by decide) (fun v_10 hv_10 mv_10 => ?_)
    refine z_iast hx hb hK hP hD hS 1 (by decide) 0 (fun _ => rfl) rfl (zR_vin zk_6 (by decide)) dX11_keepAct_57 (fun H locs hP hD hS => ?_)
    have e1_12 : (v_5).toInt = 10000 * (pa1).toInt := m_mulc zk_10000 hpa1 (by decide) ev_5
    have e2_12 : (v_7).toInt = 100 * (pa2).toInt := m_mulc zk_100 hpa2 (by decide) ev_7
    have e3_12 : (v_8).toInt = (v_6).toInt + (v_7).toInt := m_addv hv_6 hv_7 (by decide) ev_8
    have e4_12 : (v_9).toInt = (v_8).toInt + (pa3).toInt := m_addv hv_8 hpa3 (by decide) ev_9
    have ha_12 := mAct_of (v := v_9) (a := pa1) (b := pa2) (c := pa3) (k := 0) (by have _ := mv_6; omega) (by decide) (zR_w hpa1 (by decide)) hpa2 hpa3 (fun h9 => by obtain ⟨_, _⟩ := hpa1; obtain ⟨_, _⟩ := hpa2; obtain ⟨_, _⟩ := hpa3; omega) (fun h9 => by obtain ⟨_, _⟩ := hpa1; obtain ⟨_, _⟩ := hpa2; obtain ⟨_, _⟩ := hpa3; omega) (fun h9 => by obtain ⟨_, _⟩ := hpa1; obtain ⟨_, _⟩ := hpa2; obtain ⟨_, _⟩ := hpa3; omega)
    have hI_11 := mInv_keep hI (fun h9 => t_c_2 (h9.trans (by decide +kernel))) mv_4 mv_10 ha_12.1 (fun h9 => (by rw [mFr hI 1 rfl]; exact hst))
    refine lv_iconst (v := nI 1) hx hb dX11_keepAct_58 (by decide +kernel) ?_
    exact z_zret (v := nI 1) hx hb hr hlocks hP hD hS (by decide +kernel) dX11_keepAct_59 (Or.inl ⟨rfl, ⟨_, hI_11⟩⟩)
  · have t_c_2 := z_eqT c_2
    have f_13 : zR 60 60 (R 1 (nI 6).toNatClampNeg) := zR_eqx t_c_2 zk_60
    refine lv_iconst (v := nI 0) hx hb dX11_keepAct_12 (by decide +kernel) ?_
    exact z_zret (v := nI 0) hx hb hr hlocks hP hD hS (by decide +kernel) dX11_keepAct_13 (Or.inr ⟨rfl, rfl⟩)
set_option maxHeartbeats 4000000 in
set_option maxRecDepth 100000 in
theorem mk_X11_steal (l : Launch) (D : va_G) (q : Nat → Nat) (cA : Nat → ClassId) (F : Nat → Nat → Int32) (I R : Nat → Nat → Int32) (J : Nat → Nat → Int64) (hI : mInv F (I, R, J)) (pa0 : Int32) (pa1 : Int32) (pa2 : Int32) : zMi l D vwCl (zMtys cA) 25 q (zMd q cA) yX11_steal cX11_steal 4 (some .int) ({ frames := 6, cells := 0, slots := 0, locals := 155 } : Room) [.ref (q 0), .int (pa0), .int (pa1), .int (pa2)] (I, R, J) (fun r u => zR (-5) 24 r ∧ ∃ w9, mInv (zr F 1 w9) u) := by
  intro sz
  refine z_body (by decide +kernel) (Nat.le_of_ble_eq_true rfl) (fun p e s m below meth c ls hx hb hml hr ht hown hlocks hsz hK hP hD hS hl => ?_)
  have hA : ∀ a, s.heap.size ≤ a → zA 25 q sz a := fun a h => Or.inr (hsz ▸ h)
  have hl : lv_has ls 4 [(0, .ref (q 0)), (1, .int (pa0)), (2, .int (pa1)), (3, .int (pa2))] := hl
  refine lv_aload_n hx hb dX11_steal_0 rfl (lv_at hl 0 rfl) ?_
  refine lv_iload_n hx hb dX11_steal_1 rfl (lv_at hl 1 rfl) ?_
  refine lv_i2l (v := (pa0).toInt64) hx hb dX11_steal_2 rfl ?_
  refine z_callVi (k := 0) (As := [.long ((pa0).toInt64)]) (rest := []) hx hb hml hown ht (mk_X11_isHouse l D q cA F _ _ _ hI ((pa0).toInt64) (zR_i2l (zR_any (pa0)))) hw_6_176 hmX11_isHouse ⟨rfl, rfl⟩ (na := 1) rfl (by decide +kernel) (by decide) (by decide) rfl rfl hK hP hD hS hA hl.1 rfl (Nat.le_of_ble_eq_true rfl) ⟨Nat.zero_le _, Nat.zero_le _⟩ dX11_steal_3 (fun r_1 I_1 R_1 J_1 H locs hp_1 hP hD hS _ _ => ?_)
  rcases hp_1 with ⟨rfl, hu_1, f0_1⟩ | ⟨rfl, hu_1⟩
  · cases hu_1
    have f_2 : zR 0 4 (pa0) := zL_back f0_1
    refine lv_if_eq (tgt := 30) hx hb dX11_steal_6 (by decide) (fun c_0 => absurd c_0 (zD_ne zk_1 zk_z (by decide))) (fun _ => ?_)
    refine lv_aload_n hx hb dX11_steal_9 rfl (lv_at hl 0 rfl) ?_
    refine lv_iload_n hx hb dX11_steal_10 rfl (lv_at hl 2 rfl) ?_
    refine lv_i2l (v := (pa1).toInt64) hx hb dX11_steal_11 rfl ?_
    refine z_callVi (k := 0) (As := [.long ((pa1).toInt64)]) (rest := []) hx hb hml hown ht (mk_X11_isThing l D q cA F _ _ _ hI ((pa1).toInt64) (zR_i2l (zR_any (pa1)))) hw_6_238 hmX11_isThing ⟨rfl, rfl⟩ (na := 1) rfl (by decide +kernel) (by decide) (by decide) rfl rfl hK hP hD hS hA hl.1 rfl (Nat.le_of_ble_eq_true rfl) ⟨Nat.zero_le _, Nat.zero_le _⟩ dX11_steal_12 (fun r_3 I_3 R_3 J_3 H locs hp_3 hP hD hS _ _ => ?_)
    rcases hp_3 with ⟨rfl, hu_3, f0_3⟩ | ⟨rfl, hu_3⟩
    · cases hu_3
      have f_4 : zR 0 5 (pa1) := zL_back f0_3
      refine lv_if_eq (tgt := 30) hx hb dX11_steal_15 (by decide) (fun c_0 => absurd c_0 (zD_ne zk_1 zk_z (by decide))) (fun _ => ?_)
      refine lv_iload_n hx hb dX11_steal_18 rfl (lv_at hl 3 rfl) ?_
      refine lv_i2l (v := (pa2).toInt64) hx hb dX11_steal_19 rfl ?_
      refine lv_lconst (v := (1 : Int64)) hx hb dX11_steal_20 (by decide +kernel) ?_
      refine lv_ldc2 (v := (60 : Int64)) hx hb hown (ht _ hw_7_39) dX11_steal_21 ?_
      refine z_callSi (As := [.long ((pa2).toInt64), .long ((1 : Int64)), .long ((60 : Int64))]) (rest := []) hx hb hml hown ht (mk_X11_in l D q cA F _ _ _ hI ((pa2).toInt64) ((1 : Int64)) ((60 : Int64))) hw_6_86 hmX11_in ⟨rfl, rfl⟩ (na := 3) rfl (by decide +kernel) (by decide) hK hP hD hS hA hl.1 rfl (Nat.le_of_ble_eq_true rfl) ⟨Nat.zero_le _, Nat.zero_le _⟩ dX11_steal_24 (fun r_5 I_5 R_5 J_5 H locs hp_5 hP hD hS _ _ => ?_)
      rcases hp_5 with ⟨rfl, hu_5, h1_5, h2_5⟩ | ⟨rfl, hu_5, h1_5 | h2_5⟩
      · cases hu_5
        have f_6 : zL 1 2147483647 ((pa2).toInt64) := zL_ley h1_5 zkl_1 (zR_i2l (zR_any (pa2))) (by decide)
        have f_7 : zR 1 2147483647 (pa2) := zL_back f_6
        have f_8 : zL 1 60 ((pa2).toInt64) := zL_lex h2_5 f_6 zkl_60 (by decide)
        have f_9 : zR 1 60 (pa2) := zL_back f_8
        refine lv_if_ne (tgt := 33) hx hb dX11_steal_27 (by decide) (fun _ => ?_) (fun c_0 => absurd c_0 (zD_ne zk_1 zk_z (by decide)))
        refine lv_aload_n hx hb dX11_steal_33 rfl (lv_at hl 0 rfl) ?_
        refine z_callVv (k := 0) (As := []) (rest := []) hx hb hml hown ht (mk_X11_asItIs l D q cA F _ _ _ hI ) hw_6_181 hmX11_asItIs ⟨rfl, rfl⟩ (na := 0) rfl (by decide +kernel) (by decide) (by decide) rfl rfl hK hP hD hS hA hl.1 rfl (Nat.le_of_ble_eq_true rfl) ⟨Nat.zero_le _, Nat.zero_le _⟩ dX11_steal_34 (fun I_10 R_10 J_10 H locs hp_10 hP hD hS _ _ => ?_)
        obtain ⟨hv_10, hj_10, hs_10⟩ := hp_10
        try dsimp only at hj_10
        subst J_10
        refine lv_aload_n hx hb dX11_steal_37 rfl (lv_at hl 0 rfl) ?_
        refine lv_iload_n hx hb dX11_steal_38 rfl (lv_at hl 1 rfl) ?_
        refine lv_iload_n hx hb dX11_steal_39 rfl (lv_at hl 2 rfl) ?_
        refine z_callVi (k := 0) (As := [.int (pa0), .int (pa1)]) (rest := []) hx hb hml hown ht (mk_X11_canSteal l D q cA F _ _ _ hv_10 (pa0) f_2 (pa1) f_4) hw_7_40 hmX11_canSteal ⟨rfl, rfl⟩ (na := 2) rfl (by decide +kernel) (by decide) (by decide) rfl rfl hK hP hD hS hA hl.1 rfl (Nat.le_of_ble_eq_true rfl) ⟨Nat.zero_le _, Nat.zero_le _⟩ dX11_steal_40 (fun r_11 I_11 R_11 J_11 H locs hp_11 hP hD hS _ _ => ?_)
        rcases hp_11 with ⟨rfl, hu_11, nn_11⟩ | ⟨rfl, hu_11, nn_11⟩
        · cases hu_11
          refine lv_if_eq (tgt := 72) hx hb dX11_steal_43 (by decide) (fun c_0 => absurd c_0 (zD_ne zk_1 zk_z (by decide))) (fun _ => ?_)
          refine lv_iload_n hx hb dX11_steal_46 rfl (lv_at hl 3 rfl) ?_
          refine lv_aload_n hx hb dX11_steal_47 rfl (lv_at hl 0 rfl) ?_
          refine z_get hx hb ht hown hK hP ziX11 rfl 0 (by decide) 27 (by decide) hw_5_214 rfl (v := .int (I_10 0 27)) rfl dX11_steal_48 ?_
          refine lv_icmp_le (tgt := 72) hx hb dX11_steal_51 (by decide) (fun c_12 => ?_) (fun c_12 => ?_)
          · have t_c_12 := z_leT c_12
            have f_13 : zR 1 2147483647 (I_10 0 27) := zR_ley t_c_12 f_9 (zR_any (I_10 0 27)) (by decide)
            refine lv_bipush (v := (-5)) hx hb dX11_steal_72 (by decide +kernel) ?_
            exact z_iret (v := (-5)) hx hb hr hlocks hP hD hS dX11_steal_74 ⟨(zR_w zk_m5 (by decide)), ⟨_, mInv_E hv_10⟩⟩
          · have t_c_12 := z_leF c_12
            have f_14 : zR (-2147483648) 59 (I_10 0 27) := zR_ltx t_c_12 (zR_any (I_10 0 27)) f_9 (by decide)
            refine lv_aload_n hx hb dX11_steal_54 rfl (lv_at hl 0 rfl) ?_
            refine lv_iconst (v := nI 0) hx hb dX11_steal_55 (by decide +kernel) ?_
            refine lv_iload_n hx hb dX11_steal_56 rfl (lv_at hl 1 rfl) ?_
            refine lv_iload_n hx hb dX11_steal_57 rfl (lv_at hl 2 rfl) ?_
            refine lv_iload_n hx hb dX11_steal_58 rfl (lv_at hl 3 rfl) ?_
            refine z_callVi (k := 0) (As := [.int (nI 0), .int (pa0), .int (pa1), .int (pa2)]) (rest := []) hx hb hml hown ht (mk_X11_keepAct l D q cA F _ _ _ hv_10 (pa0) f_2 (pa1) f_4 (pa2) (zR_w f_9 (by decide)) (m_st23 hs_10 nn_11)) hw_7_44 hmX11_keepAct ⟨rfl, rfl⟩ (na := 4) rfl (by decide +kernel) (by decide) (by decide) rfl rfl hK hP hD hS hA hl.1 rfl (Nat.le_of_ble_eq_true rfl) ⟨Nat.zero_le _, Nat.zero_le _⟩ dX11_steal_59 (fun r_15 I_15 R_15 J_15 H locs hp_15 hP hD hS _ _ => ?_)
            rcases hp_15 with ⟨rfl, hu_15⟩ | ⟨rfl, hu_15⟩
            · obtain ⟨w_15, hv_15⟩ := hu_15
              refine lv_if_eq (tgt := 72) hx hb dX11_steal_62 (by decide) (fun c_0 => absurd c_0 (zD_ne zk_1 zk_z (by decide))) (fun _ => ?_)
              refine lv_aload_n hx hb dX11_steal_65 rfl (lv_at hl 0 rfl) ?_
              refine z_get hx hb ht hown hK hP ziX11 rfl 0 (by decide) 26 (by decide) hw_5_213 rfl (v := .int (I_15 0 26)) rfl dX11_steal_66 ?_
              have f_16 : zR 0 24 (I_15 0 26) := mI hv_15 0 26
              refine lv_goto (tgt := 74) hx hb dX11_steal_69 (by decide) ?_
              exact z_iret (v := I_15 0 26) hx hb hr hlocks hP hD hS dX11_steal_74 ⟨(zR_w f_16 (by decide)), ⟨_, hv_15⟩⟩
            · cases hu_15
              refine lv_if_eq (tgt := 72) hx hb dX11_steal_62 (by decide) (fun _ => ?_) (fun c_0 => absurd (zD_eq zk_0 zk_z) c_0)
              refine lv_bipush (v := (-5)) hx hb dX11_steal_72 (by decide +kernel) ?_
              exact z_iret (v := (-5)) hx hb hr hlocks hP hD hS dX11_steal_74 ⟨(zR_w zk_m5 (by decide)), ⟨_, mInv_E hv_10⟩⟩
        · cases hu_11
          refine lv_if_eq (tgt := 72) hx hb dX11_steal_43 (by decide) (fun _ => ?_) (fun c_0 => absurd (zD_eq zk_0 zk_z) c_0)
          refine lv_bipush (v := (-5)) hx hb dX11_steal_72 (by decide +kernel) ?_
          exact z_iret (v := (-5)) hx hb hr hlocks hP hD hS dX11_steal_74 ⟨(zR_w zk_m5 (by decide)), ⟨_, mInv_E hv_10⟩⟩
      · cases hu_5
        have f_17 : zL (-2147483648) 0 ((pa2).toInt64) := zL_ltx h1_5 (zR_i2l (zR_any (pa2))) zkl_1 (by decide)
        have f_18 : zR (-2147483648) 0 (pa2) := zL_back f_17
        refine lv_if_ne (tgt := 33) hx hb dX11_steal_27 (by decide) (fun c_0 => absurd (zD_eq zk_0 zk_z) c_0) (fun _ => ?_)
        refine lv_bipush (v := (-2)) hx hb dX11_steal_30 (by decide +kernel) ?_
        exact z_iret (v := (-2)) hx hb hr hlocks hP hD hS dX11_steal_32 ⟨(zR_w zk_m2 (by decide)), ⟨_, mInv_E hI⟩⟩
      · cases hu_5
        have f_19 : zL 61 2147483647 ((pa2).toInt64) := zL_lty h2_5 zkl_60 (zR_i2l (zR_any (pa2))) (by decide)
        have f_20 : zR 61 2147483647 (pa2) := zL_back f_19
        refine lv_if_ne (tgt := 33) hx hb dX11_steal_27 (by decide) (fun c_0 => absurd (zD_eq zk_0 zk_z) c_0) (fun _ => ?_)
        refine lv_bipush (v := (-2)) hx hb dX11_steal_30 (by decide +kernel) ?_
        exact z_iret (v := (-2)) hx hb hr hlocks hP hD hS dX11_steal_32 ⟨(zR_w zk_m2 (by decide)), ⟨_, mInv_E hI⟩⟩
    · cases hu_3
      refine lv_if_eq (tgt := 30) hx hb dX11_steal_15 (by decide) (fun _ => ?_) (fun c_0 => absurd (zD_eq zk_0 zk_z) c_0)
      refine lv_bipush (v := (-2)) hx hb dX11_steal_30 (by decide +kernel) ?_
      exact z_iret (v := (-2)) hx hb hr hlocks hP hD hS dX11_steal_32 ⟨(zR_w zk_m2 (by decide)), ⟨_, mInv_E hI⟩⟩
  · cases hu_1
    refine lv_if_eq (tgt := 30) hx hb dX11_steal_6 (by decide) (fun _ => ?_) (fun c_0 => absurd (zD_eq zk_0 zk_z) c_0)
    refine lv_bipush (v := (-2)) hx hb dX11_steal_30 (by decide +kernel) ?_
    exact z_iret (v := (-2)) hx hb hr hlocks hP hD hS dX11_steal_32 ⟨(zR_w zk_m2 (by decide)), ⟨_, mInv_E hI⟩⟩
set_option maxHeartbeats 4000000 in
set_option maxRecDepth 100000 in
theorem mk_X11_keepAct_1 (l : Launch) (D : va_G) (q : Nat → Nat) (cA : Nat → ClassId) (F : Nat → Nat → Int32) (I R : Nat → Nat → Int32) (J : Nat → Nat → Int64) (hI : mInv F (I, R, J)) (pa1 : Int32) (hpa1 : zR 0 23 pa1) (pa2 : Int32) (hpa2 : zR 0 4 pa2) (pa3 : Int32) (hpa3 : zR 0 1 pa3) : zMi l D vwCl (zMtys cA) 25 q (zMd q cA) yX11_keepAct cX11_keepAct 5 (some .boolean) ({ frames := 0, cells := 0, slots := 0, locals := 0 } : Room) [.ref (q 0), .int (nI 1), .int (pa1), .int (pa2), .int (pa3)] (I, R, J) (fun r u => (r = nI 1 ∧ ∃ w9, mInv (zr F 1 w9) u) ∨ (r = nI 0 ∧ u = (I, R, J))) := by
  intro sz
  refine z_body (by decide +kernel) (Nat.le_of_ble_eq_true rfl) (fun p e s m below meth c ls hx hb hml hr ht hown hlocks hsz hK hP hD hS hl => ?_)
  have hA : ∀ a, s.heap.size ≤ a → zA 25 q sz a := fun a h => Or.inr (hsz ▸ h)
  have hl : lv_has ls 5 [(0, .ref (q 0)), (1, .int (nI 1)), (2, .int (pa1)), (3, .int (pa2)), (4, .int (pa3))] := hl
  refine lv_aload_n hx hb dX11_keepAct_0 rfl (lv_at hl 0 rfl) ?_
  refine z_get hx hb ht hown hK hP ziX11 rfl 0 (by decide) 1 (by decide) hw_5_188 rfl (v := .ref (q 1)) rfl dX11_keepAct_1 ?_
  refine lv_bipush (v := nI 6) hx hb dX11_keepAct_4 (by decide +kernel) ?_
  refine z_iald hx hb hK hP 1 (by decide) 0 rfl rfl (zR_vin zk_6 (by decide)) dX11_keepAct_6 ?_
  refine z_eqi (y := R 1 (nI 6).toNatClampNeg) rfl ?_
  have f_1 : zR 0 60 (R 1 (nI 6).toNatClampNeg) := mR hI 1 6
  refine lv_bipush (v := nI 60) hx hb dX11_keepAct_7 (by decide +kernel) ?_
  refine lv_icmp_ne (tgt := 14) hx hb dX11_keepAct_9 (by decide) (fun c_2 => ?_) (fun c_2 => ?_)
  · have t_c_2 := z_eqF c_2
    have f_3 : zR 0 59 (R 1 (nI 6).toNatClampNeg) := zR_nex t_c_2 f_1 zk_60 (by decide)
    refine lv_aload_n hx hb dX11_keepAct_14 rfl (lv_at hl 0 rfl) ?_
    refine z_get hx hb ht hown hK hP ziX11 rfl 0 (by decide) 1 (by decide) hw_5_188 rfl (v := .ref (q 1)) rfl dX11_keepAct_15 ?_
    refine lv_bipush (v := nI 59) hx hb dX11_keepAct_18 (by decide +kernel) ?_
    refine lv_aload_n hx hb dX11_keepAct_20 rfl (lv_at hl 0 rfl) ?_
    refine z_get hx hb ht hown hK hP ziX11 rfl 0 (by decide) 1 (by decide) hw_5_188 rfl (v := .ref (q 1)) rfl dX11_keepAct_21 ?_
    refine lv_bipush (v := nI 6) hx hb dX11_keepAct_24 (by decide +kernel) ?_
    refine z_iald hx hb hK hP 1 (by decide) 0 rfl rfl (zR_vin zk_6 (by decide)) dX11_keepAct_26 ?_
    refine z_eqi (y := R 1 (nI 6).toNatClampNeg) rfl ?_
    refine lv_iadd hx hb dX11_keepAct_27 ?_
    refine z_cadd 59 118 zk_59 f_3 (by decide) (fun v_4 hv_4 mv_4 => ?_)
    refine lv_ldc (v := nI 1000000) hx hb hown (ht _ hw_6_189) dX11_keepAct_28 ?_
    refine lv_iload_n hx hb dX11_keepAct_30 rfl (lv_at hl 1 rfl) ?_
    refine lv_imul hx hb dX11_keepAct_31 ?_
    refine z_eqi (y := nI 1000000) (by decide +kernel) ?_
    refine lv_sipush (v := nI 10000) hx hb dX11_keepAct_32 (by decide +kernel) ?_
    refine lv_iload_n hx hb dX11_keepAct_35 rfl (lv_at hl 2 rfl) ?_
    refine lv_imul hx hb dX11_keepAct_36 ?_
    refine lv_topi (fun v_5 ev_5 => ?_)
    have hv_5 : zR 0 230000 v_5 := ev_5 ▸ zR_mul zk_10000 hpa1 (by decide)
    refine lv_iadd hx hb dX11_keepAct_37 ?_
    refine z_cadd 1000000 1230000 zk_1000000 hv_5 (by decide) (fun v_6 hv_6 mv_6 => ?_)
    refine lv_bipush (v := nI 100) hx hb dX11_keepAct_38 (by decide +kernel) ?_
    refine lv_iload_n hx hb dX11_keepAct_40 rfl (lv_at hl 3 rfl) ?_
    refine lv_imul hx hb dX11_keepAct_41 ?_
    refine lv_topi (fun v_7 ev_7 => ?_)
    have hv_7 : zR 0 400 v_7 := ev_7 ▸ zR_mul zk_100 hpa2 (by decide)
    refine lv_iadd hx hb dX11_keepAct_42 ?_
    refine lv_topi (fun v_8 ev_8 => ?_)
    have hv_8 : zR 1000000 1230400 v_8 := ev_8 ▸ zR_add hv_6 hv_7 (by decide)
    refine lv_iload hx hb dX11_keepAct_43 (lv_at hl 4 rfl) ?_
    refine lv_iadd hx hb dX11_keepAct_45 ?_
    refine lv_topi (fun v_9 ev_9 => ?_)
    have hv_9 : zR 1000000 1230401 v_9 := ev_9 ▸ zR_add hv_8 hpa3 (by decide)
    refine z_iast hx hb hK hP hD hS 1 (by decide) 0 (fun _ => rfl) rfl (zR_vin hv_4 (by decide)) dX11_keepAct_46 (fun H locs hP hD hS => ?_)
    refine lv_aload_n hx hb dX11_keepAct_47 rfl (lv_at hl 0 rfl) ?_
    refine z_get hx hb ht hown hK hP ziX11 rfl 0 (by decide) 1 (by decide) hw_5_188 rfl (v := .ref (q 1)) rfl dX11_keepAct_48 ?_
    refine lv_bipush (v := nI 6) hx hb dX11_keepAct_51 (by decide +kernel) ?_
    refine lv_dup2_11 hx hb dX11_keepAct_53 rfl rfl ?_
    refine z_iald hx hb hK hP 1 (by decide) 0 rfl rfl (zR_vin zk_6 (by decide)) dX11_keepAct_54 ?_
    refine z_eqi (y := R 1 (nI 6).toNatClampNeg) (mKeep_old hI mv_4) ?_
    refine lv_iconst (v := nI 1) hx hb dX11_keepAct_55 (by decide +kernel) ?_
    refine lv_iadd hx hb dX11_keepAct_56 ?_
    refine z_addc 1 60 f_3 zk_1 (by decide) (fun v_10 hv_10 mv_10 => ?_)
    refine z_iast hx hb hK hP hD hS 1 (by decide) 0 (fun _ => rfl) rfl (zR_vin zk_6 (by decide)) dX11_keepAct_57 (fun H locs hP hD hS => ?_)
    have e1_12 : (v_5).toInt = 10000 * (pa1).toInt := m_mulc zk_10000 hpa1 (by decide) ev_5
    have e2_12 : (v_7).toInt = 100 * (pa2).toInt := m_mulc zk_100 hpa2 (by decide) ev_7
    have e3_12 : (v_8).toInt = (v_6).toInt + (v_7).toInt := m_addv hv_6 hv_7 (by decide) ev_8
    have e4_12 : (v_9).toInt = (v_8).toInt + (pa3).toInt := m_addv hv_8 hpa3 (by decide) ev_9
    have ha_12 := mAct_of (v := v_9) (a := pa1) (b := pa2) (c := pa3) (k := 1) (by have _ := mv_6; omega) (by decide) hpa1 (zR_w hpa2 (by decide)) (zR_w hpa3 (by decide)) (fun h9 => by obtain ⟨_, _⟩ := hpa1; obtain ⟨_, _⟩ := hpa2; obtain ⟨_, _⟩ := hpa3; omega) (fun h9 => by obtain ⟨_, _⟩ := hpa1; obtain ⟨_, _⟩ := hpa2; obtain ⟨_, _⟩ := hpa3; omega) (fun h9 => by obtain ⟨_, _⟩ := hpa1; obtain ⟨_, _⟩ := hpa2; obtain ⟨_, _⟩ := hpa3; omega)
    have hI_11 := mInv_keep hI (fun h9 => t_c_2 (h9.trans (by decide +kernel))) mv_4 mv_10 ha_12.1 (fun h9 => absurd (ha_12.2.symm.trans h9) (by decide))
    refine lv_iconst (v := nI 1) hx hb dX11_keepAct_58 (by decide +kernel) ?_
    exact z_zret (v := nI 1) hx hb hr hlocks hP hD hS (by decide +kernel) dX11_keepAct_59 (Or.inl ⟨rfl, ⟨_, hI_11⟩⟩)
  · have t_c_2 := z_eqT c_2
    have f_13 : zR 60 60 (R 1 (nI 6).toNatClampNeg) := zR_eqx t_c_2 zk_60
    refine lv_iconst (v := nI 0) hx hb dX11_keepAct_12 (by decide +kernel) ?_
    exact z_zret (v := nI 0) hx hb hr hlocks hP hD hS (by decide +kernel) dX11_keepAct_13 (Or.inr ⟨rfl, rfl⟩)
