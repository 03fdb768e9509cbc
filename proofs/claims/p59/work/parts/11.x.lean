set_option maxHeartbeats 4000000 in
set_option maxRecDepth 100000 in
theorem xk_J0_coder_7d493_3 (l : Launch) (D : va_G) (q : Nat → Nat) (cA : Nat → ClassId) (ad av : Nat → Nat) (t9 : Nat) (F : Nat → Nat → Int32) (I R : Nat → Nat → Int32) (J : Nat → Nat → Int64) (hI : xInv F (I, R, J))  : zNi (zSS zXRs 81 q ad av t9) l D vwCl (zXtys cA) 81 q (zXd q cA) yJ0_coder_7d493 cJ0_coder_7d493 1 (some .byte) ({ frames := 0, cells := 0, slots := 0, locals := 0 } : Room) [.ref (ad 7)] (I, R, J) (fun r u => r = nI 0 ∧ u = (I, R, J)) := by
  intro sz
  refine z_bodyN (by decide +kernel) (Nat.le_of_ble_eq_true rfl) (fun p e s m below meth c ls hx hb hml hr ht hown hlocks hsz hK hP hD hS hN hl => ?_)
  have hA : ∀ a, s.heap.size ≤ a → zA 81 q sz a := fun a h => Or.inr (hsz ▸ h)
  have hl : lv_has ls 1 [(0, .ref (ad 7))] := hl
  have hZ : zSz zXRs 81 q ad av t9 sz s := hsz ▸ hN
  refine va_gets hx hb hZ.2.1 hS hown (ht _ hw_2_195) (fun _ h => h) dJ0_coder_7d493_0 ?_
  refine z_eqi (y := nI 1) rfl ?_
  refine lv_if_eq (tgt := 13) hx hb dJ0_coder_7d493_3 (by decide) (fun c_0 => absurd c_0 (zD_ne zk_1 zk_z (by decide))) (fun _ => ?_)
  refine lv_aload_n hx hb dJ0_coder_7d493_6 rfl (lv_at hl 0 rfl) ?_
  refine vk_getf hx hb (hZ.1.1 7 (by decide)).2.1 hS hown (ht _ hw_8_165) (fun _ h => h) dJ0_coder_7d493_7 ?_
  refine z_eqi (y := nI 0) rfl ?_
  refine lv_goto (tgt := 14) hx hb dJ0_coder_7d493_10 (by decide) ?_
  exact z_zret (v := nI 0) hx hb hr hlocks hP hD hS (by decide +kernel) dJ0_coder_7d493_14 ⟨rfl, rfl⟩
set_option maxHeartbeats 4000000 in
set_option maxRecDepth 100000 in
theorem xk_J0_length_8abf5_3 (l : Launch) (D : va_G) (q : Nat → Nat) (cA : Nat → ClassId) (ad av : Nat → Nat) (t9 : Nat) (F : Nat → Nat → Int32) (I R : Nat → Nat → Int32) (J : Nat → Nat → Int64) (hI : xInv F (I, R, J))  : zNi (zSS zXRs 81 q ad av t9) l D vwCl (zXtys cA) 81 q (zXd q cA) yJ0_length_8abf5 cJ0_length_8abf5 1 (some .int) ({ frames := 1, cells := 0, slots := 0, locals := 20 } : Room) [.ref (ad 7)] (I, R, J) (fun r u => r = nI 5 ∧ u = (I, R, J)) := by
  intro sz
  refine z_bodyN (by decide +kernel) (Nat.le_of_ble_eq_true rfl) (fun p e s m below meth c ls hx hb hml hr ht hown hlocks hsz hK hP hD hS hN hl => ?_)
  have hA : ∀ a, s.heap.size ≤ a → zA 81 q sz a := fun a h => Or.inr (hsz ▸ h)
  have hl : lv_has ls 1 [(0, .ref (ad 7))] := hl
  have hZ : zSz zXRs 81 q ad av t9 sz s := hsz ▸ hN
  refine lv_aload_n hx hb dJ0_length_8abf5_0 rfl (lv_at hl 0 rfl) ?_
  refine vk_getf hx hb (hZ.1.1 7 (by decide)).2.2.1 hS hown (ht _ hw_8_164) (fun _ h => h) dJ0_length_8abf5_1 ?_
  refine va_tlen hx hb (hZ.1.1 7 (by decide)).2.2.2 hS (v := nI 5) rfl dJ0_length_8abf5_4 ?_
  refine lv_aload_n hx hb dJ0_length_8abf5_5 rfl (lv_at hl 0 rfl) ?_
  refine z_cNXi (As := []) (rest := [.int (nI 5)]) hx hb hml hown ht (xk_J0_coder_7d493_3 l D q cA ad av t9 F _ _ _ hI ) hw_2_191 hmJ0_coder_7d493 ⟨rfl, rfl⟩ (na := 0) rfl (by decide +kernel) (by decide) (vk_recv hZ.1 (by decide) hS) hK hP hD hS hA (zSS_c (Rs := zXRs) (t9 := t9) (fun _ _ _ => zXRs_c)) (zSS_w (Rs := zXRs) (t9 := t9) (fun _ _ _ => zXRs_w) hN hsz hS) hl.1 rfl (Nat.le_of_ble_eq_true rfl) ⟨Nat.zero_le _, Nat.zero_le _⟩ dJ0_length_8abf5_6 (fun r_1 I_1 R_1 J_1 H locs hp_1 hP hD hS _ _ => ?_)
  obtain ⟨rfl, hu_1⟩ := hp_1
  cases hu_1
  refine lv_ishr hx hb dJ0_length_8abf5_9 ?_
  refine z_eqi (y := nI 5) (by decide +kernel) ?_
  exact z_iret (v := nI 5) hx hb hr hlocks hP hD hS dJ0_length_8abf5_10 ⟨rfl, rfl⟩
set_option maxHeartbeats 4000000 in
set_option maxRecDepth 100000 in
theorem xk_J0_isLatin1_aae02_3 (l : Launch) (D : va_G) (q : Nat → Nat) (cA : Nat → ClassId) (ad av : Nat → Nat) (t9 : Nat) (F : Nat → Nat → Int32) (I R : Nat → Nat → Int32) (J : Nat → Nat → Int64) (hI : xInv F (I, R, J))  : zNi (zSS zXRs 81 q ad av t9) l D vwCl (zXtys cA) 81 q (zXd q cA) yJ0_isLatin1_aae02 cJ0_isLatin1_aae02 1 (some .boolean) ({ frames := 0, cells := 0, slots := 0, locals := 0 } : Room) [.ref (ad 7)] (I, R, J) (fun r u => (r = nI 1 ∧ u = (I, R, J))) := by
  intro sz
  refine z_bodyN (by decide +kernel) (Nat.le_of_ble_eq_true rfl) (fun p e s m below meth c ls hx hb hml hr ht hown hlocks hsz hK hP hD hS hN hl => ?_)
  have hA : ∀ a, s.heap.size ≤ a → zA 81 q sz a := fun a h => Or.inr (hsz ▸ h)
  have hl : lv_has ls 1 [(0, .ref (ad 7))] := hl
  have hZ : zSz zXRs 81 q ad av t9 sz s := hsz ▸ hN
  refine va_gets hx hb hZ.2.1 hS hown (ht _ hw_2_195) (fun _ h => h) dJ0_isLatin1_aae02_0 ?_
  refine z_eqi (y := nI 1) rfl ?_
  refine lv_if_eq (tgt := 17) hx hb dJ0_isLatin1_aae02_3 (by decide) (fun c_0 => absurd c_0 (zD_ne zk_1 zk_z (by decide))) (fun _ => ?_)
  refine lv_aload_n hx hb dJ0_isLatin1_aae02_6 rfl (lv_at hl 0 rfl) ?_
  refine vk_getf hx hb (hZ.1.1 7 (by decide)).2.1 hS hown (ht _ hw_8_165) (fun _ h => h) dJ0_isLatin1_aae02_7 ?_
  refine z_eqi (y := nI 0) rfl ?_
  refine lv_if_ne (tgt := 17) hx hb dJ0_isLatin1_aae02_10 (by decide) (fun c_0 => absurd (zD_eq zk_0 zk_z) c_0) (fun _ => ?_)
  refine lv_iconst (v := nI 1) hx hb dJ0_isLatin1_aae02_13 (by decide +kernel) ?_
  refine lv_goto (tgt := 18) hx hb dJ0_isLatin1_aae02_14 (by decide) ?_
  exact z_zret (v := nI 1) hx hb hr hlocks hP hD hS (by decide +kernel) dJ0_isLatin1_aae02_18 ⟨rfl, rfl⟩
set_option maxHeartbeats 4000000 in
set_option maxRecDepth 100000 in
theorem xk_J1_charAt_3b067_7 (l : Launch) (D : va_G) (q : Nat → Nat) (cA : Nat → ClassId) (ad av : Nat → Nat) (t9 : Nat) (F : Nat → Nat → Int32) (I R : Nat → Nat → Int32) (J : Nat → Nat → Int64) (hI : xInv F (I, R, J)) (pa1 : Int32) (hpa1 : zR 0 4 pa1) : zNi (zSS zXRs 81 q ad av t9) l D vwCl (zXtys cA) 81 q (zXd q cA) yJ1_charAt_3b067 cJ1_charAt_3b067 2 (some .char) ({ frames := 2, cells := 0, slots := 0, locals := 43 } : Room) [.ref (av 7), .int (pa1)] (I, R, J) (fun r u => zR 0 65535 r ∧ u = (I, R, J)) := by
  intro sz
  refine z_bodyN (by decide +kernel) (Nat.le_of_ble_eq_true rfl) (fun p e s m below meth c ls hx hb hml hr ht hown hlocks hsz hK hP hD hS hN hl => ?_)
  have hA : ∀ a, s.heap.size ≤ a → zA 81 q sz a := fun a h => Or.inr (hsz ▸ h)
  have hl : lv_has ls 2 [(0, .ref (av 7)), (1, .int (pa1))] := hl
  have hZ : zSz zXRs 81 q ad av t9 sz s := hsz ▸ hN
  refine lv_iload_n hx hb dJ1_charAt_3b067_0 rfl (lv_at hl 1 rfl) ?_
  refine lv_aload_n hx hb dJ1_charAt_3b067_1 rfl (lv_at hl 0 rfl) ?_
  refine va_tlen hx hb (hZ.1.1 7 (by decide)).2.2.2 hS (v := nI 5) rfl dJ1_charAt_3b067_2 ?_
  refine z_cNSv (As := [.int (pa1), .int (nI 5)]) (rest := []) hx hb hml hown ht (xk_J0_checkIndex_df160_1 l D q cA ad av t9 F _ _ _ hI (pa1) hpa1) hw_2_208 hmJ0_checkIndex_df160 ⟨rfl, rfl⟩ (na := 2) rfl (by decide +kernel) (by decide) hK hP hD hS hA (zSS_c (Rs := zXRs) (t9 := t9) (fun _ _ _ => zXRs_c)) (zSS_w (Rs := zXRs) (t9 := t9) (fun _ _ _ => zXRs_w) hN hsz hS) hl.1 rfl (Nat.le_of_ble_eq_true rfl) ⟨Nat.zero_le _, Nat.zero_le _⟩ dJ1_charAt_3b067_3 (fun I_1 R_1 J_1 H locs hp_1 hP hD hS _ _ => ?_)
  cases hp_1
  refine lv_aload_n hx hb dJ1_charAt_3b067_6 rfl (lv_at hl 0 rfl) ?_
  refine lv_iload_n hx hb dJ1_charAt_3b067_7 rfl (lv_at hl 1 rfl) ?_
  refine va_tb hx hb (hZ.1.1 7 (by decide)).2.2.2 hS (zR_vin hpa1 (by decide)) rfl dJ1_charAt_3b067_8 ?_
  refine z_any (fun v_2 => ?_)
  refine lv_sipush (v := nI 255) hx hb dJ1_charAt_3b067_9 (by decide +kernel) ?_
  refine lv_iand hx hb dJ1_charAt_3b067_12 ?_
  refine z_rng (a := 0) (b := 255) (zR_andr zk_255 (by decide)) (fun v_3 hv_3 => ?_)
  refine lv_i2c hx hb dJ1_charAt_3b067_13 rfl ?_
  refine z_rng (a := 0) (b := 65535) (zR_i2c _) (fun v_4 hv_4 => ?_)
  exact z_zret (v := v_4) hx hb hr hlocks hP hD hS (zR_char hv_4) dJ1_charAt_3b067_14 ⟨hv_4, rfl⟩
set_option maxHeartbeats 4000000 in
set_option maxRecDepth 100000 in
theorem xk_J0_charAt_5068e_7 (l : Launch) (D : va_G) (q : Nat → Nat) (cA : Nat → ClassId) (ad av : Nat → Nat) (t9 : Nat) (F : Nat → Nat → Int32) (I R : Nat → Nat → Int32) (J : Nat → Nat → Int64) (hI : xInv F (I, R, J)) (pa0 : Int32) (hpa0 : zR 0 4 pa0) : zNi (zSS zXRs 81 q ad av t9) l D vwCl (zXtys cA) 81 q (zXd q cA) yJ0_charAt_5068e cJ0_charAt_5068e 2 (some .char) ({ frames := 3, cells := 0, slots := 0, locals := 64 } : Room) [.ref (ad 7), .int (pa0)] (I, R, J) (fun r u => zR 0 65535 r ∧ u = (I, R, J)) := by
  intro sz
  refine z_bodyN (by decide +kernel) (Nat.le_of_ble_eq_true rfl) (fun p e s m below meth c ls hx hb hml hr ht hown hlocks hsz hK hP hD hS hN hl => ?_)
  have hA : ∀ a, s.heap.size ≤ a → zA 81 q sz a := fun a h => Or.inr (hsz ▸ h)
  have hl : lv_has ls 2 [(0, .ref (ad 7)), (1, .int (pa0))] := hl
  have hZ : zSz zXRs 81 q ad av t9 sz s := hsz ▸ hN
  refine lv_aload_n hx hb dJ0_charAt_5068e_0 rfl (lv_at hl 0 rfl) ?_
  refine z_cNXi (As := []) (rest := []) hx hb hml hown ht (xk_J0_isLatin1_aae02_3 l D q cA ad av t9 F _ _ _ hI ) hw_2_201 hmJ0_isLatin1_aae02 ⟨rfl, rfl⟩ (na := 0) rfl (by decide +kernel) (by decide) (vk_recv hZ.1 (by decide) hS) hK hP hD hS hA (zSS_c (Rs := zXRs) (t9 := t9) (fun _ _ _ => zXRs_c)) (zSS_w (Rs := zXRs) (t9 := t9) (fun _ _ _ => zXRs_w) hN hsz hS) hl.1 rfl (Nat.le_of_ble_eq_true rfl) ⟨Nat.zero_le _, Nat.zero_le _⟩ dJ0_charAt_5068e_1 (fun r_1 I_1 R_1 J_1 H locs hp_1 hP hD hS _ _ => ?_)
  obtain ⟨rfl, hu_1⟩ := hp_1
  cases hu_1
  refine lv_if_eq (tgt := 16) hx hb dJ0_charAt_5068e_4 (by decide) (fun c_0 => absurd c_0 (zD_ne zk_1 zk_z (by decide))) (fun _ => ?_)
  refine lv_aload_n hx hb dJ0_charAt_5068e_7 rfl (lv_at hl 0 rfl) ?_
  refine vk_getf hx hb (hZ.1.1 7 (by decide)).2.2.1 hS hown (ht _ hw_8_164) (fun _ h => h) dJ0_charAt_5068e_8 ?_
  refine lv_iload_n hx hb dJ0_charAt_5068e_11 rfl (lv_at hl 1 rfl) ?_
  refine z_cNSi (As := [.ref (av 7), .int (pa0)]) (rest := []) hx hb hml hown ht (xk_J1_charAt_3b067_7 l D q cA ad av t9 F _ _ _ hI (pa0) hpa0) hw_2_205 hmJ1_charAt_3b067 ⟨rfl, rfl⟩ (na := 2) rfl (by decide +kernel) (by decide) hK hP hD hS hA (zSS_c (Rs := zXRs) (t9 := t9) (fun _ _ _ => zXRs_c)) (zSS_w (Rs := zXRs) (t9 := t9) (fun _ _ _ => zXRs_w) hN hsz hS) hl.1 rfl (Nat.le_of_ble_eq_true rfl) ⟨Nat.zero_le _, Nat.zero_le _⟩ dJ0_charAt_5068e_12 (fun r_2 I_2 R_2 J_2 H locs hp_2 hP hD hS _ _ => ?_)
  obtain ⟨hr_2, hu_2⟩ := hp_2
  cases hu_2
  exact z_zret (v := r_2) hx hb hr hlocks hP hD hS (zR_char hr_2) dJ0_charAt_5068e_15 ⟨hr_2, rfl⟩
set_option maxHeartbeats 4000000 in
set_option maxRecDepth 100000 in
theorem xk_X7_isWord_3 (l : Launch) (D : va_G) (q : Nat → Nat) (cA : Nat → ClassId) (ad av : Nat → Nat) (t9 : Nat) (F : Nat → Nat → Int32) (I R : Nat → Nat → Int32) (J : Nat → Nat → Int64) (hI : xInv F (I, R, J))  : zNi (zSS zXRs 81 q ad av t9) l D vwCl (zXtys cA) 81 q (zXd q cA) yX7_isWord cX7_isWord 3 (some .boolean) ({ frames := 4, cells := 0, slots := 0, locals := 85 } : Room) [.ref (q 1), .ref (ad 7)] (I, R, J) (fun r u => (r = nI 1 ∧ u = (I, R, J)) ∨ (r = nI 0 ∧ u = (I, R, J))) := by
  intro sz
  refine z_bodyN (by decide +kernel) (Nat.le_of_ble_eq_true rfl) (fun p e s m below meth c ls hx hb hml hr ht hown hlocks hsz hK hP hD hS hN hl => ?_)
  have hA : ∀ a, s.heap.size ≤ a → zA 81 q sz a := fun a h => Or.inr (hsz ▸ h)
  have hl : lv_has ls 3 [(0, .ref (q 1)), (1, .ref (ad 7))] := hl
  have hZ : zSz zXRs 81 q ad av t9 sz s := hsz ▸ hN
  refine lv_aload_n hx hb dX7_isWord_0 rfl (lv_at hl 0 rfl) ?_
  refine z_get hx hb ht hown hK hP ziX7 rfl 1 (by decide) 4 (by decide) hw_1_42 rfl (v := .int (I 1 4)) rfl dX7_isWord_1 ?_
  refine lv_iconst (v := nI 1) hx hb dX7_isWord_4 (by decide +kernel) ?_
  refine lv_icmp_ne (tgt := 24) hx hb dX7_isWord_5 (by decide) (fun c_1 => ?_) (fun c_1 => ?_)
  · have t_c_1 := z_eqF c_1
    refine lv_iconst (v := nI 0) hx hb dX7_isWord_24 (by decide +kernel) ?_
    exact z_zret (v := nI 0) hx hb hr hlocks hP hD hS (by decide +kernel) dX7_isWord_25 (Or.inr ⟨rfl, rfl⟩)
  · have t_c_1 := z_eqT c_1
    have f_2 : zR 1 1 (I 1 4) := zR_eqx t_c_1 zk_1
    refine lv_aload_n hx hb dX7_isWord_8 rfl (lv_at hl 0 rfl) ?_
    refine z_get hx hb ht hown hK hP ziX7 rfl 1 (by decide) 6 (by decide) hw_1_44 rfl (v := .int (I 1 6)) rfl dX7_isWord_9 ?_
    have f_3 : zR 0 800 (I 1 6) := xI hI 1 6
    refine lv_aload_n hx hb dX7_isWord_12 rfl (lv_at hl 0 rfl) ?_
    refine z_get hx hb ht hown hK hP ziX7 rfl 1 (by decide) 5 (by decide) hw_1_43 rfl (v := .int (I 1 5)) rfl dX7_isWord_13 ?_
    have f_4 : zR 0 800 (I 1 5) := xI hI 1 5
    refine lv_isub hx hb dX7_isWord_16 ?_
    refine lv_topi (fun v_5 ev_5 => ?_)
    have hv_5 : zR (-800) 800 v_5 := ev_5 ▸ zR_sub f_3 f_4 (by decide)
    refine lv_aload_n hx hb dX7_isWord_17 rfl (lv_at hl 1 rfl) ?_
    refine z_cNXi (As := []) (rest := [.int (v_5)]) hx hb hml hown ht (xk_J0_length_8abf5_3 l D q cA ad av t9 F _ _ _ hI ) hw_2_187 hmJ0_length_8abf5 ⟨rfl, rfl⟩ (na := 0) rfl (by decide +kernel) (by decide) (vk_recv hZ.1 (by decide) hS) hK hP hD hS hA (zSS_c (Rs := zXRs) (t9 := t9) (fun _ _ _ => zXRs_c)) (zSS_w (Rs := zXRs) (t9 := t9) (fun _ _ _ => zXRs_w) hN hsz hS) hl.1 rfl (Nat.le_of_ble_eq_true rfl) ⟨Nat.zero_le _, Nat.zero_le _⟩ dX7_isWord_18 (fun r_6 I_6 R_6 J_6 H locs hp_6 hP hD hS _ _ => ?_)
    obtain ⟨rfl, hu_6⟩ := hp_6
    cases hu_6
    refine lv_icmp_eq (tgt := 26) hx hb dX7_isWord_21 (by decide) (fun c_7 => ?_) (fun c_7 => ?_)
    · have t_c_7 := z_eqT c_7
      have f_8 : zR 5 5 (v_5) := zR_eqx t_c_7 zk_5
      have f_9 : zR 0 795 (I 1 5) := z_start f_3 f_4 ev_5 f_8 (by decide)
      refine lv_iconst (v := nI 0) hx hb dX7_isWord_26 (by decide +kernel) ?_
      refine lv_istore_n (lv' := [(2, .int (nI 0)), (0, .ref (q 1)), (1, .ref (ad 7))]) hx hb dX7_isWord_27 rfl hl (by decide) rfl (fun ls hl => ?_)
      have loop_43 : ∀ N : Nat, ∀ x_42 : Int32, zR 0 5 x_42 → (2147483648 - (x_42).toInt).toNat < N → ∀ (H : Heap) (locs : List Loc), va_P D vwCl (zw 81 q (zXd q cA) I R J) H → va_D (zA 81 q sz) (zw 81 q (zXd q cA) I R J) → va_S (zA 81 q sz) s.heap H locs → ∀ ls : Array Slot, lv_has ls 3 [(0, .ref (q 1)), (1, .ref (ad 7)), (2, .int (x_42))] → W p l e ({ frames := 4, cells := 0, slots := 0, locals := 85 } : Room) s m ([.ref (q 1), .ref (ad 7)] : List Value).toArray below meth c H locs 0 0 (MQ below (va_Qi (fun r u => (r = nI 1 ∧ u = (I, R, J)) ∨ (r = nI 0 ∧ u = (I, R, J))) (zB D vwCl 81 q (zXd q cA) sz) (zA 81 q sz)) ([.ref (q 1), .ref (ad 7)] : List Value).toArray s 0 0 (zA 81 q sz)) (F0 m 28 ls []) := by
        intro N
        induction N with
        | zero => intro x_42 hx_42 hN; exact absurd hN (Nat.not_lt_zero _)
        | succ N ih_45 =>
          intro x_42 hx_42 hN_44 H locs hP hD hS ls hl
          refine lv_iload_n hx hb dX7_isWord_28 rfl (lv_at hl 2 rfl) ?_
          refine lv_aload_n hx hb dX7_isWord_29 rfl (lv_at hl 1 rfl) ?_
          refine z_cNXi (As := []) (rest := [.int (x_42)]) hx hb hml hown ht (xk_J0_length_8abf5_3 l D q cA ad av t9 F _ _ _ hI ) hw_2_187 hmJ0_length_8abf5 ⟨rfl, rfl⟩ (na := 0) rfl (by decide +kernel) (by decide) (vk_recv hZ.1 (by decide) hS) hK hP hD hS hA (zSS_c (Rs := zXRs) (t9 := t9) (fun _ _ _ => zXRs_c)) (zSS_w (Rs := zXRs) (t9 := t9) (fun _ _ _ => zXRs_w) hN hsz hS) hl.1 rfl (Nat.le_of_ble_eq_true rfl) ⟨Nat.zero_le _, Nat.zero_le _⟩ dX7_isWord_30 (fun r_46 I_46 R_46 J_46 H locs hp_46 hP hD hS _ _ => ?_)
          obtain ⟨rfl, hu_46⟩ := hp_46
          cases hu_46
          refine lv_icmp_ge (tgt := 63) hx hb dX7_isWord_33 (by decide) (fun c_47 => ?_) (fun c_47 => ?_)
          · have t_c_47 := z_leT c_47
            have f_48 : zR 5 5 (x_42) := zR_ley t_c_47 zk_5 hx_42 (by decide)
            refine lv_iconst (v := nI 1) hx hb dX7_isWord_63 (by decide +kernel) ?_
            exact z_zret (v := nI 1) hx hb hr hlocks hP hD hS (by decide +kernel) dX7_isWord_64 (Or.inl ⟨rfl, rfl⟩)
          · have t_c_47 := z_leF c_47
            have f_49 : zR 0 4 (x_42) := zR_ltx t_c_47 hx_42 zk_5 (by decide)
            refine lv_aload_n hx hb dX7_isWord_36 rfl (lv_at hl 0 rfl) ?_
            refine z_get hx hb ht hown hK hP ziX7 rfl 1 (by decide) 0 (by decide) hw_1_35 rfl (v := .ref (q 2)) rfl dX7_isWord_37 ?_
            refine lv_aload_n hx hb dX7_isWord_40 rfl (lv_at hl 0 rfl) ?_
            refine z_get hx hb ht hown hK hP ziX7 rfl 1 (by decide) 5 (by decide) hw_1_43 rfl (v := .int (I 1 5)) rfl dX7_isWord_41 ?_
            refine lv_iload_n hx hb dX7_isWord_44 rfl (lv_at hl 2 rfl) ?_
            refine lv_iadd hx hb dX7_isWord_45 ?_
            refine z_rng (a := 0) (b := 799) (zR_add f_9 f_49 (by decide)) (fun v_50 hv_50 => ?_)
            refine z_bald hx hb hK hP 2 (by decide) 0 rfl rfl (zR_vin hv_50 (by decide)) dX7_isWord_46 ?_
            refine z_eqi (y := R 2 (v_50).toNatClampNeg) rfl ?_
            refine lv_aload_n hx hb dX7_isWord_47 rfl (lv_at hl 1 rfl) ?_
            refine lv_iload_n hx hb dX7_isWord_48 rfl (lv_at hl 2 rfl) ?_
            refine z_cNXi (As := [.int (x_42)]) (rest := [.int (R 2 (v_50).toNatClampNeg)]) hx hb hml hown ht (xk_J0_charAt_5068e_7 l D q cA ad av t9 F _ _ _ hI (x_42) f_49) hw_2_197 hmJ0_charAt_5068e ⟨rfl, rfl⟩ (na := 1) rfl (by decide +kernel) (by decide) (vk_recv hZ.1 (by decide) hS) hK hP hD hS hA (zSS_c (Rs := zXRs) (t9 := t9) (fun _ _ _ => zXRs_c)) (zSS_w (Rs := zXRs) (t9 := t9) (fun _ _ _ => zXRs_w) hN hsz hS) hl.1 rfl (Nat.le_of_ble_eq_true rfl) ⟨Nat.zero_le _, Nat.zero_le _⟩ dX7_isWord_49 (fun r_51 I_51 R_51 J_51 H locs hp_51 hP hD hS _ _ => ?_)
            obtain ⟨hr_51, hu_51⟩ := hp_51
            cases hu_51
            refine lv_icmp_eq (tgt := 57) hx hb dX7_isWord_52 (by decide) (fun c_52 => ?_) (fun c_52 => ?_)
            · have t_c_52 := z_eqT c_52
              have f_53 : zR 0 65535 (R 2 (v_50).toNatClampNeg) := zR_eqx t_c_52 hr_51
              obtain ⟨v_54, ev_54⟩ : ∃ y : Int32, y = x_42 + nI 1 := ⟨_, rfl⟩
              have hv_54 : zR 1 5 v_54 := ev_54 ▸ zR_add f_49 zk_1 (by decide)
              have mv_54 : v_54.toInt = (x_42).toInt + 1 := by rw [ev_54, zR_addE f_49 zk_1 (by decide)]; rfl
              refine lv_iinc (v := v_54) (lv' := [(2, .int (v_54)), (0, .ref (q 1)), (1, .ref (ad 7))]) hx hb dX7_isWord_57 hl (k := 2) rfl (ev_54 ▸ rfl) (by decide) rfl (fun ls hl => ?_)
              refine lv_goto (tgt := 28) hx hb dX7_isWord_60 (by decide) ?_
              exact ih_45 (v_54) (zR_w hv_54 (by decide)) (z2_up mv_54 (by decide) hN_44) _ _ hP hD hS _ (lv_sub hl [1, 2, 0] rfl)
            · have t_c_52 := z_eqF c_52
              refine lv_iconst (v := nI 0) hx hb dX7_isWord_55 (by decide +kernel) ?_
              exact z_zret (v := nI 0) hx hb hr hlocks hP hD hS (by decide +kernel) dX7_isWord_56 (Or.inr ⟨rfl, rfl⟩)
      exact loop_43 _ (nI 0) (zR_w zk_0 (by decide)) (Nat.lt_succ_self _) _ _ hP hD hS _ (lv_sub hl [1, 2, 0] rfl)
    · have t_c_7 := z_eqF c_7
      refine lv_iconst (v := nI 0) hx hb dX7_isWord_24 (by decide +kernel) ?_
      exact z_zret (v := nI 0) hx hb hr hlocks hP hD hS (by decide +kernel) dX7_isWord_25 (Or.inr ⟨rfl, rfl⟩)
set_option maxHeartbeats 4000000 in
set_option maxRecDepth 100000 in
theorem xk_J0_coder_7d493_4 (l : Launch) (D : va_G) (q : Nat → Nat) (cA : Nat → ClassId) (ad av : Nat → Nat) (t9 : Nat) (F : Nat → Nat → Int32) (I R : Nat → Nat → Int32) (J : Nat → Nat → Int64) (hI : xInv F (I, R, J))  : zNi (zSS zXRs 81 q ad av t9) l D vwCl (zXtys cA) 81 q (zXd q cA) yJ0_coder_7d493 cJ0_coder_7d493 1 (some .byte) ({ frames := 0, cells := 0, slots := 0, locals := 0 } : Room) [.ref (ad 8)] (I, R, J) (fun r u => r = nI 0 ∧ u = (I, R, J)) := by
  intro sz
  refine z_bodyN (by decide +kernel) (Nat.le_of_ble_eq_true rfl) (fun p e s m below meth c ls hx hb hml hr ht hown hlocks hsz hK hP hD hS hN hl => ?_)
  have hA : ∀ a, s.heap.size ≤ a → zA 81 q sz a := fun a h => Or.inr (hsz ▸ h)
  have hl : lv_has ls 1 [(0, .ref (ad 8))] := hl
  have hZ : zSz zXRs 81 q ad av t9 sz s := hsz ▸ hN
  refine va_gets hx hb hZ.2.1 hS hown (ht _ hw_2_195) (fun _ h => h) dJ0_coder_7d493_0 ?_
  refine z_eqi (y := nI 1) rfl ?_
  refine lv_if_eq (tgt := 13) hx hb dJ0_coder_7d493_3 (by decide) (fun c_0 => absurd c_0 (zD_ne zk_1 zk_z (by decide))) (fun _ => ?_)
  refine lv_aload_n hx hb dJ0_coder_7d493_6 rfl (lv_at hl 0 rfl) ?_
  refine vk_getf hx hb (hZ.1.1 8 (by decide)).2.1 hS hown (ht _ hw_8_165) (fun _ h => h) dJ0_coder_7d493_7 ?_
  refine z_eqi (y := nI 0) rfl ?_
  refine lv_goto (tgt := 14) hx hb dJ0_coder_7d493_10 (by decide) ?_
  exact z_zret (v := nI 0) hx hb hr hlocks hP hD hS (by decide +kernel) dJ0_coder_7d493_14 ⟨rfl, rfl⟩
set_option maxHeartbeats 4000000 in
set_option maxRecDepth 100000 in
theorem xk_J0_length_8abf5_4 (l : Launch) (D : va_G) (q : Nat → Nat) (cA : Nat → ClassId) (ad av : Nat → Nat) (t9 : Nat) (F : Nat → Nat → Int32) (I R : Nat → Nat → Int32) (J : Nat → Nat → Int64) (hI : xInv F (I, R, J))  : zNi (zSS zXRs 81 q ad av t9) l D vwCl (zXtys cA) 81 q (zXd q cA) yJ0_length_8abf5 cJ0_length_8abf5 1 (some .int) ({ frames := 1, cells := 0, slots := 0, locals := 20 } : Room) [.ref (ad 8)] (I, R, J) (fun r u => r = nI 2 ∧ u = (I, R, J)) := by
  intro sz
  refine z_bodyN (by decide +kernel) (Nat.le_of_ble_eq_true rfl) (fun p e s m below meth c ls hx hb hml hr ht hown hlocks hsz hK hP hD hS hN hl => ?_)
  have hA : ∀ a, s.heap.size ≤ a → zA 81 q sz a := fun a h => Or.inr (hsz ▸ h)
  have hl : lv_has ls 1 [(0, .ref (ad 8))] := hl
  have hZ : zSz zXRs 81 q ad av t9 sz s := hsz ▸ hN
  refine lv_aload_n hx hb dJ0_length_8abf5_0 rfl (lv_at hl 0 rfl) ?_
  refine vk_getf hx hb (hZ.1.1 8 (by decide)).2.2.1 hS hown (ht _ hw_8_164) (fun _ h => h) dJ0_length_8abf5_1 ?_
  refine va_tlen hx hb (hZ.1.1 8 (by decide)).2.2.2 hS (v := nI 2) rfl dJ0_length_8abf5_4 ?_
  refine lv_aload_n hx hb dJ0_length_8abf5_5 rfl (lv_at hl 0 rfl) ?_
  refine z_cNXi (As := []) (rest := [.int (nI 2)]) hx hb hml hown ht (xk_J0_coder_7d493_4 l D q cA ad av t9 F _ _ _ hI ) hw_2_191 hmJ0_coder_7d493 ⟨rfl, rfl⟩ (na := 0) rfl (by decide +kernel) (by decide) (vk_recv hZ.1 (by decide) hS) hK hP hD hS hA (zSS_c (Rs := zXRs) (t9 := t9) (fun _ _ _ => zXRs_c)) (zSS_w (Rs := zXRs) (t9 := t9) (fun _ _ _ => zXRs_w) hN hsz hS) hl.1 rfl (Nat.le_of_ble_eq_true rfl) ⟨Nat.zero_le _, Nat.zero_le _⟩ dJ0_length_8abf5_6 (fun r_1 I_1 R_1 J_1 H locs hp_1 hP hD hS _ _ => ?_)
  obtain ⟨rfl, hu_1⟩ := hp_1
  cases hu_1
  refine lv_ishr hx hb dJ0_length_8abf5_9 ?_
  refine z_eqi (y := nI 2) (by decide +kernel) ?_
  exact z_iret (v := nI 2) hx hb hr hlocks hP hD hS dJ0_length_8abf5_10 ⟨rfl, rfl⟩
set_option maxHeartbeats 4000000 in
set_option maxRecDepth 100000 in
theorem xk_J0_isLatin1_aae02_4 (l : Launch) (D : va_G) (q : Nat → Nat) (cA : Nat → ClassId) (ad av : Nat → Nat) (t9 : Nat) (F : Nat → Nat → Int32) (I R : Nat → Nat → Int32) (J : Nat → Nat → Int64) (hI : xInv F (I, R, J))  : zNi (zSS zXRs 81 q ad av t9) l D vwCl (zXtys cA) 81 q (zXd q cA) yJ0_isLatin1_aae02 cJ0_isLatin1_aae02 1 (some .boolean) ({ frames := 0, cells := 0, slots := 0, locals := 0 } : Room) [.ref (ad 8)] (I, R, J) (fun r u => (r = nI 1 ∧ u = (I, R, J))) := by
  intro sz
  refine z_bodyN (by decide +kernel) (Nat.le_of_ble_eq_true rfl) (fun p e s m below meth c ls hx hb hml hr ht hown hlocks hsz hK hP hD hS hN hl => ?_)
  have hA : ∀ a, s.heap.size ≤ a → zA 81 q sz a := fun a h => Or.inr (hsz ▸ h)
  have hl : lv_has ls 1 [(0, .ref (ad 8))] := hl
  have hZ : zSz zXRs 81 q ad av t9 sz s := hsz ▸ hN
  refine va_gets hx hb hZ.2.1 hS hown (ht _ hw_2_195) (fun _ h => h) dJ0_isLatin1_aae02_0 ?_
  refine z_eqi (y := nI 1) rfl ?_
  refine lv_if_eq (tgt := 17) hx hb dJ0_isLatin1_aae02_3 (by decide) (fun c_0 => absurd c_0 (zD_ne zk_1 zk_z (by decide))) (fun _ => ?_)
  refine lv_aload_n hx hb dJ0_isLatin1_aae02_6 rfl (lv_at hl 0 rfl) ?_
  refine vk_getf hx hb (hZ.1.1 8 (by decide)).2.1 hS hown (ht _ hw_8_165) (fun _ h => h) dJ0_isLatin1_aae02_7 ?_
  refine z_eqi (y := nI 0) rfl ?_
  refine lv_if_ne (tgt := 17) hx hb dJ0_isLatin1_aae02_10 (by decide) (fun c_0 => absurd (zD_eq zk_0 zk_z) c_0) (fun _ => ?_)
  refine lv_iconst (v := nI 1) hx hb dJ0_isLatin1_aae02_13 (by decide +kernel) ?_
  refine lv_goto (tgt := 18) hx hb dJ0_isLatin1_aae02_14 (by decide) ?_
  exact z_zret (v := nI 1) hx hb hr hlocks hP hD hS (by decide +kernel) dJ0_isLatin1_aae02_18 ⟨rfl, rfl⟩
set_option maxHeartbeats 4000000 in
set_option maxRecDepth 100000 in
theorem xk_J3_checkIndex_8e157_8 (l : Launch) (D : va_G) (q : Nat → Nat) (cA : Nat → ClassId) (ad av : Nat → Nat) (t9 : Nat) (F : Nat → Nat → Int32) (I R : Nat → Nat → Int32) (J : Nat → Nat → Int64) (hI : xInv F (I, R, J)) (pa0 : Int32) (hpa0 : zR 0 1 pa0) : zNi (zSS zXRs 81 q ad av t9) l D vwCl (zXtys cA) 81 q (zXd q cA) yJ3_checkIndex_8e157 cJ3_checkIndex_8e157 3 (some .int) ({ frames := 0, cells := 0, slots := 0, locals := 0 } : Room) [.int (pa0), .int (nI 2), .null] (I, R, J) (fun r u => zR 0 1 r ∧ u = (I, R, J)) := by
  intro sz
  refine z_bodyN (by decide +kernel) (Nat.le_of_ble_eq_true rfl) (fun p e s m below meth c ls hx hb hml hr ht hown hlocks hsz hK hP hD hS hN hl => ?_)
  have hA : ∀ a, s.heap.size ≤ a → zA 81 q sz a := fun a h => Or.inr (hsz ▸ h)
  have hl : lv_has ls 3 [(0, .int (pa0)), (1, .int (nI 2)), (2, .null)] := hl
  have hZ : zSz zXRs 81 q ad av t9 sz s := hsz ▸ hN
  refine lv_iload_n hx hb dJ3_checkIndex_8e157_0 rfl (lv_at hl 0 rfl) ?_
  refine lv_if_lt (tgt := 9) hx hb dJ3_checkIndex_8e157_1 (by decide) (fun c_0 => absurd c_0 (zD_nlt hpa0 zk_z (by decide))) (fun _ => ?_)
  refine lv_iload_n hx hb dJ3_checkIndex_8e157_4 rfl (lv_at hl 0 rfl) ?_
  refine lv_iload_n hx hb dJ3_checkIndex_8e157_5 rfl (lv_at hl 1 rfl) ?_
  refine lv_icmp_lt (tgt := 16) hx hb dJ3_checkIndex_8e157_6 (by decide) (fun _ => ?_) (fun c_0 => absurd (zD_lt hpa0 zk_2 (by decide)) c_0)
  refine lv_iload_n hx hb dJ3_checkIndex_8e157_16 rfl (lv_at hl 0 rfl) ?_
  exact z_iret (v := pa0) hx hb hr hlocks hP hD hS dJ3_checkIndex_8e157_17 ⟨hpa0, rfl⟩
set_option maxHeartbeats 4000000 in
set_option maxRecDepth 100000 in
theorem xk_J3_checkIndex_8e157_9 (l : Launch) (D : va_G) (q : Nat → Nat) (cA : Nat → ClassId) (ad av : Nat → Nat) (t9 : Nat) (F : Nat → Nat → Int32) (I R : Nat → Nat → Int32) (J : Nat → Nat → Int64) (hI : xInv F (I, R, J)) (pa0 : Int32) (hpa0 : zR 0 1 pa0) : zNi (zSS zXRs 81 q ad av t9) l D vwCl (zXtys cA) 81 q (zXd q cA) yJ3_checkIndex_8e157 cJ3_checkIndex_8e157 3 (some .int) ({ frames := 0, cells := 0, slots := 0, locals := 0 } : Room) [.int (pa0), .int (nI 2), .ref (t9)] (I, R, J) (fun r u => zR 0 1 r ∧ u = (I, R, J)) := by
  intro sz
  refine z_bodyN (by decide +kernel) (Nat.le_of_ble_eq_true rfl) (fun p e s m below meth c ls hx hb hml hr ht hown hlocks hsz hK hP hD hS hN hl => ?_)
  have hA : ∀ a, s.heap.size ≤ a → zA 81 q sz a := fun a h => Or.inr (hsz ▸ h)
  have hl : lv_has ls 3 [(0, .int (pa0)), (1, .int (nI 2)), (2, .ref (t9))] := hl
  have hZ : zSz zXRs 81 q ad av t9 sz s := hsz ▸ hN
  refine lv_iload_n hx hb dJ3_checkIndex_8e157_0 rfl (lv_at hl 0 rfl) ?_
  refine lv_if_lt (tgt := 9) hx hb dJ3_checkIndex_8e157_1 (by decide) (fun c_0 => absurd c_0 (zD_nlt hpa0 zk_z (by decide))) (fun _ => ?_)
  refine lv_iload_n hx hb dJ3_checkIndex_8e157_4 rfl (lv_at hl 0 rfl) ?_
  refine lv_iload_n hx hb dJ3_checkIndex_8e157_5 rfl (lv_at hl 1 rfl) ?_
  refine lv_icmp_lt (tgt := 16) hx hb dJ3_checkIndex_8e157_6 (by decide) (fun _ => ?_) (fun c_0 => absurd (zD_lt hpa0 zk_2 (by decide)) c_0)
  refine lv_iload_n hx hb dJ3_checkIndex_8e157_16 rfl (lv_at hl 0 rfl) ?_
  exact z_iret (v := pa0) hx hb hr hlocks hP hD hS dJ3_checkIndex_8e157_17 ⟨hpa0, rfl⟩
set_option maxHeartbeats 4000000 in
set_option maxRecDepth 100000 in
theorem xk_J0_checkIndex_df160_4 (l : Launch) (D : va_G) (q : Nat → Nat) (cA : Nat → ClassId) (ad av : Nat → Nat) (t9 : Nat) (F : Nat → Nat → Int32) (I R : Nat → Nat → Int32) (J : Nat → Nat → Int64) (hI : xInv F (I, R, J)) (pa0 : Int32) (hpa0 : zR 0 1 pa0) : zNv (zSS zXRs 81 q ad av t9) l D vwCl (zXtys cA) 81 q (zXd q cA) yJ0_checkIndex_df160 cJ0_checkIndex_df160 2 none ({ frames := 1, cells := 0, slots := 0, locals := 22 } : Room) [.int (pa0), .int (nI 2)] (I, R, J) (fun u => u = (I, R, J)) := by
  intro sz
  refine z_bodyN (by decide +kernel) (Nat.le_of_ble_eq_true rfl) (fun p e s m below meth c ls hx hb hml hr ht hown hlocks hsz hK hP hD hS hN hl => ?_)
  have hA : ∀ a, s.heap.size ≤ a → zA 81 q sz a := fun a h => Or.inr (hsz ▸ h)
  have hl : lv_has ls 2 [(0, .int (pa0)), (1, .int (nI 2))] := hl
  have hZ : zSz zXRs 81 q ad av t9 sz s := hsz ▸ hN
  refine lv_iload_n hx hb dJ0_checkIndex_df160_0 rfl (lv_at hl 0 rfl) ?_
  refine lv_iload_n hx hb dJ0_checkIndex_df160_1 rfl (lv_at hl 1 rfl) ?_
  rcases hZ.2.2.1 with hz9 | ⟨t9, hz9⟩
  · refine va_gets hx hb hz9 hS hown (ht _ hw_2_211) (fun _ h => h) dJ0_checkIndex_df160_2 ?_
    refine z_cNSi (As := [.int (pa0), .int (nI 2), .null]) (rest := []) hx hb hml hown ht (xk_J3_checkIndex_8e157_8 l D q cA ad av t9 F _ _ _ hI (pa0) hpa0) hw_2_213 hmJ3_checkIndex_8e157 ⟨rfl, rfl⟩ (na := 3) rfl (by decide +kernel) (by decide) hK hP hD hS hA (zSS_c (Rs := zXRs) (t9 := t9) (fun _ _ _ => zXRs_c)) (zSS_w (Rs := zXRs) (t9 := t9) (fun _ _ _ => zXRs_w) hN hsz hS) hl.1 rfl (Nat.le_of_ble_eq_true rfl) ⟨Nat.zero_le _, Nat.zero_le _⟩ dJ0_checkIndex_df160_5 (fun r_1 I_1 R_1 J_1 H locs hp_1 hP hD hS _ _ => ?_)
    obtain ⟨hr_1, hu_1⟩ := hp_1
    cases hu_1
    refine lv_pop hx hb dJ0_checkIndex_df160_8 rfl ?_
    exact z_vret hx hb hr hlocks hP hD hS dJ0_checkIndex_df160_9 rfl
  · refine va_gets hx hb hz9 hS hown (ht _ hw_2_211) (fun _ h => h) dJ0_checkIndex_df160_2 ?_
    refine z_cNSi (As := [.int (pa0), .int (nI 2), .ref (t9)]) (rest := []) hx hb hml hown ht (xk_J3_checkIndex_8e157_9 l D q cA ad av t9 F _ _ _ hI (pa0) hpa0) hw_2_213 hmJ3_checkIndex_8e157 ⟨rfl, rfl⟩ (na := 3) rfl (by decide +kernel) (by decide) hK hP hD hS hA (zSS_c (Rs := zXRs) (t9 := t9) (fun _ _ _ => zXRs_c)) (zSS_w (Rs := zXRs) (t9 := t9) (fun _ _ _ => zXRs_w) hN hsz hS) hl.1 rfl (Nat.le_of_ble_eq_true rfl) ⟨Nat.zero_le _, Nat.zero_le _⟩ dJ0_checkIndex_df160_5 (fun r_2 I_2 R_2 J_2 H locs hp_2 hP hD hS _ _ => ?_)
    obtain ⟨hr_2, hu_2⟩ := hp_2
    cases hu_2
    refine lv_pop hx hb dJ0_checkIndex_df160_8 rfl ?_
    exact z_vret hx hb hr hlocks hP hD hS dJ0_checkIndex_df160_9 rfl
set_option maxHeartbeats 4000000 in
set_option maxRecDepth 100000 in
theorem xk_J1_charAt_3b067_8 (l : Launch) (D : va_G) (q : Nat → Nat) (cA : Nat → ClassId) (ad av : Nat → Nat) (t9 : Nat) (F : Nat → Nat → Int32) (I R : Nat → Nat → Int32) (J : Nat → Nat → Int64) (hI : xInv F (I, R, J)) (pa1 : Int32) (hpa1 : zR 0 1 pa1) : zNi (zSS zXRs 81 q ad av t9) l D vwCl (zXtys cA) 81 q (zXd q cA) yJ1_charAt_3b067 cJ1_charAt_3b067 2 (some .char) ({ frames := 2, cells := 0, slots := 0, locals := 43 } : Room) [.ref (av 8), .int (pa1)] (I, R, J) (fun r u => zR 0 65535 r ∧ u = (I, R, J)) := by
  intro sz
  refine z_bodyN (by decide +kernel) (Nat.le_of_ble_eq_true rfl) (fun p e s m below meth c ls hx hb hml hr ht hown hlocks hsz hK hP hD hS hN hl => ?_)
  have hA : ∀ a, s.heap.size ≤ a → zA 81 q sz a := fun a h => Or.inr (hsz ▸ h)
  have hl : lv_has ls 2 [(0, .ref (av 8)), (1, .int (pa1))] := hl
  have hZ : zSz zXRs 81 q ad av t9 sz s := hsz ▸ hN
  refine lv_iload_n hx hb dJ1_charAt_3b067_0 rfl (lv_at hl 1 rfl) ?_
  refine lv_aload_n hx hb dJ1_charAt_3b067_1 rfl (lv_at hl 0 rfl) ?_
  refine va_tlen hx hb (hZ.1.1 8 (by decide)).2.2.2 hS (v := nI 2) rfl dJ1_charAt_3b067_2 ?_
  refine z_cNSv (As := [.int (pa1), .int (nI 2)]) (rest := []) hx hb hml hown ht (xk_J0_checkIndex_df160_4 l D q cA ad av t9 F _ _ _ hI (pa1) hpa1) hw_2_208 hmJ0_checkIndex_df160 ⟨rfl, rfl⟩ (na := 2) rfl (by decide +kernel) (by decide) hK hP hD hS hA (zSS_c (Rs := zXRs) (t9 := t9) (fun _ _ _ => zXRs_c)) (zSS_w (Rs := zXRs) (t9 := t9) (fun _ _ _ => zXRs_w) hN hsz hS) hl.1 rfl (Nat.le_of_ble_eq_true rfl) ⟨Nat.zero_le _, Nat.zero_le _⟩ dJ1_charAt_3b067_3 (fun I_1 R_1 J_1 H locs hp_1 hP hD hS _ _ => ?_)
  cases hp_1
  refine lv_aload_n hx hb dJ1_charAt_3b067_6 rfl (lv_at hl 0 rfl) ?_
  refine lv_iload_n hx hb dJ1_charAt_3b067_7 rfl (lv_at hl 1 rfl) ?_
  refine va_tb hx hb (hZ.1.1 8 (by decide)).2.2.2 hS (zR_vin hpa1 (by decide)) rfl dJ1_charAt_3b067_8 ?_
  refine z_any (fun v_2 => ?_)
  refine lv_sipush (v := nI 255) hx hb dJ1_charAt_3b067_9 (by decide +kernel) ?_
  refine lv_iand hx hb dJ1_charAt_3b067_12 ?_
  refine z_rng (a := 0) (b := 255) (zR_andr zk_255 (by decide)) (fun v_3 hv_3 => ?_)
  refine lv_i2c hx hb dJ1_charAt_3b067_13 rfl ?_
  refine z_rng (a := 0) (b := 65535) (zR_i2c _) (fun v_4 hv_4 => ?_)
  exact z_zret (v := v_4) hx hb hr hlocks hP hD hS (zR_char hv_4) dJ1_charAt_3b067_14 ⟨hv_4, rfl⟩
set_option maxHeartbeats 4000000 in
set_option maxRecDepth 100000 in
theorem xk_J0_charAt_5068e_8 (l : Launch) (D : va_G) (q : Nat → Nat) (cA : Nat → ClassId) (ad av : Nat → Nat) (t9 : Nat) (F : Nat → Nat → Int32) (I R : Nat → Nat → Int32) (J : Nat → Nat → Int64) (hI : xInv F (I, R, J)) (pa0 : Int32) (hpa0 : zR 0 1 pa0) : zNi (zSS zXRs 81 q ad av t9) l D vwCl (zXtys cA) 81 q (zXd q cA) yJ0_charAt_5068e cJ0_charAt_5068e 2 (some .char) ({ frames := 3, cells := 0, slots := 0, locals := 64 } : Room) [.ref (ad 8), .int (pa0)] (I, R, J) (fun r u => zR 0 65535 r ∧ u = (I, R, J)) := by
  intro sz
  refine z_bodyN (by decide +kernel) (Nat.le_of_ble_eq_true rfl) (fun p e s m below meth c ls hx hb hml hr ht hown hlocks hsz hK hP hD hS hN hl => ?_)
  have hA : ∀ a, s.heap.size ≤ a → zA 81 q sz a := fun a h => Or.inr (hsz ▸ h)
  have hl : lv_has ls 2 [(0, .ref (ad 8)), (1, .int (pa0))] := hl
  have hZ : zSz zXRs 81 q ad av t9 sz s := hsz ▸ hN
  refine lv_aload_n hx hb dJ0_charAt_5068e_0 rfl (lv_at hl 0 rfl) ?_
  refine z_cNXi (As := []) (rest := []) hx hb hml hown ht (xk_J0_isLatin1_aae02_4 l D q cA ad av t9 F _ _ _ hI ) hw_2_201 hmJ0_isLatin1_aae02 ⟨rfl, rfl⟩ (na := 0) rfl (by decide +kernel) (by decide) (vk_recv hZ.1 (by decide) hS) hK hP hD hS hA (zSS_c (Rs := zXRs) (t9 := t9) (fun _ _ _ => zXRs_c)) (zSS_w (Rs := zXRs) (t9 := t9) (fun _ _ _ => zXRs_w) hN hsz hS) hl.1 rfl (Nat.le_of_ble_eq_true rfl) ⟨Nat.zero_le _, Nat.zero_le _⟩ dJ0_charAt_5068e_1 (fun r_1 I_1 R_1 J_1 H locs hp_1 hP hD hS _ _ => ?_)
  obtain ⟨rfl, hu_1⟩ := hp_1
  cases hu_1
  refine lv_if_eq (tgt := 16) hx hb dJ0_charAt_5068e_4 (by decide) (fun c_0 => absurd c_0 (zD_ne zk_1 zk_z (by decide))) (fun _ => ?_)
  refine lv_aload_n hx hb dJ0_charAt_5068e_7 rfl (lv_at hl 0 rfl) ?_
  refine vk_getf hx hb (hZ.1.1 8 (by decide)).2.2.1 hS hown (ht _ hw_8_164) (fun _ h => h) dJ0_charAt_5068e_8 ?_
  refine lv_iload_n hx hb dJ0_charAt_5068e_11 rfl (lv_at hl 1 rfl) ?_
  refine z_cNSi (As := [.ref (av 8), .int (pa0)]) (rest := []) hx hb hml hown ht (xk_J1_charAt_3b067_8 l D q cA ad av t9 F _ _ _ hI (pa0) hpa0) hw_2_205 hmJ1_charAt_3b067 ⟨rfl, rfl⟩ (na := 2) rfl (by decide +kernel) (by decide) hK hP hD hS hA (zSS_c (Rs := zXRs) (t9 := t9) (fun _ _ _ => zXRs_c)) (zSS_w (Rs := zXRs) (t9 := t9) (fun _ _ _ => zXRs_w) hN hsz hS) hl.1 rfl (Nat.le_of_ble_eq_true rfl) ⟨Nat.zero_le _, Nat.zero_le _⟩ dJ0_charAt_5068e_12 (fun r_2 I_2 R_2 J_2 H locs hp_2 hP hD hS _ _ => ?_)
  obtain ⟨hr_2, hu_2⟩ := hp_2
  cases hu_2
  exact z_zret (v := r_2) hx hb hr hlocks hP hD hS (zR_char hr_2) dJ0_charAt_5068e_15 ⟨hr_2, rfl⟩
set_option maxHeartbeats 4000000 in
set_option maxRecDepth 100000 in
theorem xk_X7_isWord_4 (l : Launch) (D : va_G) (q : Nat → Nat) (cA : Nat → ClassId) (ad av : Nat → Nat) (t9 : Nat) (F : Nat → Nat → Int32) (I R : Nat → Nat → Int32) (J : Nat → Nat → Int64) (hI : xInv F (I, R, J))  : zNi (zSS zXRs 81 q ad av t9) l D vwCl (zXtys cA) 81 q (zXd q cA) yX7_isWord cX7_isWord 3 (some .boolean) ({ frames := 4, cells := 0, slots := 0, locals := 85 } : Room) [.ref (q 1), .ref (ad 8)] (I, R, J) (fun r u => (r = nI 1 ∧ u = (I, R, J)) ∨ (r = nI 0 ∧ u = (I, R, J))) := by
  intro sz
  refine z_bodyN (by decide +kernel) (Nat.le_of_ble_eq_true rfl) (fun p e s m below meth c ls hx hb hml hr ht hown hlocks hsz hK hP hD hS hN hl => ?_)
  have hA : ∀ a, s.heap.size ≤ a → zA 81 q sz a := fun a h => Or.inr (hsz ▸ h)
  have hl : lv_has ls 3 [(0, .ref (q 1)), (1, .ref (ad 8))] := hl
  have hZ : zSz zXRs 81 q ad av t9 sz s := hsz ▸ hN
  refine lv_aload_n hx hb dX7_isWord_0 rfl (lv_at hl 0 rfl) ?_
  refine z_get hx hb ht hown hK hP ziX7 rfl 1 (by decide) 4 (by decide) hw_1_42 rfl (v := .int (I 1 4)) rfl dX7_isWord_1 ?_
  refine lv_iconst (v := nI 1) hx hb dX7_isWord_4 (by decide +kernel) ?_
  refine lv_icmp_ne (tgt := 24) hx hb dX7_isWord_5 (by decide) (fun c_1 => ?_) (fun c_1 => ?_)
  · have t_c_1 := z_eqF c_1
    refine lv_iconst (v := nI 0) hx hb dX7_isWord_24 (by decide +kernel) ?_
    exact z_zret (v := nI 0) hx hb hr hlocks hP hD hS (by decide +kernel) dX7_isWord_25 (Or.inr ⟨rfl, rfl⟩)
  · have t_c_1 := z_eqT c_1
    have f_2 : zR 1 1 (I 1 4) := zR_eqx t_c_1 zk_1
    refine lv_aload_n hx hb dX7_isWord_8 rfl (lv_at hl 0 rfl) ?_
    refine z_get hx hb ht hown hK hP ziX7 rfl 1 (by decide) 6 (by decide) hw_1_44 rfl (v := .int (I 1 6)) rfl dX7_isWord_9 ?_
    have f_3 : zR 0 800 (I 1 6) := xI hI 1 6
    refine lv_aload_n hx hb dX7_isWord_12 rfl (lv_at hl 0 rfl) ?_
    refine z_get hx hb ht hown hK hP ziX7 rfl 1 (by decide) 5 (by decide) hw_1_43 rfl (v := .int (I 1 5)) rfl dX7_isWord_13 ?_
    have f_4 : zR 0 800 (I 1 5) := xI hI 1 5
    refine lv_isub hx hb dX7_isWord_16 ?_
    refine lv_topi (fun v_5 ev_5 => ?_)
    have hv_5 : zR (-800) 800 v_5 := ev_5 ▸ zR_sub f_3 f_4 (by decide)
    refine lv_aload_n hx hb dX7_isWord_17 rfl (lv_at hl 1 rfl) ?_
    refine z_cNXi (As := []) (rest := [.int (v_5)]) hx hb hml hown ht (xk_J0_length_8abf5_4 l D q cA ad av t9 F _ _ _ hI ) hw_2_187 hmJ0_length_8abf5 ⟨rfl, rfl⟩ (na := 0) rfl (by decide +kernel) (by decide) (vk_recv hZ.1 (by decide) hS) hK hP hD hS hA (zSS_c (Rs := zXRs) (t9 := t9) (fun _ _ _ => zXRs_c)) (zSS_w (Rs := zXRs) (t9 := t9) (fun _ _ _ => zXRs_w) hN hsz hS) hl.1 rfl (Nat.le_of_ble_eq_true rfl) ⟨Nat.zero_le _, Nat.zero_le _⟩ dX7_isWord_18 (fun r_6 I_6 R_6 J_6 H locs hp_6 hP hD hS _ _ => ?_)
    obtain ⟨rfl, hu_6⟩ := hp_6
    cases hu_6
    refine lv_icmp_eq (tgt := 26) hx hb dX7_isWord_21 (by decide) (fun c_7 => ?_) (fun c_7 => ?_)
    · have t_c_7 := z_eqT c_7
      have f_8 : zR 2 2 (v_5) := zR_eqx t_c_7 zk_2
      have f_9 : zR 0 798 (I 1 5) := z_start f_3 f_4 ev_5 f_8 (by decide)
      refine lv_iconst (v := nI 0) hx hb dX7_isWord_26 (by decide +kernel) ?_
      refine lv_istore_n (lv' := [(2, .int (nI 0)), (0, .ref (q 1)), (1, .ref (ad 8))]) hx hb dX7_isWord_27 rfl hl (by decide) rfl (fun ls hl => ?_)
      have loop_43 : ∀ N : Nat, ∀ x_42 : Int32, zR 0 2 x_42 → (2147483648 - (x_42).toInt).toNat < N → ∀ (H : Heap) (locs : List Loc), va_P D vwCl (zw 81 q (zXd q cA) I R J) H → va_D (zA 81 q sz) (zw 81 q (zXd q cA) I R J) → va_S (zA 81 q sz) s.heap H locs → ∀ ls : Array Slot, lv_has ls 3 [(0, .ref (q 1)), (1, .ref (ad 8)), (2, .int (x_42))] → W p l e ({ frames := 4, cells := 0, slots := 0, locals := 85 } : Room) s m ([.ref (q 1), .ref (ad 8)] : List Value).toArray below meth c H locs 0 0 (MQ below (va_Qi (fun r u => (r = nI 1 ∧ u = (I, R, J)) ∨ (r = nI 0 ∧ u = (I, R, J))) (zB D vwCl 81 q (zXd q cA) sz) (zA 81 q sz)) ([.ref (q 1), .ref (ad 8)] : List Value).toArray s 0 0 (zA 81 q sz)) (F0 m 28 ls []) := by
        intro N
        induction N with
        | zero => intro x_42 hx_42 hN; exact absurd hN (Nat.not_lt_zero _)
        | succ N ih_45 =>
          intro x_42 hx_42 hN_44 H locs hP hD hS ls hl
          refine lv_iload_n hx hb dX7_isWord_28 rfl (lv_at hl 2 rfl) ?_
          refine lv_aload_n hx hb dX7_isWord_29 rfl (lv_at hl 1 rfl) ?_
          refine z_cNXi (As := []) (rest := [.int (x_42)]) hx hb hml hown ht (xk_J0_length_8abf5_4 l D q cA ad av t9 F _ _ _ hI ) hw_2_187 hmJ0_length_8abf5 ⟨rfl, rfl⟩ (na := 0) rfl (by decide +kernel) (by decide) (vk_recv hZ.1 (by decide) hS) hK hP hD hS hA (zSS_c (Rs := zXRs) (t9 := t9) (fun _ _ _ => zXRs_c)) (zSS_w (Rs := zXRs) (t9 := t9) (fun _ _ _ => zXRs_w) hN hsz hS) hl.1 rfl (Nat.le_of_ble_eq_true rfl) ⟨Nat.zero_le _, Nat.zero_le _⟩ dX7_isWord_30 (fun r_46 I_46 R_46 J_46 H locs hp_46 hP hD hS _ _ => ?_)
          obtain ⟨rfl, hu_46⟩ := hp_46
          cases hu_46
          refine lv_icmp_ge (tgt := 63) hx hb dX7_isWord_33 (by decide) (fun c_47 => ?_) (fun c_47 => ?_)
          · have t_c_47 := z_leT c_47
            have f_48 : zR 2 2 (x_42) := zR_ley t_c_47 zk_2 hx_42 (by decide)
            refine lv_iconst (v := nI 1) hx hb dX7_isWord_63 (by decide +kernel) ?_
            exact z_zret (v := nI 1) hx hb hr hlocks hP hD hS (by decide +kernel) dX7_isWord_64 (Or.inl ⟨rfl, rfl⟩)
          · have t_c_47 := z_leF c_47
            have f_49 : zR 0 1 (x_42) := zR_ltx t_c_47 hx_42 zk_2 (by decide)
            refine lv_aload_n hx hb dX7_isWord_36 rfl (lv_at hl 0 rfl) ?_
            refine z_get hx hb ht hown hK hP ziX7 rfl 1 (by decide) 0 (by decide) hw_1_35 rfl (v := .ref (q 2)) rfl dX7_isWord_37 ?_
            refine lv_aload_n hx hb dX7_isWord_40 rfl (lv_at hl 0 rfl) ?_
            refine z_get hx hb ht hown hK hP ziX7 rfl 1 (by decide) 5 (by decide) hw_1_43 rfl (v := .int (I 1 5)) rfl dX7_isWord_41 ?_
            refine lv_iload_n hx hb dX7_isWord_44 rfl (lv_at hl 2 rfl) ?_
            refine lv_iadd hx hb dX7_isWord_45 ?_
            refine z_rng (a := 0) (b := 799) (zR_add f_9 f_49 (by decide)) (fun v_50 hv_50 => ?_)
            refine z_bald hx hb hK hP 2 (by decide) 0 rfl rfl (zR_vin hv_50 (by decide)) dX7_isWord_46 ?_
            refine z_eqi (y := R 2 (v_50).toNatClampNeg) rfl ?_
            refine lv_aload_n hx hb dX7_isWord_47 rfl (lv_at hl 1 rfl) ?_
            refine lv_iload_n hx hb dX7_isWord_48 rfl (lv_at hl 2 rfl) ?_
            refine z_cNXi (As := [.int (x_42)]) (rest := [.int (R 2 (v_50).toNatClampNeg)]) hx hb hml hown ht (xk_J0_charAt_5068e_8 l D q cA ad av t9 F _ _ _ hI (x_42) f_49) hw_2_197 hmJ0_charAt_5068e ⟨rfl, rfl⟩ (na := 1) rfl (by decide +kernel) (by decide) (vk_recv hZ.1 (by decide) hS) hK hP hD hS hA (zSS_c (Rs := zXRs) (t9 := t9) (fun _ _ _ => zXRs_c)) (zSS_w (Rs := zXRs) (t9 := t9) (fun _ _ _ => zXRs_w) hN hsz hS) hl.1 rfl (Nat.le_of_ble_eq_true rfl) ⟨Nat.zero_le _, Nat.zero_le _⟩ dX7_isWord_49 (fun r_51 I_51 R_51 J_51 H locs hp_51 hP hD hS _ _ => ?_)
            obtain ⟨hr_51, hu_51⟩ := hp_51
            cases hu_51
            refine lv_icmp_eq (tgt := 57) hx hb dX7_isWord_52 (by decide) (fun c_52 => ?_) (fun c_52 => ?_)
            · have t_c_52 := z_eqT c_52
              have f_53 : zR 0 65535 (R 2 (v_50).toNatClampNeg) := zR_eqx t_c_52 hr_51
              obtain ⟨v_54, ev_54⟩ : ∃ y : Int32, y = x_42 + nI 1 := ⟨_, rfl⟩
              have hv_54 : zR 1 2 v_54 := ev_54 ▸ zR_add f_49 zk_1 (by decide)
              have mv_54 : v_54.toInt = (x_42).toInt + 1 := by rw [ev_54, zR_addE f_49 zk_1 (by decide)]; rfl
              refine lv_iinc (v := v_54) (lv' := [(2, .int (v_54)), (0, .ref (q 1)), (1, .ref (ad 8))]) hx hb dX7_isWord_57 hl (k := 2) rfl (ev_54 ▸ rfl) (by decide) rfl (fun ls hl => ?_)
              refine lv_goto (tgt := 28) hx hb dX7_isWord_60 (by decide) ?_
              exact ih_45 (v_54) (zR_w hv_54 (by decide)) (z2_up mv_54 (by decide) hN_44) _ _ hP hD hS _ (lv_sub hl [1, 2, 0] rfl)
            · have t_c_52 := z_eqF c_52
              refine lv_iconst (v := nI 0) hx hb dX7_isWord_55 (by decide +kernel) ?_
              exact z_zret (v := nI 0) hx hb hr hlocks hP hD hS (by decide +kernel) dX7_isWord_56 (Or.inr ⟨rfl, rfl⟩)
      exact loop_43 _ (nI 0) (zR_w zk_0 (by decide)) (Nat.lt_succ_self _) _ _ hP hD hS _ (lv_sub hl [1, 2, 0] rfl)
    · have t_c_7 := z_eqF c_7
      refine lv_iconst (v := nI 0) hx hb dX7_isWord_24 (by decide +kernel) ?_
      exact z_zret (v := nI 0) hx hb hr hlocks hP hD hS (by decide +kernel) dX7_isWord_25 (Or.inr ⟨rfl, rfl⟩)
set_option maxHeartbeats 4000000 in
set_option maxRecDepth 100000 in
theorem xk_X7_number_1 (l : Launch) (D : va_G) (q : Nat → Nat) (cA : Nat → ClassId) (F : Nat → Nat → Int32) (I R : Nat → Nat → Int32) (J : Nat → Nat → Int64) (hI : xInv F (I, R, J)) (pa1 : Int32) (hpa1 : zR (-1) 4 pa1) : zMi l D vwCl (zXtys cA) 81 q (zXd q cA) yX7_number cX7_number 4 (some .int) ({ frames := 2, cells := 0, slots := 0, locals := 40 } : Room) [.ref (q 1), .int (nI 0), .int (pa1)] (I, R, J) (fun r u => zR 0 4 r ∧ (xInv F u ∧ (∀ k, k ≠ 1 → u.1 k = I k) ∧ u.2 = (R, J))) := by
  intro sz
  refine z_body (by decide +kernel) (Nat.le_of_ble_eq_true rfl) (fun p e s m below meth c ls hx hb hml hr ht hown hlocks hsz hK hP hD hS hl => ?_)
  have hA : ∀ a, s.heap.size ≤ a → zA 81 q sz a := fun a h => Or.inr (hsz ▸ h)
  have hl : lv_has ls 4 [(0, .ref (q 1)), (1, .int (nI 0)), (2, .int (pa1))] := hl
  refine lv_aload_n hx hb dX7_number_0 rfl (lv_at hl 0 rfl) ?_
  refine z_get hx hb ht hown hK hP ziX7 rfl 1 (by decide) 4 (by decide) hw_1_42 rfl (v := .int (I 1 4)) rfl dX7_number_1 ?_
  refine lv_iconst (v := nI 2) hx hb dX7_number_4 (by decide +kernel) ?_
  refine lv_icmp_eq (tgt := 15) hx hb dX7_number_5 (by decide) (fun c_1 => ?_) (fun c_1 => ?_)
  · have t_c_1 := z_eqT c_1
    have f_2 : zR 2 2 (I 1 4) := zR_eqx t_c_1 zk_2
    refine lv_aload_n hx hb dX7_number_15 rfl (lv_at hl 0 rfl) ?_
    refine z_callVi (k := 1) (As := []) (rest := []) hx hb hml hown ht (xk_X7_told l D q cA F _ _ _ hI ) hw_3_8 hmX7_told ⟨rfl, rfl⟩ (na := 0) rfl (by decide +kernel) (by decide) (by decide) rfl rfl hK hP hD hS hA hl.1 rfl (Nat.le_of_ble_eq_true rfl) ⟨Nat.zero_le _, Nat.zero_le _⟩ dX7_number_16 (fun r_3 I_3 R_3 J_3 H locs hp_3 hP hD hS _ _ => ?_)
    cases hp_3
    refine lv_istore_n (lv' := [(3, .int (r_3)), (0, .ref (q 1)), (1, .int (nI 0)), (2, .int (pa1))]) hx hb dX7_number_19 rfl hl (by decide) rfl (fun ls hl => ?_)
    refine lv_iload_n hx hb dX7_number_20 rfl (lv_at hl 0 rfl) ?_
    refine lv_iload_n hx hb dX7_number_21 rfl (lv_at hl 2 rfl) ?_
    refine lv_icmp_lt (tgt := 30) hx hb dX7_number_22 (by decide) (fun c_4 => ?_) (fun c_4 => ?_)
    · have t_c_4 := z_ltT c_4
      have f_5 : zR (-2147483648) (-1) (r_3) := zR_ltx t_c_4 (zR_any (r_3)) zk_0 (by decide)
      refine lv_aload_n hx hb dX7_number_30 rfl (lv_at hl 1 rfl) ?_
      refine lv_iconst (v := nI 2) hx hb dX7_number_31 (by decide +kernel) ?_
      refine z_callVv (k := 1) (As := [.int (nI 2)]) (rest := []) hx hb hml hown ht (xk_X7_refuse_1 l D q cA F _ _ _ hI (nI 2) (zR_w zk_2 (by decide))) hw_2_239 hmX7_refuse ⟨rfl, rfl⟩ (na := 1) rfl (by decide +kernel) (by decide) (by decide) rfl rfl hK hP hD hS hA hl.1 rfl (Nat.le_of_ble_eq_true rfl) ⟨Nat.zero_le _, Nat.zero_le _⟩ dX7_number_32 (fun I_6 R_6 J_6 H locs hp_6 hP hD hS _ _ => ?_)
      obtain ⟨hv_6, hk_6, hj_6⟩ := hp_6
      dsimp only at hj_6 hk_6
      cases hj_6
      have hf_7 : ∀ k, k ≠ 1 → I_6 k = I k := fun k h => (hk_6 k h).trans ((fun (_ : Nat) _ => rfl) k h)
      refine lv_iconst (v := nI 0) hx hb dX7_number_35 (by decide +kernel) ?_
      exact z_iret (v := nI 0) hx hb hr hlocks hP hD hS dX7_number_36 ⟨(zR_w zk_0 (by decide)), ⟨hv_6, hf_7, rfl⟩⟩
    · have t_c_4 := z_ltF c_4
      have f_8 : zR 0 2147483647 (r_3) := zR_ley t_c_4 zk_0 (zR_any (r_3)) (by decide)
      refine lv_iload_n hx hb dX7_number_25 rfl (lv_at hl 0 rfl) ?_
      refine lv_iload_n hx hb dX7_number_26 rfl (lv_at hl 3 rfl) ?_
      refine lv_icmp_le (tgt := 37) hx hb dX7_number_27 (by decide) (fun c_9 => ?_) (fun c_9 => ?_)
      · have t_c_9 := z_leT c_9
        have f_10 : zR 0 4 (r_3) := zR_lex t_c_9 f_8 hpa1 (by decide)
        have f_11 : zR 0 4 (pa1) := zR_ley t_c_9 f_8 hpa1 (by decide)
        refine lv_aload_n hx hb dX7_number_37 rfl (lv_at hl 1 rfl) ?_
        refine z_callVv (k := 1) (As := []) (rest := []) hx hb hml hown ht (xk_X7_step l D q cA F _ _ _ hI ) hw_2_161 hmX7_step ⟨rfl, rfl⟩ (na := 0) rfl (by decide +kernel) (by decide) (by decide) rfl rfl hK hP hD hS hA hl.1 rfl (Nat.le_of_ble_eq_true rfl) ⟨Nat.zero_le _, Nat.zero_le _⟩ dX7_number_38 (fun I_12 R_12 J_12 H locs hp_12 hP hD hS _ _ => ?_)
        obtain ⟨hv_12, hk_12, hj_12⟩ := hp_12
        dsimp only at hj_12 hk_12
        cases hj_12
        have hf_13 : ∀ k, k ≠ 1 → I_12 k = I k := fun k h => (hk_12 k h).trans ((fun (_ : Nat) _ => rfl) k h)
        refine lv_iload_n hx hb dX7_number_41 rfl (lv_at hl 0 rfl) ?_
        exact z_iret (v := r_3) hx hb hr hlocks hP hD hS dX7_number_42 ⟨f_10, ⟨hv_12, hf_13, rfl⟩⟩
      · have t_c_9 := z_leF c_9
        refine lv_aload_n hx hb dX7_number_30 rfl (lv_at hl 1 rfl) ?_
        refine lv_iconst (v := nI 2) hx hb dX7_number_31 (by decide +kernel) ?_
        refine z_callVv (k := 1) (As := [.int (nI 2)]) (rest := []) hx hb hml hown ht (xk_X7_refuse_1 l D q cA F _ _ _ hI (nI 2) (zR_w zk_2 (by decide))) hw_2_239 hmX7_refuse ⟨rfl, rfl⟩ (na := 1) rfl (by decide +kernel) (by decide) (by decide) rfl rfl hK hP hD hS hA hl.1 rfl (Nat.le_of_ble_eq_true rfl) ⟨Nat.zero_le _, Nat.zero_le _⟩ dX7_number_32 (fun I_14 R_14 J_14 H locs hp_14 hP hD hS _ _ => ?_)
        obtain ⟨hv_14, hk_14, hj_14⟩ := hp_14
        dsimp only at hj_14 hk_14
        cases hj_14
        have hf_15 : ∀ k, k ≠ 1 → I_14 k = I k := fun k h => (hk_14 k h).trans ((fun (_ : Nat) _ => rfl) k h)
        refine lv_iconst (v := nI 0) hx hb dX7_number_35 (by decide +kernel) ?_
        exact z_iret (v := nI 0) hx hb hr hlocks hP hD hS dX7_number_36 ⟨(zR_w zk_0 (by decide)), ⟨hv_14, hf_15, rfl⟩⟩
  · have t_c_1 := z_eqF c_1
    refine lv_aload_n hx hb dX7_number_8 rfl (lv_at hl 0 rfl) ?_
    refine lv_iconst (v := nI 1) hx hb dX7_number_9 (by decide +kernel) ?_
    refine z_callVv (k := 1) (As := [.int (nI 1)]) (rest := []) hx hb hml hown ht (xk_X7_refuse l D q cA F _ _ _ hI (nI 1) (zR_w zk_1 (by decide))) hw_2_239 hmX7_refuse ⟨rfl, rfl⟩ (na := 1) rfl (by decide +kernel) (by decide) (by decide) rfl rfl hK hP hD hS hA hl.1 rfl (Nat.le_of_ble_eq_true rfl) ⟨Nat.zero_le _, Nat.zero_le _⟩ dX7_number_10 (fun I_16 R_16 J_16 H locs hp_16 hP hD hS _ _ => ?_)
    obtain ⟨hv_16, hk_16, hj_16⟩ := hp_16
    dsimp only at hj_16 hk_16
    cases hj_16
    have hf_17 : ∀ k, k ≠ 1 → I_16 k = I k := fun k h => (hk_16 k h).trans ((fun (_ : Nat) _ => rfl) k h)
    refine lv_iconst (v := nI 0) hx hb dX7_number_13 (by decide +kernel) ?_
    exact z_iret (v := nI 0) hx hb hr hlocks hP hD hS dX7_number_14 ⟨(zR_w zk_0 (by decide)), ⟨hv_16, hf_17, rfl⟩⟩
set_option maxHeartbeats 4000000 in
set_option maxRecDepth 100000 in
theorem xk_J0_coder_7d493_5 (l : Launch) (D : va_G) (q : Nat → Nat) (cA : Nat → ClassId) (ad av : Nat → Nat) (t9 : Nat) (F : Nat → Nat → Int32) (I R : Nat → Nat → Int32) (J : Nat → Nat → Int64) (hI : xInv F (I, R, J))  : zNi (zSS zXRs 81 q ad av t9) l D vwCl (zXtys cA) 81 q (zXd q cA) yJ0_coder_7d493 cJ0_coder_7d493 1 (some .byte) ({ frames := 0, cells := 0, slots := 0, locals := 0 } : Room) [.ref (ad 9)] (I, R, J) (fun r u => r = nI 0 ∧ u = (I, R, J)) := by
  intro sz
  refine z_bodyN (by decide +kernel) (Nat.le_of_ble_eq_true rfl) (fun p e s m below meth c ls hx hb hml hr ht hown hlocks hsz hK hP hD hS hN hl => ?_)
  have hA : ∀ a, s.heap.size ≤ a → zA 81 q sz a := fun a h => Or.inr (hsz ▸ h)
  have hl : lv_has ls 1 [(0, .ref (ad 9))] := hl
  have hZ : zSz zXRs 81 q ad av t9 sz s := hsz ▸ hN
  refine va_gets hx hb hZ.2.1 hS hown (ht _ hw_2_195) (fun _ h => h) dJ0_coder_7d493_0 ?_
  refine z_eqi (y := nI 1) rfl ?_
  refine lv_if_eq (tgt := 13) hx hb dJ0_coder_7d493_3 (by decide) (fun c_0 => absurd c_0 (zD_ne zk_1 zk_z (by decide))) (fun _ => ?_)
  refine lv_aload_n hx hb dJ0_coder_7d493_6 rfl (lv_at hl 0 rfl) ?_
  refine vk_getf hx hb (hZ.1.1 9 (by decide)).2.1 hS hown (ht _ hw_8_165) (fun _ h => h) dJ0_coder_7d493_7 ?_
  refine z_eqi (y := nI 0) rfl ?_
  refine lv_goto (tgt := 14) hx hb dJ0_coder_7d493_10 (by decide) ?_
  exact z_zret (v := nI 0) hx hb hr hlocks hP hD hS (by decide +kernel) dJ0_coder_7d493_14 ⟨rfl, rfl⟩
set_option maxHeartbeats 4000000 in
set_option maxRecDepth 100000 in
theorem xk_J0_length_8abf5_5 (l : Launch) (D : va_G) (q : Nat → Nat) (cA : Nat → ClassId) (ad av : Nat → Nat) (t9 : Nat) (F : Nat → Nat → Int32) (I R : Nat → Nat → Int32) (J : Nat → Nat → Int64) (hI : xInv F (I, R, J))  : zNi (zSS zXRs 81 q ad av t9) l D vwCl (zXtys cA) 81 q (zXd q cA) yJ0_length_8abf5 cJ0_length_8abf5 1 (some .int) ({ frames := 1, cells := 0, slots := 0, locals := 20 } : Room) [.ref (ad 9)] (I, R, J) (fun r u => r = nI 5 ∧ u = (I, R, J)) := by
  intro sz
  refine z_bodyN (by decide +kernel) (Nat.le_of_ble_eq_true rfl) (fun p e s m below meth c ls hx hb hml hr ht hown hlocks hsz hK hP hD hS hN hl => ?_)
  have hA : ∀ a, s.heap.size ≤ a → zA 81 q sz a := fun a h => Or.inr (hsz ▸ h)
  have hl : lv_has ls 1 [(0, .ref (ad 9))] := hl
  have hZ : zSz zXRs 81 q ad av t9 sz s := hsz ▸ hN
  refine lv_aload_n hx hb dJ0_length_8abf5_0 rfl (lv_at hl 0 rfl) ?_
  refine vk_getf hx hb (hZ.1.1 9 (by decide)).2.2.1 hS hown (ht _ hw_8_164) (fun _ h => h) dJ0_length_8abf5_1 ?_
  refine va_tlen hx hb (hZ.1.1 9 (by decide)).2.2.2 hS (v := nI 5) rfl dJ0_length_8abf5_4 ?_
  refine lv_aload_n hx hb dJ0_length_8abf5_5 rfl (lv_at hl 0 rfl) ?_
  refine z_cNXi (As := []) (rest := [.int (nI 5)]) hx hb hml hown ht (xk_J0_coder_7d493_5 l D q cA ad av t9 F _ _ _ hI ) hw_2_191 hmJ0_coder_7d493 ⟨rfl, rfl⟩ (na := 0) rfl (by decide +kernel) (by decide) (vk_recv hZ.1 (by decide) hS) hK hP hD hS hA (zSS_c (Rs := zXRs) (t9 := t9) (fun _ _ _ => zXRs_c)) (zSS_w (Rs := zXRs) (t9 := t9) (fun _ _ _ => zXRs_w) hN hsz hS) hl.1 rfl (Nat.le_of_ble_eq_true rfl) ⟨Nat.zero_le _, Nat.zero_le _⟩ dJ0_length_8abf5_6 (fun r_1 I_1 R_1 J_1 H locs hp_1 hP hD hS _ _ => ?_)
  obtain ⟨rfl, hu_1⟩ := hp_1
  cases hu_1
  refine lv_ishr hx hb dJ0_length_8abf5_9 ?_
  refine z_eqi (y := nI 5) (by decide +kernel) ?_
  exact z_iret (v := nI 5) hx hb hr hlocks hP hD hS dJ0_length_8abf5_10 ⟨rfl, rfl⟩
set_option maxHeartbeats 4000000 in
set_option maxRecDepth 100000 in
theorem xk_J0_isLatin1_aae02_5 (l : Launch) (D : va_G) (q : Nat → Nat) (cA : Nat → ClassId) (ad av : Nat → Nat) (t9 : Nat) (F : Nat → Nat → Int32) (I R : Nat → Nat → Int32) (J : Nat → Nat → Int64) (hI : xInv F (I, R, J))  : zNi (zSS zXRs 81 q ad av t9) l D vwCl (zXtys cA) 81 q (zXd q cA) yJ0_isLatin1_aae02 cJ0_isLatin1_aae02 1 (some .boolean) ({ frames := 0, cells := 0, slots := 0, locals := 0 } : Room) [.ref (ad 9)] (I, R, J) (fun r u => (r = nI 1 ∧ u = (I, R, J))) := by
  intro sz
  refine z_bodyN (by decide +kernel) (Nat.le_of_ble_eq_true rfl) (fun p e s m below meth c ls hx hb hml hr ht hown hlocks hsz hK hP hD hS hN hl => ?_)
  have hA : ∀ a, s.heap.size ≤ a → zA 81 q sz a := fun a h => Or.inr (hsz ▸ h)
  have hl : lv_has ls 1 [(0, .ref (ad 9))] := hl
  have hZ : zSz zXRs 81 q ad av t9 sz s := hsz ▸ hN
  refine va_gets hx hb hZ.2.1 hS hown (ht _ hw_2_195) (fun _ h => h) dJ0_isLatin1_aae02_0 ?_
  refine z_eqi (y := nI 1) rfl ?_
  refine lv_if_eq (tgt := 17) hx hb dJ0_isLatin1_aae02_3 (by decide) (fun c_0 => absurd c_0 (zD_ne zk_1 zk_z (by decide))) (fun _ => ?_)
  refine lv_aload_n hx hb dJ0_isLatin1_aae02_6 rfl (lv_at hl 0 rfl) ?_
  refine vk_getf hx hb (hZ.1.1 9 (by decide)).2.1 hS hown (ht _ hw_8_165) (fun _ h => h) dJ0_isLatin1_aae02_7 ?_
  refine z_eqi (y := nI 0) rfl ?_
  refine lv_if_ne (tgt := 17) hx hb dJ0_isLatin1_aae02_10 (by decide) (fun c_0 => absurd (zD_eq zk_0 zk_z) c_0) (fun _ => ?_)
  refine lv_iconst (v := nI 1) hx hb dJ0_isLatin1_aae02_13 (by decide +kernel) ?_
  refine lv_goto (tgt := 18) hx hb dJ0_isLatin1_aae02_14 (by decide) ?_
  exact z_zret (v := nI 1) hx hb hr hlocks hP hD hS (by decide +kernel) dJ0_isLatin1_aae02_18 ⟨rfl, rfl⟩
set_option maxHeartbeats 4000000 in
set_option maxRecDepth 100000 in
theorem xk_J1_charAt_3b067_10 (l : Launch) (D : va_G) (q : Nat → Nat) (cA : Nat → ClassId) (ad av : Nat → Nat) (t9 : Nat) (F : Nat → Nat → Int32) (I R : Nat → Nat → Int32) (J : Nat → Nat → Int64) (hI : xInv F (I, R, J)) (pa1 : Int32) (hpa1 : zR 0 4 pa1) : zNi (zSS zXRs 81 q ad av t9) l D vwCl (zXtys cA) 81 q (zXd q cA) yJ1_charAt_3b067 cJ1_charAt_3b067 2 (some .char) ({ frames := 2, cells := 0, slots := 0, locals := 43 } : Room) [.ref (av 9), .int (pa1)] (I, R, J) (fun r u => zR 0 65535 r ∧ u = (I, R, J)) := by
  intro sz
  refine z_bodyN (by decide +kernel) (Nat.le_of_ble_eq_true rfl) (fun p e s m below meth c ls hx hb hml hr ht hown hlocks hsz hK hP hD hS hN hl => ?_)
  have hA : ∀ a, s.heap.size ≤ a → zA 81 q sz a := fun a h => Or.inr (hsz ▸ h)
  have hl : lv_has ls 2 [(0, .ref (av 9)), (1, .int (pa1))] := hl
  have hZ : zSz zXRs 81 q ad av t9 sz s := hsz ▸ hN
  refine lv_iload_n hx hb dJ1_charAt_3b067_0 rfl (lv_at hl 1 rfl) ?_
  refine lv_aload_n hx hb dJ1_charAt_3b067_1 rfl (lv_at hl 0 rfl) ?_
  refine va_tlen hx hb (hZ.1.1 9 (by decide)).2.2.2 hS (v := nI 5) rfl dJ1_charAt_3b067_2 ?_
  refine z_cNSv (As := [.int (pa1), .int (nI 5)]) (rest := []) hx hb hml hown ht (xk_J0_checkIndex_df160_1 l D q cA ad av t9 F _ _ _ hI (pa1) hpa1) hw_2_208 hmJ0_checkIndex_df160 ⟨rfl, rfl⟩ (na := 2) rfl (by decide +kernel) (by decide) hK hP hD hS hA (zSS_c (Rs := zXRs) (t9 := t9) (fun _ _ _ => zXRs_c)) (zSS_w (Rs := zXRs) (t9 := t9) (fun _ _ _ => zXRs_w) hN hsz hS) hl.1 rfl (Nat.le_of_ble_eq_true rfl) ⟨Nat.zero_le _, Nat.zero_le _⟩ dJ1_charAt_3b067_3 (fun I_1 R_1 J_1 H locs hp_1 hP hD hS _ _ => ?_)
  cases hp_1
  refine lv_aload_n hx hb dJ1_charAt_3b067_6 rfl (lv_at hl 0 rfl) ?_
  refine lv_iload_n hx hb dJ1_charAt_3b067_7 rfl (lv_at hl 1 rfl) ?_
  refine va_tb hx hb (hZ.1.1 9 (by decide)).2.2.2 hS (zR_vin hpa1 (by decide)) rfl dJ1_charAt_3b067_8 ?_
  refine z_any (fun v_2 => ?_)
  refine lv_sipush (v := nI 255) hx hb dJ1_charAt_3b067_9 (by decide +kernel) ?_
  refine lv_iand hx hb dJ1_charAt_3b067_12 ?_
  refine z_rng (a := 0) (b := 255) (zR_andr zk_255 (by decide)) (fun v_3 hv_3 => ?_)
  refine lv_i2c hx hb dJ1_charAt_3b067_13 rfl ?_
  refine z_rng (a := 0) (b := 65535) (zR_i2c _) (fun v_4 hv_4 => ?_)
  exact z_zret (v := v_4) hx hb hr hlocks hP hD hS (zR_char hv_4) dJ1_charAt_3b067_14 ⟨hv_4, rfl⟩
set_option maxHeartbeats 4000000 in
set_option maxRecDepth 100000 in
theorem xk_J0_charAt_5068e_10 (l : Launch) (D : va_G) (q : Nat → Nat) (cA : Nat → ClassId) (ad av : Nat → Nat) (t9 : Nat) (F : Nat → Nat → Int32) (I R : Nat → Nat → Int32) (J : Nat → Nat → Int64) (hI : xInv F (I, R, J)) (pa0 : Int32) (hpa0 : zR 0 4 pa0) : zNi (zSS zXRs 81 q ad av t9) l D vwCl (zXtys cA) 81 q (zXd q cA) yJ0_charAt_5068e cJ0_charAt_5068e 2 (some .char) ({ frames := 3, cells := 0, slots := 0, locals := 64 } : Room) [.ref (ad 9), .int (pa0)] (I, R, J) (fun r u => zR 0 65535 r ∧ u = (I, R, J)) := by
  intro sz
  refine z_bodyN (by decide +kernel) (Nat.le_of_ble_eq_true rfl) (fun p e s m below meth c ls hx hb hml hr ht hown hlocks hsz hK hP hD hS hN hl => ?_)
  have hA : ∀ a, s.heap.size ≤ a → zA 81 q sz a := fun a h => Or.inr (hsz ▸ h)
  have hl : lv_has ls 2 [(0, .ref (ad 9)), (1, .int (pa0))] := hl
  have hZ : zSz zXRs 81 q ad av t9 sz s := hsz ▸ hN
  refine lv_aload_n hx hb dJ0_charAt_5068e_0 rfl (lv_at hl 0 rfl) ?_
  refine z_cNXi (As := []) (rest := []) hx hb hml hown ht (xk_J0_isLatin1_aae02_5 l D q cA ad av t9 F _ _ _ hI ) hw_2_201 hmJ0_isLatin1_aae02 ⟨rfl, rfl⟩ (na := 0) rfl (by decide +kernel) (by decide) (vk_recv hZ.1 (by decide) hS) hK hP hD hS hA (zSS_c (Rs := zXRs) (t9 := t9) (fun _ _ _ => zXRs_c)) (zSS_w (Rs := zXRs) (t9 := t9) (fun _ _ _ => zXRs_w) hN hsz hS) hl.1 rfl (Nat.le_of_ble_eq_true rfl) ⟨Nat.zero_le _, Nat.zero_le _⟩ dJ0_charAt_5068e_1 (fun r_1 I_1 R_1 J_1 H locs hp_1 hP hD hS _ _ => ?_)
  obtain ⟨rfl, hu_1⟩ := hp_1
  cases hu_1
  refine lv_if_eq (tgt := 16) hx hb dJ0_charAt_5068e_4 (by decide) (fun c_0 => absurd c_0 (zD_ne zk_1 zk_z (by decide))) (fun _ => ?_)
  refine lv_aload_n hx hb dJ0_charAt_5068e_7 rfl (lv_at hl 0 rfl) ?_
  refine vk_getf hx hb (hZ.1.1 9 (by decide)).2.2.1 hS hown (ht _ hw_8_164) (fun _ h => h) dJ0_charAt_5068e_8 ?_
  refine lv_iload_n hx hb dJ0_charAt_5068e_11 rfl (lv_at hl 1 rfl) ?_
  refine z_cNSi (As := [.ref (av 9), .int (pa0)]) (rest := []) hx hb hml hown ht (xk_J1_charAt_3b067_10 l D q cA ad av t9 F _ _ _ hI (pa0) hpa0) hw_2_205 hmJ1_charAt_3b067 ⟨rfl, rfl⟩ (na := 2) rfl (by decide +kernel) (by decide) hK hP hD hS hA (zSS_c (Rs := zXRs) (t9 := t9) (fun _ _ _ => zXRs_c)) (zSS_w (Rs := zXRs) (t9 := t9) (fun _ _ _ => zXRs_w) hN hsz hS) hl.1 rfl (Nat.le_of_ble_eq_true rfl) ⟨Nat.zero_le _, Nat.zero_le _⟩ dJ0_charAt_5068e_12 (fun r_2 I_2 R_2 J_2 H locs hp_2 hP hD hS _ _ => ?_)
  obtain ⟨hr_2, hu_2⟩ := hp_2
  cases hu_2
  exact z_zret (v := r_2) hx hb hr hlocks hP hD hS (zR_char hr_2) dJ0_charAt_5068e_15 ⟨hr_2, rfl⟩
set_option maxHeartbeats 4000000 in
set_option maxRecDepth 100000 in
theorem xk_X7_isWord_5 (l : Launch) (D : va_G) (q : Nat → Nat) (cA : Nat → ClassId) (ad av : Nat → Nat) (t9 : Nat) (F : Nat → Nat → Int32) (I R : Nat → Nat → Int32) (J : Nat → Nat → Int64) (hI : xInv F (I, R, J))  : zNi (zSS zXRs 81 q ad av t9) l D vwCl (zXtys cA) 81 q (zXd q cA) yX7_isWord cX7_isWord 3 (some .boolean) ({ frames := 4, cells := 0, slots := 0, locals := 85 } : Room) [.ref (q 1), .ref (ad 9)] (I, R, J) (fun r u => (r = nI 1 ∧ u = (I, R, J)) ∨ (r = nI 0 ∧ u = (I, R, J))) := by
  intro sz
  refine z_bodyN (by decide +kernel) (Nat.le_of_ble_eq_true rfl) (fun p e s m below meth c ls hx hb hml hr ht hown hlocks hsz hK hP hD hS hN hl => ?_)
  have hA : ∀ a, s.heap.size ≤ a → zA 81 q sz a := fun a h => Or.inr (hsz ▸ h)
  have hl : lv_has ls 3 [(0, .ref (q 1)), (1, .ref (ad 9))] := hl
  have hZ : zSz zXRs 81 q ad av t9 sz s := hsz ▸ hN
  refine lv_aload_n hx hb dX7_isWord_0 rfl (lv_at hl 0 rfl) ?_
  refine z_get hx hb ht hown hK hP ziX7 rfl 1 (by decide) 4 (by decide) hw_1_42 rfl (v := .int (I 1 4)) rfl dX7_isWord_1 ?_
  refine lv_iconst (v := nI 1) hx hb dX7_isWord_4 (by decide +kernel) ?_
  refine lv_icmp_ne (tgt := 24) hx hb dX7_isWord_5 (by decide) (fun c_1 => ?_) (fun c_1 => ?_)
  · have t_c_1 := z_eqF c_1
    refine lv_iconst (v := nI 0) hx hb dX7_isWord_24 (by decide +kernel) ?_
    exact z_zret (v := nI 0) hx hb hr hlocks hP hD hS (by decide +kernel) dX7_isWord_25 (Or.inr ⟨rfl, rfl⟩)
  · have t_c_1 := z_eqT c_1
    have f_2 : zR 1 1 (I 1 4) := zR_eqx t_c_1 zk_1
    refine lv_aload_n hx hb dX7_isWord_8 rfl (lv_at hl 0 rfl) ?_
    refine z_get hx hb ht hown hK hP ziX7 rfl 1 (by decide) 6 (by decide) hw_1_44 rfl (v := .int (I 1 6)) rfl dX7_isWord_9 ?_
    have f_3 : zR 0 800 (I 1 6) := xI hI 1 6
    refine lv_aload_n hx hb dX7_isWord_12 rfl (lv_at hl 0 rfl) ?_
    refine z_get hx hb ht hown hK hP ziX7 rfl 1 (by decide) 5 (by decide) hw_1_43 rfl (v := .int (I 1 5)) rfl dX7_isWord_13 ?_
    have f_4 : zR 0 800 (I 1 5) := xI hI 1 5
    refine lv_isub hx hb dX7_isWord_16 ?_
    refine lv_topi (fun v_5 ev_5 => ?_)
    have hv_5 : zR (-800) 800 v_5 := ev_5 ▸ zR_sub f_3 f_4 (by decide)
    refine lv_aload_n hx hb dX7_isWord_17 rfl (lv_at hl 1 rfl) ?_
    refine z_cNXi (As := []) (rest := [.int (v_5)]) hx hb hml hown ht (xk_J0_length_8abf5_5 l D q cA ad av t9 F _ _ _ hI ) hw_2_187 hmJ0_length_8abf5 ⟨rfl, rfl⟩ (na := 0) rfl (by decide +kernel) (by decide) (vk_recv hZ.1 (by decide) hS) hK hP hD hS hA (zSS_c (Rs := zXRs) (t9 := t9) (fun _ _ _ => zXRs_c)) (zSS_w (Rs := zXRs) (t9 := t9) (fun _ _ _ => zXRs_w) hN hsz hS) hl.1 rfl (Nat.le_of_ble_eq_true rfl) ⟨Nat.zero_le _, Nat.zero_le _⟩ dX7_isWord_18 (fun r_6 I_6 R_6 J_6 H locs hp_6 hP hD hS _ _ => ?_)
    obtain ⟨rfl, hu_6⟩ := hp_6
    cases hu_6
    refine lv_icmp_eq (tgt := 26) hx hb dX7_isWord_21 (by decide) (fun c_7 => ?_) (fun c_7 => ?_)
    · have t_c_7 := z_eqT c_7
      have f_8 : zR 5 5 (v_5) := zR_eqx t_c_7 zk_5
      have f_9 : zR 0 795 (I 1 5) := z_start f_3 f_4 ev_5 f_8 (by decide)
      refine lv_iconst (v := nI 0) hx hb dX7_isWord_26 (by decide +kernel) ?_
      refine lv_istore_n (lv' := [(2, .int (nI 0)), (0, .ref (q 1)), (1, .ref (ad 9))]) hx hb dX7_isWord_27 rfl hl (by decide) rfl (fun ls hl => ?_)
      have loop_43 : ∀ N : Nat, ∀ x_42 : Int32, zR 0 5 x_42 → (2147483648 - (x_42).toInt).toNat < N → ∀ (H : Heap) (locs : List Loc), va_P D vwCl (zw 81 q (zXd q cA) I R J) H → va_D (zA 81 q sz) (zw 81 q (zXd q cA) I R J) → va_S (zA 81 q sz) s.heap H locs → ∀ ls : Array Slot, lv_has ls 3 [(0, .ref (q 1)), (1, .ref (ad 9)), (2, .int (x_42))] → W p l e ({ frames := 4, cells := 0, slots := 0, locals := 85 } : Room) s m ([.ref (q 1), .ref (ad 9)] : List Value).toArray below meth c H locs 0 0 (MQ below (va_Qi (fun r u => (r = nI 1 ∧ u = (I, R, J)) ∨ (r = nI 0 ∧ u = (I, R, J))) (zB D vwCl 81 q (zXd q cA) sz) (zA 81 q sz)) ([.ref (q 1), .ref (ad 9)] : List Value).toArray s 0 0 (zA 81 q sz)) (F0 m 28 ls []) := by
        intro N
        induction N with
        | zero => intro x_42 hx_42 hN; exact absurd hN (Nat.not_lt_zero _)
        | succ N ih_45 =>
          intro x_42 hx_42 hN_44 H locs hP hD hS ls hl
          refine lv_iload_n hx hb dX7_isWord_28 rfl (lv_at hl 2 rfl) ?_
          refine lv_aload_n hx hb dX7_isWord_29 rfl (lv_at hl 1 rfl) ?_
          refine z_cNXi (As := []) (rest := [.int (x_42)]) hx hb hml hown ht (xk_J0_length_8abf5_5 l D q cA ad av t9 F _ _ _ hI ) hw_2_187 hmJ0_length_8abf5 ⟨rfl, rfl⟩ (na := 0) rfl (by decide +kernel) (by decide) (vk_recv hZ.1 (by decide) hS) hK hP hD hS hA (zSS_c (Rs := zXRs) (t9 := t9) (fun _ _ _ => zXRs_c)) (zSS_w (Rs := zXRs) (t9 := t9) (fun _ _ _ => zXRs_w) hN hsz hS) hl.1 rfl (Nat.le_of_ble_eq_true rfl) ⟨Nat.zero_le _, Nat.zero_le _⟩ dX7_isWord_30 (fun r_46 I_46 R_46 J_46 H locs hp_46 hP hD hS _ _ => ?_)
          obtain ⟨rfl, hu_46⟩ := hp_46
          cases hu_46
          refine lv_icmp_ge (tgt := 63) hx hb dX7_isWord_33 (by decide) (fun c_47 => ?_) (fun c_47 => ?_)
          · have t_c_47 := z_leT c_47
            have f_48 : zR 5 5 (x_42) := zR_ley t_c_47 zk_5 hx_42 (by decide)
            refine lv_iconst (v := nI 1) hx hb dX7_isWord_63 (by decide +kernel) ?_
            exact z_zret (v := nI 1) hx hb hr hlocks hP hD hS (by decide +kernel) dX7_isWord_64 (Or.inl ⟨rfl, rfl⟩)
          · have t_c_47 := z_leF c_47
            have f_49 : zR 0 4 (x_42) := zR_ltx t_c_47 hx_42 zk_5 (by decide)
            refine lv_aload_n hx hb dX7_isWord_36 rfl (lv_at hl 0 rfl) ?_
            refine z_get hx hb ht hown hK hP ziX7 rfl 1 (by decide) 0 (by decide) hw_1_35 rfl (v := .ref (q 2)) rfl dX7_isWord_37 ?_
            refine lv_aload_n hx hb dX7_isWord_40 rfl (lv_at hl 0 rfl) ?_
            refine z_get hx hb ht hown hK hP ziX7 rfl 1 (by decide) 5 (by decide) hw_1_43 rfl (v := .int (I 1 5)) rfl dX7_isWord_41 ?_
            refine lv_iload_n hx hb dX7_isWord_44 rfl (lv_at hl 2 rfl) ?_
            refine lv_iadd hx hb dX7_isWord_45 ?_
            refine z_rng (a := 0) (b := 799) (zR_add f_9 f_49 (by decide)) (fun v_50 hv_50 => ?_)
            refine z_bald hx hb hK hP 2 (by decide) 0 rfl rfl (zR_vin hv_50 (by decide)) dX7_isWord_46 ?_
            refine z_eqi (y := R 2 (v_50).toNatClampNeg) rfl ?_
            refine lv_aload_n hx hb dX7_isWord_47 rfl (lv_at hl 1 rfl) ?_
            refine lv_iload_n hx hb dX7_isWord_48 rfl (lv_at hl 2 rfl) ?_
            refine z_cNXi (As := [.int (x_42)]) (rest := [.int (R 2 (v_50).toNatClampNeg)]) hx hb hml hown ht (xk_J0_charAt_5068e_10 l D q cA ad av t9 F _ _ _ hI (x_42) f_49) hw_2_197 hmJ0_charAt_5068e ⟨rfl, rfl⟩ (na := 1) rfl (by decide +kernel) (by decide) (vk_recv hZ.1 (by decide) hS) hK hP hD hS hA (zSS_c (Rs := zXRs) (t9 := t9) (fun _ _ _ => zXRs_c)) (zSS_w (Rs := zXRs) (t9 := t9) (fun _ _ _ => zXRs_w) hN hsz hS) hl.1 rfl (Nat.le_of_ble_eq_true rfl) ⟨Nat.zero_le _, Nat.zero_le _⟩ dX7_isWord_49 (fun r_51 I_51 R_51 J_51 H locs hp_51 hP hD hS _ _ => ?_)
            obtain ⟨hr_51, hu_51⟩ := hp_51
            cases hu_51
            refine lv_icmp_eq (tgt := 57) hx hb dX7_isWord_52 (by decide) (fun c_52 => ?_) (fun c_52 => ?_)
            · have t_c_52 := z_eqT c_52
              have f_53 : zR 0 65535 (R 2 (v_50).toNatClampNeg) := zR_eqx t_c_52 hr_51
              obtain ⟨v_54, ev_54⟩ : ∃ y : Int32, y = x_42 + nI 1 := ⟨_, rfl⟩
              have hv_54 : zR 1 5 v_54 := ev_54 ▸ zR_add f_49 zk_1 (by decide)
              have mv_54 : v_54.toInt = (x_42).toInt + 1 := by rw [ev_54, zR_addE f_49 zk_1 (by decide)]; rfl
              refine lv_iinc (v := v_54) (lv' := [(2, .int (v_54)), (0, .ref (q 1)), (1, .ref (ad 9))]) hx hb dX7_isWord_57 hl (k := 2) rfl (ev_54 ▸ rfl) (by decide) rfl (fun ls hl => ?_)
              refine lv_goto (tgt := 28) hx hb dX7_isWord_60 (by decide) ?_
              exact ih_45 (v_54) (zR_w hv_54 (by decide)) (z2_up mv_54 (by decide) hN_44) _ _ hP hD hS _ (lv_sub hl [1, 2, 0] rfl)
            · have t_c_52 := z_eqF c_52
              refine lv_iconst (v := nI 0) hx hb dX7_isWord_55 (by decide +kernel) ?_
              exact z_zret (v := nI 0) hx hb hr hlocks hP hD hS (by decide +kernel) dX7_isWord_56 (Or.inr ⟨rfl, rfl⟩)
      exact loop_43 _ (nI 0) (zR_w zk_0 (by decide)) (Nat.lt_succ_self _) _ _ hP hD hS _ (lv_sub hl [1, 2, 0] rfl)
    · have t_c_7 := z_eqF c_7
      refine lv_iconst (v := nI 0) hx hb dX7_isWord_24 (by decide +kernel) ?_
      exact z_zret (v := nI 0) hx hb hr hlocks hP hD hS (by decide +kernel) dX7_isWord_25 (Or.inr ⟨rfl, rfl⟩)
set_option maxHeartbeats 4000000 in
set_option maxRecDepth 100000 in
theorem xk_X7_number_2 (l : Launch) (D : va_G) (q : Nat → Nat) (cA : Nat → ClassId) (F : Nat → Nat → Int32) (I R : Nat → Nat → Int32) (J : Nat → Nat → Int64) (hI : xInv F (I, R, J))  : zMi l D vwCl (zXtys cA) 81 q (zXd q cA) yX7_number cX7_number 4 (some .int) ({ frames := 2, cells := 0, slots := 0, locals := 40 } : Room) [.ref (q 1), .int (nI 1), .int (nI 999)] (I, R, J) (fun r u => zR 0 999 r ∧ (xInv F u ∧ (∀ k, k ≠ 1 → u.1 k = I k) ∧ u.2 = (R, J))) := by
  intro sz
  refine z_body (by decide +kernel) (Nat.le_of_ble_eq_true rfl) (fun p e s m below meth c ls hx hb hml hr ht hown hlocks hsz hK hP hD hS hl => ?_)
  have hA : ∀ a, s.heap.size ≤ a → zA 81 q sz a := fun a h => Or.inr (hsz ▸ h)
  have hl : lv_has ls 4 [(0, .ref (q 1)), (1, .int (nI 1)), (2, .int (nI 999))] := hl
  refine lv_aload_n hx hb dX7_number_0 rfl (lv_at hl 0 rfl) ?_
  refine z_get hx hb ht hown hK hP ziX7 rfl 1 (by decide) 4 (by decide) hw_1_42 rfl (v := .int (I 1 4)) rfl dX7_number_1 ?_
  refine lv_iconst (v := nI 2) hx hb dX7_number_4 (by decide +kernel) ?_
  refine lv_icmp_eq (tgt := 15) hx hb dX7_number_5 (by decide) (fun c_1 => ?_) (fun c_1 => ?_)
  · have t_c_1 := z_eqT c_1
    have f_2 : zR 2 2 (I 1 4) := zR_eqx t_c_1 zk_2
    refine lv_aload_n hx hb dX7_number_15 rfl (lv_at hl 0 rfl) ?_
    refine z_callVi (k := 1) (As := []) (rest := []) hx hb hml hown ht (xk_X7_told l D q cA F _ _ _ hI ) hw_3_8 hmX7_told ⟨rfl, rfl⟩ (na := 0) rfl (by decide +kernel) (by decide) (by decide) rfl rfl hK hP hD hS hA hl.1 rfl (Nat.le_of_ble_eq_true rfl) ⟨Nat.zero_le _, Nat.zero_le _⟩ dX7_number_16 (fun r_3 I_3 R_3 J_3 H locs hp_3 hP hD hS _ _ => ?_)
    cases hp_3
    refine lv_istore_n (lv' := [(3, .int (r_3)), (0, .ref (q 1)), (1, .int (nI 1)), (2, .int (nI 999))]) hx hb dX7_number_19 rfl hl (by decide) rfl (fun ls hl => ?_)
    refine lv_iload_n hx hb dX7_number_20 rfl (lv_at hl 0 rfl) ?_
    refine lv_iload_n hx hb dX7_number_21 rfl (lv_at hl 2 rfl) ?_
    refine lv_icmp_lt (tgt := 30) hx hb dX7_number_22 (by decide) (fun c_4 => ?_) (fun c_4 => ?_)
    · have t_c_4 := z_ltT c_4
      have f_5 : zR (-2147483648) 0 (r_3) := zR_ltx t_c_4 (zR_any (r_3)) zk_1 (by decide)
      refine lv_aload_n hx hb dX7_number_30 rfl (lv_at hl 1 rfl) ?_
      refine lv_iconst (v := nI 2) hx hb dX7_number_31 (by decide +kernel) ?_
      refine z_callVv (k := 1) (As := [.int (nI 2)]) (rest := []) hx hb hml hown ht (xk_X7_refuse_1 l D q cA F _ _ _ hI (nI 2) (zR_w zk_2 (by decide))) hw_2_239 hmX7_refuse ⟨rfl, rfl⟩ (na := 1) rfl (by decide +kernel) (by decide) (by decide) rfl rfl hK hP hD hS hA hl.1 rfl (Nat.le_of_ble_eq_true rfl) ⟨Nat.zero_le _, Nat.zero_le _⟩ dX7_number_32 (fun I_6 R_6 J_6 H locs hp_6 hP hD hS _ _ => ?_)
      obtain ⟨hv_6, hk_6, hj_6⟩ := hp_6
      dsimp only at hj_6 hk_6
      cases hj_6
      have hf_7 : ∀ k, k ≠ 1 → I_6 k = I k := fun k h => (hk_6 k h).trans ((fun (_ : Nat) _ => rfl) k h)
      refine lv_iconst (v := nI 0) hx hb dX7_number_35 (by decide +kernel) ?_
      exact z_iret (v := nI 0) hx hb hr hlocks hP hD hS dX7_number_36 ⟨(zR_w zk_0 (by decide)), ⟨hv_6, hf_7, rfl⟩⟩
    · have t_c_4 := z_ltF c_4
      have f_8 : zR 1 2147483647 (r_3) := zR_ley t_c_4 zk_1 (zR_any (r_3)) (by decide)
      refine lv_iload_n hx hb dX7_number_25 rfl (lv_at hl 0 rfl) ?_
      refine lv_iload_n hx hb dX7_number_26 rfl (lv_at hl 3 rfl) ?_
      refine lv_icmp_le (tgt := 37) hx hb dX7_number_27 (by decide) (fun c_9 => ?_) (fun c_9 => ?_)
      · have t_c_9 := z_leT c_9
        have f_10 : zR 1 999 (r_3) := zR_lex t_c_9 f_8 zk_999 (by decide)
        refine lv_aload_n hx hb dX7_number_37 rfl (lv_at hl 1 rfl) ?_
        refine z_callVv (k := 1) (As := []) (rest := []) hx hb hml hown ht (xk_X7_step l D q cA F _ _ _ hI ) hw_2_161 hmX7_step ⟨rfl, rfl⟩ (na := 0) rfl (by decide +kernel) (by decide) (by decide) rfl rfl hK hP hD hS hA hl.1 rfl (Nat.le_of_ble_eq_true rfl) ⟨Nat.zero_le _, Nat.zero_le _⟩ dX7_number_38 (fun I_11 R_11 J_11 H locs hp_11 hP hD hS _ _ => ?_)
        obtain ⟨hv_11, hk_11, hj_11⟩ := hp_11
        dsimp only at hj_11 hk_11
        cases hj_11
        have hf_12 : ∀ k, k ≠ 1 → I_11 k = I k := fun k h => (hk_11 k h).trans ((fun (_ : Nat) _ => rfl) k h)
        refine lv_iload_n hx hb dX7_number_41 rfl (lv_at hl 0 rfl) ?_
        exact z_iret (v := r_3) hx hb hr hlocks hP hD hS dX7_number_42 ⟨(zR_w f_10 (by decide)), ⟨hv_11, hf_12, rfl⟩⟩
      · have t_c_9 := z_leF c_9
        have f_13 : zR 1000 2147483647 (r_3) := zR_lty t_c_9 zk_999 f_8 (by decide)
        refine lv_aload_n hx hb dX7_number_30 rfl (lv_at hl 1 rfl) ?_
        refine lv_iconst (v := nI 2) hx hb dX7_number_31 (by decide +kernel) ?_
        refine z_callVv (k := 1) (As := [.int (nI 2)]) (rest := []) hx hb hml hown ht (xk_X7_refuse_1 l D q cA F _ _ _ hI (nI 2) (zR_w zk_2 (by decide))) hw_2_239 hmX7_refuse ⟨rfl, rfl⟩ (na := 1) rfl (by decide +kernel) (by decide) (by decide) rfl rfl hK hP hD hS hA hl.1 rfl (Nat.le_of_ble_eq_true rfl) ⟨Nat.zero_le _, Nat.zero_le _⟩ dX7_number_32 (fun I_14 R_14 J_14 H locs hp_14 hP hD hS _ _ => ?_)
        obtain ⟨hv_14, hk_14, hj_14⟩ := hp_14
        dsimp only at hj_14 hk_14
        cases hj_14
        have hf_15 : ∀ k, k ≠ 1 → I_14 k = I k := fun k h => (hk_14 k h).trans ((fun (_ : Nat) _ => rfl) k h)
        refine lv_iconst (v := nI 0) hx hb dX7_number_35 (by decide +kernel) ?_
        exact z_iret (v := nI 0) hx hb hr hlocks hP hD hS dX7_number_36 ⟨(zR_w zk_0 (by decide)), ⟨hv_14, hf_15, rfl⟩⟩
  · have t_c_1 := z_eqF c_1
    refine lv_aload_n hx hb dX7_number_8 rfl (lv_at hl 0 rfl) ?_
    refine lv_iconst (v := nI 1) hx hb dX7_number_9 (by decide +kernel) ?_
    refine z_callVv (k := 1) (As := [.int (nI 1)]) (rest := []) hx hb hml hown ht (xk_X7_refuse l D q cA F _ _ _ hI (nI 1) (zR_w zk_1 (by decide))) hw_2_239 hmX7_refuse ⟨rfl, rfl⟩ (na := 1) rfl (by decide +kernel) (by decide) (by decide) rfl rfl hK hP hD hS hA hl.1 rfl (Nat.le_of_ble_eq_true rfl) ⟨Nat.zero_le _, Nat.zero_le _⟩ dX7_number_10 (fun I_16 R_16 J_16 H locs hp_16 hP hD hS _ _ => ?_)
    obtain ⟨hv_16, hk_16, hj_16⟩ := hp_16
    dsimp only at hj_16 hk_16
    cases hj_16
    have hf_17 : ∀ k, k ≠ 1 → I_16 k = I k := fun k h => (hk_16 k h).trans ((fun (_ : Nat) _ => rfl) k h)
    refine lv_iconst (v := nI 0) hx hb dX7_number_13 (by decide +kernel) ?_
    exact z_iret (v := nI 0) hx hb hr hlocks hP hD hS dX7_number_14 ⟨(zR_w zk_0 (by decide)), ⟨hv_16, hf_17, rfl⟩⟩
set_option maxHeartbeats 4000000 in
set_option maxRecDepth 100000 in
theorem xk_X7_readThing (l : Launch) (D : va_G) (q : Nat → Nat) (cA : Nat → ClassId) (ad av : Nat → Nat) (t9 : Nat) (F : Nat → Nat → Int32) (I R : Nat → Nat → Int32) (J : Nat → Nat → Int64) (hI : xInv F (I, R, J))  : zNv (zSS zXRs 81 q ad av t9) l D vwCl (zXtys cA) 81 q (zXd q cA) yX7_readThing cX7_readThing 3 none ({ frames := 5, cells := 0, slots := 0, locals := 107 } : Room) [.ref (q 1), .ref (q 8)] (I, R, J) (fun u => xInv F u) := by
  intro sz
  refine z_bodyN (by decide +kernel) (Nat.le_of_ble_eq_true rfl) (fun p e s m below meth c ls hx hb hml hr ht hown hlocks hsz hK hP hD hS hN hl => ?_)
  have hA : ∀ a, s.heap.size ≤ a → zA 81 q sz a := fun a h => Or.inr (hsz ▸ h)
  have hl : lv_has ls 3 [(0, .ref (q 1)), (1, .ref (q 8))] := hl
  have hZ : zSz zXRs 81 q ad av t9 sz s := hsz ▸ hN
  refine lv_aload_n hx hb dX7_readThing_0 rfl (lv_at hl 1 rfl) ?_
  refine z_get hx hb ht hown hK hP ziX2 rfl 8 (by decide) 5 (by decide) hw_1_91 rfl (v := .int (I 8 5)) rfl dX7_readThing_1 ?_
  have f_1 : zR 0 6 (I 8 5) := xI hI 8 5
  refine lv_istore_n (lv' := [(2, .int (I 8 5)), (0, .ref (q 1)), (1, .ref (q 8))]) hx hb dX7_readThing_4 rfl hl (by decide) rfl (fun ls hl => ?_)
  refine lv_iload_n hx hb dX7_readThing_5 rfl (lv_at hl 0 rfl) ?_
  refine lv_bipush (v := nI 6) hx hb dX7_readThing_6 (by decide +kernel) ?_
  refine lv_icmp_lt (tgt := 17) hx hb dX7_readThing_8 (by decide) (fun c_2 => ?_) (fun c_2 => ?_)
  · have t_c_2 := z_ltT c_2
    have f_3 : zR 0 5 (I 8 5) := zR_ltx t_c_2 f_1 zk_6 (by decide)
    refine lv_aload_n hx hb dX7_readThing_17 rfl (lv_at hl 1 rfl) ?_
    refine z_callVv (k := 1) (As := []) (rest := []) hx hb hml hown ht (xk_X7_step l D q cA F _ _ _ hI ) hw_2_161 hmX7_step ⟨rfl, rfl⟩ (na := 0) rfl (by decide +kernel) (by decide) (by decide) rfl rfl hK hP hD hS hA hl.1 rfl (Nat.le_of_ble_eq_true rfl) ⟨Nat.zero_le _, Nat.zero_le _⟩ dX7_readThing_18 (fun I_4 R_4 J_4 H locs hp_4 hP hD hS _ _ => ?_)
    obtain ⟨hv_4, hk_4, hj_4⟩ := hp_4
    dsimp only at hj_4 hk_4
    cases hj_4
    refine lv_aload_n hx hb dX7_readThing_21 rfl (lv_at hl 1 rfl) ?_
    refine lv_aload_n hx hb dX7_readThing_22 rfl (lv_at hl 1 rfl) ?_
    refine va_ldcS hx hb hown (hZ.2.2.2.2.2.2.2.2.2.2.2.1) dX7_readThing_23 ?_
    refine z_cNVi (k := 1) (As := [.ref (ad 8)]) (rest := [.ref (q 1)]) hx hb hml hown ht (xk_X7_isWord_4 l D q cA ad av t9 F _ _ _ hv_4 ) hw_2_183 hmX7_isWord ⟨rfl, rfl⟩ (na := 1) rfl (by decide +kernel) (by decide) (by decide) rfl rfl hK hP hD hS hA (zSS_c (Rs := zXRs) (t9 := t9) (fun _ _ _ => zXRs_c)) (zSS_w (Rs := zXRs) (t9 := t9) (fun _ _ _ => zXRs_w) hN hsz hS) hl.1 rfl (Nat.le_of_ble_eq_true rfl) ⟨Nat.zero_le _, Nat.zero_le _⟩ dX7_readThing_25 (fun r_5 I_5 R_5 J_5 H locs hp_5 hP hD hS _ _ => ?_)
    have hq_5 : zR 0 1 r_5 ∧ (I_5, R_5, J_5) = (I_4, R, J) := hp_5.elim (fun h => ⟨h.1 ▸ zR_w zk_1 (by decide), h.2⟩) (fun h => ⟨h.1 ▸ zR_w zk_0 (by decide), h.2⟩)
    obtain ⟨hr_5, hu_5⟩ := hq_5
    cases hu_5
    refine z_callVv (k := 1) (As := [.int (r_5)]) (rest := []) hx hb hml hown ht (xk_X7_expect l D q cA F _ _ _ hv_4 (r_5) hr_5) hw_2_235 hmX7_expect ⟨rfl, rfl⟩ (na := 1) rfl (by decide +kernel) (by decide) (by decide) rfl rfl hK hP hD hS hA hl.1 rfl (Nat.le_of_ble_eq_true rfl) ⟨Nat.zero_le _, Nat.zero_le _⟩ dX7_readThing_28 (fun I_6 R_6 J_6 H locs hp_6 hP hD hS _ _ => ?_)
    obtain ⟨hv_6, hk_6, hj_6⟩ := hp_6
    dsimp only at hj_6 hk_6
    cases hj_6
    refine lv_aload_n hx hb dX7_readThing_31 rfl (lv_at hl 2 rfl) ?_
    refine z_get hx hb ht hown hK hP ziX2 rfl 8 (by decide) 8 (by decide) hw_1_103 rfl (v := .ref (q 10)) rfl dX7_readThing_32 ?_
    refine lv_iload_n hx hb dX7_readThing_35 rfl (lv_at hl 0 rfl) ?_
    refine lv_aload_n hx hb dX7_readThing_36 rfl (lv_at hl 1 rfl) ?_
    refine lv_iconst (v := nI 0) hx hb dX7_readThing_37 (by decide +kernel) ?_
    refine lv_aload_n hx hb dX7_readThing_38 rfl (lv_at hl 2 rfl) ?_
    refine z_get hx hb ht hown hK hP ziX2 rfl 8 (by decide) 4 (by decide) hw_1_84 rfl (v := .int (I_6 8 4)) rfl dX7_readThing_39 ?_
    refine z_eqi (y := I 8 4) ((congrFun (hk_6 8 (by decide)) 4).trans (congrFun (hk_4 8 (by decide)) 4)) ?_
    have f_7 : zR 0 5 (I 8 4) := xI hI 8 4
    refine lv_iconst (v := nI 1) hx hb dX7_readThing_42 (by decide +kernel) ?_
    refine lv_isub hx hb dX7_readThing_43 ?_
    refine z_subc (-1) 4 (-1) f_7 zk_1 (by decide) (fun v_8 hv_8 mv_8 => ?_)
    refine z_callVi (k := 1) (As := [.int (nI 0), .int (v_8)]) (rest := [.int (I 8 5), .ref (q 10)]) hx hb hml hown ht (xk_X7_number_1 l D q cA F _ _ _ hv_6 (v_8) hv_8) hw_3_4 hmX7_number ⟨rfl, rfl⟩ (na := 2) rfl (by decide +kernel) (by decide) (by decide) rfl rfl hK hP hD hS hA hl.1 rfl (Nat.le_of_ble_eq_true rfl) ⟨Nat.zero_le _, Nat.zero_le _⟩ dX7_readThing_44 (fun r_9 I_9 R_9 J_9 H locs hp_9 hP hD hS _ _ => ?_)
    obtain ⟨hr_9, hu_9⟩ := hp_9
    obtain ⟨hv_9, hk_9, hj_9⟩ := hu_9
    dsimp only at hj_9 hk_9
    cases hj_9
    refine z_iast hx hb hK hP hD hS 10 (by decide) 6 (fun _ => rfl) rfl (zR_vin f_3 (by decide)) dX7_readThing_47 (fun H locs hP hD hS => ?_)
    have hI_10 := xInv_R hv_9 10 (I 8 5).toNatClampNeg (r_9) hr_9 rfl
    refine lv_aload_n hx hb dX7_readThing_48 rfl (lv_at hl 1 rfl) ?_
    refine lv_aload_n hx hb dX7_readThing_49 rfl (lv_at hl 1 rfl) ?_
    refine va_ldcS hx hb hown (hZ.2.2.2.2.2.2.2.2.2.2.2.2.1) dX7_readThing_50 ?_
    refine z_cNVi (k := 1) (As := [.ref (ad 9)]) (rest := [.ref (q 1)]) hx hb hml hown ht (xk_X7_isWord_5 l D q cA ad av t9 F _ _ _ hI_10 ) hw_2_183 hmX7_isWord ⟨rfl, rfl⟩ (na := 1) rfl (by decide +kernel) (by decide) (by decide) rfl rfl hK hP hD hS hA (zSS_c (Rs := zXRs) (t9 := t9) (fun _ _ _ => zXRs_c)) (zSS_w (Rs := zXRs) (t9 := t9) (fun _ _ _ => zXRs_w) hN hsz hS) hl.1 rfl (Nat.le_of_ble_eq_true rfl) ⟨Nat.zero_le _, Nat.zero_le _⟩ dX7_readThing_52 (fun r_11 I_11 R_11 J_11 H locs hp_11 hP hD hS _ _ => ?_)
    have hq_11 : zR 0 1 r_11 ∧ (I_11, R_11, J_11) = (I_9, (zp R 10 (I 8 5).toNatClampNeg (r_9)), J) := hp_11.elim (fun h => ⟨h.1 ▸ zR_w zk_1 (by decide), h.2⟩) (fun h => ⟨h.1 ▸ zR_w zk_0 (by decide), h.2⟩)
    obtain ⟨hr_11, hu_11⟩ := hq_11
    cases hu_11
    refine z_callVv (k := 1) (As := [.int (r_11)]) (rest := []) hx hb hml hown ht (xk_X7_expect l D q cA F _ _ _ hI_10 (r_11) hr_11) hw_2_235 hmX7_expect ⟨rfl, rfl⟩ (na := 1) rfl (by decide +kernel) (by decide) (by decide) rfl rfl hK hP hD hS hA hl.1 rfl (Nat.le_of_ble_eq_true rfl) ⟨Nat.zero_le _, Nat.zero_le _⟩ dX7_readThing_55 (fun I_12 R_12 J_12 H locs hp_12 hP hD hS _ _ => ?_)
    obtain ⟨hv_12, hk_12, hj_12⟩ := hp_12
    dsimp only at hj_12 hk_12
    cases hj_12
    refine lv_aload_n hx hb dX7_readThing_58 rfl (lv_at hl 2 rfl) ?_
    refine z_get hx hb ht hown hK hP ziX2 rfl 8 (by decide) 9 (by decide) hw_1_107 rfl (v := .ref (q 11)) rfl dX7_readThing_59 ?_
    refine lv_iload_n hx hb dX7_readThing_62 rfl (lv_at hl 0 rfl) ?_
    refine lv_aload_n hx hb dX7_readThing_63 rfl (lv_at hl 1 rfl) ?_
    refine lv_iconst (v := nI 1) hx hb dX7_readThing_64 (by decide +kernel) ?_
    refine lv_sipush (v := nI 999) hx hb dX7_readThing_65 (by decide +kernel) ?_
    refine z_callVi (k := 1) (As := [.int (nI 1), .int (nI 999)]) (rest := [.int (I 8 5), .ref (q 11)]) hx hb hml hown ht (xk_X7_number_2 l D q cA F _ _ _ hv_12 ) hw_3_4 hmX7_number ⟨rfl, rfl⟩ (na := 2) rfl (by decide +kernel) (by decide) (by decide) rfl rfl hK hP hD hS hA hl.1 rfl (Nat.le_of_ble_eq_true rfl) ⟨Nat.zero_le _, Nat.zero_le _⟩ dX7_readThing_68 (fun r_13 I_13 R_13 J_13 H locs hp_13 hP hD hS _ _ => ?_)
    obtain ⟨hr_13, hu_13⟩ := hp_13
    obtain ⟨hv_13, hk_13, hj_13⟩ := hu_13
    dsimp only at hj_13 hk_13
    cases hj_13
    refine z_iast hx hb hK hP hD hS 11 (by decide) 7 (fun _ => rfl) rfl (zR_vin f_3 (by decide)) dX7_readThing_71 (fun H locs hP hD hS => ?_)
    have hI_14 := xInv_R hv_13 11 (I 8 5).toNatClampNeg (r_13) (zR_any _) rfl
    refine lv_aload_n hx hb dX7_readThing_72 rfl (lv_at hl 2 rfl) ?_
    refine lv_dup hx hb dX7_readThing_73 rfl ?_
    refine z_get hx hb ht hown hK hP ziX2 rfl 8 (by decide) 5 (by decide) hw_1_91 rfl (v := .int (I_13 8 5)) rfl dX7_readThing_74 ?_
    refine z_eqi (y := I 8 5) ((congrFun (hk_13 8 (by decide)) 5).trans ((congrFun (hk_12 8 (by decide)) 5).trans ((congrFun (hk_9 8 (by decide)) 5).trans ((congrFun (hk_6 8 (by decide)) 5).trans (congrFun (hk_4 8 (by decide)) 5))))) ?_
    refine lv_iconst (v := nI 1) hx hb dX7_readThing_77 (by decide +kernel) ?_
    refine lv_iadd hx hb dX7_readThing_78 ?_
    refine z_addc 1 6 f_3 zk_1 (by decide) (fun v_15 hv_15 mv_15 => ?_)
    refine z_putI hx hb ht hown hK hP hD hS ziX2 tyX2 tyX2_ok nmX2 rfl 8 (by decide) 5 (by decide) hw_1_91 rfl (v := v_15) rfl rfl rfl (Nat.le_of_ble_eq_true rfl) rfl dX7_readThing_79 (fun H locs hP hD hS => ?_)
    have hI_16 := xInv_I hI_14 8 5 (v_15) (zR_w hv_15 (by decide)) rfl
    exact z_vret hx hb hr hlocks hP hD hS dX7_readThing_82 hI_16
  · have t_c_2 := z_ltF c_2
    have f_17 : zR 6 6 (I 8 5) := zR_ley t_c_2 zk_6 f_1 (by decide)
    refine lv_aload_n hx hb dX7_readThing_11 rfl (lv_at hl 1 rfl) ?_
    refine lv_iconst (v := nI 3) hx hb dX7_readThing_12 (by decide +kernel) ?_
    refine z_callVv (k := 1) (As := [.int (nI 3)]) (rest := []) hx hb hml hown ht (xk_X7_refuse_2 l D q cA F _ _ _ hI (nI 3) (zR_w zk_3 (by decide))) hw_2_239 hmX7_refuse ⟨rfl, rfl⟩ (na := 1) rfl (by decide +kernel) (by decide) (by decide) rfl rfl hK hP hD hS hA hl.1 rfl (Nat.le_of_ble_eq_true rfl) ⟨Nat.zero_le _, Nat.zero_le _⟩ dX7_readThing_13 (fun I_18 R_18 J_18 H locs hp_18 hP hD hS _ _ => ?_)
    obtain ⟨hv_18, hk_18, hj_18⟩ := hp_18
    dsimp only at hj_18 hk_18
    cases hj_18
    exact z_vret hx hb hr hlocks hP hD hS dX7_readThing_16 hv_18
set_option maxHeartbeats 4000000 in
set_option maxRecDepth 100000 in
theorem xk_J0_coder_7d493_6 (l : Launch) (D : va_G) (q : Nat → Nat) (cA : Nat → ClassId) (ad av : Nat → Nat) (t9 : Nat) (F : Nat → Nat → Int32) (I R : Nat → Nat → Int32) (J : Nat → Nat → Int64) (hI : xInv F (I, R, J))  : zNi (zSS zXRs 81 q ad av t9) l D vwCl (zXtys cA) 81 q (zXd q cA) yJ0_coder_7d493 cJ0_coder_7d493 1 (some .byte) ({ frames := 0, cells := 0, slots := 0, locals := 0 } : Room) [.ref (ad 10)] (I, R, J) (fun r u => r = nI 0 ∧ u = (I, R, J)) := by
  intro sz
  refine z_bodyN (by decide +kernel) (Nat.le_of_ble_eq_true rfl) (fun p e s m below meth c ls hx hb hml hr ht hown hlocks hsz hK hP hD hS hN hl => ?_)
  have hA : ∀ a, s.heap.size ≤ a → zA 81 q sz a := fun a h => Or.inr (hsz ▸ h)
  have hl : lv_has ls 1 [(0, .ref (ad 10))] := hl
  have hZ : zSz zXRs 81 q ad av t9 sz s := hsz ▸ hN
  refine va_gets hx hb hZ.2.1 hS hown (ht _ hw_2_195) (fun _ h => h) dJ0_coder_7d493_0 ?_
  refine z_eqi (y := nI 1) rfl ?_
  refine lv_if_eq (tgt := 13) hx hb dJ0_coder_7d493_3 (by decide) (fun c_0 => absurd c_0 (zD_ne zk_1 zk_z (by decide))) (fun _ => ?_)
  refine lv_aload_n hx hb dJ0_coder_7d493_6 rfl (lv_at hl 0 rfl) ?_
  refine vk_getf hx hb (hZ.1.1 10 (by decide)).2.1 hS hown (ht _ hw_8_165) (fun _ h => h) dJ0_coder_7d493_7 ?_
  refine z_eqi (y := nI 0) rfl ?_
  refine lv_goto (tgt := 14) hx hb dJ0_coder_7d493_10 (by decide) ?_
  exact z_zret (v := nI 0) hx hb hr hlocks hP hD hS (by decide +kernel) dJ0_coder_7d493_14 ⟨rfl, rfl⟩
set_option maxHeartbeats 4000000 in
set_option maxRecDepth 100000 in
theorem xk_J0_length_8abf5_6 (l : Launch) (D : va_G) (q : Nat → Nat) (cA : Nat → ClassId) (ad av : Nat → Nat) (t9 : Nat) (F : Nat → Nat → Int32) (I R : Nat → Nat → Int32) (J : Nat → Nat → Int64) (hI : xInv F (I, R, J))  : zNi (zSS zXRs 81 q ad av t9) l D vwCl (zXtys cA) 81 q (zXd q cA) yJ0_length_8abf5 cJ0_length_8abf5 1 (some .int) ({ frames := 1, cells := 0, slots := 0, locals := 20 } : Room) [.ref (ad 10)] (I, R, J) (fun r u => r = nI 4 ∧ u = (I, R, J)) := by
  intro sz
  refine z_bodyN (by decide +kernel) (Nat.le_of_ble_eq_true rfl) (fun p e s m below meth c ls hx hb hml hr ht hown hlocks hsz hK hP hD hS hN hl => ?_)
  have hA : ∀ a, s.heap.size ≤ a → zA 81 q sz a := fun a h => Or.inr (hsz ▸ h)
  have hl : lv_has ls 1 [(0, .ref (ad 10))] := hl
  have hZ : zSz zXRs 81 q ad av t9 sz s := hsz ▸ hN
  refine lv_aload_n hx hb dJ0_length_8abf5_0 rfl (lv_at hl 0 rfl) ?_
  refine vk_getf hx hb (hZ.1.1 10 (by decide)).2.2.1 hS hown (ht _ hw_8_164) (fun _ h => h) dJ0_length_8abf5_1 ?_
  refine va_tlen hx hb (hZ.1.1 10 (by decide)).2.2.2 hS (v := nI 4) rfl dJ0_length_8abf5_4 ?_
  refine lv_aload_n hx hb dJ0_length_8abf5_5 rfl (lv_at hl 0 rfl) ?_
  refine z_cNXi (As := []) (rest := [.int (nI 4)]) hx hb hml hown ht (xk_J0_coder_7d493_6 l D q cA ad av t9 F _ _ _ hI ) hw_2_191 hmJ0_coder_7d493 ⟨rfl, rfl⟩ (na := 0) rfl (by decide +kernel) (by decide) (vk_recv hZ.1 (by decide) hS) hK hP hD hS hA (zSS_c (Rs := zXRs) (t9 := t9) (fun _ _ _ => zXRs_c)) (zSS_w (Rs := zXRs) (t9 := t9) (fun _ _ _ => zXRs_w) hN hsz hS) hl.1 rfl (Nat.le_of_ble_eq_true rfl) ⟨Nat.zero_le _, Nat.zero_le _⟩ dJ0_length_8abf5_6 (fun r_1 I_1 R_1 J_1 H locs hp_1 hP hD hS _ _ => ?_)
  obtain ⟨rfl, hu_1⟩ := hp_1
  cases hu_1
  refine lv_ishr hx hb dJ0_length_8abf5_9 ?_
  refine z_eqi (y := nI 4) (by decide +kernel) ?_
  exact z_iret (v := nI 4) hx hb hr hlocks hP hD hS dJ0_length_8abf5_10 ⟨rfl, rfl⟩
set_option maxHeartbeats 4000000 in
set_option maxRecDepth 100000 in
theorem xk_J0_isLatin1_aae02_6 (l : Launch) (D : va_G) (q : Nat → Nat) (cA : Nat → ClassId) (ad av : Nat → Nat) (t9 : Nat) (F : Nat → Nat → Int32) (I R : Nat → Nat → Int32) (J : Nat → Nat → Int64) (hI : xInv F (I, R, J))  : zNi (zSS zXRs 81 q ad av t9) l D vwCl (zXtys cA) 81 q (zXd q cA) yJ0_isLatin1_aae02 cJ0_isLatin1_aae02 1 (some .boolean) ({ frames := 0, cells := 0, slots := 0, locals := 0 } : Room) [.ref (ad 10)] (I, R, J) (fun r u => (r = nI 1 ∧ u = (I, R, J))) := by
  intro sz
  refine z_bodyN (by decide +kernel) (Nat.le_of_ble_eq_true rfl) (fun p e s m below meth c ls hx hb hml hr ht hown hlocks hsz hK hP hD hS hN hl => ?_)
  have hA : ∀ a, s.heap.size ≤ a → zA 81 q sz a := fun a h => Or.inr (hsz ▸ h)
  have hl : lv_has ls 1 [(0, .ref (ad 10))] := hl
  have hZ : zSz zXRs 81 q ad av t9 sz s := hsz ▸ hN
  refine va_gets hx hb hZ.2.1 hS hown (ht _ hw_2_195) (fun _ h => h) dJ0_isLatin1_aae02_0 ?_
  refine z_eqi (y := nI 1) rfl ?_
  refine lv_if_eq (tgt := 17) hx hb dJ0_isLatin1_aae02_3 (by decide) (fun c_0 => absurd c_0 (zD_ne zk_1 zk_z (by decide))) (fun _ => ?_)
  refine lv_aload_n hx hb dJ0_isLatin1_aae02_6 rfl (lv_at hl 0 rfl) ?_
  refine vk_getf hx hb (hZ.1.1 10 (by decide)).2.1 hS hown (ht _ hw_8_165) (fun _ h => h) dJ0_isLatin1_aae02_7 ?_
  refine z_eqi (y := nI 0) rfl ?_
  refine lv_if_ne (tgt := 17) hx hb dJ0_isLatin1_aae02_10 (by decide) (fun c_0 => absurd (zD_eq zk_0 zk_z) c_0) (fun _ => ?_)
  refine lv_iconst (v := nI 1) hx hb dJ0_isLatin1_aae02_13 (by decide +kernel) ?_
  refine lv_goto (tgt := 18) hx hb dJ0_isLatin1_aae02_14 (by decide) ?_
  exact z_zret (v := nI 1) hx hb hr hlocks hP hD hS (by decide +kernel) dJ0_isLatin1_aae02_18 ⟨rfl, rfl⟩
set_option maxHeartbeats 4000000 in
set_option maxRecDepth 100000 in
theorem xk_J3_checkIndex_8e157_12 (l : Launch) (D : va_G) (q : Nat → Nat) (cA : Nat → ClassId) (ad av : Nat → Nat) (t9 : Nat) (F : Nat → Nat → Int32) (I R : Nat → Nat → Int32) (J : Nat → Nat → Int64) (hI : xInv F (I, R, J)) (pa0 : Int32) (hpa0 : zR 0 3 pa0) : zNi (zSS zXRs 81 q ad av t9) l D vwCl (zXtys cA) 81 q (zXd q cA) yJ3_checkIndex_8e157 cJ3_checkIndex_8e157 3 (some .int) ({ frames := 0, cells := 0, slots := 0, locals := 0 } : Room) [.int (pa0), .int (nI 4), .null] (I, R, J) (fun r u => zR 0 3 r ∧ u = (I, R, J)) := by
  intro sz
  refine z_bodyN (by decide +kernel) (Nat.le_of_ble_eq_true rfl) (fun p e s m below meth c ls hx hb hml hr ht hown hlocks hsz hK hP hD hS hN hl => ?_)
  have hA : ∀ a, s.heap.size ≤ a → zA 81 q sz a := fun a h => Or.inr (hsz ▸ h)
  have hl : lv_has ls 3 [(0, .int (pa0)), (1, .int (nI 4)), (2, .null)] := hl
  have hZ : zSz zXRs 81 q ad av t9 sz s := hsz ▸ hN
  refine lv_iload_n hx hb dJ3_checkIndex_8e157_0 rfl (lv_at hl 0 rfl) ?_
  refine lv_if_lt (tgt := 9) hx hb dJ3_checkIndex_8e157_1 (by decide) (fun c_0 => absurd c_0 (zD_nlt hpa0 zk_z (by decide))) (fun _ => ?_)
  refine lv_iload_n hx hb dJ3_checkIndex_8e157_4 rfl (lv_at hl 0 rfl) ?_
  refine lv_iload_n hx hb dJ3_checkIndex_8e157_5 rfl (lv_at hl 1 rfl) ?_
  refine lv_icmp_lt (tgt := 16) hx hb dJ3_checkIndex_8e157_6 (by decide) (fun _ => ?_) (fun c_0 => absurd (zD_lt hpa0 zk_4 (by decide)) c_0)
  refine lv_iload_n hx hb dJ3_checkIndex_8e157_16 rfl (lv_at hl 0 rfl) ?_
  exact z_iret (v := pa0) hx hb hr hlocks hP hD hS dJ3_checkIndex_8e157_17 ⟨hpa0, rfl⟩
set_option maxHeartbeats 4000000 in
set_option maxRecDepth 100000 in
theorem xk_J3_checkIndex_8e157_13 (l : Launch) (D : va_G) (q : Nat → Nat) (cA : Nat → ClassId) (ad av : Nat → Nat) (t9 : Nat) (F : Nat → Nat → Int32) (I R : Nat → Nat → Int32) (J : Nat → Nat → Int64) (hI : xInv F (I, R, J)) (pa0 : Int32) (hpa0 : zR 0 3 pa0) : zNi (zSS zXRs 81 q ad av t9) l D vwCl (zXtys cA) 81 q (zXd q cA) yJ3_checkIndex_8e157 cJ3_checkIndex_8e157 3 (some .int) ({ frames := 0, cells := 0, slots := 0, locals := 0 } : Room) [.int (pa0), .int (nI 4), .ref (t9)] (I, R, J) (fun r u => zR 0 3 r ∧ u = (I, R, J)) := by
  intro sz
  refine z_bodyN (by decide +kernel) (Nat.le_of_ble_eq_true rfl) (fun p e s m below meth c ls hx hb hml hr ht hown hlocks hsz hK hP hD hS hN hl => ?_)
  have hA : ∀ a, s.heap.size ≤ a → zA 81 q sz a := fun a h => Or.inr (hsz ▸ h)
  have hl : lv_has ls 3 [(0, .int (pa0)), (1, .int (nI 4)), (2, .ref (t9))] := hl
  have hZ : zSz zXRs 81 q ad av t9 sz s := hsz ▸ hN
  refine lv_iload_n hx hb dJ3_checkIndex_8e157_0 rfl (lv_at hl 0 rfl) ?_
  refine lv_if_lt (tgt := 9) hx hb dJ3_checkIndex_8e157_1 (by decide) (fun c_0 => absurd c_0 (zD_nlt hpa0 zk_z (by decide))) (fun _ => ?_)
  refine lv_iload_n hx hb dJ3_checkIndex_8e157_4 rfl (lv_at hl 0 rfl) ?_
  refine lv_iload_n hx hb dJ3_checkIndex_8e157_5 rfl (lv_at hl 1 rfl) ?_
  refine lv_icmp_lt (tgt := 16) hx hb dJ3_checkIndex_8e157_6 (by decide) (fun _ => ?_) (fun c_0 => absurd (zD_lt hpa0 zk_4 (by decide)) c_0)
  refine lv_iload_n hx hb dJ3_checkIndex_8e157_16 rfl (lv_at hl 0 rfl) ?_
  exact z_iret (v := pa0) hx hb hr hlocks hP hD hS dJ3_checkIndex_8e157_17 ⟨hpa0, rfl⟩
set_option maxHeartbeats 4000000 in
set_option maxRecDepth 100000 in
theorem xk_J0_checkIndex_df160_6 (l : Launch) (D : va_G) (q : Nat → Nat) (cA : Nat → ClassId) (ad av : Nat → Nat) (t9 : Nat) (F : Nat → Nat → Int32) (I R : Nat → Nat → Int32) (J : Nat → Nat → Int64) (hI : xInv F (I, R, J)) (pa0 : Int32) (hpa0 : zR 0 3 pa0) : zNv (zSS zXRs 81 q ad av t9) l D vwCl (zXtys cA) 81 q (zXd q cA) yJ0_checkIndex_df160 cJ0_checkIndex_df160 2 none ({ frames := 1, cells := 0, slots := 0, locals := 22 } : Room) [.int (pa0), .int (nI 4)] (I, R, J) (fun u => u = (I, R, J)) := by
  intro sz
  refine z_bodyN (by decide +kernel) (Nat.le_of_ble_eq_true rfl) (fun p e s m below meth c ls hx hb hml hr ht hown hlocks hsz hK hP hD hS hN hl => ?_)
  have hA : ∀ a, s.heap.size ≤ a → zA 81 q sz a := fun a h => Or.inr (hsz ▸ h)
  have hl : lv_has ls 2 [(0, .int (pa0)), (1, .int (nI 4))] := hl
  have hZ : zSz zXRs 81 q ad av t9 sz s := hsz ▸ hN
  refine lv_iload_n hx hb dJ0_checkIndex_df160_0 rfl (lv_at hl 0 rfl) ?_
  refine lv_iload_n hx hb dJ0_checkIndex_df160_1 rfl (lv_at hl 1 rfl) ?_
  rcases hZ.2.2.1 with hz9 | ⟨t9, hz9⟩
  · refine va_gets hx hb hz9 hS hown (ht _ hw_2_211) (fun _ h => h) dJ0_checkIndex_df160_2 ?_
    refine z_cNSi (As := [.int (pa0), .int (nI 4), .null]) (rest := []) hx hb hml hown ht (xk_J3_checkIndex_8e157_12 l D q cA ad av t9 F _ _ _ hI (pa0) hpa0) hw_2_213 hmJ3_checkIndex_8e157 ⟨rfl, rfl⟩ (na := 3) rfl (by decide +kernel) (by decide) hK hP hD hS hA (zSS_c (Rs := zXRs) (t9 := t9) (fun _ _ _ => zXRs_c)) (zSS_w (Rs := zXRs) (t9 := t9) (fun _ _ _ => zXRs_w) hN hsz hS) hl.1 rfl (Nat.le_of_ble_eq_true rfl) ⟨Nat.zero_le _, Nat.zero_le _⟩ dJ0_checkIndex_df160_5 (fun r_1 I_1 R_1 J_1 H locs hp_1 hP hD hS _ _ => ?_)
    obtain ⟨hr_1, hu_1⟩ := hp_1
    cases hu_1
    refine lv_pop hx hb dJ0_checkIndex_df160_8 rfl ?_
    exact z_vret hx hb hr hlocks hP hD hS dJ0_checkIndex_df160_9 rfl
  · refine va_gets hx hb hz9 hS hown (ht _ hw_2_211) (fun _ h => h) dJ0_checkIndex_df160_2 ?_
    refine z_cNSi (As := [.int (pa0), .int (nI 4), .ref (t9)]) (rest := []) hx hb hml hown ht (xk_J3_checkIndex_8e157_13 l D q cA ad av t9 F _ _ _ hI (pa0) hpa0) hw_2_213 hmJ3_checkIndex_8e157 ⟨rfl, rfl⟩ (na := 3) rfl (by decide +kernel) (by decide) hK hP hD hS hA (zSS_c (Rs := zXRs) (t9 := t9) (fun _ _ _ => zXRs_c)) (zSS_w (Rs := zXRs) (t9 := t9) (fun _ _ _ => zXRs_w) hN hsz hS) hl.1 rfl (Nat.le_of_ble_eq_true rfl) ⟨Nat.zero_le _, Nat.zero_le _⟩ dJ0_checkIndex_df160_5 (fun r_2 I_2 R_2 J_2 H locs hp_2 hP hD hS _ _ => ?_)
    obtain ⟨hr_2, hu_2⟩ := hp_2
    cases hu_2
    refine lv_pop hx hb dJ0_checkIndex_df160_8 rfl ?_
    exact z_vret hx hb hr hlocks hP hD hS dJ0_checkIndex_df160_9 rfl
set_option maxHeartbeats 4000000 in
set_option maxRecDepth 100000 in
theorem xk_J1_charAt_3b067_12 (l : Launch) (D : va_G) (q : Nat → Nat) (cA : Nat → ClassId) (ad av : Nat → Nat) (t9 : Nat) (F : Nat → Nat → Int32) (I R : Nat → Nat → Int32) (J : Nat → Nat → Int64) (hI : xInv F (I, R, J)) (pa1 : Int32) (hpa1 : zR 0 3 pa1) : zNi (zSS zXRs 81 q ad av t9) l D vwCl (zXtys cA) 81 q (zXd q cA) yJ1_charAt_3b067 cJ1_charAt_3b067 2 (some .char) ({ frames := 2, cells := 0, slots := 0, locals := 43 } : Room) [.ref (av 10), .int (pa1)] (I, R, J) (fun r u => zR 0 65535 r ∧ u = (I, R, J)) := by
  intro sz
  refine z_bodyN (by decide +kernel) (Nat.le_of_ble_eq_true rfl) (fun p e s m below meth c ls hx hb hml hr ht hown hlocks hsz hK hP hD hS hN hl => ?_)
  have hA : ∀ a, s.heap.size ≤ a → zA 81 q sz a := fun a h => Or.inr (hsz ▸ h)
  have hl : lv_has ls 2 [(0, .ref (av 10)), (1, .int (pa1))] := hl
  have hZ : zSz zXRs 81 q ad av t9 sz s := hsz ▸ hN
  refine lv_iload_n hx hb dJ1_charAt_3b067_0 rfl (lv_at hl 1 rfl) ?_
  refine lv_aload_n hx hb dJ1_charAt_3b067_1 rfl (lv_at hl 0 rfl) ?_
  refine va_tlen hx hb (hZ.1.1 10 (by decide)).2.2.2 hS (v := nI 4) rfl dJ1_charAt_3b067_2 ?_
  refine z_cNSv (As := [.int (pa1), .int (nI 4)]) (rest := []) hx hb hml hown ht (xk_J0_checkIndex_df160_6 l D q cA ad av t9 F _ _ _ hI (pa1) hpa1) hw_2_208 hmJ0_checkIndex_df160 ⟨rfl, rfl⟩ (na := 2) rfl (by decide +kernel) (by decide) hK hP hD hS hA (zSS_c (Rs := zXRs) (t9 := t9) (fun _ _ _ => zXRs_c)) (zSS_w (Rs := zXRs) (t9 := t9) (fun _ _ _ => zXRs_w) hN hsz hS) hl.1 rfl (Nat.le_of_ble_eq_true rfl) ⟨Nat.zero_le _, Nat.zero_le _⟩ dJ1_charAt_3b067_3 (fun I_1 R_1 J_1 H locs hp_1 hP hD hS _ _ => ?_)
  cases hp_1
  refine lv_aload_n hx hb dJ1_charAt_3b067_6 rfl (lv_at hl 0 rfl) ?_
  refine lv_iload_n hx hb dJ1_charAt_3b067_7 rfl (lv_at hl 1 rfl) ?_
  refine va_tb hx hb (hZ.1.1 10 (by decide)).2.2.2 hS (zR_vin hpa1 (by decide)) rfl dJ1_charAt_3b067_8 ?_
  refine z_any (fun v_2 => ?_)
  refine lv_sipush (v := nI 255) hx hb dJ1_charAt_3b067_9 (by decide +kernel) ?_
  refine lv_iand hx hb dJ1_charAt_3b067_12 ?_
  refine z_rng (a := 0) (b := 255) (zR_andr zk_255 (by decide)) (fun v_3 hv_3 => ?_)
  refine lv_i2c hx hb dJ1_charAt_3b067_13 rfl ?_
  refine z_rng (a := 0) (b := 65535) (zR_i2c _) (fun v_4 hv_4 => ?_)
  exact z_zret (v := v_4) hx hb hr hlocks hP hD hS (zR_char hv_4) dJ1_charAt_3b067_14 ⟨hv_4, rfl⟩
set_option maxHeartbeats 4000000 in
set_option maxRecDepth 100000 in
theorem xk_J0_charAt_5068e_12 (l : Launch) (D : va_G) (q : Nat → Nat) (cA : Nat → ClassId) (ad av : Nat → Nat) (t9 : Nat) (F : Nat → Nat → Int32) (I R : Nat → Nat → Int32) (J : Nat → Nat → Int64) (hI : xInv F (I, R, J)) (pa0 : Int32) (hpa0 : zR 0 3 pa0) : zNi (zSS zXRs 81 q ad av t9) l D vwCl (zXtys cA) 81 q (zXd q cA) yJ0_charAt_5068e cJ0_charAt_5068e 2 (some .char) ({ frames := 3, cells := 0, slots := 0, locals := 64 } : Room) [.ref (ad 10), .int (pa0)] (I, R, J) (fun r u => zR 0 65535 r ∧ u = (I, R, J)) := by
  intro sz
  refine z_bodyN (by decide +kernel) (Nat.le_of_ble_eq_true rfl) (fun p e s m below meth c ls hx hb hml hr ht hown hlocks hsz hK hP hD hS hN hl => ?_)
  have hA : ∀ a, s.heap.size ≤ a → zA 81 q sz a := fun a h => Or.inr (hsz ▸ h)
  have hl : lv_has ls 2 [(0, .ref (ad 10)), (1, .int (pa0))] := hl
  have hZ : zSz zXRs 81 q ad av t9 sz s := hsz ▸ hN
  refine lv_aload_n hx hb dJ0_charAt_5068e_0 rfl (lv_at hl 0 rfl) ?_
  refine z_cNXi (As := []) (rest := []) hx hb hml hown ht (xk_J0_isLatin1_aae02_6 l D q cA ad av t9 F _ _ _ hI ) hw_2_201 hmJ0_isLatin1_aae02 ⟨rfl, rfl⟩ (na := 0) rfl (by decide +kernel) (by decide) (vk_recv hZ.1 (by decide) hS) hK hP hD hS hA (zSS_c (Rs := zXRs) (t9 := t9) (fun _ _ _ => zXRs_c)) (zSS_w (Rs := zXRs) (t9 := t9) (fun _ _ _ => zXRs_w) hN hsz hS) hl.1 rfl (Nat.le_of_ble_eq_true rfl) ⟨Nat.zero_le _, Nat.zero_le _⟩ dJ0_charAt_5068e_1 (fun r_1 I_1 R_1 J_1 H locs hp_1 hP hD hS _ _ => ?_)
  obtain ⟨rfl, hu_1⟩ := hp_1
  cases hu_1
  refine lv_if_eq (tgt := 16) hx hb dJ0_charAt_5068e_4 (by decide) (fun c_0 => absurd c_0 (zD_ne zk_1 zk_z (by decide))) (fun _ => ?_)
  refine lv_aload_n hx hb dJ0_charAt_5068e_7 rfl (lv_at hl 0 rfl) ?_
  refine vk_getf hx hb (hZ.1.1 10 (by decide)).2.2.1 hS hown (ht _ hw_8_164) (fun _ h => h) dJ0_charAt_5068e_8 ?_
  refine lv_iload_n hx hb dJ0_charAt_5068e_11 rfl (lv_at hl 1 rfl) ?_
  refine z_cNSi (As := [.ref (av 10), .int (pa0)]) (rest := []) hx hb hml hown ht (xk_J1_charAt_3b067_12 l D q cA ad av t9 F _ _ _ hI (pa0) hpa0) hw_2_205 hmJ1_charAt_3b067 ⟨rfl, rfl⟩ (na := 2) rfl (by decide +kernel) (by decide) hK hP hD hS hA (zSS_c (Rs := zXRs) (t9 := t9) (fun _ _ _ => zXRs_c)) (zSS_w (Rs := zXRs) (t9 := t9) (fun _ _ _ => zXRs_w) hN hsz hS) hl.1 rfl (Nat.le_of_ble_eq_true rfl) ⟨Nat.zero_le _, Nat.zero_le _⟩ dJ0_charAt_5068e_12 (fun r_2 I_2 R_2 J_2 H locs hp_2 hP hD hS _ _ => ?_)
  obtain ⟨hr_2, hu_2⟩ := hp_2
  cases hu_2
  exact z_zret (v := r_2) hx hb hr hlocks hP hD hS (zR_char hr_2) dJ0_charAt_5068e_15 ⟨hr_2, rfl⟩
set_option maxHeartbeats 4000000 in
set_option maxRecDepth 100000 in
theorem xk_X7_isWord_6 (l : Launch) (D : va_G) (q : Nat → Nat) (cA : Nat → ClassId) (ad av : Nat → Nat) (t9 : Nat) (F : Nat → Nat → Int32) (I R : Nat → Nat → Int32) (J : Nat → Nat → Int64) (hI : xInv F (I, R, J))  : zNi (zSS zXRs 81 q ad av t9) l D vwCl (zXtys cA) 81 q (zXd q cA) yX7_isWord cX7_isWord 3 (some .boolean) ({ frames := 4, cells := 0, slots := 0, locals := 85 } : Room) [.ref (q 1), .ref (ad 10)] (I, R, J) (fun r u => (r = nI 1 ∧ u = (I, R, J)) ∨ (r = nI 0 ∧ u = (I, R, J))) := by
  intro sz
  refine z_bodyN (by decide +kernel) (Nat.le_of_ble_eq_true rfl) (fun p e s m below meth c ls hx hb hml hr ht hown hlocks hsz hK hP hD hS hN hl => ?_)
  have hA : ∀ a, s.heap.size ≤ a → zA 81 q sz a := fun a h => Or.inr (hsz ▸ h)
  have hl : lv_has ls 3 [(0, .ref (q 1)), (1, .ref (ad 10))] := hl
  have hZ : zSz zXRs 81 q ad av t9 sz s := hsz ▸ hN
  refine lv_aload_n hx hb dX7_isWord_0 rfl (lv_at hl 0 rfl) ?_
  refine z_get hx hb ht hown hK hP ziX7 rfl 1 (by decide) 4 (by decide) hw_1_42 rfl (v := .int (I 1 4)) rfl dX7_isWord_1 ?_
  refine lv_iconst (v := nI 1) hx hb dX7_isWord_4 (by decide +kernel) ?_
  refine lv_icmp_ne (tgt := 24) hx hb dX7_isWord_5 (by decide) (fun c_1 => ?_) (fun c_1 => ?_)
  · have t_c_1 := z_eqF c_1
    refine lv_iconst (v := nI 0) hx hb dX7_isWord_24 (by decide +kernel) ?_
    exact z_zret (v := nI 0) hx hb hr hlocks hP hD hS (by decide +kernel) dX7_isWord_25 (Or.inr ⟨rfl, rfl⟩)
  · have t_c_1 := z_eqT c_1
    have f_2 : zR 1 1 (I 1 4) := zR_eqx t_c_1 zk_1
    refine lv_aload_n hx hb dX7_isWord_8 rfl (lv_at hl 0 rfl) ?_
    refine z_get hx hb ht hown hK hP ziX7 rfl 1 (by decide) 6 (by decide) hw_1_44 rfl (v := .int (I 1 6)) rfl dX7_isWord_9 ?_
    have f_3 : zR 0 800 (I 1 6) := xI hI 1 6
    refine lv_aload_n hx hb dX7_isWord_12 rfl (lv_at hl 0 rfl) ?_
    refine z_get hx hb ht hown hK hP ziX7 rfl 1 (by decide) 5 (by decide) hw_1_43 rfl (v := .int (I 1 5)) rfl dX7_isWord_13 ?_
    have f_4 : zR 0 800 (I 1 5) := xI hI 1 5
    refine lv_isub hx hb dX7_isWord_16 ?_
    refine lv_topi (fun v_5 ev_5 => ?_)
    have hv_5 : zR (-800) 800 v_5 := ev_5 ▸ zR_sub f_3 f_4 (by decide)
    refine lv_aload_n hx hb dX7_isWord_17 rfl (lv_at hl 1 rfl) ?_
    refine z_cNXi (As := []) (rest := [.int (v_5)]) hx hb hml hown ht (xk_J0_length_8abf5_6 l D q cA ad av t9 F _ _ _ hI ) hw_2_187 hmJ0_length_8abf5 ⟨rfl, rfl⟩ (na := 0) rfl (by decide +kernel) (by decide) (vk_recv hZ.1 (by decide) hS) hK hP hD hS hA (zSS_c (Rs := zXRs) (t9 := t9) (fun _ _ _ => zXRs_c)) (zSS_w (Rs := zXRs) (t9 := t9) (fun _ _ _ => zXRs_w) hN hsz hS) hl.1 rfl (Nat.le_of_ble_eq_true rfl) ⟨Nat.zero_le _, Nat.zero_le _⟩ dX7_isWord_18 (fun r_6 I_6 R_6 J_6 H locs hp_6 hP hD hS _ _ => ?_)
    obtain ⟨rfl, hu_6⟩ := hp_6
    cases hu_6
    refine lv_icmp_eq (tgt := 26) hx hb dX7_isWord_21 (by decide) (fun c_7 => ?_) (fun c_7 => ?_)
    · have t_c_7 := z_eqT c_7
      have f_8 : zR 4 4 (v_5) := zR_eqx t_c_7 zk_4
      have f_9 : zR 0 796 (I 1 5) := z_start f_3 f_4 ev_5 f_8 (by decide)
      refine lv_iconst (v := nI 0) hx hb dX7_isWord_26 (by decide +kernel) ?_
      refine lv_istore_n (lv' := [(2, .int (nI 0)), (0, .ref (q 1)), (1, .ref (ad 10))]) hx hb dX7_isWord_27 rfl hl (by decide) rfl (fun ls hl => ?_)
      have loop_43 : ∀ N : Nat, ∀ x_42 : Int32, zR 0 4 x_42 → (2147483648 - (x_42).toInt).toNat < N → ∀ (H : Heap) (locs : List Loc), va_P D vwCl (zw 81 q (zXd q cA) I R J) H → va_D (zA 81 q sz) (zw 81 q (zXd q cA) I R J) → va_S (zA 81 q sz) s.heap H locs → ∀ ls : Array Slot, lv_has ls 3 [(0, .ref (q 1)), (1, .ref (ad 10)), (2, .int (x_42))] → W p l e ({ frames := 4, cells := 0, slots := 0, locals := 85 } : Room) s m ([.ref (q 1), .ref (ad 10)] : List Value).toArray below meth c H locs 0 0 (MQ below (va_Qi (fun r u => (r = nI 1 ∧ u = (I, R, J)) ∨ (r = nI 0 ∧ u = (I, R, J))) (zB D vwCl 81 q (zXd q cA) sz) (zA 81 q sz)) ([.ref (q 1), .ref (ad 10)] : List Value).toArray s 0 0 (zA 81 q sz)) (F0 m 28 ls []) := by
        intro N
        induction N with
        | zero => intro x_42 hx_42 hN; exact absurd hN (Nat.not_lt_zero _)
        | succ N ih_45 =>
          intro x_42 hx_42 hN_44 H locs hP hD hS ls hl
          refine lv_iload_n hx hb dX7_isWord_28 rfl (lv_at hl 2 rfl) ?_
          refine lv_aload_n hx hb dX7_isWord_29 rfl (lv_at hl 1 rfl) ?_
          refine z_cNXi (As := []) (rest := [.int (x_42)]) hx hb hml hown ht (xk_J0_length_8abf5_6 l D q cA ad av t9 F _ _ _ hI ) hw_2_187 hmJ0_length_8abf5 ⟨rfl, rfl⟩ (na := 0) rfl (by decide +kernel) (by decide) (vk_recv hZ.1 (by decide) hS) hK hP hD hS hA (zSS_c (Rs := zXRs) (t9 := t9) (fun _ _ _ => zXRs_c)) (zSS_w (Rs := zXRs) (t9 := t9) (fun _ _ _ => zXRs_w) hN hsz hS) hl.1 rfl (Nat.le_of_ble_eq_true rfl) ⟨Nat.zero_le _, Nat.zero_le _⟩ dX7_isWord_30 (fun r_46 I_46 R_46 J_46 H locs hp_46 hP hD hS _ _ => ?_)
          obtain ⟨rfl, hu_46⟩ := hp_46
          cases hu_46
          refine lv_icmp_ge (tgt := 63) hx hb dX7_isWord_33 (by decide) (fun c_47 => ?_) (fun c_47 => ?_)
          · have t_c_47 := z_leT c_47
            have f_48 : zR 4 4 (x_42) := zR_ley t_c_47 zk_4 hx_42 (by decide)
            refine lv_iconst (v := nI 1) hx hb dX7_isWord_63 (by decide +kernel) ?_
            exact z_zret (v := nI 1) hx hb hr hlocks hP hD hS (by decide +kernel) dX7_isWord_64 (Or.inl ⟨rfl, rfl⟩)
          · have t_c_47 := z_leF c_47
            have f_49 : zR 0 3 (x_42) := zR_ltx t_c_47 hx_42 zk_4 (by decide)
            refine lv_aload_n hx hb dX7_isWord_36 rfl (lv_at hl 0 rfl) ?_
            refine z_get hx hb ht hown hK hP ziX7 rfl 1 (by decide) 0 (by decide) hw_1_35 rfl (v := .ref (q 2)) rfl dX7_isWord_37 ?_
            refine lv_aload_n hx hb dX7_isWord_40 rfl (lv_at hl 0 rfl) ?_
            refine z_get hx hb ht hown hK hP ziX7 rfl 1 (by decide) 5 (by decide) hw_1_43 rfl (v := .int (I 1 5)) rfl dX7_isWord_41 ?_
            refine lv_iload_n hx hb dX7_isWord_44 rfl (lv_at hl 2 rfl) ?_
            refine lv_iadd hx hb dX7_isWord_45 ?_
            refine z_rng (a := 0) (b := 799) (zR_add f_9 f_49 (by decide)) (fun v_50 hv_50 => ?_)
            refine z_bald hx hb hK hP 2 (by decide) 0 rfl rfl (zR_vin hv_50 (by decide)) dX7_isWord_46 ?_
            refine z_eqi (y := R 2 (v_50).toNatClampNeg) rfl ?_
            refine lv_aload_n hx hb dX7_isWord_47 rfl (lv_at hl 1 rfl) ?_
            refine lv_iload_n hx hb dX7_isWord_48 rfl (lv_at hl 2 rfl) ?_
            refine z_cNXi (As := [.int (x_42)]) (rest := [.int (R 2 (v_50).toNatClampNeg)]) hx hb hml hown ht (xk_J0_charAt_5068e_12 l D q cA ad av t9 F _ _ _ hI (x_42) f_49) hw_2_197 hmJ0_charAt_5068e ⟨rfl, rfl⟩ (na := 1) rfl (by decide +kernel) (by decide) (vk_recv hZ.1 (by decide) hS) hK hP hD hS hA (zSS_c (Rs := zXRs) (t9 := t9) (fun _ _ _ => zXRs_c)) (zSS_w (Rs := zXRs) (t9 := t9) (fun _ _ _ => zXRs_w) hN hsz hS) hl.1 rfl (Nat.le_of_ble_eq_true rfl) ⟨Nat.zero_le _, Nat.zero_le _⟩ dX7_isWord_49 (fun r_51 I_51 R_51 J_51 H locs hp_51 hP hD hS _ _ => ?_)
            obtain ⟨hr_51, hu_51⟩ := hp_51
            cases hu_51
            refine lv_icmp_eq (tgt := 57) hx hb dX7_isWord_52 (by decide) (fun c_52 => ?_) (fun c_52 => ?_)
            · have t_c_52 := z_eqT c_52
              have f_53 : zR 0 65535 (R 2 (v_50).toNatClampNeg) := zR_eqx t_c_52 hr_51
              obtain ⟨v_54, ev_54⟩ : ∃ y : Int32, y = x_42 + nI 1 := ⟨_, rfl⟩
              have hv_54 : zR 1 4 v_54 := ev_54 ▸ zR_add f_49 zk_1 (by decide)
              have mv_54 : v_54.toInt = (x_42).toInt + 1 := by rw [ev_54, zR_addE f_49 zk_1 (by decide)]; rfl
              refine lv_iinc (v := v_54) (lv' := [(2, .int (v_54)), (0, .ref (q 1)), (1, .ref (ad 10))]) hx hb dX7_isWord_57 hl (k := 2) rfl (ev_54 ▸ rfl) (by decide) rfl (fun ls hl => ?_)
              refine lv_goto (tgt := 28) hx hb dX7_isWord_60 (by decide) ?_
              exact ih_45 (v_54) (zR_w hv_54 (by decide)) (z2_up mv_54 (by decide) hN_44) _ _ hP hD hS _ (lv_sub hl [1, 2, 0] rfl)
            · have t_c_52 := z_eqF c_52
              refine lv_iconst (v := nI 0) hx hb dX7_isWord_55 (by decide +kernel) ?_
              exact z_zret (v := nI 0) hx hb hr hlocks hP hD hS (by decide +kernel) dX7_isWord_56 (Or.inr ⟨rfl, rfl⟩)
      exact loop_43 _ (nI 0) (zR_w zk_0 (by decide)) (Nat.lt_succ_self _) _ _ hP hD hS _ (lv_sub hl [1, 2, 0] rfl)
    · have t_c_7 := z_eqF c_7
      refine lv_iconst (v := nI 0) hx hb dX7_isWord_24 (by decide +kernel) ?_
      exact z_zret (v := nI 0) hx hb hr hlocks hP hD hS (by decide +kernel) dX7_isWord_25 (Or.inr ⟨rfl, rfl⟩)
set_option maxHeartbeats 4000000 in
set_option maxRecDepth 100000 in
theorem xk_X7_number_3 (l : Launch) (D : va_G) (q : Nat → Nat) (cA : Nat → ClassId) (F : Nat → Nat → Int32) (I R : Nat → Nat → Int32) (J : Nat → Nat → Int64) (hI : xInv F (I, R, J)) (pa1 : Int32) (hpa1 : zR (-1) 5 pa1) : zMi l D vwCl (zXtys cA) 81 q (zXd q cA) yX7_number cX7_number 4 (some .int) ({ frames := 2, cells := 0, slots := 0, locals := 40 } : Room) [.ref (q 1), .int (nI 0), .int (pa1)] (I, R, J) (fun r u => zR 0 5 r ∧ (xInv F u ∧ (∀ k, k ≠ 1 → u.1 k = I k) ∧ u.2 = (R, J))) := by
  intro sz
  refine z_body (by decide +kernel) (Nat.le_of_ble_eq_true rfl) (fun p e s m below meth c ls hx hb hml hr ht hown hlocks hsz hK hP hD hS hl => ?_)
  have hA : ∀ a, s.heap.size ≤ a → zA 81 q sz a := fun a h => Or.inr (hsz ▸ h)
  have hl : lv_has ls 4 [(0, .ref (q 1)), (1, .int (nI 0)), (2, .int (pa1))] := hl
  refine lv_aload_n hx hb dX7_number_0 rfl (lv_at hl 0 rfl) ?_
  refine z_get hx hb ht hown hK hP ziX7 rfl 1 (by decide) 4 (by decide) hw_1_42 rfl (v := .int (I 1 4)) rfl dX7_number_1 ?_
  refine lv_iconst (v := nI 2) hx hb dX7_number_4 (by decide +kernel) ?_
  refine lv_icmp_eq (tgt := 15) hx hb dX7_number_5 (by decide) (fun c_1 => ?_) (fun c_1 => ?_)
  · have t_c_1 := z_eqT c_1
    have f_2 : zR 2 2 (I 1 4) := zR_eqx t_c_1 zk_2
    refine lv_aload_n hx hb dX7_number_15 rfl (lv_at hl 0 rfl) ?_
    refine z_callVi (k := 1) (As := []) (rest := []) hx hb hml hown ht (xk_X7_told l D q cA F _ _ _ hI ) hw_3_8 hmX7_told ⟨rfl, rfl⟩ (na := 0) rfl (by decide +kernel) (by decide) (by decide) rfl rfl hK hP hD hS hA hl.1 rfl (Nat.le_of_ble_eq_true rfl) ⟨Nat.zero_le _, Nat.zero_le _⟩ dX7_number_16 (fun r_3 I_3 R_3 J_3 H locs hp_3 hP hD hS _ _ => ?_)
    cases hp_3
    refine lv_istore_n (lv' := [(3, .int (r_3)), (0, .ref (q 1)), (1, .int (nI 0)), (2, .int (pa1))]) hx hb dX7_number_19 rfl hl (by decide) rfl (fun ls hl => ?_)
    refine lv_iload_n hx hb dX7_number_20 rfl (lv_at hl 0 rfl) ?_
    refine lv_iload_n hx hb dX7_number_21 rfl (lv_at hl 2 rfl) ?_
    refine lv_icmp_lt (tgt := 30) hx hb dX7_number_22 (by decide) (fun c_4 => ?_) (fun c_4 => ?_)
    · have t_c_4 := z_ltT c_4
      have f_5 : zR (-2147483648) (-1) (r_3) := zR_ltx t_c_4 (zR_any (r_3)) zk_0 (by decide)
      refine lv_aload_n hx hb dX7_number_30 rfl (lv_at hl 1 rfl) ?_
      refine lv_iconst (v := nI 2) hx hb dX7_number_31 (by decide +kernel) ?_
      refine z_callVv (k := 1) (As := [.int (nI 2)]) (rest := []) hx hb hml hown ht (xk_X7_refuse_1 l D q cA F _ _ _ hI (nI 2) (zR_w zk_2 (by decide))) hw_2_239 hmX7_refuse ⟨rfl, rfl⟩ (na := 1) rfl (by decide +kernel) (by decide) (by decide) rfl rfl hK hP hD hS hA hl.1 rfl (Nat.le_of_ble_eq_true rfl) ⟨Nat.zero_le _, Nat.zero_le _⟩ dX7_number_32 (fun I_6 R_6 J_6 H locs hp_6 hP hD hS _ _ => ?_)
      obtain ⟨hv_6, hk_6, hj_6⟩ := hp_6
      dsimp only at hj_6 hk_6
      cases hj_6
      have hf_7 : ∀ k, k ≠ 1 → I_6 k = I k := fun k h => (hk_6 k h).trans ((fun (_ : Nat) _ => rfl) k h)
      refine lv_iconst (v := nI 0) hx hb dX7_number_35 (by decide +kernel) ?_
      exact z_iret (v := nI 0) hx hb hr hlocks hP hD hS dX7_number_36 ⟨(zR_w zk_0 (by decide)), ⟨hv_6, hf_7, rfl⟩⟩
    · have t_c_4 := z_ltF c_4
      have f_8 : zR 0 2147483647 (r_3) := zR_ley t_c_4 zk_0 (zR_any (r_3)) (by decide)
      refine lv_iload_n hx hb dX7_number_25 rfl (lv_at hl 0 rfl) ?_
      refine lv_iload_n hx hb dX7_number_26 rfl (lv_at hl 3 rfl) ?_
      refine lv_icmp_le (tgt := 37) hx hb dX7_number_27 (by decide) (fun c_9 => ?_) (fun c_9 => ?_)
      · have t_c_9 := z_leT c_9
        have f_10 : zR 0 5 (r_3) := zR_lex t_c_9 f_8 hpa1 (by decide)
        have f_11 : zR 0 5 (pa1) := zR_ley t_c_9 f_8 hpa1 (by decide)
        refine lv_aload_n hx hb dX7_number_37 rfl (lv_at hl 1 rfl) ?_
        refine z_callVv (k := 1) (As := []) (rest := []) hx hb hml hown ht (xk_X7_step l D q cA F _ _ _ hI ) hw_2_161 hmX7_step ⟨rfl, rfl⟩ (na := 0) rfl (by decide +kernel) (by decide) (by decide) rfl rfl hK hP hD hS hA hl.1 rfl (Nat.le_of_ble_eq_true rfl) ⟨Nat.zero_le _, Nat.zero_le _⟩ dX7_number_38 (fun I_12 R_12 J_12 H locs hp_12 hP hD hS _ _ => ?_)
        obtain ⟨hv_12, hk_12, hj_12⟩ := hp_12
        dsimp only at hj_12 hk_12
        cases hj_12
        have hf_13 : ∀ k, k ≠ 1 → I_12 k = I k := fun k h => (hk_12 k h).trans ((fun (_ : Nat) _ => rfl) k h)
        refine lv_iload_n hx hb dX7_number_41 rfl (lv_at hl 0 rfl) ?_
        exact z_iret (v := r_3) hx hb hr hlocks hP hD hS dX7_number_42 ⟨f_10, ⟨hv_12, hf_13, rfl⟩⟩
      · have t_c_9 := z_leF c_9
        refine lv_aload_n hx hb dX7_number_30 rfl (lv_at hl 1 rfl) ?_
        refine lv_iconst (v := nI 2) hx hb dX7_number_31 (by decide +kernel) ?_
        refine z_callVv (k := 1) (As := [.int (nI 2)]) (rest := []) hx hb hml hown ht (xk_X7_refuse_1 l D q cA F _ _ _ hI (nI 2) (zR_w zk_2 (by decide))) hw_2_239 hmX7_refuse ⟨rfl, rfl⟩ (na := 1) rfl (by decide +kernel) (by decide) (by decide) rfl rfl hK hP hD hS hA hl.1 rfl (Nat.le_of_ble_eq_true rfl) ⟨Nat.zero_le _, Nat.zero_le _⟩ dX7_number_32 (fun I_14 R_14 J_14 H locs hp_14 hP hD hS _ _ => ?_)
        obtain ⟨hv_14, hk_14, hj_14⟩ := hp_14
        dsimp only at hj_14 hk_14
        cases hj_14
        have hf_15 : ∀ k, k ≠ 1 → I_14 k = I k := fun k h => (hk_14 k h).trans ((fun (_ : Nat) _ => rfl) k h)
        refine lv_iconst (v := nI 0) hx hb dX7_number_35 (by decide +kernel) ?_
        exact z_iret (v := nI 0) hx hb hr hlocks hP hD hS dX7_number_36 ⟨(zR_w zk_0 (by decide)), ⟨hv_14, hf_15, rfl⟩⟩
  · have t_c_1 := z_eqF c_1
    refine lv_aload_n hx hb dX7_number_8 rfl (lv_at hl 0 rfl) ?_
    refine lv_iconst (v := nI 1) hx hb dX7_number_9 (by decide +kernel) ?_
    refine z_callVv (k := 1) (As := [.int (nI 1)]) (rest := []) hx hb hml hown ht (xk_X7_refuse l D q cA F _ _ _ hI (nI 1) (zR_w zk_1 (by decide))) hw_2_239 hmX7_refuse ⟨rfl, rfl⟩ (na := 1) rfl (by decide +kernel) (by decide) (by decide) rfl rfl hK hP hD hS hA hl.1 rfl (Nat.le_of_ble_eq_true rfl) ⟨Nat.zero_le _, Nat.zero_le _⟩ dX7_number_10 (fun I_16 R_16 J_16 H locs hp_16 hP hD hS _ _ => ?_)
    obtain ⟨hv_16, hk_16, hj_16⟩ := hp_16
    dsimp only at hj_16 hk_16
    cases hj_16
    have hf_17 : ∀ k, k ≠ 1 → I_16 k = I k := fun k h => (hk_16 k h).trans ((fun (_ : Nat) _ => rfl) k h)
    refine lv_iconst (v := nI 0) hx hb dX7_number_13 (by decide +kernel) ?_
    exact z_iret (v := nI 0) hx hb hr hlocks hP hD hS dX7_number_14 ⟨(zR_w zk_0 (by decide)), ⟨hv_16, hf_17, rfl⟩⟩
set_option maxHeartbeats 4000000 in
set_option maxRecDepth 100000 in
theorem xk_X7_number_4 (l : Launch) (D : va_G) (q : Nat → Nat) (cA : Nat → ClassId) (F : Nat → Nat → Int32) (I R : Nat → Nat → Int32) (J : Nat → Nat → Int64) (hI : xInv F (I, R, J))  : zMi l D vwCl (zXtys cA) 81 q (zXd q cA) yX7_number cX7_number 4 (some .int) ({ frames := 2, cells := 0, slots := 0, locals := 40 } : Room) [.ref (q 1), .int (nI 1), .int (nI 500)] (I, R, J) (fun r u => zR 0 500 r ∧ (xInv F u ∧ (∀ k, k ≠ 1 → u.1 k = I k) ∧ u.2 = (R, J))) := by
  intro sz
  refine z_body (by decide +kernel) (Nat.le_of_ble_eq_true rfl) (fun p e s m below meth c ls hx hb hml hr ht hown hlocks hsz hK hP hD hS hl => ?_)
  have hA : ∀ a, s.heap.size ≤ a → zA 81 q sz a := fun a h => Or.inr (hsz ▸ h)
  have hl : lv_has ls 4 [(0, .ref (q 1)), (1, .int (nI 1)), (2, .int (nI 500))] := hl
  refine lv_aload_n hx hb dX7_number_0 rfl (lv_at hl 0 rfl) ?_
  refine z_get hx hb ht hown hK hP ziX7 rfl 1 (by decide) 4 (by decide) hw_1_42 rfl (v := .int (I 1 4)) rfl dX7_number_1 ?_
  refine lv_iconst (v := nI 2) hx hb dX7_number_4 (by decide +kernel) ?_
  refine lv_icmp_eq (tgt := 15) hx hb dX7_number_5 (by decide) (fun c_1 => ?_) (fun c_1 => ?_)
  · have t_c_1 := z_eqT c_1
    have f_2 : zR 2 2 (I 1 4) := zR_eqx t_c_1 zk_2
    refine lv_aload_n hx hb dX7_number_15 rfl (lv_at hl 0 rfl) ?_
    refine z_callVi (k := 1) (As := []) (rest := []) hx hb hml hown ht (xk_X7_told l D q cA F _ _ _ hI ) hw_3_8 hmX7_told ⟨rfl, rfl⟩ (na := 0) rfl (by decide +kernel) (by decide) (by decide) rfl rfl hK hP hD hS hA hl.1 rfl (Nat.le_of_ble_eq_true rfl) ⟨Nat.zero_le _, Nat.zero_le _⟩ dX7_number_16 (fun r_3 I_3 R_3 J_3 H locs hp_3 hP hD hS _ _ => ?_)
    cases hp_3
    refine lv_istore_n (lv' := [(3, .int (r_3)), (0, .ref (q 1)), (1, .int (nI 1)), (2, .int (nI 500))]) hx hb dX7_number_19 rfl hl (by decide) rfl (fun ls hl => ?_)
    refine lv_iload_n hx hb dX7_number_20 rfl (lv_at hl 0 rfl) ?_
    refine lv_iload_n hx hb dX7_number_21 rfl (lv_at hl 2 rfl) ?_
    refine lv_icmp_lt (tgt := 30) hx hb dX7_number_22 (by decide) (fun c_4 => ?_) (fun c_4 => ?_)
    · have t_c_4 := z_ltT c_4
      have f_5 : zR (-2147483648) 0 (r_3) := zR_ltx t_c_4 (zR_any (r_3)) zk_1 (by decide)
      refine lv_aload_n hx hb dX7_number_30 rfl (lv_at hl 1 rfl) ?_
      refine lv_iconst (v := nI 2) hx hb dX7_number_31 (by decide +kernel) ?_
      refine z_callVv (k := 1) (As := [.int (nI 2)]) (rest := []) hx hb hml hown ht (xk_X7_refuse_1 l D q cA F _ _ _ hI (nI 2) (zR_w zk_2 (by decide))) hw_2_239 hmX7_refuse ⟨rfl, rfl⟩ (na := 1) rfl (by decide +kernel) (by decide) (by decide) rfl rfl hK hP hD hS hA hl.1 rfl (Nat.le_of_ble_eq_true rfl) ⟨Nat.zero_le _, Nat.zero_le _⟩ dX7_number_32 (fun I_6 R_6 J_6 H locs hp_6 hP hD hS _ _ => ?_)
      obtain ⟨hv_6, hk_6, hj_6⟩ := hp_6
      dsimp only at hj_6 hk_6
      cases hj_6
      have hf_7 : ∀ k, k ≠ 1 → I_6 k = I k := fun k h => (hk_6 k h).trans ((fun (_ : Nat) _ => rfl) k h)
      refine lv_iconst (v := nI 0) hx hb dX7_number_35 (by decide +kernel) ?_
      exact z_iret (v := nI 0) hx hb hr hlocks hP hD hS dX7_number_36 ⟨(zR_w zk_0 (by decide)), ⟨hv_6, hf_7, rfl⟩⟩
    · have t_c_4 := z_ltF c_4
      have f_8 : zR 1 2147483647 (r_3) := zR_ley t_c_4 zk_1 (zR_any (r_3)) (by decide)
      refine lv_iload_n hx hb dX7_number_25 rfl (lv_at hl 0 rfl) ?_
      refine lv_iload_n hx hb dX7_number_26 rfl (lv_at hl 3 rfl) ?_
      refine lv_icmp_le (tgt := 37) hx hb dX7_number_27 (by decide) (fun c_9 => ?_) (fun c_9 => ?_)
      · have t_c_9 := z_leT c_9
        have f_10 : zR 1 500 (r_3) := zR_lex t_c_9 f_8 zk_500 (by decide)
        refine lv_aload_n hx hb dX7_number_37 rfl (lv_at hl 1 rfl) ?_
        refine z_callVv (k := 1) (As := []) (rest := []) hx hb hml hown ht (xk_X7_step l D q cA F _ _ _ hI ) hw_2_161 hmX7_step ⟨rfl, rfl⟩ (na := 0) rfl (by decide +kernel) (by decide) (by decide) rfl rfl hK hP hD hS hA hl.1 rfl (Nat.le_of_ble_eq_true rfl) ⟨Nat.zero_le _, Nat.zero_le _⟩ dX7_number_38 (fun I_11 R_11 J_11 H locs hp_11 hP hD hS _ _ => ?_)
        obtain ⟨hv_11, hk_11, hj_11⟩ := hp_11
        dsimp only at hj_11 hk_11
        cases hj_11
        have hf_12 : ∀ k, k ≠ 1 → I_11 k = I k := fun k h => (hk_11 k h).trans ((fun (_ : Nat) _ => rfl) k h)
        refine lv_iload_n hx hb dX7_number_41 rfl (lv_at hl 0 rfl) ?_
        exact z_iret (v := r_3) hx hb hr hlocks hP hD hS dX7_number_42 ⟨(zR_w f_10 (by decide)), ⟨hv_11, hf_12, rfl⟩⟩
      · have t_c_9 := z_leF c_9
        have f_13 : zR 501 2147483647 (r_3) := zR_lty t_c_9 zk_500 f_8 (by decide)
        refine lv_aload_n hx hb dX7_number_30 rfl (lv_at hl 1 rfl) ?_
        refine lv_iconst (v := nI 2) hx hb dX7_number_31 (by decide +kernel) ?_
        refine z_callVv (k := 1) (As := [.int (nI 2)]) (rest := []) hx hb hml hown ht (xk_X7_refuse_1 l D q cA F _ _ _ hI (nI 2) (zR_w zk_2 (by decide))) hw_2_239 hmX7_refuse ⟨rfl, rfl⟩ (na := 1) rfl (by decide +kernel) (by decide) (by decide) rfl rfl hK hP hD hS hA hl.1 rfl (Nat.le_of_ble_eq_true rfl) ⟨Nat.zero_le _, Nat.zero_le _⟩ dX7_number_32 (fun I_14 R_14 J_14 H locs hp_14 hP hD hS _ _ => ?_)
        obtain ⟨hv_14, hk_14, hj_14⟩ := hp_14
        dsimp only at hj_14 hk_14
        cases hj_14
        have hf_15 : ∀ k, k ≠ 1 → I_14 k = I k := fun k h => (hk_14 k h).trans ((fun (_ : Nat) _ => rfl) k h)
        refine lv_iconst (v := nI 0) hx hb dX7_number_35 (by decide +kernel) ?_
        exact z_iret (v := nI 0) hx hb hr hlocks hP hD hS dX7_number_36 ⟨(zR_w zk_0 (by decide)), ⟨hv_14, hf_15, rfl⟩⟩
  · have t_c_1 := z_eqF c_1
    refine lv_aload_n hx hb dX7_number_8 rfl (lv_at hl 0 rfl) ?_
    refine lv_iconst (v := nI 1) hx hb dX7_number_9 (by decide +kernel) ?_
    refine z_callVv (k := 1) (As := [.int (nI 1)]) (rest := []) hx hb hml hown ht (xk_X7_refuse l D q cA F _ _ _ hI (nI 1) (zR_w zk_1 (by decide))) hw_2_239 hmX7_refuse ⟨rfl, rfl⟩ (na := 1) rfl (by decide +kernel) (by decide) (by decide) rfl rfl hK hP hD hS hA hl.1 rfl (Nat.le_of_ble_eq_true rfl) ⟨Nat.zero_le _, Nat.zero_le _⟩ dX7_number_10 (fun I_16 R_16 J_16 H locs hp_16 hP hD hS _ _ => ?_)
    obtain ⟨hv_16, hk_16, hj_16⟩ := hp_16
    dsimp only at hj_16 hk_16
    cases hj_16
    have hf_17 : ∀ k, k ≠ 1 → I_16 k = I k := fun k h => (hk_16 k h).trans ((fun (_ : Nat) _ => rfl) k h)
    refine lv_iconst (v := nI 0) hx hb dX7_number_13 (by decide +kernel) ?_
    exact z_iret (v := nI 0) hx hb hr hlocks hP hD hS dX7_number_14 ⟨(zR_w zk_0 (by decide)), ⟨hv_16, hf_17, rfl⟩⟩
set_option maxHeartbeats 4000000 in
set_option maxRecDepth 100000 in
theorem xk_X2_setMore (l : Launch) (D : va_G) (q : Nat → Nat) (cA : Nat → ClassId) (F : Nat → Nat → Int32) (I R : Nat → Nat → Int32) (J : Nat → Nat → Int64) (hI : xInv F (I, R, J)) (pa0 : Int32) (hpa0 : zR 0 4 pa0) (pa1 : Int32) (hpa1 : zR 0 5 pa1) (pa2 : Int32) (hpa2 : zR 0 999 pa2) : zMv l D vwCl (zXtys cA) 81 q (zXd q cA) yX2_setMore cX2_setMore 4 none ({ frames := 0, cells := 0, slots := 0, locals := 0 } : Room) [.ref (q 8), .int (pa0), .int (pa1), .int (pa2)] (I, R, J) (fun u => xInv F u) := by
  intro sz
  refine z_body (by decide +kernel) (Nat.le_of_ble_eq_true rfl) (fun p e s m below meth c ls hx hb hml hr ht hown hlocks hsz hK hP hD hS hl => ?_)
  have hA : ∀ a, s.heap.size ≤ a → zA 81 q sz a := fun a h => Or.inr (hsz ▸ h)
  have hl : lv_has ls 4 [(0, .ref (q 8)), (1, .int (pa0)), (2, .int (pa1)), (3, .int (pa2))] := hl
  refine lv_aload_n hx hb dX2_setMore_0 rfl (lv_at hl 0 rfl) ?_
  refine z_get hx hb ht hown hK hP ziX2 rfl 8 (by decide) 10 (by decide) hw_1_109 rfl (v := .ref (q 12)) rfl dX2_setMore_1 ?_
  refine lv_iload_n hx hb dX2_setMore_4 rfl (lv_at hl 1 rfl) ?_
  refine lv_bipush (v := nI 6) hx hb dX2_setMore_5 (by decide +kernel) ?_
  refine lv_imul hx hb dX2_setMore_7 ?_
  refine z_rng (a := 0) (b := 24) (zR_mul hpa0 zk_6 (by decide)) (fun v_1 hv_1 => ?_)
  refine lv_iload_n hx hb dX2_setMore_8 rfl (lv_at hl 2 rfl) ?_
  refine lv_iadd hx hb dX2_setMore_9 ?_
  refine z_rng (a := 0) (b := 29) (zR_add hv_1 hpa1 (by decide)) (fun v_2 hv_2 => ?_)
  refine lv_iload_n hx hb dX2_setMore_10 rfl (lv_at hl 3 rfl) ?_
  refine z_iast hx hb hK hP hD hS 12 (by decide) 8 (fun _ => rfl) rfl (zR_vin hv_2 (by decide)) dX2_setMore_11 (fun H locs hP hD hS => ?_)
  have hI_3 := xInv_R hI 12 (v_2).toNatClampNeg (pa2) (zR_any _) rfl
  exact z_vret hx hb hr hlocks hP hD hS dX2_setMore_12 hI_3
set_option maxHeartbeats 4000000 in
set_option maxRecDepth 100000 in
theorem xk_X7_readWant (l : Launch) (D : va_G) (q : Nat → Nat) (cA : Nat → ClassId) (F : Nat → Nat → Int32) (I R : Nat → Nat → Int32) (J : Nat → Nat → Int64) (hI : xInv F (I, R, J))  : zMv l D vwCl (zXtys cA) 81 q (zXd q cA) yX7_readWant cX7_readWant 5 none ({ frames := 3, cells := 0, slots := 0, locals := 63 } : Room) [.ref (q 1), .ref (q 8)] (I, R, J) (fun u => xInv F u) := by
  intro sz
  refine z_body (by decide +kernel) (Nat.le_of_ble_eq_true rfl) (fun p e s m below meth c ls hx hb hml hr ht hown hlocks hsz hK hP hD hS hl => ?_)
  have hA : ∀ a, s.heap.size ≤ a → zA 81 q sz a := fun a h => Or.inr (hsz ▸ h)
  have hl : lv_has ls 5 [(0, .ref (q 1)), (1, .ref (q 8))] := hl
  refine lv_aload_n hx hb dX7_readWant_0 rfl (lv_at hl 0 rfl) ?_
  refine z_callVv (k := 1) (As := []) (rest := []) hx hb hml hown ht (xk_X7_step l D q cA F _ _ _ hI ) hw_2_161 hmX7_step ⟨rfl, rfl⟩ (na := 0) rfl (by decide +kernel) (by decide) (by decide) rfl rfl hK hP hD hS hA hl.1 rfl (Nat.le_of_ble_eq_true rfl) ⟨Nat.zero_le _, Nat.zero_le _⟩ dX7_readWant_1 (fun I_1 R_1 J_1 H locs hp_1 hP hD hS _ _ => ?_)
  obtain ⟨hv_1, hk_1, hj_1⟩ := hp_1
  dsimp only at hj_1 hk_1
  cases hj_1
  refine lv_aload_n hx hb dX7_readWant_4 rfl (lv_at hl 0 rfl) ?_
  refine lv_iconst (v := nI 0) hx hb dX7_readWant_5 (by decide +kernel) ?_
  refine lv_aload_n hx hb dX7_readWant_6 rfl (lv_at hl 1 rfl) ?_
  refine z_get hx hb ht hown hK hP ziX2 rfl 8 (by decide) 4 (by decide) hw_1_84 rfl (v := .int (I_1 8 4)) rfl dX7_readWant_7 ?_
  refine z_eqi (y := I 8 4) (congrFun (hk_1 8 (by decide)) 4) ?_
  have f_2 : zR 0 5 (I 8 4) := xI hI 8 4
  refine lv_iconst (v := nI 1) hx hb dX7_readWant_10 (by decide +kernel) ?_
  refine lv_isub hx hb dX7_readWant_11 ?_
  refine z_subc (-1) 4 (-1) f_2 zk_1 (by decide) (fun v_3 hv_3 mv_3 => ?_)
  refine z_callVi (k := 1) (As := [.int (nI 0), .int (v_3)]) (rest := []) hx hb hml hown ht (xk_X7_number_1 l D q cA F _ _ _ hv_1 (v_3) hv_3) hw_3_4 hmX7_number ⟨rfl, rfl⟩ (na := 2) rfl (by decide +kernel) (by decide) (by decide) rfl rfl hK hP hD hS hA hl.1 rfl (Nat.le_of_ble_eq_true rfl) ⟨Nat.zero_le _, Nat.zero_le _⟩ dX7_readWant_12 (fun r_4 I_4 R_4 J_4 H locs hp_4 hP hD hS _ _ => ?_)
  obtain ⟨hr_4, hu_4⟩ := hp_4
  obtain ⟨hv_4, hk_4, hj_4⟩ := hu_4
  dsimp only at hj_4 hk_4
  cases hj_4
  refine lv_istore_n (lv' := [(2, .int (r_4)), (0, .ref (q 1)), (1, .ref (q 8))]) hx hb dX7_readWant_15 rfl hl (by decide) rfl (fun ls hl => ?_)
  refine lv_aload_n hx hb dX7_readWant_16 rfl (lv_at hl 1 rfl) ?_
  refine lv_iconst (v := nI 0) hx hb dX7_readWant_17 (by decide +kernel) ?_
  refine lv_aload_n hx hb dX7_readWant_18 rfl (lv_at hl 2 rfl) ?_
  refine z_get hx hb ht hown hK hP ziX2 rfl 8 (by decide) 5 (by decide) hw_1_91 rfl (v := .int (I_4 8 5)) rfl dX7_readWant_19 ?_
  refine z_eqi (y := I 8 5) ((congrFun (hk_4 8 (by decide)) 5).trans (congrFun (hk_1 8 (by decide)) 5)) ?_
  have f_5 : zR 0 6 (I 8 5) := xI hI 8 5
  refine lv_iconst (v := nI 1) hx hb dX7_readWant_22 (by decide +kernel) ?_
  refine lv_isub hx hb dX7_readWant_23 ?_
  refine z_subc (-1) 5 (-1) f_5 zk_1 (by decide) (fun v_6 hv_6 mv_6 => ?_)
  refine z_callVi (k := 1) (As := [.int (nI 0), .int (v_6)]) (rest := []) hx hb hml hown ht (xk_X7_number_3 l D q cA F _ _ _ hv_4 (v_6) hv_6) hw_3_4 hmX7_number ⟨rfl, rfl⟩ (na := 2) rfl (by decide +kernel) (by decide) (by decide) rfl rfl hK hP hD hS hA hl.1 rfl (Nat.le_of_ble_eq_true rfl) ⟨Nat.zero_le _, Nat.zero_le _⟩ dX7_readWant_24 (fun r_7 I_7 R_7 J_7 H locs hp_7 hP hD hS _ _ => ?_)
  obtain ⟨hr_7, hu_7⟩ := hp_7
  obtain ⟨hv_7, hk_7, hj_7⟩ := hu_7
  dsimp only at hj_7 hk_7
  cases hj_7
  refine lv_istore_n (lv' := [(3, .int (r_7)), (2, .int (r_4)), (0, .ref (q 1)), (1, .ref (q 8))]) hx hb dX7_readWant_27 rfl hl (by decide) rfl (fun ls hl => ?_)
  refine lv_aload_n hx hb dX7_readWant_28 rfl (lv_at hl 2 rfl) ?_
  refine lv_iconst (v := nI 1) hx hb dX7_readWant_29 (by decide +kernel) ?_
  refine lv_sipush (v := nI 500) hx hb dX7_readWant_30 (by decide +kernel) ?_
  refine z_callVi (k := 1) (As := [.int (nI 1), .int (nI 500)]) (rest := []) hx hb hml hown ht (xk_X7_number_4 l D q cA F _ _ _ hv_7 ) hw_3_4 hmX7_number ⟨rfl, rfl⟩ (na := 2) rfl (by decide +kernel) (by decide) (by decide) rfl rfl hK hP hD hS hA hl.1 rfl (Nat.le_of_ble_eq_true rfl) ⟨Nat.zero_le _, Nat.zero_le _⟩ dX7_readWant_33 (fun r_8 I_8 R_8 J_8 H locs hp_8 hP hD hS _ _ => ?_)
  obtain ⟨hr_8, hu_8⟩ := hp_8
  obtain ⟨hv_8, hk_8, hj_8⟩ := hu_8
  dsimp only at hj_8 hk_8
  cases hj_8
  refine lv_istore (lv' := [(4, .int (r_8)), (3, .int (r_7)), (2, .int (r_4)), (0, .ref (q 1)), (1, .ref (q 8))]) hx hb dX7_readWant_36 hl (by decide) rfl (fun ls hl => ?_)
  refine lv_aload_n hx hb dX7_readWant_38 rfl (lv_at hl 3 rfl) ?_
  refine z_get hx hb ht hown hK hP ziX7 rfl 1 (by decide) 2 (by decide) hw_1_38 rfl (v := .int (I_8 1 2)) rfl dX7_readWant_39 ?_
  refine lv_if_ne (tgt := 53) hx hb dX7_readWant_42 (by decide) (fun c_9 => ?_) (fun c_9 => ?_)
  · have t_c_9 := z_eqF c_9
    exact z_vret hx hb hr hlocks hP hD hS dX7_readWant_53 hv_8
  · have t_c_9 := z_eqT c_9
    have f_10 : zR 0 0 (I_8 1 2) := zR_eqx t_c_9 zk_z
    refine lv_aload_n hx hb dX7_readWant_45 rfl (lv_at hl 4 rfl) ?_
    refine lv_iload_n hx hb dX7_readWant_46 rfl (lv_at hl 2 rfl) ?_
    refine lv_iload_n hx hb dX7_readWant_47 rfl (lv_at hl 1 rfl) ?_
    refine lv_iload hx hb dX7_readWant_48 (lv_at hl 0 rfl) ?_
    refine z_callVv (k := 8) (As := [.int (r_4), .int (r_7), .int (r_8)]) (rest := []) hx hb hml hown ht (xk_X2_setMore l D q cA F _ _ _ hv_8 (r_4) hr_4 (r_7) hr_7 (r_8) (zR_w hr_8 (by decide))) hw_3_34 hmX2_setMore ⟨rfl, rfl⟩ (na := 3) rfl (by decide +kernel) (by decide) (by decide) rfl rfl hK hP hD hS hA hl.1 rfl (Nat.le_of_ble_eq_true rfl) ⟨Nat.zero_le _, Nat.zero_le _⟩ dX7_readWant_50 (fun I_11 R_11 J_11 H locs hp_11 hP hD hS _ _ => ?_)
    exact z_vret hx hb hr hlocks hP hD hS dX7_readWant_53 hp_11
set_option maxHeartbeats 4000000 in
set_option maxRecDepth 100000 in
theorem xk_J0_coder_7d493_7 (l : Launch) (D : va_G) (q : Nat → Nat) (cA : Nat → ClassId) (ad av : Nat → Nat) (t9 : Nat) (F : Nat → Nat → Int32) (I R : Nat → Nat → Int32) (J : Nat → Nat → Int64) (hI : xInv F (I, R, J))  : zNi (zSS zXRs 81 q ad av t9) l D vwCl (zXtys cA) 81 q (zXd q cA) yJ0_coder_7d493 cJ0_coder_7d493 1 (some .byte) ({ frames := 0, cells := 0, slots := 0, locals := 0 } : Room) [.ref (ad 0)] (I, R, J) (fun r u => r = nI 0 ∧ u = (I, R, J)) := by
  intro sz
  refine z_bodyN (by decide +kernel) (Nat.le_of_ble_eq_true rfl) (fun p e s m below meth c ls hx hb hml hr ht hown hlocks hsz hK hP hD hS hN hl => ?_)
  have hA : ∀ a, s.heap.size ≤ a → zA 81 q sz a := fun a h => Or.inr (hsz ▸ h)
  have hl : lv_has ls 1 [(0, .ref (ad 0))] := hl
  have hZ : zSz zXRs 81 q ad av t9 sz s := hsz ▸ hN
  refine va_gets hx hb hZ.2.1 hS hown (ht _ hw_2_195) (fun _ h => h) dJ0_coder_7d493_0 ?_
  refine z_eqi (y := nI 1) rfl ?_
  refine lv_if_eq (tgt := 13) hx hb dJ0_coder_7d493_3 (by decide) (fun c_0 => absurd c_0 (zD_ne zk_1 zk_z (by decide))) (fun _ => ?_)
  refine lv_aload_n hx hb dJ0_coder_7d493_6 rfl (lv_at hl 0 rfl) ?_
  refine vk_getf hx hb (hZ.1.1 0 (by decide)).2.1 hS hown (ht _ hw_8_165) (fun _ h => h) dJ0_coder_7d493_7 ?_
  refine z_eqi (y := nI 0) rfl ?_
  refine lv_goto (tgt := 14) hx hb dJ0_coder_7d493_10 (by decide) ?_
  exact z_zret (v := nI 0) hx hb hr hlocks hP hD hS (by decide +kernel) dJ0_coder_7d493_14 ⟨rfl, rfl⟩
set_option maxHeartbeats 4000000 in
set_option maxRecDepth 100000 in
theorem xk_J0_length_8abf5_7 (l : Launch) (D : va_G) (q : Nat → Nat) (cA : Nat → ClassId) (ad av : Nat → Nat) (t9 : Nat) (F : Nat → Nat → Int32) (I R : Nat → Nat → Int32) (J : Nat → Nat → Int64) (hI : xInv F (I, R, J))  : zNi (zSS zXRs 81 q ad av t9) l D vwCl (zXtys cA) 81 q (zXd q cA) yJ0_length_8abf5 cJ0_length_8abf5 1 (some .int) ({ frames := 1, cells := 0, slots := 0, locals := 20 } : Room) [.ref (ad 0)] (I, R, J) (fun r u => r = nI 4 ∧ u = (I, R, J)) := by
  intro sz
  refine z_bodyN (by decide +kernel) (Nat.le_of_ble_eq_true rfl) (fun p e s m below meth c ls hx hb hml hr ht hown hlocks hsz hK hP hD hS hN hl => ?_)
  have hA : ∀ a, s.heap.size ≤ a → zA 81 q sz a := fun a h => Or.inr (hsz ▸ h)
  have hl : lv_has ls 1 [(0, .ref (ad 0))] := hl
  have hZ : zSz zXRs 81 q ad av t9 sz s := hsz ▸ hN
  refine lv_aload_n hx hb dJ0_length_8abf5_0 rfl (lv_at hl 0 rfl) ?_
  refine vk_getf hx hb (hZ.1.1 0 (by decide)).2.2.1 hS hown (ht _ hw_8_164) (fun _ h => h) dJ0_length_8abf5_1 ?_
  refine va_tlen hx hb (hZ.1.1 0 (by decide)).2.2.2 hS (v := nI 4) rfl dJ0_length_8abf5_4 ?_
  refine lv_aload_n hx hb dJ0_length_8abf5_5 rfl (lv_at hl 0 rfl) ?_
  refine z_cNXi (As := []) (rest := [.int (nI 4)]) hx hb hml hown ht (xk_J0_coder_7d493_7 l D q cA ad av t9 F _ _ _ hI ) hw_2_191 hmJ0_coder_7d493 ⟨rfl, rfl⟩ (na := 0) rfl (by decide +kernel) (by decide) (vk_recv hZ.1 (by decide) hS) hK hP hD hS hA (zSS_c (Rs := zXRs) (t9 := t9) (fun _ _ _ => zXRs_c)) (zSS_w (Rs := zXRs) (t9 := t9) (fun _ _ _ => zXRs_w) hN hsz hS) hl.1 rfl (Nat.le_of_ble_eq_true rfl) ⟨Nat.zero_le _, Nat.zero_le _⟩ dJ0_length_8abf5_6 (fun r_1 I_1 R_1 J_1 H locs hp_1 hP hD hS _ _ => ?_)
  obtain ⟨rfl, hu_1⟩ := hp_1
  cases hu_1
  refine lv_ishr hx hb dJ0_length_8abf5_9 ?_
  refine z_eqi (y := nI 4) (by decide +kernel) ?_
  exact z_iret (v := nI 4) hx hb hr hlocks hP hD hS dJ0_length_8abf5_10 ⟨rfl, rfl⟩
set_option maxHeartbeats 4000000 in
set_option maxRecDepth 100000 in
theorem xk_J0_isLatin1_aae02_7 (l : Launch) (D : va_G) (q : Nat → Nat) (cA : Nat → ClassId) (ad av : Nat → Nat) (t9 : Nat) (F : Nat → Nat → Int32) (I R : Nat → Nat → Int32) (J : Nat → Nat → Int64) (hI : xInv F (I, R, J))  : zNi (zSS zXRs 81 q ad av t9) l D vwCl (zXtys cA) 81 q (zXd q cA) yJ0_isLatin1_aae02 cJ0_isLatin1_aae02 1 (some .boolean) ({ frames := 0, cells := 0, slots := 0, locals := 0 } : Room) [.ref (ad 0)] (I, R, J) (fun r u => (r = nI 1 ∧ u = (I, R, J))) := by
  intro sz
  refine z_bodyN (by decide +kernel) (Nat.le_of_ble_eq_true rfl) (fun p e s m below meth c ls hx hb hml hr ht hown hlocks hsz hK hP hD hS hN hl => ?_)
  have hA : ∀ a, s.heap.size ≤ a → zA 81 q sz a := fun a h => Or.inr (hsz ▸ h)
  have hl : lv_has ls 1 [(0, .ref (ad 0))] := hl
  have hZ : zSz zXRs 81 q ad av t9 sz s := hsz ▸ hN
  refine va_gets hx hb hZ.2.1 hS hown (ht _ hw_2_195) (fun _ h => h) dJ0_isLatin1_aae02_0 ?_
  refine z_eqi (y := nI 1) rfl ?_
  refine lv_if_eq (tgt := 17) hx hb dJ0_isLatin1_aae02_3 (by decide) (fun c_0 => absurd c_0 (zD_ne zk_1 zk_z (by decide))) (fun _ => ?_)
  refine lv_aload_n hx hb dJ0_isLatin1_aae02_6 rfl (lv_at hl 0 rfl) ?_
  refine vk_getf hx hb (hZ.1.1 0 (by decide)).2.1 hS hown (ht _ hw_8_165) (fun _ h => h) dJ0_isLatin1_aae02_7 ?_
  refine z_eqi (y := nI 0) rfl ?_
  refine lv_if_ne (tgt := 17) hx hb dJ0_isLatin1_aae02_10 (by decide) (fun c_0 => absurd (zD_eq zk_0 zk_z) c_0) (fun _ => ?_)
  refine lv_iconst (v := nI 1) hx hb dJ0_isLatin1_aae02_13 (by decide +kernel) ?_
  refine lv_goto (tgt := 18) hx hb dJ0_isLatin1_aae02_14 (by decide) ?_
  exact z_zret (v := nI 1) hx hb hr hlocks hP hD hS (by decide +kernel) dJ0_isLatin1_aae02_18 ⟨rfl, rfl⟩
set_option maxHeartbeats 4000000 in
set_option maxRecDepth 100000 in
theorem xk_J1_charAt_3b067_14 (l : Launch) (D : va_G) (q : Nat → Nat) (cA : Nat → ClassId) (ad av : Nat → Nat) (t9 : Nat) (F : Nat → Nat → Int32) (I R : Nat → Nat → Int32) (J : Nat → Nat → Int64) (hI : xInv F (I, R, J)) (pa1 : Int32) (hpa1 : zR 0 3 pa1) : zNi (zSS zXRs 81 q ad av t9) l D vwCl (zXtys cA) 81 q (zXd q cA) yJ1_charAt_3b067 cJ1_charAt_3b067 2 (some .char) ({ frames := 2, cells := 0, slots := 0, locals := 43 } : Room) [.ref (av 0), .int (pa1)] (I, R, J) (fun r u => zR 0 65535 r ∧ u = (I, R, J)) := by
  intro sz
  refine z_bodyN (by decide +kernel) (Nat.le_of_ble_eq_true rfl) (fun p e s m below meth c ls hx hb hml hr ht hown hlocks hsz hK hP hD hS hN hl => ?_)
  have hA : ∀ a, s.heap.size ≤ a → zA 81 q sz a := fun a h => Or.inr (hsz ▸ h)
  have hl : lv_has ls 2 [(0, .ref (av 0)), (1, .int (pa1))] := hl
  have hZ : zSz zXRs 81 q ad av t9 sz s := hsz ▸ hN
  refine lv_iload_n hx hb dJ1_charAt_3b067_0 rfl (lv_at hl 1 rfl) ?_
  refine lv_aload_n hx hb dJ1_charAt_3b067_1 rfl (lv_at hl 0 rfl) ?_
  refine va_tlen hx hb (hZ.1.1 0 (by decide)).2.2.2 hS (v := nI 4) rfl dJ1_charAt_3b067_2 ?_
  refine z_cNSv (As := [.int (pa1), .int (nI 4)]) (rest := []) hx hb hml hown ht (xk_J0_checkIndex_df160_6 l D q cA ad av t9 F _ _ _ hI (pa1) hpa1) hw_2_208 hmJ0_checkIndex_df160 ⟨rfl, rfl⟩ (na := 2) rfl (by decide +kernel) (by decide) hK hP hD hS hA (zSS_c (Rs := zXRs) (t9 := t9) (fun _ _ _ => zXRs_c)) (zSS_w (Rs := zXRs) (t9 := t9) (fun _ _ _ => zXRs_w) hN hsz hS) hl.1 rfl (Nat.le_of_ble_eq_true rfl) ⟨Nat.zero_le _, Nat.zero_le _⟩ dJ1_charAt_3b067_3 (fun I_1 R_1 J_1 H locs hp_1 hP hD hS _ _ => ?_)
  cases hp_1
  refine lv_aload_n hx hb dJ1_charAt_3b067_6 rfl (lv_at hl 0 rfl) ?_
  refine lv_iload_n hx hb dJ1_charAt_3b067_7 rfl (lv_at hl 1 rfl) ?_
  refine va_tb hx hb (hZ.1.1 0 (by decide)).2.2.2 hS (zR_vin hpa1 (by decide)) rfl dJ1_charAt_3b067_8 ?_
  refine z_any (fun v_2 => ?_)
  refine lv_sipush (v := nI 255) hx hb dJ1_charAt_3b067_9 (by decide +kernel) ?_
  refine lv_iand hx hb dJ1_charAt_3b067_12 ?_
  refine z_rng (a := 0) (b := 255) (zR_andr zk_255 (by decide)) (fun v_3 hv_3 => ?_)
  refine lv_i2c hx hb dJ1_charAt_3b067_13 rfl ?_
  refine z_rng (a := 0) (b := 65535) (zR_i2c _) (fun v_4 hv_4 => ?_)
  exact z_zret (v := v_4) hx hb hr hlocks hP hD hS (zR_char hv_4) dJ1_charAt_3b067_14 ⟨hv_4, rfl⟩
set_option maxHeartbeats 4000000 in
set_option maxRecDepth 100000 in
theorem xk_J0_charAt_5068e_14 (l : Launch) (D : va_G) (q : Nat → Nat) (cA : Nat → ClassId) (ad av : Nat → Nat) (t9 : Nat) (F : Nat → Nat → Int32) (I R : Nat → Nat → Int32) (J : Nat → Nat → Int64) (hI : xInv F (I, R, J)) (pa0 : Int32) (hpa0 : zR 0 3 pa0) : zNi (zSS zXRs 81 q ad av t9) l D vwCl (zXtys cA) 81 q (zXd q cA) yJ0_charAt_5068e cJ0_charAt_5068e 2 (some .char) ({ frames := 3, cells := 0, slots := 0, locals := 64 } : Room) [.ref (ad 0), .int (pa0)] (I, R, J) (fun r u => zR 0 65535 r ∧ u = (I, R, J)) := by
  intro sz
  refine z_bodyN (by decide +kernel) (Nat.le_of_ble_eq_true rfl) (fun p e s m below meth c ls hx hb hml hr ht hown hlocks hsz hK hP hD hS hN hl => ?_)
  have hA : ∀ a, s.heap.size ≤ a → zA 81 q sz a := fun a h => Or.inr (hsz ▸ h)
  have hl : lv_has ls 2 [(0, .ref (ad 0)), (1, .int (pa0))] := hl
  have hZ : zSz zXRs 81 q ad av t9 sz s := hsz ▸ hN
  refine lv_aload_n hx hb dJ0_charAt_5068e_0 rfl (lv_at hl 0 rfl) ?_
  refine z_cNXi (As := []) (rest := []) hx hb hml hown ht (xk_J0_isLatin1_aae02_7 l D q cA ad av t9 F _ _ _ hI ) hw_2_201 hmJ0_isLatin1_aae02 ⟨rfl, rfl⟩ (na := 0) rfl (by decide +kernel) (by decide) (vk_recv hZ.1 (by decide) hS) hK hP hD hS hA (zSS_c (Rs := zXRs) (t9 := t9) (fun _ _ _ => zXRs_c)) (zSS_w (Rs := zXRs) (t9 := t9) (fun _ _ _ => zXRs_w) hN hsz hS) hl.1 rfl (Nat.le_of_ble_eq_true rfl) ⟨Nat.zero_le _, Nat.zero_le _⟩ dJ0_charAt_5068e_1 (fun r_1 I_1 R_1 J_1 H locs hp_1 hP hD hS _ _ => ?_)
  obtain ⟨rfl, hu_1⟩ := hp_1
  cases hu_1
  refine lv_if_eq (tgt := 16) hx hb dJ0_charAt_5068e_4 (by decide) (fun c_0 => absurd c_0 (zD_ne zk_1 zk_z (by decide))) (fun _ => ?_)
  refine lv_aload_n hx hb dJ0_charAt_5068e_7 rfl (lv_at hl 0 rfl) ?_
  refine vk_getf hx hb (hZ.1.1 0 (by decide)).2.2.1 hS hown (ht _ hw_8_164) (fun _ h => h) dJ0_charAt_5068e_8 ?_
  refine lv_iload_n hx hb dJ0_charAt_5068e_11 rfl (lv_at hl 1 rfl) ?_
  refine z_cNSi (As := [.ref (av 0), .int (pa0)]) (rest := []) hx hb hml hown ht (xk_J1_charAt_3b067_14 l D q cA ad av t9 F _ _ _ hI (pa0) hpa0) hw_2_205 hmJ1_charAt_3b067 ⟨rfl, rfl⟩ (na := 2) rfl (by decide +kernel) (by decide) hK hP hD hS hA (zSS_c (Rs := zXRs) (t9 := t9) (fun _ _ _ => zXRs_c)) (zSS_w (Rs := zXRs) (t9 := t9) (fun _ _ _ => zXRs_w) hN hsz hS) hl.1 rfl (Nat.le_of_ble_eq_true rfl) ⟨Nat.zero_le _, Nat.zero_le _⟩ dJ0_charAt_5068e_12 (fun r_2 I_2 R_2 J_2 H locs hp_2 hP hD hS _ _ => ?_)
  obtain ⟨hr_2, hu_2⟩ := hp_2
  cases hu_2
  exact z_zret (v := r_2) hx hb hr hlocks hP hD hS (zR_char hr_2) dJ0_charAt_5068e_15 ⟨hr_2, rfl⟩
set_option maxHeartbeats 4000000 in
set_option maxRecDepth 100000 in
theorem xk_X7_isWord_7 (l : Launch) (D : va_G) (q : Nat → Nat) (cA : Nat → ClassId) (ad av : Nat → Nat) (t9 : Nat) (F : Nat → Nat → Int32) (I R : Nat → Nat → Int32) (J : Nat → Nat → Int64) (hI : xInv F (I, R, J))  : zNi (zSS zXRs 81 q ad av t9) l D vwCl (zXtys cA) 81 q (zXd q cA) yX7_isWord cX7_isWord 3 (some .boolean) ({ frames := 4, cells := 0, slots := 0, locals := 85 } : Room) [.ref (q 1), .ref (ad 0)] (I, R, J) (fun r u => (r = nI 1 ∧ u = (I, R, J)) ∨ (r = nI 0 ∧ u = (I, R, J))) := by
  intro sz
  refine z_bodyN (by decide +kernel) (Nat.le_of_ble_eq_true rfl) (fun p e s m below meth c ls hx hb hml hr ht hown hlocks hsz hK hP hD hS hN hl => ?_)
  have hA : ∀ a, s.heap.size ≤ a → zA 81 q sz a := fun a h => Or.inr (hsz ▸ h)
  have hl : lv_has ls 3 [(0, .ref (q 1)), (1, .ref (ad 0))] := hl
  have hZ : zSz zXRs 81 q ad av t9 sz s := hsz ▸ hN
  refine lv_aload_n hx hb dX7_isWord_0 rfl (lv_at hl 0 rfl) ?_
  refine z_get hx hb ht hown hK hP ziX7 rfl 1 (by decide) 4 (by decide) hw_1_42 rfl (v := .int (I 1 4)) rfl dX7_isWord_1 ?_
  refine lv_iconst (v := nI 1) hx hb dX7_isWord_4 (by decide +kernel) ?_
  refine lv_icmp_ne (tgt := 24) hx hb dX7_isWord_5 (by decide) (fun c_1 => ?_) (fun c_1 => ?_)
  · have t_c_1 := z_eqF c_1
    refine lv_iconst (v := nI 0) hx hb dX7_isWord_24 (by decide +kernel) ?_
    exact z_zret (v := nI 0) hx hb hr hlocks hP hD hS (by decide +kernel) dX7_isWord_25 (Or.inr ⟨rfl, rfl⟩)
  · have t_c_1 := z_eqT c_1
    have f_2 : zR 1 1 (I 1 4) := zR_eqx t_c_1 zk_1
    refine lv_aload_n hx hb dX7_isWord_8 rfl (lv_at hl 0 rfl) ?_
    refine z_get hx hb ht hown hK hP ziX7 rfl 1 (by decide) 6 (by decide) hw_1_44 rfl (v := .int (I 1 6)) rfl dX7_isWord_9 ?_
    have f_3 : zR 0 800 (I 1 6) := xI hI 1 6
    refine lv_aload_n hx hb dX7_isWord_12 rfl (lv_at hl 0 rfl) ?_
    refine z_get hx hb ht hown hK hP ziX7 rfl 1 (by decide) 5 (by decide) hw_1_43 rfl (v := .int (I 1 5)) rfl dX7_isWord_13 ?_
    have f_4 : zR 0 800 (I 1 5) := xI hI 1 5
    refine lv_isub hx hb dX7_isWord_16 ?_
    refine lv_topi (fun v_5 ev_5 => ?_)
    have hv_5 : zR (-800) 800 v_5 := ev_5 ▸ zR_sub f_3 f_4 (by decide)
    refine lv_aload_n hx hb dX7_isWord_17 rfl (lv_at hl 1 rfl) ?_
    refine z_cNXi (As := []) (rest := [.int (v_5)]) hx hb hml hown ht (xk_J0_length_8abf5_7 l D q cA ad av t9 F _ _ _ hI ) hw_2_187 hmJ0_length_8abf5 ⟨rfl, rfl⟩ (na := 0) rfl (by decide +kernel) (by decide) (vk_recv hZ.1 (by decide) hS) hK hP hD hS hA (zSS_c (Rs := zXRs) (t9 := t9) (fun _ _ _ => zXRs_c)) (zSS_w (Rs := zXRs) (t9 := t9) (fun _ _ _ => zXRs_w) hN hsz hS) hl.1 rfl (Nat.le_of_ble_eq_true rfl) ⟨Nat.zero_le _, Nat.zero_le _⟩ dX7_isWord_18 (fun r_6 I_6 R_6 J_6 H locs hp_6 hP hD hS _ _ => ?_)
    obtain ⟨rfl, hu_6⟩ := hp_6
    cases hu_6
    refine lv_icmp_eq (tgt := 26) hx hb dX7_isWord_21 (by decide) (fun c_7 => ?_) (fun c_7 => ?_)
    · have t_c_7 := z_eqT c_7
      have f_8 : zR 4 4 (v_5) := zR_eqx t_c_7 zk_4
      have f_9 : zR 0 796 (I 1 5) := z_start f_3 f_4 ev_5 f_8 (by decide)
      refine lv_iconst (v := nI 0) hx hb dX7_isWord_26 (by decide +kernel) ?_
      refine lv_istore_n (lv' := [(2, .int (nI 0)), (0, .ref (q 1)), (1, .ref (ad 0))]) hx hb dX7_isWord_27 rfl hl (by decide) rfl (fun ls hl => ?_)
      have loop_43 : ∀ N : Nat, ∀ x_42 : Int32, zR 0 4 x_42 → (2147483648 - (x_42).toInt).toNat < N → ∀ (H : Heap) (locs : List Loc), va_P D vwCl (zw 81 q (zXd q cA) I R J) H → va_D (zA 81 q sz) (zw 81 q (zXd q cA) I R J) → va_S (zA 81 q sz) s.heap H locs → ∀ ls : Array Slot, lv_has ls 3 [(0, .ref (q 1)), (1, .ref (ad 0)), (2, .int (x_42))] → W p l e ({ frames := 4, cells := 0, slots := 0, locals := 85 } : Room) s m ([.ref (q 1), .ref (ad 0)] : List Value).toArray below meth c H locs 0 0 (MQ below (va_Qi (fun r u => (r = nI 1 ∧ u = (I, R, J)) ∨ (r = nI 0 ∧ u = (I, R, J))) (zB D vwCl 81 q (zXd q cA) sz) (zA 81 q sz)) ([.ref (q 1), .ref (ad 0)] : List Value).toArray s 0 0 (zA 81 q sz)) (F0 m 28 ls []) := by
        intro N
        induction N with
        | zero => intro x_42 hx_42 hN; exact absurd hN (Nat.not_lt_zero _)
        | succ N ih_45 =>
          intro x_42 hx_42 hN_44 H locs hP hD hS ls hl
          refine lv_iload_n hx hb dX7_isWord_28 rfl (lv_at hl 2 rfl) ?_
          refine lv_aload_n hx hb dX7_isWord_29 rfl (lv_at hl 1 rfl) ?_
          refine z_cNXi (As := []) (rest := [.int (x_42)]) hx hb hml hown ht (xk_J0_length_8abf5_7 l D q cA ad av t9 F _ _ _ hI ) hw_2_187 hmJ0_length_8abf5 ⟨rfl, rfl⟩ (na := 0) rfl (by decide +kernel) (by decide) (vk_recv hZ.1 (by decide) hS) hK hP hD hS hA (zSS_c (Rs := zXRs) (t9 := t9) (fun _ _ _ => zXRs_c)) (zSS_w (Rs := zXRs) (t9 := t9) (fun _ _ _ => zXRs_w) hN hsz hS) hl.1 rfl (Nat.le_of_ble_eq_true rfl) ⟨Nat.zero_le _, Nat.zero_le _⟩ dX7_isWord_30 (fun r_46 I_46 R_46 J_46 H locs hp_46 hP hD hS _ _ => ?_)
          obtain ⟨rfl, hu_46⟩ := hp_46
          cases hu_46
          refine lv_icmp_ge (tgt := 63) hx hb dX7_isWord_33 (by decide) (fun c_47 => ?_) (fun c_47 => ?_)
          · have t_c_47 := z_leT c_47
            have f_48 : zR 4 4 (x_42) := zR_ley t_c_47 zk_4 hx_42 (by decide)
            refine lv_iconst (v := nI 1) hx hb dX7_isWord_63 (by decide +kernel) ?_
            exact z_zret (v := nI 1) hx hb hr hlocks hP hD hS (by decide +kernel) dX7_isWord_64 (Or.inl ⟨rfl, rfl⟩)
          · have t_c_47 := z_leF c_47
            have f_49 : zR 0 3 (x_42) := zR_ltx t_c_47 hx_42 zk_4 (by decide)
            refine lv_aload_n hx hb dX7_isWord_36 rfl (lv_at hl 0 rfl) ?_
            refine z_get hx hb ht hown hK hP ziX7 rfl 1 (by decide) 0 (by decide) hw_1_35 rfl (v := .ref (q 2)) rfl dX7_isWord_37 ?_
            refine lv_aload_n hx hb dX7_isWord_40 rfl (lv_at hl 0 rfl) ?_
            refine z_get hx hb ht hown hK hP ziX7 rfl 1 (by decide) 5 (by decide) hw_1_43 rfl (v := .int (I 1 5)) rfl dX7_isWord_41 ?_
            refine lv_iload_n hx hb dX7_isWord_44 rfl (lv_at hl 2 rfl) ?_
            refine lv_iadd hx hb dX7_isWord_45 ?_
            refine z_rng (a := 0) (b := 799) (zR_add f_9 f_49 (by decide)) (fun v_50 hv_50 => ?_)
            refine z_bald hx hb hK hP 2 (by decide) 0 rfl rfl (zR_vin hv_50 (by decide)) dX7_isWord_46 ?_
            refine z_eqi (y := R 2 (v_50).toNatClampNeg) rfl ?_
            refine lv_aload_n hx hb dX7_isWord_47 rfl (lv_at hl 1 rfl) ?_
            refine lv_iload_n hx hb dX7_isWord_48 rfl (lv_at hl 2 rfl) ?_
            refine z_cNXi (As := [.int (x_42)]) (rest := [.int (R 2 (v_50).toNatClampNeg)]) hx hb hml hown ht (xk_J0_charAt_5068e_14 l D q cA ad av t9 F _ _ _ hI (x_42) f_49) hw_2_197 hmJ0_charAt_5068e ⟨rfl, rfl⟩ (na := 1) rfl (by decide +kernel) (by decide) (vk_recv hZ.1 (by decide) hS) hK hP hD hS hA (zSS_c (Rs := zXRs) (t9 := t9) (fun _ _ _ => zXRs_c)) (zSS_w (Rs := zXRs) (t9 := t9) (fun _ _ _ => zXRs_w) hN hsz hS) hl.1 rfl (Nat.le_of_ble_eq_true rfl) ⟨Nat.zero_le _, Nat.zero_le _⟩ dX7_isWord_49 (fun r_51 I_51 R_51 J_51 H locs hp_51 hP hD hS _ _ => ?_)
            obtain ⟨hr_51, hu_51⟩ := hp_51
            cases hu_51
            refine lv_icmp_eq (tgt := 57) hx hb dX7_isWord_52 (by decide) (fun c_52 => ?_) (fun c_52 => ?_)
            · have t_c_52 := z_eqT c_52
              have f_53 : zR 0 65535 (R 2 (v_50).toNatClampNeg) := zR_eqx t_c_52 hr_51
              obtain ⟨v_54, ev_54⟩ : ∃ y : Int32, y = x_42 + nI 1 := ⟨_, rfl⟩
              have hv_54 : zR 1 4 v_54 := ev_54 ▸ zR_add f_49 zk_1 (by decide)
              have mv_54 : v_54.toInt = (x_42).toInt + 1 := by rw [ev_54, zR_addE f_49 zk_1 (by decide)]; rfl
              refine lv_iinc (v := v_54) (lv' := [(2, .int (v_54)), (0, .ref (q 1)), (1, .ref (ad 0))]) hx hb dX7_isWord_57 hl (k := 2) rfl (ev_54 ▸ rfl) (by decide) rfl (fun ls hl => ?_)
              refine lv_goto (tgt := 28) hx hb dX7_isWord_60 (by decide) ?_
              exact ih_45 (v_54) (zR_w hv_54 (by decide)) (z2_up mv_54 (by decide) hN_44) _ _ hP hD hS _ (lv_sub hl [1, 2, 0] rfl)
            · have t_c_52 := z_eqF c_52
              refine lv_iconst (v := nI 0) hx hb dX7_isWord_55 (by decide +kernel) ?_
              exact z_zret (v := nI 0) hx hb hr hlocks hP hD hS (by decide +kernel) dX7_isWord_56 (Or.inr ⟨rfl, rfl⟩)
      exact loop_43 _ (nI 0) (zR_w zk_0 (by decide)) (Nat.lt_succ_self _) _ _ hP hD hS _ (lv_sub hl [1, 2, 0] rfl)
    · have t_c_7 := z_eqF c_7
      refine lv_iconst (v := nI 0) hx hb dX7_isWord_24 (by decide +kernel) ?_
      exact z_zret (v := nI 0) hx hb hr hlocks hP hD hS (by decide +kernel) dX7_isWord_25 (Or.inr ⟨rfl, rfl⟩)
set_option maxHeartbeats 4000000 in
set_option maxRecDepth 100000 in
theorem xk_J0_coder_7d493_8 (l : Launch) (D : va_G) (q : Nat → Nat) (cA : Nat → ClassId) (ad av : Nat → Nat) (t9 : Nat) (F : Nat → Nat → Int32) (I R : Nat → Nat → Int32) (J : Nat → Nat → Int64) (hI : xInv F (I, R, J))  : zNi (zSS zXRs 81 q ad av t9) l D vwCl (zXtys cA) 81 q (zXd q cA) yJ0_coder_7d493 cJ0_coder_7d493 1 (some .byte) ({ frames := 0, cells := 0, slots := 0, locals := 0 } : Room) [.ref (ad 1)] (I, R, J) (fun r u => r = nI 0 ∧ u = (I, R, J)) := by
  intro sz
  refine z_bodyN (by decide +kernel) (Nat.le_of_ble_eq_true rfl) (fun p e s m below meth c ls hx hb hml hr ht hown hlocks hsz hK hP hD hS hN hl => ?_)
  have hA : ∀ a, s.heap.size ≤ a → zA 81 q sz a := fun a h => Or.inr (hsz ▸ h)
  have hl : lv_has ls 1 [(0, .ref (ad 1))] := hl
  have hZ : zSz zXRs 81 q ad av t9 sz s := hsz ▸ hN
  refine va_gets hx hb hZ.2.1 hS hown (ht _ hw_2_195) (fun _ h => h) dJ0_coder_7d493_0 ?_
  refine z_eqi (y := nI 1) rfl ?_
  refine lv_if_eq (tgt := 13) hx hb dJ0_coder_7d493_3 (by decide) (fun c_0 => absurd c_0 (zD_ne zk_1 zk_z (by decide))) (fun _ => ?_)
  refine lv_aload_n hx hb dJ0_coder_7d493_6 rfl (lv_at hl 0 rfl) ?_
  refine vk_getf hx hb (hZ.1.1 1 (by decide)).2.1 hS hown (ht _ hw_8_165) (fun _ h => h) dJ0_coder_7d493_7 ?_
  refine z_eqi (y := nI 0) rfl ?_
  refine lv_goto (tgt := 14) hx hb dJ0_coder_7d493_10 (by decide) ?_
  exact z_zret (v := nI 0) hx hb hr hlocks hP hD hS (by decide +kernel) dJ0_coder_7d493_14 ⟨rfl, rfl⟩
