set_option maxHeartbeats 4000000 in
set_option maxRecDepth 100000 in
theorem mk_J0_coder_7d493_5 (l : Launch) (D : va_G) (q : Nat → Nat) (cA : Nat → ClassId) (ad av : Nat → Nat) (t9 : Nat) (F : Nat → Nat → Int32) (I R : Nat → Nat → Int32) (J : Nat → Nat → Int64) (hI : mInv F (I, R, J))  : zNi (zSS zMRs 25 q ad av t9) l D vwCl (zMtys cA) 25 q (zMd q cA) yJ0_coder_7d493 cJ0_coder_7d493 1 (some .byte) ({ frames := 0, cells := 0, slots := 0, locals := 0 } : Room) [.ref (ad 9)] (I, R, J) (fun r u => r = nI 0 ∧ u = (I, R, J)) := by
  intro sz
  refine z_bodyN (by decide +kernel) (Nat.le_of_ble_eq_true rfl) (fun p e s m below meth c ls hx hb hml hr ht hown hlocks hsz hK hP hD hS hN hl => ?_)
  have hA : ∀ a, s.heap.size ≤ a → zA 25 q sz a := fun a h => Or.inr (hsz ▸ h)
  have hl : lv_has ls 1 [(0, .ref (ad 9))] := hl
  have hZ : zSz zMRs 25 q ad av t9 sz s := hsz ▸ hN
  refine va_gets hx hb hZ.2.1 hS hown (ht _ hw_2_195) (fun _ h => h) dJ0_coder_7d493_0 ?_
  refine z_eqi (y := nI 1) rfl ?_
  refine lv_if_eq (tgt := 13) hx hb dJ0_coder_7d493_3 (by decide) (fun c_0 => absurd c_0 (zD_ne zk_1 zk_z (by decide))) (fun _ => ?_)
  refine lv_aload_n hx hb dJ0_coder_7d493_6 rfl (lv_at hl 0 rfl) ?_
  refine vk_getf hx hb (hZ.1.1 9 (by decide)).2.1 hS hown (ht _ hw_8_165) (fun _ h => h) dJ0_coder_7d493_7 ?_
  refine z_eqi (y := nI 0) rfl ?_
  refine lv_goto (tgt := 14) hx hb dJ0_coder_7d493_10 (by decide) ?_
  exact z_zret (v := nI 0) hx hb hr hlocks hP hD hS (by decide +kernel) dJ0_coder_7d493_14 ⟨rfl, rfl⟩
set_option maxHeartbeats 4000000 in
set_option maxRecDepth 100000 in
theorem mk_J0_length_8abf5_5 (l : Launch) (D : va_G) (q : Nat → Nat) (cA : Nat → ClassId) (ad av : Nat → Nat) (t9 : Nat) (F : Nat → Nat → Int32) (I R : Nat → Nat → Int32) (J : Nat → Nat → Int64) (hI : mInv F (I, R, J))  : zNi (zSS zMRs 25 q ad av t9) l D vwCl (zMtys cA) 25 q (zMd q cA) yJ0_length_8abf5 cJ0_length_8abf5 1 (some .int) ({ frames := 1, cells := 0, slots := 0, locals := 20 } : Room) [.ref (ad 9)] (I, R, J) (fun r u => r = nI 5 ∧ u = (I, R, J)) := by
  intro sz
  refine z_bodyN (by decide +kernel) (Nat.le_of_ble_eq_true rfl) (fun p e s m below meth c ls hx hb hml hr ht hown hlocks hsz hK hP hD hS hN hl => ?_)
  have hA : ∀ a, s.heap.size ≤ a → zA 25 q sz a := fun a h => Or.inr (hsz ▸ h)
  have hl : lv_has ls 1 [(0, .ref (ad 9))] := hl
  have hZ : zSz zMRs 25 q ad av t9 sz s := hsz ▸ hN
  refine lv_aload_n hx hb dJ0_length_8abf5_0 rfl (lv_at hl 0 rfl) ?_
  refine vk_getf hx hb (hZ.1.1 9 (by decide)).2.2.1 hS hown (ht _ hw_8_164) (fun _ h => h) dJ0_length_8abf5_1 ?_
  refine va_tlen hx hb (hZ.1.1 9 (by decide)).2.2.2 hS (v := nI 5) rfl dJ0_length_8abf5_4 ?_
  refine lv_aload_n hx hb dJ0_length_8abf5_5 rfl (lv_at hl 0 rfl) ?_
  refine z_cNXi (As := []) (rest := [.int (nI 5)]) hx hb hml hown ht (mk_J0_coder_7d493_5 l D q cA ad av t9 F _ _ _ hI ) hw_2_191 hmJ0_coder_7d493 ⟨rfl, rfl⟩ (na := 0) rfl (by decide +kernel) (by decide) (vk_recv hZ.1 (by decide) hS) hK hP hD hS hA (zSS_c (Rs := zMRs) (t9 := t9) (fun _ _ _ => zMRs_c)) (zSS_w (Rs := zMRs) (t9 := t9) (fun _ _ _ => zMRs_w) hN hsz hS) hl.1 rfl (Nat.le_of_ble_eq_true rfl) ⟨Nat.zero_le _, Nat.zero_le _⟩ dJ0_length_8abf5_6 (fun r_1 I_1 R_1 J_1 H locs hp_1 hP hD hS _ _ => ?_)
  obtain ⟨rfl, hu_1⟩ := hp_1
  cases hu_1
  refine lv_ishr hx hb dJ0_length_8abf5_9 ?_
  refine z_eqi (y := nI 5) (by decide +kernel) ?_
  exact z_iret (v := nI 5) hx hb hr hlocks hP hD hS dJ0_length_8abf5_10 ⟨rfl, rfl⟩
set_option maxHeartbeats 4000000 in
set_option maxRecDepth 100000 in
theorem mk_J0_isLatin1_aae02_5 (l : Launch) (D : va_G) (q : Nat → Nat) (cA : Nat → ClassId) (ad av : Nat → Nat) (t9 : Nat) (F : Nat → Nat → Int32) (I R : Nat → Nat → Int32) (J : Nat → Nat → Int64) (hI : mInv F (I, R, J))  : zNi (zSS zMRs 25 q ad av t9) l D vwCl (zMtys cA) 25 q (zMd q cA) yJ0_isLatin1_aae02 cJ0_isLatin1_aae02 1 (some .boolean) ({ frames := 0, cells := 0, slots := 0, locals := 0 } : Room) [.ref (ad 9)] (I, R, J) (fun r u => (r = nI 1 ∧ u = (I, R, J))) := by
  intro sz
  refine z_bodyN (by decide +kernel) (Nat.le_of_ble_eq_true rfl) (fun p e s m below meth c ls hx hb hml hr ht hown hlocks hsz hK hP hD hS hN hl => ?_)
  have hA : ∀ a, s.heap.size ≤ a → zA 25 q sz a := fun a h => Or.inr (hsz ▸ h)
  have hl : lv_has ls 1 [(0, .ref (ad 9))] := hl
  have hZ : zSz zMRs 25 q ad av t9 sz s := hsz ▸ hN
  refine va_gets hx hb hZ.2.1 hS hown (ht _ hw_2_195) (fun _ h => h) dJ0_isLatin1_aae02_0 ?_
  refine z_eqi (y := nI 1) rfl ?_
  refine lv_if_eq (tgt := 17) hx hb dJ0_isLatin1_aae02_3 (by decide) (fun c_0 => absurd c_0 (zD_ne zk_1 zk_z (by decide))) (fun _ => ?_)
  refine lv_aload_n hx hb dJ0_isLatin1_aae02_6 rfl (lv_at hl 0 rfl) ?_
  refine vk_getf hx hb (hZ.1.1 9 (by decide)).2.1 hS hown (ht _ hw_8_165) (fun _ h => h) dJ0_isLatin1_aae02_7 ?_
  refine z_eqi (y := nI 0) rfl ?_
  refine lv_if_ne (tgt := 17) hx hb dJ0_isLatin1_aae02_10 (by decide) (fun c_0 => absurd (zD_eq zk_0 zk_z) c_0) (fun _ => ?_)
  refine lv_iconst (v := nI 1) hx hb dJ0_isLatin1_aae02_13 (by decide +kernel) ?_
  refine lv_goto (tgt := 18) hx hb dJ0_isLatin1_aae02_14 (by decide) ?_
  exact z_zret (v := nI 1) hx hb hr hlocks hP hD hS (by decide +kernel) dJ0_isLatin1_aae02_18 ⟨rfl, rfl⟩
set_option maxHeartbeats 4000000 in
set_option maxRecDepth 100000 in
theorem mk_J1_charAt_3b067_10 (l : Launch) (D : va_G) (q : Nat → Nat) (cA : Nat → ClassId) (ad av : Nat → Nat) (t9 : Nat) (F : Nat → Nat → Int32) (I R : Nat → Nat → Int32) (J : Nat → Nat → Int64) (hI : mInv F (I, R, J)) (pa1 : Int32) (hpa1 : zR 0 4 pa1) : zNi (zSS zMRs 25 q ad av t9) l D vwCl (zMtys cA) 25 q (zMd q cA) yJ1_charAt_3b067 cJ1_charAt_3b067 2 (some .char) ({ frames := 2, cells := 0, slots := 0, locals := 43 } : Room) [.ref (av 9), .int (pa1)] (I, R, J) (fun r u => (r = zch 9 (pa1).toNatClampNeg ∧ zR 0 65535 r) ∧ u = (I, R, J)) := by
  intro sz
  refine z_bodyN (by decide +kernel) (Nat.le_of_ble_eq_true rfl) (fun p e s m below meth c ls hx hb hml hr ht hown hlocks hsz hK hP hD hS hN hl => ?_)
  have hA : ∀ a, s.heap.size ≤ a → zA 25 q sz a := fun a h => Or.inr (hsz ▸ h)
  have hl : lv_has ls 2 [(0, .ref (av 9)), (1, .int (pa1))] := hl
  have hZ : zSz zMRs 25 q ad av t9 sz s := hsz ▸ hN
  refine lv_iload_n hx hb dJ1_charAt_3b067_0 rfl (lv_at hl 1 rfl) ?_
  refine lv_aload_n hx hb dJ1_charAt_3b067_1 rfl (lv_at hl 0 rfl) ?_
  refine va_tlen hx hb (hZ.1.1 9 (by decide)).2.2.2 hS (v := nI 5) rfl dJ1_charAt_3b067_2 ?_
  refine z_cNSv (As := [.int (pa1), .int (nI 5)]) (rest := []) hx hb hml hown ht (mk_J0_checkIndex_df160_1 l D q cA ad av t9 F _ _ _ hI (pa1) hpa1) hw_2_208 hmJ0_checkIndex_df160 ⟨rfl, rfl⟩ (na := 2) rfl (by decide +kernel) (by decide) hK hP hD hS hA (zSS_c (Rs := zMRs) (t9 := t9) (fun _ _ _ => zMRs_c)) (zSS_w (Rs := zMRs) (t9 := t9) (fun _ _ _ => zMRs_w) hN hsz hS) hl.1 rfl (Nat.le_of_ble_eq_true rfl) ⟨Nat.zero_le _, Nat.zero_le _⟩ dJ1_charAt_3b067_3 (fun I_1 R_1 J_1 H locs hp_1 hP hD hS _ _ => ?_)
  cases hp_1
  refine lv_aload_n hx hb dJ1_charAt_3b067_6 rfl (lv_at hl 0 rfl) ?_
  refine lv_iload_n hx hb dJ1_charAt_3b067_7 rfl (lv_at hl 1 rfl) ?_
  refine va_tb hx hb (hZ.1.1 9 (by decide)).2.2.2 hS (zR_vin hpa1 (by decide)) (v := .int ((zByt.getD 9 []).getD (pa1).toNatClampNeg 0)) rfl dJ1_charAt_3b067_8 ?_
  refine lv_sipush (v := nI 255) hx hb dJ1_charAt_3b067_9 (by decide +kernel) ?_
  refine lv_iand hx hb dJ1_charAt_3b067_12 ?_
  refine lv_i2c (v := ((((zByt.getD 9 []).getD (pa1).toNatClampNeg 0) &&& (nI 255)).toUInt32 % 65536).toInt32) hx hb dJ1_charAt_3b067_13 rfl ?_
  exact z_zret (v := ((((zByt.getD 9 []).getD (pa1).toNatClampNeg 0) &&& (nI 255)).toUInt32 % 65536).toInt32) hx hb hr hlocks hP hD hS (zR_char (zR_i2c _)) dJ1_charAt_3b067_14 ⟨⟨rfl, (zR_i2c _)⟩, rfl⟩
set_option maxHeartbeats 4000000 in
set_option maxRecDepth 100000 in
theorem mk_J0_charAt_5068e_10 (l : Launch) (D : va_G) (q : Nat → Nat) (cA : Nat → ClassId) (ad av : Nat → Nat) (t9 : Nat) (F : Nat → Nat → Int32) (I R : Nat → Nat → Int32) (J : Nat → Nat → Int64) (hI : mInv F (I, R, J)) (pa0 : Int32) (hpa0 : zR 0 4 pa0) : zNi (zSS zMRs 25 q ad av t9) l D vwCl (zMtys cA) 25 q (zMd q cA) yJ0_charAt_5068e cJ0_charAt_5068e 2 (some .char) ({ frames := 3, cells := 0, slots := 0, locals := 64 } : Room) [.ref (ad 9), .int (pa0)] (I, R, J) (fun r u => (r = zch 9 (pa0).toNatClampNeg ∧ zR 0 65535 r) ∧ u = (I, R, J)) := by
  intro sz
  refine z_bodyN (by decide +kernel) (Nat.le_of_ble_eq_true rfl) (fun p e s m below meth c ls hx hb hml hr ht hown hlocks hsz hK hP hD hS hN hl => ?_)
  have hA : ∀ a, s.heap.size ≤ a → zA 25 q sz a := fun a h => Or.inr (hsz ▸ h)
  have hl : lv_has ls 2 [(0, .ref (ad 9)), (1, .int (pa0))] := hl
  have hZ : zSz zMRs 25 q ad av t9 sz s := hsz ▸ hN
  refine lv_aload_n hx hb dJ0_charAt_5068e_0 rfl (lv_at hl 0 rfl) ?_
  refine z_cNXi (As := []) (rest := []) hx hb hml hown ht (mk_J0_isLatin1_aae02_5 l D q cA ad av t9 F _ _ _ hI ) hw_2_201 hmJ0_isLatin1_aae02 ⟨rfl, rfl⟩ (na := 0) rfl (by decide +kernel) (by decide) (vk_recv hZ.1 (by decide) hS) hK hP hD hS hA (zSS_c (Rs := zMRs) (t9 := t9) (fun _ _ _ => zMRs_c)) (zSS_w (Rs := zMRs) (t9 := t9) (fun _ _ _ => zMRs_w) hN hsz hS) hl.1 rfl (Nat.le_of_ble_eq_true rfl) ⟨Nat.zero_le _, Nat.zero_le _⟩ dJ0_charAt_5068e_1 (fun r_1 I_1 R_1 J_1 H locs hp_1 hP hD hS _ _ => ?_)
  obtain ⟨rfl, hu_1⟩ := hp_1
  cases hu_1
  refine lv_if_eq (tgt := 16) hx hb dJ0_charAt_5068e_4 (by decide) (fun c_0 => absurd c_0 (zD_ne zk_1 zk_z (by decide))) (fun _ => ?_)
  refine lv_aload_n hx hb dJ0_charAt_5068e_7 rfl (lv_at hl 0 rfl) ?_
  refine vk_getf hx hb (hZ.1.1 9 (by decide)).2.2.1 hS hown (ht _ hw_8_164) (fun _ h => h) dJ0_charAt_5068e_8 ?_
  refine lv_iload_n hx hb dJ0_charAt_5068e_11 rfl (lv_at hl 1 rfl) ?_
  refine z_cNSi (As := [.ref (av 9), .int (pa0)]) (rest := []) hx hb hml hown ht (mk_J1_charAt_3b067_10 l D q cA ad av t9 F _ _ _ hI (pa0) hpa0) hw_2_205 hmJ1_charAt_3b067 ⟨rfl, rfl⟩ (na := 2) rfl (by decide +kernel) (by decide) hK hP hD hS hA (zSS_c (Rs := zMRs) (t9 := t9) (fun _ _ _ => zMRs_c)) (zSS_w (Rs := zMRs) (t9 := t9) (fun _ _ _ => zMRs_w) hN hsz hS) hl.1 rfl (Nat.le_of_ble_eq_true rfl) ⟨Nat.zero_le _, Nat.zero_le _⟩ dJ0_charAt_5068e_12 (fun r_2 I_2 R_2 J_2 H locs hp_2 hP hD hS _ _ => ?_)
  obtain ⟨⟨rfl, hr_2⟩, hu_2⟩ := hp_2
  cases hu_2
  exact z_zret (v := zch 9 (pa0).toNatClampNeg) hx hb hr hlocks hP hD hS (zR_char hr_2) dJ0_charAt_5068e_15 ⟨⟨rfl, hr_2⟩, rfl⟩
set_option maxHeartbeats 4000000 in
set_option maxRecDepth 100000 in
theorem mk_X11_is_5 (l : Launch) (D : va_G) (q : Nat → Nat) (cA : Nat → ClassId) (ad av : Nat → Nat) (t9 : Nat) (F : Nat → Nat → Int32) (I R : Nat → Nat → Int32) (J : Nat → Nat → Int64) (hI : mInv F (I, R, J))  : zNi (zSS zMRs 25 q ad av t9) l D vwCl (zMtys cA) 25 q (zMd q cA) yX11_is cX11_is 4 (some .boolean) ({ frames := 4, cells := 0, slots := 0, locals := 85 } : Room) [.ref (q 0), .ref (ad 9)] (I, R, J) (fun r u => (r = nI 1 ∧ u = (I, R, J) ∧ mIs 9 I R) ∨ (r = nI 0 ∧ u = (I, R, J) ∧ ¬ mIs 9 I R)) := by
  intro sz
  refine z_bodyN (by decide +kernel) (Nat.le_of_ble_eq_true rfl) (fun p e s m below meth c ls hx hb hml hr ht hown hlocks hsz hK hP hD hS hN hl => ?_)
  have hA : ∀ a, s.heap.size ≤ a → zA 25 q sz a := fun a h => Or.inr (hsz ▸ h)
  have hl : lv_has ls 4 [(0, .ref (q 0)), (1, .ref (ad 9))] := hl
  have hZ : zSz zMRs 25 q ad av t9 sz s := hsz ▸ hN
  refine lv_aload_n hx hb dX11_is_0 rfl (lv_at hl 0 rfl) ?_
  refine z_callVi (k := 0) (As := []) (rest := []) hx hb hml hown ht (mk_X11_good l D q cA F _ _ _ hI ) hw_6_123 hmX11_good ⟨rfl, rfl⟩ (na := 0) rfl (by decide +kernel) (by decide) (by decide) rfl rfl hK hP hD hS hA hl.1 rfl (Nat.le_of_ble_eq_true rfl) ⟨Nat.zero_le _, Nat.zero_le _⟩ dX11_is_1 (fun r_1 I_1 R_1 J_1 H locs hp_1 hP hD hS _ _ => ?_)
  rcases hp_1 with ⟨rfl, hu_1, nn_1⟩ | ⟨rfl, hu_1, nn_1⟩
  · cases hu_1
    refine lv_if_eq (tgt := 35) hx hb dX11_is_4 (by decide) (fun c_0 => absurd c_0 (zD_ne zk_1 zk_z (by decide))) (fun _ => ?_)
    refine lv_aload_n hx hb dX11_is_7 rfl (lv_at hl 0 rfl) ?_
    refine z_get hx hb ht hown hK hP ziX11 rfl 0 (by decide) 10 (by decide) hw_5_197 rfl (v := .int (I 0 10)) rfl dX11_is_8 ?_
    refine lv_iconst (v := nI 1) hx hb dX11_is_11 (by decide +kernel) ?_
    refine lv_icmp_ne (tgt := 35) hx hb dX11_is_12 (by decide) (fun c_2 => ?_) (fun c_2 => ?_)
    · have t_c_2 := z_eqF c_2
      refine lv_iconst (v := nI 0) hx hb dX11_is_35 (by decide +kernel) ?_
      refine lv_istore_n (lv' := [(2, .int (nI 0)), (0, .ref (q 0)), (1, .ref (ad 9))]) hx hb dX11_is_36 rfl hl (by decide) rfl (fun ls hl => ?_)
      refine lv_iconst (v := nI 0) hx hb dX11_is_37 (by decide +kernel) ?_
      refine lv_istore_n (lv' := [(3, .int (nI 0)), (2, .int (nI 0)), (0, .ref (q 0)), (1, .ref (ad 9))]) hx hb dX11_is_38 rfl hl (by decide) rfl (fun ls hl => ?_)
      refine lv_iload_n hx hb dX11_is_39 rfl (lv_at hl 0 rfl) ?_
      refine lv_aload_n hx hb dX11_is_40 rfl (lv_at hl 3 rfl) ?_
      refine z_cNXi (As := []) (rest := [.int (nI 0)]) hx hb hml hown ht (mk_J0_length_8abf5_5 l D q cA ad av t9 F _ _ _ hI ) hw_6_144 hmJ0_length_8abf5 ⟨rfl, rfl⟩ (na := 0) rfl (by decide +kernel) (by decide) (vk_recv hZ.1 (by decide) hS) hK hP hD hS hA (zSS_c (Rs := zMRs) (t9 := t9) (fun _ _ _ => zMRs_c)) (zSS_w (Rs := zMRs) (t9 := t9) (fun _ _ _ => zMRs_w) hN hsz hS) hl.1 rfl (Nat.le_of_ble_eq_true rfl) ⟨Nat.zero_le _, Nat.zero_le _⟩ dX11_is_41 (fun r_5 I_5 R_5 J_5 H locs hp_5 hP hD hS _ _ => ?_)
      obtain ⟨rfl, hu_5⟩ := hp_5
      cases hu_5
      refine lv_icmp_ge (tgt := 82) hx hb dX11_is_44 (by decide) (fun c_0 => absurd c_0 (zD_nle zk_5 zk_0 (by decide))) (fun _ => ?_)
      refine lv_iload_n hx hb dX11_is_47 rfl (lv_at hl 1 rfl) ?_
      refine lv_if_eq (tgt := 82) hx hb dX11_is_48 (by decide) (fun _ => ?_) (fun c_0 => absurd (zD_eq zk_0 zk_z) c_0)
      refine lv_iload_n hx hb dX11_is_82 rfl (lv_at hl 1 rfl) ?_
      exact z_zret (v := nI 0) hx hb hr hlocks hP hD hS (by decide +kernel) dX11_is_83 (Or.inr ⟨rfl, rfl, (mIs_n2 t_c_2)⟩)
    · have t_c_2 := z_eqT c_2
      have f_6 : zR 1 1 (I 0 10) := zR_eqx t_c_2 zk_1
      refine lv_aload_n hx hb dX11_is_15 rfl (lv_at hl 0 rfl) ?_
      refine z_get hx hb ht hown hK hP ziX11 rfl 0 (by decide) 8 (by decide) hw_5_195 rfl (v := .int (I 0 8)) rfl dX11_is_16 ?_
      have f_7 : zR 0 800 (I 0 8) := mI hI 0 8
      refine lv_aload_n hx hb dX11_is_19 rfl (lv_at hl 0 rfl) ?_
      refine z_get hx hb ht hown hK hP ziX11 rfl 0 (by decide) 9 (by decide) hw_5_196 rfl (v := .int (I 0 9)) rfl dX11_is_20 ?_
      have f_8 : zR 0 800 (I 0 9) := mI hI 0 9
      refine lv_isub hx hb dX11_is_23 ?_
      refine lv_topi (fun v_9 ev_9 => ?_)
      have hv_9 : zR (-800) 800 v_9 := ev_9 ▸ zR_sub f_7 f_8 (by decide)
      refine lv_aload_n hx hb dX11_is_24 rfl (lv_at hl 1 rfl) ?_
      refine z_cNXi (As := []) (rest := [.int (v_9)]) hx hb hml hown ht (mk_J0_length_8abf5_5 l D q cA ad av t9 F _ _ _ hI ) hw_6_144 hmJ0_length_8abf5 ⟨rfl, rfl⟩ (na := 0) rfl (by decide +kernel) (by decide) (vk_recv hZ.1 (by decide) hS) hK hP hD hS hA (zSS_c (Rs := zMRs) (t9 := t9) (fun _ _ _ => zMRs_c)) (zSS_w (Rs := zMRs) (t9 := t9) (fun _ _ _ => zMRs_w) hN hsz hS) hl.1 rfl (Nat.le_of_ble_eq_true rfl) ⟨Nat.zero_le _, Nat.zero_le _⟩ dX11_is_25 (fun r_10 I_10 R_10 J_10 H locs hp_10 hP hD hS _ _ => ?_)
      obtain ⟨rfl, hu_10⟩ := hp_10
      cases hu_10
      refine lv_icmp_ne (tgt := 35) hx hb dX11_is_28 (by decide) (fun c_11 => ?_) (fun c_11 => ?_)
      · have t_c_11 := z_eqF c_11
        refine lv_iconst (v := nI 0) hx hb dX11_is_35 (by decide +kernel) ?_
        refine lv_istore_n (lv' := [(2, .int (nI 0)), (0, .ref (q 0)), (1, .ref (ad 9))]) hx hb dX11_is_36 rfl hl (by decide) rfl (fun ls hl => ?_)
        refine lv_iconst (v := nI 0) hx hb dX11_is_37 (by decide +kernel) ?_
        refine lv_istore_n (lv' := [(3, .int (nI 0)), (2, .int (nI 0)), (0, .ref (q 0)), (1, .ref (ad 9))]) hx hb dX11_is_38 rfl hl (by decide) rfl (fun ls hl => ?_)
        refine lv_iload_n hx hb dX11_is_39 rfl (lv_at hl 0 rfl) ?_
        refine lv_aload_n hx hb dX11_is_40 rfl (lv_at hl 3 rfl) ?_
        refine z_cNXi (As := []) (rest := [.int (nI 0)]) hx hb hml hown ht (mk_J0_length_8abf5_5 l D q cA ad av t9 F _ _ _ hI ) hw_6_144 hmJ0_length_8abf5 ⟨rfl, rfl⟩ (na := 0) rfl (by decide +kernel) (by decide) (vk_recv hZ.1 (by decide) hS) hK hP hD hS hA (zSS_c (Rs := zMRs) (t9 := t9) (fun _ _ _ => zMRs_c)) (zSS_w (Rs := zMRs) (t9 := t9) (fun _ _ _ => zMRs_w) hN hsz hS) hl.1 rfl (Nat.le_of_ble_eq_true rfl) ⟨Nat.zero_le _, Nat.zero_le _⟩ dX11_is_41 (fun r_14 I_14 R_14 J_14 H locs hp_14 hP hD hS _ _ => ?_)
        obtain ⟨rfl, hu_14⟩ := hp_14
        cases hu_14
        refine lv_icmp_ge (tgt := 82) hx hb dX11_is_44 (by decide) (fun c_0 => absurd c_0 (zD_nle zk_5 zk_0 (by decide))) (fun _ => ?_)
        refine lv_iload_n hx hb dX11_is_47 rfl (lv_at hl 1 rfl) ?_
        refine lv_if_eq (tgt := 82) hx hb dX11_is_48 (by decide) (fun _ => ?_) (fun c_0 => absurd (zD_eq zk_0 zk_z) c_0)
        refine lv_iload_n hx hb dX11_is_82 rfl (lv_at hl 1 rfl) ?_
        exact z_zret (v := nI 0) hx hb hr hlocks hP hD hS (by decide +kernel) dX11_is_83 (Or.inr ⟨rfl, rfl, (mIs_n3 ev_9 t_c_11)⟩)
      · have t_c_11 := z_eqT c_11
        have f_15 : zR 5 5 (v_9) := zR_eqx t_c_11 zk_5
        have f_16 : zR 0 795 (I 0 9) := z_start f_7 f_8 ev_9 f_15 (by decide)
        refine lv_iconst (v := nI 1) hx hb dX11_is_31 (by decide +kernel) ?_
        refine lv_goto (tgt := 36) hx hb dX11_is_32 (by decide) ?_
        refine lv_istore_n (lv' := [(2, .int (nI 1)), (0, .ref (q 0)), (1, .ref (ad 9))]) hx hb dX11_is_36 rfl hl (by decide) rfl (fun ls hl => ?_)
        refine lv_iconst (v := nI 0) hx hb dX11_is_37 (by decide +kernel) ?_
        refine lv_istore_n (lv' := [(3, .int (nI 0)), (2, .int (nI 1)), (0, .ref (q 0)), (1, .ref (ad 9))]) hx hb dX11_is_38 rfl hl (by decide) rfl (fun ls hl => ?_)
        have loop_71 : ∀ N : Nat, ∀ x_68 : Int32, zR 0 1 x_68 → ∀ x_69 : Int32, zR 0 5 x_69 → (mIsL 9 I R (x_69) (x_68)) → (2147483648 - (x_69).toInt).toNat < N → ∀ (H : Heap) (locs : List Loc), va_P D vwCl (zw 25 q (zMd q cA) I R J) H → va_D (zA 25 q sz) (zw 25 q (zMd q cA) I R J) → va_S (zA 25 q sz) s.heap H locs → ∀ ls : Array Slot, lv_has ls 4 [(0, .ref (q 0)), (1, .ref (ad 9)), (2, .int (x_68)), (3, .int (x_69))] → W p l e ({ frames := 4, cells := 0, slots := 0, locals := 85 } : Room) s m ([.ref (q 0), .ref (ad 9)] : List Value).toArray below meth c H locs 0 0 (MQ below (va_Qi (fun r u => (r = nI 1 ∧ u = (I, R, J) ∧ mIs 9 I R) ∨ (r = nI 0 ∧ u = (I, R, J) ∧ ¬ mIs 9 I R)) (zB D vwCl 25 q (zMd q cA) sz) (zA 25 q sz)) ([.ref (q 0), .ref (ad 9)] : List Value).toArray s 0 0 (zA 25 q sz)) (F0 m 39 ls []) := by
          intro N
          induction N with
          | zero => intro x_68 hx_68 x_69 hx_69 hx_70 hN; exact absurd hN (Nat.not_lt_zero _)
          | succ N ih_73 =>
            intro x_68 hx_68 x_69 hx_69 hx_70 hN_72 H locs hP hD hS ls hl
            refine lv_iload_n hx hb dX11_is_39 rfl (lv_at hl 3 rfl) ?_
            refine lv_aload_n hx hb dX11_is_40 rfl (lv_at hl 1 rfl) ?_
            refine z_cNXi (As := []) (rest := [.int (x_69)]) hx hb hml hown ht (mk_J0_length_8abf5_5 l D q cA ad av t9 F _ _ _ hI ) hw_6_144 hmJ0_length_8abf5 ⟨rfl, rfl⟩ (na := 0) rfl (by decide +kernel) (by decide) (vk_recv hZ.1 (by decide) hS) hK hP hD hS hA (zSS_c (Rs := zMRs) (t9 := t9) (fun _ _ _ => zMRs_c)) (zSS_w (Rs := zMRs) (t9 := t9) (fun _ _ _ => zMRs_w) hN hsz hS) hl.1 rfl (Nat.le_of_ble_eq_true rfl) ⟨Nat.zero_le _, Nat.zero_le _⟩ dX11_is_41 (fun r_74 I_74 R_74 J_74 H locs hp_74 hP hD hS _ _ => ?_)
            obtain ⟨rfl, hu_74⟩ := hp_74
            cases hu_74
            refine lv_icmp_ge (tgt := 82) hx hb dX11_is_44 (by decide) (fun c_75 => ?_) (fun c_75 => ?_)
            · have t_c_75 := z_leT c_75
              have f_76 : zR 5 5 (x_69) := zR_ley t_c_75 zk_5 hx_69 (by decide)
              refine lv_iload_n hx hb dX11_is_82 rfl (lv_at hl 2 rfl) ?_
              exact z_zret (v := x_68) hx hb hr hlocks hP hD hS (zR_bool (a := 0) (b := 1) hx_68 (by decide)).1 dX11_is_83 (mIs_r1 hx_70 hx_68 t_c_75)
            · have t_c_75 := z_leF c_75
              have f_77 : zR 0 4 (x_69) := zR_ltx t_c_75 hx_69 zk_5 (by decide)
              refine lv_iload_n hx hb dX11_is_47 rfl (lv_at hl 2 rfl) ?_
              refine lv_if_eq (tgt := 82) hx hb dX11_is_48 (by decide) (fun c_78 => ?_) (fun c_78 => ?_)
              · have t_c_78 := z_eqT c_78
                have f_79 : zR 0 0 (x_68) := zR_eqx t_c_78 zk_z
                refine lv_iload_n hx hb dX11_is_82 rfl (lv_at hl 2 rfl) ?_
                exact z_zret (v := x_68) hx hb hr hlocks hP hD hS (zR_bool (a := 0) (b := 1) (zR_w f_79 (by decide)) (by decide)).1 dX11_is_83 (mIs_r0 hx_70 f_79)
              · have t_c_78 := z_eqF c_78
                have f_80 : zR 1 1 (x_68) := zR_nex t_c_78 hx_68 zk_z (by decide)
                refine lv_aload_n hx hb dX11_is_51 rfl (lv_at hl 0 rfl) ?_
                refine z_get hx hb ht hown hK hP ziX11 rfl 0 (by decide) 4 (by decide) hw_5_191 rfl (v := .ref (q 4)) rfl dX11_is_52 ?_
                refine lv_aload_n hx hb dX11_is_55 rfl (lv_at hl 0 rfl) ?_
                refine z_get hx hb ht hown hK hP ziX11 rfl 0 (by decide) 9 (by decide) hw_5_196 rfl (v := .int (I 0 9)) rfl dX11_is_56 ?_
                refine lv_iload_n hx hb dX11_is_59 rfl (lv_at hl 3 rfl) ?_
                refine lv_iadd hx hb dX11_is_60 ?_
                refine lv_topi (fun v_81 ev_81 => ?_)
                have hv_81 : zR 0 799 v_81 := ev_81 ▸ zR_add f_16 f_77 (by decide)
                refine z_bald hx hb hK hP 4 (by decide) 3 rfl rfl (zR_vin hv_81 (by decide)) dX11_is_61 ?_
                refine z_eqi (y := R 4 (v_81).toNatClampNeg) rfl ?_
                refine lv_aload_n hx hb dX11_is_62 rfl (lv_at hl 1 rfl) ?_
                refine lv_iload_n hx hb dX11_is_63 rfl (lv_at hl 3 rfl) ?_
                refine z_cNXi (As := [.int (x_69)]) (rest := [.int (R 4 (v_81).toNatClampNeg)]) hx hb hml hown ht (mk_J0_charAt_5068e_10 l D q cA ad av t9 F _ _ _ hI (x_69) f_77) hw_6_145 hmJ0_charAt_5068e ⟨rfl, rfl⟩ (na := 1) rfl (by decide +kernel) (by decide) (vk_recv hZ.1 (by decide) hS) hK hP hD hS hA (zSS_c (Rs := zMRs) (t9 := t9) (fun _ _ _ => zMRs_c)) (zSS_w (Rs := zMRs) (t9 := t9) (fun _ _ _ => zMRs_w) hN hsz hS) hl.1 rfl (Nat.le_of_ble_eq_true rfl) ⟨Nat.zero_le _, Nat.zero_le _⟩ dX11_is_64 (fun r_82 I_82 R_82 J_82 H locs hp_82 hP hD hS _ _ => ?_)
                obtain ⟨⟨rfl, hr_82⟩, hu_82⟩ := hp_82
                cases hu_82
                refine lv_icmp_ne (tgt := 74) hx hb dX11_is_67 (by decide) (fun c_83 => ?_) (fun c_83 => ?_)
                · have t_c_83 := z_eqF c_83
                  refine lv_iconst (v := nI 0) hx hb dX11_is_74 (by decide +kernel) ?_
                  refine lv_istore_n (lv' := [(2, .int (nI 0)), (0, .ref (q 0)), (1, .ref (ad 9)), (3, .int (x_69))]) hx hb dX11_is_75 rfl hl (by decide) rfl (fun ls hl => ?_)
                  obtain ⟨v_84, ev_84⟩ : ∃ y : Int32, y = x_69 + nI 1 := ⟨_, rfl⟩
                  have hv_84 : zR 1 5 v_84 := ev_84 ▸ zR_add f_77 zk_1 (by decide)
                  have mv_84 : v_84.toInt = (x_69).toInt + 1 := by rw [ev_84, zR_addE f_77 zk_1 (by decide)]; rfl
                  refine lv_iinc (v := v_84) (lv' := [(3, .int (v_84)), (2, .int (nI 0)), (0, .ref (q 0)), (1, .ref (ad 9))]) hx hb dX11_is_76 hl (k := 3) rfl (ev_84 ▸ rfl) (by decide) rfl (fun ls hl => ?_)
                  refine lv_goto (tgt := 39) hx hb dX11_is_79 (by decide) ?_
                  exact ih_73 (nI 0) (zR_w zk_0 (by decide)) (v_84) (zR_w hv_84 (by decide)) (mIsL_n hx_70 f_80 t_c_75 t_c_83 (mIs_ix (zR_w f_16 (by decide)) (zR_w f_77 (by decide)) ev_81)) (z2_up mv_84 (by decide) hN_72) _ _ hP hD hS _ (lv_sub hl [2, 3, 1, 0] rfl)
                · have t_c_83 := z_eqT c_83
                  have f_85 : zR 0 65535 (R 4 (v_81).toNatClampNeg) := zR_eqx t_c_83 hr_82
                  refine lv_iconst (v := nI 1) hx hb dX11_is_70 (by decide +kernel) ?_
                  refine lv_goto (tgt := 75) hx hb dX11_is_71 (by decide) ?_
                  refine lv_istore_n (lv' := [(2, .int (nI 1)), (0, .ref (q 0)), (1, .ref (ad 9)), (3, .int (x_69))]) hx hb dX11_is_75 rfl hl (by decide) rfl (fun ls hl => ?_)
                  obtain ⟨v_86, ev_86⟩ : ∃ y : Int32, y = x_69 + nI 1 := ⟨_, rfl⟩
                  have hv_86 : zR 1 5 v_86 := ev_86 ▸ zR_add f_77 zk_1 (by decide)
                  have mv_86 : v_86.toInt = (x_69).toInt + 1 := by rw [ev_86, zR_addE f_77 zk_1 (by decide)]; rfl
                  refine lv_iinc (v := v_86) (lv' := [(3, .int (v_86)), (2, .int (nI 1)), (0, .ref (q 0)), (1, .ref (ad 9))]) hx hb dX11_is_76 hl (k := 3) rfl (ev_86 ▸ rfl) (by decide) rfl (fun ls hl => ?_)
                  refine lv_goto (tgt := 39) hx hb dX11_is_79 (by decide) ?_
                  exact ih_73 (nI 1) (zR_w zk_1 (by decide)) (v_86) (zR_w hv_86 (by decide)) (mIsL_1 hx_70 f_80 mv_86 t_c_83 (mIs_ix (zR_w f_16 (by decide)) (zR_w f_77 (by decide)) ev_81)) (z2_up mv_86 (by decide) hN_72) _ _ hP hD hS _ (lv_sub hl [2, 3, 1, 0] rfl)
        exact loop_71 _ (nI 1) (zR_w zk_1 (by decide)) (nI 0) (zR_w zk_0 (by decide)) (mIsL_0 (mIs_a3 nn_1 t_c_2 ev_9 f_15)) (Nat.lt_succ_self _) _ _ hP hD hS _ (lv_sub hl [2, 3, 1, 0] rfl)
  · cases hu_1
    refine lv_if_eq (tgt := 35) hx hb dX11_is_4 (by decide) (fun _ => ?_) (fun c_0 => absurd (zD_eq zk_0 zk_z) c_0)
    refine lv_iconst (v := nI 0) hx hb dX11_is_35 (by decide +kernel) ?_
    refine lv_istore_n (lv' := [(2, .int (nI 0)), (0, .ref (q 0)), (1, .ref (ad 9))]) hx hb dX11_is_36 rfl hl (by decide) rfl (fun ls hl => ?_)
    refine lv_iconst (v := nI 0) hx hb dX11_is_37 (by decide +kernel) ?_
    refine lv_istore_n (lv' := [(3, .int (nI 0)), (2, .int (nI 0)), (0, .ref (q 0)), (1, .ref (ad 9))]) hx hb dX11_is_38 rfl hl (by decide) rfl (fun ls hl => ?_)
    refine lv_iload_n hx hb dX11_is_39 rfl (lv_at hl 0 rfl) ?_
    refine lv_aload_n hx hb dX11_is_40 rfl (lv_at hl 3 rfl) ?_
    refine z_cNXi (As := []) (rest := [.int (nI 0)]) hx hb hml hown ht (mk_J0_length_8abf5_5 l D q cA ad av t9 F _ _ _ hI ) hw_6_144 hmJ0_length_8abf5 ⟨rfl, rfl⟩ (na := 0) rfl (by decide +kernel) (by decide) (vk_recv hZ.1 (by decide) hS) hK hP hD hS hA (zSS_c (Rs := zMRs) (t9 := t9) (fun _ _ _ => zMRs_c)) (zSS_w (Rs := zMRs) (t9 := t9) (fun _ _ _ => zMRs_w) hN hsz hS) hl.1 rfl (Nat.le_of_ble_eq_true rfl) ⟨Nat.zero_le _, Nat.zero_le _⟩ dX11_is_41 (fun r_89 I_89 R_89 J_89 H locs hp_89 hP hD hS _ _ => ?_)
    obtain ⟨rfl, hu_89⟩ := hp_89
    cases hu_89
    refine lv_icmp_ge (tgt := 82) hx hb dX11_is_44 (by decide) (fun c_0 => absurd c_0 (zD_nle zk_5 zk_0 (by decide))) (fun _ => ?_)
    refine lv_iload_n hx hb dX11_is_47 rfl (lv_at hl 1 rfl) ?_
    refine lv_if_eq (tgt := 82) hx hb dX11_is_48 (by decide) (fun _ => ?_) (fun c_0 => absurd (zD_eq zk_0 zk_z) c_0)
    refine lv_iload_n hx hb dX11_is_82 rfl (lv_at hl 1 rfl) ?_
    exact z_zret (v := nI 0) hx hb hr hlocks hP hD hS (by decide +kernel) dX11_is_83 (Or.inr ⟨rfl, rfl, (mIs_n1 nn_1)⟩)
set_option maxHeartbeats 4000000 in
set_option maxRecDepth 100000 in
theorem mk_X11_takes_5 (l : Launch) (D : va_G) (q : Nat → Nat) (cA : Nat → ClassId) (ad av : Nat → Nat) (t9 : Nat) (F : Nat → Nat → Int32) (I R : Nat → Nat → Int32) (J : Nat → Nat → Int64) (hI : mInv F (I, R, J))  : zNi (zSS zMRs 25 q ad av t9) l D vwCl (zMtys cA) 25 q (zMd q cA) yX11_takes cX11_takes 3 (some .boolean) ({ frames := 5, cells := 0, slots := 0, locals := 108 } : Room) [.ref (q 0), .ref (ad 9)] (I, R, J) (fun r u => (r = nI 1 ∧ ((mInv F u ∧ (∀ k, k ≠ 0 → u.1 k = I k) ∧ u.2 = (R, J)) ∧ mTr I u.1) ∧ mIs 9 I R) ∨ (r = nI 0 ∧ u = (I, R, J) ∧ ¬ mIs 9 I R)) := by
  intro sz
  refine z_bodyN (by decide +kernel) (Nat.le_of_ble_eq_true rfl) (fun p e s m below meth c ls hx hb hml hr ht hown hlocks hsz hK hP hD hS hN hl => ?_)
  have hA : ∀ a, s.heap.size ≤ a → zA 25 q sz a := fun a h => Or.inr (hsz ▸ h)
  have hl : lv_has ls 3 [(0, .ref (q 0)), (1, .ref (ad 9))] := hl
  have hZ : zSz zMRs 25 q ad av t9 sz s := hsz ▸ hN
  refine lv_aload_n hx hb dX11_takes_0 rfl (lv_at hl 0 rfl) ?_
  refine lv_aload_n hx hb dX11_takes_1 rfl (lv_at hl 1 rfl) ?_
  refine z_cNVi (k := 0) (As := [.ref (ad 9)]) (rest := []) hx hb hml hown ht (mk_X11_is_5 l D q cA ad av t9 F _ _ _ hI ) hw_6_140 hmX11_is ⟨rfl, rfl⟩ (na := 1) rfl (by decide +kernel) (by decide) (by decide) rfl rfl hK hP hD hS hA (zSS_c (Rs := zMRs) (t9 := t9) (fun _ _ _ => zMRs_c)) (zSS_w (Rs := zMRs) (t9 := t9) (fun _ _ _ => zMRs_w) hN hsz hS) hl.1 rfl (Nat.le_of_ble_eq_true rfl) ⟨Nat.zero_le _, Nat.zero_le _⟩ dX11_takes_2 (fun r_1 I_1 R_1 J_1 H locs hp_1 hP hD hS _ _ => ?_)
  rcases hp_1 with ⟨rfl, hu_1, nn_1⟩ | ⟨rfl, hu_1, nn_1⟩
  · cases hu_1
    refine lv_istore_n (lv' := [(2, .int (nI 1)), (0, .ref (q 0)), (1, .ref (ad 9))]) hx hb dX11_takes_5 rfl hl (by decide) rfl (fun ls hl => ?_)
    refine lv_iload_n hx hb dX11_takes_6 rfl (lv_at hl 0 rfl) ?_
    refine lv_if_eq (tgt := 14) hx hb dX11_takes_7 (by decide) (fun c_0 => absurd c_0 (zD_ne zk_1 zk_z (by decide))) (fun _ => ?_)
    refine lv_aload_n hx hb dX11_takes_10 rfl (lv_at hl 1 rfl) ?_
    refine z_callVv (k := 0) (As := []) (rest := []) hx hb hml hown ht (mk_X11_advance l D q cA F _ _ _ hI ) hw_6_109 hmX11_advance ⟨rfl, rfl⟩ (na := 0) rfl (by decide +kernel) (by decide) (by decide) rfl rfl hK hP hD hS hA hl.1 rfl (Nat.le_of_ble_eq_true rfl) ⟨Nat.zero_le _, Nat.zero_le _⟩ dX11_takes_11 (fun I_2 R_2 J_2 H locs hp_2 hP hD hS _ _ => ?_)
    obtain ⟨hq_2, he_2⟩ := hp_2
    try dsimp only at he_2
    obtain ⟨hv_2, hk_2, hj_2⟩ := hq_2
    try dsimp only at hj_2 hk_2
    cases hj_2
    have hf_3 : ∀ k, k ≠ 0 → I_2 k = I k := fun k h => (hk_2 k h).trans ((fun (_ : Nat) _ => rfl) k h)
    refine lv_iload_n hx hb dX11_takes_14 rfl (lv_at hl 0 rfl) ?_
    exact z_zret (v := nI 1) hx hb hr hlocks hP hD hS (by decide +kernel) dX11_takes_15 (Or.inl ⟨rfl, ⟨⟨hv_2, hf_3, rfl⟩, he_2⟩, nn_1⟩)
  · cases hu_1
    refine lv_istore_n (lv' := [(2, .int (nI 0)), (0, .ref (q 0)), (1, .ref (ad 9))]) hx hb dX11_takes_5 rfl hl (by decide) rfl (fun ls hl => ?_)
    refine lv_iload_n hx hb dX11_takes_6 rfl (lv_at hl 0 rfl) ?_
    refine lv_if_eq (tgt := 14) hx hb dX11_takes_7 (by decide) (fun _ => ?_) (fun c_0 => absurd (zD_eq zk_0 zk_z) c_0)
    refine lv_iload_n hx hb dX11_takes_14 rfl (lv_at hl 0 rfl) ?_
    exact z_zret (v := nI 0) hx hb hr hlocks hP hD hS (by decide +kernel) dX11_takes_15 (Or.inr ⟨rfl, rfl, nn_1⟩)
set_option maxHeartbeats 4000000 in
set_option maxRecDepth 100000 in
theorem mk_X11_needs_2 (l : Launch) (D : va_G) (q : Nat → Nat) (cA : Nat → ClassId) (ad av : Nat → Nat) (t9 : Nat) (F : Nat → Nat → Int32) (I R : Nat → Nat → Int32) (J : Nat → Nat → Int64) (hI : mInv F (I, R, J))  : zNv (zSS zMRs 25 q ad av t9) l D vwCl (zMtys cA) 25 q (zMd q cA) yX11_needs cX11_needs 2 none ({ frames := 6, cells := 0, slots := 0, locals := 130 } : Room) [.ref (q 0), .ref (ad 9)] (I, R, J) (fun u => (mInv F u ∧ (∀ k, k ≠ 0 → u.1 k = I k) ∧ u.2 = (R, J)) ∧ mTr I u.1) := by
  intro sz
  refine z_bodyN (by decide +kernel) (Nat.le_of_ble_eq_true rfl) (fun p e s m below meth c ls hx hb hml hr ht hown hlocks hsz hK hP hD hS hN hl => ?_)
  have hA : ∀ a, s.heap.size ≤ a → zA 25 q sz a := fun a h => Or.inr (hsz ▸ h)
  have hl : lv_has ls 2 [(0, .ref (q 0)), (1, .ref (ad 9))] := hl
  have hZ : zSz zMRs 25 q ad av t9 sz s := hsz ▸ hN
  refine lv_aload_n hx hb dX11_needs_0 rfl (lv_at hl 0 rfl) ?_
  refine lv_aload_n hx hb dX11_needs_1 rfl (lv_at hl 1 rfl) ?_
  refine z_cNVi (k := 0) (As := [.ref (ad 9)]) (rest := []) hx hb hml hown ht (mk_X11_takes_5 l D q cA ad av t9 F _ _ _ hI ) hw_6_136 hmX11_takes ⟨rfl, rfl⟩ (na := 1) rfl (by decide +kernel) (by decide) (by decide) rfl rfl hK hP hD hS hA (zSS_c (Rs := zMRs) (t9 := t9) (fun _ _ _ => zMRs_c)) (zSS_w (Rs := zMRs) (t9 := t9) (fun _ _ _ => zMRs_w) hN hsz hS) hl.1 rfl (Nat.le_of_ble_eq_true rfl) ⟨Nat.zero_le _, Nat.zero_le _⟩ dX11_needs_2 (fun r_1 I_1 R_1 J_1 H locs hp_1 hP hD hS _ _ => ?_)
  rcases hp_1 with ⟨rfl, hu_1, nn_1⟩ | ⟨rfl, hu_1, nn_1⟩
  · obtain ⟨hq_1, he_1⟩ := hu_1
    try dsimp only at he_1
    obtain ⟨hv_1, hk_1, hj_1⟩ := hq_1
    try dsimp only at hj_1 hk_1
    cases hj_1
    have hf_2 : ∀ k, k ≠ 0 → I_1 k = I k := fun k h => (hk_1 k h).trans ((fun (_ : Nat) _ => rfl) k h)
    refine lv_if_ne (tgt := 13) hx hb dX11_needs_5 (by decide) (fun _ => ?_) (fun c_0 => absurd c_0 (zD_ne zk_1 zk_z (by decide)))
    exact z_vret hx hb hr hlocks hP hD hS dX11_needs_13 ⟨⟨hv_1, hf_2, rfl⟩, he_1⟩
  · cases hu_1
    refine lv_if_ne (tgt := 13) hx hb dX11_needs_5 (by decide) (fun c_0 => absurd (zD_eq zk_0 zk_z) c_0) (fun _ => ?_)
    refine lv_aload_n hx hb dX11_needs_8 rfl (lv_at hl 0 rfl) ?_
    refine lv_iconst (v := nI 1) hx hb dX11_needs_9 (by decide +kernel) ?_
    refine z_callVv (k := 0) (As := [.int (nI 1)]) (rest := []) hx hb hml hown ht (mk_X11_errs l D q cA F _ _ _ hI ) hw_6_146 hmX11_errs ⟨rfl, rfl⟩ (na := 1) rfl (by decide +kernel) (by decide) (by decide) rfl rfl hK hP hD hS hA hl.1 rfl (Nat.le_of_ble_eq_true rfl) ⟨Nat.zero_le _, Nat.zero_le _⟩ dX11_needs_10 (fun I_3 R_3 J_3 H locs hp_3 hP hD hS _ _ => ?_)
    obtain ⟨hq_3, he_3⟩ := hp_3
    obtain ⟨hv_3, hk_3, hj_3⟩ := hq_3
    try dsimp only at hj_3 hk_3
    cases hj_3
    have hf_4 : ∀ k, k ≠ 0 → I_3 k = I k := fun k h => (hk_3 k h).trans ((fun (_ : Nat) _ => rfl) k h)
    exact z_vret hx hb hr hlocks hP hD hS dX11_needs_13 ⟨⟨hv_3, hf_4, rfl⟩, (mTr_f he_3)⟩
set_option maxHeartbeats 4000000 in
set_option maxRecDepth 100000 in
theorem mk_X11_number_2 (l : Launch) (D : va_G) (q : Nat → Nat) (cA : Nat → ClassId) (F : Nat → Nat → Int32) (I R : Nat → Nat → Int32) (J : Nat → Nat → Int64) (hI : mInv F (I, R, J))  : zMi l D vwCl (zMtys cA) 25 q (zMd q cA) yX11_number cX11_number 4 (some .int) ({ frames := 2, cells := 0, slots := 0, locals := 85 } : Room) [.ref (q 0), .int (nI 1), .int (nI 999)] (I, R, J) (fun r u => ((mInv F u ∧ (∀ k, k ≠ 0 → u.1 k = I k) ∧ u.2 = (R, J)) ∧ mTr I u.1) ∧ zR 0 999 r) := by
  intro sz
  refine z_body (by decide +kernel) (Nat.le_of_ble_eq_true rfl) (fun p e s m below meth c ls hx hb hml hr ht hown hlocks hsz hK hP hD hS hl => ?_)
  have hA : ∀ a, s.heap.size ≤ a → zA 25 q sz a := fun a h => Or.inr (hsz ▸ h)
  have hl : lv_has ls 4 [(0, .ref (q 0)), (1, .int (nI 1)), (2, .int (nI 999))] := hl
  refine lv_aload_n hx hb dX11_number_0 rfl (lv_at hl 0 rfl) ?_
  refine z_callVi (k := 0) (As := []) (rest := []) hx hb hml hown ht (mk_X11_good l D q cA F _ _ _ hI ) hw_6_123 hmX11_good ⟨rfl, rfl⟩ (na := 0) rfl (by decide +kernel) (by decide) (by decide) rfl rfl hK hP hD hS hA hl.1 rfl (Nat.le_of_ble_eq_true rfl) ⟨Nat.zero_le _, Nat.zero_le _⟩ dX11_number_1 (fun r_1 I_1 R_1 J_1 H locs hp_1 hP hD hS _ _ => ?_)
  rcases hp_1 with ⟨rfl, hu_1, nn_1⟩ | ⟨rfl, hu_1, nn_1⟩
  · cases hu_1
    refine lv_if_eq (tgt := 20) hx hb dX11_number_4 (by decide) (fun c_0 => absurd c_0 (zD_ne zk_1 zk_z (by decide))) (fun _ => ?_)
    refine lv_aload_n hx hb dX11_number_7 rfl (lv_at hl 0 rfl) ?_
    refine z_get hx hb ht hown hK hP ziX11 rfl 0 (by decide) 10 (by decide) hw_5_197 rfl (v := .int (I 0 10)) rfl dX11_number_8 ?_
    refine lv_iconst (v := nI 2) hx hb dX11_number_11 (by decide +kernel) ?_
    refine lv_icmp_eq (tgt := 20) hx hb dX11_number_12 (by decide) (fun c_2 => ?_) (fun c_2 => ?_)
    · have t_c_2 := z_eqT c_2
      have f_3 : zR 2 2 (I 0 10) := zR_eqx t_c_2 zk_2
      refine lv_aload_n hx hb dX11_number_20 rfl (lv_at hl 0 rfl) ?_
      refine z_callVi (k := 0) (As := []) (rest := []) hx hb hml hown ht (mk_X11_good l D q cA F _ _ _ hI ) hw_6_123 hmX11_good ⟨rfl, rfl⟩ (na := 0) rfl (by decide +kernel) (by decide) (by decide) rfl rfl hK hP hD hS hA hl.1 rfl (Nat.le_of_ble_eq_true rfl) ⟨Nat.zero_le _, Nat.zero_le _⟩ dX11_number_21 (fun r_4 I_4 R_4 J_4 H locs hp_4 hP hD hS _ _ => ?_)
      rcases hp_4 with ⟨rfl, hu_4, nn_4⟩ | ⟨rfl, hu_4, nn_4⟩
      · cases hu_4
        refine lv_if_eq (tgt := 47) hx hb dX11_number_24 (by decide) (fun c_0 => absurd c_0 (zD_ne zk_1 zk_z (by decide))) (fun _ => ?_)
        refine lv_aload_n hx hb dX11_number_27 rfl (lv_at hl 0 rfl) ?_
        refine z_get hx hb ht hown hK hP ziX11 rfl 0 (by decide) 11 (by decide) hw_5_198 rfl (v := .int (I 0 11)) rfl dX11_number_28 ?_
        refine lv_i2l (v := (I 0 11).toInt64) hx hb dX11_number_31 rfl ?_
        refine lv_iload_n hx hb dX11_number_32 rfl (lv_at hl 1 rfl) ?_
        refine lv_i2l (v := (1 : Int64)) hx hb dX11_number_33 (by decide +kernel) ?_
        refine lv_iload_n hx hb dX11_number_34 rfl (lv_at hl 2 rfl) ?_
        refine lv_i2l (v := (999 : Int64)) hx hb dX11_number_35 (by decide +kernel) ?_
        refine z_callSi (As := [.long ((I 0 11).toInt64), .long ((1 : Int64)), .long ((999 : Int64))]) (rest := []) hx hb hml hown ht (mk_X11_in l D q cA F _ _ _ hI ((I 0 11).toInt64) ((1 : Int64)) ((999 : Int64))) hw_6_86 hmX11_in ⟨rfl, rfl⟩ (na := 3) rfl (by decide +kernel) (by decide) hK hP hD hS hA hl.1 rfl (Nat.le_of_ble_eq_true rfl) ⟨Nat.zero_le _, Nat.zero_le _⟩ dX11_number_36 (fun r_5 I_5 R_5 J_5 H locs hp_5 hP hD hS _ _ => ?_)
        rcases hp_5 with ⟨rfl, hu_5, h1_5, h2_5⟩ | ⟨rfl, hu_5, h1_5 | h2_5⟩
        · cases hu_5
          have f_6 : zL 1 2147483647 ((I 0 11).toInt64) := zL_ley h1_5 zkl_1 (zR_i2l (zR_any (I 0 11))) (by decide)
          have f_7 : zR 1 2147483647 (I 0 11) := zL_back f_6
          have f_8 : zL 1 999 ((I 0 11).toInt64) := zL_lex h2_5 f_6 zkl_999 (by decide)
          have f_9 : zR 1 999 (I 0 11) := zL_back f_8
          refine lv_if_ne (tgt := 47) hx hb dX11_number_39 (by decide) (fun _ => ?_) (fun c_0 => absurd c_0 (zD_ne zk_1 zk_z (by decide)))
          refine lv_aload_n hx hb dX11_number_47 rfl (lv_at hl 0 rfl) ?_
          refine z_callVi (k := 0) (As := []) (rest := []) hx hb hml hown ht (mk_X11_good l D q cA F _ _ _ hI ) hw_6_123 hmX11_good ⟨rfl, rfl⟩ (na := 0) rfl (by decide +kernel) (by decide) (by decide) rfl rfl hK hP hD hS hA hl.1 rfl (Nat.le_of_ble_eq_true rfl) ⟨Nat.zero_le _, Nat.zero_le _⟩ dX11_number_48 (fun r_10 I_10 R_10 J_10 H locs hp_10 hP hD hS _ _ => ?_)
          rcases hp_10 with ⟨rfl, hu_10, nn_10⟩ | ⟨rfl, hu_10, nn_10⟩
          · cases hu_10
            refine lv_if_ne (tgt := 56) hx hb dX11_number_51 (by decide) (fun _ => ?_) (fun c_0 => absurd c_0 (zD_ne zk_1 zk_z (by decide)))
            refine lv_aload_n hx hb dX11_number_56 rfl (lv_at hl 0 rfl) ?_
            refine z_get hx hb ht hown hK hP ziX11 rfl 0 (by decide) 11 (by decide) hw_5_198 rfl (v := .int (I 0 11)) rfl dX11_number_57 ?_
            refine lv_istore_n (lv' := [(3, .int (I 0 11)), (0, .ref (q 0)), (1, .int (nI 1)), (2, .int (nI 999))]) hx hb dX11_number_60 rfl hl (by decide) rfl (fun ls hl => ?_)
            refine lv_aload_n hx hb dX11_number_61 rfl (lv_at hl 1 rfl) ?_
            refine z_callVv (k := 0) (As := []) (rest := []) hx hb hml hown ht (mk_X11_advance l D q cA F _ _ _ hI ) hw_6_109 hmX11_advance ⟨rfl, rfl⟩ (na := 0) rfl (by decide +kernel) (by decide) (by decide) rfl rfl hK hP hD hS hA hl.1 rfl (Nat.le_of_ble_eq_true rfl) ⟨Nat.zero_le _, Nat.zero_le _⟩ dX11_number_62 (fun I_11 R_11 J_11 H locs hp_11 hP hD hS _ _ => ?_)
            obtain ⟨hq_11, he_11⟩ := hp_11
            try dsimp only at he_11
            obtain ⟨hv_11, hk_11, hj_11⟩ := hq_11
            try dsimp only at hj_11 hk_11
            cases hj_11
            have hf_12 : ∀ k, k ≠ 0 → I_11 k = I k := fun k h => (hk_11 k h).trans ((fun (_ : Nat) _ => rfl) k h)
            refine lv_iload_n hx hb dX11_number_65 rfl (lv_at hl 0 rfl) ?_
            exact z_iret (v := I 0 11) hx hb hr hlocks hP hD hS dX11_number_66 ⟨⟨⟨hv_11, hf_12, rfl⟩, he_11⟩, (zR_w f_9 (by decide))⟩
          · cases hu_10
            exact (zR_abs2 nn_10 nn_4 (by decide)).elim
        · cases hu_5
          have f_13 : zL (-2147483648) 0 ((I 0 11).toInt64) := zL_ltx h1_5 (zR_i2l (zR_any (I 0 11))) zkl_1 (by decide)
          have f_14 : zR (-2147483648) 0 (I 0 11) := zL_back f_13
          refine lv_if_ne (tgt := 47) hx hb dX11_number_39 (by decide) (fun c_0 => absurd (zD_eq zk_0 zk_z) c_0) (fun _ => ?_)
          refine lv_aload_n hx hb dX11_number_42 rfl (lv_at hl 0 rfl) ?_
          refine lv_iconst (v := nI 2) hx hb dX11_number_43 (by decide +kernel) ?_
          refine z_callVv (k := 0) (As := [.int (nI 2)]) (rest := []) hx hb hml hown ht (mk_X11_errs_1 l D q cA F _ _ _ hI ) hw_6_146 hmX11_errs ⟨rfl, rfl⟩ (na := 1) rfl (by decide +kernel) (by decide) (by decide) rfl rfl hK hP hD hS hA hl.1 rfl (Nat.le_of_ble_eq_true rfl) ⟨Nat.zero_le _, Nat.zero_le _⟩ dX11_number_44 (fun I_15 R_15 J_15 H locs hp_15 hP hD hS _ _ => ?_)
          obtain ⟨hq_15, he_15⟩ := hp_15
          obtain ⟨hv_15, hk_15, hj_15⟩ := hq_15
          try dsimp only at hj_15 hk_15
          cases hj_15
          have hf_16 : ∀ k, k ≠ 0 → I_15 k = I k := fun k h => (hk_15 k h).trans ((fun (_ : Nat) _ => rfl) k h)
          refine lv_aload_n hx hb dX11_number_47 rfl (lv_at hl 0 rfl) ?_
          refine z_callVi (k := 0) (As := []) (rest := []) hx hb hml hown ht (mk_X11_good l D q cA F _ _ _ hv_15 ) hw_6_123 hmX11_good ⟨rfl, rfl⟩ (na := 0) rfl (by decide +kernel) (by decide) (by decide) rfl rfl hK hP hD hS hA hl.1 rfl (Nat.le_of_ble_eq_true rfl) ⟨Nat.zero_le _, Nat.zero_le _⟩ dX11_number_48 (fun r_17 I_17 R_17 J_17 H locs hp_17 hP hD hS _ _ => ?_)
          rcases hp_17 with ⟨rfl, hu_17, nn_17⟩ | ⟨rfl, hu_17, nn_17⟩
          · cases hu_17
            exact (zR_abs2 nn_17 he_15 (by decide)).elim
          · cases hu_17
            refine lv_if_ne (tgt := 56) hx hb dX11_number_51 (by decide) (fun c_0 => absurd (zD_eq zk_0 zk_z) c_0) (fun _ => ?_)
            refine lv_iconst (v := nI 0) hx hb dX11_number_54 (by decide +kernel) ?_
            exact z_iret (v := nI 0) hx hb hr hlocks hP hD hS dX11_number_55 ⟨⟨⟨hv_15, hf_16, rfl⟩, (mTr_f he_15)⟩, (zR_w zk_0 (by decide))⟩
        · cases hu_5
          have f_18 : zL 1000 2147483647 ((I 0 11).toInt64) := zL_lty h2_5 zkl_999 (zR_i2l (zR_any (I 0 11))) (by decide)
          have f_19 : zR 1000 2147483647 (I 0 11) := zL_back f_18
          refine lv_if_ne (tgt := 47) hx hb dX11_number_39 (by decide) (fun c_0 => absurd (zD_eq zk_0 zk_z) c_0) (fun _ => ?_)
          refine lv_aload_n hx hb dX11_number_42 rfl (lv_at hl 0 rfl) ?_
          refine lv_iconst (v := nI 2) hx hb dX11_number_43 (by decide +kernel) ?_
          refine z_callVv (k := 0) (As := [.int (nI 2)]) (rest := []) hx hb hml hown ht (mk_X11_errs_1 l D q cA F _ _ _ hI ) hw_6_146 hmX11_errs ⟨rfl, rfl⟩ (na := 1) rfl (by decide +kernel) (by decide) (by decide) rfl rfl hK hP hD hS hA hl.1 rfl (Nat.le_of_ble_eq_true rfl) ⟨Nat.zero_le _, Nat.zero_le _⟩ dX11_number_44 (fun I_20 R_20 J_20 H locs hp_20 hP hD hS _ _ => ?_)
          obtain ⟨hq_20, he_20⟩ := hp_20
          obtain ⟨hv_20, hk_20, hj_20⟩ := hq_20
          try dsimp only at hj_20 hk_20
          cases hj_20
          have hf_21 : ∀ k, k ≠ 0 → I_20 k = I k := fun k h => (hk_20 k h).trans ((fun (_ : Nat) _ => rfl) k h)
          refine lv_aload_n hx hb dX11_number_47 rfl (lv_at hl 0 rfl) ?_
          refine z_callVi (k := 0) (As := []) (rest := []) hx hb hml hown ht (mk_X11_good l D q cA F _ _ _ hv_20 ) hw_6_123 hmX11_good ⟨rfl, rfl⟩ (na := 0) rfl (by decide +kernel) (by decide) (by decide) rfl rfl hK hP hD hS hA hl.1 rfl (Nat.le_of_ble_eq_true rfl) ⟨Nat.zero_le _, Nat.zero_le _⟩ dX11_number_48 (fun r_22 I_22 R_22 J_22 H locs hp_22 hP hD hS _ _ => ?_)
          rcases hp_22 with ⟨rfl, hu_22, nn_22⟩ | ⟨rfl, hu_22, nn_22⟩
          · cases hu_22
            exact (zR_abs2 nn_22 he_20 (by decide)).elim
          · cases hu_22
            refine lv_if_ne (tgt := 56) hx hb dX11_number_51 (by decide) (fun c_0 => absurd (zD_eq zk_0 zk_z) c_0) (fun _ => ?_)
            refine lv_iconst (v := nI 0) hx hb dX11_number_54 (by decide +kernel) ?_
            exact z_iret (v := nI 0) hx hb hr hlocks hP hD hS dX11_number_55 ⟨⟨⟨hv_20, hf_21, rfl⟩, (mTr_f he_20)⟩, (zR_w zk_0 (by decide))⟩
      · cases hu_4
        exact (zR_abs2 nn_4 nn_1 (by decide)).elim
    · have t_c_2 := z_eqF c_2
      refine lv_aload_n hx hb dX11_number_15 rfl (lv_at hl 0 rfl) ?_
      refine lv_iconst (v := nI 1) hx hb dX11_number_16 (by decide +kernel) ?_
      refine z_callVv (k := 0) (As := [.int (nI 1)]) (rest := []) hx hb hml hown ht (mk_X11_errs l D q cA F _ _ _ hI ) hw_6_146 hmX11_errs ⟨rfl, rfl⟩ (na := 1) rfl (by decide +kernel) (by decide) (by decide) rfl rfl hK hP hD hS hA hl.1 rfl (Nat.le_of_ble_eq_true rfl) ⟨Nat.zero_le _, Nat.zero_le _⟩ dX11_number_17 (fun I_23 R_23 J_23 H locs hp_23 hP hD hS _ _ => ?_)
      obtain ⟨hq_23, he_23⟩ := hp_23
      obtain ⟨hv_23, hk_23, hj_23⟩ := hq_23
      try dsimp only at hj_23 hk_23
      cases hj_23
      have hf_24 : ∀ k, k ≠ 0 → I_23 k = I k := fun k h => (hk_23 k h).trans ((fun (_ : Nat) _ => rfl) k h)
      refine lv_aload_n hx hb dX11_number_20 rfl (lv_at hl 0 rfl) ?_
      refine z_callVi (k := 0) (As := []) (rest := []) hx hb hml hown ht (mk_X11_good l D q cA F _ _ _ hv_23 ) hw_6_123 hmX11_good ⟨rfl, rfl⟩ (na := 0) rfl (by decide +kernel) (by decide) (by decide) rfl rfl hK hP hD hS hA hl.1 rfl (Nat.le_of_ble_eq_true rfl) ⟨Nat.zero_le _, Nat.zero_le _⟩ dX11_number_21 (fun r_25 I_25 R_25 J_25 H locs hp_25 hP hD hS _ _ => ?_)
      rcases hp_25 with ⟨rfl, hu_25, nn_25⟩ | ⟨rfl, hu_25, nn_25⟩
      · cases hu_25
        exact (zR_abs2 nn_25 he_23 (by decide)).elim
      · cases hu_25
        refine lv_if_eq (tgt := 47) hx hb dX11_number_24 (by decide) (fun _ => ?_) (fun c_0 => absurd (zD_eq zk_0 zk_z) c_0)
        refine lv_aload_n hx hb dX11_number_47 rfl (lv_at hl 0 rfl) ?_
        refine z_callVi (k := 0) (As := []) (rest := []) hx hb hml hown ht (mk_X11_good l D q cA F _ _ _ hv_23 ) hw_6_123 hmX11_good ⟨rfl, rfl⟩ (na := 0) rfl (by decide +kernel) (by decide) (by decide) rfl rfl hK hP hD hS hA hl.1 rfl (Nat.le_of_ble_eq_true rfl) ⟨Nat.zero_le _, Nat.zero_le _⟩ dX11_number_48 (fun r_26 I_26 R_26 J_26 H locs hp_26 hP hD hS _ _ => ?_)
        rcases hp_26 with ⟨rfl, hu_26, nn_26⟩ | ⟨rfl, hu_26, nn_26⟩
        · cases hu_26
          exact (zR_abs2 nn_26 nn_25 (by decide)).elim
        · cases hu_26
          refine lv_if_ne (tgt := 56) hx hb dX11_number_51 (by decide) (fun c_0 => absurd (zD_eq zk_0 zk_z) c_0) (fun _ => ?_)
          refine lv_iconst (v := nI 0) hx hb dX11_number_54 (by decide +kernel) ?_
          exact z_iret (v := nI 0) hx hb hr hlocks hP hD hS dX11_number_55 ⟨⟨⟨hv_23, hf_24, rfl⟩, (mTr_f he_23)⟩, (zR_w zk_0 (by decide))⟩
  · cases hu_1
    refine lv_if_eq (tgt := 20) hx hb dX11_number_4 (by decide) (fun _ => ?_) (fun c_0 => absurd (zD_eq zk_0 zk_z) c_0)
    refine lv_aload_n hx hb dX11_number_20 rfl (lv_at hl 0 rfl) ?_
    refine z_callVi (k := 0) (As := []) (rest := []) hx hb hml hown ht (mk_X11_good l D q cA F _ _ _ hI ) hw_6_123 hmX11_good ⟨rfl, rfl⟩ (na := 0) rfl (by decide +kernel) (by decide) (by decide) rfl rfl hK hP hD hS hA hl.1 rfl (Nat.le_of_ble_eq_true rfl) ⟨Nat.zero_le _, Nat.zero_le _⟩ dX11_number_21 (fun r_27 I_27 R_27 J_27 H locs hp_27 hP hD hS _ _ => ?_)
    rcases hp_27 with ⟨rfl, hu_27, nn_27⟩ | ⟨rfl, hu_27, nn_27⟩
    · cases hu_27
      exact (zR_abs2 nn_27 nn_1 (by decide)).elim
    · cases hu_27
      refine lv_if_eq (tgt := 47) hx hb dX11_number_24 (by decide) (fun _ => ?_) (fun c_0 => absurd (zD_eq zk_0 zk_z) c_0)
      refine lv_aload_n hx hb dX11_number_47 rfl (lv_at hl 0 rfl) ?_
      refine z_callVi (k := 0) (As := []) (rest := []) hx hb hml hown ht (mk_X11_good l D q cA F _ _ _ hI ) hw_6_123 hmX11_good ⟨rfl, rfl⟩ (na := 0) rfl (by decide +kernel) (by decide) (by decide) rfl rfl hK hP hD hS hA hl.1 rfl (Nat.le_of_ble_eq_true rfl) ⟨Nat.zero_le _, Nat.zero_le _⟩ dX11_number_48 (fun r_28 I_28 R_28 J_28 H locs hp_28 hP hD hS _ _ => ?_)
      rcases hp_28 with ⟨rfl, hu_28, nn_28⟩ | ⟨rfl, hu_28, nn_28⟩
      · cases hu_28
        exact (zR_abs2 nn_28 nn_27 (by decide)).elim
      · cases hu_28
        refine lv_if_ne (tgt := 56) hx hb dX11_number_51 (by decide) (fun c_0 => absurd (zD_eq zk_0 zk_z) c_0) (fun _ => ?_)
        refine lv_iconst (v := nI 0) hx hb dX11_number_54 (by decide +kernel) ?_
        exact z_iret (v := nI 0) hx hb hr hlocks hP hD hS dX11_number_55 ⟨⟨⟨hI, (fun (_ : Nat) _ => rfl), rfl⟩, (mTr_f nn_28)⟩, (zR_w zk_0 (by decide))⟩
set_option maxHeartbeats 4000000 in
set_option maxRecDepth 100000 in
theorem mk_X11_told_2 (l : Launch) (D : va_G) (q : Nat → Nat) (cA : Nat → ClassId) (ad av : Nat → Nat) (t9 : Nat) (F : Nat → Nat → Int32) (I R : Nat → Nat → Int32) (J : Nat → Nat → Int64) (hI : mInv F (I, R, J))  : zNi (zSS zMRs 25 q ad av t9) l D vwCl (zMtys cA) 25 q (zMd q cA) yX11_told cX11_told 4 (some .int) ({ frames := 7, cells := 0, slots := 0, locals := 151 } : Room) [.ref (q 0), .ref (ad 9), .int (nI 1), .int (nI 999)] (I, R, J) (fun r u => ((mInv F u ∧ (∀ k, k ≠ 0 → u.1 k = I k) ∧ u.2 = (R, J)) ∧ mTr I u.1) ∧ zR 0 999 r) := by
  intro sz
  refine z_bodyN (by decide +kernel) (Nat.le_of_ble_eq_true rfl) (fun p e s m below meth c ls hx hb hml hr ht hown hlocks hsz hK hP hD hS hN hl => ?_)
  have hA : ∀ a, s.heap.size ≤ a → zA 25 q sz a := fun a h => Or.inr (hsz ▸ h)
  have hl : lv_has ls 4 [(0, .ref (q 0)), (1, .ref (ad 9)), (2, .int (nI 1)), (3, .int (nI 999))] := hl
  have hZ : zSz zMRs 25 q ad av t9 sz s := hsz ▸ hN
  refine lv_aload_n hx hb dX11_told_0 rfl (lv_at hl 0 rfl) ?_
  refine lv_aload_n hx hb dX11_told_1 rfl (lv_at hl 1 rfl) ?_
  refine z_cNVv (k := 0) (As := [.ref (ad 9)]) (rest := []) hx hb hml hown ht (mk_X11_needs_2 l D q cA ad av t9 F _ _ _ hI ) hw_6_132 hmX11_needs ⟨rfl, rfl⟩ (na := 1) rfl (by decide +kernel) (by decide) (by decide) rfl rfl hK hP hD hS hA (zSS_c (Rs := zMRs) (t9 := t9) (fun _ _ _ => zMRs_c)) (zSS_w (Rs := zMRs) (t9 := t9) (fun _ _ _ => zMRs_w) hN hsz hS) hl.1 rfl (Nat.le_of_ble_eq_true rfl) ⟨Nat.zero_le _, Nat.zero_le _⟩ dX11_told_2 (fun I_1 R_1 J_1 H locs hp_1 hP hD hS _ _ => ?_)
  obtain ⟨hq_1, he_1⟩ := hp_1
  try dsimp only at he_1
  obtain ⟨hv_1, hk_1, hj_1⟩ := hq_1
  try dsimp only at hj_1 hk_1
  cases hj_1
  have hf_2 : ∀ k, k ≠ 0 → I_1 k = I k := fun k h => (hk_1 k h).trans ((fun (_ : Nat) _ => rfl) k h)
  refine lv_aload_n hx hb dX11_told_5 rfl (lv_at hl 0 rfl) ?_
  refine lv_iload_n hx hb dX11_told_6 rfl (lv_at hl 2 rfl) ?_
  refine lv_iload_n hx hb dX11_told_7 rfl (lv_at hl 3 rfl) ?_
  refine z_callVi (k := 0) (As := [.int (nI 1), .int (nI 999)]) (rest := []) hx hb hml hown ht (mk_X11_number_2 l D q cA F _ _ _ hv_1 ) hw_6_155 hmX11_number ⟨rfl, rfl⟩ (na := 2) rfl (by decide +kernel) (by decide) (by decide) rfl rfl hK hP hD hS hA hl.1 rfl (Nat.le_of_ble_eq_true rfl) ⟨Nat.zero_le _, Nat.zero_le _⟩ dX11_told_8 (fun r_3 I_3 R_3 J_3 H locs hp_3 hP hD hS _ _ => ?_)
  obtain ⟨⟨hq_3, he_3⟩, hr_3⟩ := hp_3
  try dsimp only at he_3
  obtain ⟨hv_3, hk_3, hj_3⟩ := hq_3
  try dsimp only at hj_3 hk_3
  cases hj_3
  have hf_4 : ∀ k, k ≠ 0 → I_3 k = I k := fun k h => (hk_3 k h).trans (hf_2 k h)
  exact z_iret (v := r_3) hx hb hr hlocks hP hD hS dX11_told_11 ⟨⟨⟨hv_3, hf_4, rfl⟩, (mTr_t he_1 he_3)⟩, hr_3⟩
set_option maxHeartbeats 4000000 in
set_option maxRecDepth 100000 in
theorem mk_X11_number_3 (l : Launch) (D : va_G) (q : Nat → Nat) (cA : Nat → ClassId) (F : Nat → Nat → Int32) (I R : Nat → Nat → Int32) (J : Nat → Nat → Int64) (hI : mInv F (I, R, J)) (pa1 : Int32) (hpa1 : zR (-1) 5 pa1) : zMi l D vwCl (zMtys cA) 25 q (zMd q cA) yX11_number cX11_number 4 (some .int) ({ frames := 2, cells := 0, slots := 0, locals := 85 } : Room) [.ref (q 0), .int (nI 0), .int (pa1)] (I, R, J) (fun r u => ((mInv F u ∧ (∀ k, k ≠ 0 → u.1 k = I k) ∧ u.2 = (R, J)) ∧ mTr I u.1) ∧ zR 0 5 r) := by
  intro sz
  refine z_body (by decide +kernel) (Nat.le_of_ble_eq_true rfl) (fun p e s m below meth c ls hx hb hml hr ht hown hlocks hsz hK hP hD hS hl => ?_)
  have hA : ∀ a, s.heap.size ≤ a → zA 25 q sz a := fun a h => Or.inr (hsz ▸ h)
  have hl : lv_has ls 4 [(0, .ref (q 0)), (1, .int (nI 0)), (2, .int (pa1))] := hl
  refine lv_aload_n hx hb dX11_number_0 rfl (lv_at hl 0 rfl) ?_
  refine z_callVi (k := 0) (As := []) (rest := []) hx hb hml hown ht (mk_X11_good l D q cA F _ _ _ hI ) hw_6_123 hmX11_good ⟨rfl, rfl⟩ (na := 0) rfl (by decide +kernel) (by decide) (by decide) rfl rfl hK hP hD hS hA hl.1 rfl (Nat.le_of_ble_eq_true rfl) ⟨Nat.zero_le _, Nat.zero_le _⟩ dX11_number_1 (fun r_1 I_1 R_1 J_1 H locs hp_1 hP hD hS _ _ => ?_)
  rcases hp_1 with ⟨rfl, hu_1, nn_1⟩ | ⟨rfl, hu_1, nn_1⟩
  · cases hu_1
    refine lv_if_eq (tgt := 20) hx hb dX11_number_4 (by decide) (fun c_0 => absurd c_0 (zD_ne zk_1 zk_z (by decide))) (fun _ => ?_)
    refine lv_aload_n hx hb dX11_number_7 rfl (lv_at hl 0 rfl) ?_
    refine z_get hx hb ht hown hK hP ziX11 rfl 0 (by decide) 10 (by decide) hw_5_197 rfl (v := .int (I 0 10)) rfl dX11_number_8 ?_
    refine lv_iconst (v := nI 2) hx hb dX11_number_11 (by decide +kernel) ?_
    refine lv_icmp_eq (tgt := 20) hx hb dX11_number_12 (by decide) (fun c_2 => ?_) (fun c_2 => ?_)
    · have t_c_2 := z_eqT c_2
      have f_3 : zR 2 2 (I 0 10) := zR_eqx t_c_2 zk_2
      refine lv_aload_n hx hb dX11_number_20 rfl (lv_at hl 0 rfl) ?_
      refine z_callVi (k := 0) (As := []) (rest := []) hx hb hml hown ht (mk_X11_good l D q cA F _ _ _ hI ) hw_6_123 hmX11_good ⟨rfl, rfl⟩ (na := 0) rfl (by decide +kernel) (by decide) (by decide) rfl rfl hK hP hD hS hA hl.1 rfl (Nat.le_of_ble_eq_true rfl) ⟨Nat.zero_le _, Nat.zero_le _⟩ dX11_number_21 (fun r_4 I_4 R_4 J_4 H locs hp_4 hP hD hS _ _ => ?_)
      rcases hp_4 with ⟨rfl, hu_4, nn_4⟩ | ⟨rfl, hu_4, nn_4⟩
      · cases hu_4
        refine lv_if_eq (tgt := 47) hx hb dX11_number_24 (by decide) (fun c_0 => absurd c_0 (zD_ne zk_1 zk_z (by decide))) (fun _ => ?_)
        refine lv_aload_n hx hb dX11_number_27 rfl (lv_at hl 0 rfl) ?_
        refine z_get hx hb ht hown hK hP ziX11 rfl 0 (by decide) 11 (by decide) hw_5_198 rfl (v := .int (I 0 11)) rfl dX11_number_28 ?_
        refine lv_i2l (v := (I 0 11).toInt64) hx hb dX11_number_31 rfl ?_
        refine lv_iload_n hx hb dX11_number_32 rfl (lv_at hl 1 rfl) ?_
        refine lv_i2l (v := (0 : Int64)) hx hb dX11_number_33 (by decide +kernel) ?_
        refine lv_iload_n hx hb dX11_number_34 rfl (lv_at hl 2 rfl) ?_
        refine lv_i2l (v := (pa1).toInt64) hx hb dX11_number_35 rfl ?_
        refine z_callSi (As := [.long ((I 0 11).toInt64), .long ((0 : Int64)), .long ((pa1).toInt64)]) (rest := []) hx hb hml hown ht (mk_X11_in l D q cA F _ _ _ hI ((I 0 11).toInt64) ((0 : Int64)) ((pa1).toInt64)) hw_6_86 hmX11_in ⟨rfl, rfl⟩ (na := 3) rfl (by decide +kernel) (by decide) hK hP hD hS hA hl.1 rfl (Nat.le_of_ble_eq_true rfl) ⟨Nat.zero_le _, Nat.zero_le _⟩ dX11_number_36 (fun r_5 I_5 R_5 J_5 H locs hp_5 hP hD hS _ _ => ?_)
        rcases hp_5 with ⟨rfl, hu_5, h1_5, h2_5⟩ | ⟨rfl, hu_5, h1_5 | h2_5⟩
        · cases hu_5
          have f_6 : zL 0 2147483647 ((I 0 11).toInt64) := zL_ley h1_5 zkl_0 (zR_i2l (zR_any (I 0 11))) (by decide)
          have f_7 : zR 0 2147483647 (I 0 11) := zL_back f_6
          have f_8 : zL 0 5 ((I 0 11).toInt64) := zL_lex h2_5 f_6 (zR_i2l hpa1) (by decide)
          have f_9 : zR 0 5 (I 0 11) := zL_back f_8
          have f_10 : zL 0 5 ((pa1).toInt64) := zL_ley h2_5 f_6 (zR_i2l hpa1) (by decide)
          have f_11 : zR 0 5 (pa1) := zL_back f_10
          refine lv_if_ne (tgt := 47) hx hb dX11_number_39 (by decide) (fun _ => ?_) (fun c_0 => absurd c_0 (zD_ne zk_1 zk_z (by decide)))
          refine lv_aload_n hx hb dX11_number_47 rfl (lv_at hl 0 rfl) ?_
          refine z_callVi (k := 0) (As := []) (rest := []) hx hb hml hown ht (mk_X11_good l D q cA F _ _ _ hI ) hw_6_123 hmX11_good ⟨rfl, rfl⟩ (na := 0) rfl (by decide +kernel) (by decide) (by decide) rfl rfl hK hP hD hS hA hl.1 rfl (Nat.le_of_ble_eq_true rfl) ⟨Nat.zero_le _, Nat.zero_le _⟩ dX11_number_48 (fun r_12 I_12 R_12 J_12 H locs hp_12 hP hD hS _ _ => ?_)
          rcases hp_12 with ⟨rfl, hu_12, nn_12⟩ | ⟨rfl, hu_12, nn_12⟩
          · cases hu_12
            refine lv_if_ne (tgt := 56) hx hb dX11_number_51 (by decide) (fun _ => ?_) (fun c_0 => absurd c_0 (zD_ne zk_1 zk_z (by decide)))
            refine lv_aload_n hx hb dX11_number_56 rfl (lv_at hl 0 rfl) ?_
            refine z_get hx hb ht hown hK hP ziX11 rfl 0 (by decide) 11 (by decide) hw_5_198 rfl (v := .int (I 0 11)) rfl dX11_number_57 ?_
            refine lv_istore_n (lv' := [(3, .int (I 0 11)), (0, .ref (q 0)), (1, .int (nI 0)), (2, .int (pa1))]) hx hb dX11_number_60 rfl hl (by decide) rfl (fun ls hl => ?_)
            refine lv_aload_n hx hb dX11_number_61 rfl (lv_at hl 1 rfl) ?_
            refine z_callVv (k := 0) (As := []) (rest := []) hx hb hml hown ht (mk_X11_advance l D q cA F _ _ _ hI ) hw_6_109 hmX11_advance ⟨rfl, rfl⟩ (na := 0) rfl (by decide +kernel) (by decide) (by decide) rfl rfl hK hP hD hS hA hl.1 rfl (Nat.le_of_ble_eq_true rfl) ⟨Nat.zero_le _, Nat.zero_le _⟩ dX11_number_62 (fun I_13 R_13 J_13 H locs hp_13 hP hD hS _ _ => ?_)
            obtain ⟨hq_13, he_13⟩ := hp_13
            try dsimp only at he_13
            obtain ⟨hv_13, hk_13, hj_13⟩ := hq_13
            try dsimp only at hj_13 hk_13
            cases hj_13
            have hf_14 : ∀ k, k ≠ 0 → I_13 k = I k := fun k h => (hk_13 k h).trans ((fun (_ : Nat) _ => rfl) k h)
            refine lv_iload_n hx hb dX11_number_65 rfl (lv_at hl 0 rfl) ?_
            exact z_iret (v := I 0 11) hx hb hr hlocks hP hD hS dX11_number_66 ⟨⟨⟨hv_13, hf_14, rfl⟩, he_13⟩, f_9⟩
          · cases hu_12
            exact (zR_abs2 nn_12 nn_4 (by decide)).elim
        · cases hu_5
          have f_15 : zL (-2147483648) (-1) ((I 0 11).toInt64) := zL_ltx h1_5 (zR_i2l (zR_any (I 0 11))) zkl_0 (by decide)
          have f_16 : zR (-2147483648) (-1) (I 0 11) := zL_back f_15
          refine lv_if_ne (tgt := 47) hx hb dX11_number_39 (by decide) (fun c_0 => absurd (zD_eq zk_0 zk_z) c_0) (fun _ => ?_)
          refine lv_aload_n hx hb dX11_number_42 rfl (lv_at hl 0 rfl) ?_
          refine lv_iconst (v := nI 2) hx hb dX11_number_43 (by decide +kernel) ?_
          refine z_callVv (k := 0) (As := [.int (nI 2)]) (rest := []) hx hb hml hown ht (mk_X11_errs_1 l D q cA F _ _ _ hI ) hw_6_146 hmX11_errs ⟨rfl, rfl⟩ (na := 1) rfl (by decide +kernel) (by decide) (by decide) rfl rfl hK hP hD hS hA hl.1 rfl (Nat.le_of_ble_eq_true rfl) ⟨Nat.zero_le _, Nat.zero_le _⟩ dX11_number_44 (fun I_17 R_17 J_17 H locs hp_17 hP hD hS _ _ => ?_)
          obtain ⟨hq_17, he_17⟩ := hp_17
          obtain ⟨hv_17, hk_17, hj_17⟩ := hq_17
          try dsimp only at hj_17 hk_17
          cases hj_17
          have hf_18 : ∀ k, k ≠ 0 → I_17 k = I k := fun k h => (hk_17 k h).trans ((fun (_ : Nat) _ => rfl) k h)
          refine lv_aload_n hx hb dX11_number_47 rfl (lv_at hl 0 rfl) ?_
          refine z_callVi (k := 0) (As := []) (rest := []) hx hb hml hown ht (mk_X11_good l D q cA F _ _ _ hv_17 ) hw_6_123 hmX11_good ⟨rfl, rfl⟩ (na := 0) rfl (by decide +kernel) (by decide) (by decide) rfl rfl hK hP hD hS hA hl.1 rfl (Nat.le_of_ble_eq_true rfl) ⟨Nat.zero_le _, Nat.zero_le _⟩ dX11_number_48 (fun r_19 I_19 R_19 J_19 H locs hp_19 hP hD hS _ _ => ?_)
          rcases hp_19 with ⟨rfl, hu_19, nn_19⟩ | ⟨rfl, hu_19, nn_19⟩
          · cases hu_19
            exact (zR_abs2 nn_19 he_17 (by decide)).elim
          · cases hu_19
            refine lv_if_ne (tgt := 56) hx hb dX11_number_51 (by decide) (fun c_0 => absurd (zD_eq zk_0 zk_z) c_0) (fun _ => ?_)
            refine lv_iconst (v := nI 0) hx hb dX11_number_54 (by decide +kernel) ?_
            exact z_iret (v := nI 0) hx hb hr hlocks hP hD hS dX11_number_55 ⟨⟨⟨hv_17, hf_18, rfl⟩, (mTr_f he_17)⟩, (zR_w zk_0 (by decide))⟩
        · cases hu_5
          have f_20 : zL 0 2147483647 ((I 0 11).toInt64) := zL_lty h2_5 (zR_i2l hpa1) (zR_i2l (zR_any (I 0 11))) (by decide)
          have f_21 : zR 0 2147483647 (I 0 11) := zL_back f_20
          refine lv_if_ne (tgt := 47) hx hb dX11_number_39 (by decide) (fun c_0 => absurd (zD_eq zk_0 zk_z) c_0) (fun _ => ?_)
          refine lv_aload_n hx hb dX11_number_42 rfl (lv_at hl 0 rfl) ?_
          refine lv_iconst (v := nI 2) hx hb dX11_number_43 (by decide +kernel) ?_
          refine z_callVv (k := 0) (As := [.int (nI 2)]) (rest := []) hx hb hml hown ht (mk_X11_errs_1 l D q cA F _ _ _ hI ) hw_6_146 hmX11_errs ⟨rfl, rfl⟩ (na := 1) rfl (by decide +kernel) (by decide) (by decide) rfl rfl hK hP hD hS hA hl.1 rfl (Nat.le_of_ble_eq_true rfl) ⟨Nat.zero_le _, Nat.zero_le _⟩ dX11_number_44 (fun I_22 R_22 J_22 H locs hp_22 hP hD hS _ _ => ?_)
          obtain ⟨hq_22, he_22⟩ := hp_22
          obtain ⟨hv_22, hk_22, hj_22⟩ := hq_22
          try dsimp only at hj_22 hk_22
          cases hj_22
          have hf_23 : ∀ k, k ≠ 0 → I_22 k = I k := fun k h => (hk_22 k h).trans ((fun (_ : Nat) _ => rfl) k h)
          refine lv_aload_n hx hb dX11_number_47 rfl (lv_at hl 0 rfl) ?_
          refine z_callVi (k := 0) (As := []) (rest := []) hx hb hml hown ht (mk_X11_good l D q cA F _ _ _ hv_22 ) hw_6_123 hmX11_good ⟨rfl, rfl⟩ (na := 0) rfl (by decide +kernel) (by decide) (by decide) rfl rfl hK hP hD hS hA hl.1 rfl (Nat.le_of_ble_eq_true rfl) ⟨Nat.zero_le _, Nat.zero_le _⟩ dX11_number_48 (fun r_24 I_24 R_24 J_24 H locs hp_24 hP hD hS _ _ => ?_)
          rcases hp_24 with ⟨rfl, hu_24, nn_24⟩ | ⟨rfl, hu_24, nn_24⟩
          · cases hu_24
            exact (zR_abs2 nn_24 he_22 (by decide)).elim
          · cases hu_24
            refine lv_if_ne (tgt := 56) hx hb dX11_number_51 (by decide) (fun c_0 => absurd (zD_eq zk_0 zk_z) c_0) (fun _ => ?_)
            refine lv_iconst (v := nI 0) hx hb dX11_number_54 (by decide +kernel) ?_
            exact z_iret (v := nI 0) hx hb hr hlocks hP hD hS dX11_number_55 ⟨⟨⟨hv_22, hf_23, rfl⟩, (mTr_f he_22)⟩, (zR_w zk_0 (by decide))⟩
      · cases hu_4
        exact (zR_abs2 nn_4 nn_1 (by decide)).elim
    · have t_c_2 := z_eqF c_2
      refine lv_aload_n hx hb dX11_number_15 rfl (lv_at hl 0 rfl) ?_
      refine lv_iconst (v := nI 1) hx hb dX11_number_16 (by decide +kernel) ?_
      refine z_callVv (k := 0) (As := [.int (nI 1)]) (rest := []) hx hb hml hown ht (mk_X11_errs l D q cA F _ _ _ hI ) hw_6_146 hmX11_errs ⟨rfl, rfl⟩ (na := 1) rfl (by decide +kernel) (by decide) (by decide) rfl rfl hK hP hD hS hA hl.1 rfl (Nat.le_of_ble_eq_true rfl) ⟨Nat.zero_le _, Nat.zero_le _⟩ dX11_number_17 (fun I_25 R_25 J_25 H locs hp_25 hP hD hS _ _ => ?_)
      obtain ⟨hq_25, he_25⟩ := hp_25
      obtain ⟨hv_25, hk_25, hj_25⟩ := hq_25
      try dsimp only at hj_25 hk_25
      cases hj_25
      have hf_26 : ∀ k, k ≠ 0 → I_25 k = I k := fun k h => (hk_25 k h).trans ((fun (_ : Nat) _ => rfl) k h)
      refine lv_aload_n hx hb dX11_number_20 rfl (lv_at hl 0 rfl) ?_
      refine z_callVi (k := 0) (As := []) (rest := []) hx hb hml hown ht (mk_X11_good l D q cA F _ _ _ hv_25 ) hw_6_123 hmX11_good ⟨rfl, rfl⟩ (na := 0) rfl (by decide +kernel) (by decide) (by decide) rfl rfl hK hP hD hS hA hl.1 rfl (Nat.le_of_ble_eq_true rfl) ⟨Nat.zero_le _, Nat.zero_le _⟩ dX11_number_21 (fun r_27 I_27 R_27 J_27 H locs hp_27 hP hD hS _ _ => ?_)
      rcases hp_27 with ⟨rfl, hu_27, nn_27⟩ | ⟨rfl, hu_27, nn_27⟩
      · cases hu_27
        exact (zR_abs2 nn_27 he_25 (by decide)).elim
      · cases hu_27
        refine lv_if_eq (tgt := 47) hx hb dX11_number_24 (by decide) (fun _ => ?_) (fun c_0 => absurd (zD_eq zk_0 zk_z) c_0)
        refine lv_aload_n hx hb dX11_number_47 rfl (lv_at hl 0 rfl) ?_
        refine z_callVi (k := 0) (As := []) (rest := []) hx hb hml hown ht (mk_X11_good l D q cA F _ _ _ hv_25 ) hw_6_123 hmX11_good ⟨rfl, rfl⟩ (na := 0) rfl (by decide +kernel) (by decide) (by decide) rfl rfl hK hP hD hS hA hl.1 rfl (Nat.le_of_ble_eq_true rfl) ⟨Nat.zero_le _, Nat.zero_le _⟩ dX11_number_48 (fun r_28 I_28 R_28 J_28 H locs hp_28 hP hD hS _ _ => ?_)
        rcases hp_28 with ⟨rfl, hu_28, nn_28⟩ | ⟨rfl, hu_28, nn_28⟩
        · cases hu_28
          exact (zR_abs2 nn_28 nn_27 (by decide)).elim
        · cases hu_28
          refine lv_if_ne (tgt := 56) hx hb dX11_number_51 (by decide) (fun c_0 => absurd (zD_eq zk_0 zk_z) c_0) (fun _ => ?_)
          refine lv_iconst (v := nI 0) hx hb dX11_number_54 (by decide +kernel) ?_
          exact z_iret (v := nI 0) hx hb hr hlocks hP hD hS dX11_number_55 ⟨⟨⟨hv_25, hf_26, rfl⟩, (mTr_f he_25)⟩, (zR_w zk_0 (by decide))⟩
  · cases hu_1
    refine lv_if_eq (tgt := 20) hx hb dX11_number_4 (by decide) (fun _ => ?_) (fun c_0 => absurd (zD_eq zk_0 zk_z) c_0)
    refine lv_aload_n hx hb dX11_number_20 rfl (lv_at hl 0 rfl) ?_
    refine z_callVi (k := 0) (As := []) (rest := []) hx hb hml hown ht (mk_X11_good l D q cA F _ _ _ hI ) hw_6_123 hmX11_good ⟨rfl, rfl⟩ (na := 0) rfl (by decide +kernel) (by decide) (by decide) rfl rfl hK hP hD hS hA hl.1 rfl (Nat.le_of_ble_eq_true rfl) ⟨Nat.zero_le _, Nat.zero_le _⟩ dX11_number_21 (fun r_29 I_29 R_29 J_29 H locs hp_29 hP hD hS _ _ => ?_)
    rcases hp_29 with ⟨rfl, hu_29, nn_29⟩ | ⟨rfl, hu_29, nn_29⟩
    · cases hu_29
      exact (zR_abs2 nn_29 nn_1 (by decide)).elim
    · cases hu_29
      refine lv_if_eq (tgt := 47) hx hb dX11_number_24 (by decide) (fun _ => ?_) (fun c_0 => absurd (zD_eq zk_0 zk_z) c_0)
      refine lv_aload_n hx hb dX11_number_47 rfl (lv_at hl 0 rfl) ?_
      refine z_callVi (k := 0) (As := []) (rest := []) hx hb hml hown ht (mk_X11_good l D q cA F _ _ _ hI ) hw_6_123 hmX11_good ⟨rfl, rfl⟩ (na := 0) rfl (by decide +kernel) (by decide) (by decide) rfl rfl hK hP hD hS hA hl.1 rfl (Nat.le_of_ble_eq_true rfl) ⟨Nat.zero_le _, Nat.zero_le _⟩ dX11_number_48 (fun r_30 I_30 R_30 J_30 H locs hp_30 hP hD hS _ _ => ?_)
      rcases hp_30 with ⟨rfl, hu_30, nn_30⟩ | ⟨rfl, hu_30, nn_30⟩
      · cases hu_30
        exact (zR_abs2 nn_30 nn_29 (by decide)).elim
      · cases hu_30
        refine lv_if_ne (tgt := 56) hx hb dX11_number_51 (by decide) (fun c_0 => absurd (zD_eq zk_0 zk_z) c_0) (fun _ => ?_)
        refine lv_iconst (v := nI 0) hx hb dX11_number_54 (by decide +kernel) ?_
        exact z_iret (v := nI 0) hx hb hr hlocks hP hD hS dX11_number_55 ⟨⟨⟨hI, (fun (_ : Nat) _ => rfl), rfl⟩, (mTr_f nn_30)⟩, (zR_w zk_0 (by decide))⟩
set_option maxHeartbeats 4000000 in
set_option maxRecDepth 100000 in
theorem mk_X11_number_4 (l : Launch) (D : va_G) (q : Nat → Nat) (cA : Nat → ClassId) (F : Nat → Nat → Int32) (I R : Nat → Nat → Int32) (J : Nat → Nat → Int64) (hI : mInv F (I, R, J))  : zMi l D vwCl (zMtys cA) 25 q (zMd q cA) yX11_number cX11_number 4 (some .int) ({ frames := 2, cells := 0, slots := 0, locals := 85 } : Room) [.ref (q 0), .int (nI 1), .int (nI 500)] (I, R, J) (fun r u => ((mInv F u ∧ (∀ k, k ≠ 0 → u.1 k = I k) ∧ u.2 = (R, J)) ∧ mTr I u.1) ∧ zR 0 500 r) := by
  intro sz
  refine z_body (by decide +kernel) (Nat.le_of_ble_eq_true rfl) (fun p e s m below meth c ls hx hb hml hr ht hown hlocks hsz hK hP hD hS hl => ?_)
  have hA : ∀ a, s.heap.size ≤ a → zA 25 q sz a := fun a h => Or.inr (hsz ▸ h)
  have hl : lv_has ls 4 [(0, .ref (q 0)), (1, .int (nI 1)), (2, .int (nI 500))] := hl
  refine lv_aload_n hx hb dX11_number_0 rfl (lv_at hl 0 rfl) ?_
  refine z_callVi (k := 0) (As := []) (rest := []) hx hb hml hown ht (mk_X11_good l D q cA F _ _ _ hI ) hw_6_123 hmX11_good ⟨rfl, rfl⟩ (na := 0) rfl (by decide +kernel) (by decide) (by decide) rfl rfl hK hP hD hS hA hl.1 rfl (Nat.le_of_ble_eq_true rfl) ⟨Nat.zero_le _, Nat.zero_le _⟩ dX11_number_1 (fun r_1 I_1 R_1 J_1 H locs hp_1 hP hD hS _ _ => ?_)
  rcases hp_1 with ⟨rfl, hu_1, nn_1⟩ | ⟨rfl, hu_1, nn_1⟩
  · cases hu_1
    refine lv_if_eq (tgt := 20) hx hb dX11_number_4 (by decide) (fun c_0 => absurd c_0 (zD_ne zk_1 zk_z (by decide))) (fun _ => ?_)
    refine lv_aload_n hx hb dX11_number_7 rfl (lv_at hl 0 rfl) ?_
    refine z_get hx hb ht hown hK hP ziX11 rfl 0 (by decide) 10 (by decide) hw_5_197 rfl (v := .int (I 0 10)) rfl dX11_number_8 ?_
    refine lv_iconst (v := nI 2) hx hb dX11_number_11 (by decide +kernel) ?_
    refine lv_icmp_eq (tgt := 20) hx hb dX11_number_12 (by decide) (fun c_2 => ?_) (fun c_2 => ?_)
    · have t_c_2 := z_eqT c_2
      have f_3 : zR 2 2 (I 0 10) := zR_eqx t_c_2 zk_2
      refine lv_aload_n hx hb dX11_number_20 rfl (lv_at hl 0 rfl) ?_
      refine z_callVi (k := 0) (As := []) (rest := []) hx hb hml hown ht (mk_X11_good l D q cA F _ _ _ hI ) hw_6_123 hmX11_good ⟨rfl, rfl⟩ (na := 0) rfl (by decide +kernel) (by decide) (by decide) rfl rfl hK hP hD hS hA hl.1 rfl (Nat.le_of_ble_eq_true rfl) ⟨Nat.zero_le _, Nat.zero_le _⟩ dX11_number_21 (fun r_4 I_4 R_4 J_4 H locs hp_4 hP hD hS _ _ => ?_)
      rcases hp_4 with ⟨rfl, hu_4, nn_4⟩ | ⟨rfl, hu_4, nn_4⟩
      · cases hu_4
        refine lv_if_eq (tgt := 47) hx hb dX11_number_24 (by decide) (fun c_0 => absurd c_0 (zD_ne zk_1 zk_z (by decide))) (fun _ => ?_)
        refine lv_aload_n hx hb dX11_number_27 rfl (lv_at hl 0 rfl) ?_
        refine z_get hx hb ht hown hK hP ziX11 rfl 0 (by decide) 11 (by decide) hw_5_198 rfl (v := .int (I 0 11)) rfl dX11_number_28 ?_
        refine lv_i2l (v := (I 0 11).toInt64) hx hb dX11_number_31 rfl ?_
        refine lv_iload_n hx hb dX11_number_32 rfl (lv_at hl 1 rfl) ?_
        refine lv_i2l (v := (1 : Int64)) hx hb dX11_number_33 (by decide +kernel) ?_
        refine lv_iload_n hx hb dX11_number_34 rfl (lv_at hl 2 rfl) ?_
        refine lv_i2l (v := (500 : Int64)) hx hb dX11_number_35 (by decide +kernel) ?_
        refine z_callSi (As := [.long ((I 0 11).toInt64), .long ((1 : Int64)), .long ((500 : Int64))]) (rest := []) hx hb hml hown ht (mk_X11_in l D q cA F _ _ _ hI ((I 0 11).toInt64) ((1 : Int64)) ((500 : Int64))) hw_6_86 hmX11_in ⟨rfl, rfl⟩ (na := 3) rfl (by decide +kernel) (by decide) hK hP hD hS hA hl.1 rfl (Nat.le_of_ble_eq_true rfl) ⟨Nat.zero_le _, Nat.zero_le _⟩ dX11_number_36 (fun r_5 I_5 R_5 J_5 H locs hp_5 hP hD hS _ _ => ?_)
        rcases hp_5 with ⟨rfl, hu_5, h1_5, h2_5⟩ | ⟨rfl, hu_5, h1_5 | h2_5⟩
        · cases hu_5
          have f_6 : zL 1 2147483647 ((I 0 11).toInt64) := zL_ley h1_5 zkl_1 (zR_i2l (zR_any (I 0 11))) (by decide)
          have f_7 : zR 1 2147483647 (I 0 11) := zL_back f_6
          have f_8 : zL 1 500 ((I 0 11).toInt64) := zL_lex h2_5 f_6 zkl_500 (by decide)
          have f_9 : zR 1 500 (I 0 11) := zL_back f_8
          refine lv_if_ne (tgt := 47) hx hb dX11_number_39 (by decide) (fun _ => ?_) (fun c_0 => absurd c_0 (zD_ne zk_1 zk_z (by decide)))
          refine lv_aload_n hx hb dX11_number_47 rfl (lv_at hl 0 rfl) ?_
          refine z_callVi (k := 0) (As := []) (rest := []) hx hb hml hown ht (mk_X11_good l D q cA F _ _ _ hI ) hw_6_123 hmX11_good ⟨rfl, rfl⟩ (na := 0) rfl (by decide +kernel) (by decide) (by decide) rfl rfl hK hP hD hS hA hl.1 rfl (Nat.le_of_ble_eq_true rfl) ⟨Nat.zero_le _, Nat.zero_le _⟩ dX11_number_48 (fun r_10 I_10 R_10 J_10 H locs hp_10 hP hD hS _ _ => ?_)
          rcases hp_10 with ⟨rfl, hu_10, nn_10⟩ | ⟨rfl, hu_10, nn_10⟩
          · cases hu_10
            refine lv_if_ne (tgt := 56) hx hb dX11_number_51 (by decide) (fun _ => ?_) (fun c_0 => absurd c_0 (zD_ne zk_1 zk_z (by decide)))
            refine lv_aload_n hx hb dX11_number_56 rfl (lv_at hl 0 rfl) ?_
            refine z_get hx hb ht hown hK hP ziX11 rfl 0 (by decide) 11 (by decide) hw_5_198 rfl (v := .int (I 0 11)) rfl dX11_number_57 ?_
            refine lv_istore_n (lv' := [(3, .int (I 0 11)), (0, .ref (q 0)), (1, .int (nI 1)), (2, .int (nI 500))]) hx hb dX11_number_60 rfl hl (by decide) rfl (fun ls hl => ?_)
            refine lv_aload_n hx hb dX11_number_61 rfl (lv_at hl 1 rfl) ?_
            refine z_callVv (k := 0) (As := []) (rest := []) hx hb hml hown ht (mk_X11_advance l D q cA F _ _ _ hI ) hw_6_109 hmX11_advance ⟨rfl, rfl⟩ (na := 0) rfl (by decide +kernel) (by decide) (by decide) rfl rfl hK hP hD hS hA hl.1 rfl (Nat.le_of_ble_eq_true rfl) ⟨Nat.zero_le _, Nat.zero_le _⟩ dX11_number_62 (fun I_11 R_11 J_11 H locs hp_11 hP hD hS _ _ => ?_)
            obtain ⟨hq_11, he_11⟩ := hp_11
            try dsimp only at he_11
            obtain ⟨hv_11, hk_11, hj_11⟩ := hq_11
            try dsimp only at hj_11 hk_11
            cases hj_11
            have hf_12 : ∀ k, k ≠ 0 → I_11 k = I k := fun k h => (hk_11 k h).trans ((fun (_ : Nat) _ => rfl) k h)
            refine lv_iload_n hx hb dX11_number_65 rfl (lv_at hl 0 rfl) ?_
            exact z_iret (v := I 0 11) hx hb hr hlocks hP hD hS dX11_number_66 ⟨⟨⟨hv_11, hf_12, rfl⟩, he_11⟩, (zR_w f_9 (by decide))⟩
          · cases hu_10
            exact (zR_abs2 nn_10 nn_4 (by decide)).elim
        · cases hu_5
          have f_13 : zL (-2147483648) 0 ((I 0 11).toInt64) := zL_ltx h1_5 (zR_i2l (zR_any (I 0 11))) zkl_1 (by decide)
          have f_14 : zR (-2147483648) 0 (I 0 11) := zL_back f_13
          refine lv_if_ne (tgt := 47) hx hb dX11_number_39 (by decide) (fun c_0 => absurd (zD_eq zk_0 zk_z) c_0) (fun _ => ?_)
          refine lv_aload_n hx hb dX11_number_42 rfl (lv_at hl 0 rfl) ?_
          refine lv_iconst (v := nI 2) hx hb dX11_number_43 (by decide +kernel) ?_
          refine z_callVv (k := 0) (As := [.int (nI 2)]) (rest := []) hx hb hml hown ht (mk_X11_errs_1 l D q cA F _ _ _ hI ) hw_6_146 hmX11_errs ⟨rfl, rfl⟩ (na := 1) rfl (by decide +kernel) (by decide) (by decide) rfl rfl hK hP hD hS hA hl.1 rfl (Nat.le_of_ble_eq_true rfl) ⟨Nat.zero_le _, Nat.zero_le _⟩ dX11_number_44 (fun I_15 R_15 J_15 H locs hp_15 hP hD hS _ _ => ?_)
          obtain ⟨hq_15, he_15⟩ := hp_15
          obtain ⟨hv_15, hk_15, hj_15⟩ := hq_15
          try dsimp only at hj_15 hk_15
          cases hj_15
          have hf_16 : ∀ k, k ≠ 0 → I_15 k = I k := fun k h => (hk_15 k h).trans ((fun (_ : Nat) _ => rfl) k h)
          refine lv_aload_n hx hb dX11_number_47 rfl (lv_at hl 0 rfl) ?_
          refine z_callVi (k := 0) (As := []) (rest := []) hx hb hml hown ht (mk_X11_good l D q cA F _ _ _ hv_15 ) hw_6_123 hmX11_good ⟨rfl, rfl⟩ (na := 0) rfl (by decide +kernel) (by decide) (by decide) rfl rfl hK hP hD hS hA hl.1 rfl (Nat.le_of_ble_eq_true rfl) ⟨Nat.zero_le _, Nat.zero_le _⟩ dX11_number_48 (fun r_17 I_17 R_17 J_17 H locs hp_17 hP hD hS _ _ => ?_)
          rcases hp_17 with ⟨rfl, hu_17, nn_17⟩ | ⟨rfl, hu_17, nn_17⟩
          · cases hu_17
            exact (zR_abs2 nn_17 he_15 (by decide)).elim
          · cases hu_17
            refine lv_if_ne (tgt := 56) hx hb dX11_number_51 (by decide) (fun c_0 => absurd (zD_eq zk_0 zk_z) c_0) (fun _ => ?_)
            refine lv_iconst (v := nI 0) hx hb dX11_number_54 (by decide +kernel) ?_
            exact z_iret (v := nI 0) hx hb hr hlocks hP hD hS dX11_number_55 ⟨⟨⟨hv_15, hf_16, rfl⟩, (mTr_f he_15)⟩, (zR_w zk_0 (by decide))⟩
        · cases hu_5
          have f_18 : zL 501 2147483647 ((I 0 11).toInt64) := zL_lty h2_5 zkl_500 (zR_i2l (zR_any (I 0 11))) (by decide)
          have f_19 : zR 501 2147483647 (I 0 11) := zL_back f_18
          refine lv_if_ne (tgt := 47) hx hb dX11_number_39 (by decide) (fun c_0 => absurd (zD_eq zk_0 zk_z) c_0) (fun _ => ?_)
          refine lv_aload_n hx hb dX11_number_42 rfl (lv_at hl 0 rfl) ?_
          refine lv_iconst (v := nI 2) hx hb dX11_number_43 (by decide +kernel) ?_
          refine z_callVv (k := 0) (As := [.int (nI 2)]) (rest := []) hx hb hml hown ht (mk_X11_errs_1 l D q cA F _ _ _ hI ) hw_6_146 hmX11_errs ⟨rfl, rfl⟩ (na := 1) rfl (by decide +kernel) (by decide) (by decide) rfl rfl hK hP hD hS hA hl.1 rfl (Nat.le_of_ble_eq_true rfl) ⟨Nat.zero_le _, Nat.zero_le _⟩ dX11_number_44 (fun I_20 R_20 J_20 H locs hp_20 hP hD hS _ _ => ?_)
          obtain ⟨hq_20, he_20⟩ := hp_20
          obtain ⟨hv_20, hk_20, hj_20⟩ := hq_20
          try dsimp only at hj_20 hk_20
          cases hj_20
          have hf_21 : ∀ k, k ≠ 0 → I_20 k = I k := fun k h => (hk_20 k h).trans ((fun (_ : Nat) _ => rfl) k h)
          refine lv_aload_n hx hb dX11_number_47 rfl (lv_at hl 0 rfl) ?_
          refine z_callVi (k := 0) (As := []) (rest := []) hx hb hml hown ht (mk_X11_good l D q cA F _ _ _ hv_20 ) hw_6_123 hmX11_good ⟨rfl, rfl⟩ (na := 0) rfl (by decide +kernel) (by decide) (by decide) rfl rfl hK hP hD hS hA hl.1 rfl (Nat.le_of_ble_eq_true rfl) ⟨Nat.zero_le _, Nat.zero_le _⟩ dX11_number_48 (fun r_22 I_22 R_22 J_22 H locs hp_22 hP hD hS _ _ => ?_)
          rcases hp_22 with ⟨rfl, hu_22, nn_22⟩ | ⟨rfl, hu_22, nn_22⟩
          · cases hu_22
            exact (zR_abs2 nn_22 he_20 (by decide)).elim
          · cases hu_22
            refine lv_if_ne (tgt := 56) hx hb dX11_number_51 (by decide) (fun c_0 => absurd (zD_eq zk_0 zk_z) c_0) (fun _ => ?_)
            refine lv_iconst (v := nI 0) hx hb dX11_number_54 (by decide +kernel) ?_
            exact z_iret (v := nI 0) hx hb hr hlocks hP hD hS dX11_number_55 ⟨⟨⟨hv_20, hf_21, rfl⟩, (mTr_f he_20)⟩, (zR_w zk_0 (by decide))⟩
      · cases hu_4
        exact (zR_abs2 nn_4 nn_1 (by decide)).elim
    · have t_c_2 := z_eqF c_2
      refine lv_aload_n hx hb dX11_number_15 rfl (lv_at hl 0 rfl) ?_
      refine lv_iconst (v := nI 1) hx hb dX11_number_16 (by decide +kernel) ?_
      refine z_callVv (k := 0) (As := [.int (nI 1)]) (rest := []) hx hb hml hown ht (mk_X11_errs l D q cA F _ _ _ hI ) hw_6_146 hmX11_errs ⟨rfl, rfl⟩ (na := 1) rfl (by decide +kernel) (by decide) (by decide) rfl rfl hK hP hD hS hA hl.1 rfl (Nat.le_of_ble_eq_true rfl) ⟨Nat.zero_le _, Nat.zero_le _⟩ dX11_number_17 (fun I_23 R_23 J_23 H locs hp_23 hP hD hS _ _ => ?_)
      obtain ⟨hq_23, he_23⟩ := hp_23
      obtain ⟨hv_23, hk_23, hj_23⟩ := hq_23
      try dsimp only at hj_23 hk_23
      cases hj_23
      have hf_24 : ∀ k, k ≠ 0 → I_23 k = I k := fun k h => (hk_23 k h).trans ((fun (_ : Nat) _ => rfl) k h)
      refine lv_aload_n hx hb dX11_number_20 rfl (lv_at hl 0 rfl) ?_
      refine z_callVi (k := 0) (As := []) (rest := []) hx hb hml hown ht (mk_X11_good l D q cA F _ _ _ hv_23 ) hw_6_123 hmX11_good ⟨rfl, rfl⟩ (na := 0) rfl (by decide +kernel) (by decide) (by decide) rfl rfl hK hP hD hS hA hl.1 rfl (Nat.le_of_ble_eq_true rfl) ⟨Nat.zero_le _, Nat.zero_le _⟩ dX11_number_21 (fun r_25 I_25 R_25 J_25 H locs hp_25 hP hD hS _ _ => ?_)
      rcases hp_25 with ⟨rfl, hu_25, nn_25⟩ | ⟨rfl, hu_25, nn_25⟩
      · cases hu_25
        exact (zR_abs2 nn_25 he_23 (by decide)).elim
      · cases hu_25
        refine lv_if_eq (tgt := 47) hx hb dX11_number_24 (by decide) (fun _ => ?_) (fun c_0 => absurd (zD_eq zk_0 zk_z) c_0)
        refine lv_aload_n hx hb dX11_number_47 rfl (lv_at hl 0 rfl) ?_
        refine z_callVi (k := 0) (As := []) (rest := []) hx hb hml hown ht (mk_X11_good l D q cA F _ _ _ hv_23 ) hw_6_123 hmX11_good ⟨rfl, rfl⟩ (na := 0) rfl (by decide +kernel) (by decide) (by decide) rfl rfl hK hP hD hS hA hl.1 rfl (Nat.le_of_ble_eq_true rfl) ⟨Nat.zero_le _, Nat.zero_le _⟩ dX11_number_48 (fun r_26 I_26 R_26 J_26 H locs hp_26 hP hD hS _ _ => ?_)
        rcases hp_26 with ⟨rfl, hu_26, nn_26⟩ | ⟨rfl, hu_26, nn_26⟩
        · cases hu_26
          exact (zR_abs2 nn_26 nn_25 (by decide)).elim
        · cases hu_26
          refine lv_if_ne (tgt := 56) hx hb dX11_number_51 (by decide) (fun c_0 => absurd (zD_eq zk_0 zk_z) c_0) (fun _ => ?_)
          refine lv_iconst (v := nI 0) hx hb dX11_number_54 (by decide +kernel) ?_
          exact z_iret (v := nI 0) hx hb hr hlocks hP hD hS dX11_number_55 ⟨⟨⟨hv_23, hf_24, rfl⟩, (mTr_f he_23)⟩, (zR_w zk_0 (by decide))⟩
  · cases hu_1
    refine lv_if_eq (tgt := 20) hx hb dX11_number_4 (by decide) (fun _ => ?_) (fun c_0 => absurd (zD_eq zk_0 zk_z) c_0)
    refine lv_aload_n hx hb dX11_number_20 rfl (lv_at hl 0 rfl) ?_
    refine z_callVi (k := 0) (As := []) (rest := []) hx hb hml hown ht (mk_X11_good l D q cA F _ _ _ hI ) hw_6_123 hmX11_good ⟨rfl, rfl⟩ (na := 0) rfl (by decide +kernel) (by decide) (by decide) rfl rfl hK hP hD hS hA hl.1 rfl (Nat.le_of_ble_eq_true rfl) ⟨Nat.zero_le _, Nat.zero_le _⟩ dX11_number_21 (fun r_27 I_27 R_27 J_27 H locs hp_27 hP hD hS _ _ => ?_)
    rcases hp_27 with ⟨rfl, hu_27, nn_27⟩ | ⟨rfl, hu_27, nn_27⟩
    · cases hu_27
      exact (zR_abs2 nn_27 nn_1 (by decide)).elim
    · cases hu_27
      refine lv_if_eq (tgt := 47) hx hb dX11_number_24 (by decide) (fun _ => ?_) (fun c_0 => absurd (zD_eq zk_0 zk_z) c_0)
      refine lv_aload_n hx hb dX11_number_47 rfl (lv_at hl 0 rfl) ?_
      refine z_callVi (k := 0) (As := []) (rest := []) hx hb hml hown ht (mk_X11_good l D q cA F _ _ _ hI ) hw_6_123 hmX11_good ⟨rfl, rfl⟩ (na := 0) rfl (by decide +kernel) (by decide) (by decide) rfl rfl hK hP hD hS hA hl.1 rfl (Nat.le_of_ble_eq_true rfl) ⟨Nat.zero_le _, Nat.zero_le _⟩ dX11_number_48 (fun r_28 I_28 R_28 J_28 H locs hp_28 hP hD hS _ _ => ?_)
      rcases hp_28 with ⟨rfl, hu_28, nn_28⟩ | ⟨rfl, hu_28, nn_28⟩
      · cases hu_28
        exact (zR_abs2 nn_28 nn_27 (by decide)).elim
      · cases hu_28
        refine lv_if_ne (tgt := 56) hx hb dX11_number_51 (by decide) (fun c_0 => absurd (zD_eq zk_0 zk_z) c_0) (fun _ => ?_)
        refine lv_iconst (v := nI 0) hx hb dX11_number_54 (by decide +kernel) ?_
        exact z_iret (v := nI 0) hx hb hr hlocks hP hD hS dX11_number_55 ⟨⟨⟨hI, (fun (_ : Nat) _ => rfl), rfl⟩, (mTr_f nn_28)⟩, (zR_w zk_0 (by decide))⟩
set_option maxHeartbeats 4000000 in
set_option maxRecDepth 100000 in
theorem mk_X11_errs_2 (l : Launch) (D : va_G) (q : Nat → Nat) (cA : Nat → ClassId) (F : Nat → Nat → Int32) (I R : Nat → Nat → Int32) (J : Nat → Nat → Int64) (hI : mInv F (I, R, J))  : zMv l D vwCl (zMtys cA) 25 q (zMd q cA) yX11_errs cX11_errs 2 none ({ frames := 1, cells := 0, slots := 0, locals := 20 } : Room) [.ref (q 0), .int (nI 3)] (I, R, J) (fun u => (mInv F u ∧ (∀ k, k ≠ 0 → u.1 k = I k) ∧ u.2 = (R, J)) ∧ zR 1 3 (u.1 0 12)) := by
  intro sz
  refine z_body (by decide +kernel) (Nat.le_of_ble_eq_true rfl) (fun p e s m below meth c ls hx hb hml hr ht hown hlocks hsz hK hP hD hS hl => ?_)
  have hA : ∀ a, s.heap.size ≤ a → zA 25 q sz a := fun a h => Or.inr (hsz ▸ h)
  have hl : lv_has ls 2 [(0, .ref (q 0)), (1, .int (nI 3))] := hl
  refine lv_aload_n hx hb dX11_errs_0 rfl (lv_at hl 0 rfl) ?_
  refine z_callVi (k := 0) (As := []) (rest := []) hx hb hml hown ht (mk_X11_good l D q cA F _ _ _ hI ) hw_6_123 hmX11_good ⟨rfl, rfl⟩ (na := 0) rfl (by decide +kernel) (by decide) (by decide) rfl rfl hK hP hD hS hA hl.1 rfl (Nat.le_of_ble_eq_true rfl) ⟨Nat.zero_le _, Nat.zero_le _⟩ dX11_errs_1 (fun r_1 I_1 R_1 J_1 H locs hp_1 hP hD hS _ _ => ?_)
  rcases hp_1 with ⟨rfl, hu_1, nn_1⟩ | ⟨rfl, hu_1, nn_1⟩
  · cases hu_1
    refine lv_if_ne (tgt := 8) hx hb dX11_errs_4 (by decide) (fun _ => ?_) (fun c_0 => absurd c_0 (zD_ne zk_1 zk_z (by decide)))
    refine lv_aload_n hx hb dX11_errs_8 rfl (lv_at hl 0 rfl) ?_
    refine lv_iload_n hx hb dX11_errs_9 rfl (lv_at hl 1 rfl) ?_
    refine z_putI hx hb ht hown hK hP hD hS ziX11 tyX11 tyX11_ok nmX11 rfl 0 (by decide) 12 (by decide) hw_5_199 rfl (v := nI 3) rfl rfl rfl (Nat.le_of_ble_eq_true rfl) rfl dX11_errs_10 (fun H locs hP hD hS => ?_)
    have hI_2 := mInv_I hI 0 12 (nI 3) (zR_w zk_3 (by decide)) rfl
    have hf_3 : ∀ k, k ≠ 0 → (zp I 0 12 (nI 3)) k = I k := fun k h => (zp_nk h).trans ((fun (_ : Nat) _ => rfl) k h)
    refine lv_aload_n hx hb dX11_errs_13 rfl (lv_at hl 0 rfl) ?_
    refine lv_aload_n hx hb dX11_errs_14 rfl (lv_at hl 0 rfl) ?_
    refine z_get hx hb ht hown hK hP ziX11 rfl 0 (by decide) 9 (by decide) hw_5_196 rfl (v := .int (I 0 9)) rfl dX11_errs_15 ?_
    have f_4 : zR 0 800 (I 0 9) := mI hI 0 9
    refine z_putI hx hb ht hown hK hP hD hS ziX11 tyX11 tyX11_ok nmX11 rfl 0 (by decide) 13 (by decide) hw_5_200 rfl (v := I 0 9) rfl rfl rfl (Nat.le_of_ble_eq_true rfl) rfl dX11_errs_18 (fun H locs hP hD hS => ?_)
    have hI_5 := mInv_I hI_2 0 13 (I 0 9) (zR_any (I 0 9)) rfl
    have hf_6 : ∀ k, k ≠ 0 → (zp (zp I 0 12 (nI 3)) 0 13 (I 0 9)) k = I k := fun k h => (zp_nk h).trans (hf_3 k h)
    exact z_vret hx hb hr hlocks hP hD hS dX11_errs_21 ⟨⟨hI_5, hf_6, rfl⟩, (zR_w zk_3 (by decide))⟩
  · cases hu_1
    refine lv_if_ne (tgt := 8) hx hb dX11_errs_4 (by decide) (fun c_0 => absurd (zD_eq zk_0 zk_z) c_0) (fun _ => ?_)
    exact z_vret hx hb hr hlocks hP hD hS dX11_errs_7 ⟨⟨hI, (fun (_ : Nat) _ => rfl), rfl⟩, nn_1⟩
set_option maxHeartbeats 4000000 in
set_option maxRecDepth 100000 in
theorem mk_J0_coder_7d493_6 (l : Launch) (D : va_G) (q : Nat → Nat) (cA : Nat → ClassId) (ad av : Nat → Nat) (t9 : Nat) (F : Nat → Nat → Int32) (I R : Nat → Nat → Int32) (J : Nat → Nat → Int64) (hI : mInv F (I, R, J))  : zNi (zSS zMRs 25 q ad av t9) l D vwCl (zMtys cA) 25 q (zMd q cA) yJ0_coder_7d493 cJ0_coder_7d493 1 (some .byte) ({ frames := 0, cells := 0, slots := 0, locals := 0 } : Room) [.ref (ad 10)] (I, R, J) (fun r u => r = nI 0 ∧ u = (I, R, J)) := by
  intro sz
  refine z_bodyN (by decide +kernel) (Nat.le_of_ble_eq_true rfl) (fun p e s m below meth c ls hx hb hml hr ht hown hlocks hsz hK hP hD hS hN hl => ?_)
  have hA : ∀ a, s.heap.size ≤ a → zA 25 q sz a := fun a h => Or.inr (hsz ▸ h)
  have hl : lv_has ls 1 [(0, .ref (ad 10))] := hl
  have hZ : zSz zMRs 25 q ad av t9 sz s := hsz ▸ hN
  refine va_gets hx hb hZ.2.1 hS hown (ht _ hw_2_195) (fun _ h => h) dJ0_coder_7d493_0 ?_
  refine z_eqi (y := nI 1) rfl ?_
  refine lv_if_eq (tgt := 13) hx hb dJ0_coder_7d493_3 (by decide) (fun c_0 => absurd c_0 (zD_ne zk_1 zk_z (by decide))) (fun _ => ?_)
  refine lv_aload_n hx hb dJ0_coder_7d493_6 rfl (lv_at hl 0 rfl) ?_
  refine vk_getf hx hb (hZ.1.1 10 (by decide)).2.1 hS hown (ht _ hw_8_165) (fun _ h => h) dJ0_coder_7d493_7 ?_
  refine z_eqi (y := nI 0) rfl ?_
  refine lv_goto (tgt := 14) hx hb dJ0_coder_7d493_10 (by decide) ?_
  exact z_zret (v := nI 0) hx hb hr hlocks hP hD hS (by decide +kernel) dJ0_coder_7d493_14 ⟨rfl, rfl⟩
set_option maxHeartbeats 4000000 in
set_option maxRecDepth 100000 in
theorem mk_J0_length_8abf5_6 (l : Launch) (D : va_G) (q : Nat → Nat) (cA : Nat → ClassId) (ad av : Nat → Nat) (t9 : Nat) (F : Nat → Nat → Int32) (I R : Nat → Nat → Int32) (J : Nat → Nat → Int64) (hI : mInv F (I, R, J))  : zNi (zSS zMRs 25 q ad av t9) l D vwCl (zMtys cA) 25 q (zMd q cA) yJ0_length_8abf5 cJ0_length_8abf5 1 (some .int) ({ frames := 1, cells := 0, slots := 0, locals := 20 } : Room) [.ref (ad 10)] (I, R, J) (fun r u => r = nI 4 ∧ u = (I, R, J)) := by
  intro sz
  refine z_bodyN (by decide +kernel) (Nat.le_of_ble_eq_true rfl) (fun p e s m below meth c ls hx hb hml hr ht hown hlocks hsz hK hP hD hS hN hl => ?_)
  have hA : ∀ a, s.heap.size ≤ a → zA 25 q sz a := fun a h => Or.inr (hsz ▸ h)
  have hl : lv_has ls 1 [(0, .ref (ad 10))] := hl
  have hZ : zSz zMRs 25 q ad av t9 sz s := hsz ▸ hN
  refine lv_aload_n hx hb dJ0_length_8abf5_0 rfl (lv_at hl 0 rfl) ?_
  refine vk_getf hx hb (hZ.1.1 10 (by decide)).2.2.1 hS hown (ht _ hw_8_164) (fun _ h => h) dJ0_length_8abf5_1 ?_
  refine va_tlen hx hb (hZ.1.1 10 (by decide)).2.2.2 hS (v := nI 4) rfl dJ0_length_8abf5_4 ?_
  refine lv_aload_n hx hb dJ0_length_8abf5_5 rfl (lv_at hl 0 rfl) ?_
  refine z_cNXi (As := []) (rest := [.int (nI 4)]) hx hb hml hown ht (mk_J0_coder_7d493_6 l D q cA ad av t9 F _ _ _ hI ) hw_2_191 hmJ0_coder_7d493 ⟨rfl, rfl⟩ (na := 0) rfl (by decide +kernel) (by decide) (vk_recv hZ.1 (by decide) hS) hK hP hD hS hA (zSS_c (Rs := zMRs) (t9 := t9) (fun _ _ _ => zMRs_c)) (zSS_w (Rs := zMRs) (t9 := t9) (fun _ _ _ => zMRs_w) hN hsz hS) hl.1 rfl (Nat.le_of_ble_eq_true rfl) ⟨Nat.zero_le _, Nat.zero_le _⟩ dJ0_length_8abf5_6 (fun r_1 I_1 R_1 J_1 H locs hp_1 hP hD hS _ _ => ?_)
  obtain ⟨rfl, hu_1⟩ := hp_1
  cases hu_1
  refine lv_ishr hx hb dJ0_length_8abf5_9 ?_
  refine z_eqi (y := nI 4) (by decide +kernel) ?_
  exact z_iret (v := nI 4) hx hb hr hlocks hP hD hS dJ0_length_8abf5_10 ⟨rfl, rfl⟩
set_option maxHeartbeats 4000000 in
set_option maxRecDepth 100000 in
theorem mk_J0_isLatin1_aae02_6 (l : Launch) (D : va_G) (q : Nat → Nat) (cA : Nat → ClassId) (ad av : Nat → Nat) (t9 : Nat) (F : Nat → Nat → Int32) (I R : Nat → Nat → Int32) (J : Nat → Nat → Int64) (hI : mInv F (I, R, J))  : zNi (zSS zMRs 25 q ad av t9) l D vwCl (zMtys cA) 25 q (zMd q cA) yJ0_isLatin1_aae02 cJ0_isLatin1_aae02 1 (some .boolean) ({ frames := 0, cells := 0, slots := 0, locals := 0 } : Room) [.ref (ad 10)] (I, R, J) (fun r u => (r = nI 1 ∧ u = (I, R, J))) := by
  intro sz
  refine z_bodyN (by decide +kernel) (Nat.le_of_ble_eq_true rfl) (fun p e s m below meth c ls hx hb hml hr ht hown hlocks hsz hK hP hD hS hN hl => ?_)
  have hA : ∀ a, s.heap.size ≤ a → zA 25 q sz a := fun a h => Or.inr (hsz ▸ h)
  have hl : lv_has ls 1 [(0, .ref (ad 10))] := hl
  have hZ : zSz zMRs 25 q ad av t9 sz s := hsz ▸ hN
  refine va_gets hx hb hZ.2.1 hS hown (ht _ hw_2_195) (fun _ h => h) dJ0_isLatin1_aae02_0 ?_
  refine z_eqi (y := nI 1) rfl ?_
  refine lv_if_eq (tgt := 17) hx hb dJ0_isLatin1_aae02_3 (by decide) (fun c_0 => absurd c_0 (zD_ne zk_1 zk_z (by decide))) (fun _ => ?_)
  refine lv_aload_n hx hb dJ0_isLatin1_aae02_6 rfl (lv_at hl 0 rfl) ?_
  refine vk_getf hx hb (hZ.1.1 10 (by decide)).2.1 hS hown (ht _ hw_8_165) (fun _ h => h) dJ0_isLatin1_aae02_7 ?_
  refine z_eqi (y := nI 0) rfl ?_
  refine lv_if_ne (tgt := 17) hx hb dJ0_isLatin1_aae02_10 (by decide) (fun c_0 => absurd (zD_eq zk_0 zk_z) c_0) (fun _ => ?_)
  refine lv_iconst (v := nI 1) hx hb dJ0_isLatin1_aae02_13 (by decide +kernel) ?_
  refine lv_goto (tgt := 18) hx hb dJ0_isLatin1_aae02_14 (by decide) ?_
  exact z_zret (v := nI 1) hx hb hr hlocks hP hD hS (by decide +kernel) dJ0_isLatin1_aae02_18 ⟨rfl, rfl⟩
set_option maxHeartbeats 4000000 in
set_option maxRecDepth 100000 in
theorem mk_J3_checkIndex_8e157_12 (l : Launch) (D : va_G) (q : Nat → Nat) (cA : Nat → ClassId) (ad av : Nat → Nat) (t9 : Nat) (F : Nat → Nat → Int32) (I R : Nat → Nat → Int32) (J : Nat → Nat → Int64) (hI : mInv F (I, R, J)) (pa0 : Int32) (hpa0 : zR 0 3 pa0) : zNi (zSS zMRs 25 q ad av t9) l D vwCl (zMtys cA) 25 q (zMd q cA) yJ3_checkIndex_8e157 cJ3_checkIndex_8e157 3 (some .int) ({ frames := 0, cells := 0, slots := 0, locals := 0 } : Room) [.int (pa0), .int (nI 4), .null] (I, R, J) (fun r u => zR 0 3 r ∧ u = (I, R, J)) := by
  intro sz
  refine z_bodyN (by decide +kernel) (Nat.le_of_ble_eq_true rfl) (fun p e s m below meth c ls hx hb hml hr ht hown hlocks hsz hK hP hD hS hN hl => ?_)
  have hA : ∀ a, s.heap.size ≤ a → zA 25 q sz a := fun a h => Or.inr (hsz ▸ h)
  have hl : lv_has ls 3 [(0, .int (pa0)), (1, .int (nI 4)), (2, .null)] := hl
  have hZ : zSz zMRs 25 q ad av t9 sz s := hsz ▸ hN
  refine lv_iload_n hx hb dJ3_checkIndex_8e157_0 rfl (lv_at hl 0 rfl) ?_
  refine lv_if_lt (tgt := 9) hx hb dJ3_checkIndex_8e157_1 (by decide) (fun c_0 => absurd c_0 (zD_nlt hpa0 zk_z (by decide))) (fun _ => ?_)
  refine lv_iload_n hx hb dJ3_checkIndex_8e157_4 rfl (lv_at hl 0 rfl) ?_
  refine lv_iload_n hx hb dJ3_checkIndex_8e157_5 rfl (lv_at hl 1 rfl) ?_
  refine lv_icmp_lt (tgt := 16) hx hb dJ3_checkIndex_8e157_6 (by decide) (fun _ => ?_) (fun c_0 => absurd (zD_lt hpa0 zk_4 (by decide)) c_0)
  refine lv_iload_n hx hb dJ3_checkIndex_8e157_16 rfl (lv_at hl 0 rfl) ?_
  exact z_iret (v := pa0) hx hb hr hlocks hP hD hS dJ3_checkIndex_8e157_17 ⟨hpa0, rfl⟩
set_option maxHeartbeats 4000000 in
set_option maxRecDepth 100000 in
theorem mk_J3_checkIndex_8e157_13 (l : Launch) (D : va_G) (q : Nat → Nat) (cA : Nat → ClassId) (ad av : Nat → Nat) (t9 : Nat) (F : Nat → Nat → Int32) (I R : Nat → Nat → Int32) (J : Nat → Nat → Int64) (hI : mInv F (I, R, J)) (pa0 : Int32) (hpa0 : zR 0 3 pa0) : zNi (zSS zMRs 25 q ad av t9) l D vwCl (zMtys cA) 25 q (zMd q cA) yJ3_checkIndex_8e157 cJ3_checkIndex_8e157 3 (some .int) ({ frames := 0, cells := 0, slots := 0, locals := 0 } : Room) [.int (pa0), .int (nI 4), .ref (t9)] (I, R, J) (fun r u => zR 0 3 r ∧ u = (I, R, J)) := by
  intro sz
  refine z_bodyN (by decide +kernel) (Nat.le_of_ble_eq_true rfl) (fun p e s m below meth c ls hx hb hml hr ht hown hlocks hsz hK hP hD hS hN hl => ?_)
  have hA : ∀ a, s.heap.size ≤ a → zA 25 q sz a := fun a h => Or.inr (hsz ▸ h)
  have hl : lv_has ls 3 [(0, .int (pa0)), (1, .int (nI 4)), (2, .ref (t9))] := hl
  have hZ : zSz zMRs 25 q ad av t9 sz s := hsz ▸ hN
  refine lv_iload_n hx hb dJ3_checkIndex_8e157_0 rfl (lv_at hl 0 rfl) ?_
  refine lv_if_lt (tgt := 9) hx hb dJ3_checkIndex_8e157_1 (by decide) (fun c_0 => absurd c_0 (zD_nlt hpa0 zk_z (by decide))) (fun _ => ?_)
  refine lv_iload_n hx hb dJ3_checkIndex_8e157_4 rfl (lv_at hl 0 rfl) ?_
  refine lv_iload_n hx hb dJ3_checkIndex_8e157_5 rfl (lv_at hl 1 rfl) ?_
  refine lv_icmp_lt (tgt := 16) hx hb dJ3_checkIndex_8e157_6 (by decide) (fun _ => ?_) (fun c_0 => absurd (zD_lt hpa0 zk_4 (by decide)) c_0)
  refine lv_iload_n hx hb dJ3_checkIndex_8e157_16 rfl (lv_at hl 0 rfl) ?_
  exact z_iret (v := pa0) hx hb hr hlocks hP hD hS dJ3_checkIndex_8e157_17 ⟨hpa0, rfl⟩
set_option maxHeartbeats 4000000 in
set_option maxRecDepth 100000 in
theorem mk_J0_checkIndex_df160_6 (l : Launch) (D : va_G) (q : Nat → Nat) (cA : Nat → ClassId) (ad av : Nat → Nat) (t9 : Nat) (F : Nat → Nat → Int32) (I R : Nat → Nat → Int32) (J : Nat → Nat → Int64) (hI : mInv F (I, R, J)) (pa0 : Int32) (hpa0 : zR 0 3 pa0) : zNv (zSS zMRs 25 q ad av t9) l D vwCl (zMtys cA) 25 q (zMd q cA) yJ0_checkIndex_df160 cJ0_checkIndex_df160 2 none ({ frames := 1, cells := 0, slots := 0, locals := 22 } : Room) [.int (pa0), .int (nI 4)] (I, R, J) (fun u => u = (I, R, J)) := by
  intro sz
  refine z_bodyN (by decide +kernel) (Nat.le_of_ble_eq_true rfl) (fun p e s m below meth c ls hx hb hml hr ht hown hlocks hsz hK hP hD hS hN hl => ?_)
  have hA : ∀ a, s.heap.size ≤ a → zA 25 q sz a := fun a h => Or.inr (hsz ▸ h)
  have hl : lv_has ls 2 [(0, .int (pa0)), (1, .int (nI 4))] := hl
  have hZ : zSz zMRs 25 q ad av t9 sz s := hsz ▸ hN
  refine lv_iload_n hx hb dJ0_checkIndex_df160_0 rfl (lv_at hl 0 rfl) ?_
  refine lv_iload_n hx hb dJ0_checkIndex_df160_1 rfl (lv_at hl 1 rfl) ?_
  rcases hZ.2.2.1 with hz9 | ⟨t9, hz9⟩
  · refine va_gets hx hb hz9 hS hown (ht _ hw_2_211) (fun _ h => h) dJ0_checkIndex_df160_2 ?_
    refine z_cNSi (As := [.int (pa0), .int (nI 4), .null]) (rest := []) hx hb hml hown ht (mk_J3_checkIndex_8e157_12 l D q cA ad av t9 F _ _ _ hI (pa0) hpa0) hw_2_213 hmJ3_checkIndex_8e157 ⟨rfl, rfl⟩ (na := 3) rfl (by decide +kernel) (by decide) hK hP hD hS hA (zSS_c (Rs := zMRs) (t9 := t9) (fun _ _ _ => zMRs_c)) (zSS_w (Rs := zMRs) (t9 := t9) (fun _ _ _ => zMRs_w) hN hsz hS) hl.1 rfl (Nat.le_of_ble_eq_true rfl) ⟨Nat.zero_le _, Nat.zero_le _⟩ dJ0_checkIndex_df160_5 (fun r_1 I_1 R_1 J_1 H locs hp_1 hP hD hS _ _ => ?_)
    obtain ⟨hr_1, hu_1⟩ := hp_1
    cases hu_1
    refine lv_pop hx hb dJ0_checkIndex_df160_8 rfl ?_
    exact z_vret hx hb hr hlocks hP hD hS dJ0_checkIndex_df160_9 rfl
  · refine va_gets hx hb hz9 hS hown (ht _ hw_2_211) (fun _ h => h) dJ0_checkIndex_df160_2 ?_
    refine z_cNSi (As := [.int (pa0), .int (nI 4), .ref (t9)]) (rest := []) hx hb hml hown ht (mk_J3_checkIndex_8e157_13 l D q cA ad av t9 F _ _ _ hI (pa0) hpa0) hw_2_213 hmJ3_checkIndex_8e157 ⟨rfl, rfl⟩ (na := 3) rfl (by decide +kernel) (by decide) hK hP hD hS hA (zSS_c (Rs := zMRs) (t9 := t9) (fun _ _ _ => zMRs_c)) (zSS_w (Rs := zMRs) (t9 := t9) (fun _ _ _ => zMRs_w) hN hsz hS) hl.1 rfl (Nat.le_of_ble_eq_true rfl) ⟨Nat.zero_le _, Nat.zero_le _⟩ dJ0_checkIndex_df160_5 (fun r_2 I_2 R_2 J_2 H locs hp_2 hP hD hS _ _ => ?_)
    obtain ⟨hr_2, hu_2⟩ := hp_2
    cases hu_2
    refine lv_pop hx hb dJ0_checkIndex_df160_8 rfl ?_
    exact z_vret hx hb hr hlocks hP hD hS dJ0_checkIndex_df160_9 rfl
set_option maxHeartbeats 4000000 in
set_option maxRecDepth 100000 in
theorem mk_J1_charAt_3b067_12 (l : Launch) (D : va_G) (q : Nat → Nat) (cA : Nat → ClassId) (ad av : Nat → Nat) (t9 : Nat) (F : Nat → Nat → Int32) (I R : Nat → Nat → Int32) (J : Nat → Nat → Int64) (hI : mInv F (I, R, J)) (pa1 : Int32) (hpa1 : zR 0 3 pa1) : zNi (zSS zMRs 25 q ad av t9) l D vwCl (zMtys cA) 25 q (zMd q cA) yJ1_charAt_3b067 cJ1_charAt_3b067 2 (some .char) ({ frames := 2, cells := 0, slots := 0, locals := 43 } : Room) [.ref (av 10), .int (pa1)] (I, R, J) (fun r u => (r = zch 10 (pa1).toNatClampNeg ∧ zR 0 65535 r) ∧ u = (I, R, J)) := by
  intro sz
  refine z_bodyN (by decide +kernel) (Nat.le_of_ble_eq_true rfl) (fun p e s m below meth c ls hx hb hml hr ht hown hlocks hsz hK hP hD hS hN hl => ?_)
  have hA : ∀ a, s.heap.size ≤ a → zA 25 q sz a := fun a h => Or.inr (hsz ▸ h)
  have hl : lv_has ls 2 [(0, .ref (av 10)), (1, .int (pa1))] := hl
  have hZ : zSz zMRs 25 q ad av t9 sz s := hsz ▸ hN
  refine lv_iload_n hx hb dJ1_charAt_3b067_0 rfl (lv_at hl 1 rfl) ?_
  refine lv_aload_n hx hb dJ1_charAt_3b067_1 rfl (lv_at hl 0 rfl) ?_
  refine va_tlen hx hb (hZ.1.1 10 (by decide)).2.2.2 hS (v := nI 4) rfl dJ1_charAt_3b067_2 ?_
  refine z_cNSv (As := [.int (pa1), .int (nI 4)]) (rest := []) hx hb hml hown ht (mk_J0_checkIndex_df160_6 l D q cA ad av t9 F _ _ _ hI (pa1) hpa1) hw_2_208 hmJ0_checkIndex_df160 ⟨rfl, rfl⟩ (na := 2) rfl (by decide +kernel) (by decide) hK hP hD hS hA (zSS_c (Rs := zMRs) (t9 := t9) (fun _ _ _ => zMRs_c)) (zSS_w (Rs := zMRs) (t9 := t9) (fun _ _ _ => zMRs_w) hN hsz hS) hl.1 rfl (Nat.le_of_ble_eq_true rfl) ⟨Nat.zero_le _, Nat.zero_le _⟩ dJ1_charAt_3b067_3 (fun I_1 R_1 J_1 H locs hp_1 hP hD hS _ _ => ?_)
  cases hp_1
  refine lv_aload_n hx hb dJ1_charAt_3b067_6 rfl (lv_at hl 0 rfl) ?_
  refine lv_iload_n hx hb dJ1_charAt_3b067_7 rfl (lv_at hl 1 rfl) ?_
  refine va_tb hx hb (hZ.1.1 10 (by decide)).2.2.2 hS (zR_vin hpa1 (by decide)) (v := .int ((zByt.getD 10 []).getD (pa1).toNatClampNeg 0)) rfl dJ1_charAt_3b067_8 ?_
  refine lv_sipush (v := nI 255) hx hb dJ1_charAt_3b067_9 (by decide +kernel) ?_
  refine lv_iand hx hb dJ1_charAt_3b067_12 ?_
  refine lv_i2c (v := ((((zByt.getD 10 []).getD (pa1).toNatClampNeg 0) &&& (nI 255)).toUInt32 % 65536).toInt32) hx hb dJ1_charAt_3b067_13 rfl ?_
  exact z_zret (v := ((((zByt.getD 10 []).getD (pa1).toNatClampNeg 0) &&& (nI 255)).toUInt32 % 65536).toInt32) hx hb hr hlocks hP hD hS (zR_char (zR_i2c _)) dJ1_charAt_3b067_14 ⟨⟨rfl, (zR_i2c _)⟩, rfl⟩
set_option maxHeartbeats 4000000 in
set_option maxRecDepth 100000 in
theorem mk_J0_charAt_5068e_12 (l : Launch) (D : va_G) (q : Nat → Nat) (cA : Nat → ClassId) (ad av : Nat → Nat) (t9 : Nat) (F : Nat → Nat → Int32) (I R : Nat → Nat → Int32) (J : Nat → Nat → Int64) (hI : mInv F (I, R, J)) (pa0 : Int32) (hpa0 : zR 0 3 pa0) : zNi (zSS zMRs 25 q ad av t9) l D vwCl (zMtys cA) 25 q (zMd q cA) yJ0_charAt_5068e cJ0_charAt_5068e 2 (some .char) ({ frames := 3, cells := 0, slots := 0, locals := 64 } : Room) [.ref (ad 10), .int (pa0)] (I, R, J) (fun r u => (r = zch 10 (pa0).toNatClampNeg ∧ zR 0 65535 r) ∧ u = (I, R, J)) := by
  intro sz
  refine z_bodyN (by decide +kernel) (Nat.le_of_ble_eq_true rfl) (fun p e s m below meth c ls hx hb hml hr ht hown hlocks hsz hK hP hD hS hN hl => ?_)
  have hA : ∀ a, s.heap.size ≤ a → zA 25 q sz a := fun a h => Or.inr (hsz ▸ h)
  have hl : lv_has ls 2 [(0, .ref (ad 10)), (1, .int (pa0))] := hl
  have hZ : zSz zMRs 25 q ad av t9 sz s := hsz ▸ hN
  refine lv_aload_n hx hb dJ0_charAt_5068e_0 rfl (lv_at hl 0 rfl) ?_
  refine z_cNXi (As := []) (rest := []) hx hb hml hown ht (mk_J0_isLatin1_aae02_6 l D q cA ad av t9 F _ _ _ hI ) hw_2_201 hmJ0_isLatin1_aae02 ⟨rfl, rfl⟩ (na := 0) rfl (by decide +kernel) (by decide) (vk_recv hZ.1 (by decide) hS) hK hP hD hS hA (zSS_c (Rs := zMRs) (t9 := t9) (fun _ _ _ => zMRs_c)) (zSS_w (Rs := zMRs) (t9 := t9) (fun _ _ _ => zMRs_w) hN hsz hS) hl.1 rfl (Nat.le_of_ble_eq_true rfl) ⟨Nat.zero_le _, Nat.zero_le _⟩ dJ0_charAt_5068e_1 (fun r_1 I_1 R_1 J_1 H locs hp_1 hP hD hS _ _ => ?_)
  obtain ⟨rfl, hu_1⟩ := hp_1
  cases hu_1
  refine lv_if_eq (tgt := 16) hx hb dJ0_charAt_5068e_4 (by decide) (fun c_0 => absurd c_0 (zD_ne zk_1 zk_z (by decide))) (fun _ => ?_)
  refine lv_aload_n hx hb dJ0_charAt_5068e_7 rfl (lv_at hl 0 rfl) ?_
  refine vk_getf hx hb (hZ.1.1 10 (by decide)).2.2.1 hS hown (ht _ hw_8_164) (fun _ h => h) dJ0_charAt_5068e_8 ?_
  refine lv_iload_n hx hb dJ0_charAt_5068e_11 rfl (lv_at hl 1 rfl) ?_
  refine z_cNSi (As := [.ref (av 10), .int (pa0)]) (rest := []) hx hb hml hown ht (mk_J1_charAt_3b067_12 l D q cA ad av t9 F _ _ _ hI (pa0) hpa0) hw_2_205 hmJ1_charAt_3b067 ⟨rfl, rfl⟩ (na := 2) rfl (by decide +kernel) (by decide) hK hP hD hS hA (zSS_c (Rs := zMRs) (t9 := t9) (fun _ _ _ => zMRs_c)) (zSS_w (Rs := zMRs) (t9 := t9) (fun _ _ _ => zMRs_w) hN hsz hS) hl.1 rfl (Nat.le_of_ble_eq_true rfl) ⟨Nat.zero_le _, Nat.zero_le _⟩ dJ0_charAt_5068e_12 (fun r_2 I_2 R_2 J_2 H locs hp_2 hP hD hS _ _ => ?_)
  obtain ⟨⟨rfl, hr_2⟩, hu_2⟩ := hp_2
  cases hu_2
  exact z_zret (v := zch 10 (pa0).toNatClampNeg) hx hb hr hlocks hP hD hS (zR_char hr_2) dJ0_charAt_5068e_15 ⟨⟨rfl, hr_2⟩, rfl⟩
set_option maxHeartbeats 4000000 in
set_option maxRecDepth 100000 in
theorem mk_X11_is_6 (l : Launch) (D : va_G) (q : Nat → Nat) (cA : Nat → ClassId) (ad av : Nat → Nat) (t9 : Nat) (F : Nat → Nat → Int32) (I R : Nat → Nat → Int32) (J : Nat → Nat → Int64) (hI : mInv F (I, R, J))  : zNi (zSS zMRs 25 q ad av t9) l D vwCl (zMtys cA) 25 q (zMd q cA) yX11_is cX11_is 4 (some .boolean) ({ frames := 4, cells := 0, slots := 0, locals := 85 } : Room) [.ref (q 0), .ref (ad 10)] (I, R, J) (fun r u => (r = nI 1 ∧ u = (I, R, J) ∧ mIs 10 I R) ∨ (r = nI 0 ∧ u = (I, R, J) ∧ ¬ mIs 10 I R)) := by
  intro sz
  refine z_bodyN (by decide +kernel) (Nat.le_of_ble_eq_true rfl) (fun p e s m below meth c ls hx hb hml hr ht hown hlocks hsz hK hP hD hS hN hl => ?_)
  have hA : ∀ a, s.heap.size ≤ a → zA 25 q sz a := fun a h => Or.inr (hsz ▸ h)
  have hl : lv_has ls 4 [(0, .ref (q 0)), (1, .ref (ad 10))] := hl
  have hZ : zSz zMRs 25 q ad av t9 sz s := hsz ▸ hN
  refine lv_aload_n hx hb dX11_is_0 rfl (lv_at hl 0 rfl) ?_
  refine z_callVi (k := 0) (As := []) (rest := []) hx hb hml hown ht (mk_X11_good l D q cA F _ _ _ hI ) hw_6_123 hmX11_good ⟨rfl, rfl⟩ (na := 0) rfl (by decide +kernel) (by decide) (by decide) rfl rfl hK hP hD hS hA hl.1 rfl (Nat.le_of_ble_eq_true rfl) ⟨Nat.zero_le _, Nat.zero_le _⟩ dX11_is_1 (fun r_1 I_1 R_1 J_1 H locs hp_1 hP hD hS _ _ => ?_)
  rcases hp_1 with ⟨rfl, hu_1, nn_1⟩ | ⟨rfl, hu_1, nn_1⟩
  · cases hu_1
    refine lv_if_eq (tgt := 35) hx hb dX11_is_4 (by decide) (fun c_0 => absurd c_0 (zD_ne zk_1 zk_z (by decide))) (fun _ => ?_)
    refine lv_aload_n hx hb dX11_is_7 rfl (lv_at hl 0 rfl) ?_
    refine z_get hx hb ht hown hK hP ziX11 rfl 0 (by decide) 10 (by decide) hw_5_197 rfl (v := .int (I 0 10)) rfl dX11_is_8 ?_
    refine lv_iconst (v := nI 1) hx hb dX11_is_11 (by decide +kernel) ?_
    refine lv_icmp_ne (tgt := 35) hx hb dX11_is_12 (by decide) (fun c_2 => ?_) (fun c_2 => ?_)
    · have t_c_2 := z_eqF c_2
      refine lv_iconst (v := nI 0) hx hb dX11_is_35 (by decide +kernel) ?_
      refine lv_istore_n (lv' := [(2, .int (nI 0)), (0, .ref (q 0)), (1, .ref (ad 10))]) hx hb dX11_is_36 rfl hl (by decide) rfl (fun ls hl => ?_)
      refine lv_iconst (v := nI 0) hx hb dX11_is_37 (by decide +kernel) ?_
      refine lv_istore_n (lv' := [(3, .int (nI 0)), (2, .int (nI 0)), (0, .ref (q 0)), (1, .ref (ad 10))]) hx hb dX11_is_38 rfl hl (by decide) rfl (fun ls hl => ?_)
      refine lv_iload_n hx hb dX11_is_39 rfl (lv_at hl 0 rfl) ?_
      refine lv_aload_n hx hb dX11_is_40 rfl (lv_at hl 3 rfl) ?_
      refine z_cNXi (As := []) (rest := [.int (nI 0)]) hx hb hml hown ht (mk_J0_length_8abf5_6 l D q cA ad av t9 F _ _ _ hI ) hw_6_144 hmJ0_length_8abf5 ⟨rfl, rfl⟩ (na := 0) rfl (by decide +kernel) (by decide) (vk_recv hZ.1 (by decide) hS) hK hP hD hS hA (zSS_c (Rs := zMRs) (t9 := t9) (fun _ _ _ => zMRs_c)) (zSS_w (Rs := zMRs) (t9 := t9) (fun _ _ _ => zMRs_w) hN hsz hS) hl.1 rfl (Nat.le_of_ble_eq_true rfl) ⟨Nat.zero_le _, Nat.zero_le _⟩ dX11_is_41 (fun r_5 I_5 R_5 J_5 H locs hp_5 hP hD hS _ _ => ?_)
      obtain ⟨rfl, hu_5⟩ := hp_5
      cases hu_5
      refine lv_icmp_ge (tgt := 82) hx hb dX11_is_44 (by decide) (fun c_0 => absurd c_0 (zD_nle zk_4 zk_0 (by decide))) (fun _ => ?_)
      refine lv_iload_n hx hb dX11_is_47 rfl (lv_at hl 1 rfl) ?_
      refine lv_if_eq (tgt := 82) hx hb dX11_is_48 (by decide) (fun _ => ?_) (fun c_0 => absurd (zD_eq zk_0 zk_z) c_0)
      refine lv_iload_n hx hb dX11_is_82 rfl (lv_at hl 1 rfl) ?_
      exact z_zret (v := nI 0) hx hb hr hlocks hP hD hS (by decide +kernel) dX11_is_83 (Or.inr ⟨rfl, rfl, (mIs_n2 t_c_2)⟩)
    · have t_c_2 := z_eqT c_2
      have f_6 : zR 1 1 (I 0 10) := zR_eqx t_c_2 zk_1
      refine lv_aload_n hx hb dX11_is_15 rfl (lv_at hl 0 rfl) ?_
      refine z_get hx hb ht hown hK hP ziX11 rfl 0 (by decide) 8 (by decide) hw_5_195 rfl (v := .int (I 0 8)) rfl dX11_is_16 ?_
      have f_7 : zR 0 800 (I 0 8) := mI hI 0 8
      refine lv_aload_n hx hb dX11_is_19 rfl (lv_at hl 0 rfl) ?_
      refine z_get hx hb ht hown hK hP ziX11 rfl 0 (by decide) 9 (by decide) hw_5_196 rfl (v := .int (I 0 9)) rfl dX11_is_20 ?_
      have f_8 : zR 0 800 (I 0 9) := mI hI 0 9
      refine lv_isub hx hb dX11_is_23 ?_
      refine lv_topi (fun v_9 ev_9 => ?_)
      have hv_9 : zR (-800) 800 v_9 := ev_9 ▸ zR_sub f_7 f_8 (by decide)
      refine lv_aload_n hx hb dX11_is_24 rfl (lv_at hl 1 rfl) ?_
      refine z_cNXi (As := []) (rest := [.int (v_9)]) hx hb hml hown ht (mk_J0_length_8abf5_6 l D q cA ad av t9 F _ _ _ hI ) hw_6_144 hmJ0_length_8abf5 ⟨rfl, rfl⟩ (na := 0) rfl (by decide +kernel) (by decide) (vk_recv hZ.1 (by decide) hS) hK hP hD hS hA (zSS_c (Rs := zMRs) (t9 := t9) (fun _ _ _ => zMRs_c)) (zSS_w (Rs := zMRs) (t9 := t9) (fun _ _ _ => zMRs_w) hN hsz hS) hl.1 rfl (Nat.le_of_ble_eq_true rfl) ⟨Nat.zero_le _, Nat.zero_le _⟩ dX11_is_25 (fun r_10 I_10 R_10 J_10 H locs hp_10 hP hD hS _ _ => ?_)
      obtain ⟨rfl, hu_10⟩ := hp_10
      cases hu_10
      refine lv_icmp_ne (tgt := 35) hx hb dX11_is_28 (by decide) (fun c_11 => ?_) (fun c_11 => ?_)
      · have t_c_11 := z_eqF c_11
        refine lv_iconst (v := nI 0) hx hb dX11_is_35 (by decide +kernel) ?_
        refine lv_istore_n (lv' := [(2, .int (nI 0)), (0, .ref (q 0)), (1, .ref (ad 10))]) hx hb dX11_is_36 rfl hl (by decide) rfl (fun ls hl => ?_)
        refine lv_iconst (v := nI 0) hx hb dX11_is_37 (by decide +kernel) ?_
        refine lv_istore_n (lv' := [(3, .int (nI 0)), (2, .int (nI 0)), (0, .ref (q 0)), (1, .ref (ad 10))]) hx hb dX11_is_38 rfl hl (by decide) rfl (fun ls hl => ?_)
        refine lv_iload_n hx hb dX11_is_39 rfl (lv_at hl 0 rfl) ?_
        refine lv_aload_n hx hb dX11_is_40 rfl (lv_at hl 3 rfl) ?_
        refine z_cNXi (As := []) (rest := [.int (nI 0)]) hx hb hml hown ht (mk_J0_length_8abf5_6 l D q cA ad av t9 F _ _ _ hI ) hw_6_144 hmJ0_length_8abf5 ⟨rfl, rfl⟩ (na := 0) rfl (by decide +kernel) (by decide) (vk_recv hZ.1 (by decide) hS) hK hP hD hS hA (zSS_c (Rs := zMRs) (t9 := t9) (fun _ _ _ => zMRs_c)) (zSS_w (Rs := zMRs) (t9 := t9) (fun _ _ _ => zMRs_w) hN hsz hS) hl.1 rfl (Nat.le_of_ble_eq_true rfl) ⟨Nat.zero_le _, Nat.zero_le _⟩ dX11_is_41 (fun r_14 I_14 R_14 J_14 H locs hp_14 hP hD hS _ _ => ?_)
        obtain ⟨rfl, hu_14⟩ := hp_14
        cases hu_14
        refine lv_icmp_ge (tgt := 82) hx hb dX11_is_44 (by decide) (fun c_0 => absurd c_0 (zD_nle zk_4 zk_0 (by decide))) (fun _ => ?_)
        refine lv_iload_n hx hb dX11_is_47 rfl (lv_at hl 1 rfl) ?_
        refine lv_if_eq (tgt := 82) hx hb dX11_is_48 (by decide) (fun _ => ?_) (fun c_0 => absurd (zD_eq zk_0 zk_z) c_0)
        refine lv_iload_n hx hb dX11_is_82 rfl (lv_at hl 1 rfl) ?_
        exact z_zret (v := nI 0) hx hb hr hlocks hP hD hS (by decide +kernel) dX11_is_83 (Or.inr ⟨rfl, rfl, (mIs_n3 ev_9 t_c_11)⟩)
      · have t_c_11 := z_eqT c_11
        have f_15 : zR 4 4 (v_9) := zR_eqx t_c_11 zk_4
        have f_16 : zR 0 796 (I 0 9) := z_start f_7 f_8 ev_9 f_15 (by decide)
        refine lv_iconst (v := nI 1) hx hb dX11_is_31 (by decide +kernel) ?_
        refine lv_goto (tgt := 36) hx hb dX11_is_32 (by decide) ?_
        refine lv_istore_n (lv' := [(2, .int (nI 1)), (0, .ref (q 0)), (1, .ref (ad 10))]) hx hb dX11_is_36 rfl hl (by decide) rfl (fun ls hl => ?_)
        refine lv_iconst (v := nI 0) hx hb dX11_is_37 (by decide +kernel) ?_
        refine lv_istore_n (lv' := [(3, .int (nI 0)), (2, .int (nI 1)), (0, .ref (q 0)), (1, .ref (ad 10))]) hx hb dX11_is_38 rfl hl (by decide) rfl (fun ls hl => ?_)
        have loop_71 : ∀ N : Nat, ∀ x_68 : Int32, zR 0 1 x_68 → ∀ x_69 : Int32, zR 0 4 x_69 → (mIsL 10 I R (x_69) (x_68)) → (2147483648 - (x_69).toInt).toNat < N → ∀ (H : Heap) (locs : List Loc), va_P D vwCl (zw 25 q (zMd q cA) I R J) H → va_D (zA 25 q sz) (zw 25 q (zMd q cA) I R J) → va_S (zA 25 q sz) s.heap H locs → ∀ ls : Array Slot, lv_has ls 4 [(0, .ref (q 0)), (1, .ref (ad 10)), (2, .int (x_68)), (3, .int (x_69))] → W p l e ({ frames := 4, cells := 0, slots := 0, locals := 85 } : Room) s m ([.ref (q 0), .ref (ad 10)] : List Value).toArray below meth c H locs 0 0 (MQ below (va_Qi (fun r u => (r = nI 1 ∧ u = (I, R, J) ∧ mIs 10 I R) ∨ (r = nI 0 ∧ u = (I, R, J) ∧ ¬ mIs 10 I R)) (zB D vwCl 25 q (zMd q cA) sz) (zA 25 q sz)) ([.ref (q 0), .ref (ad 10)] : List Value).toArray s 0 0 (zA 25 q sz)) (F0 m 39 ls []) := by
          intro N
          induction N with
          | zero => intro x_68 hx_68 x_69 hx_69 hx_70 hN; exact absurd hN (Nat.not_lt_zero _)
          | succ N ih_73 =>
            intro x_68 hx_68 x_69 hx_69 hx_70 hN_72 H locs hP hD hS ls hl
            refine lv_iload_n hx hb dX11_is_39 rfl (lv_at hl 3 rfl) ?_
            refine lv_aload_n hx hb dX11_is_40 rfl (lv_at hl 1 rfl) ?_
            refine z_cNXi (As := []) (rest := [.int (x_69)]) hx hb hml hown ht (mk_J0_length_8abf5_6 l D q cA ad av t9 F _ _ _ hI ) hw_6_144 hmJ0_length_8abf5 ⟨rfl, rfl⟩ (na := 0) rfl (by decide +kernel) (by decide) (vk_recv hZ.1 (by decide) hS) hK hP hD hS hA (zSS_c (Rs := zMRs) (t9 := t9) (fun _ _ _ => zMRs_c)) (zSS_w (Rs := zMRs) (t9 := t9) (fun _ _ _ => zMRs_w) hN hsz hS) hl.1 rfl (Nat.le_of_ble_eq_true rfl) ⟨Nat.zero_le _, Nat.zero_le _⟩ dX11_is_41 (fun r_74 I_74 R_74 J_74 H locs hp_74 hP hD hS _ _ => ?_)
            obtain ⟨rfl, hu_74⟩ := hp_74
            cases hu_74
            refine lv_icmp_ge (tgt := 82) hx hb dX11_is_44 (by decide) (fun c_75 => ?_) (fun c_75 => ?_)
            · have t_c_75 := z_leT c_75
              have f_76 : zR 4 4 (x_69) := zR_ley t_c_75 zk_4 hx_69 (by decide)
              refine lv_iload_n hx hb dX11_is_82 rfl (lv_at hl 2 rfl) ?_
              exact z_zret (v := x_68) hx hb hr hlocks hP hD hS (zR_bool (a := 0) (b := 1) hx_68 (by decide)).1 dX11_is_83 (mIs_r1 hx_70 hx_68 t_c_75)
            · have t_c_75 := z_leF c_75
              have f_77 : zR 0 3 (x_69) := zR_ltx t_c_75 hx_69 zk_4 (by decide)
              refine lv_iload_n hx hb dX11_is_47 rfl (lv_at hl 2 rfl) ?_
              refine lv_if_eq (tgt := 82) hx hb dX11_is_48 (by decide) (fun c_78 => ?_) (fun c_78 => ?_)
              · have t_c_78 := z_eqT c_78
                have f_79 : zR 0 0 (x_68) := zR_eqx t_c_78 zk_z
                refine lv_iload_n hx hb dX11_is_82 rfl (lv_at hl 2 rfl) ?_
                exact z_zret (v := x_68) hx hb hr hlocks hP hD hS (zR_bool (a := 0) (b := 1) (zR_w f_79 (by decide)) (by decide)).1 dX11_is_83 (mIs_r0 hx_70 f_79)
              · have t_c_78 := z_eqF c_78
                have f_80 : zR 1 1 (x_68) := zR_nex t_c_78 hx_68 zk_z (by decide)
                refine lv_aload_n hx hb dX11_is_51 rfl (lv_at hl 0 rfl) ?_
                refine z_get hx hb ht hown hK hP ziX11 rfl 0 (by decide) 4 (by decide) hw_5_191 rfl (v := .ref (q 4)) rfl dX11_is_52 ?_
                refine lv_aload_n hx hb dX11_is_55 rfl (lv_at hl 0 rfl) ?_
                refine z_get hx hb ht hown hK hP ziX11 rfl 0 (by decide) 9 (by decide) hw_5_196 rfl (v := .int (I 0 9)) rfl dX11_is_56 ?_
                refine lv_iload_n hx hb dX11_is_59 rfl (lv_at hl 3 rfl) ?_
                refine lv_iadd hx hb dX11_is_60 ?_
                refine lv_topi (fun v_81 ev_81 => ?_)
                have hv_81 : zR 0 799 v_81 := ev_81 ▸ zR_add f_16 f_77 (by decide)
                refine z_bald hx hb hK hP 4 (by decide) 3 rfl rfl (zR_vin hv_81 (by decide)) dX11_is_61 ?_
                refine z_eqi (y := R 4 (v_81).toNatClampNeg) rfl ?_
                refine lv_aload_n hx hb dX11_is_62 rfl (lv_at hl 1 rfl) ?_
                refine lv_iload_n hx hb dX11_is_63 rfl (lv_at hl 3 rfl) ?_
                refine z_cNXi (As := [.int (x_69)]) (rest := [.int (R 4 (v_81).toNatClampNeg)]) hx hb hml hown ht (mk_J0_charAt_5068e_12 l D q cA ad av t9 F _ _ _ hI (x_69) f_77) hw_6_145 hmJ0_charAt_5068e ⟨rfl, rfl⟩ (na := 1) rfl (by decide +kernel) (by decide) (vk_recv hZ.1 (by decide) hS) hK hP hD hS hA (zSS_c (Rs := zMRs) (t9 := t9) (fun _ _ _ => zMRs_c)) (zSS_w (Rs := zMRs) (t9 := t9) (fun _ _ _ => zMRs_w) hN hsz hS) hl.1 rfl (Nat.le_of_ble_eq_true rfl) ⟨Nat.zero_le _, Nat.zero_le _⟩ dX11_is_64 (fun r_82 I_82 R_82 J_82 H locs hp_82 hP hD hS _ _ => ?_)
                obtain ⟨⟨rfl, hr_82⟩, hu_82⟩ := hp_82
                cases hu_82
                refine lv_icmp_ne (tgt := 74) hx hb dX11_is_67 (by decide) (fun c_83 => ?_) (fun c_83 => ?_)
                · have t_c_83 := z_eqF c_83
                  refine lv_iconst (v := nI 0) hx hb dX11_is_74 (by decide +kernel) ?_
                  refine lv_istore_n (lv' := [(2, .int (nI 0)), (0, .ref (q 0)), (1, .ref (ad 10)), (3, .int (x_69))]) hx hb dX11_is_75 rfl hl (by decide) rfl (fun ls hl => ?_)
                  obtain ⟨v_84, ev_84⟩ : ∃ y : Int32, y = x_69 + nI 1 := ⟨_, rfl⟩
                  have hv_84 : zR 1 4 v_84 := ev_84 ▸ zR_add f_77 zk_1 (by decide)
                  have mv_84 : v_84.toInt = (x_69).toInt + 1 := by rw [ev_84, zR_addE f_77 zk_1 (by decide)]; rfl
                  refine lv_iinc (v := v_84) (lv' := [(3, .int (v_84)), (2, .int (nI 0)), (0, .ref (q 0)), (1, .ref (ad 10))]) hx hb dX11_is_76 hl (k := 3) rfl (ev_84 ▸ rfl) (by decide) rfl (fun ls hl => ?_)
                  refine lv_goto (tgt := 39) hx hb dX11_is_79 (by decide) ?_
                  exact ih_73 (nI 0) (zR_w zk_0 (by decide)) (v_84) (zR_w hv_84 (by decide)) (mIsL_n hx_70 f_80 t_c_75 t_c_83 (mIs_ix (zR_w f_16 (by decide)) (zR_w f_77 (by decide)) ev_81)) (z2_up mv_84 (by decide) hN_72) _ _ hP hD hS _ (lv_sub hl [2, 3, 1, 0] rfl)
                · have t_c_83 := z_eqT c_83
                  have f_85 : zR 0 65535 (R 4 (v_81).toNatClampNeg) := zR_eqx t_c_83 hr_82
                  refine lv_iconst (v := nI 1) hx hb dX11_is_70 (by decide +kernel) ?_
                  refine lv_goto (tgt := 75) hx hb dX11_is_71 (by decide) ?_
                  refine lv_istore_n (lv' := [(2, .int (nI 1)), (0, .ref (q 0)), (1, .ref (ad 10)), (3, .int (x_69))]) hx hb dX11_is_75 rfl hl (by decide) rfl (fun ls hl => ?_)
                  obtain ⟨v_86, ev_86⟩ : ∃ y : Int32, y = x_69 + nI 1 := ⟨_, rfl⟩
                  have hv_86 : zR 1 4 v_86 := ev_86 ▸ zR_add f_77 zk_1 (by decide)
                  have mv_86 : v_86.toInt = (x_69).toInt + 1 := by rw [ev_86, zR_addE f_77 zk_1 (by decide)]; rfl
                  refine lv_iinc (v := v_86) (lv' := [(3, .int (v_86)), (2, .int (nI 1)), (0, .ref (q 0)), (1, .ref (ad 10))]) hx hb dX11_is_76 hl (k := 3) rfl (ev_86 ▸ rfl) (by decide) rfl (fun ls hl => ?_)
                  refine lv_goto (tgt := 39) hx hb dX11_is_79 (by decide) ?_
                  exact ih_73 (nI 1) (zR_w zk_1 (by decide)) (v_86) (zR_w hv_86 (by decide)) (mIsL_1 hx_70 f_80 mv_86 t_c_83 (mIs_ix (zR_w f_16 (by decide)) (zR_w f_77 (by decide)) ev_81)) (z2_up mv_86 (by decide) hN_72) _ _ hP hD hS _ (lv_sub hl [2, 3, 1, 0] rfl)
        exact loop_71 _ (nI 1) (zR_w zk_1 (by decide)) (nI 0) (zR_w zk_0 (by decide)) (mIsL_0 (mIs_a3 nn_1 t_c_2 ev_9 f_15)) (Nat.lt_succ_self _) _ _ hP hD hS _ (lv_sub hl [2, 3, 1, 0] rfl)
  · cases hu_1
    refine lv_if_eq (tgt := 35) hx hb dX11_is_4 (by decide) (fun _ => ?_) (fun c_0 => absurd (zD_eq zk_0 zk_z) c_0)
    refine lv_iconst (v := nI 0) hx hb dX11_is_35 (by decide +kernel) ?_
    refine lv_istore_n (lv' := [(2, .int (nI 0)), (0, .ref (q 0)), (1, .ref (ad 10))]) hx hb dX11_is_36 rfl hl (by decide) rfl (fun ls hl => ?_)
    refine lv_iconst (v := nI 0) hx hb dX11_is_37 (by decide +kernel) ?_
    refine lv_istore_n (lv' := [(3, .int (nI 0)), (2, .int (nI 0)), (0, .ref (q 0)), (1, .ref (ad 10))]) hx hb dX11_is_38 rfl hl (by decide) rfl (fun ls hl => ?_)
    refine lv_iload_n hx hb dX11_is_39 rfl (lv_at hl 0 rfl) ?_
    refine lv_aload_n hx hb dX11_is_40 rfl (lv_at hl 3 rfl) ?_
    refine z_cNXi (As := []) (rest := [.int (nI 0)]) hx hb hml hown ht (mk_J0_length_8abf5_6 l D q cA ad av t9 F _ _ _ hI ) hw_6_144 hmJ0_length_8abf5 ⟨rfl, rfl⟩ (na := 0) rfl (by decide +kernel) (by decide) (vk_recv hZ.1 (by decide) hS) hK hP hD hS hA (zSS_c (Rs := zMRs) (t9 := t9) (fun _ _ _ => zMRs_c)) (zSS_w (Rs := zMRs) (t9 := t9) (fun _ _ _ => zMRs_w) hN hsz hS) hl.1 rfl (Nat.le_of_ble_eq_true rfl) ⟨Nat.zero_le _, Nat.zero_le _⟩ dX11_is_41 (fun r_89 I_89 R_89 J_89 H locs hp_89 hP hD hS _ _ => ?_)
    obtain ⟨rfl, hu_89⟩ := hp_89
    cases hu_89
    refine lv_icmp_ge (tgt := 82) hx hb dX11_is_44 (by decide) (fun c_0 => absurd c_0 (zD_nle zk_4 zk_0 (by decide))) (fun _ => ?_)
    refine lv_iload_n hx hb dX11_is_47 rfl (lv_at hl 1 rfl) ?_
    refine lv_if_eq (tgt := 82) hx hb dX11_is_48 (by decide) (fun _ => ?_) (fun c_0 => absurd (zD_eq zk_0 zk_z) c_0)
    refine lv_iload_n hx hb dX11_is_82 rfl (lv_at hl 1 rfl) ?_
    exact z_zret (v := nI 0) hx hb hr hlocks hP hD hS (by decide +kernel) dX11_is_83 (Or.inr ⟨rfl, rfl, (mIs_n1 nn_1)⟩)
set_option maxHeartbeats 4000000 in
set_option maxRecDepth 100000 in
theorem mk_X11_readNext (l : Launch) (D : va_G) (q : Nat → Nat) (cA : Nat → ClassId) (ad av : Nat → Nat) (t9 : Nat) (F : Nat → Nat → Int32) (I R : Nat → Nat → Int32) (J : Nat → Nat → Int64) (hI : mInv F (I, R, J))  : zNv (zSS zMRs 25 q ad av t9) l D vwCl (zMtys cA) 25 q (zMd q cA) yX11_readNext cX11_readNext 4 none ({ frames := 8, cells := 0, slots := 0, locals := 174 } : Room) [.ref (q 0)] (I, R, J) (fun u => mInv F u ∧ mTr I u.1) := by
  intro sz
  refine z_bodyN (by decide +kernel) (Nat.le_of_ble_eq_true rfl) (fun p e s m below meth c ls hx hb hml hr ht hown hlocks hsz hK hP hD hS hN hl => ?_)
  have hA : ∀ a, s.heap.size ≤ a → zA 25 q sz a := fun a h => Or.inr (hsz ▸ h)
  have hl : lv_has ls 4 [(0, .ref (q 0))] := hl
  have hZ : zSz zMRs 25 q ad av t9 sz s := hsz ▸ hN
  have early : (mIs 4 I R → zR 0 4 (R 6 (nI 3).toNatClampNeg)) → (mIs 7 I R → zR 0 5 (R 6 (nI 4).toNatClampNeg)) → ∀ (H : Heap) (locs : List Loc), va_P D vwCl (zw 25 q (zMd q cA) I R J) H → va_D (zA 25 q sz) (zw 25 q (zMd q cA) I R J) → va_S (zA 25 q sz) s.heap H locs → ∀ ls : Array Slot, lv_has ls 4 [(0, .ref (q 0))] → W p l e ({ frames := 8, cells := 0, slots := 0, locals := 174 } : Room) s m ([.ref (q 0)] : List Value).toArray below meth c H locs 0 0 (MQ below (va_Qv (fun u => mInv F u ∧ mTr I u.1) (zB D vwCl 25 q (zMd q cA) sz) (zA 25 q sz)) ([.ref (q 0)] : List Value).toArray s 0 0 (zA 25 q sz)) (F0 m 84 ls []) := by
    intro e4 e7 H locs hP hD hS ls hl
    refine lv_aload_n hx hb dX11_readNext_84 rfl (lv_at hl 0 rfl) ?_
    refine va_ldcS hx hb hown (hZ.2.2.2.2.2.2.2.1) dX11_readNext_85 ?_
    refine z_cNVi (k := 0) (As := [.ref (ad 4)]) (rest := []) hx hb hml hown ht (mk_X11_takes l D q cA ad av t9 F _ _ _ hI ) hw_6_136 hmX11_takes ⟨rfl, rfl⟩ (na := 1) rfl (by decide +kernel) (by decide) (by decide) rfl rfl hK hP hD hS hA (zSS_c (Rs := zMRs) (t9 := t9) (fun _ _ _ => zMRs_c)) (zSS_w (Rs := zMRs) (t9 := t9) (fun _ _ _ => zMRs_w) hN hsz hS) hl.1 rfl (Nat.le_of_ble_eq_true rfl) ⟨Nat.zero_le _, Nat.zero_le _⟩ dX11_readNext_87 (fun r_1 I_1 R_1 J_1 H locs hp_1 hP hD hS _ _ => ?_)
    rcases hp_1 with ⟨rfl, hu_1, nn_1⟩ | ⟨rfl, hu_1, nn_1⟩
    · obtain ⟨hq_1, he_1⟩ := hu_1
      try dsimp only at he_1
      obtain ⟨hv_1, hk_1, hj_1⟩ := hq_1
      try dsimp only at hj_1 hk_1
      cases hj_1
      have f_2 : zR 0 4 (R 6 (nI 3).toNatClampNeg) := e4 nn_1
      refine lv_if_eq (tgt := 156) hx hb dX11_readNext_90 (by decide) (fun c_0 => absurd c_0 (zD_ne zk_1 zk_z (by decide))) (fun _ => ?_)
      refine lv_bipush (v := nI 7) hx hb dX11_readNext_93 (by decide +kernel) ?_
      refine lv_iconst (v := nI 2) hx hb dX11_readNext_95 (by decide +kernel) ?_
      refine lv_aload_n hx hb dX11_readNext_96 rfl (lv_at hl 0 rfl) ?_
      refine z_get hx hb ht hown hK hP ziX11 rfl 0 (by decide) 14 (by decide) hw_5_201 rfl (v := .ref (q 6)) rfl dX11_readNext_97 ?_
      refine lv_iconst (v := nI 3) hx hb dX11_readNext_100 (by decide +kernel) ?_
      refine z_iald hx hb hK hP 6 (by decide) 5 rfl rfl (zR_vin zk_3 (by decide)) dX11_readNext_101 ?_
      refine z_eqi (y := R 6 (nI 3).toNatClampNeg) rfl ?_
      refine lv_imul hx hb dX11_readNext_102 ?_
      refine lv_topi (fun v_3 ev_3 => ?_)
      have hv_3 : zR 0 8 v_3 := ev_3 ▸ zR_mul zk_2 f_2 (by decide)
      refine lv_iadd hx hb dX11_readNext_103 ?_
      refine z_cadd 7 15 zk_7 hv_3 (by decide) (fun v_4 hv_4 mv_4 => ?_)
      refine lv_istore_n (lv' := [(1, .int (v_4)), (0, .ref (q 0))]) hx hb dX11_readNext_104 rfl hl (by decide) rfl (fun ls hl => ?_)
      refine lv_aload_n hx hb dX11_readNext_105 rfl (lv_at hl 1 rfl) ?_
      refine z_get hx hb ht hown hK hP ziX11 rfl 0 (by decide) 14 (by decide) hw_5_201 rfl (v := .ref (q 6)) rfl dX11_readNext_106 ?_
      refine lv_iload_n hx hb dX11_readNext_109 rfl (lv_at hl 0 rfl) ?_
      refine lv_aload_n hx hb dX11_readNext_110 rfl (lv_at hl 1 rfl) ?_
      refine va_ldcS hx hb hown (hZ.2.2.2.2.2.2.2.2.1) dX11_readNext_111 ?_
      refine lv_iconst (v := nI 0) hx hb dX11_readNext_113 (by decide +kernel) ?_
      refine lv_sipush (v := nI 9999) hx hb dX11_readNext_114 (by decide +kernel) ?_
      refine z_cNVi (k := 0) (As := [.ref (ad 5), .int (nI 0), .int (nI 9999)]) (rest := [.int (v_4), .ref (q 6)]) hx hb hml hown ht (mk_X11_told l D q cA ad av t9 F _ _ _ hv_1 ) hw_6_151 hmX11_told ⟨rfl, rfl⟩ (na := 3) rfl (by decide +kernel) (by decide) (by decide) rfl rfl hK hP hD hS hA (zSS_c (Rs := zMRs) (t9 := t9) (fun _ _ _ => zMRs_c)) (zSS_w (Rs := zMRs) (t9 := t9) (fun _ _ _ => zMRs_w) hN hsz hS) hl.1 rfl (Nat.le_of_ble_eq_true rfl) ⟨Nat.zero_le _, Nat.zero_le _⟩ dX11_readNext_117 (fun r_5 I_5 R_5 J_5 H locs hp_5 hP hD hS _ _ => ?_)
      obtain ⟨⟨hq_5, he_5⟩, hr_5⟩ := hp_5
      try dsimp only at he_5
      obtain ⟨hv_5, hk_5, hj_5⟩ := hq_5
      try dsimp only at hj_5 hk_5
      cases hj_5
      refine z_iast hx hb hK hP hD hS 6 (by decide) 5 (fun _ => rfl) rfl (zR_vin hv_4 (by decide)) dX11_readNext_120 (fun H locs hP hD hS => ?_)
      have hI_6 := mInv_Rx hv_5 (i := v_4) (r_5) (zR_w hv_4 (by decide))
      refine lv_aload_n hx hb dX11_readNext_121 rfl (lv_at hl 1 rfl) ?_
      refine z_get hx hb ht hown hK hP ziX11 rfl 0 (by decide) 14 (by decide) hw_5_201 rfl (v := .ref (q 6)) rfl dX11_readNext_122 ?_
      refine lv_iload_n hx hb dX11_readNext_125 rfl (lv_at hl 0 rfl) ?_
      refine lv_iconst (v := nI 1) hx hb dX11_readNext_126 (by decide +kernel) ?_
      refine lv_iadd hx hb dX11_readNext_127 ?_
      refine z_addc 8 16 hv_4 zk_1 (by decide) (fun v_7 hv_7 mv_7 => ?_)
      refine lv_aload_n hx hb dX11_readNext_128 rfl (lv_at hl 1 rfl) ?_
      refine va_ldcS hx hb hown (hZ.2.2.2.2.2.2.2.2.2.1) dX11_readNext_129 ?_
      refine z_cNVi (k := 0) (As := [.ref (ad 6)]) (rest := [.int (v_7), .ref (q 6)]) hx hb hml hown ht (mk_X11_takes_2 l D q cA ad av t9 F _ _ _ hI_6 ) hw_6_136 hmX11_takes ⟨rfl, rfl⟩ (na := 1) rfl (by decide +kernel) (by decide) (by decide) rfl rfl hK hP hD hS hA (zSS_c (Rs := zMRs) (t9 := t9) (fun _ _ _ => zMRs_c)) (zSS_w (Rs := zMRs) (t9 := t9) (fun _ _ _ => zMRs_w) hN hsz hS) hl.1 rfl (Nat.le_of_ble_eq_true rfl) ⟨Nat.zero_le _, Nat.zero_le _⟩ dX11_readNext_131 (fun r_8 I_8 R_8 J_8 H locs hp_8 hP hD hS _ _ => ?_)
      rcases hp_8 with ⟨rfl, hu_8, nn_8⟩ | ⟨rfl, hu_8, nn_8⟩
      · obtain ⟨hq_8, he_8⟩ := hu_8
        try dsimp only at he_8
        obtain ⟨hv_8, hk_8, hj_8⟩ := hq_8
        try dsimp only at hj_8 hk_8
        cases hj_8
        refine lv_if_eq (tgt := 141) hx hb dX11_readNext_134 (by decide) (fun c_0 => absurd c_0 (zD_ne zk_1 zk_z (by decide))) (fun _ => ?_)
        refine lv_iconst (v := nI 1) hx hb dX11_readNext_137 (by decide +kernel) ?_
        refine lv_goto (tgt := 142) hx hb dX11_readNext_138 (by decide) ?_
        refine z_iast hx hb hK hP hD hS 6 (by decide) 5 (fun _ => rfl) rfl (zR_vin hv_7 (by decide)) dX11_readNext_142 (fun H locs hP hD hS => ?_)
        have hI_9 := mInv_Rx hv_8 (i := v_7) (nI 1) (zR_w hv_7 (by decide))
        refine lv_aload_n hx hb dX11_readNext_143 rfl (lv_at hl 1 rfl) ?_
        refine z_get hx hb ht hown hK hP ziX11 rfl 0 (by decide) 14 (by decide) hw_5_201 rfl (v := .ref (q 6)) rfl dX11_readNext_144 ?_
        refine lv_iconst (v := nI 3) hx hb dX11_readNext_147 (by decide +kernel) ?_
        refine lv_dup2_11 hx hb dX11_readNext_148 rfl rfl ?_
        refine z_iald hx hb hK hP 6 (by decide) 5 rfl rfl (zR_vin zk_3 (by decide)) dX11_readNext_149 ?_
        refine z_eqi (y := R 6 (nI 3).toNatClampNeg) (Eq.trans (zp_nf (m_nc 3 hv_7 (by decide))) (zp_nf (m_nc 3 hv_4 (by decide)))) ?_
        refine lv_iconst (v := nI 1) hx hb dX11_readNext_150 (by decide +kernel) ?_
        refine lv_iadd hx hb dX11_readNext_151 ?_
        refine z_addc 1 5 f_2 zk_1 (by decide) (fun v_10 hv_10 mv_10 => ?_)
        refine z_iast hx hb hK hP hD hS 6 (by decide) 5 (fun _ => rfl) rfl (zR_vin zk_3 (by decide)) dX11_readNext_152 (fun H locs hP hD hS => ?_)
        have hI_11 := mInv_R hI_9 6 (nI 3).toNatClampNeg (v_10) (show zR 0 5 _ from (zR_w hv_10 (by decide))) rfl
        refine lv_goto (tgt := 292) hx hb dX11_readNext_153 (by decide) ?_
        exact z_vret hx hb hr hlocks hP hD hS dX11_readNext_292 ⟨hI_11, (mTr_t (mTr_t he_1 he_5) he_8)⟩
      · cases hu_8
        refine lv_if_eq (tgt := 141) hx hb dX11_readNext_134 (by decide) (fun _ => ?_) (fun c_0 => absurd (zD_eq zk_0 zk_z) c_0)
        refine lv_iconst (v := nI 0) hx hb dX11_readNext_141 (by decide +kernel) ?_
        refine z_iast hx hb hK hP hD hS 6 (by decide) 5 (fun _ => rfl) rfl (zR_vin hv_7 (by decide)) dX11_readNext_142 (fun H locs hP hD hS => ?_)
        have hI_12 := mInv_Rx hI_6 (i := v_7) (nI 0) (zR_w hv_7 (by decide))
        refine lv_aload_n hx hb dX11_readNext_143 rfl (lv_at hl 1 rfl) ?_
        refine z_get hx hb ht hown hK hP ziX11 rfl 0 (by decide) 14 (by decide) hw_5_201 rfl (v := .ref (q 6)) rfl dX11_readNext_144 ?_
        refine lv_iconst (v := nI 3) hx hb dX11_readNext_147 (by decide +kernel) ?_
        refine lv_dup2_11 hx hb dX11_readNext_148 rfl rfl ?_
        refine z_iald hx hb hK hP 6 (by decide) 5 rfl rfl (zR_vin zk_3 (by decide)) dX11_readNext_149 ?_
        refine z_eqi (y := R 6 (nI 3).toNatClampNeg) (Eq.trans (zp_nf (m_nc 3 hv_7 (by decide))) (zp_nf (m_nc 3 hv_4 (by decide)))) ?_
        refine lv_iconst (v := nI 1) hx hb dX11_readNext_150 (by decide +kernel) ?_
        refine lv_iadd hx hb dX11_readNext_151 ?_
        refine z_addc 1 5 f_2 zk_1 (by decide) (fun v_13 hv_13 mv_13 => ?_)
        refine z_iast hx hb hK hP hD hS 6 (by decide) 5 (fun _ => rfl) rfl (zR_vin zk_3 (by decide)) dX11_readNext_152 (fun H locs hP hD hS => ?_)
        have hI_14 := mInv_R hI_12 6 (nI 3).toNatClampNeg (v_13) (show zR 0 5 _ from (zR_w hv_13 (by decide))) rfl
        refine lv_goto (tgt := 292) hx hb dX11_readNext_153 (by decide) ?_
        exact z_vret hx hb hr hlocks hP hD hS dX11_readNext_292 ⟨hI_14, (mTr_t he_1 he_5)⟩
    · cases hu_1
      refine lv_if_eq (tgt := 156) hx hb dX11_readNext_90 (by decide) (fun _ => ?_) (fun c_0 => absurd (zD_eq zk_0 zk_z) c_0)
      refine lv_aload_n hx hb dX11_readNext_156 rfl (lv_at hl 0 rfl) ?_
      refine va_ldcS hx hb hown (hZ.2.2.2.2.2.2.2.2.2.2.1) dX11_readNext_157 ?_
      refine z_cNVi (k := 0) (As := [.ref (ad 7)]) (rest := []) hx hb hml hown ht (mk_X11_takes_3 l D q cA ad av t9 F _ _ _ hI ) hw_6_136 hmX11_takes ⟨rfl, rfl⟩ (na := 1) rfl (by decide +kernel) (by decide) (by decide) rfl rfl hK hP hD hS hA (zSS_c (Rs := zMRs) (t9 := t9) (fun _ _ _ => zMRs_c)) (zSS_w (Rs := zMRs) (t9 := t9) (fun _ _ _ => zMRs_w) hN hsz hS) hl.1 rfl (Nat.le_of_ble_eq_true rfl) ⟨Nat.zero_le _, Nat.zero_le _⟩ dX11_readNext_159 (fun r_15 I_15 R_15 J_15 H locs hp_15 hP hD hS _ _ => ?_)
      rcases hp_15 with ⟨rfl, hu_15, nn_15⟩ | ⟨rfl, hu_15, nn_15⟩
      · obtain ⟨hq_15, he_15⟩ := hu_15
        try dsimp only at he_15
        obtain ⟨hv_15, hk_15, hj_15⟩ := hq_15
        try dsimp only at hj_15 hk_15
        cases hj_15
        have f_16 : zR 0 5 (R 6 (nI 4).toNatClampNeg) := e7 nn_15
        refine lv_if_eq (tgt := 229) hx hb dX11_readNext_162 (by decide) (fun c_0 => absurd c_0 (zD_ne zk_1 zk_z (by decide))) (fun _ => ?_)
        refine lv_bipush (v := nI 17) hx hb dX11_readNext_165 (by decide +kernel) ?_
        refine lv_iconst (v := nI 2) hx hb dX11_readNext_167 (by decide +kernel) ?_
        refine lv_aload_n hx hb dX11_readNext_168 rfl (lv_at hl 0 rfl) ?_
        refine z_get hx hb ht hown hK hP ziX11 rfl 0 (by decide) 14 (by decide) hw_5_201 rfl (v := .ref (q 6)) rfl dX11_readNext_169 ?_
        refine lv_iconst (v := nI 4) hx hb dX11_readNext_172 (by decide +kernel) ?_
        refine z_iald hx hb hK hP 6 (by decide) 5 rfl rfl (zR_vin zk_4 (by decide)) dX11_readNext_173 ?_
        refine z_eqi (y := R 6 (nI 4).toNatClampNeg) rfl ?_
        refine lv_imul hx hb dX11_readNext_174 ?_
        refine lv_topi (fun v_17 ev_17 => ?_)
        have hv_17 : zR 0 10 v_17 := ev_17 ▸ zR_mul zk_2 f_16 (by decide)
        refine lv_iadd hx hb dX11_readNext_175 ?_
        refine z_cadd 17 27 zk_17 hv_17 (by decide) (fun v_18 hv_18 mv_18 => ?_)
        refine lv_istore_n (lv' := [(1, .int (v_18)), (0, .ref (q 0))]) hx hb dX11_readNext_176 rfl hl (by decide) rfl (fun ls hl => ?_)
        refine lv_aload_n hx hb dX11_readNext_177 rfl (lv_at hl 1 rfl) ?_
        refine z_get hx hb ht hown hK hP ziX11 rfl 0 (by decide) 14 (by decide) hw_5_201 rfl (v := .ref (q 6)) rfl dX11_readNext_178 ?_
        refine lv_iload_n hx hb dX11_readNext_181 rfl (lv_at hl 0 rfl) ?_
        refine lv_aload_n hx hb dX11_readNext_182 rfl (lv_at hl 1 rfl) ?_
        refine va_ldcS hx hb hown (hZ.2.2.2.2.2.2.2.2.2.2.2.1) dX11_readNext_183 ?_
        refine lv_iconst (v := nI 0) hx hb dX11_readNext_185 (by decide +kernel) ?_
        refine lv_aload_n hx hb dX11_readNext_186 rfl (lv_at hl 1 rfl) ?_
        refine z_get hx hb ht hown hK hP ziX11 rfl 0 (by decide) 14 (by decide) hw_5_201 rfl (v := .ref (q 6)) rfl dX11_readNext_187 ?_
        refine lv_iconst (v := nI 3) hx hb dX11_readNext_190 (by decide +kernel) ?_
        refine z_iald hx hb hK hP 6 (by decide) 5 rfl rfl (zR_vin zk_3 (by decide)) dX11_readNext_191 ?_
        refine z_eqi (y := R 6 (nI 3).toNatClampNeg) rfl ?_
        have f_19 : zR 0 5 (R 6 (nI 3).toNatClampNeg) := mR hI 6 3
        refine lv_iconst (v := nI 1) hx hb dX11_readNext_192 (by decide +kernel) ?_
        refine lv_isub hx hb dX11_readNext_193 ?_
        refine z_subc (-1) 4 (-1) f_19 zk_1 (by decide) (fun v_20 hv_20 mv_20 => ?_)
        refine z_cNVi (k := 0) (As := [.ref (ad 8), .int (nI 0), .int (v_20)]) (rest := [.int (v_18), .ref (q 6)]) hx hb hml hown ht (mk_X11_told_1 l D q cA ad av t9 F _ _ _ hv_15 (v_20) hv_20) hw_6_151 hmX11_told ⟨rfl, rfl⟩ (na := 3) rfl (by decide +kernel) (by decide) (by decide) rfl rfl hK hP hD hS hA (zSS_c (Rs := zMRs) (t9 := t9) (fun _ _ _ => zMRs_c)) (zSS_w (Rs := zMRs) (t9 := t9) (fun _ _ _ => zMRs_w) hN hsz hS) hl.1 rfl (Nat.le_of_ble_eq_true rfl) ⟨Nat.zero_le _, Nat.zero_le _⟩ dX11_readNext_194 (fun r_21 I_21 R_21 J_21 H locs hp_21 hP hD hS _ _ => ?_)
        obtain ⟨⟨hq_21, he_21⟩, hr_21⟩ := hp_21
        try dsimp only at he_21
        obtain ⟨hv_21, hk_21, hj_21⟩ := hq_21
        try dsimp only at hj_21 hk_21
        cases hj_21
        refine z_iast hx hb hK hP hD hS 6 (by decide) 5 (fun _ => rfl) rfl (zR_vin hv_18 (by decide)) dX11_readNext_197 (fun H locs hP hD hS => ?_)
        have hI_22 := mInv_Rw hv_21 (i := v_18) (zR_w hv_18 (by decide)) hr_21
        refine lv_aload_n hx hb dX11_readNext_198 rfl (lv_at hl 1 rfl) ?_
        refine z_get hx hb ht hown hK hP ziX11 rfl 0 (by decide) 14 (by decide) hw_5_201 rfl (v := .ref (q 6)) rfl dX11_readNext_199 ?_
        refine lv_iload_n hx hb dX11_readNext_202 rfl (lv_at hl 0 rfl) ?_
        refine lv_iconst (v := nI 1) hx hb dX11_readNext_203 (by decide +kernel) ?_
        refine lv_iadd hx hb dX11_readNext_204 ?_
        refine z_addc 18 28 hv_18 zk_1 (by decide) (fun v_23 hv_23 mv_23 => ?_)
        refine lv_aload_n hx hb dX11_readNext_205 rfl (lv_at hl 1 rfl) ?_
        refine va_ldcS hx hb hown (hZ.2.2.2.2.2.2.2.2.2.2.2.2.1) dX11_readNext_206 ?_
        refine lv_iconst (v := nI 1) hx hb dX11_readNext_208 (by decide +kernel) ?_
        refine lv_sipush (v := nI 999) hx hb dX11_readNext_209 (by decide +kernel) ?_
        refine z_cNVi (k := 0) (As := [.ref (ad 9), .int (nI 1), .int (nI 999)]) (rest := [.int (v_23), .ref (q 6)]) hx hb hml hown ht (mk_X11_told_2 l D q cA ad av t9 F _ _ _ hI_22 ) hw_6_151 hmX11_told ⟨rfl, rfl⟩ (na := 3) rfl (by decide +kernel) (by decide) (by decide) rfl rfl hK hP hD hS hA (zSS_c (Rs := zMRs) (t9 := t9) (fun _ _ _ => zMRs_c)) (zSS_w (Rs := zMRs) (t9 := t9) (fun _ _ _ => zMRs_w) hN hsz hS) hl.1 rfl (Nat.le_of_ble_eq_true rfl) ⟨Nat.zero_le _, Nat.zero_le _⟩ dX11_readNext_212 (fun r_24 I_24 R_24 J_24 H locs hp_24 hP hD hS _ _ => ?_)
        obtain ⟨⟨hq_24, he_24⟩, hr_24⟩ := hp_24
        try dsimp only at he_24
        obtain ⟨hv_24, hk_24, hj_24⟩ := hq_24
        try dsimp only at hj_24 hk_24
        cases hj_24
        refine z_iast hx hb hK hP hD hS 6 (by decide) 5 (fun _ => rfl) rfl (zR_vin hv_23 (by decide)) dX11_readNext_215 (fun H locs hP hD hS => ?_)
        have hI_25 := mInv_Rt hv_24 (i := v_23) (r_24) (mTold_r f_16 ev_17 mv_18 mv_23)
        refine lv_aload_n hx hb dX11_readNext_216 rfl (lv_at hl 1 rfl) ?_
        refine z_get hx hb ht hown hK hP ziX11 rfl 0 (by decide) 14 (by decide) hw_5_201 rfl (v := .ref (q 6)) rfl dX11_readNext_217 ?_
        refine lv_iconst (v := nI 4) hx hb dX11_readNext_220 (by decide +kernel) ?_
        refine lv_dup2_11 hx hb dX11_readNext_221 rfl rfl ?_
        refine z_iald hx hb hK hP 6 (by decide) 5 rfl rfl (zR_vin zk_4 (by decide)) dX11_readNext_222 ?_
        refine z_eqi (y := R 6 (nI 4).toNatClampNeg) (Eq.trans (zp_nf (m_nc 4 hv_23 (by decide))) (zp_nf (m_nc 4 hv_18 (by decide)))) ?_
        refine lv_iconst (v := nI 1) hx hb dX11_readNext_223 (by decide +kernel) ?_
        refine lv_iadd hx hb dX11_readNext_224 ?_
        refine z_addc 1 6 f_16 zk_1 (by decide) (fun v_26 hv_26 mv_26 => ?_)
        refine z_iast hx hb hK hP hD hS 6 (by decide) 5 (fun _ => rfl) rfl (zR_vin zk_4 (by decide)) dX11_readNext_225 (fun H locs hP hD hS => ?_)
        have hI_27 := mInv_R hI_25 6 (nI 4).toNatClampNeg (v_26) (show zR 0 6 _ from (zR_w hv_26 (by decide))) rfl
        refine lv_goto (tgt := 292) hx hb dX11_readNext_226 (by decide) ?_
        exact z_vret hx hb hr hlocks hP hD hS dX11_readNext_292 ⟨hI_27, (mTr_t (mTr_t he_15 he_21) he_24)⟩
      · cases hu_15
        refine lv_if_eq (tgt := 229) hx hb dX11_readNext_162 (by decide) (fun _ => ?_) (fun c_0 => absurd (zD_eq zk_0 zk_z) c_0)
        refine lv_aload_n hx hb dX11_readNext_229 rfl (lv_at hl 0 rfl) ?_
        refine z_callVv (k := 0) (As := []) (rest := []) hx hb hml hown ht (mk_X11_advance l D q cA F _ _ _ hI ) hw_6_109 hmX11_advance ⟨rfl, rfl⟩ (na := 0) rfl (by decide +kernel) (by decide) (by decide) rfl rfl hK hP hD hS hA hl.1 rfl (Nat.le_of_ble_eq_true rfl) ⟨Nat.zero_le _, Nat.zero_le _⟩ dX11_readNext_230 (fun I_28 R_28 J_28 H locs hp_28 hP hD hS _ _ => ?_)
        obtain ⟨hq_28, he_28⟩ := hp_28
        try dsimp only at he_28
        obtain ⟨hv_28, hk_28, hj_28⟩ := hq_28
        try dsimp only at hj_28 hk_28
        cases hj_28
        refine lv_aload_n hx hb dX11_readNext_233 rfl (lv_at hl 0 rfl) ?_
        refine lv_iconst (v := nI 0) hx hb dX11_readNext_234 (by decide +kernel) ?_
        refine lv_aload_n hx hb dX11_readNext_235 rfl (lv_at hl 0 rfl) ?_
        refine z_get hx hb ht hown hK hP ziX11 rfl 0 (by decide) 14 (by decide) hw_5_201 rfl (v := .ref (q 6)) rfl dX11_readNext_236 ?_
        refine lv_iconst (v := nI 3) hx hb dX11_readNext_239 (by decide +kernel) ?_
        refine z_iald hx hb hK hP 6 (by decide) 5 rfl rfl (zR_vin zk_3 (by decide)) dX11_readNext_240 ?_
        refine z_eqi (y := R 6 (nI 3).toNatClampNeg) rfl ?_
        have f_29 : zR 0 5 (R 6 (nI 3).toNatClampNeg) := mR hI 6 3
        refine lv_iconst (v := nI 1) hx hb dX11_readNext_241 (by decide +kernel) ?_
        refine lv_isub hx hb dX11_readNext_242 ?_
        refine z_subc (-1) 4 (-1) f_29 zk_1 (by decide) (fun v_30 hv_30 mv_30 => ?_)
        refine z_callVi (k := 0) (As := [.int (nI 0), .int (v_30)]) (rest := []) hx hb hml hown ht (mk_X11_number_1 l D q cA F _ _ _ hv_28 (v_30) hv_30) hw_6_155 hmX11_number ⟨rfl, rfl⟩ (na := 2) rfl (by decide +kernel) (by decide) (by decide) rfl rfl hK hP hD hS hA hl.1 rfl (Nat.le_of_ble_eq_true rfl) ⟨Nat.zero_le _, Nat.zero_le _⟩ dX11_readNext_243 (fun r_31 I_31 R_31 J_31 H locs hp_31 hP hD hS _ _ => ?_)
        obtain ⟨⟨hq_31, he_31⟩, hr_31⟩ := hp_31
        try dsimp only at he_31
        obtain ⟨hv_31, hk_31, hj_31⟩ := hq_31
        try dsimp only at hj_31 hk_31
        cases hj_31
        refine lv_istore_n (lv' := [(1, .int (r_31)), (0, .ref (q 0))]) hx hb dX11_readNext_246 rfl hl (by decide) rfl (fun ls hl => ?_)
        refine lv_aload_n hx hb dX11_readNext_247 rfl (lv_at hl 1 rfl) ?_
        refine lv_iconst (v := nI 0) hx hb dX11_readNext_248 (by decide +kernel) ?_
        refine lv_aload_n hx hb dX11_readNext_249 rfl (lv_at hl 1 rfl) ?_
        refine z_get hx hb ht hown hK hP ziX11 rfl 0 (by decide) 14 (by decide) hw_5_201 rfl (v := .ref (q 6)) rfl dX11_readNext_250 ?_
        refine lv_iconst (v := nI 4) hx hb dX11_readNext_253 (by decide +kernel) ?_
        refine z_iald hx hb hK hP 6 (by decide) 5 rfl rfl (zR_vin zk_4 (by decide)) dX11_readNext_254 ?_
        refine z_eqi (y := R 6 (nI 4).toNatClampNeg) rfl ?_
        have f_32 : zR 0 6 (R 6 (nI 4).toNatClampNeg) := mR hI 6 4
        refine lv_iconst (v := nI 1) hx hb dX11_readNext_255 (by decide +kernel) ?_
        refine lv_isub hx hb dX11_readNext_256 ?_
        refine z_subc (-1) 5 (-1) f_32 zk_1 (by decide) (fun v_33 hv_33 mv_33 => ?_)
        refine z_callVi (k := 0) (As := [.int (nI 0), .int (v_33)]) (rest := []) hx hb hml hown ht (mk_X11_number_3 l D q cA F _ _ _ hv_31 (v_33) hv_33) hw_6_155 hmX11_number ⟨rfl, rfl⟩ (na := 2) rfl (by decide +kernel) (by decide) (by decide) rfl rfl hK hP hD hS hA hl.1 rfl (Nat.le_of_ble_eq_true rfl) ⟨Nat.zero_le _, Nat.zero_le _⟩ dX11_readNext_257 (fun r_34 I_34 R_34 J_34 H locs hp_34 hP hD hS _ _ => ?_)
        obtain ⟨⟨hq_34, he_34⟩, hr_34⟩ := hp_34
        try dsimp only at he_34
        obtain ⟨hv_34, hk_34, hj_34⟩ := hq_34
        try dsimp only at hj_34 hk_34
        cases hj_34
        refine lv_istore_n (lv' := [(2, .int (r_34)), (1, .int (r_31)), (0, .ref (q 0))]) hx hb dX11_readNext_260 rfl hl (by decide) rfl (fun ls hl => ?_)
        refine lv_aload_n hx hb dX11_readNext_261 rfl (lv_at hl 2 rfl) ?_
        refine lv_iconst (v := nI 1) hx hb dX11_readNext_262 (by decide +kernel) ?_
        refine lv_sipush (v := nI 500) hx hb dX11_readNext_263 (by decide +kernel) ?_
        refine z_callVi (k := 0) (As := [.int (nI 1), .int (nI 500)]) (rest := []) hx hb hml hown ht (mk_X11_number_4 l D q cA F _ _ _ hv_34 ) hw_6_155 hmX11_number ⟨rfl, rfl⟩ (na := 2) rfl (by decide +kernel) (by decide) (by decide) rfl rfl hK hP hD hS hA hl.1 rfl (Nat.le_of_ble_eq_true rfl) ⟨Nat.zero_le _, Nat.zero_le _⟩ dX11_readNext_266 (fun r_35 I_35 R_35 J_35 H locs hp_35 hP hD hS _ _ => ?_)
        obtain ⟨⟨hq_35, he_35⟩, hr_35⟩ := hp_35
        try dsimp only at he_35
        obtain ⟨hv_35, hk_35, hj_35⟩ := hq_35
        try dsimp only at hj_35 hk_35
        cases hj_35
        refine lv_istore_n (lv' := [(3, .int (r_35)), (2, .int (r_34)), (1, .int (r_31)), (0, .ref (q 0))]) hx hb dX11_readNext_269 rfl hl (by decide) rfl (fun ls hl => ?_)
        refine lv_aload_n hx hb dX11_readNext_270 rfl (lv_at hl 3 rfl) ?_
        refine z_callVi (k := 0) (As := []) (rest := []) hx hb hml hown ht (mk_X11_good l D q cA F _ _ _ hv_35 ) hw_6_123 hmX11_good ⟨rfl, rfl⟩ (na := 0) rfl (by decide +kernel) (by decide) (by decide) rfl rfl hK hP hD hS hA hl.1 rfl (Nat.le_of_ble_eq_true rfl) ⟨Nat.zero_le _, Nat.zero_le _⟩ dX11_readNext_271 (fun r_36 I_36 R_36 J_36 H locs hp_36 hP hD hS _ _ => ?_)
        rcases hp_36 with ⟨rfl, hu_36, nn_36⟩ | ⟨rfl, hu_36, nn_36⟩
        · cases hu_36
          refine lv_if_eq (tgt := 292) hx hb dX11_readNext_274 (by decide) (fun c_0 => absurd c_0 (zD_ne zk_1 zk_z (by decide))) (fun _ => ?_)
          refine lv_aload_n hx hb dX11_readNext_277 rfl (lv_at hl 3 rfl) ?_
          refine z_get hx hb ht hown hK hP ziX11 rfl 0 (by decide) 14 (by decide) hw_5_201 rfl (v := .ref (q 6)) rfl dX11_readNext_278 ?_
          refine lv_bipush (v := nI 29) hx hb dX11_readNext_281 (by decide +kernel) ?_
          refine lv_bipush (v := nI 6) hx hb dX11_readNext_283 (by decide +kernel) ?_
          refine lv_iload_n hx hb dX11_readNext_285 rfl (lv_at hl 2 rfl) ?_
          refine lv_imul hx hb dX11_readNext_286 ?_
          refine lv_topi (fun v_37 ev_37 => ?_)
          have hv_37 : zR 0 24 v_37 := ev_37 ▸ zR_mul zk_6 hr_31 (by decide)
          refine lv_iadd hx hb dX11_readNext_287 ?_
          refine z_cadd 29 53 zk_29 hv_37 (by decide) (fun v_38 hv_38 mv_38 => ?_)
          refine lv_iload_n hx hb dX11_readNext_288 rfl (lv_at hl 1 rfl) ?_
          refine lv_iadd hx hb dX11_readNext_289 ?_
          refine z_rng (a := 29) (b := 58) (zR_add hv_38 hr_34 (by decide)) (fun v_39 hv_39 => ?_)
          refine lv_iload_n hx hb dX11_readNext_290 rfl (lv_at hl 0 rfl) ?_
          refine z_iast hx hb hK hP hD hS 6 (by decide) 5 (fun _ => rfl) rfl (zR_vin hv_39 (by decide)) dX11_readNext_291 (fun H locs hP hD hS => ?_)
          have hI_40 := mInv_Rt hv_35 (i := v_39) (r_35) (mTold_w hv_39)
          exact z_vret hx hb hr hlocks hP hD hS dX11_readNext_292 ⟨hI_40, (mTr_t (mTr_t (mTr_t he_28 he_31) he_34) he_35)⟩
        · cases hu_36
          refine lv_if_eq (tgt := 292) hx hb dX11_readNext_274 (by decide) (fun _ => ?_) (fun c_0 => absurd (zD_eq zk_0 zk_z) c_0)
          exact z_vret hx hb hr hlocks hP hD hS dX11_readNext_292 ⟨hv_35, (mTr_t (mTr_t (mTr_t he_28 he_31) he_34) he_35)⟩
  refine lv_aload_n hx hb dX11_readNext_0 rfl (lv_at hl 0 rfl) ?_
  refine va_ldcS hx hb hown (hZ.2.2.2.2.2.2.2.1) dX11_readNext_1 ?_
  refine z_cNVi (k := 0) (As := [.ref (ad 4)]) (rest := []) hx hb hml hown ht (mk_X11_is l D q cA ad av t9 F _ _ _ hI ) hw_6_140 hmX11_is ⟨rfl, rfl⟩ (na := 1) rfl (by decide +kernel) (by decide) (by decide) rfl rfl hK hP hD hS hA (zSS_c (Rs := zMRs) (t9 := t9) (fun _ _ _ => zMRs_c)) (zSS_w (Rs := zMRs) (t9 := t9) (fun _ _ _ => zMRs_w) hN hsz hS) hl.1 rfl (Nat.le_of_ble_eq_true rfl) ⟨Nat.zero_le _, Nat.zero_le _⟩ dX11_readNext_3 (fun r_41 I_41 R_41 J_41 H locs hp_41 hP hD hS _ _ => ?_)
  rcases hp_41 with ⟨rfl, hu_41, nn_41⟩ | ⟨rfl, hu_41, nn_41⟩
  · cases hu_41
    refine lv_if_ne (tgt := 32) hx hb dX11_readNext_6 (by decide) (fun _ => ?_) (fun c_0 => absurd c_0 (zD_ne zk_1 zk_z (by decide)))
    refine lv_aload_n hx hb dX11_readNext_32 rfl (lv_at hl 0 rfl) ?_
    refine va_ldcS hx hb hown (hZ.2.2.2.2.2.2.2.1) dX11_readNext_33 ?_
    refine z_cNVi (k := 0) (As := [.ref (ad 4)]) (rest := []) hx hb hml hown ht (mk_X11_is l D q cA ad av t9 F _ _ _ hI ) hw_6_140 hmX11_is ⟨rfl, rfl⟩ (na := 1) rfl (by decide +kernel) (by decide) (by decide) rfl rfl hK hP hD hS hA (zSS_c (Rs := zMRs) (t9 := t9) (fun _ _ _ => zMRs_c)) (zSS_w (Rs := zMRs) (t9 := t9) (fun _ _ _ => zMRs_w) hN hsz hS) hl.1 rfl (Nat.le_of_ble_eq_true rfl) ⟨Nat.zero_le _, Nat.zero_le _⟩ dX11_readNext_35 (fun r_42 I_42 R_42 J_42 H locs hp_42 hP hD hS _ _ => ?_)
    rcases hp_42 with ⟨rfl, hu_42, nn_42⟩ | ⟨rfl, hu_42, nn_42⟩
    · cases hu_42
      refine lv_if_eq (tgt := 51) hx hb dX11_readNext_38 (by decide) (fun c_0 => absurd c_0 (zD_ne zk_1 zk_z (by decide))) (fun _ => ?_)
      refine lv_aload_n hx hb dX11_readNext_41 rfl (lv_at hl 0 rfl) ?_
      refine z_get hx hb ht hown hK hP ziX11 rfl 0 (by decide) 14 (by decide) hw_5_201 rfl (v := .ref (q 6)) rfl dX11_readNext_42 ?_
      refine lv_iconst (v := nI 3) hx hb dX11_readNext_45 (by decide +kernel) ?_
      refine z_iald hx hb hK hP 6 (by decide) 5 rfl rfl (zR_vin zk_3 (by decide)) dX11_readNext_46 ?_
      refine z_eqi (y := R 6 (nI 3).toNatClampNeg) rfl ?_
      have f_43 : zR 0 5 (R 6 (nI 3).toNatClampNeg) := mR hI 6 3
      refine lv_iconst (v := nI 5) hx hb dX11_readNext_47 (by decide +kernel) ?_
      refine lv_icmp_eq (tgt := 71) hx hb dX11_readNext_48 (by decide) (fun c_44 => ?_) (fun c_44 => ?_)
      · have t_c_44 := z_eqT c_44
        have f_45 : zR 5 5 (R 6 (nI 3).toNatClampNeg) := zR_eqx t_c_44 zk_5
        refine lv_aload_n hx hb dX11_readNext_71 rfl (lv_at hl 0 rfl) ?_
        refine lv_iconst (v := nI 3) hx hb dX11_readNext_72 (by decide +kernel) ?_
        refine z_callVv (k := 0) (As := [.int (nI 3)]) (rest := []) hx hb hml hown ht (mk_X11_errs_2 l D q cA F _ _ _ hI ) hw_6_146 hmX11_errs ⟨rfl, rfl⟩ (na := 1) rfl (by decide +kernel) (by decide) (by decide) rfl rfl hK hP hD hS hA hl.1 rfl (Nat.le_of_ble_eq_true rfl) ⟨Nat.zero_le _, Nat.zero_le _⟩ dX11_readNext_73 (fun I_46 R_46 J_46 H locs hp_46 hP hD hS _ _ => ?_)
        obtain ⟨hq_46, he_46⟩ := hp_46
        obtain ⟨hv_46, hk_46, hj_46⟩ := hq_46
        try dsimp only at hj_46 hk_46
        cases hj_46
        refine lv_aload_n hx hb dX11_readNext_76 rfl (lv_at hl 0 rfl) ?_
        refine z_callVi (k := 0) (As := []) (rest := []) hx hb hml hown ht (mk_X11_good l D q cA F _ _ _ hv_46 ) hw_6_123 hmX11_good ⟨rfl, rfl⟩ (na := 0) rfl (by decide +kernel) (by decide) (by decide) rfl rfl hK hP hD hS hA hl.1 rfl (Nat.le_of_ble_eq_true rfl) ⟨Nat.zero_le _, Nat.zero_le _⟩ dX11_readNext_77 (fun r_47 I_47 R_47 J_47 H locs hp_47 hP hD hS _ _ => ?_)
        rcases hp_47 with ⟨rfl, hu_47, nn_47⟩ | ⟨rfl, hu_47, nn_47⟩
        · cases hu_47
          exact (zR_abs2 nn_47 he_46 (by decide)).elim
        · cases hu_47
          refine lv_if_ne (tgt := 84) hx hb dX11_readNext_80 (by decide) (fun c_0 => absurd (zD_eq zk_0 zk_z) c_0) (fun _ => ?_)
          exact z_vret hx hb hr hlocks hP hD hS dX11_readNext_83 ⟨hv_46, (mTr_f he_46)⟩
      · have t_c_44 := z_eqF c_44
        have f_48 : zR 0 4 (R 6 (nI 3).toNatClampNeg) := zR_nex t_c_44 f_43 zk_5 (by decide)
        refine lv_aload_n hx hb dX11_readNext_51 rfl (lv_at hl 0 rfl) ?_
        refine va_ldcS hx hb hown (hZ.2.2.2.2.2.2.2.2.2.2.1) dX11_readNext_52 ?_
        refine z_cNVi (k := 0) (As := [.ref (ad 7)]) (rest := []) hx hb hml hown ht (mk_X11_is_3 l D q cA ad av t9 F _ _ _ hI ) hw_6_140 hmX11_is ⟨rfl, rfl⟩ (na := 1) rfl (by decide +kernel) (by decide) (by decide) rfl rfl hK hP hD hS hA (zSS_c (Rs := zMRs) (t9 := t9) (fun _ _ _ => zMRs_c)) (zSS_w (Rs := zMRs) (t9 := t9) (fun _ _ _ => zMRs_w) hN hsz hS) hl.1 rfl (Nat.le_of_ble_eq_true rfl) ⟨Nat.zero_le _, Nat.zero_le _⟩ dX11_readNext_54 (fun r_49 I_49 R_49 J_49 H locs hp_49 hP hD hS _ _ => ?_)
        rcases hp_49 with ⟨rfl, hu_49, nn_49⟩ | ⟨rfl, hu_49, nn_49⟩
        · cases hu_49
          refine lv_if_eq (tgt := 76) hx hb dX11_readNext_57 (by decide) (fun c_0 => absurd c_0 (zD_ne zk_1 zk_z (by decide))) (fun _ => ?_)
          refine lv_aload_n hx hb dX11_readNext_60 rfl (lv_at hl 0 rfl) ?_
          refine z_get hx hb ht hown hK hP ziX11 rfl 0 (by decide) 14 (by decide) hw_5_201 rfl (v := .ref (q 6)) rfl dX11_readNext_61 ?_
          refine lv_iconst (v := nI 4) hx hb dX11_readNext_64 (by decide +kernel) ?_
          refine z_iald hx hb hK hP 6 (by decide) 5 rfl rfl (zR_vin zk_4 (by decide)) dX11_readNext_65 ?_
          refine z_eqi (y := R 6 (nI 4).toNatClampNeg) rfl ?_
          have f_50 : zR 0 6 (R 6 (nI 4).toNatClampNeg) := mR hI 6 4
          refine lv_bipush (v := nI 6) hx hb dX11_readNext_66 (by decide +kernel) ?_
          refine lv_icmp_ne (tgt := 76) hx hb dX11_readNext_68 (by decide) (fun c_51 => ?_) (fun c_51 => ?_)
          · have t_c_51 := z_eqF c_51
            have f_52 : zR 0 5 (R 6 (nI 4).toNatClampNeg) := zR_nex t_c_51 f_50 zk_6 (by decide)
            refine lv_aload_n hx hb dX11_readNext_76 rfl (lv_at hl 0 rfl) ?_
            refine z_callVi (k := 0) (As := []) (rest := []) hx hb hml hown ht (mk_X11_good l D q cA F _ _ _ hI ) hw_6_123 hmX11_good ⟨rfl, rfl⟩ (na := 0) rfl (by decide +kernel) (by decide) (by decide) rfl rfl hK hP hD hS hA hl.1 rfl (Nat.le_of_ble_eq_true rfl) ⟨Nat.zero_le _, Nat.zero_le _⟩ dX11_readNext_77 (fun r_53 I_53 R_53 J_53 H locs hp_53 hP hD hS _ _ => ?_)
            rcases hp_53 with ⟨rfl, hu_53, nn_53⟩ | ⟨rfl, hu_53, nn_53⟩
            · cases hu_53
              refine lv_if_ne (tgt := 84) hx hb dX11_readNext_80 (by decide) (fun _ => ?_) (fun c_0 => absurd c_0 (zD_ne zk_1 zk_z (by decide)))
              exact early (fun _ => f_48) (fun _ => f_52) _ _ hP hD hS _ (lv_sub hl [0] rfl)
            · cases hu_53
              refine lv_if_ne (tgt := 84) hx hb dX11_readNext_80 (by decide) (fun c_0 => absurd (zD_eq zk_0 zk_z) c_0) (fun _ => ?_)
              exact z_vret hx hb hr hlocks hP hD hS dX11_readNext_83 ⟨hI, (mTr_f nn_53)⟩
          · have t_c_51 := z_eqT c_51
            have f_54 : zR 6 6 (R 6 (nI 4).toNatClampNeg) := zR_eqx t_c_51 zk_6
            refine lv_aload_n hx hb dX11_readNext_71 rfl (lv_at hl 0 rfl) ?_
            refine lv_iconst (v := nI 3) hx hb dX11_readNext_72 (by decide +kernel) ?_
            refine z_callVv (k := 0) (As := [.int (nI 3)]) (rest := []) hx hb hml hown ht (mk_X11_errs_2 l D q cA F _ _ _ hI ) hw_6_146 hmX11_errs ⟨rfl, rfl⟩ (na := 1) rfl (by decide +kernel) (by decide) (by decide) rfl rfl hK hP hD hS hA hl.1 rfl (Nat.le_of_ble_eq_true rfl) ⟨Nat.zero_le _, Nat.zero_le _⟩ dX11_readNext_73 (fun I_55 R_55 J_55 H locs hp_55 hP hD hS _ _ => ?_)
            obtain ⟨hq_55, he_55⟩ := hp_55
            obtain ⟨hv_55, hk_55, hj_55⟩ := hq_55
            try dsimp only at hj_55 hk_55
            cases hj_55
            refine lv_aload_n hx hb dX11_readNext_76 rfl (lv_at hl 0 rfl) ?_
            refine z_callVi (k := 0) (As := []) (rest := []) hx hb hml hown ht (mk_X11_good l D q cA F _ _ _ hv_55 ) hw_6_123 hmX11_good ⟨rfl, rfl⟩ (na := 0) rfl (by decide +kernel) (by decide) (by decide) rfl rfl hK hP hD hS hA hl.1 rfl (Nat.le_of_ble_eq_true rfl) ⟨Nat.zero_le _, Nat.zero_le _⟩ dX11_readNext_77 (fun r_56 I_56 R_56 J_56 H locs hp_56 hP hD hS _ _ => ?_)
            rcases hp_56 with ⟨rfl, hu_56, nn_56⟩ | ⟨rfl, hu_56, nn_56⟩
            · cases hu_56
              exact (zR_abs2 nn_56 he_55 (by decide)).elim
            · cases hu_56
              refine lv_if_ne (tgt := 84) hx hb dX11_readNext_80 (by decide) (fun c_0 => absurd (zD_eq zk_0 zk_z) c_0) (fun _ => ?_)
              exact z_vret hx hb hr hlocks hP hD hS dX11_readNext_83 ⟨hv_55, (mTr_f he_55)⟩
        · cases hu_49
          refine lv_if_eq (tgt := 76) hx hb dX11_readNext_57 (by decide) (fun _ => ?_) (fun c_0 => absurd (zD_eq zk_0 zk_z) c_0)
          refine lv_aload_n hx hb dX11_readNext_76 rfl (lv_at hl 0 rfl) ?_
          refine z_callVi (k := 0) (As := []) (rest := []) hx hb hml hown ht (mk_X11_good l D q cA F _ _ _ hI ) hw_6_123 hmX11_good ⟨rfl, rfl⟩ (na := 0) rfl (by decide +kernel) (by decide) (by decide) rfl rfl hK hP hD hS hA hl.1 rfl (Nat.le_of_ble_eq_true rfl) ⟨Nat.zero_le _, Nat.zero_le _⟩ dX11_readNext_77 (fun r_57 I_57 R_57 J_57 H locs hp_57 hP hD hS _ _ => ?_)
          rcases hp_57 with ⟨rfl, hu_57, nn_57⟩ | ⟨rfl, hu_57, nn_57⟩
          · cases hu_57
            refine lv_if_ne (tgt := 84) hx hb dX11_readNext_80 (by decide) (fun _ => ?_) (fun c_0 => absurd c_0 (zD_ne zk_1 zk_z (by decide)))
            exact early (fun _ => f_48) (fun h9 => absurd h9 nn_49) _ _ hP hD hS _ (lv_sub hl [0] rfl)
          · cases hu_57
            refine lv_if_ne (tgt := 84) hx hb dX11_readNext_80 (by decide) (fun c_0 => absurd (zD_eq zk_0 zk_z) c_0) (fun _ => ?_)
            exact z_vret hx hb hr hlocks hP hD hS dX11_readNext_83 ⟨hI, (mTr_f nn_57)⟩
    · cases hu_42
      exact absurd nn_41 nn_42
  · cases hu_41
    refine lv_if_ne (tgt := 32) hx hb dX11_readNext_6 (by decide) (fun c_0 => absurd (zD_eq zk_0 zk_z) c_0) (fun _ => ?_)
    refine lv_aload_n hx hb dX11_readNext_9 rfl (lv_at hl 0 rfl) ?_
    refine va_ldcS hx hb hown (hZ.2.2.2.2.2.2.2.2.2.2.1) dX11_readNext_10 ?_
    refine z_cNVi (k := 0) (As := [.ref (ad 7)]) (rest := []) hx hb hml hown ht (mk_X11_is_3 l D q cA ad av t9 F _ _ _ hI ) hw_6_140 hmX11_is ⟨rfl, rfl⟩ (na := 1) rfl (by decide +kernel) (by decide) (by decide) rfl rfl hK hP hD hS hA (zSS_c (Rs := zMRs) (t9 := t9) (fun _ _ _ => zMRs_c)) (zSS_w (Rs := zMRs) (t9 := t9) (fun _ _ _ => zMRs_w) hN hsz hS) hl.1 rfl (Nat.le_of_ble_eq_true rfl) ⟨Nat.zero_le _, Nat.zero_le _⟩ dX11_readNext_12 (fun r_58 I_58 R_58 J_58 H locs hp_58 hP hD hS _ _ => ?_)
    rcases hp_58 with ⟨rfl, hu_58, nn_58⟩ | ⟨rfl, hu_58, nn_58⟩
    · cases hu_58
      refine lv_if_ne (tgt := 32) hx hb dX11_readNext_15 (by decide) (fun _ => ?_) (fun c_0 => absurd c_0 (zD_ne zk_1 zk_z (by decide)))
      refine lv_aload_n hx hb dX11_readNext_32 rfl (lv_at hl 0 rfl) ?_
      refine va_ldcS hx hb hown (hZ.2.2.2.2.2.2.2.1) dX11_readNext_33 ?_
      refine z_cNVi (k := 0) (As := [.ref (ad 4)]) (rest := []) hx hb hml hown ht (mk_X11_is l D q cA ad av t9 F _ _ _ hI ) hw_6_140 hmX11_is ⟨rfl, rfl⟩ (na := 1) rfl (by decide +kernel) (by decide) (by decide) rfl rfl hK hP hD hS hA (zSS_c (Rs := zMRs) (t9 := t9) (fun _ _ _ => zMRs_c)) (zSS_w (Rs := zMRs) (t9 := t9) (fun _ _ _ => zMRs_w) hN hsz hS) hl.1 rfl (Nat.le_of_ble_eq_true rfl) ⟨Nat.zero_le _, Nat.zero_le _⟩ dX11_readNext_35 (fun r_59 I_59 R_59 J_59 H locs hp_59 hP hD hS _ _ => ?_)
      rcases hp_59 with ⟨rfl, hu_59, nn_59⟩ | ⟨rfl, hu_59, nn_59⟩
      · cases hu_59
        exact absurd nn_59 nn_41
      · cases hu_59
        refine lv_if_eq (tgt := 51) hx hb dX11_readNext_38 (by decide) (fun _ => ?_) (fun c_0 => absurd (zD_eq zk_0 zk_z) c_0)
        refine lv_aload_n hx hb dX11_readNext_51 rfl (lv_at hl 0 rfl) ?_
        refine va_ldcS hx hb hown (hZ.2.2.2.2.2.2.2.2.2.2.1) dX11_readNext_52 ?_
        refine z_cNVi (k := 0) (As := [.ref (ad 7)]) (rest := []) hx hb hml hown ht (mk_X11_is_3 l D q cA ad av t9 F _ _ _ hI ) hw_6_140 hmX11_is ⟨rfl, rfl⟩ (na := 1) rfl (by decide +kernel) (by decide) (by decide) rfl rfl hK hP hD hS hA (zSS_c (Rs := zMRs) (t9 := t9) (fun _ _ _ => zMRs_c)) (zSS_w (Rs := zMRs) (t9 := t9) (fun _ _ _ => zMRs_w) hN hsz hS) hl.1 rfl (Nat.le_of_ble_eq_true rfl) ⟨Nat.zero_le _, Nat.zero_le _⟩ dX11_readNext_54 (fun r_60 I_60 R_60 J_60 H locs hp_60 hP hD hS _ _ => ?_)
        rcases hp_60 with ⟨rfl, hu_60, nn_60⟩ | ⟨rfl, hu_60, nn_60⟩
        · cases hu_60
          refine lv_if_eq (tgt := 76) hx hb dX11_readNext_57 (by decide) (fun c_0 => absurd c_0 (zD_ne zk_1 zk_z (by decide))) (fun _ => ?_)
          refine lv_aload_n hx hb dX11_readNext_60 rfl (lv_at hl 0 rfl) ?_
          refine z_get hx hb ht hown hK hP ziX11 rfl 0 (by decide) 14 (by decide) hw_5_201 rfl (v := .ref (q 6)) rfl dX11_readNext_61 ?_
          refine lv_iconst (v := nI 4) hx hb dX11_readNext_64 (by decide +kernel) ?_
          refine z_iald hx hb hK hP 6 (by decide) 5 rfl rfl (zR_vin zk_4 (by decide)) dX11_readNext_65 ?_
          refine z_eqi (y := R 6 (nI 4).toNatClampNeg) rfl ?_
          have f_61 : zR 0 6 (R 6 (nI 4).toNatClampNeg) := mR hI 6 4
          refine lv_bipush (v := nI 6) hx hb dX11_readNext_66 (by decide +kernel) ?_
          refine lv_icmp_ne (tgt := 76) hx hb dX11_readNext_68 (by decide) (fun c_62 => ?_) (fun c_62 => ?_)
          · have t_c_62 := z_eqF c_62
            have f_63 : zR 0 5 (R 6 (nI 4).toNatClampNeg) := zR_nex t_c_62 f_61 zk_6 (by decide)
            refine lv_aload_n hx hb dX11_readNext_76 rfl (lv_at hl 0 rfl) ?_
            refine z_callVi (k := 0) (As := []) (rest := []) hx hb hml hown ht (mk_X11_good l D q cA F _ _ _ hI ) hw_6_123 hmX11_good ⟨rfl, rfl⟩ (na := 0) rfl (by decide +kernel) (by decide) (by decide) rfl rfl hK hP hD hS hA hl.1 rfl (Nat.le_of_ble_eq_true rfl) ⟨Nat.zero_le _, Nat.zero_le _⟩ dX11_readNext_77 (fun r_64 I_64 R_64 J_64 H locs hp_64 hP hD hS _ _ => ?_)
            rcases hp_64 with ⟨rfl, hu_64, nn_64⟩ | ⟨rfl, hu_64, nn_64⟩
            · cases hu_64
              refine lv_if_ne (tgt := 84) hx hb dX11_readNext_80 (by decide) (fun _ => ?_) (fun c_0 => absurd c_0 (zD_ne zk_1 zk_z (by decide)))
              exact early (fun h9 => absurd h9 nn_59) (fun _ => f_63) _ _ hP hD hS _ (lv_sub hl [0] rfl)
            · cases hu_64
              refine lv_if_ne (tgt := 84) hx hb dX11_readNext_80 (by decide) (fun c_0 => absurd (zD_eq zk_0 zk_z) c_0) (fun _ => ?_)
              exact z_vret hx hb hr hlocks hP hD hS dX11_readNext_83 ⟨hI, (mTr_f nn_64)⟩
          · have t_c_62 := z_eqT c_62
            have f_65 : zR 6 6 (R 6 (nI 4).toNatClampNeg) := zR_eqx t_c_62 zk_6
            refine lv_aload_n hx hb dX11_readNext_71 rfl (lv_at hl 0 rfl) ?_
            refine lv_iconst (v := nI 3) hx hb dX11_readNext_72 (by decide +kernel) ?_
            refine z_callVv (k := 0) (As := [.int (nI 3)]) (rest := []) hx hb hml hown ht (mk_X11_errs_2 l D q cA F _ _ _ hI ) hw_6_146 hmX11_errs ⟨rfl, rfl⟩ (na := 1) rfl (by decide +kernel) (by decide) (by decide) rfl rfl hK hP hD hS hA hl.1 rfl (Nat.le_of_ble_eq_true rfl) ⟨Nat.zero_le _, Nat.zero_le _⟩ dX11_readNext_73 (fun I_66 R_66 J_66 H locs hp_66 hP hD hS _ _ => ?_)
            obtain ⟨hq_66, he_66⟩ := hp_66
            obtain ⟨hv_66, hk_66, hj_66⟩ := hq_66
            try dsimp only at hj_66 hk_66
            cases hj_66
            refine lv_aload_n hx hb dX11_readNext_76 rfl (lv_at hl 0 rfl) ?_
            refine z_callVi (k := 0) (As := []) (rest := []) hx hb hml hown ht (mk_X11_good l D q cA F _ _ _ hv_66 ) hw_6_123 hmX11_good ⟨rfl, rfl⟩ (na := 0) rfl (by decide +kernel) (by decide) (by decide) rfl rfl hK hP hD hS hA hl.1 rfl (Nat.le_of_ble_eq_true rfl) ⟨Nat.zero_le _, Nat.zero_le _⟩ dX11_readNext_77 (fun r_67 I_67 R_67 J_67 H locs hp_67 hP hD hS _ _ => ?_)
            rcases hp_67 with ⟨rfl, hu_67, nn_67⟩ | ⟨rfl, hu_67, nn_67⟩
            · cases hu_67
              exact (zR_abs2 nn_67 he_66 (by decide)).elim
            · cases hu_67
              refine lv_if_ne (tgt := 84) hx hb dX11_readNext_80 (by decide) (fun c_0 => absurd (zD_eq zk_0 zk_z) c_0) (fun _ => ?_)
              exact z_vret hx hb hr hlocks hP hD hS dX11_readNext_83 ⟨hv_66, (mTr_f he_66)⟩
        · cases hu_60
          exact absurd nn_58 nn_60
    · cases hu_58
      refine lv_if_ne (tgt := 32) hx hb dX11_readNext_15 (by decide) (fun c_0 => absurd (zD_eq zk_0 zk_z) c_0) (fun _ => ?_)
      refine lv_aload_n hx hb dX11_readNext_18 rfl (lv_at hl 0 rfl) ?_
      refine va_ldcS hx hb hown (hZ.2.2.2.2.2.2.2.2.2.2.2.2.2) dX11_readNext_19 ?_
      refine z_cNVi (k := 0) (As := [.ref (ad 10)]) (rest := []) hx hb hml hown ht (mk_X11_is_6 l D q cA ad av t9 F _ _ _ hI ) hw_6_140 hmX11_is ⟨rfl, rfl⟩ (na := 1) rfl (by decide +kernel) (by decide) (by decide) rfl rfl hK hP hD hS hA (zSS_c (Rs := zMRs) (t9 := t9) (fun _ _ _ => zMRs_c)) (zSS_w (Rs := zMRs) (t9 := t9) (fun _ _ _ => zMRs_w) hN hsz hS) hl.1 rfl (Nat.le_of_ble_eq_true rfl) ⟨Nat.zero_le _, Nat.zero_le _⟩ dX11_readNext_21 (fun r_68 I_68 R_68 J_68 H locs hp_68 hP hD hS _ _ => ?_)
      rcases hp_68 with ⟨rfl, hu_68, nn_68⟩ | ⟨rfl, hu_68, nn_68⟩
      · cases hu_68
        refine lv_if_ne (tgt := 32) hx hb dX11_readNext_24 (by decide) (fun _ => ?_) (fun c_0 => absurd c_0 (zD_ne zk_1 zk_z (by decide)))
        refine lv_aload_n hx hb dX11_readNext_32 rfl (lv_at hl 0 rfl) ?_
        refine va_ldcS hx hb hown (hZ.2.2.2.2.2.2.2.1) dX11_readNext_33 ?_
        refine z_cNVi (k := 0) (As := [.ref (ad 4)]) (rest := []) hx hb hml hown ht (mk_X11_is l D q cA ad av t9 F _ _ _ hI ) hw_6_140 hmX11_is ⟨rfl, rfl⟩ (na := 1) rfl (by decide +kernel) (by decide) (by decide) rfl rfl hK hP hD hS hA (zSS_c (Rs := zMRs) (t9 := t9) (fun _ _ _ => zMRs_c)) (zSS_w (Rs := zMRs) (t9 := t9) (fun _ _ _ => zMRs_w) hN hsz hS) hl.1 rfl (Nat.le_of_ble_eq_true rfl) ⟨Nat.zero_le _, Nat.zero_le _⟩ dX11_readNext_35 (fun r_69 I_69 R_69 J_69 H locs hp_69 hP hD hS _ _ => ?_)
        rcases hp_69 with ⟨rfl, hu_69, nn_69⟩ | ⟨rfl, hu_69, nn_69⟩
        · cases hu_69
          exact absurd nn_69 nn_41
        · cases hu_69
          refine lv_if_eq (tgt := 51) hx hb dX11_readNext_38 (by decide) (fun _ => ?_) (fun c_0 => absurd (zD_eq zk_0 zk_z) c_0)
          refine lv_aload_n hx hb dX11_readNext_51 rfl (lv_at hl 0 rfl) ?_
          refine va_ldcS hx hb hown (hZ.2.2.2.2.2.2.2.2.2.2.1) dX11_readNext_52 ?_
          refine z_cNVi (k := 0) (As := [.ref (ad 7)]) (rest := []) hx hb hml hown ht (mk_X11_is_3 l D q cA ad av t9 F _ _ _ hI ) hw_6_140 hmX11_is ⟨rfl, rfl⟩ (na := 1) rfl (by decide +kernel) (by decide) (by decide) rfl rfl hK hP hD hS hA (zSS_c (Rs := zMRs) (t9 := t9) (fun _ _ _ => zMRs_c)) (zSS_w (Rs := zMRs) (t9 := t9) (fun _ _ _ => zMRs_w) hN hsz hS) hl.1 rfl (Nat.le_of_ble_eq_true rfl) ⟨Nat.zero_le _, Nat.zero_le _⟩ dX11_readNext_54 (fun r_70 I_70 R_70 J_70 H locs hp_70 hP hD hS _ _ => ?_)
          rcases hp_70 with ⟨rfl, hu_70, nn_70⟩ | ⟨rfl, hu_70, nn_70⟩
          · cases hu_70
            exact absurd nn_70 nn_58
          · cases hu_70
            refine lv_if_eq (tgt := 76) hx hb dX11_readNext_57 (by decide) (fun _ => ?_) (fun c_0 => absurd (zD_eq zk_0 zk_z) c_0)
            refine lv_aload_n hx hb dX11_readNext_76 rfl (lv_at hl 0 rfl) ?_
            refine z_callVi (k := 0) (As := []) (rest := []) hx hb hml hown ht (mk_X11_good l D q cA F _ _ _ hI ) hw_6_123 hmX11_good ⟨rfl, rfl⟩ (na := 0) rfl (by decide +kernel) (by decide) (by decide) rfl rfl hK hP hD hS hA hl.1 rfl (Nat.le_of_ble_eq_true rfl) ⟨Nat.zero_le _, Nat.zero_le _⟩ dX11_readNext_77 (fun r_71 I_71 R_71 J_71 H locs hp_71 hP hD hS _ _ => ?_)
            rcases hp_71 with ⟨rfl, hu_71, nn_71⟩ | ⟨rfl, hu_71, nn_71⟩
            · cases hu_71
              refine lv_if_ne (tgt := 84) hx hb dX11_readNext_80 (by decide) (fun _ => ?_) (fun c_0 => absurd c_0 (zD_ne zk_1 zk_z (by decide)))
              exact early (fun h9 => absurd h9 nn_69) (fun h9 => absurd h9 nn_70) _ _ hP hD hS _ (lv_sub hl [0] rfl)
            · cases hu_71
              refine lv_if_ne (tgt := 84) hx hb dX11_readNext_80 (by decide) (fun c_0 => absurd (zD_eq zk_0 zk_z) c_0) (fun _ => ?_)
              exact z_vret hx hb hr hlocks hP hD hS dX11_readNext_83 ⟨hI, (mTr_f nn_71)⟩
      · cases hu_68
        refine lv_if_ne (tgt := 32) hx hb dX11_readNext_24 (by decide) (fun c_0 => absurd (zD_eq zk_0 zk_z) c_0) (fun _ => ?_)
        refine lv_aload_n hx hb dX11_readNext_27 rfl (lv_at hl 0 rfl) ?_
        refine lv_iconst (v := nI 1) hx hb dX11_readNext_28 (by decide +kernel) ?_
        refine z_callVv (k := 0) (As := [.int (nI 1)]) (rest := []) hx hb hml hown ht (mk_X11_errs l D q cA F _ _ _ hI ) hw_6_146 hmX11_errs ⟨rfl, rfl⟩ (na := 1) rfl (by decide +kernel) (by decide) (by decide) rfl rfl hK hP hD hS hA hl.1 rfl (Nat.le_of_ble_eq_true rfl) ⟨Nat.zero_le _, Nat.zero_le _⟩ dX11_readNext_29 (fun I_72 R_72 J_72 H locs hp_72 hP hD hS _ _ => ?_)
        obtain ⟨hq_72, he_72⟩ := hp_72
        obtain ⟨hv_72, hk_72, hj_72⟩ := hq_72
        try dsimp only at hj_72 hk_72
        cases hj_72
        refine lv_aload_n hx hb dX11_readNext_32 rfl (lv_at hl 0 rfl) ?_
        refine va_ldcS hx hb hown (hZ.2.2.2.2.2.2.2.1) dX11_readNext_33 ?_
        refine z_cNVi (k := 0) (As := [.ref (ad 4)]) (rest := []) hx hb hml hown ht (mk_X11_is l D q cA ad av t9 F _ _ _ hv_72 ) hw_6_140 hmX11_is ⟨rfl, rfl⟩ (na := 1) rfl (by decide +kernel) (by decide) (by decide) rfl rfl hK hP hD hS hA (zSS_c (Rs := zMRs) (t9 := t9) (fun _ _ _ => zMRs_c)) (zSS_w (Rs := zMRs) (t9 := t9) (fun _ _ _ => zMRs_w) hN hsz hS) hl.1 rfl (Nat.le_of_ble_eq_true rfl) ⟨Nat.zero_le _, Nat.zero_le _⟩ dX11_readNext_35 (fun r_73 I_73 R_73 J_73 H locs hp_73 hP hD hS _ _ => ?_)
        rcases hp_73 with ⟨rfl, hu_73, nn_73⟩ | ⟨rfl, hu_73, nn_73⟩
        · cases hu_73
          refine lv_if_eq (tgt := 51) hx hb dX11_readNext_38 (by decide) (fun c_0 => absurd c_0 (zD_ne zk_1 zk_z (by decide))) (fun _ => ?_)
          refine lv_aload_n hx hb dX11_readNext_41 rfl (lv_at hl 0 rfl) ?_
          refine z_get hx hb ht hown hK hP ziX11 rfl 0 (by decide) 14 (by decide) hw_5_201 rfl (v := .ref (q 6)) rfl dX11_readNext_42 ?_
          refine lv_iconst (v := nI 3) hx hb dX11_readNext_45 (by decide +kernel) ?_
          refine z_iald hx hb hK hP 6 (by decide) 5 rfl rfl (zR_vin zk_3 (by decide)) dX11_readNext_46 ?_
          refine z_eqi (y := R 6 (nI 3).toNatClampNeg) rfl ?_
          have f_74 : zR 0 5 (R 6 (nI 3).toNatClampNeg) := mR hI 6 3
          refine lv_iconst (v := nI 5) hx hb dX11_readNext_47 (by decide +kernel) ?_
          refine lv_icmp_eq (tgt := 71) hx hb dX11_readNext_48 (by decide) (fun c_75 => ?_) (fun c_75 => ?_)
          · have t_c_75 := z_eqT c_75
            have f_76 : zR 5 5 (R 6 (nI 3).toNatClampNeg) := zR_eqx t_c_75 zk_5
            refine lv_aload_n hx hb dX11_readNext_71 rfl (lv_at hl 0 rfl) ?_
            refine lv_iconst (v := nI 3) hx hb dX11_readNext_72 (by decide +kernel) ?_
            refine z_callVv (k := 0) (As := [.int (nI 3)]) (rest := []) hx hb hml hown ht (mk_X11_errs_2 l D q cA F _ _ _ hv_72 ) hw_6_146 hmX11_errs ⟨rfl, rfl⟩ (na := 1) rfl (by decide +kernel) (by decide) (by decide) rfl rfl hK hP hD hS hA hl.1 rfl (Nat.le_of_ble_eq_true rfl) ⟨Nat.zero_le _, Nat.zero_le _⟩ dX11_readNext_73 (fun I_77 R_77 J_77 H locs hp_77 hP hD hS _ _ => ?_)
            obtain ⟨hq_77, he_77⟩ := hp_77
            obtain ⟨hv_77, hk_77, hj_77⟩ := hq_77
            try dsimp only at hj_77 hk_77
            cases hj_77
            refine lv_aload_n hx hb dX11_readNext_76 rfl (lv_at hl 0 rfl) ?_
            refine z_callVi (k := 0) (As := []) (rest := []) hx hb hml hown ht (mk_X11_good l D q cA F _ _ _ hv_77 ) hw_6_123 hmX11_good ⟨rfl, rfl⟩ (na := 0) rfl (by decide +kernel) (by decide) (by decide) rfl rfl hK hP hD hS hA hl.1 rfl (Nat.le_of_ble_eq_true rfl) ⟨Nat.zero_le _, Nat.zero_le _⟩ dX11_readNext_77 (fun r_78 I_78 R_78 J_78 H locs hp_78 hP hD hS _ _ => ?_)
            rcases hp_78 with ⟨rfl, hu_78, nn_78⟩ | ⟨rfl, hu_78, nn_78⟩
            · cases hu_78
              exact (zR_abs2 nn_78 he_77 (by decide)).elim
            · cases hu_78
              refine lv_if_ne (tgt := 84) hx hb dX11_readNext_80 (by decide) (fun c_0 => absurd (zD_eq zk_0 zk_z) c_0) (fun _ => ?_)
              exact z_vret hx hb hr hlocks hP hD hS dX11_readNext_83 ⟨hv_77, (mTr_t (mTr_f he_72) (mTr_f he_77))⟩
          · have t_c_75 := z_eqF c_75
            have f_79 : zR 0 4 (R 6 (nI 3).toNatClampNeg) := zR_nex t_c_75 f_74 zk_5 (by decide)
            refine lv_aload_n hx hb dX11_readNext_51 rfl (lv_at hl 0 rfl) ?_
            refine va_ldcS hx hb hown (hZ.2.2.2.2.2.2.2.2.2.2.1) dX11_readNext_52 ?_
            refine z_cNVi (k := 0) (As := [.ref (ad 7)]) (rest := []) hx hb hml hown ht (mk_X11_is_3 l D q cA ad av t9 F _ _ _ hv_72 ) hw_6_140 hmX11_is ⟨rfl, rfl⟩ (na := 1) rfl (by decide +kernel) (by decide) (by decide) rfl rfl hK hP hD hS hA (zSS_c (Rs := zMRs) (t9 := t9) (fun _ _ _ => zMRs_c)) (zSS_w (Rs := zMRs) (t9 := t9) (fun _ _ _ => zMRs_w) hN hsz hS) hl.1 rfl (Nat.le_of_ble_eq_true rfl) ⟨Nat.zero_le _, Nat.zero_le _⟩ dX11_readNext_54 (fun r_80 I_80 R_80 J_80 H locs hp_80 hP hD hS _ _ => ?_)
            rcases hp_80 with ⟨rfl, hu_80, nn_80⟩ | ⟨rfl, hu_80, nn_80⟩
            · cases hu_80
              refine lv_if_eq (tgt := 76) hx hb dX11_readNext_57 (by decide) (fun c_0 => absurd c_0 (zD_ne zk_1 zk_z (by decide))) (fun _ => ?_)
              refine lv_aload_n hx hb dX11_readNext_60 rfl (lv_at hl 0 rfl) ?_
              refine z_get hx hb ht hown hK hP ziX11 rfl 0 (by decide) 14 (by decide) hw_5_201 rfl (v := .ref (q 6)) rfl dX11_readNext_61 ?_
              refine lv_iconst (v := nI 4) hx hb dX11_readNext_64 (by decide +kernel) ?_
              refine z_iald hx hb hK hP 6 (by decide) 5 rfl rfl (zR_vin zk_4 (by decide)) dX11_readNext_65 ?_
              refine z_eqi (y := R 6 (nI 4).toNatClampNeg) rfl ?_
              have f_81 : zR 0 6 (R 6 (nI 4).toNatClampNeg) := mR hI 6 4
              refine lv_bipush (v := nI 6) hx hb dX11_readNext_66 (by decide +kernel) ?_
              refine lv_icmp_ne (tgt := 76) hx hb dX11_readNext_68 (by decide) (fun c_82 => ?_) (fun c_82 => ?_)
              · have t_c_82 := z_eqF c_82
                have f_83 : zR 0 5 (R 6 (nI 4).toNatClampNeg) := zR_nex t_c_82 f_81 zk_6 (by decide)
                refine lv_aload_n hx hb dX11_readNext_76 rfl (lv_at hl 0 rfl) ?_
                refine z_callVi (k := 0) (As := []) (rest := []) hx hb hml hown ht (mk_X11_good l D q cA F _ _ _ hv_72 ) hw_6_123 hmX11_good ⟨rfl, rfl⟩ (na := 0) rfl (by decide +kernel) (by decide) (by decide) rfl rfl hK hP hD hS hA hl.1 rfl (Nat.le_of_ble_eq_true rfl) ⟨Nat.zero_le _, Nat.zero_le _⟩ dX11_readNext_77 (fun r_84 I_84 R_84 J_84 H locs hp_84 hP hD hS _ _ => ?_)
                rcases hp_84 with ⟨rfl, hu_84, nn_84⟩ | ⟨rfl, hu_84, nn_84⟩
                · cases hu_84
                  exact (zR_abs2 nn_84 he_72 (by decide)).elim
                · cases hu_84
                  refine lv_if_ne (tgt := 84) hx hb dX11_readNext_80 (by decide) (fun c_0 => absurd (zD_eq zk_0 zk_z) c_0) (fun _ => ?_)
                  exact z_vret hx hb hr hlocks hP hD hS dX11_readNext_83 ⟨hv_72, (mTr_f he_72)⟩
              · have t_c_82 := z_eqT c_82
                have f_85 : zR 6 6 (R 6 (nI 4).toNatClampNeg) := zR_eqx t_c_82 zk_6
                refine lv_aload_n hx hb dX11_readNext_71 rfl (lv_at hl 0 rfl) ?_
                refine lv_iconst (v := nI 3) hx hb dX11_readNext_72 (by decide +kernel) ?_
                refine z_callVv (k := 0) (As := [.int (nI 3)]) (rest := []) hx hb hml hown ht (mk_X11_errs_2 l D q cA F _ _ _ hv_72 ) hw_6_146 hmX11_errs ⟨rfl, rfl⟩ (na := 1) rfl (by decide +kernel) (by decide) (by decide) rfl rfl hK hP hD hS hA hl.1 rfl (Nat.le_of_ble_eq_true rfl) ⟨Nat.zero_le _, Nat.zero_le _⟩ dX11_readNext_73 (fun I_86 R_86 J_86 H locs hp_86 hP hD hS _ _ => ?_)
                obtain ⟨hq_86, he_86⟩ := hp_86
                obtain ⟨hv_86, hk_86, hj_86⟩ := hq_86
                try dsimp only at hj_86 hk_86
                cases hj_86
                refine lv_aload_n hx hb dX11_readNext_76 rfl (lv_at hl 0 rfl) ?_
                refine z_callVi (k := 0) (As := []) (rest := []) hx hb hml hown ht (mk_X11_good l D q cA F _ _ _ hv_86 ) hw_6_123 hmX11_good ⟨rfl, rfl⟩ (na := 0) rfl (by decide +kernel) (by decide) (by decide) rfl rfl hK hP hD hS hA hl.1 rfl (Nat.le_of_ble_eq_true rfl) ⟨Nat.zero_le _, Nat.zero_le _⟩ dX11_readNext_77 (fun r_87 I_87 R_87 J_87 H locs hp_87 hP hD hS _ _ => ?_)
                rcases hp_87 with ⟨rfl, hu_87, nn_87⟩ | ⟨rfl, hu_87, nn_87⟩
                · cases hu_87
                  exact (zR_abs2 nn_87 he_86 (by decide)).elim
                · cases hu_87
                  refine lv_if_ne (tgt := 84) hx hb dX11_readNext_80 (by decide) (fun c_0 => absurd (zD_eq zk_0 zk_z) c_0) (fun _ => ?_)
                  exact z_vret hx hb hr hlocks hP hD hS dX11_readNext_83 ⟨hv_86, (mTr_t (mTr_f he_72) (mTr_f he_86))⟩
            · cases hu_80
              refine lv_if_eq (tgt := 76) hx hb dX11_readNext_57 (by decide) (fun _ => ?_) (fun c_0 => absurd (zD_eq zk_0 zk_z) c_0)
              refine lv_aload_n hx hb dX11_readNext_76 rfl (lv_at hl 0 rfl) ?_
              refine z_callVi (k := 0) (As := []) (rest := []) hx hb hml hown ht (mk_X11_good l D q cA F _ _ _ hv_72 ) hw_6_123 hmX11_good ⟨rfl, rfl⟩ (na := 0) rfl (by decide +kernel) (by decide) (by decide) rfl rfl hK hP hD hS hA hl.1 rfl (Nat.le_of_ble_eq_true rfl) ⟨Nat.zero_le _, Nat.zero_le _⟩ dX11_readNext_77 (fun r_88 I_88 R_88 J_88 H locs hp_88 hP hD hS _ _ => ?_)
              rcases hp_88 with ⟨rfl, hu_88, nn_88⟩ | ⟨rfl, hu_88, nn_88⟩
              · cases hu_88
                exact (zR_abs2 nn_88 he_72 (by decide)).elim
              · cases hu_88
                refine lv_if_ne (tgt := 84) hx hb dX11_readNext_80 (by decide) (fun c_0 => absurd (zD_eq zk_0 zk_z) c_0) (fun _ => ?_)
                exact z_vret hx hb hr hlocks hP hD hS dX11_readNext_83 ⟨hv_72, (mTr_f he_72)⟩
        · cases hu_73
          refine lv_if_eq (tgt := 51) hx hb dX11_readNext_38 (by decide) (fun _ => ?_) (fun c_0 => absurd (zD_eq zk_0 zk_z) c_0)
          refine lv_aload_n hx hb dX11_readNext_51 rfl (lv_at hl 0 rfl) ?_
          refine va_ldcS hx hb hown (hZ.2.2.2.2.2.2.2.2.2.2.1) dX11_readNext_52 ?_
          refine z_cNVi (k := 0) (As := [.ref (ad 7)]) (rest := []) hx hb hml hown ht (mk_X11_is_3 l D q cA ad av t9 F _ _ _ hv_72 ) hw_6_140 hmX11_is ⟨rfl, rfl⟩ (na := 1) rfl (by decide +kernel) (by decide) (by decide) rfl rfl hK hP hD hS hA (zSS_c (Rs := zMRs) (t9 := t9) (fun _ _ _ => zMRs_c)) (zSS_w (Rs := zMRs) (t9 := t9) (fun _ _ _ => zMRs_w) hN hsz hS) hl.1 rfl (Nat.le_of_ble_eq_true rfl) ⟨Nat.zero_le _, Nat.zero_le _⟩ dX11_readNext_54 (fun r_89 I_89 R_89 J_89 H locs hp_89 hP hD hS _ _ => ?_)
          rcases hp_89 with ⟨rfl, hu_89, nn_89⟩ | ⟨rfl, hu_89, nn_89⟩
          · cases hu_89
            refine lv_if_eq (tgt := 76) hx hb dX11_readNext_57 (by decide) (fun c_0 => absurd c_0 (zD_ne zk_1 zk_z (by decide))) (fun _ => ?_)
            refine lv_aload_n hx hb dX11_readNext_60 rfl (lv_at hl 0 rfl) ?_
            refine z_get hx hb ht hown hK hP ziX11 rfl 0 (by decide) 14 (by decide) hw_5_201 rfl (v := .ref (q 6)) rfl dX11_readNext_61 ?_
            refine lv_iconst (v := nI 4) hx hb dX11_readNext_64 (by decide +kernel) ?_
            refine z_iald hx hb hK hP 6 (by decide) 5 rfl rfl (zR_vin zk_4 (by decide)) dX11_readNext_65 ?_
            refine z_eqi (y := R 6 (nI 4).toNatClampNeg) rfl ?_
            have f_90 : zR 0 6 (R 6 (nI 4).toNatClampNeg) := mR hI 6 4
            refine lv_bipush (v := nI 6) hx hb dX11_readNext_66 (by decide +kernel) ?_
            refine lv_icmp_ne (tgt := 76) hx hb dX11_readNext_68 (by decide) (fun c_91 => ?_) (fun c_91 => ?_)
            · have t_c_91 := z_eqF c_91
              have f_92 : zR 0 5 (R 6 (nI 4).toNatClampNeg) := zR_nex t_c_91 f_90 zk_6 (by decide)
              refine lv_aload_n hx hb dX11_readNext_76 rfl (lv_at hl 0 rfl) ?_
              refine z_callVi (k := 0) (As := []) (rest := []) hx hb hml hown ht (mk_X11_good l D q cA F _ _ _ hv_72 ) hw_6_123 hmX11_good ⟨rfl, rfl⟩ (na := 0) rfl (by decide +kernel) (by decide) (by decide) rfl rfl hK hP hD hS hA hl.1 rfl (Nat.le_of_ble_eq_true rfl) ⟨Nat.zero_le _, Nat.zero_le _⟩ dX11_readNext_77 (fun r_93 I_93 R_93 J_93 H locs hp_93 hP hD hS _ _ => ?_)
              rcases hp_93 with ⟨rfl, hu_93, nn_93⟩ | ⟨rfl, hu_93, nn_93⟩
              · cases hu_93
                exact (zR_abs2 nn_93 he_72 (by decide)).elim
              · cases hu_93
                refine lv_if_ne (tgt := 84) hx hb dX11_readNext_80 (by decide) (fun c_0 => absurd (zD_eq zk_0 zk_z) c_0) (fun _ => ?_)
                exact z_vret hx hb hr hlocks hP hD hS dX11_readNext_83 ⟨hv_72, (mTr_f he_72)⟩
            · have t_c_91 := z_eqT c_91
              have f_94 : zR 6 6 (R 6 (nI 4).toNatClampNeg) := zR_eqx t_c_91 zk_6
              refine lv_aload_n hx hb dX11_readNext_71 rfl (lv_at hl 0 rfl) ?_
              refine lv_iconst (v := nI 3) hx hb dX11_readNext_72 (by decide +kernel) ?_
              refine z_callVv (k := 0) (As := [.int (nI 3)]) (rest := []) hx hb hml hown ht (mk_X11_errs_2 l D q cA F _ _ _ hv_72 ) hw_6_146 hmX11_errs ⟨rfl, rfl⟩ (na := 1) rfl (by decide +kernel) (by decide) (by decide) rfl rfl hK hP hD hS hA hl.1 rfl (Nat.le_of_ble_eq_true rfl) ⟨Nat.zero_le _, Nat.zero_le _⟩ dX11_readNext_73 (fun I_95 R_95 J_95 H locs hp_95 hP hD hS _ _ => ?_)
              obtain ⟨hq_95, he_95⟩ := hp_95
              obtain ⟨hv_95, hk_95, hj_95⟩ := hq_95
              try dsimp only at hj_95 hk_95
              cases hj_95
              refine lv_aload_n hx hb dX11_readNext_76 rfl (lv_at hl 0 rfl) ?_
              refine z_callVi (k := 0) (As := []) (rest := []) hx hb hml hown ht (mk_X11_good l D q cA F _ _ _ hv_95 ) hw_6_123 hmX11_good ⟨rfl, rfl⟩ (na := 0) rfl (by decide +kernel) (by decide) (by decide) rfl rfl hK hP hD hS hA hl.1 rfl (Nat.le_of_ble_eq_true rfl) ⟨Nat.zero_le _, Nat.zero_le _⟩ dX11_readNext_77 (fun r_96 I_96 R_96 J_96 H locs hp_96 hP hD hS _ _ => ?_)
              rcases hp_96 with ⟨rfl, hu_96, nn_96⟩ | ⟨rfl, hu_96, nn_96⟩
              · cases hu_96
                exact (zR_abs2 nn_96 he_95 (by decide)).elim
              · cases hu_96
                refine lv_if_ne (tgt := 84) hx hb dX11_readNext_80 (by decide) (fun c_0 => absurd (zD_eq zk_0 zk_z) c_0) (fun _ => ?_)
                exact z_vret hx hb hr hlocks hP hD hS dX11_readNext_83 ⟨hv_95, (mTr_t (mTr_f he_72) (mTr_f he_95))⟩
          · cases hu_89
            refine lv_if_eq (tgt := 76) hx hb dX11_readNext_57 (by decide) (fun _ => ?_) (fun c_0 => absurd (zD_eq zk_0 zk_z) c_0)
            refine lv_aload_n hx hb dX11_readNext_76 rfl (lv_at hl 0 rfl) ?_
            refine z_callVi (k := 0) (As := []) (rest := []) hx hb hml hown ht (mk_X11_good l D q cA F _ _ _ hv_72 ) hw_6_123 hmX11_good ⟨rfl, rfl⟩ (na := 0) rfl (by decide +kernel) (by decide) (by decide) rfl rfl hK hP hD hS hA hl.1 rfl (Nat.le_of_ble_eq_true rfl) ⟨Nat.zero_le _, Nat.zero_le _⟩ dX11_readNext_77 (fun r_97 I_97 R_97 J_97 H locs hp_97 hP hD hS _ _ => ?_)
            rcases hp_97 with ⟨rfl, hu_97, nn_97⟩ | ⟨rfl, hu_97, nn_97⟩
            · cases hu_97
              exact (zR_abs2 nn_97 he_72 (by decide)).elim
            · cases hu_97
              refine lv_if_ne (tgt := 84) hx hb dX11_readNext_80 (by decide) (fun c_0 => absurd (zD_eq zk_0 zk_z) c_0) (fun _ => ?_)
              exact z_vret hx hb hr hlocks hP hD hS dX11_readNext_83 ⟨hv_72, (mTr_f he_72)⟩
set_option maxHeartbeats 4000000 in
set_option maxRecDepth 100000 in
theorem mk_J0_coder_7d493_7 (l : Launch) (D : va_G) (q : Nat → Nat) (cA : Nat → ClassId) (ad av : Nat → Nat) (t9 : Nat) (F : Nat → Nat → Int32) (I R : Nat → Nat → Int32) (J : Nat → Nat → Int64) (hI : mInv F (I, R, J))  : zNi (zSS zMRs 25 q ad av t9) l D vwCl (zMtys cA) 25 q (zMd q cA) yJ0_coder_7d493 cJ0_coder_7d493 1 (some .byte) ({ frames := 0, cells := 0, slots := 0, locals := 0 } : Room) [.ref (ad 0)] (I, R, J) (fun r u => r = nI 0 ∧ u = (I, R, J)) := by
  intro sz
  refine z_bodyN (by decide +kernel) (Nat.le_of_ble_eq_true rfl) (fun p e s m below meth c ls hx hb hml hr ht hown hlocks hsz hK hP hD hS hN hl => ?_)
  have hA : ∀ a, s.heap.size ≤ a → zA 25 q sz a := fun a h => Or.inr (hsz ▸ h)
  have hl : lv_has ls 1 [(0, .ref (ad 0))] := hl
  have hZ : zSz zMRs 25 q ad av t9 sz s := hsz ▸ hN
  refine va_gets hx hb hZ.2.1 hS hown (ht _ hw_2_195) (fun _ h => h) dJ0_coder_7d493_0 ?_
  refine z_eqi (y := nI 1) rfl ?_
  refine lv_if_eq (tgt := 13) hx hb dJ0_coder_7d493_3 (by decide) (fun c_0 => absurd c_0 (zD_ne zk_1 zk_z (by decide))) (fun _ => ?_)
  refine lv_aload_n hx hb dJ0_coder_7d493_6 rfl (lv_at hl 0 rfl) ?_
  refine vk_getf hx hb (hZ.1.1 0 (by decide)).2.1 hS hown (ht _ hw_8_165) (fun _ h => h) dJ0_coder_7d493_7 ?_
  refine z_eqi (y := nI 0) rfl ?_
  refine lv_goto (tgt := 14) hx hb dJ0_coder_7d493_10 (by decide) ?_
  exact z_zret (v := nI 0) hx hb hr hlocks hP hD hS (by decide +kernel) dJ0_coder_7d493_14 ⟨rfl, rfl⟩
set_option maxHeartbeats 4000000 in
set_option maxRecDepth 100000 in
theorem mk_J0_length_8abf5_7 (l : Launch) (D : va_G) (q : Nat → Nat) (cA : Nat → ClassId) (ad av : Nat → Nat) (t9 : Nat) (F : Nat → Nat → Int32) (I R : Nat → Nat → Int32) (J : Nat → Nat → Int64) (hI : mInv F (I, R, J))  : zNi (zSS zMRs 25 q ad av t9) l D vwCl (zMtys cA) 25 q (zMd q cA) yJ0_length_8abf5 cJ0_length_8abf5 1 (some .int) ({ frames := 1, cells := 0, slots := 0, locals := 20 } : Room) [.ref (ad 0)] (I, R, J) (fun r u => r = nI 4 ∧ u = (I, R, J)) := by
  intro sz
  refine z_bodyN (by decide +kernel) (Nat.le_of_ble_eq_true rfl) (fun p e s m below meth c ls hx hb hml hr ht hown hlocks hsz hK hP hD hS hN hl => ?_)
  have hA : ∀ a, s.heap.size ≤ a → zA 25 q sz a := fun a h => Or.inr (hsz ▸ h)
  have hl : lv_has ls 1 [(0, .ref (ad 0))] := hl
  have hZ : zSz zMRs 25 q ad av t9 sz s := hsz ▸ hN
  refine lv_aload_n hx hb dJ0_length_8abf5_0 rfl (lv_at hl 0 rfl) ?_
  refine vk_getf hx hb (hZ.1.1 0 (by decide)).2.2.1 hS hown (ht _ hw_8_164) (fun _ h => h) dJ0_length_8abf5_1 ?_
  refine va_tlen hx hb (hZ.1.1 0 (by decide)).2.2.2 hS (v := nI 4) rfl dJ0_length_8abf5_4 ?_
  refine lv_aload_n hx hb dJ0_length_8abf5_5 rfl (lv_at hl 0 rfl) ?_
  refine z_cNXi (As := []) (rest := [.int (nI 4)]) hx hb hml hown ht (mk_J0_coder_7d493_7 l D q cA ad av t9 F _ _ _ hI ) hw_2_191 hmJ0_coder_7d493 ⟨rfl, rfl⟩ (na := 0) rfl (by decide +kernel) (by decide) (vk_recv hZ.1 (by decide) hS) hK hP hD hS hA (zSS_c (Rs := zMRs) (t9 := t9) (fun _ _ _ => zMRs_c)) (zSS_w (Rs := zMRs) (t9 := t9) (fun _ _ _ => zMRs_w) hN hsz hS) hl.1 rfl (Nat.le_of_ble_eq_true rfl) ⟨Nat.zero_le _, Nat.zero_le _⟩ dJ0_length_8abf5_6 (fun r_1 I_1 R_1 J_1 H locs hp_1 hP hD hS _ _ => ?_)
  obtain ⟨rfl, hu_1⟩ := hp_1
  cases hu_1
  refine lv_ishr hx hb dJ0_length_8abf5_9 ?_
  refine z_eqi (y := nI 4) (by decide +kernel) ?_
  exact z_iret (v := nI 4) hx hb hr hlocks hP hD hS dJ0_length_8abf5_10 ⟨rfl, rfl⟩
set_option maxHeartbeats 4000000 in
set_option maxRecDepth 100000 in
theorem mk_J0_isLatin1_aae02_7 (l : Launch) (D : va_G) (q : Nat → Nat) (cA : Nat → ClassId) (ad av : Nat → Nat) (t9 : Nat) (F : Nat → Nat → Int32) (I R : Nat → Nat → Int32) (J : Nat → Nat → Int64) (hI : mInv F (I, R, J))  : zNi (zSS zMRs 25 q ad av t9) l D vwCl (zMtys cA) 25 q (zMd q cA) yJ0_isLatin1_aae02 cJ0_isLatin1_aae02 1 (some .boolean) ({ frames := 0, cells := 0, slots := 0, locals := 0 } : Room) [.ref (ad 0)] (I, R, J) (fun r u => (r = nI 1 ∧ u = (I, R, J))) := by
  intro sz
  refine z_bodyN (by decide +kernel) (Nat.le_of_ble_eq_true rfl) (fun p e s m below meth c ls hx hb hml hr ht hown hlocks hsz hK hP hD hS hN hl => ?_)
  have hA : ∀ a, s.heap.size ≤ a → zA 25 q sz a := fun a h => Or.inr (hsz ▸ h)
  have hl : lv_has ls 1 [(0, .ref (ad 0))] := hl
  have hZ : zSz zMRs 25 q ad av t9 sz s := hsz ▸ hN
  refine va_gets hx hb hZ.2.1 hS hown (ht _ hw_2_195) (fun _ h => h) dJ0_isLatin1_aae02_0 ?_
  refine z_eqi (y := nI 1) rfl ?_
  refine lv_if_eq (tgt := 17) hx hb dJ0_isLatin1_aae02_3 (by decide) (fun c_0 => absurd c_0 (zD_ne zk_1 zk_z (by decide))) (fun _ => ?_)
  refine lv_aload_n hx hb dJ0_isLatin1_aae02_6 rfl (lv_at hl 0 rfl) ?_
  refine vk_getf hx hb (hZ.1.1 0 (by decide)).2.1 hS hown (ht _ hw_8_165) (fun _ h => h) dJ0_isLatin1_aae02_7 ?_
  refine z_eqi (y := nI 0) rfl ?_
  refine lv_if_ne (tgt := 17) hx hb dJ0_isLatin1_aae02_10 (by decide) (fun c_0 => absurd (zD_eq zk_0 zk_z) c_0) (fun _ => ?_)
  refine lv_iconst (v := nI 1) hx hb dJ0_isLatin1_aae02_13 (by decide +kernel) ?_
  refine lv_goto (tgt := 18) hx hb dJ0_isLatin1_aae02_14 (by decide) ?_
  exact z_zret (v := nI 1) hx hb hr hlocks hP hD hS (by decide +kernel) dJ0_isLatin1_aae02_18 ⟨rfl, rfl⟩
set_option maxHeartbeats 4000000 in
set_option maxRecDepth 100000 in
theorem mk_J1_charAt_3b067_14 (l : Launch) (D : va_G) (q : Nat → Nat) (cA : Nat → ClassId) (ad av : Nat → Nat) (t9 : Nat) (F : Nat → Nat → Int32) (I R : Nat → Nat → Int32) (J : Nat → Nat → Int64) (hI : mInv F (I, R, J)) (pa1 : Int32) (hpa1 : zR 0 3 pa1) : zNi (zSS zMRs 25 q ad av t9) l D vwCl (zMtys cA) 25 q (zMd q cA) yJ1_charAt_3b067 cJ1_charAt_3b067 2 (some .char) ({ frames := 2, cells := 0, slots := 0, locals := 43 } : Room) [.ref (av 0), .int (pa1)] (I, R, J) (fun r u => (r = zch 0 (pa1).toNatClampNeg ∧ zR 0 65535 r) ∧ u = (I, R, J)) := by
  intro sz
  refine z_bodyN (by decide +kernel) (Nat.le_of_ble_eq_true rfl) (fun p e s m below meth c ls hx hb hml hr ht hown hlocks hsz hK hP hD hS hN hl => ?_)
  have hA : ∀ a, s.heap.size ≤ a → zA 25 q sz a := fun a h => Or.inr (hsz ▸ h)
  have hl : lv_has ls 2 [(0, .ref (av 0)), (1, .int (pa1))] := hl
  have hZ : zSz zMRs 25 q ad av t9 sz s := hsz ▸ hN
  refine lv_iload_n hx hb dJ1_charAt_3b067_0 rfl (lv_at hl 1 rfl) ?_
  refine lv_aload_n hx hb dJ1_charAt_3b067_1 rfl (lv_at hl 0 rfl) ?_
  refine va_tlen hx hb (hZ.1.1 0 (by decide)).2.2.2 hS (v := nI 4) rfl dJ1_charAt_3b067_2 ?_
  refine z_cNSv (As := [.int (pa1), .int (nI 4)]) (rest := []) hx hb hml hown ht (mk_J0_checkIndex_df160_6 l D q cA ad av t9 F _ _ _ hI (pa1) hpa1) hw_2_208 hmJ0_checkIndex_df160 ⟨rfl, rfl⟩ (na := 2) rfl (by decide +kernel) (by decide) hK hP hD hS hA (zSS_c (Rs := zMRs) (t9 := t9) (fun _ _ _ => zMRs_c)) (zSS_w (Rs := zMRs) (t9 := t9) (fun _ _ _ => zMRs_w) hN hsz hS) hl.1 rfl (Nat.le_of_ble_eq_true rfl) ⟨Nat.zero_le _, Nat.zero_le _⟩ dJ1_charAt_3b067_3 (fun I_1 R_1 J_1 H locs hp_1 hP hD hS _ _ => ?_)
  cases hp_1
  refine lv_aload_n hx hb dJ1_charAt_3b067_6 rfl (lv_at hl 0 rfl) ?_
  refine lv_iload_n hx hb dJ1_charAt_3b067_7 rfl (lv_at hl 1 rfl) ?_
  refine va_tb hx hb (hZ.1.1 0 (by decide)).2.2.2 hS (zR_vin hpa1 (by decide)) (v := .int ((zByt.getD 0 []).getD (pa1).toNatClampNeg 0)) rfl dJ1_charAt_3b067_8 ?_
  refine lv_sipush (v := nI 255) hx hb dJ1_charAt_3b067_9 (by decide +kernel) ?_
  refine lv_iand hx hb dJ1_charAt_3b067_12 ?_
  refine lv_i2c (v := ((((zByt.getD 0 []).getD (pa1).toNatClampNeg 0) &&& (nI 255)).toUInt32 % 65536).toInt32) hx hb dJ1_charAt_3b067_13 rfl ?_
  exact z_zret (v := ((((zByt.getD 0 []).getD (pa1).toNatClampNeg 0) &&& (nI 255)).toUInt32 % 65536).toInt32) hx hb hr hlocks hP hD hS (zR_char (zR_i2c _)) dJ1_charAt_3b067_14 ⟨⟨rfl, (zR_i2c _)⟩, rfl⟩
set_option maxHeartbeats 4000000 in
set_option maxRecDepth 100000 in
theorem mk_J0_charAt_5068e_14 (l : Launch) (D : va_G) (q : Nat → Nat) (cA : Nat → ClassId) (ad av : Nat → Nat) (t9 : Nat) (F : Nat → Nat → Int32) (I R : Nat → Nat → Int32) (J : Nat → Nat → Int64) (hI : mInv F (I, R, J)) (pa0 : Int32) (hpa0 : zR 0 3 pa0) : zNi (zSS zMRs 25 q ad av t9) l D vwCl (zMtys cA) 25 q (zMd q cA) yJ0_charAt_5068e cJ0_charAt_5068e 2 (some .char) ({ frames := 3, cells := 0, slots := 0, locals := 64 } : Room) [.ref (ad 0), .int (pa0)] (I, R, J) (fun r u => (r = zch 0 (pa0).toNatClampNeg ∧ zR 0 65535 r) ∧ u = (I, R, J)) := by
  intro sz
  refine z_bodyN (by decide +kernel) (Nat.le_of_ble_eq_true rfl) (fun p e s m below meth c ls hx hb hml hr ht hown hlocks hsz hK hP hD hS hN hl => ?_)
  have hA : ∀ a, s.heap.size ≤ a → zA 25 q sz a := fun a h => Or.inr (hsz ▸ h)
  have hl : lv_has ls 2 [(0, .ref (ad 0)), (1, .int (pa0))] := hl
  have hZ : zSz zMRs 25 q ad av t9 sz s := hsz ▸ hN
  refine lv_aload_n hx hb dJ0_charAt_5068e_0 rfl (lv_at hl 0 rfl) ?_
  refine z_cNXi (As := []) (rest := []) hx hb hml hown ht (mk_J0_isLatin1_aae02_7 l D q cA ad av t9 F _ _ _ hI ) hw_2_201 hmJ0_isLatin1_aae02 ⟨rfl, rfl⟩ (na := 0) rfl (by decide +kernel) (by decide) (vk_recv hZ.1 (by decide) hS) hK hP hD hS hA (zSS_c (Rs := zMRs) (t9 := t9) (fun _ _ _ => zMRs_c)) (zSS_w (Rs := zMRs) (t9 := t9) (fun _ _ _ => zMRs_w) hN hsz hS) hl.1 rfl (Nat.le_of_ble_eq_true rfl) ⟨Nat.zero_le _, Nat.zero_le _⟩ dJ0_charAt_5068e_1 (fun r_1 I_1 R_1 J_1 H locs hp_1 hP hD hS _ _ => ?_)
  obtain ⟨rfl, hu_1⟩ := hp_1
  cases hu_1
  refine lv_if_eq (tgt := 16) hx hb dJ0_charAt_5068e_4 (by decide) (fun c_0 => absurd c_0 (zD_ne zk_1 zk_z (by decide))) (fun _ => ?_)
  refine lv_aload_n hx hb dJ0_charAt_5068e_7 rfl (lv_at hl 0 rfl) ?_
  refine vk_getf hx hb (hZ.1.1 0 (by decide)).2.2.1 hS hown (ht _ hw_8_164) (fun _ h => h) dJ0_charAt_5068e_8 ?_
  refine lv_iload_n hx hb dJ0_charAt_5068e_11 rfl (lv_at hl 1 rfl) ?_
  refine z_cNSi (As := [.ref (av 0), .int (pa0)]) (rest := []) hx hb hml hown ht (mk_J1_charAt_3b067_14 l D q cA ad av t9 F _ _ _ hI (pa0) hpa0) hw_2_205 hmJ1_charAt_3b067 ⟨rfl, rfl⟩ (na := 2) rfl (by decide +kernel) (by decide) hK hP hD hS hA (zSS_c (Rs := zMRs) (t9 := t9) (fun _ _ _ => zMRs_c)) (zSS_w (Rs := zMRs) (t9 := t9) (fun _ _ _ => zMRs_w) hN hsz hS) hl.1 rfl (Nat.le_of_ble_eq_true rfl) ⟨Nat.zero_le _, Nat.zero_le _⟩ dJ0_charAt_5068e_12 (fun r_2 I_2 R_2 J_2 H locs hp_2 hP hD hS _ _ => ?_)
  obtain ⟨⟨rfl, hr_2⟩, hu_2⟩ := hp_2
  cases hu_2
  exact z_zret (v := zch 0 (pa0).toNatClampNeg) hx hb hr hlocks hP hD hS (zR_char hr_2) dJ0_charAt_5068e_15 ⟨⟨rfl, hr_2⟩, rfl⟩
set_option maxHeartbeats 4000000 in
set_option maxRecDepth 100000 in
theorem mk_X11_is_7 (l : Launch) (D : va_G) (q : Nat → Nat) (cA : Nat → ClassId) (ad av : Nat → Nat) (t9 : Nat) (F : Nat → Nat → Int32) (I R : Nat → Nat → Int32) (J : Nat → Nat → Int64) (hI : mInv F (I, R, J))  : zNi (zSS zMRs 25 q ad av t9) l D vwCl (zMtys cA) 25 q (zMd q cA) yX11_is cX11_is 4 (some .boolean) ({ frames := 4, cells := 0, slots := 0, locals := 85 } : Room) [.ref (q 0), .ref (ad 0)] (I, R, J) (fun r u => (r = nI 1 ∧ u = (I, R, J) ∧ mIs 0 I R) ∨ (r = nI 0 ∧ u = (I, R, J) ∧ ¬ mIs 0 I R)) := by
  intro sz
  refine z_bodyN (by decide +kernel) (Nat.le_of_ble_eq_true rfl) (fun p e s m below meth c ls hx hb hml hr ht hown hlocks hsz hK hP hD hS hN hl => ?_)
  have hA : ∀ a, s.heap.size ≤ a → zA 25 q sz a := fun a h => Or.inr (hsz ▸ h)
  have hl : lv_has ls 4 [(0, .ref (q 0)), (1, .ref (ad 0))] := hl
  have hZ : zSz zMRs 25 q ad av t9 sz s := hsz ▸ hN
  refine lv_aload_n hx hb dX11_is_0 rfl (lv_at hl 0 rfl) ?_
  refine z_callVi (k := 0) (As := []) (rest := []) hx hb hml hown ht (mk_X11_good l D q cA F _ _ _ hI ) hw_6_123 hmX11_good ⟨rfl, rfl⟩ (na := 0) rfl (by decide +kernel) (by decide) (by decide) rfl rfl hK hP hD hS hA hl.1 rfl (Nat.le_of_ble_eq_true rfl) ⟨Nat.zero_le _, Nat.zero_le _⟩ dX11_is_1 (fun r_1 I_1 R_1 J_1 H locs hp_1 hP hD hS _ _ => ?_)
  rcases hp_1 with ⟨rfl, hu_1, nn_1⟩ | ⟨rfl, hu_1, nn_1⟩
  · cases hu_1
    refine lv_if_eq (tgt := 35) hx hb dX11_is_4 (by decide) (fun c_0 => absurd c_0 (zD_ne zk_1 zk_z (by decide))) (fun _ => ?_)
    refine lv_aload_n hx hb dX11_is_7 rfl (lv_at hl 0 rfl) ?_
    refine z_get hx hb ht hown hK hP ziX11 rfl 0 (by decide) 10 (by decide) hw_5_197 rfl (v := .int (I 0 10)) rfl dX11_is_8 ?_
    refine lv_iconst (v := nI 1) hx hb dX11_is_11 (by decide +kernel) ?_
    refine lv_icmp_ne (tgt := 35) hx hb dX11_is_12 (by decide) (fun c_2 => ?_) (fun c_2 => ?_)
    · have t_c_2 := z_eqF c_2
      refine lv_iconst (v := nI 0) hx hb dX11_is_35 (by decide +kernel) ?_
      refine lv_istore_n (lv' := [(2, .int (nI 0)), (0, .ref (q 0)), (1, .ref (ad 0))]) hx hb dX11_is_36 rfl hl (by decide) rfl (fun ls hl => ?_)
      refine lv_iconst (v := nI 0) hx hb dX11_is_37 (by decide +kernel) ?_
      refine lv_istore_n (lv' := [(3, .int (nI 0)), (2, .int (nI 0)), (0, .ref (q 0)), (1, .ref (ad 0))]) hx hb dX11_is_38 rfl hl (by decide) rfl (fun ls hl => ?_)
      refine lv_iload_n hx hb dX11_is_39 rfl (lv_at hl 0 rfl) ?_
      refine lv_aload_n hx hb dX11_is_40 rfl (lv_at hl 3 rfl) ?_
      refine z_cNXi (As := []) (rest := [.int (nI 0)]) hx hb hml hown ht (mk_J0_length_8abf5_7 l D q cA ad av t9 F _ _ _ hI ) hw_6_144 hmJ0_length_8abf5 ⟨rfl, rfl⟩ (na := 0) rfl (by decide +kernel) (by decide) (vk_recv hZ.1 (by decide) hS) hK hP hD hS hA (zSS_c (Rs := zMRs) (t9 := t9) (fun _ _ _ => zMRs_c)) (zSS_w (Rs := zMRs) (t9 := t9) (fun _ _ _ => zMRs_w) hN hsz hS) hl.1 rfl (Nat.le_of_ble_eq_true rfl) ⟨Nat.zero_le _, Nat.zero_le _⟩ dX11_is_41 (fun r_5 I_5 R_5 J_5 H locs hp_5 hP hD hS _ _ => ?_)
      obtain ⟨rfl, hu_5⟩ := hp_5
      cases hu_5
      refine lv_icmp_ge (tgt := 82) hx hb dX11_is_44 (by decide) (fun c_0 => absurd c_0 (zD_nle zk_4 zk_0 (by decide))) (fun _ => ?_)
      refine lv_iload_n hx hb dX11_is_47 rfl (lv_at hl 1 rfl) ?_
      refine lv_if_eq (tgt := 82) hx hb dX11_is_48 (by decide) (fun _ => ?_) (fun c_0 => absurd (zD_eq zk_0 zk_z) c_0)
      refine lv_iload_n hx hb dX11_is_82 rfl (lv_at hl 1 rfl) ?_
      exact z_zret (v := nI 0) hx hb hr hlocks hP hD hS (by decide +kernel) dX11_is_83 (Or.inr ⟨rfl, rfl, (mIs_n2 t_c_2)⟩)
    · have t_c_2 := z_eqT c_2
      have f_6 : zR 1 1 (I 0 10) := zR_eqx t_c_2 zk_1
      refine lv_aload_n hx hb dX11_is_15 rfl (lv_at hl 0 rfl) ?_
      refine z_get hx hb ht hown hK hP ziX11 rfl 0 (by decide) 8 (by decide) hw_5_195 rfl (v := .int (I 0 8)) rfl dX11_is_16 ?_
      have f_7 : zR 0 800 (I 0 8) := mI hI 0 8
      refine lv_aload_n hx hb dX11_is_19 rfl (lv_at hl 0 rfl) ?_
      refine z_get hx hb ht hown hK hP ziX11 rfl 0 (by decide) 9 (by decide) hw_5_196 rfl (v := .int (I 0 9)) rfl dX11_is_20 ?_
      have f_8 : zR 0 800 (I 0 9) := mI hI 0 9
      refine lv_isub hx hb dX11_is_23 ?_
      refine lv_topi (fun v_9 ev_9 => ?_)
      have hv_9 : zR (-800) 800 v_9 := ev_9 ▸ zR_sub f_7 f_8 (by decide)
      refine lv_aload_n hx hb dX11_is_24 rfl (lv_at hl 1 rfl) ?_
      refine z_cNXi (As := []) (rest := [.int (v_9)]) hx hb hml hown ht (mk_J0_length_8abf5_7 l D q cA ad av t9 F _ _ _ hI ) hw_6_144 hmJ0_length_8abf5 ⟨rfl, rfl⟩ (na := 0) rfl (by decide +kernel) (by decide) (vk_recv hZ.1 (by decide) hS) hK hP hD hS hA (zSS_c (Rs := zMRs) (t9 := t9) (fun _ _ _ => zMRs_c)) (zSS_w (Rs := zMRs) (t9 := t9) (fun _ _ _ => zMRs_w) hN hsz hS) hl.1 rfl (Nat.le_of_ble_eq_true rfl) ⟨Nat.zero_le _, Nat.zero_le _⟩ dX11_is_25 (fun r_10 I_10 R_10 J_10 H locs hp_10 hP hD hS _ _ => ?_)
      obtain ⟨rfl, hu_10⟩ := hp_10
      cases hu_10
      refine lv_icmp_ne (tgt := 35) hx hb dX11_is_28 (by decide) (fun c_11 => ?_) (fun c_11 => ?_)
      · have t_c_11 := z_eqF c_11
        refine lv_iconst (v := nI 0) hx hb dX11_is_35 (by decide +kernel) ?_
        refine lv_istore_n (lv' := [(2, .int (nI 0)), (0, .ref (q 0)), (1, .ref (ad 0))]) hx hb dX11_is_36 rfl hl (by decide) rfl (fun ls hl => ?_)
        refine lv_iconst (v := nI 0) hx hb dX11_is_37 (by decide +kernel) ?_
        refine lv_istore_n (lv' := [(3, .int (nI 0)), (2, .int (nI 0)), (0, .ref (q 0)), (1, .ref (ad 0))]) hx hb dX11_is_38 rfl hl (by decide) rfl (fun ls hl => ?_)
        refine lv_iload_n hx hb dX11_is_39 rfl (lv_at hl 0 rfl) ?_
        refine lv_aload_n hx hb dX11_is_40 rfl (lv_at hl 3 rfl) ?_
        refine z_cNXi (As := []) (rest := [.int (nI 0)]) hx hb hml hown ht (mk_J0_length_8abf5_7 l D q cA ad av t9 F _ _ _ hI ) hw_6_144 hmJ0_length_8abf5 ⟨rfl, rfl⟩ (na := 0) rfl (by decide +kernel) (by decide) (vk_recv hZ.1 (by decide) hS) hK hP hD hS hA (zSS_c (Rs := zMRs) (t9 := t9) (fun _ _ _ => zMRs_c)) (zSS_w (Rs := zMRs) (t9 := t9) (fun _ _ _ => zMRs_w) hN hsz hS) hl.1 rfl (Nat.le_of_ble_eq_true rfl) ⟨Nat.zero_le _, Nat.zero_le _⟩ dX11_is_41 (fun r_14 I_14 R_14 J_14 H locs hp_14 hP hD hS _ _ => ?_)
        obtain ⟨rfl, hu_14⟩ := hp_14
        cases hu_14
        refine lv_icmp_ge (tgt := 82) hx hb dX11_is_44 (by decide) (fun c_0 => absurd c_0 (zD_nle zk_4 zk_0 (by decide))) (fun _ => ?_)
        refine lv_iload_n hx hb dX11_is_47 rfl (lv_at hl 1 rfl) ?_
        refine lv_if_eq (tgt := 82) hx hb dX11_is_48 (by decide) (fun _ => ?_) (fun c_0 => absurd (zD_eq zk_0 zk_z) c_0)
        refine lv_iload_n hx hb dX11_is_82 rfl (lv_at hl 1 rfl) ?_
        exact z_zret (v := nI 0) hx hb hr hlocks hP hD hS (by decide +kernel) dX11_is_83 (Or.inr ⟨rfl, rfl, (mIs_n3 ev_9 t_c_11)⟩)
      · have t_c_11 := z_eqT c_11
        have f_15 : zR 4 4 (v_9) := zR_eqx t_c_11 zk_4
        have f_16 : zR 0 796 (I 0 9) := z_start f_7 f_8 ev_9 f_15 (by decide)
        refine lv_iconst (v := nI 1) hx hb dX11_is_31 (by decide +kernel) ?_
        refine lv_goto (tgt := 36) hx hb dX11_is_32 (by decide) ?_
        refine lv_istore_n (lv' := [(2, .int (nI 1)), (0, .ref (q 0)), (1, .ref (ad 0))]) hx hb dX11_is_36 rfl hl (by decide) rfl (fun ls hl => ?_)
        refine lv_iconst (v := nI 0) hx hb dX11_is_37 (by decide +kernel) ?_
        refine lv_istore_n (lv' := [(3, .int (nI 0)), (2, .int (nI 1)), (0, .ref (q 0)), (1, .ref (ad 0))]) hx hb dX11_is_38 rfl hl (by decide) rfl (fun ls hl => ?_)
        have loop_71 : ∀ N : Nat, ∀ x_68 : Int32, zR 0 1 x_68 → ∀ x_69 : Int32, zR 0 4 x_69 → (mIsL 0 I R (x_69) (x_68)) → (2147483648 - (x_69).toInt).toNat < N → ∀ (H : Heap) (locs : List Loc), va_P D vwCl (zw 25 q (zMd q cA) I R J) H → va_D (zA 25 q sz) (zw 25 q (zMd q cA) I R J) → va_S (zA 25 q sz) s.heap H locs → ∀ ls : Array Slot, lv_has ls 4 [(0, .ref (q 0)), (1, .ref (ad 0)), (2, .int (x_68)), (3, .int (x_69))] → W p l e ({ frames := 4, cells := 0, slots := 0, locals := 85 } : Room) s m ([.ref (q 0), .ref (ad 0)] : List Value).toArray below meth c H locs 0 0 (MQ below (va_Qi (fun r u => (r = nI 1 ∧ u = (I, R, J) ∧ mIs 0 I R) ∨ (r = nI 0 ∧ u = (I, R, J) ∧ ¬ mIs 0 I R)) (zB D vwCl 25 q (zMd q cA) sz) (zA 25 q sz)) ([.ref (q 0), .ref (ad 0)] : List Value).toArray s 0 0 (zA 25 q sz)) (F0 m 39 ls []) := by
          intro N
          induction N with
          | zero => intro x_68 hx_68 x_69 hx_69 hx_70 hN; exact absurd hN (Nat.not_lt_zero _)
          | succ N ih_73 =>
            intro x_68 hx_68 x_69 hx_69 hx_70 hN_72 H locs hP hD hS ls hl
            refine lv_iload_n hx hb dX11_is_39 rfl (lv_at hl 3 rfl) ?_
            refine lv_aload_n hx hb dX11_is_40 rfl (lv_at hl 1 rfl) ?_
            refine z_cNXi (As := []) (rest := [.int (x_69)]) hx hb hml hown ht (mk_J0_length_8abf5_7 l D q cA ad av t9 F _ _ _ hI ) hw_6_144 hmJ0_length_8abf5 ⟨rfl, rfl⟩ (na := 0) rfl (by decide +kernel) (by decide) (vk_recv hZ.1 (by decide) hS) hK hP hD hS hA (zSS_c (Rs := zMRs) (t9 := t9) (fun _ _ _ => zMRs_c)) (zSS_w (Rs := zMRs) (t9 := t9) (fun _ _ _ => zMRs_w) hN hsz hS) hl.1 rfl (Nat.le_of_ble_eq_true rfl) ⟨Nat.zero_le _, Nat.zero_le _⟩ dX11_is_41 (fun r_74 I_74 R_74 J_74 H locs hp_74 hP hD hS _ _ => ?_)
            obtain ⟨rfl, hu_74⟩ := hp_74
            cases hu_74
            refine lv_icmp_ge (tgt := 82) hx hb dX11_is_44 (by decide) (fun c_75 => ?_) (fun c_75 => ?_)
            · have t_c_75 := z_leT c_75
              have f_76 : zR 4 4 (x_69) := zR_ley t_c_75 zk_4 hx_69 (by decide)
              refine lv_iload_n hx hb dX11_is_82 rfl (lv_at hl 2 rfl) ?_
              exact z_zret (v := x_68) hx hb hr hlocks hP hD hS (zR_bool (a := 0) (b := 1) hx_68 (by decide)).1 dX11_is_83 (mIs_r1 hx_70 hx_68 t_c_75)
            · have t_c_75 := z_leF c_75
              have f_77 : zR 0 3 (x_69) := zR_ltx t_c_75 hx_69 zk_4 (by decide)
              refine lv_iload_n hx hb dX11_is_47 rfl (lv_at hl 2 rfl) ?_
              refine lv_if_eq (tgt := 82) hx hb dX11_is_48 (by decide) (fun c_78 => ?_) (fun c_78 => ?_)
              · have t_c_78 := z_eqT c_78
                have f_79 : zR 0 0 (x_68) := zR_eqx t_c_78 zk_z
                refine lv_iload_n hx hb dX11_is_82 rfl (lv_at hl 2 rfl) ?_
                exact z_zret (v := x_68) hx hb hr hlocks hP hD hS (zR_bool (a := 0) (b := 1) (zR_w f_79 (by decide)) (by decide)).1 dX11_is_83 (mIs_r0 hx_70 f_79)
              · have t_c_78 := z_eqF c_78
                have f_80 : zR 1 1 (x_68) := zR_nex t_c_78 hx_68 zk_z (by decide)
                refine lv_aload_n hx hb dX11_is_51 rfl (lv_at hl 0 rfl) ?_
                refine z_get hx hb ht hown hK hP ziX11 rfl 0 (by decide) 4 (by decide) hw_5_191 rfl (v := .ref (q 4)) rfl dX11_is_52 ?_
                refine lv_aload_n hx hb dX11_is_55 rfl (lv_at hl 0 rfl) ?_
                refine z_get hx hb ht hown hK hP ziX11 rfl 0 (by decide) 9 (by decide) hw_5_196 rfl (v := .int (I 0 9)) rfl dX11_is_56 ?_
                refine lv_iload_n hx hb dX11_is_59 rfl (lv_at hl 3 rfl) ?_
                refine lv_iadd hx hb dX11_is_60 ?_
                refine lv_topi (fun v_81 ev_81 => ?_)
                have hv_81 : zR 0 799 v_81 := ev_81 ▸ zR_add f_16 f_77 (by decide)
                refine z_bald hx hb hK hP 4 (by decide) 3 rfl rfl (zR_vin hv_81 (by decide)) dX11_is_61 ?_
                refine z_eqi (y := R 4 (v_81).toNatClampNeg) rfl ?_
                refine lv_aload_n hx hb dX11_is_62 rfl (lv_at hl 1 rfl) ?_
                refine lv_iload_n hx hb dX11_is_63 rfl (lv_at hl 3 rfl) ?_
                refine z_cNXi (As := [.int (x_69)]) (rest := [.int (R 4 (v_81).toNatClampNeg)]) hx hb hml hown ht (mk_J0_charAt_5068e_14 l D q cA ad av t9 F _ _ _ hI (x_69) f_77) hw_6_145 hmJ0_charAt_5068e ⟨rfl, rfl⟩ (na := 1) rfl (by decide +kernel) (by decide) (vk_recv hZ.1 (by decide) hS) hK hP hD hS hA (zSS_c (Rs := zMRs) (t9 := t9) (fun _ _ _ => zMRs_c)) (zSS_w (Rs := zMRs) (t9 := t9) (fun _ _ _ => zMRs_w) hN hsz hS) hl.1 rfl (Nat.le_of_ble_eq_true rfl) ⟨Nat.zero_le _, Nat.zero_le _⟩ dX11_is_64 (fun r_82 I_82 R_82 J_82 H locs hp_82 hP hD hS _ _ => ?_)
                obtain ⟨⟨rfl, hr_82⟩, hu_82⟩ := hp_82
                cases hu_82
                refine lv_icmp_ne (tgt := 74) hx hb dX11_is_67 (by decide) (fun c_83 => ?_) (fun c_83 => ?_)
                · have t_c_83 := z_eqF c_83
                  refine lv_iconst (v := nI 0) hx hb dX11_is_74 (by decide +kernel) ?_
                  refine lv_istore_n (lv' := [(2, .int (nI 0)), (0, .ref (q 0)), (1, .ref (ad 0)), (3, .int (x_69))]) hx hb dX11_is_75 rfl hl (by decide) rfl (fun ls hl => ?_)
                  obtain ⟨v_84, ev_84⟩ : ∃ y : Int32, y = x_69 + nI 1 := ⟨_, rfl⟩
                  have hv_84 : zR 1 4 v_84 := ev_84 ▸ zR_add f_77 zk_1 (by decide)
                  have mv_84 : v_84.toInt = (x_69).toInt + 1 := by rw [ev_84, zR_addE f_77 zk_1 (by decide)]; rfl
                  refine lv_iinc (v := v_84) (lv' := [(3, .int (v_84)), (2, .int (nI 0)), (0, .ref (q 0)), (1, .ref (ad 0))]) hx hb dX11_is_76 hl (k := 3) rfl (ev_84 ▸ rfl) (by decide) rfl (fun ls hl => ?_)
                  refine lv_goto (tgt := 39) hx hb dX11_is_79 (by decide) ?_
                  exact ih_73 (nI 0) (zR_w zk_0 (by decide)) (v_84) (zR_w hv_84 (by decide)) (mIsL_n hx_70 f_80 t_c_75 t_c_83 (mIs_ix (zR_w f_16 (by decide)) (zR_w f_77 (by decide)) ev_81)) (z2_up mv_84 (by decide) hN_72) _ _ hP hD hS _ (lv_sub hl [2, 3, 1, 0] rfl)
                · have t_c_83 := z_eqT c_83
                  have f_85 : zR 0 65535 (R 4 (v_81).toNatClampNeg) := zR_eqx t_c_83 hr_82
                  refine lv_iconst (v := nI 1) hx hb dX11_is_70 (by decide +kernel) ?_
                  refine lv_goto (tgt := 75) hx hb dX11_is_71 (by decide) ?_
                  refine lv_istore_n (lv' := [(2, .int (nI 1)), (0, .ref (q 0)), (1, .ref (ad 0)), (3, .int (x_69))]) hx hb dX11_is_75 rfl hl (by decide) rfl (fun ls hl => ?_)
                  obtain ⟨v_86, ev_86⟩ : ∃ y : Int32, y = x_69 + nI 1 := ⟨_, rfl⟩
                  have hv_86 : zR 1 4 v_86 := ev_86 ▸ zR_add f_77 zk_1 (by decide)
                  have mv_86 : v_86.toInt = (x_69).toInt + 1 := by rw [ev_86, zR_addE f_77 zk_1 (by decide)]; rfl
                  refine lv_iinc (v := v_86) (lv' := [(3, .int (v_86)), (2, .int (nI 1)), (0, .ref (q 0)), (1, .ref (ad 0))]) hx hb dX11_is_76 hl (k := 3) rfl (ev_86 ▸ rfl) (by decide) rfl (fun ls hl => ?_)
                  refine lv_goto (tgt := 39) hx hb dX11_is_79 (by decide) ?_
                  exact ih_73 (nI 1) (zR_w zk_1 (by decide)) (v_86) (zR_w hv_86 (by decide)) (mIsL_1 hx_70 f_80 mv_86 t_c_83 (mIs_ix (zR_w f_16 (by decide)) (zR_w f_77 (by decide)) ev_81)) (z2_up mv_86 (by decide) hN_72) _ _ hP hD hS _ (lv_sub hl [2, 3, 1, 0] rfl)
        exact loop_71 _ (nI 1) (zR_w zk_1 (by decide)) (nI 0) (zR_w zk_0 (by decide)) (mIsL_0 (mIs_a3 nn_1 t_c_2 ev_9 f_15)) (Nat.lt_succ_self _) _ _ hP hD hS _ (lv_sub hl [2, 3, 1, 0] rfl)
  · cases hu_1
    refine lv_if_eq (tgt := 35) hx hb dX11_is_4 (by decide) (fun _ => ?_) (fun c_0 => absurd (zD_eq zk_0 zk_z) c_0)
    refine lv_iconst (v := nI 0) hx hb dX11_is_35 (by decide +kernel) ?_
    refine lv_istore_n (lv' := [(2, .int (nI 0)), (0, .ref (q 0)), (1, .ref (ad 0))]) hx hb dX11_is_36 rfl hl (by decide) rfl (fun ls hl => ?_)
    refine lv_iconst (v := nI 0) hx hb dX11_is_37 (by decide +kernel) ?_
    refine lv_istore_n (lv' := [(3, .int (nI 0)), (2, .int (nI 0)), (0, .ref (q 0)), (1, .ref (ad 0))]) hx hb dX11_is_38 rfl hl (by decide) rfl (fun ls hl => ?_)
    refine lv_iload_n hx hb dX11_is_39 rfl (lv_at hl 0 rfl) ?_
    refine lv_aload_n hx hb dX11_is_40 rfl (lv_at hl 3 rfl) ?_
    refine z_cNXi (As := []) (rest := [.int (nI 0)]) hx hb hml hown ht (mk_J0_length_8abf5_7 l D q cA ad av t9 F _ _ _ hI ) hw_6_144 hmJ0_length_8abf5 ⟨rfl, rfl⟩ (na := 0) rfl (by decide +kernel) (by decide) (vk_recv hZ.1 (by decide) hS) hK hP hD hS hA (zSS_c (Rs := zMRs) (t9 := t9) (fun _ _ _ => zMRs_c)) (zSS_w (Rs := zMRs) (t9 := t9) (fun _ _ _ => zMRs_w) hN hsz hS) hl.1 rfl (Nat.le_of_ble_eq_true rfl) ⟨Nat.zero_le _, Nat.zero_le _⟩ dX11_is_41 (fun r_89 I_89 R_89 J_89 H locs hp_89 hP hD hS _ _ => ?_)
    obtain ⟨rfl, hu_89⟩ := hp_89
    cases hu_89
    refine lv_icmp_ge (tgt := 82) hx hb dX11_is_44 (by decide) (fun c_0 => absurd c_0 (zD_nle zk_4 zk_0 (by decide))) (fun _ => ?_)
    refine lv_iload_n hx hb dX11_is_47 rfl (lv_at hl 1 rfl) ?_
    refine lv_if_eq (tgt := 82) hx hb dX11_is_48 (by decide) (fun _ => ?_) (fun c_0 => absurd (zD_eq zk_0 zk_z) c_0)
    refine lv_iload_n hx hb dX11_is_82 rfl (lv_at hl 1 rfl) ?_
    exact z_zret (v := nI 0) hx hb hr hlocks hP hD hS (by decide +kernel) dX11_is_83 (Or.inr ⟨rfl, rfl, (mIs_n1 nn_1)⟩)
set_option maxHeartbeats 4000000 in
set_option maxRecDepth 100000 in
theorem mk_X11_takes_6 (l : Launch) (D : va_G) (q : Nat → Nat) (cA : Nat → ClassId) (ad av : Nat → Nat) (t9 : Nat) (F : Nat → Nat → Int32) (I R : Nat → Nat → Int32) (J : Nat → Nat → Int64) (hI : mInv F (I, R, J))  : zNi (zSS zMRs 25 q ad av t9) l D vwCl (zMtys cA) 25 q (zMd q cA) yX11_takes cX11_takes 3 (some .boolean) ({ frames := 5, cells := 0, slots := 0, locals := 108 } : Room) [.ref (q 0), .ref (ad 0)] (I, R, J) (fun r u => (r = nI 1 ∧ ((mInv F u ∧ (∀ k, k ≠ 0 → u.1 k = I k) ∧ u.2 = (R, J)) ∧ mTr I u.1) ∧ mIs 0 I R) ∨ (r = nI 0 ∧ u = (I, R, J) ∧ ¬ mIs 0 I R)) := by
  intro sz
  refine z_bodyN (by decide +kernel) (Nat.le_of_ble_eq_true rfl) (fun p e s m below meth c ls hx hb hml hr ht hown hlocks hsz hK hP hD hS hN hl => ?_)
  have hA : ∀ a, s.heap.size ≤ a → zA 25 q sz a := fun a h => Or.inr (hsz ▸ h)
  have hl : lv_has ls 3 [(0, .ref (q 0)), (1, .ref (ad 0))] := hl
  have hZ : zSz zMRs 25 q ad av t9 sz s := hsz ▸ hN
  refine lv_aload_n hx hb dX11_takes_0 rfl (lv_at hl 0 rfl) ?_
  refine lv_aload_n hx hb dX11_takes_1 rfl (lv_at hl 1 rfl) ?_
  refine z_cNVi (k := 0) (As := [.ref (ad 0)]) (rest := []) hx hb hml hown ht (mk_X11_is_7 l D q cA ad av t9 F _ _ _ hI ) hw_6_140 hmX11_is ⟨rfl, rfl⟩ (na := 1) rfl (by decide +kernel) (by decide) (by decide) rfl rfl hK hP hD hS hA (zSS_c (Rs := zMRs) (t9 := t9) (fun _ _ _ => zMRs_c)) (zSS_w (Rs := zMRs) (t9 := t9) (fun _ _ _ => zMRs_w) hN hsz hS) hl.1 rfl (Nat.le_of_ble_eq_true rfl) ⟨Nat.zero_le _, Nat.zero_le _⟩ dX11_takes_2 (fun r_1 I_1 R_1 J_1 H locs hp_1 hP hD hS _ _ => ?_)
  rcases hp_1 with ⟨rfl, hu_1, nn_1⟩ | ⟨rfl, hu_1, nn_1⟩
  · cases hu_1
    refine lv_istore_n (lv' := [(2, .int (nI 1)), (0, .ref (q 0)), (1, .ref (ad 0))]) hx hb dX11_takes_5 rfl hl (by decide) rfl (fun ls hl => ?_)
    refine lv_iload_n hx hb dX11_takes_6 rfl (lv_at hl 0 rfl) ?_
    refine lv_if_eq (tgt := 14) hx hb dX11_takes_7 (by decide) (fun c_0 => absurd c_0 (zD_ne zk_1 zk_z (by decide))) (fun _ => ?_)
    refine lv_aload_n hx hb dX11_takes_10 rfl (lv_at hl 1 rfl) ?_
    refine z_callVv (k := 0) (As := []) (rest := []) hx hb hml hown ht (mk_X11_advance l D q cA F _ _ _ hI ) hw_6_109 hmX11_advance ⟨rfl, rfl⟩ (na := 0) rfl (by decide +kernel) (by decide) (by decide) rfl rfl hK hP hD hS hA hl.1 rfl (Nat.le_of_ble_eq_true rfl) ⟨Nat.zero_le _, Nat.zero_le _⟩ dX11_takes_11 (fun I_2 R_2 J_2 H locs hp_2 hP hD hS _ _ => ?_)
    obtain ⟨hq_2, he_2⟩ := hp_2
    try dsimp only at he_2
    obtain ⟨hv_2, hk_2, hj_2⟩ := hq_2
    try dsimp only at hj_2 hk_2
    cases hj_2
    have hf_3 : ∀ k, k ≠ 0 → I_2 k = I k := fun k h => (hk_2 k h).trans ((fun (_ : Nat) _ => rfl) k h)
    refine lv_iload_n hx hb dX11_takes_14 rfl (lv_at hl 0 rfl) ?_
    exact z_zret (v := nI 1) hx hb hr hlocks hP hD hS (by decide +kernel) dX11_takes_15 (Or.inl ⟨rfl, ⟨⟨hv_2, hf_3, rfl⟩, he_2⟩, nn_1⟩)
  · cases hu_1
    refine lv_istore_n (lv' := [(2, .int (nI 0)), (0, .ref (q 0)), (1, .ref (ad 0))]) hx hb dX11_takes_5 rfl hl (by decide) rfl (fun ls hl => ?_)
    refine lv_iload_n hx hb dX11_takes_6 rfl (lv_at hl 0 rfl) ?_
    refine lv_if_eq (tgt := 14) hx hb dX11_takes_7 (by decide) (fun _ => ?_) (fun c_0 => absurd (zD_eq zk_0 zk_z) c_0)
    refine lv_iload_n hx hb dX11_takes_14 rfl (lv_at hl 0 rfl) ?_
    exact z_zret (v := nI 0) hx hb hr hlocks hP hD hS (by decide +kernel) dX11_takes_15 (Or.inr ⟨rfl, rfl, nn_1⟩)
set_option maxHeartbeats 4000000 in
set_option maxRecDepth 100000 in
theorem mk_X11_needs_3 (l : Launch) (D : va_G) (q : Nat → Nat) (cA : Nat → ClassId) (ad av : Nat → Nat) (t9 : Nat) (F : Nat → Nat → Int32) (I R : Nat → Nat → Int32) (J : Nat → Nat → Int64) (hI : mInv F (I, R, J))  : zNv (zSS zMRs 25 q ad av t9) l D vwCl (zMtys cA) 25 q (zMd q cA) yX11_needs cX11_needs 2 none ({ frames := 6, cells := 0, slots := 0, locals := 130 } : Room) [.ref (q 0), .ref (ad 0)] (I, R, J) (fun u => (mInv F u ∧ (∀ k, k ≠ 0 → u.1 k = I k) ∧ u.2 = (R, J)) ∧ mTr I u.1) := by
  intro sz
  refine z_bodyN (by decide +kernel) (Nat.le_of_ble_eq_true rfl) (fun p e s m below meth c ls hx hb hml hr ht hown hlocks hsz hK hP hD hS hN hl => ?_)
  have hA : ∀ a, s.heap.size ≤ a → zA 25 q sz a := fun a h => Or.inr (hsz ▸ h)
  have hl : lv_has ls 2 [(0, .ref (q 0)), (1, .ref (ad 0))] := hl
  have hZ : zSz zMRs 25 q ad av t9 sz s := hsz ▸ hN
  refine lv_aload_n hx hb dX11_needs_0 rfl (lv_at hl 0 rfl) ?_
  refine lv_aload_n hx hb dX11_needs_1 rfl (lv_at hl 1 rfl) ?_
  refine z_cNVi (k := 0) (As := [.ref (ad 0)]) (rest := []) hx hb hml hown ht (mk_X11_takes_6 l D q cA ad av t9 F _ _ _ hI ) hw_6_136 hmX11_takes ⟨rfl, rfl⟩ (na := 1) rfl (by decide +kernel) (by decide) (by decide) rfl rfl hK hP hD hS hA (zSS_c (Rs := zMRs) (t9 := t9) (fun _ _ _ => zMRs_c)) (zSS_w (Rs := zMRs) (t9 := t9) (fun _ _ _ => zMRs_w) hN hsz hS) hl.1 rfl (Nat.le_of_ble_eq_true rfl) ⟨Nat.zero_le _, Nat.zero_le _⟩ dX11_needs_2 (fun r_1 I_1 R_1 J_1 H locs hp_1 hP hD hS _ _ => ?_)
  rcases hp_1 with ⟨rfl, hu_1, nn_1⟩ | ⟨rfl, hu_1, nn_1⟩
  · obtain ⟨hq_1, he_1⟩ := hu_1
    try dsimp only at he_1
    obtain ⟨hv_1, hk_1, hj_1⟩ := hq_1
    try dsimp only at hj_1 hk_1
    cases hj_1
    have hf_2 : ∀ k, k ≠ 0 → I_1 k = I k := fun k h => (hk_1 k h).trans ((fun (_ : Nat) _ => rfl) k h)
    refine lv_if_ne (tgt := 13) hx hb dX11_needs_5 (by decide) (fun _ => ?_) (fun c_0 => absurd c_0 (zD_ne zk_1 zk_z (by decide)))
    exact z_vret hx hb hr hlocks hP hD hS dX11_needs_13 ⟨⟨hv_1, hf_2, rfl⟩, he_1⟩
  · cases hu_1
    refine lv_if_ne (tgt := 13) hx hb dX11_needs_5 (by decide) (fun c_0 => absurd (zD_eq zk_0 zk_z) c_0) (fun _ => ?_)
    refine lv_aload_n hx hb dX11_needs_8 rfl (lv_at hl 0 rfl) ?_
    refine lv_iconst (v := nI 1) hx hb dX11_needs_9 (by decide +kernel) ?_
    refine z_callVv (k := 0) (As := [.int (nI 1)]) (rest := []) hx hb hml hown ht (mk_X11_errs l D q cA F _ _ _ hI ) hw_6_146 hmX11_errs ⟨rfl, rfl⟩ (na := 1) rfl (by decide +kernel) (by decide) (by decide) rfl rfl hK hP hD hS hA hl.1 rfl (Nat.le_of_ble_eq_true rfl) ⟨Nat.zero_le _, Nat.zero_le _⟩ dX11_needs_10 (fun I_3 R_3 J_3 H locs hp_3 hP hD hS _ _ => ?_)
    obtain ⟨hq_3, he_3⟩ := hp_3
    obtain ⟨hv_3, hk_3, hj_3⟩ := hq_3
    try dsimp only at hj_3 hk_3
    cases hj_3
    have hf_4 : ∀ k, k ≠ 0 → I_3 k = I k := fun k h => (hk_3 k h).trans ((fun (_ : Nat) _ => rfl) k h)
    exact z_vret hx hb hr hlocks hP hD hS dX11_needs_13 ⟨⟨hv_3, hf_4, rfl⟩, (mTr_f he_3)⟩
set_option maxHeartbeats 4000000 in
set_option maxRecDepth 100000 in
theorem mk_J0_coder_7d493_8 (l : Launch) (D : va_G) (q : Nat → Nat) (cA : Nat → ClassId) (ad av : Nat → Nat) (t9 : Nat) (F : Nat → Nat → Int32) (I R : Nat → Nat → Int32) (J : Nat → Nat → Int64) (hI : mInv F (I, R, J))  : zNi (zSS zMRs 25 q ad av t9) l D vwCl (zMtys cA) 25 q (zMd q cA) yJ0_coder_7d493 cJ0_coder_7d493 1 (some .byte) ({ frames := 0, cells := 0, slots := 0, locals := 0 } : Room) [.ref (ad 1)] (I, R, J) (fun r u => r = nI 0 ∧ u = (I, R, J)) := by
  intro sz
  refine z_bodyN (by decide +kernel) (Nat.le_of_ble_eq_true rfl) (fun p e s m below meth c ls hx hb hml hr ht hown hlocks hsz hK hP hD hS hN hl => ?_)
  have hA : ∀ a, s.heap.size ≤ a → zA 25 q sz a := fun a h => Or.inr (hsz ▸ h)
  have hl : lv_has ls 1 [(0, .ref (ad 1))] := hl
  have hZ : zSz zMRs 25 q ad av t9 sz s := hsz ▸ hN
  refine va_gets hx hb hZ.2.1 hS hown (ht _ hw_2_195) (fun _ h => h) dJ0_coder_7d493_0 ?_
  refine z_eqi (y := nI 1) rfl ?_
  refine lv_if_eq (tgt := 13) hx hb dJ0_coder_7d493_3 (by decide) (fun c_0 => absurd c_0 (zD_ne zk_1 zk_z (by decide))) (fun _ => ?_)
  refine lv_aload_n hx hb dJ0_coder_7d493_6 rfl (lv_at hl 0 rfl) ?_
  refine vk_getf hx hb (hZ.1.1 1 (by decide)).2.1 hS hown (ht _ hw_8_165) (fun _ h => h) dJ0_coder_7d493_7 ?_
  refine z_eqi (y := nI 0) rfl ?_
  refine lv_goto (tgt := 14) hx hb dJ0_coder_7d493_10 (by decide) ?_
  exact z_zret (v := nI 0) hx hb hr hlocks hP hD hS (by decide +kernel) dJ0_coder_7d493_14 ⟨rfl, rfl⟩
set_option maxHeartbeats 4000000 in
set_option maxRecDepth 100000 in
theorem mk_J0_length_8abf5_8 (l : Launch) (D : va_G) (q : Nat → Nat) (cA : Nat → ClassId) (ad av : Nat → Nat) (t9 : Nat) (F : Nat → Nat → Int32) (I R : Nat → Nat → Int32) (J : Nat → Nat → Int64) (hI : mInv F (I, R, J))  : zNi (zSS zMRs 25 q ad av t9) l D vwCl (zMtys cA) 25 q (zMd q cA) yJ0_length_8abf5 cJ0_length_8abf5 1 (some .int) ({ frames := 1, cells := 0, slots := 0, locals := 20 } : Room) [.ref (ad 1)] (I, R, J) (fun r u => r = nI 4 ∧ u = (I, R, J)) := by
  intro sz
  refine z_bodyN (by decide +kernel) (Nat.le_of_ble_eq_true rfl) (fun p e s m below meth c ls hx hb hml hr ht hown hlocks hsz hK hP hD hS hN hl => ?_)
  have hA : ∀ a, s.heap.size ≤ a → zA 25 q sz a := fun a h => Or.inr (hsz ▸ h)
  have hl : lv_has ls 1 [(0, .ref (ad 1))] := hl
  have hZ : zSz zMRs 25 q ad av t9 sz s := hsz ▸ hN
  refine lv_aload_n hx hb dJ0_length_8abf5_0 rfl (lv_at hl 0 rfl) ?_
  refine vk_getf hx hb (hZ.1.1 1 (by decide)).2.2.1 hS hown (ht _ hw_8_164) (fun _ h => h) dJ0_length_8abf5_1 ?_
  refine va_tlen hx hb (hZ.1.1 1 (by decide)).2.2.2 hS (v := nI 4) rfl dJ0_length_8abf5_4 ?_
  refine lv_aload_n hx hb dJ0_length_8abf5_5 rfl (lv_at hl 0 rfl) ?_
  refine z_cNXi (As := []) (rest := [.int (nI 4)]) hx hb hml hown ht (mk_J0_coder_7d493_8 l D q cA ad av t9 F _ _ _ hI ) hw_2_191 hmJ0_coder_7d493 ⟨rfl, rfl⟩ (na := 0) rfl (by decide +kernel) (by decide) (vk_recv hZ.1 (by decide) hS) hK hP hD hS hA (zSS_c (Rs := zMRs) (t9 := t9) (fun _ _ _ => zMRs_c)) (zSS_w (Rs := zMRs) (t9 := t9) (fun _ _ _ => zMRs_w) hN hsz hS) hl.1 rfl (Nat.le_of_ble_eq_true rfl) ⟨Nat.zero_le _, Nat.zero_le _⟩ dJ0_length_8abf5_6 (fun r_1 I_1 R_1 J_1 H locs hp_1 hP hD hS _ _ => ?_)
  obtain ⟨rfl, hu_1⟩ := hp_1
  cases hu_1
  refine lv_ishr hx hb dJ0_length_8abf5_9 ?_
  refine z_eqi (y := nI 4) (by decide +kernel) ?_
  exact z_iret (v := nI 4) hx hb hr hlocks hP hD hS dJ0_length_8abf5_10 ⟨rfl, rfl⟩
set_option maxHeartbeats 4000000 in
set_option maxRecDepth 100000 in
theorem mk_J0_isLatin1_aae02_8 (l : Launch) (D : va_G) (q : Nat → Nat) (cA : Nat → ClassId) (ad av : Nat → Nat) (t9 : Nat) (F : Nat → Nat → Int32) (I R : Nat → Nat → Int32) (J : Nat → Nat → Int64) (hI : mInv F (I, R, J))  : zNi (zSS zMRs 25 q ad av t9) l D vwCl (zMtys cA) 25 q (zMd q cA) yJ0_isLatin1_aae02 cJ0_isLatin1_aae02 1 (some .boolean) ({ frames := 0, cells := 0, slots := 0, locals := 0 } : Room) [.ref (ad 1)] (I, R, J) (fun r u => (r = nI 1 ∧ u = (I, R, J))) := by
  intro sz
  refine z_bodyN (by decide +kernel) (Nat.le_of_ble_eq_true rfl) (fun p e s m below meth c ls hx hb hml hr ht hown hlocks hsz hK hP hD hS hN hl => ?_)
  have hA : ∀ a, s.heap.size ≤ a → zA 25 q sz a := fun a h => Or.inr (hsz ▸ h)
  have hl : lv_has ls 1 [(0, .ref (ad 1))] := hl
  have hZ : zSz zMRs 25 q ad av t9 sz s := hsz ▸ hN
  refine va_gets hx hb hZ.2.1 hS hown (ht _ hw_2_195) (fun _ h => h) dJ0_isLatin1_aae02_0 ?_
  refine z_eqi (y := nI 1) rfl ?_
  refine lv_if_eq (tgt := 17) hx hb dJ0_isLatin1_aae02_3 (by decide) (fun c_0 => absurd c_0 (zD_ne zk_1 zk_z (by decide))) (fun _ => ?_)
  refine lv_aload_n hx hb dJ0_isLatin1_aae02_6 rfl (lv_at hl 0 rfl) ?_
  refine vk_getf hx hb (hZ.1.1 1 (by decide)).2.1 hS hown (ht _ hw_8_165) (fun _ h => h) dJ0_isLatin1_aae02_7 ?_
  refine z_eqi (y := nI 0) rfl ?_
  refine lv_if_ne (tgt := 17) hx hb dJ0_isLatin1_aae02_10 (by decide) (fun c_0 => absurd (zD_eq zk_0 zk_z) c_0) (fun _ => ?_)
  refine lv_iconst (v := nI 1) hx hb dJ0_isLatin1_aae02_13 (by decide +kernel) ?_
  refine lv_goto (tgt := 18) hx hb dJ0_isLatin1_aae02_14 (by decide) ?_
  exact z_zret (v := nI 1) hx hb hr hlocks hP hD hS (by decide +kernel) dJ0_isLatin1_aae02_18 ⟨rfl, rfl⟩
set_option maxHeartbeats 4000000 in
set_option maxRecDepth 100000 in
theorem mk_J1_charAt_3b067_16 (l : Launch) (D : va_G) (q : Nat → Nat) (cA : Nat → ClassId) (ad av : Nat → Nat) (t9 : Nat) (F : Nat → Nat → Int32) (I R : Nat → Nat → Int32) (J : Nat → Nat → Int64) (hI : mInv F (I, R, J)) (pa1 : Int32) (hpa1 : zR 0 3 pa1) : zNi (zSS zMRs 25 q ad av t9) l D vwCl (zMtys cA) 25 q (zMd q cA) yJ1_charAt_3b067 cJ1_charAt_3b067 2 (some .char) ({ frames := 2, cells := 0, slots := 0, locals := 43 } : Room) [.ref (av 1), .int (pa1)] (I, R, J) (fun r u => (r = zch 1 (pa1).toNatClampNeg ∧ zR 0 65535 r) ∧ u = (I, R, J)) := by
  intro sz
  refine z_bodyN (by decide +kernel) (Nat.le_of_ble_eq_true rfl) (fun p e s m below meth c ls hx hb hml hr ht hown hlocks hsz hK hP hD hS hN hl => ?_)
  have hA : ∀ a, s.heap.size ≤ a → zA 25 q sz a := fun a h => Or.inr (hsz ▸ h)
  have hl : lv_has ls 2 [(0, .ref (av 1)), (1, .int (pa1))] := hl
  have hZ : zSz zMRs 25 q ad av t9 sz s := hsz ▸ hN
  refine lv_iload_n hx hb dJ1_charAt_3b067_0 rfl (lv_at hl 1 rfl) ?_
  refine lv_aload_n hx hb dJ1_charAt_3b067_1 rfl (lv_at hl 0 rfl) ?_
  refine va_tlen hx hb (hZ.1.1 1 (by decide)).2.2.2 hS (v := nI 4) rfl dJ1_charAt_3b067_2 ?_
  refine z_cNSv (As := [.int (pa1), .int (nI 4)]) (rest := []) hx hb hml hown ht (mk_J0_checkIndex_df160_6 l D q cA ad av t9 F _ _ _ hI (pa1) hpa1) hw_2_208 hmJ0_checkIndex_df160 ⟨rfl, rfl⟩ (na := 2) rfl (by decide +kernel) (by decide) hK hP hD hS hA (zSS_c (Rs := zMRs) (t9 := t9) (fun _ _ _ => zMRs_c)) (zSS_w (Rs := zMRs) (t9 := t9) (fun _ _ _ => zMRs_w) hN hsz hS) hl.1 rfl (Nat.le_of_ble_eq_true rfl) ⟨Nat.zero_le _, Nat.zero_le _⟩ dJ1_charAt_3b067_3 (fun I_1 R_1 J_1 H locs hp_1 hP hD hS _ _ => ?_)
  cases hp_1
  refine lv_aload_n hx hb dJ1_charAt_3b067_6 rfl (lv_at hl 0 rfl) ?_
  refine lv_iload_n hx hb dJ1_charAt_3b067_7 rfl (lv_at hl 1 rfl) ?_
  refine va_tb hx hb (hZ.1.1 1 (by decide)).2.2.2 hS (zR_vin hpa1 (by decide)) (v := .int ((zByt.getD 1 []).getD (pa1).toNatClampNeg 0)) rfl dJ1_charAt_3b067_8 ?_
  refine lv_sipush (v := nI 255) hx hb dJ1_charAt_3b067_9 (by decide +kernel) ?_
  refine lv_iand hx hb dJ1_charAt_3b067_12 ?_
  refine lv_i2c (v := ((((zByt.getD 1 []).getD (pa1).toNatClampNeg 0) &&& (nI 255)).toUInt32 % 65536).toInt32) hx hb dJ1_charAt_3b067_13 rfl ?_
  exact z_zret (v := ((((zByt.getD 1 []).getD (pa1).toNatClampNeg 0) &&& (nI 255)).toUInt32 % 65536).toInt32) hx hb hr hlocks hP hD hS (zR_char (zR_i2c _)) dJ1_charAt_3b067_14 ⟨⟨rfl, (zR_i2c _)⟩, rfl⟩
set_option maxHeartbeats 4000000 in
set_option maxRecDepth 100000 in
theorem mk_J0_charAt_5068e_16 (l : Launch) (D : va_G) (q : Nat → Nat) (cA : Nat → ClassId) (ad av : Nat → Nat) (t9 : Nat) (F : Nat → Nat → Int32) (I R : Nat → Nat → Int32) (J : Nat → Nat → Int64) (hI : mInv F (I, R, J)) (pa0 : Int32) (hpa0 : zR 0 3 pa0) : zNi (zSS zMRs 25 q ad av t9) l D vwCl (zMtys cA) 25 q (zMd q cA) yJ0_charAt_5068e cJ0_charAt_5068e 2 (some .char) ({ frames := 3, cells := 0, slots := 0, locals := 64 } : Room) [.ref (ad 1), .int (pa0)] (I, R, J) (fun r u => (r = zch 1 (pa0).toNatClampNeg ∧ zR 0 65535 r) ∧ u = (I, R, J)) := by
  intro sz
  refine z_bodyN (by decide +kernel) (Nat.le_of_ble_eq_true rfl) (fun p e s m below meth c ls hx hb hml hr ht hown hlocks hsz hK hP hD hS hN hl => ?_)
  have hA : ∀ a, s.heap.size ≤ a → zA 25 q sz a := fun a h => Or.inr (hsz ▸ h)
  have hl : lv_has ls 2 [(0, .ref (ad 1)), (1, .int (pa0))] := hl
  have hZ : zSz zMRs 25 q ad av t9 sz s := hsz ▸ hN
  refine lv_aload_n hx hb dJ0_charAt_5068e_0 rfl (lv_at hl 0 rfl) ?_
  refine z_cNXi (As := []) (rest := []) hx hb hml hown ht (mk_J0_isLatin1_aae02_8 l D q cA ad av t9 F _ _ _ hI ) hw_2_201 hmJ0_isLatin1_aae02 ⟨rfl, rfl⟩ (na := 0) rfl (by decide +kernel) (by decide) (vk_recv hZ.1 (by decide) hS) hK hP hD hS hA (zSS_c (Rs := zMRs) (t9 := t9) (fun _ _ _ => zMRs_c)) (zSS_w (Rs := zMRs) (t9 := t9) (fun _ _ _ => zMRs_w) hN hsz hS) hl.1 rfl (Nat.le_of_ble_eq_true rfl) ⟨Nat.zero_le _, Nat.zero_le _⟩ dJ0_charAt_5068e_1 (fun r_1 I_1 R_1 J_1 H locs hp_1 hP hD hS _ _ => ?_)
  obtain ⟨rfl, hu_1⟩ := hp_1
  cases hu_1
  refine lv_if_eq (tgt := 16) hx hb dJ0_charAt_5068e_4 (by decide) (fun c_0 => absurd c_0 (zD_ne zk_1 zk_z (by decide))) (fun _ => ?_)
  refine lv_aload_n hx hb dJ0_charAt_5068e_7 rfl (lv_at hl 0 rfl) ?_
  refine vk_getf hx hb (hZ.1.1 1 (by decide)).2.2.1 hS hown (ht _ hw_8_164) (fun _ h => h) dJ0_charAt_5068e_8 ?_
  refine lv_iload_n hx hb dJ0_charAt_5068e_11 rfl (lv_at hl 1 rfl) ?_
  refine z_cNSi (As := [.ref (av 1), .int (pa0)]) (rest := []) hx hb hml hown ht (mk_J1_charAt_3b067_16 l D q cA ad av t9 F _ _ _ hI (pa0) hpa0) hw_2_205 hmJ1_charAt_3b067 ⟨rfl, rfl⟩ (na := 2) rfl (by decide +kernel) (by decide) hK hP hD hS hA (zSS_c (Rs := zMRs) (t9 := t9) (fun _ _ _ => zMRs_c)) (zSS_w (Rs := zMRs) (t9 := t9) (fun _ _ _ => zMRs_w) hN hsz hS) hl.1 rfl (Nat.le_of_ble_eq_true rfl) ⟨Nat.zero_le _, Nat.zero_le _⟩ dJ0_charAt_5068e_12 (fun r_2 I_2 R_2 J_2 H locs hp_2 hP hD hS _ _ => ?_)
  obtain ⟨⟨rfl, hr_2⟩, hu_2⟩ := hp_2
  cases hu_2
  exact z_zret (v := zch 1 (pa0).toNatClampNeg) hx hb hr hlocks hP hD hS (zR_char hr_2) dJ0_charAt_5068e_15 ⟨⟨rfl, hr_2⟩, rfl⟩
set_option maxHeartbeats 4000000 in
set_option maxRecDepth 100000 in
theorem mk_X11_is_8 (l : Launch) (D : va_G) (q : Nat → Nat) (cA : Nat → ClassId) (ad av : Nat → Nat) (t9 : Nat) (F : Nat → Nat → Int32) (I R : Nat → Nat → Int32) (J : Nat → Nat → Int64) (hI : mInv F (I, R, J))  : zNi (zSS zMRs 25 q ad av t9) l D vwCl (zMtys cA) 25 q (zMd q cA) yX11_is cX11_is 4 (some .boolean) ({ frames := 4, cells := 0, slots := 0, locals := 85 } : Room) [.ref (q 0), .ref (ad 1)] (I, R, J) (fun r u => (r = nI 1 ∧ u = (I, R, J) ∧ mIs 1 I R) ∨ (r = nI 0 ∧ u = (I, R, J) ∧ ¬ mIs 1 I R)) := by
  intro sz
  refine z_bodyN (by decide +kernel) (Nat.le_of_ble_eq_true rfl) (fun p e s m below meth c ls hx hb hml hr ht hown hlocks hsz hK hP hD hS hN hl => ?_)
  have hA : ∀ a, s.heap.size ≤ a → zA 25 q sz a := fun a h => Or.inr (hsz ▸ h)
  have hl : lv_has ls 4 [(0, .ref (q 0)), (1, .ref (ad 1))] := hl
  have hZ : zSz zMRs 25 q ad av t9 sz s := hsz ▸ hN
  refine lv_aload_n hx hb dX11_is_0 rfl (lv_at hl 0 rfl) ?_
  refine z_callVi (k := 0) (As := []) (rest := []) hx hb hml hown ht (mk_X11_good l D q cA F _ _ _ hI ) hw_6_123 hmX11_good ⟨rfl, rfl⟩ (na := 0) rfl (by decide +kernel) (by decide) (by decide) rfl rfl hK hP hD hS hA hl.1 rfl (Nat.le_of_ble_eq_true rfl) ⟨Nat.zero_le _, Nat.zero_le _⟩ dX11_is_1 (fun r_1 I_1 R_1 J_1 H locs hp_1 hP hD hS _ _ => ?_)
  rcases hp_1 with ⟨rfl, hu_1, nn_1⟩ | ⟨rfl, hu_1, nn_1⟩
  · cases hu_1
    refine lv_if_eq (tgt := 35) hx hb dX11_is_4 (by decide) (fun c_0 => absurd c_0 (zD_ne zk_1 zk_z (by decide))) (fun _ => ?_)
    refine lv_aload_n hx hb dX11_is_7 rfl (lv_at hl 0 rfl) ?_
    refine z_get hx hb ht hown hK hP ziX11 rfl 0 (by decide) 10 (by decide) hw_5_197 rfl (v := .int (I 0 10)) rfl dX11_is_8 ?_
    refine lv_iconst (v := nI 1) hx hb dX11_is_11 (by decide +kernel) ?_
    refine lv_icmp_ne (tgt := 35) hx hb dX11_is_12 (by decide) (fun c_2 => ?_) (fun c_2 => ?_)
    · have t_c_2 := z_eqF c_2
      refine lv_iconst (v := nI 0) hx hb dX11_is_35 (by decide +kernel) ?_
      refine lv_istore_n (lv' := [(2, .int (nI 0)), (0, .ref (q 0)), (1, .ref (ad 1))]) hx hb dX11_is_36 rfl hl (by decide) rfl (fun ls hl => ?_)
      refine lv_iconst (v := nI 0) hx hb dX11_is_37 (by decide +kernel) ?_
      refine lv_istore_n (lv' := [(3, .int (nI 0)), (2, .int (nI 0)), (0, .ref (q 0)), (1, .ref (ad 1))]) hx hb dX11_is_38 rfl hl (by decide) rfl (fun ls hl => ?_)
      refine lv_iload_n hx hb dX11_is_39 rfl (lv_at hl 0 rfl) ?_
      refine lv_aload_n hx hb dX11_is_40 rfl (lv_at hl 3 rfl) ?_
      refine z_cNXi (As := []) (rest := [.int (nI 0)]) hx hb hml hown ht (mk_J0_length_8abf5_8 l D q cA ad av t9 F _ _ _ hI ) hw_6_144 hmJ0_length_8abf5 ⟨rfl, rfl⟩ (na := 0) rfl (by decide +kernel) (by decide) (vk_recv hZ.1 (by decide) hS) hK hP hD hS hA (zSS_c (Rs := zMRs) (t9 := t9) (fun _ _ _ => zMRs_c)) (zSS_w (Rs := zMRs) (t9 := t9) (fun _ _ _ => zMRs_w) hN hsz hS) hl.1 rfl (Nat.le_of_ble_eq_true rfl) ⟨Nat.zero_le _, Nat.zero_le _⟩ dX11_is_41 (fun r_5 I_5 R_5 J_5 H locs hp_5 hP hD hS _ _ => ?_)
      obtain ⟨rfl, hu_5⟩ := hp_5
      cases hu_5
      refine lv_icmp_ge (tgt := 82) hx hb dX11_is_44 (by decide) (fun c_0 => absurd c_0 (zD_nle zk_4 zk_0 (by decide))) (fun _ => ?_)
      refine lv_iload_n hx hb dX11_is_47 rfl (lv_at hl 1 rfl) ?_
      refine lv_if_eq (tgt := 82) hx hb dX11_is_48 (by decide) (fun _ => ?_) (fun c_0 => absurd (zD_eq zk_0 zk_z) c_0)
      refine lv_iload_n hx hb dX11_is_82 rfl (lv_at hl 1 rfl) ?_
      exact z_zret (v := nI 0) hx hb hr hlocks hP hD hS (by decide +kernel) dX11_is_83 (Or.inr ⟨rfl, rfl, (mIs_n2 t_c_2)⟩)
    · have t_c_2 := z_eqT c_2
      have f_6 : zR 1 1 (I 0 10) := zR_eqx t_c_2 zk_1
      refine lv_aload_n hx hb dX11_is_15 rfl (lv_at hl 0 rfl) ?_
      refine z_get hx hb ht hown hK hP ziX11 rfl 0 (by decide) 8 (by decide) hw_5_195 rfl (v := .int (I 0 8)) rfl dX11_is_16 ?_
      have f_7 : zR 0 800 (I 0 8) := mI hI 0 8
      refine lv_aload_n hx hb dX11_is_19 rfl (lv_at hl 0 rfl) ?_
      refine z_get hx hb ht hown hK hP ziX11 rfl 0 (by decide) 9 (by decide) hw_5_196 rfl (v := .int (I 0 9)) rfl dX11_is_20 ?_
      have f_8 : zR 0 800 (I 0 9) := mI hI 0 9
      refine lv_isub hx hb dX11_is_23 ?_
      refine lv_topi (fun v_9 ev_9 => ?_)
      have hv_9 : zR (-800) 800 v_9 := ev_9 ▸ zR_sub f_7 f_8 (by decide)
      refine lv_aload_n hx hb dX11_is_24 rfl (lv_at hl 1 rfl) ?_
      refine z_cNXi (As := []) (rest := [.int (v_9)]) hx hb hml hown ht (mk_J0_length_8abf5_8 l D q cA ad av t9 F _ _ _ hI ) hw_6_144 hmJ0_length_8abf5 ⟨rfl, rfl⟩ (na := 0) rfl (by decide +kernel) (by decide) (vk_recv hZ.1 (by decide) hS) hK hP hD hS hA (zSS_c (Rs := zMRs) (t9 := t9) (fun _ _ _ => zMRs_c)) (zSS_w (Rs := zMRs) (t9 := t9) (fun _ _ _ => zMRs_w) hN hsz hS) hl.1 rfl (Nat.le_of_ble_eq_true rfl) ⟨Nat.zero_le _, Nat.zero_le _⟩ dX11_is_25 (fun r_10 I_10 R_10 J_10 H locs hp_10 hP hD hS _ _ => ?_)
      obtain ⟨rfl, hu_10⟩ := hp_10
      cases hu_10
      refine lv_icmp_ne (tgt := 35) hx hb dX11_is_28 (by decide) (fun c_11 => ?_) (fun c_11 => ?_)
      · have t_c_11 := z_eqF c_11
        refine lv_iconst (v := nI 0) hx hb dX11_is_35 (by decide +kernel) ?_
        refine lv_istore_n (lv' := [(2, .int (nI 0)), (0, .ref (q 0)), (1, .ref (ad 1))]) hx hb dX11_is_36 rfl hl (by decide) rfl (fun ls hl => ?_)
        refine lv_iconst (v := nI 0) hx hb dX11_is_37 (by decide +kernel) ?_
        refine lv_istore_n (lv' := [(3, .int (nI 0)), (2, .int (nI 0)), (0, .ref (q 0)), (1, .ref (ad 1))]) hx hb dX11_is_38 rfl hl (by decide) rfl (fun ls hl => ?_)
        refine lv_iload_n hx hb dX11_is_39 rfl (lv_at hl 0 rfl) ?_
        refine lv_aload_n hx hb dX11_is_40 rfl (lv_at hl 3 rfl) ?_
        refine z_cNXi (As := []) (rest := [.int (nI 0)]) hx hb hml hown ht (mk_J0_length_8abf5_8 l D q cA ad av t9 F _ _ _ hI ) hw_6_144 hmJ0_length_8abf5 ⟨rfl, rfl⟩ (na := 0) rfl (by decide +kernel) (by decide) (vk_recv hZ.1 (by decide) hS) hK hP hD hS hA (zSS_c (Rs := zMRs) (t9 := t9) (fun _ _ _ => zMRs_c)) (zSS_w (Rs := zMRs) (t9 := t9) (fun _ _ _ => zMRs_w) hN hsz hS) hl.1 rfl (Nat.le_of_ble_eq_true rfl) ⟨Nat.zero_le _, Nat.zero_le _⟩ dX11_is_41 (fun r_14 I_14 R_14 J_14 H locs hp_14 hP hD hS _ _ => ?_)
        obtain ⟨rfl, hu_14⟩ := hp_14
        cases hu_14
        refine lv_icmp_ge (tgt := 82) hx hb dX11_is_44 (by decide) (fun c_0 => absurd c_0 (zD_nle zk_4 zk_0 (by decide))) (fun _ => ?_)
        refine lv_iload_n hx hb dX11_is_47 rfl (lv_at hl 1 rfl) ?_
        refine lv_if_eq (tgt := 82) hx hb dX11_is_48 (by decide) (fun _ => ?_) (fun c_0 => absurd (zD_eq zk_0 zk_z) c_0)
        refine lv_iload_n hx hb dX11_is_82 rfl (lv_at hl 1 rfl) ?_
        exact z_zret (v := nI 0) hx hb hr hlocks hP hD hS (by decide +kernel) dX11_is_83 (Or.inr ⟨rfl, rfl, (mIs_n3 ev_9 t_c_11)⟩)
      · have t_c_11 := z_eqT c_11
        have f_15 : zR 4 4 (v_9) := zR_eqx t_c_11 zk_4
        have f_16 : zR 0 796 (I 0 9) := z_start f_7 f_8 ev_9 f_15 (by decide)
        refine lv_iconst (v := nI 1) hx hb dX11_is_31 (by decide +kernel) ?_
        refine lv_goto (tgt := 36) hx hb dX11_is_32 (by decide) ?_
        refine lv_istore_n (lv' := [(2, .int (nI 1)), (0, .ref (q 0)), (1, .ref (ad 1))]) hx hb dX11_is_36 rfl hl (by decide) rfl (fun ls hl => ?_)
        refine lv_iconst (v := nI 0) hx hb dX11_is_37 (by decide +kernel) ?_
        refine lv_istore_n (lv' := [(3, .int (nI 0)), (2, .int (nI 1)), (0, .ref (q 0)), (1, .ref (ad 1))]) hx hb dX11_is_38 rfl hl (by decide) rfl (fun ls hl => ?_)
        have loop_71 : ∀ N : Nat, ∀ x_68 : Int32, zR 0 1 x_68 → ∀ x_69 : Int32, zR 0 4 x_69 → (mIsL 1 I R (x_69) (x_68)) → (2147483648 - (x_69).toInt).toNat < N → ∀ (H : Heap) (locs : List Loc), va_P D vwCl (zw 25 q (zMd q cA) I R J) H → va_D (zA 25 q sz) (zw 25 q (zMd q cA) I R J) → va_S (zA 25 q sz) s.heap H locs → ∀ ls : Array Slot, lv_has ls 4 [(0, .ref (q 0)), (1, .ref (ad 1)), (2, .int (x_68)), (3, .int (x_69))] → W p l e ({ frames := 4, cells := 0, slots := 0, locals := 85 } : Room) s m ([.ref (q 0), .ref (ad 1)] : List Value).toArray below meth c H locs 0 0 (MQ below (va_Qi (fun r u => (r = nI 1 ∧ u = (I, R, J) ∧ mIs 1 I R) ∨ (r = nI 0 ∧ u = (I, R, J) ∧ ¬ mIs 1 I R)) (zB D vwCl 25 q (zMd q cA) sz) (zA 25 q sz)) ([.ref (q 0), .ref (ad 1)] : List Value).toArray s 0 0 (zA 25 q sz)) (F0 m 39 ls []) := by
          intro N
          induction N with
          | zero => intro x_68 hx_68 x_69 hx_69 hx_70 hN; exact absurd hN (Nat.not_lt_zero _)
          | succ N ih_73 =>
            intro x_68 hx_68 x_69 hx_69 hx_70 hN_72 H locs hP hD hS ls hl
            refine lv_iload_n hx hb dX11_is_39 rfl (lv_at hl 3 rfl) ?_
            refine lv_aload_n hx hb dX11_is_40 rfl (lv_at hl 1 rfl) ?_
            refine z_cNXi (As := []) (rest := [.int (x_69)]) hx hb hml hown ht (mk_J0_length_8abf5_8 l D q cA ad av t9 F _ _ _ hI ) hw_6_144 hmJ0_length_8abf5 ⟨rfl, rfl⟩ (na := 0) rfl (by decide +kernel) (by decide) (vk_recv hZ.1 (by decide) hS) hK hP hD hS hA (zSS_c (Rs := zMRs) (t9 := t9) (fun _ _ _ => zMRs_c)) (zSS_w (Rs := zMRs) (t9 := t9) (fun _ _ _ => zMRs_w) hN hsz hS) hl.1 rfl (Nat.le_of_ble_eq_true rfl) ⟨Nat.zero_le _, Nat.zero_le _⟩ dX11_is_41 (fun r_74 I_74 R_74 J_74 H locs hp_74 hP hD hS _ _ => ?_)
            obtain ⟨rfl, hu_74⟩ := hp_74
            cases hu_74
            refine lv_icmp_ge (tgt := 82) hx hb dX11_is_44 (by decide) (fun c_75 => ?_) (fun c_75 => ?_)
            · have t_c_75 := z_leT c_75
              have f_76 : zR 4 4 (x_69) := zR_ley t_c_75 zk_4 hx_69 (by decide)
              refine lv_iload_n hx hb dX11_is_82 rfl (lv_at hl 2 rfl) ?_
              exact z_zret (v := x_68) hx hb hr hlocks hP hD hS (zR_bool (a := 0) (b := 1) hx_68 (by decide)).1 dX11_is_83 (mIs_r1 hx_70 hx_68 t_c_75)
            · have t_c_75 := z_leF c_75
              have f_77 : zR 0 3 (x_69) := zR_ltx t_c_75 hx_69 zk_4 (by decide)
              refine lv_iload_n hx hb dX11_is_47 rfl (lv_at hl 2 rfl) ?_
              refine lv_if_eq (tgt := 82) hx hb dX11_is_48 (by decide) (fun c_78 => ?_) (fun c_78 => ?_)
              · have t_c_78 := z_eqT c_78
                have f_79 : zR 0 0 (x_68) := zR_eqx t_c_78 zk_z
                refine lv_iload_n hx hb dX11_is_82 rfl (lv_at hl 2 rfl) ?_
                exact z_zret (v := x_68) hx hb hr hlocks hP hD hS (zR_bool (a := 0) (b := 1) (zR_w f_79 (by decide)) (by decide)).1 dX11_is_83 (mIs_r0 hx_70 f_79)
              · have t_c_78 := z_eqF c_78
                have f_80 : zR 1 1 (x_68) := zR_nex t_c_78 hx_68 zk_z (by decide)
                refine lv_aload_n hx hb dX11_is_51 rfl (lv_at hl 0 rfl) ?_
                refine z_get hx hb ht hown hK hP ziX11 rfl 0 (by decide) 4 (by decide) hw_5_191 rfl (v := .ref (q 4)) rfl dX11_is_52 ?_
                refine lv_aload_n hx hb dX11_is_55 rfl (lv_at hl 0 rfl) ?_
                refine z_get hx hb ht hown hK hP ziX11 rfl 0 (by decide) 9 (by decide) hw_5_196 rfl (v := .int (I 0 9)) rfl dX11_is_56 ?_
                refine lv_iload_n hx hb dX11_is_59 rfl (lv_at hl 3 rfl) ?_
                refine lv_iadd hx hb dX11_is_60 ?_
                refine lv_topi (fun v_81 ev_81 => ?_)
                have hv_81 : zR 0 799 v_81 := ev_81 ▸ zR_add f_16 f_77 (by decide)
                refine z_bald hx hb hK hP 4 (by decide) 3 rfl rfl (zR_vin hv_81 (by decide)) dX11_is_61 ?_
                refine z_eqi (y := R 4 (v_81).toNatClampNeg) rfl ?_
                refine lv_aload_n hx hb dX11_is_62 rfl (lv_at hl 1 rfl) ?_
                refine lv_iload_n hx hb dX11_is_63 rfl (lv_at hl 3 rfl) ?_
                refine z_cNXi (As := [.int (x_69)]) (rest := [.int (R 4 (v_81).toNatClampNeg)]) hx hb hml hown ht (mk_J0_charAt_5068e_16 l D q cA ad av t9 F _ _ _ hI (x_69) f_77) hw_6_145 hmJ0_charAt_5068e ⟨rfl, rfl⟩ (na := 1) rfl (by decide +kernel) (by decide) (vk_recv hZ.1 (by decide) hS) hK hP hD hS hA (zSS_c (Rs := zMRs) (t9 := t9) (fun _ _ _ => zMRs_c)) (zSS_w (Rs := zMRs) (t9 := t9) (fun _ _ _ => zMRs_w) hN hsz hS) hl.1 rfl (Nat.le_of_ble_eq_true rfl) ⟨Nat.zero_le _, Nat.zero_le _⟩ dX11_is_64 (fun r_82 I_82 R_82 J_82 H locs hp_82 hP hD hS _ _ => ?_)
                obtain ⟨⟨rfl, hr_82⟩, hu_82⟩ := hp_82
                cases hu_82
                refine lv_icmp_ne (tgt := 74) hx hb dX11_is_67 (by decide) (fun c_83 => ?_) (fun c_83 => ?_)
                · have t_c_83 := z_eqF c_83
                  refine lv_iconst (v := nI 0) hx hb dX11_is_74 (by decide +kernel) ?_
                  refine lv_istore_n (lv' := [(2, .int (nI 0)), (0, .ref (q 0)), (1, .ref (ad 1)), (3, .int (x_69))]) hx hb dX11_is_75 rfl hl (by decide) rfl (fun ls hl => ?_)
                  obtain ⟨v_84, ev_84⟩ : ∃ y : Int32, y = x_69 + nI 1 := ⟨_, rfl⟩
                  have hv_84 : zR 1 4 v_84 := ev_84 ▸ zR_add f_77 zk_1 (by decide)
                  have mv_84 : v_84.toInt = (x_69).toInt + 1 := by rw [ev_84, zR_addE f_77 zk_1 (by decide)]; rfl
                  refine lv_iinc (v := v_84) (lv' := [(3, .int (v_84)), (2, .int (nI 0)), (0, .ref (q 0)), (1, .ref (ad 1))]) hx hb dX11_is_76 hl (k := 3) rfl (ev_84 ▸ rfl) (by decide) rfl (fun ls hl => ?_)
                  refine lv_goto (tgt := 39) hx hb dX11_is_79 (by decide) ?_
                  exact ih_73 (nI 0) (zR_w zk_0 (by decide)) (v_84) (zR_w hv_84 (by decide)) (mIsL_n hx_70 f_80 t_c_75 t_c_83 (mIs_ix (zR_w f_16 (by decide)) (zR_w f_77 (by decide)) ev_81)) (z2_up mv_84 (by decide) hN_72) _ _ hP hD hS _ (lv_sub hl [2, 3, 1, 0] rfl)
                · have t_c_83 := z_eqT c_83
                  have f_85 : zR 0 65535 (R 4 (v_81).toNatClampNeg) := zR_eqx t_c_83 hr_82
                  refine lv_iconst (v := nI 1) hx hb dX11_is_70 (by decide +kernel) ?_
                  refine lv_goto (tgt := 75) hx hb dX11_is_71 (by decide) ?_
                  refine lv_istore_n (lv' := [(2, .int (nI 1)), (0, .ref (q 0)), (1, .ref (ad 1)), (3, .int (x_69))]) hx hb dX11_is_75 rfl hl (by decide) rfl (fun ls hl => ?_)
                  obtain ⟨v_86, ev_86⟩ : ∃ y : Int32, y = x_69 + nI 1 := ⟨_, rfl⟩
                  have hv_86 : zR 1 4 v_86 := ev_86 ▸ zR_add f_77 zk_1 (by decide)
                  have mv_86 : v_86.toInt = (x_69).toInt + 1 := by rw [ev_86, zR_addE f_77 zk_1 (by decide)]; rfl
                  refine lv_iinc (v := v_86) (lv' := [(3, .int (v_86)), (2, .int (nI 1)), (0, .ref (q 0)), (1, .ref (ad 1))]) hx hb dX11_is_76 hl (k := 3) rfl (ev_86 ▸ rfl) (by decide) rfl (fun ls hl => ?_)
                  refine lv_goto (tgt := 39) hx hb dX11_is_79 (by decide) ?_
                  exact ih_73 (nI 1) (zR_w zk_1 (by decide)) (v_86) (zR_w hv_86 (by decide)) (mIsL_1 hx_70 f_80 mv_86 t_c_83 (mIs_ix (zR_w f_16 (by decide)) (zR_w f_77 (by decide)) ev_81)) (z2_up mv_86 (by decide) hN_72) _ _ hP hD hS _ (lv_sub hl [2, 3, 1, 0] rfl)
        exact loop_71 _ (nI 1) (zR_w zk_1 (by decide)) (nI 0) (zR_w zk_0 (by decide)) (mIsL_0 (mIs_a3 nn_1 t_c_2 ev_9 f_15)) (Nat.lt_succ_self _) _ _ hP hD hS _ (lv_sub hl [2, 3, 1, 0] rfl)
  · cases hu_1
    refine lv_if_eq (tgt := 35) hx hb dX11_is_4 (by decide) (fun _ => ?_) (fun c_0 => absurd (zD_eq zk_0 zk_z) c_0)
    refine lv_iconst (v := nI 0) hx hb dX11_is_35 (by decide +kernel) ?_
    refine lv_istore_n (lv' := [(2, .int (nI 0)), (0, .ref (q 0)), (1, .ref (ad 1))]) hx hb dX11_is_36 rfl hl (by decide) rfl (fun ls hl => ?_)
    refine lv_iconst (v := nI 0) hx hb dX11_is_37 (by decide +kernel) ?_
    refine lv_istore_n (lv' := [(3, .int (nI 0)), (2, .int (nI 0)), (0, .ref (q 0)), (1, .ref (ad 1))]) hx hb dX11_is_38 rfl hl (by decide) rfl (fun ls hl => ?_)
    refine lv_iload_n hx hb dX11_is_39 rfl (lv_at hl 0 rfl) ?_
    refine lv_aload_n hx hb dX11_is_40 rfl (lv_at hl 3 rfl) ?_
    refine z_cNXi (As := []) (rest := [.int (nI 0)]) hx hb hml hown ht (mk_J0_length_8abf5_8 l D q cA ad av t9 F _ _ _ hI ) hw_6_144 hmJ0_length_8abf5 ⟨rfl, rfl⟩ (na := 0) rfl (by decide +kernel) (by decide) (vk_recv hZ.1 (by decide) hS) hK hP hD hS hA (zSS_c (Rs := zMRs) (t9 := t9) (fun _ _ _ => zMRs_c)) (zSS_w (Rs := zMRs) (t9 := t9) (fun _ _ _ => zMRs_w) hN hsz hS) hl.1 rfl (Nat.le_of_ble_eq_true rfl) ⟨Nat.zero_le _, Nat.zero_le _⟩ dX11_is_41 (fun r_89 I_89 R_89 J_89 H locs hp_89 hP hD hS _ _ => ?_)
    obtain ⟨rfl, hu_89⟩ := hp_89
    cases hu_89
    refine lv_icmp_ge (tgt := 82) hx hb dX11_is_44 (by decide) (fun c_0 => absurd c_0 (zD_nle zk_4 zk_0 (by decide))) (fun _ => ?_)
    refine lv_iload_n hx hb dX11_is_47 rfl (lv_at hl 1 rfl) ?_
    refine lv_if_eq (tgt := 82) hx hb dX11_is_48 (by decide) (fun _ => ?_) (fun c_0 => absurd (zD_eq zk_0 zk_z) c_0)
    refine lv_iload_n hx hb dX11_is_82 rfl (lv_at hl 1 rfl) ?_
    exact z_zret (v := nI 0) hx hb hr hlocks hP hD hS (by decide +kernel) dX11_is_83 (Or.inr ⟨rfl, rfl, (mIs_n1 nn_1)⟩)
set_option maxHeartbeats 4000000 in
set_option maxRecDepth 100000 in
theorem mk_X11_takes_7 (l : Launch) (D : va_G) (q : Nat → Nat) (cA : Nat → ClassId) (ad av : Nat → Nat) (t9 : Nat) (F : Nat → Nat → Int32) (I R : Nat → Nat → Int32) (J : Nat → Nat → Int64) (hI : mInv F (I, R, J))  : zNi (zSS zMRs 25 q ad av t9) l D vwCl (zMtys cA) 25 q (zMd q cA) yX11_takes cX11_takes 3 (some .boolean) ({ frames := 5, cells := 0, slots := 0, locals := 108 } : Room) [.ref (q 0), .ref (ad 1)] (I, R, J) (fun r u => (r = nI 1 ∧ ((mInv F u ∧ (∀ k, k ≠ 0 → u.1 k = I k) ∧ u.2 = (R, J)) ∧ mTr I u.1) ∧ mIs 1 I R) ∨ (r = nI 0 ∧ u = (I, R, J) ∧ ¬ mIs 1 I R)) := by
  intro sz
  refine z_bodyN (by decide +kernel) (Nat.le_of_ble_eq_true rfl) (fun p e s m below meth c ls hx hb hml hr ht hown hlocks hsz hK hP hD hS hN hl => ?_)
  have hA : ∀ a, s.heap.size ≤ a → zA 25 q sz a := fun a h => Or.inr (hsz ▸ h)
  have hl : lv_has ls 3 [(0, .ref (q 0)), (1, .ref (ad 1))] := hl
  have hZ : zSz zMRs 25 q ad av t9 sz s := hsz ▸ hN
  refine lv_aload_n hx hb dX11_takes_0 rfl (lv_at hl 0 rfl) ?_
  refine lv_aload_n hx hb dX11_takes_1 rfl (lv_at hl 1 rfl) ?_
  refine z_cNVi (k := 0) (As := [.ref (ad 1)]) (rest := []) hx hb hml hown ht (mk_X11_is_8 l D q cA ad av t9 F _ _ _ hI ) hw_6_140 hmX11_is ⟨rfl, rfl⟩ (na := 1) rfl (by decide +kernel) (by decide) (by decide) rfl rfl hK hP hD hS hA (zSS_c (Rs := zMRs) (t9 := t9) (fun _ _ _ => zMRs_c)) (zSS_w (Rs := zMRs) (t9 := t9) (fun _ _ _ => zMRs_w) hN hsz hS) hl.1 rfl (Nat.le_of_ble_eq_true rfl) ⟨Nat.zero_le _, Nat.zero_le _⟩ dX11_takes_2 (fun r_1 I_1 R_1 J_1 H locs hp_1 hP hD hS _ _ => ?_)
  rcases hp_1 with ⟨rfl, hu_1, nn_1⟩ | ⟨rfl, hu_1, nn_1⟩
  · cases hu_1
    refine lv_istore_n (lv' := [(2, .int (nI 1)), (0, .ref (q 0)), (1, .ref (ad 1))]) hx hb dX11_takes_5 rfl hl (by decide) rfl (fun ls hl => ?_)
    refine lv_iload_n hx hb dX11_takes_6 rfl (lv_at hl 0 rfl) ?_
    refine lv_if_eq (tgt := 14) hx hb dX11_takes_7 (by decide) (fun c_0 => absurd c_0 (zD_ne zk_1 zk_z (by decide))) (fun _ => ?_)
    refine lv_aload_n hx hb dX11_takes_10 rfl (lv_at hl 1 rfl) ?_
    refine z_callVv (k := 0) (As := []) (rest := []) hx hb hml hown ht (mk_X11_advance l D q cA F _ _ _ hI ) hw_6_109 hmX11_advance ⟨rfl, rfl⟩ (na := 0) rfl (by decide +kernel) (by decide) (by decide) rfl rfl hK hP hD hS hA hl.1 rfl (Nat.le_of_ble_eq_true rfl) ⟨Nat.zero_le _, Nat.zero_le _⟩ dX11_takes_11 (fun I_2 R_2 J_2 H locs hp_2 hP hD hS _ _ => ?_)
    obtain ⟨hq_2, he_2⟩ := hp_2
    try dsimp only at he_2
    obtain ⟨hv_2, hk_2, hj_2⟩ := hq_2
    try dsimp only at hj_2 hk_2
    cases hj_2
    have hf_3 : ∀ k, k ≠ 0 → I_2 k = I k := fun k h => (hk_2 k h).trans ((fun (_ : Nat) _ => rfl) k h)
    refine lv_iload_n hx hb dX11_takes_14 rfl (lv_at hl 0 rfl) ?_
    exact z_zret (v := nI 1) hx hb hr hlocks hP hD hS (by decide +kernel) dX11_takes_15 (Or.inl ⟨rfl, ⟨⟨hv_2, hf_3, rfl⟩, he_2⟩, nn_1⟩)
  · cases hu_1
    refine lv_istore_n (lv' := [(2, .int (nI 0)), (0, .ref (q 0)), (1, .ref (ad 1))]) hx hb dX11_takes_5 rfl hl (by decide) rfl (fun ls hl => ?_)
    refine lv_iload_n hx hb dX11_takes_6 rfl (lv_at hl 0 rfl) ?_
    refine lv_if_eq (tgt := 14) hx hb dX11_takes_7 (by decide) (fun _ => ?_) (fun c_0 => absurd (zD_eq zk_0 zk_z) c_0)
    refine lv_iload_n hx hb dX11_takes_14 rfl (lv_at hl 0 rfl) ?_
    exact z_zret (v := nI 0) hx hb hr hlocks hP hD hS (by decide +kernel) dX11_takes_15 (Or.inr ⟨rfl, rfl, nn_1⟩)
set_option maxHeartbeats 4000000 in
set_option maxRecDepth 100000 in
theorem mk_X11_needs_4 (l : Launch) (D : va_G) (q : Nat → Nat) (cA : Nat → ClassId) (ad av : Nat → Nat) (t9 : Nat) (F : Nat → Nat → Int32) (I R : Nat → Nat → Int32) (J : Nat → Nat → Int64) (hI : mInv F (I, R, J))  : zNv (zSS zMRs 25 q ad av t9) l D vwCl (zMtys cA) 25 q (zMd q cA) yX11_needs cX11_needs 2 none ({ frames := 6, cells := 0, slots := 0, locals := 130 } : Room) [.ref (q 0), .ref (ad 1)] (I, R, J) (fun u => (mInv F u ∧ (∀ k, k ≠ 0 → u.1 k = I k) ∧ u.2 = (R, J)) ∧ mTr I u.1) := by
  intro sz
  refine z_bodyN (by decide +kernel) (Nat.le_of_ble_eq_true rfl) (fun p e s m below meth c ls hx hb hml hr ht hown hlocks hsz hK hP hD hS hN hl => ?_)
  have hA : ∀ a, s.heap.size ≤ a → zA 25 q sz a := fun a h => Or.inr (hsz ▸ h)
  have hl : lv_has ls 2 [(0, .ref (q 0)), (1, .ref (ad 1))] := hl
  have hZ : zSz zMRs 25 q ad av t9 sz s := hsz ▸ hN
  refine lv_aload_n hx hb dX11_needs_0 rfl (lv_at hl 0 rfl) ?_
  refine lv_aload_n hx hb dX11_needs_1 rfl (lv_at hl 1 rfl) ?_
  refine z_cNVi (k := 0) (As := [.ref (ad 1)]) (rest := []) hx hb hml hown ht (mk_X11_takes_7 l D q cA ad av t9 F _ _ _ hI ) hw_6_136 hmX11_takes ⟨rfl, rfl⟩ (na := 1) rfl (by decide +kernel) (by decide) (by decide) rfl rfl hK hP hD hS hA (zSS_c (Rs := zMRs) (t9 := t9) (fun _ _ _ => zMRs_c)) (zSS_w (Rs := zMRs) (t9 := t9) (fun _ _ _ => zMRs_w) hN hsz hS) hl.1 rfl (Nat.le_of_ble_eq_true rfl) ⟨Nat.zero_le _, Nat.zero_le _⟩ dX11_needs_2 (fun r_1 I_1 R_1 J_1 H locs hp_1 hP hD hS _ _ => ?_)
  rcases hp_1 with ⟨rfl, hu_1, nn_1⟩ | ⟨rfl, hu_1, nn_1⟩
  · obtain ⟨hq_1, he_1⟩ := hu_1
    try dsimp only at he_1
    obtain ⟨hv_1, hk_1, hj_1⟩ := hq_1
    try dsimp only at hj_1 hk_1
    cases hj_1
    have hf_2 : ∀ k, k ≠ 0 → I_1 k = I k := fun k h => (hk_1 k h).trans ((fun (_ : Nat) _ => rfl) k h)
    refine lv_if_ne (tgt := 13) hx hb dX11_needs_5 (by decide) (fun _ => ?_) (fun c_0 => absurd c_0 (zD_ne zk_1 zk_z (by decide)))
    exact z_vret hx hb hr hlocks hP hD hS dX11_needs_13 ⟨⟨hv_1, hf_2, rfl⟩, he_1⟩
  · cases hu_1
    refine lv_if_ne (tgt := 13) hx hb dX11_needs_5 (by decide) (fun c_0 => absurd (zD_eq zk_0 zk_z) c_0) (fun _ => ?_)
    refine lv_aload_n hx hb dX11_needs_8 rfl (lv_at hl 0 rfl) ?_
    refine lv_iconst (v := nI 1) hx hb dX11_needs_9 (by decide +kernel) ?_
    refine z_callVv (k := 0) (As := [.int (nI 1)]) (rest := []) hx hb hml hown ht (mk_X11_errs l D q cA F _ _ _ hI ) hw_6_146 hmX11_errs ⟨rfl, rfl⟩ (na := 1) rfl (by decide +kernel) (by decide) (by decide) rfl rfl hK hP hD hS hA hl.1 rfl (Nat.le_of_ble_eq_true rfl) ⟨Nat.zero_le _, Nat.zero_le _⟩ dX11_needs_10 (fun I_3 R_3 J_3 H locs hp_3 hP hD hS _ _ => ?_)
    obtain ⟨hq_3, he_3⟩ := hp_3
    obtain ⟨hv_3, hk_3, hj_3⟩ := hq_3
    try dsimp only at hj_3 hk_3
    cases hj_3
    have hf_4 : ∀ k, k ≠ 0 → I_3 k = I k := fun k h => (hk_3 k h).trans ((fun (_ : Nat) _ => rfl) k h)
    exact z_vret hx hb hr hlocks hP hD hS dX11_needs_13 ⟨⟨hv_3, hf_4, rfl⟩, (mTr_f he_3)⟩
set_option maxHeartbeats 4000000 in
set_option maxRecDepth 100000 in
theorem mk_X11_number_5 (l : Launch) (D : va_G) (q : Nat → Nat) (cA : Nat → ClassId) (F : Nat → Nat → Int32) (I R : Nat → Nat → Int32) (J : Nat → Nat → Int64) (hI : mInv F (I, R, J))  : zMi l D vwCl (zMtys cA) 25 q (zMd q cA) yX11_number cX11_number 4 (some .int) ({ frames := 2, cells := 0, slots := 0, locals := 85 } : Room) [.ref (q 0), .int (nI 0), .int (nI 50)] (I, R, J) (fun r u => ((mInv F u ∧ (∀ k, k ≠ 0 → u.1 k = I k) ∧ u.2 = (R, J)) ∧ mTr I u.1) ∧ zR 0 50 r) := by
  intro sz
  refine z_body (by decide +kernel) (Nat.le_of_ble_eq_true rfl) (fun p e s m below meth c ls hx hb hml hr ht hown hlocks hsz hK hP hD hS hl => ?_)
  have hA : ∀ a, s.heap.size ≤ a → zA 25 q sz a := fun a h => Or.inr (hsz ▸ h)
  have hl : lv_has ls 4 [(0, .ref (q 0)), (1, .int (nI 0)), (2, .int (nI 50))] := hl
  refine lv_aload_n hx hb dX11_number_0 rfl (lv_at hl 0 rfl) ?_
  refine z_callVi (k := 0) (As := []) (rest := []) hx hb hml hown ht (mk_X11_good l D q cA F _ _ _ hI ) hw_6_123 hmX11_good ⟨rfl, rfl⟩ (na := 0) rfl (by decide +kernel) (by decide) (by decide) rfl rfl hK hP hD hS hA hl.1 rfl (Nat.le_of_ble_eq_true rfl) ⟨Nat.zero_le _, Nat.zero_le _⟩ dX11_number_1 (fun r_1 I_1 R_1 J_1 H locs hp_1 hP hD hS _ _ => ?_)
  rcases hp_1 with ⟨rfl, hu_1, nn_1⟩ | ⟨rfl, hu_1, nn_1⟩
  · cases hu_1
    refine lv_if_eq (tgt := 20) hx hb dX11_number_4 (by decide) (fun c_0 => absurd c_0 (zD_ne zk_1 zk_z (by decide))) (fun _ => ?_)
    refine lv_aload_n hx hb dX11_number_7 rfl (lv_at hl 0 rfl) ?_
    refine z_get hx hb ht hown hK hP ziX11 rfl 0 (by decide) 10 (by decide) hw_5_197 rfl (v := .int (I 0 10)) rfl dX11_number_8 ?_
    refine lv_iconst (v := nI 2) hx hb dX11_number_11 (by decide +kernel) ?_
    refine lv_icmp_eq (tgt := 20) hx hb dX11_number_12 (by decide) (fun c_2 => ?_) (fun c_2 => ?_)
    · have t_c_2 := z_eqT c_2
      have f_3 : zR 2 2 (I 0 10) := zR_eqx t_c_2 zk_2
      refine lv_aload_n hx hb dX11_number_20 rfl (lv_at hl 0 rfl) ?_
      refine z_callVi (k := 0) (As := []) (rest := []) hx hb hml hown ht (mk_X11_good l D q cA F _ _ _ hI ) hw_6_123 hmX11_good ⟨rfl, rfl⟩ (na := 0) rfl (by decide +kernel) (by decide) (by decide) rfl rfl hK hP hD hS hA hl.1 rfl (Nat.le_of_ble_eq_true rfl) ⟨Nat.zero_le _, Nat.zero_le _⟩ dX11_number_21 (fun r_4 I_4 R_4 J_4 H locs hp_4 hP hD hS _ _ => ?_)
      rcases hp_4 with ⟨rfl, hu_4, nn_4⟩ | ⟨rfl, hu_4, nn_4⟩
      · cases hu_4
        refine lv_if_eq (tgt := 47) hx hb dX11_number_24 (by decide) (fun c_0 => absurd c_0 (zD_ne zk_1 zk_z (by decide))) (fun _ => ?_)
        refine lv_aload_n hx hb dX11_number_27 rfl (lv_at hl 0 rfl) ?_
        refine z_get hx hb ht hown hK hP ziX11 rfl 0 (by decide) 11 (by decide) hw_5_198 rfl (v := .int (I 0 11)) rfl dX11_number_28 ?_
        refine lv_i2l (v := (I 0 11).toInt64) hx hb dX11_number_31 rfl ?_
        refine lv_iload_n hx hb dX11_number_32 rfl (lv_at hl 1 rfl) ?_
        refine lv_i2l (v := (0 : Int64)) hx hb dX11_number_33 (by decide +kernel) ?_
        refine lv_iload_n hx hb dX11_number_34 rfl (lv_at hl 2 rfl) ?_
        refine lv_i2l (v := (50 : Int64)) hx hb dX11_number_35 (by decide +kernel) ?_
        refine z_callSi (As := [.long ((I 0 11).toInt64), .long ((0 : Int64)), .long ((50 : Int64))]) (rest := []) hx hb hml hown ht (mk_X11_in l D q cA F _ _ _ hI ((I 0 11).toInt64) ((0 : Int64)) ((50 : Int64))) hw_6_86 hmX11_in ⟨rfl, rfl⟩ (na := 3) rfl (by decide +kernel) (by decide) hK hP hD hS hA hl.1 rfl (Nat.le_of_ble_eq_true rfl) ⟨Nat.zero_le _, Nat.zero_le _⟩ dX11_number_36 (fun r_5 I_5 R_5 J_5 H locs hp_5 hP hD hS _ _ => ?_)
        rcases hp_5 with ⟨rfl, hu_5, h1_5, h2_5⟩ | ⟨rfl, hu_5, h1_5 | h2_5⟩
        · cases hu_5
          have f_6 : zL 0 2147483647 ((I 0 11).toInt64) := zL_ley h1_5 zkl_0 (zR_i2l (zR_any (I 0 11))) (by decide)
          have f_7 : zR 0 2147483647 (I 0 11) := zL_back f_6
          have f_8 : zL 0 50 ((I 0 11).toInt64) := zL_lex h2_5 f_6 zkl_50 (by decide)
          have f_9 : zR 0 50 (I 0 11) := zL_back f_8
          refine lv_if_ne (tgt := 47) hx hb dX11_number_39 (by decide) (fun _ => ?_) (fun c_0 => absurd c_0 (zD_ne zk_1 zk_z (by decide)))
          refine lv_aload_n hx hb dX11_number_47 rfl (lv_at hl 0 rfl) ?_
          refine z_callVi (k := 0) (As := []) (rest := []) hx hb hml hown ht (mk_X11_good l D q cA F _ _ _ hI ) hw_6_123 hmX11_good ⟨rfl, rfl⟩ (na := 0) rfl (by decide +kernel) (by decide) (by decide) rfl rfl hK hP hD hS hA hl.1 rfl (Nat.le_of_ble_eq_true rfl) ⟨Nat.zero_le _, Nat.zero_le _⟩ dX11_number_48 (fun r_10 I_10 R_10 J_10 H locs hp_10 hP hD hS _ _ => ?_)
          rcases hp_10 with ⟨rfl, hu_10, nn_10⟩ | ⟨rfl, hu_10, nn_10⟩
          · cases hu_10
            refine lv_if_ne (tgt := 56) hx hb dX11_number_51 (by decide) (fun _ => ?_) (fun c_0 => absurd c_0 (zD_ne zk_1 zk_z (by decide)))
            refine lv_aload_n hx hb dX11_number_56 rfl (lv_at hl 0 rfl) ?_
            refine z_get hx hb ht hown hK hP ziX11 rfl 0 (by decide) 11 (by decide) hw_5_198 rfl (v := .int (I 0 11)) rfl dX11_number_57 ?_
            refine lv_istore_n (lv' := [(3, .int (I 0 11)), (0, .ref (q 0)), (1, .int (nI 0)), (2, .int (nI 50))]) hx hb dX11_number_60 rfl hl (by decide) rfl (fun ls hl => ?_)
            refine lv_aload_n hx hb dX11_number_61 rfl (lv_at hl 1 rfl) ?_
            refine z_callVv (k := 0) (As := []) (rest := []) hx hb hml hown ht (mk_X11_advance l D q cA F _ _ _ hI ) hw_6_109 hmX11_advance ⟨rfl, rfl⟩ (na := 0) rfl (by decide +kernel) (by decide) (by decide) rfl rfl hK hP hD hS hA hl.1 rfl (Nat.le_of_ble_eq_true rfl) ⟨Nat.zero_le _, Nat.zero_le _⟩ dX11_number_62 (fun I_11 R_11 J_11 H locs hp_11 hP hD hS _ _ => ?_)
            obtain ⟨hq_11, he_11⟩ := hp_11
            try dsimp only at he_11
            obtain ⟨hv_11, hk_11, hj_11⟩ := hq_11
            try dsimp only at hj_11 hk_11
            cases hj_11
            have hf_12 : ∀ k, k ≠ 0 → I_11 k = I k := fun k h => (hk_11 k h).trans ((fun (_ : Nat) _ => rfl) k h)
            refine lv_iload_n hx hb dX11_number_65 rfl (lv_at hl 0 rfl) ?_
            exact z_iret (v := I 0 11) hx hb hr hlocks hP hD hS dX11_number_66 ⟨⟨⟨hv_11, hf_12, rfl⟩, he_11⟩, f_9⟩
          · cases hu_10
            exact (zR_abs2 nn_10 nn_4 (by decide)).elim
        · cases hu_5
          have f_13 : zL (-2147483648) (-1) ((I 0 11).toInt64) := zL_ltx h1_5 (zR_i2l (zR_any (I 0 11))) zkl_0 (by decide)
          have f_14 : zR (-2147483648) (-1) (I 0 11) := zL_back f_13
          refine lv_if_ne (tgt := 47) hx hb dX11_number_39 (by decide) (fun c_0 => absurd (zD_eq zk_0 zk_z) c_0) (fun _ => ?_)
          refine lv_aload_n hx hb dX11_number_42 rfl (lv_at hl 0 rfl) ?_
          refine lv_iconst (v := nI 2) hx hb dX11_number_43 (by decide +kernel) ?_
          refine z_callVv (k := 0) (As := [.int (nI 2)]) (rest := []) hx hb hml hown ht (mk_X11_errs_1 l D q cA F _ _ _ hI ) hw_6_146 hmX11_errs ⟨rfl, rfl⟩ (na := 1) rfl (by decide +kernel) (by decide) (by decide) rfl rfl hK hP hD hS hA hl.1 rfl (Nat.le_of_ble_eq_true rfl) ⟨Nat.zero_le _, Nat.zero_le _⟩ dX11_number_44 (fun I_15 R_15 J_15 H locs hp_15 hP hD hS _ _ => ?_)
          obtain ⟨hq_15, he_15⟩ := hp_15
          obtain ⟨hv_15, hk_15, hj_15⟩ := hq_15
          try dsimp only at hj_15 hk_15
          cases hj_15
          have hf_16 : ∀ k, k ≠ 0 → I_15 k = I k := fun k h => (hk_15 k h).trans ((fun (_ : Nat) _ => rfl) k h)
          refine lv_aload_n hx hb dX11_number_47 rfl (lv_at hl 0 rfl) ?_
          refine z_callVi (k := 0) (As := []) (rest := []) hx hb hml hown ht (mk_X11_good l D q cA F _ _ _ hv_15 ) hw_6_123 hmX11_good ⟨rfl, rfl⟩ (na := 0) rfl (by decide +kernel) (by decide) (by decide) rfl rfl hK hP hD hS hA hl.1 rfl (Nat.le_of_ble_eq_true rfl) ⟨Nat.zero_le _, Nat.zero_le _⟩ dX11_number_48 (fun r_17 I_17 R_17 J_17 H locs hp_17 hP hD hS _ _ => ?_)
          rcases hp_17 with ⟨rfl, hu_17, nn_17⟩ | ⟨rfl, hu_17, nn_17⟩
          · cases hu_17
            exact (zR_abs2 nn_17 he_15 (by decide)).elim
          · cases hu_17
            refine lv_if_ne (tgt := 56) hx hb dX11_number_51 (by decide) (fun c_0 => absurd (zD_eq zk_0 zk_z) c_0) (fun _ => ?_)
            refine lv_iconst (v := nI 0) hx hb dX11_number_54 (by decide +kernel) ?_
            exact z_iret (v := nI 0) hx hb hr hlocks hP hD hS dX11_number_55 ⟨⟨⟨hv_15, hf_16, rfl⟩, (mTr_f he_15)⟩, (zR_w zk_0 (by decide))⟩
        · cases hu_5
          have f_18 : zL 51 2147483647 ((I 0 11).toInt64) := zL_lty h2_5 zkl_50 (zR_i2l (zR_any (I 0 11))) (by decide)
          have f_19 : zR 51 2147483647 (I 0 11) := zL_back f_18
          refine lv_if_ne (tgt := 47) hx hb dX11_number_39 (by decide) (fun c_0 => absurd (zD_eq zk_0 zk_z) c_0) (fun _ => ?_)
          refine lv_aload_n hx hb dX11_number_42 rfl (lv_at hl 0 rfl) ?_
          refine lv_iconst (v := nI 2) hx hb dX11_number_43 (by decide +kernel) ?_
          refine z_callVv (k := 0) (As := [.int (nI 2)]) (rest := []) hx hb hml hown ht (mk_X11_errs_1 l D q cA F _ _ _ hI ) hw_6_146 hmX11_errs ⟨rfl, rfl⟩ (na := 1) rfl (by decide +kernel) (by decide) (by decide) rfl rfl hK hP hD hS hA hl.1 rfl (Nat.le_of_ble_eq_true rfl) ⟨Nat.zero_le _, Nat.zero_le _⟩ dX11_number_44 (fun I_20 R_20 J_20 H locs hp_20 hP hD hS _ _ => ?_)
          obtain ⟨hq_20, he_20⟩ := hp_20
          obtain ⟨hv_20, hk_20, hj_20⟩ := hq_20
          try dsimp only at hj_20 hk_20
          cases hj_20
          have hf_21 : ∀ k, k ≠ 0 → I_20 k = I k := fun k h => (hk_20 k h).trans ((fun (_ : Nat) _ => rfl) k h)
          refine lv_aload_n hx hb dX11_number_47 rfl (lv_at hl 0 rfl) ?_
          refine z_callVi (k := 0) (As := []) (rest := []) hx hb hml hown ht (mk_X11_good l D q cA F _ _ _ hv_20 ) hw_6_123 hmX11_good ⟨rfl, rfl⟩ (na := 0) rfl (by decide +kernel) (by decide) (by decide) rfl rfl hK hP hD hS hA hl.1 rfl (Nat.le_of_ble_eq_true rfl) ⟨Nat.zero_le _, Nat.zero_le _⟩ dX11_number_48 (fun r_22 I_22 R_22 J_22 H locs hp_22 hP hD hS _ _ => ?_)
          rcases hp_22 with ⟨rfl, hu_22, nn_22⟩ | ⟨rfl, hu_22, nn_22⟩
          · cases hu_22
            exact (zR_abs2 nn_22 he_20 (by decide)).elim
          · cases hu_22
            refine lv_if_ne (tgt := 56) hx hb dX11_number_51 (by decide) (fun c_0 => absurd (zD_eq zk_0 zk_z) c_0) (fun _ => ?_)
            refine lv_iconst (v := nI 0) hx hb dX11_number_54 (by decide +kernel) ?_
            exact z_iret (v := nI 0) hx hb hr hlocks hP hD hS dX11_number_55 ⟨⟨⟨hv_20, hf_21, rfl⟩, (mTr_f he_20)⟩, (zR_w zk_0 (by decide))⟩
      · cases hu_4
        exact (zR_abs2 nn_4 nn_1 (by decide)).elim
    · have t_c_2 := z_eqF c_2
      refine lv_aload_n hx hb dX11_number_15 rfl (lv_at hl 0 rfl) ?_
      refine lv_iconst (v := nI 1) hx hb dX11_number_16 (by decide +kernel) ?_
      refine z_callVv (k := 0) (As := [.int (nI 1)]) (rest := []) hx hb hml hown ht (mk_X11_errs l D q cA F _ _ _ hI ) hw_6_146 hmX11_errs ⟨rfl, rfl⟩ (na := 1) rfl (by decide +kernel) (by decide) (by decide) rfl rfl hK hP hD hS hA hl.1 rfl (Nat.le_of_ble_eq_true rfl) ⟨Nat.zero_le _, Nat.zero_le _⟩ dX11_number_17 (fun I_23 R_23 J_23 H locs hp_23 hP hD hS _ _ => ?_)
      obtain ⟨hq_23, he_23⟩ := hp_23
      obtain ⟨hv_23, hk_23, hj_23⟩ := hq_23
      try dsimp only at hj_23 hk_23
      cases hj_23
      have hf_24 : ∀ k, k ≠ 0 → I_23 k = I k := fun k h => (hk_23 k h).trans ((fun (_ : Nat) _ => rfl) k h)
      refine lv_aload_n hx hb dX11_number_20 rfl (lv_at hl 0 rfl) ?_
      refine z_callVi (k := 0) (As := []) (rest := []) hx hb hml hown ht (mk_X11_good l D q cA F _ _ _ hv_23 ) hw_6_123 hmX11_good ⟨rfl, rfl⟩ (na := 0) rfl (by decide +kernel) (by decide) (by decide) rfl rfl hK hP hD hS hA hl.1 rfl (Nat.le_of_ble_eq_true rfl) ⟨Nat.zero_le _, Nat.zero_le _⟩ dX11_number_21 (fun r_25 I_25 R_25 J_25 H locs hp_25 hP hD hS _ _ => ?_)
      rcases hp_25 with ⟨rfl, hu_25, nn_25⟩ | ⟨rfl, hu_25, nn_25⟩
      · cases hu_25
        exact (zR_abs2 nn_25 he_23 (by decide)).elim
      · cases hu_25
        refine lv_if_eq (tgt := 47) hx hb dX11_number_24 (by decide) (fun _ => ?_) (fun c_0 => absurd (zD_eq zk_0 zk_z) c_0)
        refine lv_aload_n hx hb dX11_number_47 rfl (lv_at hl 0 rfl) ?_
        refine z_callVi (k := 0) (As := []) (rest := []) hx hb hml hown ht (mk_X11_good l D q cA F _ _ _ hv_23 ) hw_6_123 hmX11_good ⟨rfl, rfl⟩ (na := 0) rfl (by decide +kernel) (by decide) (by decide) rfl rfl hK hP hD hS hA hl.1 rfl (Nat.le_of_ble_eq_true rfl) ⟨Nat.zero_le _, Nat.zero_le _⟩ dX11_number_48 (fun r_26 I_26 R_26 J_26 H locs hp_26 hP hD hS _ _ => ?_)
        rcases hp_26 with ⟨rfl, hu_26, nn_26⟩ | ⟨rfl, hu_26, nn_26⟩
        · cases hu_26
          exact (zR_abs2 nn_26 nn_25 (by decide)).elim
        · cases hu_26
          refine lv_if_ne (tgt := 56) hx hb dX11_number_51 (by decide) (fun c_0 => absurd (zD_eq zk_0 zk_z) c_0) (fun _ => ?_)
          refine lv_iconst (v := nI 0) hx hb dX11_number_54 (by decide +kernel) ?_
          exact z_iret (v := nI 0) hx hb hr hlocks hP hD hS dX11_number_55 ⟨⟨⟨hv_23, hf_24, rfl⟩, (mTr_f he_23)⟩, (zR_w zk_0 (by decide))⟩
  · cases hu_1
    refine lv_if_eq (tgt := 20) hx hb dX11_number_4 (by decide) (fun _ => ?_) (fun c_0 => absurd (zD_eq zk_0 zk_z) c_0)
    refine lv_aload_n hx hb dX11_number_20 rfl (lv_at hl 0 rfl) ?_
    refine z_callVi (k := 0) (As := []) (rest := []) hx hb hml hown ht (mk_X11_good l D q cA F _ _ _ hI ) hw_6_123 hmX11_good ⟨rfl, rfl⟩ (na := 0) rfl (by decide +kernel) (by decide) (by decide) rfl rfl hK hP hD hS hA hl.1 rfl (Nat.le_of_ble_eq_true rfl) ⟨Nat.zero_le _, Nat.zero_le _⟩ dX11_number_21 (fun r_27 I_27 R_27 J_27 H locs hp_27 hP hD hS _ _ => ?_)
    rcases hp_27 with ⟨rfl, hu_27, nn_27⟩ | ⟨rfl, hu_27, nn_27⟩
    · cases hu_27
      exact (zR_abs2 nn_27 nn_1 (by decide)).elim
    · cases hu_27
      refine lv_if_eq (tgt := 47) hx hb dX11_number_24 (by decide) (fun _ => ?_) (fun c_0 => absurd (zD_eq zk_0 zk_z) c_0)
      refine lv_aload_n hx hb dX11_number_47 rfl (lv_at hl 0 rfl) ?_
      refine z_callVi (k := 0) (As := []) (rest := []) hx hb hml hown ht (mk_X11_good l D q cA F _ _ _ hI ) hw_6_123 hmX11_good ⟨rfl, rfl⟩ (na := 0) rfl (by decide +kernel) (by decide) (by decide) rfl rfl hK hP hD hS hA hl.1 rfl (Nat.le_of_ble_eq_true rfl) ⟨Nat.zero_le _, Nat.zero_le _⟩ dX11_number_48 (fun r_28 I_28 R_28 J_28 H locs hp_28 hP hD hS _ _ => ?_)
      rcases hp_28 with ⟨rfl, hu_28, nn_28⟩ | ⟨rfl, hu_28, nn_28⟩
      · cases hu_28
        exact (zR_abs2 nn_28 nn_27 (by decide)).elim
      · cases hu_28
        refine lv_if_ne (tgt := 56) hx hb dX11_number_51 (by decide) (fun c_0 => absurd (zD_eq zk_0 zk_z) c_0) (fun _ => ?_)
        refine lv_iconst (v := nI 0) hx hb dX11_number_54 (by decide +kernel) ?_
        exact z_iret (v := nI 0) hx hb hr hlocks hP hD hS dX11_number_55 ⟨⟨⟨hI, (fun (_ : Nat) _ => rfl), rfl⟩, (mTr_f nn_28)⟩, (zR_w zk_0 (by decide))⟩
set_option maxHeartbeats 4000000 in
set_option maxRecDepth 100000 in
theorem mk_X11_told_3 (l : Launch) (D : va_G) (q : Nat → Nat) (cA : Nat → ClassId) (ad av : Nat → Nat) (t9 : Nat) (F : Nat → Nat → Int32) (I R : Nat → Nat → Int32) (J : Nat → Nat → Int64) (hI : mInv F (I, R, J))  : zNi (zSS zMRs 25 q ad av t9) l D vwCl (zMtys cA) 25 q (zMd q cA) yX11_told cX11_told 4 (some .int) ({ frames := 7, cells := 0, slots := 0, locals := 151 } : Room) [.ref (q 0), .ref (ad 1), .int (nI 0), .int (nI 50)] (I, R, J) (fun r u => ((mInv F u ∧ (∀ k, k ≠ 0 → u.1 k = I k) ∧ u.2 = (R, J)) ∧ mTr I u.1) ∧ zR 0 50 r) := by
  intro sz
  refine z_bodyN (by decide +kernel) (Nat.le_of_ble_eq_true rfl) (fun p e s m below meth c ls hx hb hml hr ht hown hlocks hsz hK hP hD hS hN hl => ?_)
  have hA : ∀ a, s.heap.size ≤ a → zA 25 q sz a := fun a h => Or.inr (hsz ▸ h)
  have hl : lv_has ls 4 [(0, .ref (q 0)), (1, .ref (ad 1)), (2, .int (nI 0)), (3, .int (nI 50))] := hl
  have hZ : zSz zMRs 25 q ad av t9 sz s := hsz ▸ hN
  refine lv_aload_n hx hb dX11_told_0 rfl (lv_at hl 0 rfl) ?_
  refine lv_aload_n hx hb dX11_told_1 rfl (lv_at hl 1 rfl) ?_
  refine z_cNVv (k := 0) (As := [.ref (ad 1)]) (rest := []) hx hb hml hown ht (mk_X11_needs_4 l D q cA ad av t9 F _ _ _ hI ) hw_6_132 hmX11_needs ⟨rfl, rfl⟩ (na := 1) rfl (by decide +kernel) (by decide) (by decide) rfl rfl hK hP hD hS hA (zSS_c (Rs := zMRs) (t9 := t9) (fun _ _ _ => zMRs_c)) (zSS_w (Rs := zMRs) (t9 := t9) (fun _ _ _ => zMRs_w) hN hsz hS) hl.1 rfl (Nat.le_of_ble_eq_true rfl) ⟨Nat.zero_le _, Nat.zero_le _⟩ dX11_told_2 (fun I_1 R_1 J_1 H locs hp_1 hP hD hS _ _ => ?_)
  obtain ⟨hq_1, he_1⟩ := hp_1
  try dsimp only at he_1
  obtain ⟨hv_1, hk_1, hj_1⟩ := hq_1
  try dsimp only at hj_1 hk_1
  cases hj_1
  have hf_2 : ∀ k, k ≠ 0 → I_1 k = I k := fun k h => (hk_1 k h).trans ((fun (_ : Nat) _ => rfl) k h)
  refine lv_aload_n hx hb dX11_told_5 rfl (lv_at hl 0 rfl) ?_
  refine lv_iload_n hx hb dX11_told_6 rfl (lv_at hl 2 rfl) ?_
  refine lv_iload_n hx hb dX11_told_7 rfl (lv_at hl 3 rfl) ?_
  refine z_callVi (k := 0) (As := [.int (nI 0), .int (nI 50)]) (rest := []) hx hb hml hown ht (mk_X11_number_5 l D q cA F _ _ _ hv_1 ) hw_6_155 hmX11_number ⟨rfl, rfl⟩ (na := 2) rfl (by decide +kernel) (by decide) (by decide) rfl rfl hK hP hD hS hA hl.1 rfl (Nat.le_of_ble_eq_true rfl) ⟨Nat.zero_le _, Nat.zero_le _⟩ dX11_told_8 (fun r_3 I_3 R_3 J_3 H locs hp_3 hP hD hS _ _ => ?_)
  obtain ⟨⟨hq_3, he_3⟩, hr_3⟩ := hp_3
  try dsimp only at he_3
  obtain ⟨hv_3, hk_3, hj_3⟩ := hq_3
  try dsimp only at hj_3 hk_3
  cases hj_3
  have hf_4 : ∀ k, k ≠ 0 → I_3 k = I k := fun k h => (hk_3 k h).trans (hf_2 k h)
  exact z_iret (v := r_3) hx hb hr hlocks hP hD hS dX11_told_11 ⟨⟨⟨hv_3, hf_4, rfl⟩, (mTr_t he_1 he_3)⟩, hr_3⟩
set_option maxHeartbeats 4000000 in
set_option maxRecDepth 100000 in
theorem mk_J0_coder_7d493_9 (l : Launch) (D : va_G) (q : Nat → Nat) (cA : Nat → ClassId) (ad av : Nat → Nat) (t9 : Nat) (F : Nat → Nat → Int32) (I R : Nat → Nat → Int32) (J : Nat → Nat → Int64) (hI : mInv F (I, R, J))  : zNi (zSS zMRs 25 q ad av t9) l D vwCl (zMtys cA) 25 q (zMd q cA) yJ0_coder_7d493 cJ0_coder_7d493 1 (some .byte) ({ frames := 0, cells := 0, slots := 0, locals := 0 } : Room) [.ref (ad 2)] (I, R, J) (fun r u => r = nI 0 ∧ u = (I, R, J)) := by
  intro sz
  refine z_bodyN (by decide +kernel) (Nat.le_of_ble_eq_true rfl) (fun p e s m below meth c ls hx hb hml hr ht hown hlocks hsz hK hP hD hS hN hl => ?_)
  have hA : ∀ a, s.heap.size ≤ a → zA 25 q sz a := fun a h => Or.inr (hsz ▸ h)
  have hl : lv_has ls 1 [(0, .ref (ad 2))] := hl
  have hZ : zSz zMRs 25 q ad av t9 sz s := hsz ▸ hN
  refine va_gets hx hb hZ.2.1 hS hown (ht _ hw_2_195) (fun _ h => h) dJ0_coder_7d493_0 ?_
  refine z_eqi (y := nI 1) rfl ?_
  refine lv_if_eq (tgt := 13) hx hb dJ0_coder_7d493_3 (by decide) (fun c_0 => absurd c_0 (zD_ne zk_1 zk_z (by decide))) (fun _ => ?_)
  refine lv_aload_n hx hb dJ0_coder_7d493_6 rfl (lv_at hl 0 rfl) ?_
  refine vk_getf hx hb (hZ.1.1 2 (by decide)).2.1 hS hown (ht _ hw_8_165) (fun _ h => h) dJ0_coder_7d493_7 ?_
  refine z_eqi (y := nI 0) rfl ?_
  refine lv_goto (tgt := 14) hx hb dJ0_coder_7d493_10 (by decide) ?_
  exact z_zret (v := nI 0) hx hb hr hlocks hP hD hS (by decide +kernel) dJ0_coder_7d493_14 ⟨rfl, rfl⟩
set_option maxHeartbeats 4000000 in
set_option maxRecDepth 100000 in
theorem mk_J0_length_8abf5_9 (l : Launch) (D : va_G) (q : Nat → Nat) (cA : Nat → ClassId) (ad av : Nat → Nat) (t9 : Nat) (F : Nat → Nat → Int32) (I R : Nat → Nat → Int32) (J : Nat → Nat → Int64) (hI : mInv F (I, R, J))  : zNi (zSS zMRs 25 q ad av t9) l D vwCl (zMtys cA) 25 q (zMd q cA) yJ0_length_8abf5 cJ0_length_8abf5 1 (some .int) ({ frames := 1, cells := 0, slots := 0, locals := 20 } : Room) [.ref (ad 2)] (I, R, J) (fun r u => r = nI 5 ∧ u = (I, R, J)) := by
  intro sz
  refine z_bodyN (by decide +kernel) (Nat.le_of_ble_eq_true rfl) (fun p e s m below meth c ls hx hb hml hr ht hown hlocks hsz hK hP hD hS hN hl => ?_)
  have hA : ∀ a, s.heap.size ≤ a → zA 25 q sz a := fun a h => Or.inr (hsz ▸ h)
  have hl : lv_has ls 1 [(0, .ref (ad 2))] := hl
  have hZ : zSz zMRs 25 q ad av t9 sz s := hsz ▸ hN
  refine lv_aload_n hx hb dJ0_length_8abf5_0 rfl (lv_at hl 0 rfl) ?_
  refine vk_getf hx hb (hZ.1.1 2 (by decide)).2.2.1 hS hown (ht _ hw_8_164) (fun _ h => h) dJ0_length_8abf5_1 ?_
  refine va_tlen hx hb (hZ.1.1 2 (by decide)).2.2.2 hS (v := nI 5) rfl dJ0_length_8abf5_4 ?_
  refine lv_aload_n hx hb dJ0_length_8abf5_5 rfl (lv_at hl 0 rfl) ?_
  refine z_cNXi (As := []) (rest := [.int (nI 5)]) hx hb hml hown ht (mk_J0_coder_7d493_9 l D q cA ad av t9 F _ _ _ hI ) hw_2_191 hmJ0_coder_7d493 ⟨rfl, rfl⟩ (na := 0) rfl (by decide +kernel) (by decide) (vk_recv hZ.1 (by decide) hS) hK hP hD hS hA (zSS_c (Rs := zMRs) (t9 := t9) (fun _ _ _ => zMRs_c)) (zSS_w (Rs := zMRs) (t9 := t9) (fun _ _ _ => zMRs_w) hN hsz hS) hl.1 rfl (Nat.le_of_ble_eq_true rfl) ⟨Nat.zero_le _, Nat.zero_le _⟩ dJ0_length_8abf5_6 (fun r_1 I_1 R_1 J_1 H locs hp_1 hP hD hS _ _ => ?_)
  obtain ⟨rfl, hu_1⟩ := hp_1
  cases hu_1
  refine lv_ishr hx hb dJ0_length_8abf5_9 ?_
  refine z_eqi (y := nI 5) (by decide +kernel) ?_
  exact z_iret (v := nI 5) hx hb hr hlocks hP hD hS dJ0_length_8abf5_10 ⟨rfl, rfl⟩
set_option maxHeartbeats 4000000 in
set_option maxRecDepth 100000 in
theorem mk_J0_isLatin1_aae02_9 (l : Launch) (D : va_G) (q : Nat → Nat) (cA : Nat → ClassId) (ad av : Nat → Nat) (t9 : Nat) (F : Nat → Nat → Int32) (I R : Nat → Nat → Int32) (J : Nat → Nat → Int64) (hI : mInv F (I, R, J))  : zNi (zSS zMRs 25 q ad av t9) l D vwCl (zMtys cA) 25 q (zMd q cA) yJ0_isLatin1_aae02 cJ0_isLatin1_aae02 1 (some .boolean) ({ frames := 0, cells := 0, slots := 0, locals := 0 } : Room) [.ref (ad 2)] (I, R, J) (fun r u => (r = nI 1 ∧ u = (I, R, J))) := by
  intro sz
  refine z_bodyN (by decide +kernel) (Nat.le_of_ble_eq_true rfl) (fun p e s m below meth c ls hx hb hml hr ht hown hlocks hsz hK hP hD hS hN hl => ?_)
  have hA : ∀ a, s.heap.size ≤ a → zA 25 q sz a := fun a h => Or.inr (hsz ▸ h)
  have hl : lv_has ls 1 [(0, .ref (ad 2))] := hl
  have hZ : zSz zMRs 25 q ad av t9 sz s := hsz ▸ hN
  refine va_gets hx hb hZ.2.1 hS hown (ht _ hw_2_195) (fun _ h => h) dJ0_isLatin1_aae02_0 ?_
  refine z_eqi (y := nI 1) rfl ?_
  refine lv_if_eq (tgt := 17) hx hb dJ0_isLatin1_aae02_3 (by decide) (fun c_0 => absurd c_0 (zD_ne zk_1 zk_z (by decide))) (fun _ => ?_)
  refine lv_aload_n hx hb dJ0_isLatin1_aae02_6 rfl (lv_at hl 0 rfl) ?_
  refine vk_getf hx hb (hZ.1.1 2 (by decide)).2.1 hS hown (ht _ hw_8_165) (fun _ h => h) dJ0_isLatin1_aae02_7 ?_
  refine z_eqi (y := nI 0) rfl ?_
  refine lv_if_ne (tgt := 17) hx hb dJ0_isLatin1_aae02_10 (by decide) (fun c_0 => absurd (zD_eq zk_0 zk_z) c_0) (fun _ => ?_)
  refine lv_iconst (v := nI 1) hx hb dJ0_isLatin1_aae02_13 (by decide +kernel) ?_
  refine lv_goto (tgt := 18) hx hb dJ0_isLatin1_aae02_14 (by decide) ?_
  exact z_zret (v := nI 1) hx hb hr hlocks hP hD hS (by decide +kernel) dJ0_isLatin1_aae02_18 ⟨rfl, rfl⟩
set_option maxHeartbeats 4000000 in
set_option maxRecDepth 100000 in
theorem mk_J1_charAt_3b067_18 (l : Launch) (D : va_G) (q : Nat → Nat) (cA : Nat → ClassId) (ad av : Nat → Nat) (t9 : Nat) (F : Nat → Nat → Int32) (I R : Nat → Nat → Int32) (J : Nat → Nat → Int64) (hI : mInv F (I, R, J)) (pa1 : Int32) (hpa1 : zR 0 4 pa1) : zNi (zSS zMRs 25 q ad av t9) l D vwCl (zMtys cA) 25 q (zMd q cA) yJ1_charAt_3b067 cJ1_charAt_3b067 2 (some .char) ({ frames := 2, cells := 0, slots := 0, locals := 43 } : Room) [.ref (av 2), .int (pa1)] (I, R, J) (fun r u => (r = zch 2 (pa1).toNatClampNeg ∧ zR 0 65535 r) ∧ u = (I, R, J)) := by
  intro sz
  refine z_bodyN (by decide +kernel) (Nat.le_of_ble_eq_true rfl) (fun p e s m below meth c ls hx hb hml hr ht hown hlocks hsz hK hP hD hS hN hl => ?_)
  have hA : ∀ a, s.heap.size ≤ a → zA 25 q sz a := fun a h => Or.inr (hsz ▸ h)
  have hl : lv_has ls 2 [(0, .ref (av 2)), (1, .int (pa1))] := hl
  have hZ : zSz zMRs 25 q ad av t9 sz s := hsz ▸ hN
  refine lv_iload_n hx hb dJ1_charAt_3b067_0 rfl (lv_at hl 1 rfl) ?_
  refine lv_aload_n hx hb dJ1_charAt_3b067_1 rfl (lv_at hl 0 rfl) ?_
  refine va_tlen hx hb (hZ.1.1 2 (by decide)).2.2.2 hS (v := nI 5) rfl dJ1_charAt_3b067_2 ?_
  refine z_cNSv (As := [.int (pa1), .int (nI 5)]) (rest := []) hx hb hml hown ht (mk_J0_checkIndex_df160_1 l D q cA ad av t9 F _ _ _ hI (pa1) hpa1) hw_2_208 hmJ0_checkIndex_df160 ⟨rfl, rfl⟩ (na := 2) rfl (by decide +kernel) (by decide) hK hP hD hS hA (zSS_c (Rs := zMRs) (t9 := t9) (fun _ _ _ => zMRs_c)) (zSS_w (Rs := zMRs) (t9 := t9) (fun _ _ _ => zMRs_w) hN hsz hS) hl.1 rfl (Nat.le_of_ble_eq_true rfl) ⟨Nat.zero_le _, Nat.zero_le _⟩ dJ1_charAt_3b067_3 (fun I_1 R_1 J_1 H locs hp_1 hP hD hS _ _ => ?_)
  cases hp_1
  refine lv_aload_n hx hb dJ1_charAt_3b067_6 rfl (lv_at hl 0 rfl) ?_
  refine lv_iload_n hx hb dJ1_charAt_3b067_7 rfl (lv_at hl 1 rfl) ?_
  refine va_tb hx hb (hZ.1.1 2 (by decide)).2.2.2 hS (zR_vin hpa1 (by decide)) (v := .int ((zByt.getD 2 []).getD (pa1).toNatClampNeg 0)) rfl dJ1_charAt_3b067_8 ?_
  refine lv_sipush (v := nI 255) hx hb dJ1_charAt_3b067_9 (by decide +kernel) ?_
  refine lv_iand hx hb dJ1_charAt_3b067_12 ?_
  refine lv_i2c (v := ((((zByt.getD 2 []).getD (pa1).toNatClampNeg 0) &&& (nI 255)).toUInt32 % 65536).toInt32) hx hb dJ1_charAt_3b067_13 rfl ?_
  exact z_zret (v := ((((zByt.getD 2 []).getD (pa1).toNatClampNeg 0) &&& (nI 255)).toUInt32 % 65536).toInt32) hx hb hr hlocks hP hD hS (zR_char (zR_i2c _)) dJ1_charAt_3b067_14 ⟨⟨rfl, (zR_i2c _)⟩, rfl⟩
set_option maxHeartbeats 4000000 in
set_option maxRecDepth 100000 in
theorem mk_J0_charAt_5068e_18 (l : Launch) (D : va_G) (q : Nat → Nat) (cA : Nat → ClassId) (ad av : Nat → Nat) (t9 : Nat) (F : Nat → Nat → Int32) (I R : Nat → Nat → Int32) (J : Nat → Nat → Int64) (hI : mInv F (I, R, J)) (pa0 : Int32) (hpa0 : zR 0 4 pa0) : zNi (zSS zMRs 25 q ad av t9) l D vwCl (zMtys cA) 25 q (zMd q cA) yJ0_charAt_5068e cJ0_charAt_5068e 2 (some .char) ({ frames := 3, cells := 0, slots := 0, locals := 64 } : Room) [.ref (ad 2), .int (pa0)] (I, R, J) (fun r u => (r = zch 2 (pa0).toNatClampNeg ∧ zR 0 65535 r) ∧ u = (I, R, J)) := by
  intro sz
  refine z_bodyN (by decide +kernel) (Nat.le_of_ble_eq_true rfl) (fun p e s m below meth c ls hx hb hml hr ht hown hlocks hsz hK hP hD hS hN hl => ?_)
  have hA : ∀ a, s.heap.size ≤ a → zA 25 q sz a := fun a h => Or.inr (hsz ▸ h)
  have hl : lv_has ls 2 [(0, .ref (ad 2)), (1, .int (pa0))] := hl
  have hZ : zSz zMRs 25 q ad av t9 sz s := hsz ▸ hN
  refine lv_aload_n hx hb dJ0_charAt_5068e_0 rfl (lv_at hl 0 rfl) ?_
  refine z_cNXi (As := []) (rest := []) hx hb hml hown ht (mk_J0_isLatin1_aae02_9 l D q cA ad av t9 F _ _ _ hI ) hw_2_201 hmJ0_isLatin1_aae02 ⟨rfl, rfl⟩ (na := 0) rfl (by decide +kernel) (by decide) (vk_recv hZ.1 (by decide) hS) hK hP hD hS hA (zSS_c (Rs := zMRs) (t9 := t9) (fun _ _ _ => zMRs_c)) (zSS_w (Rs := zMRs) (t9 := t9) (fun _ _ _ => zMRs_w) hN hsz hS) hl.1 rfl (Nat.le_of_ble_eq_true rfl) ⟨Nat.zero_le _, Nat.zero_le _⟩ dJ0_charAt_5068e_1 (fun r_1 I_1 R_1 J_1 H locs hp_1 hP hD hS _ _ => ?_)
  obtain ⟨rfl, hu_1⟩ := hp_1
  cases hu_1
  refine lv_if_eq (tgt := 16) hx hb dJ0_charAt_5068e_4 (by decide) (fun c_0 => absurd c_0 (zD_ne zk_1 zk_z (by decide))) (fun _ => ?_)
  refine lv_aload_n hx hb dJ0_charAt_5068e_7 rfl (lv_at hl 0 rfl) ?_
  refine vk_getf hx hb (hZ.1.1 2 (by decide)).2.2.1 hS hown (ht _ hw_8_164) (fun _ h => h) dJ0_charAt_5068e_8 ?_
  refine lv_iload_n hx hb dJ0_charAt_5068e_11 rfl (lv_at hl 1 rfl) ?_
  refine z_cNSi (As := [.ref (av 2), .int (pa0)]) (rest := []) hx hb hml hown ht (mk_J1_charAt_3b067_18 l D q cA ad av t9 F _ _ _ hI (pa0) hpa0) hw_2_205 hmJ1_charAt_3b067 ⟨rfl, rfl⟩ (na := 2) rfl (by decide +kernel) (by decide) hK hP hD hS hA (zSS_c (Rs := zMRs) (t9 := t9) (fun _ _ _ => zMRs_c)) (zSS_w (Rs := zMRs) (t9 := t9) (fun _ _ _ => zMRs_w) hN hsz hS) hl.1 rfl (Nat.le_of_ble_eq_true rfl) ⟨Nat.zero_le _, Nat.zero_le _⟩ dJ0_charAt_5068e_12 (fun r_2 I_2 R_2 J_2 H locs hp_2 hP hD hS _ _ => ?_)
  obtain ⟨⟨rfl, hr_2⟩, hu_2⟩ := hp_2
  cases hu_2
  exact z_zret (v := zch 2 (pa0).toNatClampNeg) hx hb hr hlocks hP hD hS (zR_char hr_2) dJ0_charAt_5068e_15 ⟨⟨rfl, hr_2⟩, rfl⟩
set_option maxHeartbeats 4000000 in
set_option maxRecDepth 100000 in
theorem mk_X11_is_9 (l : Launch) (D : va_G) (q : Nat → Nat) (cA : Nat → ClassId) (ad av : Nat → Nat) (t9 : Nat) (F : Nat → Nat → Int32) (I R : Nat → Nat → Int32) (J : Nat → Nat → Int64) (hI : mInv F (I, R, J))  : zNi (zSS zMRs 25 q ad av t9) l D vwCl (zMtys cA) 25 q (zMd q cA) yX11_is cX11_is 4 (some .boolean) ({ frames := 4, cells := 0, slots := 0, locals := 85 } : Room) [.ref (q 0), .ref (ad 2)] (I, R, J) (fun r u => (r = nI 1 ∧ u = (I, R, J) ∧ mIs 2 I R) ∨ (r = nI 0 ∧ u = (I, R, J) ∧ ¬ mIs 2 I R)) := by
  intro sz
  refine z_bodyN (by decide +kernel) (Nat.le_of_ble_eq_true rfl) (fun p e s m below meth c ls hx hb hml hr ht hown hlocks hsz hK hP hD hS hN hl => ?_)
  have hA : ∀ a, s.heap.size ≤ a → zA 25 q sz a := fun a h => Or.inr (hsz ▸ h)
  have hl : lv_has ls 4 [(0, .ref (q 0)), (1, .ref (ad 2))] := hl
  have hZ : zSz zMRs 25 q ad av t9 sz s := hsz ▸ hN
  refine lv_aload_n hx hb dX11_is_0 rfl (lv_at hl 0 rfl) ?_
  refine z_callVi (k := 0) (As := []) (rest := []) hx hb hml hown ht (mk_X11_good l D q cA F _ _ _ hI ) hw_6_123 hmX11_good ⟨rfl, rfl⟩ (na := 0) rfl (by decide +kernel) (by decide) (by decide) rfl rfl hK hP hD hS hA hl.1 rfl (Nat.le_of_ble_eq_true rfl) ⟨Nat.zero_le _, Nat.zero_le _⟩ dX11_is_1 (fun r_1 I_1 R_1 J_1 H locs hp_1 hP hD hS _ _ => ?_)
  rcases hp_1 with ⟨rfl, hu_1, nn_1⟩ | ⟨rfl, hu_1, nn_1⟩
  · cases hu_1
    refine lv_if_eq (tgt := 35) hx hb dX11_is_4 (by decide) (fun c_0 => absurd c_0 (zD_ne zk_1 zk_z (by decide))) (fun _ => ?_)
    refine lv_aload_n hx hb dX11_is_7 rfl (lv_at hl 0 rfl) ?_
    refine z_get hx hb ht hown hK hP ziX11 rfl 0 (by decide) 10 (by decide) hw_5_197 rfl (v := .int (I 0 10)) rfl dX11_is_8 ?_
    refine lv_iconst (v := nI 1) hx hb dX11_is_11 (by decide +kernel) ?_
    refine lv_icmp_ne (tgt := 35) hx hb dX11_is_12 (by decide) (fun c_2 => ?_) (fun c_2 => ?_)
    · have t_c_2 := z_eqF c_2
      refine lv_iconst (v := nI 0) hx hb dX11_is_35 (by decide +kernel) ?_
      refine lv_istore_n (lv' := [(2, .int (nI 0)), (0, .ref (q 0)), (1, .ref (ad 2))]) hx hb dX11_is_36 rfl hl (by decide) rfl (fun ls hl => ?_)
      refine lv_iconst (v := nI 0) hx hb dX11_is_37 (by decide +kernel) ?_
      refine lv_istore_n (lv' := [(3, .int (nI 0)), (2, .int (nI 0)), (0, .ref (q 0)), (1, .ref (ad 2))]) hx hb dX11_is_38 rfl hl (by decide) rfl (fun ls hl => ?_)
      refine lv_iload_n hx hb dX11_is_39 rfl (lv_at hl 0 rfl) ?_
      refine lv_aload_n hx hb dX11_is_40 rfl (lv_at hl 3 rfl) ?_
      refine z_cNXi (As := []) (rest := [.int (nI 0)]) hx hb hml hown ht (mk_J0_length_8abf5_9 l D q cA ad av t9 F _ _ _ hI ) hw_6_144 hmJ0_length_8abf5 ⟨rfl, rfl⟩ (na := 0) rfl (by decide +kernel) (by decide) (vk_recv hZ.1 (by decide) hS) hK hP hD hS hA (zSS_c (Rs := zMRs) (t9 := t9) (fun _ _ _ => zMRs_c)) (zSS_w (Rs := zMRs) (t9 := t9) (fun _ _ _ => zMRs_w) hN hsz hS) hl.1 rfl (Nat.le_of_ble_eq_true rfl) ⟨Nat.zero_le _, Nat.zero_le _⟩ dX11_is_41 (fun r_5 I_5 R_5 J_5 H locs hp_5 hP hD hS _ _ => ?_)
      obtain ⟨rfl, hu_5⟩ := hp_5
      cases hu_5
      refine lv_icmp_ge (tgt := 82) hx hb dX11_is_44 (by decide) (fun c_0 => absurd c_0 (zD_nle zk_5 zk_0 (by decide))) (fun _ => ?_)
      refine lv_iload_n hx hb dX11_is_47 rfl (lv_at hl 1 rfl) ?_
      refine lv_if_eq (tgt := 82) hx hb dX11_is_48 (by decide) (fun _ => ?_) (fun c_0 => absurd (zD_eq zk_0 zk_z) c_0)
      refine lv_iload_n hx hb dX11_is_82 rfl (lv_at hl 1 rfl) ?_
      exact z_zret (v := nI 0) hx hb hr hlocks hP hD hS (by decide +kernel) dX11_is_83 (Or.inr ⟨rfl, rfl, (mIs_n2 t_c_2)⟩)
    · have t_c_2 := z_eqT c_2
      have f_6 : zR 1 1 (I 0 10) := zR_eqx t_c_2 zk_1
      refine lv_aload_n hx hb dX11_is_15 rfl (lv_at hl 0 rfl) ?_
      refine z_get hx hb ht hown hK hP ziX11 rfl 0 (by decide) 8 (by decide) hw_5_195 rfl (v := .int (I 0 8)) rfl dX11_is_16 ?_
      have f_7 : zR 0 800 (I 0 8) := mI hI 0 8
      refine lv_aload_n hx hb dX11_is_19 rfl (lv_at hl 0 rfl) ?_
      refine z_get hx hb ht hown hK hP ziX11 rfl 0 (by decide) 9 (by decide) hw_5_196 rfl (v := .int (I 0 9)) rfl dX11_is_20 ?_
      have f_8 : zR 0 800 (I 0 9) := mI hI 0 9
      refine lv_isub hx hb dX11_is_23 ?_
      refine lv_topi (fun v_9 ev_9 => ?_)
      have hv_9 : zR (-800) 800 v_9 := ev_9 ▸ zR_sub f_7 f_8 (by decide)
      refine lv_aload_n hx hb dX11_is_24 rfl (lv_at hl 1 rfl) ?_
      refine z_cNXi (As := []) (rest := [.int (v_9)]) hx hb hml hown ht (mk_J0_length_8abf5_9 l D q cA ad av t9 F _ _ _ hI ) hw_6_144 hmJ0_length_8abf5 ⟨rfl, rfl⟩ (na := 0) rfl (by decide +kernel) (by decide) (vk_recv hZ.1 (by decide) hS) hK hP hD hS hA (zSS_c (Rs := zMRs) (t9 := t9) (fun _ _ _ => zMRs_c)) (zSS_w (Rs := zMRs) (t9 := t9) (fun _ _ _ => zMRs_w) hN hsz hS) hl.1 rfl (Nat.le_of_ble_eq_true rfl) ⟨Nat.zero_le _, Nat.zero_le _⟩ dX11_is_25 (fun r_10 I_10 R_10 J_10 H locs hp_10 hP hD hS _ _ => ?_)
      obtain ⟨rfl, hu_10⟩ := hp_10
      cases hu_10
      refine lv_icmp_ne (tgt := 35) hx hb dX11_is_28 (by decide) (fun c_11 => ?_) (fun c_11 => ?_)
      · have t_c_11 := z_eqF c_11
        refine lv_iconst (v := nI 0) hx hb dX11_is_35 (by decide +kernel) ?_
        refine lv_istore_n (lv' := [(2, .int (nI 0)), (0, .ref (q 0)), (1, .ref (ad 2))]) hx hb dX11_is_36 rfl hl (by decide) rfl (fun ls hl => ?_)
        refine lv_iconst (v := nI 0) hx hb dX11_is_37 (by decide +kernel) ?_
        refine lv_istore_n (lv' := [(3, .int (nI 0)), (2, .int (nI 0)), (0, .ref (q 0)), (1, .ref (ad 2))]) hx hb dX11_is_38 rfl hl (by decide) rfl (fun ls hl => ?_)
        refine lv_iload_n hx hb dX11_is_39 rfl (lv_at hl 0 rfl) ?_
        refine lv_aload_n hx hb dX11_is_40 rfl (lv_at hl 3 rfl) ?_
        refine z_cNXi (As := []) (rest := [.int (nI 0)]) hx hb hml hown ht (mk_J0_length_8abf5_9 l D q cA ad av t9 F _ _ _ hI ) hw_6_144 hmJ0_length_8abf5 ⟨rfl, rfl⟩ (na := 0) rfl (by decide +kernel) (by decide) (vk_recv hZ.1 (by decide) hS) hK hP hD hS hA (zSS_c (Rs := zMRs) (t9 := t9) (fun _ _ _ => zMRs_c)) (zSS_w (Rs := zMRs) (t9 := t9) (fun _ _ _ => zMRs_w) hN hsz hS) hl.1 rfl (Nat.le_of_ble_eq_true rfl) ⟨Nat.zero_le _, Nat.zero_le _⟩ dX11_is_41 (fun r_14 I_14 R_14 J_14 H locs hp_14 hP hD hS _ _ => ?_)
        obtain ⟨rfl, hu_14⟩ := hp_14
        cases hu_14
        refine lv_icmp_ge (tgt := 82) hx hb dX11_is_44 (by decide) (fun c_0 => absurd c_0 (zD_nle zk_5 zk_0 (by decide))) (fun _ => ?_)
        refine lv_iload_n hx hb dX11_is_47 rfl (lv_at hl 1 rfl) ?_
        refine lv_if_eq (tgt := 82) hx hb dX11_is_48 (by decide) (fun _ => ?_) (fun c_0 => absurd (zD_eq zk_0 zk_z) c_0)
        refine lv_iload_n hx hb dX11_is_82 rfl (lv_at hl 1 rfl) ?_
        exact z_zret (v := nI 0) hx hb hr hlocks hP hD hS (by decide +kernel) dX11_is_83 (Or.inr ⟨rfl, rfl, (mIs_n3 ev_9 t_c_11)⟩)
      · have t_c_11 := z_eqT c_11
        have f_15 : zR 5 5 (v_9) := zR_eqx t_c_11 zk_5
        have f_16 : zR 0 795 (I 0 9) := z_start f_7 f_8 ev_9 f_15 (by decide)
        refine lv_iconst (v := nI 1) hx hb dX11_is_31 (by decide +kernel) ?_
        refine lv_goto (tgt := 36) hx hb dX11_is_32 (by decide) ?_
        refine lv_istore_n (lv' := [(2, .int (nI 1)), (0, .ref (q 0)), (1, .ref (ad 2))]) hx hb dX11_is_36 rfl hl (by decide) rfl (fun ls hl => ?_)
        refine lv_iconst (v := nI 0) hx hb dX11_is_37 (by decide +kernel) ?_
        refine lv_istore_n (lv' := [(3, .int (nI 0)), (2, .int (nI 1)), (0, .ref (q 0)), (1, .ref (ad 2))]) hx hb dX11_is_38 rfl hl (by decide) rfl (fun ls hl => ?_)
        have loop_71 : ∀ N : Nat, ∀ x_68 : Int32, zR 0 1 x_68 → ∀ x_69 : Int32, zR 0 5 x_69 → (mIsL 2 I R (x_69) (x_68)) → (2147483648 - (x_69).toInt).toNat < N → ∀ (H : Heap) (locs : List Loc), va_P D vwCl (zw 25 q (zMd q cA) I R J) H → va_D (zA 25 q sz) (zw 25 q (zMd q cA) I R J) → va_S (zA 25 q sz) s.heap H locs → ∀ ls : Array Slot, lv_has ls 4 [(0, .ref (q 0)), (1, .ref (ad 2)), (2, .int (x_68)), (3, .int (x_69))] → W p l e ({ frames := 4, cells := 0, slots := 0, locals := 85 } : Room) s m ([.ref (q 0), .ref (ad 2)] : List Value).toArray below meth c H locs 0 0 (MQ below (va_Qi (fun r u => (r = nI 1 ∧ u = (I, R, J) ∧ mIs 2 I R) ∨ (r = nI 0 ∧ u = (I, R, J) ∧ ¬ mIs 2 I R)) (zB D vwCl 25 q (zMd q cA) sz) (zA 25 q sz)) ([.ref (q 0), .ref (ad 2)] : List Value).toArray s 0 0 (zA 25 q sz)) (F0 m 39 ls []) := by
          intro N
          induction N with
          | zero => intro x_68 hx_68 x_69 hx_69 hx_70 hN; exact absurd hN (Nat.not_lt_zero _)
          | succ N ih_73 =>
            intro x_68 hx_68 x_69 hx_69 hx_70 hN_72 H locs hP hD hS ls hl
            refine lv_iload_n hx hb dX11_is_39 rfl (lv_at hl 3 rfl) ?_
            refine lv_aload_n hx hb dX11_is_40 rfl (lv_at hl 1 rfl) ?_
            refine z_cNXi (As := []) (rest := [.int (x_69)]) hx hb hml hown ht (mk_J0_length_8abf5_9 l D q cA ad av t9 F _ _ _ hI ) hw_6_144 hmJ0_length_8abf5 ⟨rfl, rfl⟩ (na := 0) rfl (by decide +kernel) (by decide) (vk_recv hZ.1 (by decide) hS) hK hP hD hS hA (zSS_c (Rs := zMRs) (t9 := t9) (fun _ _ _ => zMRs_c)) (zSS_w (Rs := zMRs) (t9 := t9) (fun _ _ _ => zMRs_w) hN hsz hS) hl.1 rfl (Nat.le_of_ble_eq_true rfl) ⟨Nat.zero_le _, Nat.zero_le _⟩ dX11_is_41 (fun r_74 I_74 R_74 J_74 H locs hp_74 hP hD hS _ _ => ?_)
            obtain ⟨rfl, hu_74⟩ := hp_74
            cases hu_74
            refine lv_icmp_ge (tgt := 82) hx hb dX11_is_44 (by decide) (fun c_75 => ?_) (fun c_75 => ?_)
            · have t_c_75 := z_leT c_75
              have f_76 : zR 5 5 (x_69) := zR_ley t_c_75 zk_5 hx_69 (by decide)
              refine lv_iload_n hx hb dX11_is_82 rfl (lv_at hl 2 rfl) ?_
              exact z_zret (v := x_68) hx hb hr hlocks hP hD hS (zR_bool (a := 0) (b := 1) hx_68 (by decide)).1 dX11_is_83 (mIs_r1 hx_70 hx_68 t_c_75)
            · have t_c_75 := z_leF c_75
              have f_77 : zR 0 4 (x_69) := zR_ltx t_c_75 hx_69 zk_5 (by decide)
              refine lv_iload_n hx hb dX11_is_47 rfl (lv_at hl 2 rfl) ?_
              refine lv_if_eq (tgt := 82) hx hb dX11_is_48 (by decide) (fun c_78 => ?_) (fun c_78 => ?_)
              · have t_c_78 := z_eqT c_78
                have f_79 : zR 0 0 (x_68) := zR_eqx t_c_78 zk_z
                refine lv_iload_n hx hb dX11_is_82 rfl (lv_at hl 2 rfl) ?_
                exact z_zret (v := x_68) hx hb hr hlocks hP hD hS (zR_bool (a := 0) (b := 1) (zR_w f_79 (by decide)) (by decide)).1 dX11_is_83 (mIs_r0 hx_70 f_79)
              · have t_c_78 := z_eqF c_78
                have f_80 : zR 1 1 (x_68) := zR_nex t_c_78 hx_68 zk_z (by decide)
                refine lv_aload_n hx hb dX11_is_51 rfl (lv_at hl 0 rfl) ?_
                refine z_get hx hb ht hown hK hP ziX11 rfl 0 (by decide) 4 (by decide) hw_5_191 rfl (v := .ref (q 4)) rfl dX11_is_52 ?_
                refine lv_aload_n hx hb dX11_is_55 rfl (lv_at hl 0 rfl) ?_
                refine z_get hx hb ht hown hK hP ziX11 rfl 0 (by decide) 9 (by decide) hw_5_196 rfl (v := .int (I 0 9)) rfl dX11_is_56 ?_
                refine lv_iload_n hx hb dX11_is_59 rfl (lv_at hl 3 rfl) ?_
                refine lv_iadd hx hb dX11_is_60 ?_
                refine lv_topi (fun v_81 ev_81 => ?_)
                have hv_81 : zR 0 799 v_81 := ev_81 ▸ zR_add f_16 f_77 (by decide)
                refine z_bald hx hb hK hP 4 (by decide) 3 rfl rfl (zR_vin hv_81 (by decide)) dX11_is_61 ?_
                refine z_eqi (y := R 4 (v_81).toNatClampNeg) rfl ?_
                refine lv_aload_n hx hb dX11_is_62 rfl (lv_at hl 1 rfl) ?_
                refine lv_iload_n hx hb dX11_is_63 rfl (lv_at hl 3 rfl) ?_
                refine z_cNXi (As := [.int (x_69)]) (rest := [.int (R 4 (v_81).toNatClampNeg)]) hx hb hml hown ht (mk_J0_charAt_5068e_18 l D q cA ad av t9 F _ _ _ hI (x_69) f_77) hw_6_145 hmJ0_charAt_5068e ⟨rfl, rfl⟩ (na := 1) rfl (by decide +kernel) (by decide) (vk_recv hZ.1 (by decide) hS) hK hP hD hS hA (zSS_c (Rs := zMRs) (t9 := t9) (fun _ _ _ => zMRs_c)) (zSS_w (Rs := zMRs) (t9 := t9) (fun _ _ _ => zMRs_w) hN hsz hS) hl.1 rfl (Nat.le_of_ble_eq_true rfl) ⟨Nat.zero_le _, Nat.zero_le _⟩ dX11_is_64 (fun r_82 I_82 R_82 J_82 H locs hp_82 hP hD hS _ _ => ?_)
                obtain ⟨⟨rfl, hr_82⟩, hu_82⟩ := hp_82
                cases hu_82
                refine lv_icmp_ne (tgt := 74) hx hb dX11_is_67 (by decide) (fun c_83 => ?_) (fun c_83 => ?_)
                · have t_c_83 := z_eqF c_83
                  refine lv_iconst (v := nI 0) hx hb dX11_is_74 (by decide +kernel) ?_
                  refine lv_istore_n (lv' := [(2, .int (nI 0)), (0, .ref (q 0)), (1, .ref (ad 2)), (3, .int (x_69))]) hx hb dX11_is_75 rfl hl (by decide) rfl (fun ls hl => ?_)
                  obtain ⟨v_84, ev_84⟩ : ∃ y : Int32, y = x_69 + nI 1 := ⟨_, rfl⟩
                  have hv_84 : zR 1 5 v_84 := ev_84 ▸ zR_add f_77 zk_1 (by decide)
                  have mv_84 : v_84.toInt = (x_69).toInt + 1 := by rw [ev_84, zR_addE f_77 zk_1 (by decide)]; rfl
                  refine lv_iinc (v := v_84) (lv' := [(3, .int (v_84)), (2, .int (nI 0)), (0, .ref (q 0)), (1, .ref (ad 2))]) hx hb dX11_is_76 hl (k := 3) rfl (ev_84 ▸ rfl) (by decide) rfl (fun ls hl => ?_)
                  refine lv_goto (tgt := 39) hx hb dX11_is_79 (by decide) ?_
                  exact ih_73 (nI 0) (zR_w zk_0 (by decide)) (v_84) (zR_w hv_84 (by decide)) (mIsL_n hx_70 f_80 t_c_75 t_c_83 (mIs_ix (zR_w f_16 (by decide)) (zR_w f_77 (by decide)) ev_81)) (z2_up mv_84 (by decide) hN_72) _ _ hP hD hS _ (lv_sub hl [2, 3, 1, 0] rfl)
                · have t_c_83 := z_eqT c_83
                  have f_85 : zR 0 65535 (R 4 (v_81).toNatClampNeg) := zR_eqx t_c_83 hr_82
                  refine lv_iconst (v := nI 1) hx hb dX11_is_70 (by decide +kernel) ?_
                  refine lv_goto (tgt := 75) hx hb dX11_is_71 (by decide) ?_
                  refine lv_istore_n (lv' := [(2, .int (nI 1)), (0, .ref (q 0)), (1, .ref (ad 2)), (3, .int (x_69))]) hx hb dX11_is_75 rfl hl (by decide) rfl (fun ls hl => ?_)
                  obtain ⟨v_86, ev_86⟩ : ∃ y : Int32, y = x_69 + nI 1 := ⟨_, rfl⟩
                  have hv_86 : zR 1 5 v_86 := ev_86 ▸ zR_add f_77 zk_1 (by decide)
                  have mv_86 : v_86.toInt = (x_69).toInt + 1 := by rw [ev_86, zR_addE f_77 zk_1 (by decide)]; rfl
                  refine lv_iinc (v := v_86) (lv' := [(3, .int (v_86)), (2, .int (nI 1)), (0, .ref (q 0)), (1, .ref (ad 2))]) hx hb dX11_is_76 hl (k := 3) rfl (ev_86 ▸ rfl) (by decide) rfl (fun ls hl => ?_)
                  refine lv_goto (tgt := 39) hx hb dX11_is_79 (by decide) ?_
                  exact ih_73 (nI 1) (zR_w zk_1 (by decide)) (v_86) (zR_w hv_86 (by decide)) (mIsL_1 hx_70 f_80 mv_86 t_c_83 (mIs_ix (zR_w f_16 (by decide)) (zR_w f_77 (by decide)) ev_81)) (z2_up mv_86 (by decide) hN_72) _ _ hP hD hS _ (lv_sub hl [2, 3, 1, 0] rfl)
        exact loop_71 _ (nI 1) (zR_w zk_1 (by decide)) (nI 0) (zR_w zk_0 (by decide)) (mIsL_0 (mIs_a3 nn_1 t_c_2 ev_9 f_15)) (Nat.lt_succ_self _) _ _ hP hD hS _ (lv_sub hl [2, 3, 1, 0] rfl)
  · cases hu_1
    refine lv_if_eq (tgt := 35) hx hb dX11_is_4 (by decide) (fun _ => ?_) (fun c_0 => absurd (zD_eq zk_0 zk_z) c_0)
    refine lv_iconst (v := nI 0) hx hb dX11_is_35 (by decide +kernel) ?_
    refine lv_istore_n (lv' := [(2, .int (nI 0)), (0, .ref (q 0)), (1, .ref (ad 2))]) hx hb dX11_is_36 rfl hl (by decide) rfl (fun ls hl => ?_)
    refine lv_iconst (v := nI 0) hx hb dX11_is_37 (by decide +kernel) ?_
    refine lv_istore_n (lv' := [(3, .int (nI 0)), (2, .int (nI 0)), (0, .ref (q 0)), (1, .ref (ad 2))]) hx hb dX11_is_38 rfl hl (by decide) rfl (fun ls hl => ?_)
    refine lv_iload_n hx hb dX11_is_39 rfl (lv_at hl 0 rfl) ?_
    refine lv_aload_n hx hb dX11_is_40 rfl (lv_at hl 3 rfl) ?_
    refine z_cNXi (As := []) (rest := [.int (nI 0)]) hx hb hml hown ht (mk_J0_length_8abf5_9 l D q cA ad av t9 F _ _ _ hI ) hw_6_144 hmJ0_length_8abf5 ⟨rfl, rfl⟩ (na := 0) rfl (by decide +kernel) (by decide) (vk_recv hZ.1 (by decide) hS) hK hP hD hS hA (zSS_c (Rs := zMRs) (t9 := t9) (fun _ _ _ => zMRs_c)) (zSS_w (Rs := zMRs) (t9 := t9) (fun _ _ _ => zMRs_w) hN hsz hS) hl.1 rfl (Nat.le_of_ble_eq_true rfl) ⟨Nat.zero_le _, Nat.zero_le _⟩ dX11_is_41 (fun r_89 I_89 R_89 J_89 H locs hp_89 hP hD hS _ _ => ?_)
    obtain ⟨rfl, hu_89⟩ := hp_89
    cases hu_89
    refine lv_icmp_ge (tgt := 82) hx hb dX11_is_44 (by decide) (fun c_0 => absurd c_0 (zD_nle zk_5 zk_0 (by decide))) (fun _ => ?_)
    refine lv_iload_n hx hb dX11_is_47 rfl (lv_at hl 1 rfl) ?_
    refine lv_if_eq (tgt := 82) hx hb dX11_is_48 (by decide) (fun _ => ?_) (fun c_0 => absurd (zD_eq zk_0 zk_z) c_0)
    refine lv_iload_n hx hb dX11_is_82 rfl (lv_at hl 1 rfl) ?_
    exact z_zret (v := nI 0) hx hb hr hlocks hP hD hS (by decide +kernel) dX11_is_83 (Or.inr ⟨rfl, rfl, (mIs_n1 nn_1)⟩)
set_option maxHeartbeats 4000000 in
set_option maxRecDepth 100000 in
theorem mk_X11_takes_8 (l : Launch) (D : va_G) (q : Nat → Nat) (cA : Nat → ClassId) (ad av : Nat → Nat) (t9 : Nat) (F : Nat → Nat → Int32) (I R : Nat → Nat → Int32) (J : Nat → Nat → Int64) (hI : mInv F (I, R, J))  : zNi (zSS zMRs 25 q ad av t9) l D vwCl (zMtys cA) 25 q (zMd q cA) yX11_takes cX11_takes 3 (some .boolean) ({ frames := 5, cells := 0, slots := 0, locals := 108 } : Room) [.ref (q 0), .ref (ad 2)] (I, R, J) (fun r u => (r = nI 1 ∧ ((mInv F u ∧ (∀ k, k ≠ 0 → u.1 k = I k) ∧ u.2 = (R, J)) ∧ mTr I u.1) ∧ mIs 2 I R) ∨ (r = nI 0 ∧ u = (I, R, J) ∧ ¬ mIs 2 I R)) := by
  intro sz
  refine z_bodyN (by decide +kernel) (Nat.le_of_ble_eq_true rfl) (fun p e s m below meth c ls hx hb hml hr ht hown hlocks hsz hK hP hD hS hN hl => ?_)
  have hA : ∀ a, s.heap.size ≤ a → zA 25 q sz a := fun a h => Or.inr (hsz ▸ h)
  have hl : lv_has ls 3 [(0, .ref (q 0)), (1, .ref (ad 2))] := hl
  have hZ : zSz zMRs 25 q ad av t9 sz s := hsz ▸ hN
  refine lv_aload_n hx hb dX11_takes_0 rfl (lv_at hl 0 rfl) ?_
  refine lv_aload_n hx hb dX11_takes_1 rfl (lv_at hl 1 rfl) ?_
  refine z_cNVi (k := 0) (As := [.ref (ad 2)]) (rest := []) hx hb hml hown ht (mk_X11_is_9 l D q cA ad av t9 F _ _ _ hI ) hw_6_140 hmX11_is ⟨rfl, rfl⟩ (na := 1) rfl (by decide +kernel) (by decide) (by decide) rfl rfl hK hP hD hS hA (zSS_c (Rs := zMRs) (t9 := t9) (fun _ _ _ => zMRs_c)) (zSS_w (Rs := zMRs) (t9 := t9) (fun _ _ _ => zMRs_w) hN hsz hS) hl.1 rfl (Nat.le_of_ble_eq_true rfl) ⟨Nat.zero_le _, Nat.zero_le _⟩ dX11_takes_2 (fun r_1 I_1 R_1 J_1 H locs hp_1 hP hD hS _ _ => ?_)
  rcases hp_1 with ⟨rfl, hu_1, nn_1⟩ | ⟨rfl, hu_1, nn_1⟩
  · cases hu_1
    refine lv_istore_n (lv' := [(2, .int (nI 1)), (0, .ref (q 0)), (1, .ref (ad 2))]) hx hb dX11_takes_5 rfl hl (by decide) rfl (fun ls hl => ?_)
    refine lv_iload_n hx hb dX11_takes_6 rfl (lv_at hl 0 rfl) ?_
    refine lv_if_eq (tgt := 14) hx hb dX11_takes_7 (by decide) (fun c_0 => absurd c_0 (zD_ne zk_1 zk_z (by decide))) (fun _ => ?_)
    refine lv_aload_n hx hb dX11_takes_10 rfl (lv_at hl 1 rfl) ?_
    refine z_callVv (k := 0) (As := []) (rest := []) hx hb hml hown ht (mk_X11_advance l D q cA F _ _ _ hI ) hw_6_109 hmX11_advance ⟨rfl, rfl⟩ (na := 0) rfl (by decide +kernel) (by decide) (by decide) rfl rfl hK hP hD hS hA hl.1 rfl (Nat.le_of_ble_eq_true rfl) ⟨Nat.zero_le _, Nat.zero_le _⟩ dX11_takes_11 (fun I_2 R_2 J_2 H locs hp_2 hP hD hS _ _ => ?_)
    obtain ⟨hq_2, he_2⟩ := hp_2
    try dsimp only at he_2
    obtain ⟨hv_2, hk_2, hj_2⟩ := hq_2
    try dsimp only at hj_2 hk_2
    cases hj_2
    have hf_3 : ∀ k, k ≠ 0 → I_2 k = I k := fun k h => (hk_2 k h).trans ((fun (_ : Nat) _ => rfl) k h)
    refine lv_iload_n hx hb dX11_takes_14 rfl (lv_at hl 0 rfl) ?_
    exact z_zret (v := nI 1) hx hb hr hlocks hP hD hS (by decide +kernel) dX11_takes_15 (Or.inl ⟨rfl, ⟨⟨hv_2, hf_3, rfl⟩, he_2⟩, nn_1⟩)
  · cases hu_1
    refine lv_istore_n (lv' := [(2, .int (nI 0)), (0, .ref (q 0)), (1, .ref (ad 2))]) hx hb dX11_takes_5 rfl hl (by decide) rfl (fun ls hl => ?_)
    refine lv_iload_n hx hb dX11_takes_6 rfl (lv_at hl 0 rfl) ?_
    refine lv_if_eq (tgt := 14) hx hb dX11_takes_7 (by decide) (fun _ => ?_) (fun c_0 => absurd (zD_eq zk_0 zk_z) c_0)
    refine lv_iload_n hx hb dX11_takes_14 rfl (lv_at hl 0 rfl) ?_
    exact z_zret (v := nI 0) hx hb hr hlocks hP hD hS (by decide +kernel) dX11_takes_15 (Or.inr ⟨rfl, rfl, nn_1⟩)
set_option maxHeartbeats 4000000 in
set_option maxRecDepth 100000 in
theorem mk_X11_needs_5 (l : Launch) (D : va_G) (q : Nat → Nat) (cA : Nat → ClassId) (ad av : Nat → Nat) (t9 : Nat) (F : Nat → Nat → Int32) (I R : Nat → Nat → Int32) (J : Nat → Nat → Int64) (hI : mInv F (I, R, J))  : zNv (zSS zMRs 25 q ad av t9) l D vwCl (zMtys cA) 25 q (zMd q cA) yX11_needs cX11_needs 2 none ({ frames := 6, cells := 0, slots := 0, locals := 130 } : Room) [.ref (q 0), .ref (ad 2)] (I, R, J) (fun u => (mInv F u ∧ (∀ k, k ≠ 0 → u.1 k = I k) ∧ u.2 = (R, J)) ∧ mTr I u.1) := by
  intro sz
  refine z_bodyN (by decide +kernel) (Nat.le_of_ble_eq_true rfl) (fun p e s m below meth c ls hx hb hml hr ht hown hlocks hsz hK hP hD hS hN hl => ?_)
  have hA : ∀ a, s.heap.size ≤ a → zA 25 q sz a := fun a h => Or.inr (hsz ▸ h)
  have hl : lv_has ls 2 [(0, .ref (q 0)), (1, .ref (ad 2))] := hl
  have hZ : zSz zMRs 25 q ad av t9 sz s := hsz ▸ hN
  refine lv_aload_n hx hb dX11_needs_0 rfl (lv_at hl 0 rfl) ?_
  refine lv_aload_n hx hb dX11_needs_1 rfl (lv_at hl 1 rfl) ?_
  refine z_cNVi (k := 0) (As := [.ref (ad 2)]) (rest := []) hx hb hml hown ht (mk_X11_takes_8 l D q cA ad av t9 F _ _ _ hI ) hw_6_136 hmX11_takes ⟨rfl, rfl⟩ (na := 1) rfl (by decide +kernel) (by decide) (by decide) rfl rfl hK hP hD hS hA (zSS_c (Rs := zMRs) (t9 := t9) (fun _ _ _ => zMRs_c)) (zSS_w (Rs := zMRs) (t9 := t9) (fun _ _ _ => zMRs_w) hN hsz hS) hl.1 rfl (Nat.le_of_ble_eq_true rfl) ⟨Nat.zero_le _, Nat.zero_le _⟩ dX11_needs_2 (fun r_1 I_1 R_1 J_1 H locs hp_1 hP hD hS _ _ => ?_)
  rcases hp_1 with ⟨rfl, hu_1, nn_1⟩ | ⟨rfl, hu_1, nn_1⟩
  · obtain ⟨hq_1, he_1⟩ := hu_1
    try dsimp only at he_1
    obtain ⟨hv_1, hk_1, hj_1⟩ := hq_1
    try dsimp only at hj_1 hk_1
    cases hj_1
    have hf_2 : ∀ k, k ≠ 0 → I_1 k = I k := fun k h => (hk_1 k h).trans ((fun (_ : Nat) _ => rfl) k h)
    refine lv_if_ne (tgt := 13) hx hb dX11_needs_5 (by decide) (fun _ => ?_) (fun c_0 => absurd c_0 (zD_ne zk_1 zk_z (by decide)))
    exact z_vret hx hb hr hlocks hP hD hS dX11_needs_13 ⟨⟨hv_1, hf_2, rfl⟩, he_1⟩
  · cases hu_1
    refine lv_if_ne (tgt := 13) hx hb dX11_needs_5 (by decide) (fun c_0 => absurd (zD_eq zk_0 zk_z) c_0) (fun _ => ?_)
    refine lv_aload_n hx hb dX11_needs_8 rfl (lv_at hl 0 rfl) ?_
    refine lv_iconst (v := nI 1) hx hb dX11_needs_9 (by decide +kernel) ?_
    refine z_callVv (k := 0) (As := [.int (nI 1)]) (rest := []) hx hb hml hown ht (mk_X11_errs l D q cA F _ _ _ hI ) hw_6_146 hmX11_errs ⟨rfl, rfl⟩ (na := 1) rfl (by decide +kernel) (by decide) (by decide) rfl rfl hK hP hD hS hA hl.1 rfl (Nat.le_of_ble_eq_true rfl) ⟨Nat.zero_le _, Nat.zero_le _⟩ dX11_needs_10 (fun I_3 R_3 J_3 H locs hp_3 hP hD hS _ _ => ?_)
    obtain ⟨hq_3, he_3⟩ := hp_3
    obtain ⟨hv_3, hk_3, hj_3⟩ := hq_3
    try dsimp only at hj_3 hk_3
    cases hj_3
    have hf_4 : ∀ k, k ≠ 0 → I_3 k = I k := fun k h => (hk_3 k h).trans ((fun (_ : Nat) _ => rfl) k h)
    exact z_vret hx hb hr hlocks hP hD hS dX11_needs_13 ⟨⟨hv_3, hf_4, rfl⟩, (mTr_f he_3)⟩
set_option maxHeartbeats 4000000 in
set_option maxRecDepth 100000 in
theorem mk_X11_number_6 (l : Launch) (D : va_G) (q : Nat → Nat) (cA : Nat → ClassId) (F : Nat → Nat → Int32) (I R : Nat → Nat → Int32) (J : Nat → Nat → Int64) (hI : mInv F (I, R, J))  : zMi l D vwCl (zMtys cA) 25 q (zMd q cA) yX11_number cX11_number 4 (some .int) ({ frames := 2, cells := 0, slots := 0, locals := 85 } : Room) [.ref (q 0), .int (nI 1), .int (nI 6)] (I, R, J) (fun r u => ((mInv F u ∧ (∀ k, k ≠ 0 → u.1 k = I k) ∧ u.2 = (R, J)) ∧ mTr I u.1) ∧ zR 0 6 r) := by
  intro sz
  refine z_body (by decide +kernel) (Nat.le_of_ble_eq_true rfl) (fun p e s m below meth c ls hx hb hml hr ht hown hlocks hsz hK hP hD hS hl => ?_)
  have hA : ∀ a, s.heap.size ≤ a → zA 25 q sz a := fun a h => Or.inr (hsz ▸ h)
  have hl : lv_has ls 4 [(0, .ref (q 0)), (1, .int (nI 1)), (2, .int (nI 6))] := hl
  refine lv_aload_n hx hb dX11_number_0 rfl (lv_at hl 0 rfl) ?_
  refine z_callVi (k := 0) (As := []) (rest := []) hx hb hml hown ht (mk_X11_good l D q cA F _ _ _ hI ) hw_6_123 hmX11_good ⟨rfl, rfl⟩ (na := 0) rfl (by decide +kernel) (by decide) (by decide) rfl rfl hK hP hD hS hA hl.1 rfl (Nat.le_of_ble_eq_true rfl) ⟨Nat.zero_le _, Nat.zero_le _⟩ dX11_number_1 (fun r_1 I_1 R_1 J_1 H locs hp_1 hP hD hS _ _ => ?_)
  rcases hp_1 with ⟨rfl, hu_1, nn_1⟩ | ⟨rfl, hu_1, nn_1⟩
  · cases hu_1
    refine lv_if_eq (tgt := 20) hx hb dX11_number_4 (by decide) (fun c_0 => absurd c_0 (zD_ne zk_1 zk_z (by decide))) (fun _ => ?_)
    refine lv_aload_n hx hb dX11_number_7 rfl (lv_at hl 0 rfl) ?_
    refine z_get hx hb ht hown hK hP ziX11 rfl 0 (by decide) 10 (by decide) hw_5_197 rfl (v := .int (I 0 10)) rfl dX11_number_8 ?_
    refine lv_iconst (v := nI 2) hx hb dX11_number_11 (by decide +kernel) ?_
    refine lv_icmp_eq (tgt := 20) hx hb dX11_number_12 (by decide) (fun c_2 => ?_) (fun c_2 => ?_)
    · have t_c_2 := z_eqT c_2
      have f_3 : zR 2 2 (I 0 10) := zR_eqx t_c_2 zk_2
      refine lv_aload_n hx hb dX11_number_20 rfl (lv_at hl 0 rfl) ?_
      refine z_callVi (k := 0) (As := []) (rest := []) hx hb hml hown ht (mk_X11_good l D q cA F _ _ _ hI ) hw_6_123 hmX11_good ⟨rfl, rfl⟩ (na := 0) rfl (by decide +kernel) (by decide) (by decide) rfl rfl hK hP hD hS hA hl.1 rfl (Nat.le_of_ble_eq_true rfl) ⟨Nat.zero_le _, Nat.zero_le _⟩ dX11_number_21 (fun r_4 I_4 R_4 J_4 H locs hp_4 hP hD hS _ _ => ?_)
      rcases hp_4 with ⟨rfl, hu_4, nn_4⟩ | ⟨rfl, hu_4, nn_4⟩
      · cases hu_4
        refine lv_if_eq (tgt := 47) hx hb dX11_number_24 (by decide) (fun c_0 => absurd c_0 (zD_ne zk_1 zk_z (by decide))) (fun _ => ?_)
        refine lv_aload_n hx hb dX11_number_27 rfl (lv_at hl 0 rfl) ?_
        refine z_get hx hb ht hown hK hP ziX11 rfl 0 (by decide) 11 (by decide) hw_5_198 rfl (v := .int (I 0 11)) rfl dX11_number_28 ?_
        refine lv_i2l (v := (I 0 11).toInt64) hx hb dX11_number_31 rfl ?_
        refine lv_iload_n hx hb dX11_number_32 rfl (lv_at hl 1 rfl) ?_
        refine lv_i2l (v := (1 : Int64)) hx hb dX11_number_33 (by decide +kernel) ?_
        refine lv_iload_n hx hb dX11_number_34 rfl (lv_at hl 2 rfl) ?_
        refine lv_i2l (v := (6 : Int64)) hx hb dX11_number_35 (by decide +kernel) ?_
        refine z_callSi (As := [.long ((I 0 11).toInt64), .long ((1 : Int64)), .long ((6 : Int64))]) (rest := []) hx hb hml hown ht (mk_X11_in l D q cA F _ _ _ hI ((I 0 11).toInt64) ((1 : Int64)) ((6 : Int64))) hw_6_86 hmX11_in ⟨rfl, rfl⟩ (na := 3) rfl (by decide +kernel) (by decide) hK hP hD hS hA hl.1 rfl (Nat.le_of_ble_eq_true rfl) ⟨Nat.zero_le _, Nat.zero_le _⟩ dX11_number_36 (fun r_5 I_5 R_5 J_5 H locs hp_5 hP hD hS _ _ => ?_)
        rcases hp_5 with ⟨rfl, hu_5, h1_5, h2_5⟩ | ⟨rfl, hu_5, h1_5 | h2_5⟩
        · cases hu_5
          have f_6 : zL 1 2147483647 ((I 0 11).toInt64) := zL_ley h1_5 zkl_1 (zR_i2l (zR_any (I 0 11))) (by decide)
          have f_7 : zR 1 2147483647 (I 0 11) := zL_back f_6
          have f_8 : zL 1 6 ((I 0 11).toInt64) := zL_lex h2_5 f_6 zkl_6 (by decide)
          have f_9 : zR 1 6 (I 0 11) := zL_back f_8
          refine lv_if_ne (tgt := 47) hx hb dX11_number_39 (by decide) (fun _ => ?_) (fun c_0 => absurd c_0 (zD_ne zk_1 zk_z (by decide)))
          refine lv_aload_n hx hb dX11_number_47 rfl (lv_at hl 0 rfl) ?_
          refine z_callVi (k := 0) (As := []) (rest := []) hx hb hml hown ht (mk_X11_good l D q cA F _ _ _ hI ) hw_6_123 hmX11_good ⟨rfl, rfl⟩ (na := 0) rfl (by decide +kernel) (by decide) (by decide) rfl rfl hK hP hD hS hA hl.1 rfl (Nat.le_of_ble_eq_true rfl) ⟨Nat.zero_le _, Nat.zero_le _⟩ dX11_number_48 (fun r_10 I_10 R_10 J_10 H locs hp_10 hP hD hS _ _ => ?_)
          rcases hp_10 with ⟨rfl, hu_10, nn_10⟩ | ⟨rfl, hu_10, nn_10⟩
          · cases hu_10
            refine lv_if_ne (tgt := 56) hx hb dX11_number_51 (by decide) (fun _ => ?_) (fun c_0 => absurd c_0 (zD_ne zk_1 zk_z (by decide)))
            refine lv_aload_n hx hb dX11_number_56 rfl (lv_at hl 0 rfl) ?_
            refine z_get hx hb ht hown hK hP ziX11 rfl 0 (by decide) 11 (by decide) hw_5_198 rfl (v := .int (I 0 11)) rfl dX11_number_57 ?_
            refine lv_istore_n (lv' := [(3, .int (I 0 11)), (0, .ref (q 0)), (1, .int (nI 1)), (2, .int (nI 6))]) hx hb dX11_number_60 rfl hl (by decide) rfl (fun ls hl => ?_)
            refine lv_aload_n hx hb dX11_number_61 rfl (lv_at hl 1 rfl) ?_
            refine z_callVv (k := 0) (As := []) (rest := []) hx hb hml hown ht (mk_X11_advance l D q cA F _ _ _ hI ) hw_6_109 hmX11_advance ⟨rfl, rfl⟩ (na := 0) rfl (by decide +kernel) (by decide) (by decide) rfl rfl hK hP hD hS hA hl.1 rfl (Nat.le_of_ble_eq_true rfl) ⟨Nat.zero_le _, Nat.zero_le _⟩ dX11_number_62 (fun I_11 R_11 J_11 H locs hp_11 hP hD hS _ _ => ?_)
            obtain ⟨hq_11, he_11⟩ := hp_11
            try dsimp only at he_11
            obtain ⟨hv_11, hk_11, hj_11⟩ := hq_11
            try dsimp only at hj_11 hk_11
            cases hj_11
            have hf_12 : ∀ k, k ≠ 0 → I_11 k = I k := fun k h => (hk_11 k h).trans ((fun (_ : Nat) _ => rfl) k h)
            refine lv_iload_n hx hb dX11_number_65 rfl (lv_at hl 0 rfl) ?_
            exact z_iret (v := I 0 11) hx hb hr hlocks hP hD hS dX11_number_66 ⟨⟨⟨hv_11, hf_12, rfl⟩, he_11⟩, (zR_w f_9 (by decide))⟩
          · cases hu_10
            exact (zR_abs2 nn_10 nn_4 (by decide)).elim
        · cases hu_5
          have f_13 : zL (-2147483648) 0 ((I 0 11).toInt64) := zL_ltx h1_5 (zR_i2l (zR_any (I 0 11))) zkl_1 (by decide)
          have f_14 : zR (-2147483648) 0 (I 0 11) := zL_back f_13
          refine lv_if_ne (tgt := 47) hx hb dX11_number_39 (by decide) (fun c_0 => absurd (zD_eq zk_0 zk_z) c_0) (fun _ => ?_)
          refine lv_aload_n hx hb dX11_number_42 rfl (lv_at hl 0 rfl) ?_
          refine lv_iconst (v := nI 2) hx hb dX11_number_43 (by decide +kernel) ?_
          refine z_callVv (k := 0) (As := [.int (nI 2)]) (rest := []) hx hb hml hown ht (mk_X11_errs_1 l D q cA F _ _ _ hI ) hw_6_146 hmX11_errs ⟨rfl, rfl⟩ (na := 1) rfl (by decide +kernel) (by decide) (by decide) rfl rfl hK hP hD hS hA hl.1 rfl (Nat.le_of_ble_eq_true rfl) ⟨Nat.zero_le _, Nat.zero_le _⟩ dX11_number_44 (fun I_15 R_15 J_15 H locs hp_15 hP hD hS _ _ => ?_)
          obtain ⟨hq_15, he_15⟩ := hp_15
          obtain ⟨hv_15, hk_15, hj_15⟩ := hq_15
          try dsimp only at hj_15 hk_15
          cases hj_15
          have hf_16 : ∀ k, k ≠ 0 → I_15 k = I k := fun k h => (hk_15 k h).trans ((fun (_ : Nat) _ => rfl) k h)
          refine lv_aload_n hx hb dX11_number_47 rfl (lv_at hl 0 rfl) ?_
          refine z_callVi (k := 0) (As := []) (rest := []) hx hb hml hown ht (mk_X11_good l D q cA F _ _ _ hv_15 ) hw_6_123 hmX11_good ⟨rfl, rfl⟩ (na := 0) rfl (by decide +kernel) (by decide) (by decide) rfl rfl hK hP hD hS hA hl.1 rfl (Nat.le_of_ble_eq_true rfl) ⟨Nat.zero_le _, Nat.zero_le _⟩ dX11_number_48 (fun r_17 I_17 R_17 J_17 H locs hp_17 hP hD hS _ _ => ?_)
          rcases hp_17 with ⟨rfl, hu_17, nn_17⟩ | ⟨rfl, hu_17, nn_17⟩
          · cases hu_17
            exact (zR_abs2 nn_17 he_15 (by decide)).elim
          · cases hu_17
            refine lv_if_ne (tgt := 56) hx hb dX11_number_51 (by decide) (fun c_0 => absurd (zD_eq zk_0 zk_z) c_0) (fun _ => ?_)
            refine lv_iconst (v := nI 0) hx hb dX11_number_54 (by decide +kernel) ?_
            exact z_iret (v := nI 0) hx hb hr hlocks hP hD hS dX11_number_55 ⟨⟨⟨hv_15, hf_16, rfl⟩, (mTr_f he_15)⟩, (zR_w zk_0 (by decide))⟩
        · cases hu_5
          have f_18 : zL 7 2147483647 ((I 0 11).toInt64) := zL_lty h2_5 zkl_6 (zR_i2l (zR_any (I 0 11))) (by decide)
          have f_19 : zR 7 2147483647 (I 0 11) := zL_back f_18
          refine lv_if_ne (tgt := 47) hx hb dX11_number_39 (by decide) (fun c_0 => absurd (zD_eq zk_0 zk_z) c_0) (fun _ => ?_)
          refine lv_aload_n hx hb dX11_number_42 rfl (lv_at hl 0 rfl) ?_
          refine lv_iconst (v := nI 2) hx hb dX11_number_43 (by decide +kernel) ?_
          refine z_callVv (k := 0) (As := [.int (nI 2)]) (rest := []) hx hb hml hown ht (mk_X11_errs_1 l D q cA F _ _ _ hI ) hw_6_146 hmX11_errs ⟨rfl, rfl⟩ (na := 1) rfl (by decide +kernel) (by decide) (by decide) rfl rfl hK hP hD hS hA hl.1 rfl (Nat.le_of_ble_eq_true rfl) ⟨Nat.zero_le _, Nat.zero_le _⟩ dX11_number_44 (fun I_20 R_20 J_20 H locs hp_20 hP hD hS _ _ => ?_)
          obtain ⟨hq_20, he_20⟩ := hp_20
          obtain ⟨hv_20, hk_20, hj_20⟩ := hq_20
          try dsimp only at hj_20 hk_20
          cases hj_20
          have hf_21 : ∀ k, k ≠ 0 → I_20 k = I k := fun k h => (hk_20 k h).trans ((fun (_ : Nat) _ => rfl) k h)
          refine lv_aload_n hx hb dX11_number_47 rfl (lv_at hl 0 rfl) ?_
          refine z_callVi (k := 0) (As := []) (rest := []) hx hb hml hown ht (mk_X11_good l D q cA F _ _ _ hv_20 ) hw_6_123 hmX11_good ⟨rfl, rfl⟩ (na := 0) rfl (by decide +kernel) (by decide) (by decide) rfl rfl hK hP hD hS hA hl.1 rfl (Nat.le_of_ble_eq_true rfl) ⟨Nat.zero_le _, Nat.zero_le _⟩ dX11_number_48 (fun r_22 I_22 R_22 J_22 H locs hp_22 hP hD hS _ _ => ?_)
          rcases hp_22 with ⟨rfl, hu_22, nn_22⟩ | ⟨rfl, hu_22, nn_22⟩
          · cases hu_22
            exact (zR_abs2 nn_22 he_20 (by decide)).elim
          · cases hu_22
            refine lv_if_ne (tgt := 56) hx hb dX11_number_51 (by decide) (fun c_0 => absurd (zD_eq zk_0 zk_z) c_0) (fun _ => ?_)
            refine lv_iconst (v := nI 0) hx hb dX11_number_54 (by decide +kernel) ?_
            exact z_iret (v := nI 0) hx hb hr hlocks hP hD hS dX11_number_55 ⟨⟨⟨hv_20, hf_21, rfl⟩, (mTr_f he_20)⟩, (zR_w zk_0 (by decide))⟩
      · cases hu_4
        exact (zR_abs2 nn_4 nn_1 (by decide)).elim
    · have t_c_2 := z_eqF c_2
      refine lv_aload_n hx hb dX11_number_15 rfl (lv_at hl 0 rfl) ?_
      refine lv_iconst (v := nI 1) hx hb dX11_number_16 (by decide +kernel) ?_
      refine z_callVv (k := 0) (As := [.int (nI 1)]) (rest := []) hx hb hml hown ht (mk_X11_errs l D q cA F _ _ _ hI ) hw_6_146 hmX11_errs ⟨rfl, rfl⟩ (na := 1) rfl (by decide +kernel) (by decide) (by decide) rfl rfl hK hP hD hS hA hl.1 rfl (Nat.le_of_ble_eq_true rfl) ⟨Nat.zero_le _, Nat.zero_le _⟩ dX11_number_17 (fun I_23 R_23 J_23 H locs hp_23 hP hD hS _ _ => ?_)
      obtain ⟨hq_23, he_23⟩ := hp_23
      obtain ⟨hv_23, hk_23, hj_23⟩ := hq_23
      try dsimp only at hj_23 hk_23
      cases hj_23
      have hf_24 : ∀ k, k ≠ 0 → I_23 k = I k := fun k h => (hk_23 k h).trans ((fun (_ : Nat) _ => rfl) k h)
      refine lv_aload_n hx hb dX11_number_20 rfl (lv_at hl 0 rfl) ?_
      refine z_callVi (k := 0) (As := []) (rest := []) hx hb hml hown ht (mk_X11_good l D q cA F _ _ _ hv_23 ) hw_6_123 hmX11_good ⟨rfl, rfl⟩ (na := 0) rfl (by decide +kernel) (by decide) (by decide) rfl rfl hK hP hD hS hA hl.1 rfl (Nat.le_of_ble_eq_true rfl) ⟨Nat.zero_le _, Nat.zero_le _⟩ dX11_number_21 (fun r_25 I_25 R_25 J_25 H locs hp_25 hP hD hS _ _ => ?_)
      rcases hp_25 with ⟨rfl, hu_25, nn_25⟩ | ⟨rfl, hu_25, nn_25⟩
      · cases hu_25
        exact (zR_abs2 nn_25 he_23 (by decide)).elim
      · cases hu_25
        refine lv_if_eq (tgt := 47) hx hb dX11_number_24 (by decide) (fun _ => ?_) (fun c_0 => absurd (zD_eq zk_0 zk_z) c_0)
        refine lv_aload_n hx hb dX11_number_47 rfl (lv_at hl 0 rfl) ?_
        refine z_callVi (k := 0) (As := []) (rest := []) hx hb hml hown ht (mk_X11_good l D q cA F _ _ _ hv_23 ) hw_6_123 hmX11_good ⟨rfl, rfl⟩ (na := 0) rfl (by decide +kernel) (by decide) (by decide) rfl rfl hK hP hD hS hA hl.1 rfl (Nat.le_of_ble_eq_true rfl) ⟨Nat.zero_le _, Nat.zero_le _⟩ dX11_number_48 (fun r_26 I_26 R_26 J_26 H locs hp_26 hP hD hS _ _ => ?_)
        rcases hp_26 with ⟨rfl, hu_26, nn_26⟩ | ⟨rfl, hu_26, nn_26⟩
        · cases hu_26
          exact (zR_abs2 nn_26 nn_25 (by decide)).elim
        · cases hu_26
          refine lv_if_ne (tgt := 56) hx hb dX11_number_51 (by decide) (fun c_0 => absurd (zD_eq zk_0 zk_z) c_0) (fun _ => ?_)
          refine lv_iconst (v := nI 0) hx hb dX11_number_54 (by decide +kernel) ?_
          exact z_iret (v := nI 0) hx hb hr hlocks hP hD hS dX11_number_55 ⟨⟨⟨hv_23, hf_24, rfl⟩, (mTr_f he_23)⟩, (zR_w zk_0 (by decide))⟩
  · cases hu_1
    refine lv_if_eq (tgt := 20) hx hb dX11_number_4 (by decide) (fun _ => ?_) (fun c_0 => absurd (zD_eq zk_0 zk_z) c_0)
    refine lv_aload_n hx hb dX11_number_20 rfl (lv_at hl 0 rfl) ?_
    refine z_callVi (k := 0) (As := []) (rest := []) hx hb hml hown ht (mk_X11_good l D q cA F _ _ _ hI ) hw_6_123 hmX11_good ⟨rfl, rfl⟩ (na := 0) rfl (by decide +kernel) (by decide) (by decide) rfl rfl hK hP hD hS hA hl.1 rfl (Nat.le_of_ble_eq_true rfl) ⟨Nat.zero_le _, Nat.zero_le _⟩ dX11_number_21 (fun r_27 I_27 R_27 J_27 H locs hp_27 hP hD hS _ _ => ?_)
    rcases hp_27 with ⟨rfl, hu_27, nn_27⟩ | ⟨rfl, hu_27, nn_27⟩
    · cases hu_27
      exact (zR_abs2 nn_27 nn_1 (by decide)).elim
    · cases hu_27
      refine lv_if_eq (tgt := 47) hx hb dX11_number_24 (by decide) (fun _ => ?_) (fun c_0 => absurd (zD_eq zk_0 zk_z) c_0)
      refine lv_aload_n hx hb dX11_number_47 rfl (lv_at hl 0 rfl) ?_
      refine z_callVi (k := 0) (As := []) (rest := []) hx hb hml hown ht (mk_X11_good l D q cA F _ _ _ hI ) hw_6_123 hmX11_good ⟨rfl, rfl⟩ (na := 0) rfl (by decide +kernel) (by decide) (by decide) rfl rfl hK hP hD hS hA hl.1 rfl (Nat.le_of_ble_eq_true rfl) ⟨Nat.zero_le _, Nat.zero_le _⟩ dX11_number_48 (fun r_28 I_28 R_28 J_28 H locs hp_28 hP hD hS _ _ => ?_)
      rcases hp_28 with ⟨rfl, hu_28, nn_28⟩ | ⟨rfl, hu_28, nn_28⟩
      · cases hu_28
        exact (zR_abs2 nn_28 nn_27 (by decide)).elim
      · cases hu_28
        refine lv_if_ne (tgt := 56) hx hb dX11_number_51 (by decide) (fun c_0 => absurd (zD_eq zk_0 zk_z) c_0) (fun _ => ?_)
        refine lv_iconst (v := nI 0) hx hb dX11_number_54 (by decide +kernel) ?_
        exact z_iret (v := nI 0) hx hb hr hlocks hP hD hS dX11_number_55 ⟨⟨⟨hI, (fun (_ : Nat) _ => rfl), rfl⟩, (mTr_f nn_28)⟩, (zR_w zk_0 (by decide))⟩
