set_option maxHeartbeats 4000000 in
set_option maxRecDepth 100000 in
theorem kX11_in (l : Launch) (D : va_G) (q : Nat → Nat) (cA : Nat → ClassId) (I R : Nat → Nat → Int32) (J : Nat → Nat → Int64) (x a b : Int) (v : Int64) (lo : Int64) (hi : Int64) (hv : v.toInt = x) (hlo : lo.toInt = a) (hhi : hi.toInt = b) : zMi l D vwCl (zMtys cA) 25 q (zMd q cA) yX11_in cX11_in 6 (some .boolean) ({ frames := 0, cells := 0, slots := 0, locals := 0 } : Room) [.long (v), .long (lo), .long (hi)] (I, R, J) (fun r u => (r = nI 1 ∧ u = (I, R, J) ∧ a ≤ x ∧ x ≤ b) ∨ (r = nI 0 ∧ u = (I, R, J) ∧ (x < a ∨ b < x))) := by
  intro sz
  refine z_body (by decide +kernel) (Nat.le_of_ble_eq_true rfl) (fun p e s m below meth c ls hx hb hml hr ht hown hlocks hsz hK hP hD hS hl => ?_)
  have hA : ∀ a, s.heap.size ≤ a → zA 25 q sz a := fun a h => Or.inr (hsz ▸ h)
  have hl : lv_has ls 6 [(0, .long (v)), (2, .long (lo)), (4, .long (hi))] := hl
  refine lv_lload_n hx hb dX11_in_0 rfl (lv_at hl 0 rfl) ?_
  refine lv_lload_n hx hb dX11_in_1 rfl (lv_at hl 1 rfl) ?_
  refine W.lcmp hx hb dX11_in_2 ?_
  refine lv_if_lt (tgt := 17) hx hb dX11_in_3 (by decide) (fun c_1 => ?_) (fun c_1 => ?_)
  · have t_c_1 := z_lltT ((lg_cmp_lt _ _).mp c_1)
    refine lv_iconst (v := nI 0) hx hb dX11_in_17 (by decide +kernel) ?_
    exact z_zret (v := nI 0) hx hb hr hlocks hP hD hS (by decide +kernel) dX11_in_18 (Or.inr ⟨rfl, rfl, by omega⟩)
  · have t_c_1 := z_lltF (fun h => c_1 ((lg_cmp_lt _ _).mpr h))
    refine lv_lload_n hx hb dX11_in_6 rfl (lv_at hl 0 rfl) ?_
    refine lv_lload hx hb dX11_in_7 (lv_at hl 2 rfl) ?_
    refine W.lcmp hx hb dX11_in_9 ?_
    refine lv_if_gt (tgt := 17) hx hb dX11_in_10 (by decide) (fun c_2 => ?_) (fun c_2 => ?_)
    · have t_c_2 := z_lltT ((lg_cmp_gt _ _).mp c_2)
      refine lv_iconst (v := nI 0) hx hb dX11_in_17 (by decide +kernel) ?_
      exact z_zret (v := nI 0) hx hb hr hlocks hP hD hS (by decide +kernel) dX11_in_18 (Or.inr ⟨rfl, rfl, by omega⟩)
    · have t_c_2 := z_lltF (fun h => c_2 ((lg_cmp_gt _ _).mpr h))
      refine lv_iconst (v := nI 1) hx hb dX11_in_13 (by decide +kernel) ?_
      refine lv_goto (tgt := 18) hx hb dX11_in_14 (by decide) ?_
      exact z_zret (v := nI 1) hx hb hr hlocks hP hD hS (by decide +kernel) dX11_in_18 (Or.inl ⟨rfl, rfl, by omega, by omega⟩)
set_option maxHeartbeats 4000000 in
set_option maxRecDepth 100000 in
theorem kX11_isCity (l : Launch) (D : va_G) (q : Nat → Nat) (cA : Nat → ClassId)    : zMi l D vwCl (zMtys cA) 25 q (zMd q cA) yX11_isCity cX11_isCity 1 (some .boolean) ({ frames := 0, cells := 0, slots := 0, locals := 0 } : Room) [.ref (q 0)] (zMI0, zMR0, zMJ0) (fun r u => r = nI 0 ∧ u = (zMI0, zMR0, zMJ0)) := by
  intro sz
  refine z_body (by decide +kernel) (Nat.le_of_ble_eq_true rfl) (fun p e s m below meth c ls hx hb hml hr ht hown hlocks hsz hK hP hD hS hl => ?_)
  have hA : ∀ a, s.heap.size ≤ a → zA 25 q sz a := fun a h => Or.inr (hsz ▸ h)
  have hl : lv_has ls 1 [(0, .ref (q 0))] := hl
  refine lv_aload_n hx hb dX11_isCity_0 rfl (lv_at hl 0 rfl) ?_
  refine z_get hx hb ht hown hK hP ziX11 rfl 0 (by decide) 1 (by decide) hw_5_188 rfl (v := .ref (q 1)) rfl dX11_isCity_1 ?_
  refine lv_iconst (v := nI 5) hx hb dX11_isCity_4 (by decide +kernel) ?_
  refine z_iald hx hb hK hP 1 (by decide) 0 rfl rfl (vp_in_nI (by omega) (by decide)) dX11_isCity_5 ?_
  refine z_eqi (y := nI 0) rfl ?_
  refine lv_if_le (tgt := 13) hx hb dX11_isCity_6 (by decide) (fun _ => ?_) (fun c_0 => absurd (by decide +kernel) c_0)
  refine lv_iconst (v := nI 0) hx hb dX11_isCity_13 (by decide +kernel) ?_
  exact z_zret (v := nI 0) hx hb hr hlocks hP hD hS (by decide +kernel) dX11_isCity_14 ⟨rfl, rfl⟩
set_option maxHeartbeats 4000000 in
set_option maxRecDepth 100000 in
theorem kX11_isHouse (l : Launch) (D : va_G) (q : Nat → Nat) (cA : Nat → ClassId)  (h : Int64)  : zMi l D vwCl (zMtys cA) 25 q (zMd q cA) yX11_isHouse cX11_isHouse 3 (some .boolean) ({ frames := 1, cells := 0, slots := 0, locals := 25 } : Room) [.ref (q 0), .long (h)] (zMI0, zMR0, zMJ0) (fun r u => r = nI 0 ∧ u = (zMI0, zMR0, zMJ0)) := by
  intro sz
  refine z_body (by decide +kernel) (Nat.le_of_ble_eq_true rfl) (fun p e s m below meth c ls hx hb hml hr ht hown hlocks hsz hK hP hD hS hl => ?_)
  have hA : ∀ a, s.heap.size ≤ a → zA 25 q sz a := fun a h => Or.inr (hsz ▸ h)
  have hl : lv_has ls 3 [(0, .ref (q 0)), (1, .long (h))] := hl
  refine lv_lload_n hx hb dX11_isHouse_0 rfl (lv_at hl 1 rfl) ?_
  refine lv_lconst (v := (0 : Int64)) hx hb dX11_isHouse_1 (by decide +kernel) ?_
  refine lv_aload_n hx hb dX11_isHouse_2 rfl (lv_at hl 0 rfl) ?_
  refine z_get hx hb ht hown hK hP ziX11 rfl 0 (by decide) 1 (by decide) hw_5_188 rfl (v := .ref (q 1)) rfl dX11_isHouse_3 ?_
  refine lv_iconst (v := nI 3) hx hb dX11_isHouse_6 (by decide +kernel) ?_
  refine z_iald hx hb hK hP 1 (by decide) 0 rfl rfl (vp_in_nI (by omega) (by decide)) dX11_isHouse_7 ?_
  refine z_eqi (y := nI 0) rfl ?_
  refine lv_iconst (v := nI 1) hx hb dX11_isHouse_8 (by decide +kernel) ?_
  refine lv_isub hx hb dX11_isHouse_9 ?_
  refine z_eqi (y := (-1)) (by decide +kernel) ?_
  refine lv_i2l (v := (-1 : Int64)) hx hb dX11_isHouse_10 (by decide +kernel) ?_
  refine z_callSi (As := [.long (h), .long ((0 : Int64)), .long ((-1 : Int64))]) (rest := []) hx hb hml hown ht (kX11_in l D q cA _ _ _ (h).toInt 0 (-1) (h) ((0 : Int64)) ((-1 : Int64)) rfl (by decide +kernel) (by decide +kernel)) hw_6_86 hmX11_in ⟨rfl, rfl⟩ (na := 3) rfl (by decide +kernel) (by decide) hK hP hD hS hA hl.1 rfl (Nat.le_of_ble_eq_true rfl) ⟨Nat.zero_le _, Nat.zero_le _⟩ dX11_isHouse_11 (fun r_1 I_1 R_1 J_1 H locs hp_1 hP hD hS _ _ => ?_)
  rcases hp_1 with ⟨rfl, hu_1, h1_1, h2_1⟩ | ⟨rfl, hu_1, h1_1⟩
  · exfalso; omega
  · cases hu_1
    exact z_zret (v := nI 0) hx hb hr hlocks hP hD hS (by decide +kernel) dX11_isHouse_14 ⟨rfl, rfl⟩
set_option maxHeartbeats 4000000 in
set_option maxRecDepth 100000 in
theorem kX11_isThing (l : Launch) (D : va_G) (q : Nat → Nat) (cA : Nat → ClassId)  (h : Int64)  : zMi l D vwCl (zMtys cA) 25 q (zMd q cA) yX11_isThing cX11_isThing 3 (some .boolean) ({ frames := 1, cells := 0, slots := 0, locals := 25 } : Room) [.ref (q 0), .long (h)] (zMI0, zMR0, zMJ0) (fun r u => r = nI 0 ∧ u = (zMI0, zMR0, zMJ0)) := by
  intro sz
  refine z_body (by decide +kernel) (Nat.le_of_ble_eq_true rfl) (fun p e s m below meth c ls hx hb hml hr ht hown hlocks hsz hK hP hD hS hl => ?_)
  have hA : ∀ a, s.heap.size ≤ a → zA 25 q sz a := fun a h => Or.inr (hsz ▸ h)
  have hl : lv_has ls 3 [(0, .ref (q 0)), (1, .long (h))] := hl
  refine lv_lload_n hx hb dX11_isThing_0 rfl (lv_at hl 1 rfl) ?_
  refine lv_lconst (v := (0 : Int64)) hx hb dX11_isThing_1 (by decide +kernel) ?_
  refine lv_aload_n hx hb dX11_isThing_2 rfl (lv_at hl 0 rfl) ?_
  refine z_get hx hb ht hown hK hP ziX11 rfl 0 (by decide) 1 (by decide) hw_5_188 rfl (v := .ref (q 1)) rfl dX11_isThing_3 ?_
  refine lv_iconst (v := nI 4) hx hb dX11_isThing_6 (by decide +kernel) ?_
  refine z_iald hx hb hK hP 1 (by decide) 0 rfl rfl (vp_in_nI (by omega) (by decide)) dX11_isThing_7 ?_
  refine z_eqi (y := nI 0) rfl ?_
  refine lv_iconst (v := nI 1) hx hb dX11_isThing_8 (by decide +kernel) ?_
  refine lv_isub hx hb dX11_isThing_9 ?_
  refine z_eqi (y := (-1)) (by decide +kernel) ?_
  refine lv_i2l (v := (-1 : Int64)) hx hb dX11_isThing_10 (by decide +kernel) ?_
  refine z_callSi (As := [.long (h), .long ((0 : Int64)), .long ((-1 : Int64))]) (rest := []) hx hb hml hown ht (kX11_in l D q cA _ _ _ (h).toInt 0 (-1) (h) ((0 : Int64)) ((-1 : Int64)) rfl (by decide +kernel) (by decide +kernel)) hw_6_86 hmX11_in ⟨rfl, rfl⟩ (na := 3) rfl (by decide +kernel) (by decide) hK hP hD hS hA hl.1 rfl (Nat.le_of_ble_eq_true rfl) ⟨Nat.zero_le _, Nat.zero_le _⟩ dX11_isThing_11 (fun r_1 I_1 R_1 J_1 H locs hp_1 hP hD hS _ _ => ?_)
  rcases hp_1 with ⟨rfl, hu_1, h1_1, h2_1⟩ | ⟨rfl, hu_1, h1_1⟩
  · exfalso; omega
  · cases hu_1
    exact z_zret (v := nI 0) hx hb hr hlocks hP hD hS (by decide +kernel) dX11_isThing_14 ⟨rfl, rfl⟩
set_option maxHeartbeats 4000000 in
set_option maxRecDepth 100000 in
theorem kX11_house (l : Launch) (D : va_G) (q : Nat → Nat) (cA : Nat → ClassId)  (h : Int32) (w : Int32)  : zMi l D vwCl (zMtys cA) 25 q (zMd q cA) yX11_house cX11_house 5 (some .int) ({ frames := 2, cells := 0, slots := 0, locals := 47 } : Room) [.ref (q 0), .int (h), .int (w)] (zMI0, zMR0, zMJ0) (fun r _ => r = (-2)) := by
  intro sz
  refine z_body (by decide +kernel) (Nat.le_of_ble_eq_true rfl) (fun p e s m below meth c ls hx hb hml hr ht hown hlocks hsz hK hP hD hS hl => ?_)
  have hA : ∀ a, s.heap.size ≤ a → zA 25 q sz a := fun a h => Or.inr (hsz ▸ h)
  have hl : lv_has ls 5 [(0, .ref (q 0)), (1, .int (h)), (2, .int (w))] := hl
  refine lv_aload_n hx hb dX11_house_0 rfl (lv_at hl 0 rfl) ?_
  refine lv_iload_n hx hb dX11_house_1 rfl (lv_at hl 1 rfl) ?_
  refine lv_i2l (v := (h).toInt64) hx hb dX11_house_2 rfl ?_
  refine z_callVi (k := 0) (As := [.long ((h).toInt64)]) (rest := []) hx hb hml hown ht (kX11_isHouse l D q cA ((h).toInt64)) hw_6_176 hmX11_isHouse ⟨rfl, rfl⟩ (na := 1) rfl (by decide +kernel) (by decide) (by decide) rfl rfl hK hP hD hS hA hl.1 rfl (Nat.le_of_ble_eq_true rfl) ⟨Nat.zero_le _, Nat.zero_le _⟩ dX11_house_3 (fun r_1 I_1 R_1 J_1 H locs hp_1 hP hD hS _ _ => ?_)
  obtain ⟨rfl, hu_1⟩ := hp_1
  cases hu_1
  refine lv_if_eq (tgt := 21) hx hb dX11_house_6 (by decide) (fun _ => ?_) (fun c_0 => absurd (by decide +kernel) c_0)
  refine lv_bipush (v := (-2)) hx hb dX11_house_21 (by decide +kernel) ?_
  exact z_iret (v := (-2)) hx hb hr hlocks hP hD hS dX11_house_23 rfl
set_option maxHeartbeats 4000000 in
set_option maxRecDepth 100000 in
theorem kX11_thing (l : Launch) (D : va_G) (q : Nat → Nat) (cA : Nat → ClassId)  (h : Int32) (w : Int32)  : zMi l D vwCl (zMtys cA) 25 q (zMd q cA) yX11_thing cX11_thing 3 (some .int) ({ frames := 2, cells := 0, slots := 0, locals := 47 } : Room) [.ref (q 0), .int (h), .int (w)] (zMI0, zMR0, zMJ0) (fun r _ => r = (-2)) := by
  intro sz
  refine z_body (by decide +kernel) (Nat.le_of_ble_eq_true rfl) (fun p e s m below meth c ls hx hb hml hr ht hown hlocks hsz hK hP hD hS hl => ?_)
  have hA : ∀ a, s.heap.size ≤ a → zA 25 q sz a := fun a h => Or.inr (hsz ▸ h)
  have hl : lv_has ls 3 [(0, .ref (q 0)), (1, .int (h)), (2, .int (w))] := hl
  refine lv_aload_n hx hb dX11_thing_0 rfl (lv_at hl 0 rfl) ?_
  refine lv_iload_n hx hb dX11_thing_1 rfl (lv_at hl 1 rfl) ?_
  refine lv_i2l (v := (h).toInt64) hx hb dX11_thing_2 rfl ?_
  refine z_callVi (k := 0) (As := [.long ((h).toInt64)]) (rest := []) hx hb hml hown ht (kX11_isThing l D q cA ((h).toInt64)) hw_6_238 hmX11_isThing ⟨rfl, rfl⟩ (na := 1) rfl (by decide +kernel) (by decide) (by decide) rfl rfl hK hP hD hS hA hl.1 rfl (Nat.le_of_ble_eq_true rfl) ⟨Nat.zero_le _, Nat.zero_le _⟩ dX11_thing_3 (fun r_1 I_1 R_1 J_1 H locs hp_1 hP hD hS _ _ => ?_)
  obtain ⟨rfl, hu_1⟩ := hp_1
  cases hu_1
  refine lv_if_eq (tgt := 21) hx hb dX11_thing_6 (by decide) (fun _ => ?_) (fun c_0 => absurd (by decide +kernel) c_0)
  refine lv_bipush (v := (-2)) hx hb dX11_thing_21 (by decide +kernel) ?_
  exact z_iret (v := (-2)) hx hb hr hlocks hP hD hS dX11_thing_23 rfl
set_option maxHeartbeats 4000000 in
set_option maxRecDepth 100000 in
theorem kX11_value (l : Launch) (D : va_G) (q : Nat → Nat) (cA : Nat → ClassId)  (h : Int32) (w : Int32)  : zMi l D vwCl (zMtys cA) 25 q (zMd q cA) yX11_value cX11_value 3 (some .int) ({ frames := 2, cells := 0, slots := 0, locals := 47 } : Room) [.ref (q 0), .int (h), .int (w)] (zMI0, zMR0, zMJ0) (fun r _ => r = (-2)) := by
  intro sz
  refine z_body (by decide +kernel) (Nat.le_of_ble_eq_true rfl) (fun p e s m below meth c ls hx hb hml hr ht hown hlocks hsz hK hP hD hS hl => ?_)
  have hA : ∀ a, s.heap.size ≤ a → zA 25 q sz a := fun a h => Or.inr (hsz ▸ h)
  have hl : lv_has ls 3 [(0, .ref (q 0)), (1, .int (h)), (2, .int (w))] := hl
  refine lv_aload_n hx hb dX11_value_0 rfl (lv_at hl 0 rfl) ?_
  refine lv_iload_n hx hb dX11_value_1 rfl (lv_at hl 1 rfl) ?_
  refine lv_i2l (v := (h).toInt64) hx hb dX11_value_2 rfl ?_
  refine z_callVi (k := 0) (As := [.long ((h).toInt64)]) (rest := []) hx hb hml hown ht (kX11_isHouse l D q cA ((h).toInt64)) hw_6_176 hmX11_isHouse ⟨rfl, rfl⟩ (na := 1) rfl (by decide +kernel) (by decide) (by decide) rfl rfl hK hP hD hS hA hl.1 rfl (Nat.le_of_ble_eq_true rfl) ⟨Nat.zero_le _, Nat.zero_le _⟩ dX11_value_3 (fun r_1 I_1 R_1 J_1 H locs hp_1 hP hD hS _ _ => ?_)
  obtain ⟨rfl, hu_1⟩ := hp_1
  cases hu_1
  refine lv_if_eq (tgt := 27) hx hb dX11_value_6 (by decide) (fun _ => ?_) (fun c_0 => absurd (by decide +kernel) c_0)
  refine lv_bipush (v := (-2)) hx hb dX11_value_27 (by decide +kernel) ?_
  exact z_iret (v := (-2)) hx hb hr hlocks hP hD hS dX11_value_29 rfl
set_option maxHeartbeats 4000000 in
set_option maxRecDepth 100000 in
theorem kX11_net (l : Launch) (D : va_G) (q : Nat → Nat) (cA : Nat → ClassId)  (h : Int32)  : zMi l D vwCl (zMtys cA) 25 q (zMd q cA) yX11_net cX11_net 2 (some .int) ({ frames := 2, cells := 0, slots := 0, locals := 47 } : Room) [.ref (q 0), .int (h)] (zMI0, zMR0, zMJ0) (fun r _ => r = (-100000)) := by
  intro sz
  refine z_body (by decide +kernel) (Nat.le_of_ble_eq_true rfl) (fun p e s m below meth c ls hx hb hml hr ht hown hlocks hsz hK hP hD hS hl => ?_)
  have hA : ∀ a, s.heap.size ≤ a → zA 25 q sz a := fun a h => Or.inr (hsz ▸ h)
  have hl : lv_has ls 2 [(0, .ref (q 0)), (1, .int (h))] := hl
  refine lv_aload_n hx hb dX11_net_0 rfl (lv_at hl 0 rfl) ?_
  refine lv_iload_n hx hb dX11_net_1 rfl (lv_at hl 1 rfl) ?_
  refine lv_i2l (v := (h).toInt64) hx hb dX11_net_2 rfl ?_
  refine z_callVi (k := 0) (As := [.long ((h).toInt64)]) (rest := []) hx hb hml hown ht (kX11_isHouse l D q cA ((h).toInt64)) hw_6_176 hmX11_isHouse ⟨rfl, rfl⟩ (na := 1) rfl (by decide +kernel) (by decide) (by decide) rfl rfl hK hP hD hS hA hl.1 rfl (Nat.le_of_ble_eq_true rfl) ⟨Nat.zero_le _, Nat.zero_le _⟩ dX11_net_3 (fun r_1 I_1 R_1 J_1 H locs hp_1 hP hD hS _ _ => ?_)
  obtain ⟨rfl, hu_1⟩ := hp_1
  cases hu_1
  refine lv_if_ne (tgt := 13) hx hb dX11_net_6 (by decide) (fun c_0 => absurd (by decide +kernel) c_0) (fun _ => ?_)
  refine lv_ldcw (v := (-100000)) hx hb hown (ht _ hw_7_30) dX11_net_9 ?_
  exact z_iret (v := (-100000)) hx hb hr hlocks hP hD hS dX11_net_12 rfl
set_option maxHeartbeats 4000000 in
set_option maxRecDepth 100000 in
theorem kX11_steal (l : Launch) (D : va_G) (q : Nat → Nat) (cA : Nat → ClassId)  (h : Int32) (t : Int32) (d : Int32)  : zMi l D vwCl (zMtys cA) 25 q (zMd q cA) yX11_steal cX11_steal 4 (some .int) ({ frames := 2, cells := 0, slots := 0, locals := 47 } : Room) [.ref (q 0), .int (h), .int (t), .int (d)] (zMI0, zMR0, zMJ0) (fun r _ => r = (-2)) := by
  intro sz
  refine z_body (by decide +kernel) (Nat.le_of_ble_eq_true rfl) (fun p e s m below meth c ls hx hb hml hr ht hown hlocks hsz hK hP hD hS hl => ?_)
  have hA : ∀ a, s.heap.size ≤ a → zA 25 q sz a := fun a h => Or.inr (hsz ▸ h)
  have hl : lv_has ls 4 [(0, .ref (q 0)), (1, .int (h)), (2, .int (t)), (3, .int (d))] := hl
  refine lv_aload_n hx hb dX11_steal_0 rfl (lv_at hl 0 rfl) ?_
  refine lv_iload_n hx hb dX11_steal_1 rfl (lv_at hl 1 rfl) ?_
  refine lv_i2l (v := (h).toInt64) hx hb dX11_steal_2 rfl ?_
  refine z_callVi (k := 0) (As := [.long ((h).toInt64)]) (rest := []) hx hb hml hown ht (kX11_isHouse l D q cA ((h).toInt64)) hw_6_176 hmX11_isHouse ⟨rfl, rfl⟩ (na := 1) rfl (by decide +kernel) (by decide) (by decide) rfl rfl hK hP hD hS hA hl.1 rfl (Nat.le_of_ble_eq_true rfl) ⟨Nat.zero_le _, Nat.zero_le _⟩ dX11_steal_3 (fun r_1 I_1 R_1 J_1 H locs hp_1 hP hD hS _ _ => ?_)
  obtain ⟨rfl, hu_1⟩ := hp_1
  cases hu_1
  refine lv_if_eq (tgt := 30) hx hb dX11_steal_6 (by decide) (fun _ => ?_) (fun c_0 => absurd (by decide +kernel) c_0)
  refine lv_bipush (v := (-2)) hx hb dX11_steal_30 (by decide +kernel) ?_
  exact z_iret (v := (-2)) hx hb hr hlocks hP hD hS dX11_steal_32 rfl
set_option maxHeartbeats 4000000 in
set_option maxRecDepth 100000 in
theorem kX11_lock (l : Launch) (D : va_G) (q : Nat → Nat) (cA : Nat → ClassId)  (h : Int32) (w : Int32)  : zMi l D vwCl (zMtys cA) 25 q (zMd q cA) yX11_lock cX11_lock 3 (some .int) ({ frames := 2, cells := 0, slots := 0, locals := 47 } : Room) [.ref (q 0), .int (h), .int (w)] (zMI0, zMR0, zMJ0) (fun r _ => r = (-2)) := by
  intro sz
  refine z_body (by decide +kernel) (Nat.le_of_ble_eq_true rfl) (fun p e s m below meth c ls hx hb hml hr ht hown hlocks hsz hK hP hD hS hl => ?_)
  have hA : ∀ a, s.heap.size ≤ a → zA 25 q sz a := fun a h => Or.inr (hsz ▸ h)
  have hl : lv_has ls 3 [(0, .ref (q 0)), (1, .int (h)), (2, .int (w))] := hl
  refine lv_aload_n hx hb dX11_lock_0 rfl (lv_at hl 0 rfl) ?_
  refine lv_iload_n hx hb dX11_lock_1 rfl (lv_at hl 1 rfl) ?_
  refine lv_i2l (v := (h).toInt64) hx hb dX11_lock_2 rfl ?_
  refine z_callVi (k := 0) (As := [.long ((h).toInt64)]) (rest := []) hx hb hml hown ht (kX11_isHouse l D q cA ((h).toInt64)) hw_6_176 hmX11_isHouse ⟨rfl, rfl⟩ (na := 1) rfl (by decide +kernel) (by decide) (by decide) rfl rfl hK hP hD hS hA hl.1 rfl (Nat.le_of_ble_eq_true rfl) ⟨Nat.zero_le _, Nat.zero_le _⟩ dX11_lock_3 (fun r_1 I_1 R_1 J_1 H locs hp_1 hP hD hS _ _ => ?_)
  obtain ⟨rfl, hu_1⟩ := hp_1
  cases hu_1
  refine lv_if_eq (tgt := 19) hx hb dX11_lock_6 (by decide) (fun _ => ?_) (fun c_0 => absurd (by decide +kernel) c_0)
  refine lv_bipush (v := (-2)) hx hb dX11_lock_19 (by decide +kernel) ?_
  exact z_iret (v := (-2)) hx hb hr hlocks hP hD hS dX11_lock_21 rfl
set_option maxHeartbeats 4000000 in
set_option maxRecDepth 100000 in
theorem kX11_night (l : Launch) (D : va_G) (q : Nat → Nat) (cA : Nat → ClassId)    : zMi l D vwCl (zMtys cA) 25 q (zMd q cA) yX11_night cX11_night 1 (some .int) ({ frames := 1, cells := 0, slots := 0, locals := 20 } : Room) [.ref (q 0)] (zMI0, zMR0, zMJ0) (fun r _ => r = (-2)) := by
  intro sz
  refine z_body (by decide +kernel) (Nat.le_of_ble_eq_true rfl) (fun p e s m below meth c ls hx hb hml hr ht hown hlocks hsz hK hP hD hS hl => ?_)
  have hA : ∀ a, s.heap.size ≤ a → zA 25 q sz a := fun a h => Or.inr (hsz ▸ h)
  have hl : lv_has ls 1 [(0, .ref (q 0))] := hl
  refine lv_aload_n hx hb dX11_night_0 rfl (lv_at hl 0 rfl) ?_
  refine z_callVi (k := 0) (As := []) (rest := []) hx hb hml hown ht (kX11_isCity l D q cA ) hw_7_75 hmX11_isCity ⟨rfl, rfl⟩ (na := 0) rfl (by decide +kernel) (by decide) (by decide) rfl rfl hK hP hD hS hA hl.1 rfl (Nat.le_of_ble_eq_true rfl) ⟨Nat.zero_le _, Nat.zero_le _⟩ dX11_night_1 (fun r_1 I_1 R_1 J_1 H locs hp_1 hP hD hS _ _ => ?_)
  obtain ⟨rfl, hu_1⟩ := hp_1
  cases hu_1
  refine lv_if_ne (tgt := 10) hx hb dX11_night_4 (by decide) (fun c_0 => absurd (by decide +kernel) c_0) (fun _ => ?_)
  refine lv_bipush (v := (-2)) hx hb dX11_night_7 (by decide +kernel) ?_
  exact z_iret (v := (-2)) hx hb hr hlocks hP hD hS dX11_night_9 rfl
set_option maxHeartbeats 4000000 in
set_option maxRecDepth 100000 in
theorem kX11_undo (l : Launch) (D : va_G) (q : Nat → Nat) (cA : Nat → ClassId)    : zMi l D vwCl (zMtys cA) 25 q (zMd q cA) yX11_undo cX11_undo 1 (some .int) ({ frames := 1, cells := 0, slots := 0, locals := 20 } : Room) [.ref (q 0)] (zMI0, zMR0, zMJ0) (fun r _ => r = (-2)) := by
  intro sz
  refine z_body (by decide +kernel) (Nat.le_of_ble_eq_true rfl) (fun p e s m below meth c ls hx hb hml hr ht hown hlocks hsz hK hP hD hS hl => ?_)
  have hA : ∀ a, s.heap.size ≤ a → zA 25 q sz a := fun a h => Or.inr (hsz ▸ h)
  have hl : lv_has ls 1 [(0, .ref (q 0))] := hl
  refine lv_aload_n hx hb dX11_undo_0 rfl (lv_at hl 0 rfl) ?_
  refine z_callVi (k := 0) (As := []) (rest := []) hx hb hml hown ht (kX11_isCity l D q cA ) hw_7_75 hmX11_isCity ⟨rfl, rfl⟩ (na := 0) rfl (by decide +kernel) (by decide) (by decide) rfl rfl hK hP hD hS hA hl.1 rfl (Nat.le_of_ble_eq_true rfl) ⟨Nat.zero_le _, Nat.zero_le _⟩ dX11_undo_1 (fun r_1 I_1 R_1 J_1 H locs hp_1 hP hD hS _ _ => ?_)
  obtain ⟨rfl, hu_1⟩ := hp_1
  cases hu_1
  refine lv_if_ne (tgt := 10) hx hb dX11_undo_4 (by decide) (fun c_0 => absurd (by decide +kernel) c_0) (fun _ => ?_)
  refine lv_bipush (v := (-2)) hx hb dX11_undo_7 (by decide +kernel) ?_
  exact z_iret (v := (-2)) hx hb hr hlocks hP hD hS dX11_undo_9 rfl
set_option maxHeartbeats 4000000 in
set_option maxRecDepth 100000 in
theorem kX11_anew (l : Launch) (D : va_G) (q : Nat → Nat) (cA : Nat → ClassId)    : zMi l D vwCl (zMtys cA) 25 q (zMd q cA) yX11_anew cX11_anew 2 (some .int) ({ frames := 1, cells := 0, slots := 0, locals := 20 } : Room) [.ref (q 0)] (zMI0, zMR0, zMJ0) (fun r _ => r = (-2)) := by
  intro sz
  refine z_body (by decide +kernel) (Nat.le_of_ble_eq_true rfl) (fun p e s m below meth c ls hx hb hml hr ht hown hlocks hsz hK hP hD hS hl => ?_)
  have hA : ∀ a, s.heap.size ≤ a → zA 25 q sz a := fun a h => Or.inr (hsz ▸ h)
  have hl : lv_has ls 2 [(0, .ref (q 0))] := hl
  refine lv_aload_n hx hb dX11_anew_0 rfl (lv_at hl 0 rfl) ?_
  refine z_callVi (k := 0) (As := []) (rest := []) hx hb hml hown ht (kX11_isCity l D q cA ) hw_7_75 hmX11_isCity ⟨rfl, rfl⟩ (na := 0) rfl (by decide +kernel) (by decide) (by decide) rfl rfl hK hP hD hS hA hl.1 rfl (Nat.le_of_ble_eq_true rfl) ⟨Nat.zero_le _, Nat.zero_le _⟩ dX11_anew_1 (fun r_1 I_1 R_1 J_1 H locs hp_1 hP hD hS _ _ => ?_)
  obtain ⟨rfl, hu_1⟩ := hp_1
  cases hu_1
  refine lv_if_ne (tgt := 10) hx hb dX11_anew_4 (by decide) (fun c_0 => absurd (by decide +kernel) c_0) (fun _ => ?_)
  refine lv_bipush (v := (-2)) hx hb dX11_anew_7 (by decide +kernel) ?_
  exact z_iret (v := (-2)) hx hb hr hlocks hP hD hS dX11_anew_9 rfl
set_option maxHeartbeats 4000000 in
set_option maxRecDepth 100000 in
theorem kX11_now (l : Launch) (D : va_G) (q : Nat → Nat) (cA : Nat → ClassId)  (w : Int32)  : zMi l D vwCl (zMtys cA) 25 q (zMd q cA) yX11_now cX11_now 4 (some .int) ({ frames := 1, cells := 0, slots := 0, locals := 20 } : Room) [.ref (q 0), .int (w)] (zMI0, zMR0, zMJ0) (fun r _ => r = (-2)) := by
  intro sz
  refine z_body (by decide +kernel) (Nat.le_of_ble_eq_true rfl) (fun p e s m below meth c ls hx hb hml hr ht hown hlocks hsz hK hP hD hS hl => ?_)
  have hA : ∀ a, s.heap.size ≤ a → zA 25 q sz a := fun a h => Or.inr (hsz ▸ h)
  have hl : lv_has ls 4 [(0, .ref (q 0)), (1, .int (w))] := hl
  refine lv_aload_n hx hb dX11_now_0 rfl (lv_at hl 0 rfl) ?_
  refine z_callVi (k := 0) (As := []) (rest := []) hx hb hml hown ht (kX11_isCity l D q cA ) hw_7_75 hmX11_isCity ⟨rfl, rfl⟩ (na := 0) rfl (by decide +kernel) (by decide) (by decide) rfl rfl hK hP hD hS hA hl.1 rfl (Nat.le_of_ble_eq_true rfl) ⟨Nat.zero_le _, Nat.zero_le _⟩ dX11_now_1 (fun r_1 I_1 R_1 J_1 H locs hp_1 hP hD hS _ _ => ?_)
  obtain ⟨rfl, hu_1⟩ := hp_1
  cases hu_1
  refine lv_if_eq (tgt := 19) hx hb dX11_now_4 (by decide) (fun _ => ?_) (fun c_0 => absurd (by decide +kernel) c_0)
  refine lv_bipush (v := (-2)) hx hb dX11_now_19 (by decide +kernel) ?_
  exact z_iret (v := (-2)) hx hb hr hlocks hP hD hS dX11_now_21 rfl
set_option maxHeartbeats 4000000 in
set_option maxRecDepth 100000 in
theorem kX11_owner (l : Launch) (D : va_G) (q : Nat → Nat) (cA : Nat → ClassId)  (t : Int32)  : zMi l D vwCl (zMtys cA) 25 q (zMd q cA) yX11_owner cX11_owner 2 (some .int) ({ frames := 2, cells := 0, slots := 0, locals := 47 } : Room) [.ref (q 0), .int (t)] (zMI0, zMR0, zMJ0) (fun r _ => r = (-2)) := by
  intro sz
  refine z_body (by decide +kernel) (Nat.le_of_ble_eq_true rfl) (fun p e s m below meth c ls hx hb hml hr ht hown hlocks hsz hK hP hD hS hl => ?_)
  have hA : ∀ a, s.heap.size ≤ a → zA 25 q sz a := fun a h => Or.inr (hsz ▸ h)
  have hl : lv_has ls 2 [(0, .ref (q 0)), (1, .int (t))] := hl
  refine lv_aload_n hx hb dX11_owner_0 rfl (lv_at hl 0 rfl) ?_
  refine lv_iload_n hx hb dX11_owner_1 rfl (lv_at hl 1 rfl) ?_
  refine lv_i2l (v := (t).toInt64) hx hb dX11_owner_2 rfl ?_
  refine z_callVi (k := 0) (As := [.long ((t).toInt64)]) (rest := []) hx hb hml hown ht (kX11_isThing l D q cA ((t).toInt64)) hw_6_238 hmX11_isThing ⟨rfl, rfl⟩ (na := 1) rfl (by decide +kernel) (by decide) (by decide) rfl rfl hK hP hD hS hA hl.1 rfl (Nat.le_of_ble_eq_true rfl) ⟨Nat.zero_le _, Nat.zero_le _⟩ dX11_owner_3 (fun r_1 I_1 R_1 J_1 H locs hp_1 hP hD hS _ _ => ?_)
  obtain ⟨rfl, hu_1⟩ := hp_1
  cases hu_1
  refine lv_if_ne (tgt := 12) hx hb dX11_owner_6 (by decide) (fun c_0 => absurd (by decide +kernel) c_0) (fun _ => ?_)
  refine lv_bipush (v := (-2)) hx hb dX11_owner_9 (by decide +kernel) ?_
  exact z_iret (v := (-2)) hx hb hr hlocks hP hD hS dX11_owner_11 rfl
set_option maxHeartbeats 4000000 in
set_option maxRecDepth 100000 in
theorem kX11_chain (l : Launch) (D : va_G) (q : Nat → Nat) (cA : Nat → ClassId)  (t : Int32) (i : Int32)  : zMi l D vwCl (zMtys cA) 25 q (zMd q cA) yX11_chain cX11_chain 3 (some .int) ({ frames := 2, cells := 0, slots := 0, locals := 47 } : Room) [.ref (q 0), .int (t), .int (i)] (zMI0, zMR0, zMJ0) (fun r _ => r = (-2)) := by
  intro sz
  refine z_body (by decide +kernel) (Nat.le_of_ble_eq_true rfl) (fun p e s m below meth c ls hx hb hml hr ht hown hlocks hsz hK hP hD hS hl => ?_)
  have hA : ∀ a, s.heap.size ≤ a → zA 25 q sz a := fun a h => Or.inr (hsz ▸ h)
  have hl : lv_has ls 3 [(0, .ref (q 0)), (1, .int (t)), (2, .int (i))] := hl
  refine lv_aload_n hx hb dX11_chain_0 rfl (lv_at hl 0 rfl) ?_
  refine lv_iload_n hx hb dX11_chain_1 rfl (lv_at hl 1 rfl) ?_
  refine lv_i2l (v := (t).toInt64) hx hb dX11_chain_2 rfl ?_
  refine z_callVi (k := 0) (As := [.long ((t).toInt64)]) (rest := []) hx hb hml hown ht (kX11_isThing l D q cA ((t).toInt64)) hw_6_238 hmX11_isThing ⟨rfl, rfl⟩ (na := 1) rfl (by decide +kernel) (by decide) (by decide) rfl rfl hK hP hD hS hA hl.1 rfl (Nat.le_of_ble_eq_true rfl) ⟨Nat.zero_le _, Nat.zero_le _⟩ dX11_chain_3 (fun r_1 I_1 R_1 J_1 H locs hp_1 hP hD hS _ _ => ?_)
  obtain ⟨rfl, hu_1⟩ := hp_1
  cases hu_1
  refine lv_if_ne (tgt := 12) hx hb dX11_chain_6 (by decide) (fun c_0 => absurd (by decide +kernel) c_0) (fun _ => ?_)
  refine lv_bipush (v := (-2)) hx hb dX11_chain_9 (by decide +kernel) ?_
  exact z_iret (v := (-2)) hx hb hr hlocks hP hD hS dX11_chain_11 rfl
set_option maxHeartbeats 4000000 in
set_option maxRecDepth 100000 in
theorem kX11_rings (l : Launch) (D : va_G) (q : Nat → Nat) (cA : Nat → ClassId)    : zMi l D vwCl (zMtys cA) 25 q (zMd q cA) yX11_rings cX11_rings 3 (some .int) ({ frames := 1, cells := 0, slots := 0, locals := 20 } : Room) [.ref (q 0)] (zMI0, zMR0, zMJ0) (fun r _ => r = (-2)) := by
  intro sz
  refine z_body (by decide +kernel) (Nat.le_of_ble_eq_true rfl) (fun p e s m below meth c ls hx hb hml hr ht hown hlocks hsz hK hP hD hS hl => ?_)
  have hA : ∀ a, s.heap.size ≤ a → zA 25 q sz a := fun a h => Or.inr (hsz ▸ h)
  have hl : lv_has ls 3 [(0, .ref (q 0))] := hl
  refine lv_aload_n hx hb dX11_rings_0 rfl (lv_at hl 0 rfl) ?_
  refine z_callVi (k := 0) (As := []) (rest := []) hx hb hml hown ht (kX11_isCity l D q cA ) hw_7_75 hmX11_isCity ⟨rfl, rfl⟩ (na := 0) rfl (by decide +kernel) (by decide) (by decide) rfl rfl hK hP hD hS hA hl.1 rfl (Nat.le_of_ble_eq_true rfl) ⟨Nat.zero_le _, Nat.zero_le _⟩ dX11_rings_1 (fun r_1 I_1 R_1 J_1 H locs hp_1 hP hD hS _ _ => ?_)
  obtain ⟨rfl, hu_1⟩ := hp_1
  cases hu_1
  refine lv_if_ne (tgt := 10) hx hb dX11_rings_4 (by decide) (fun c_0 => absurd (by decide +kernel) c_0) (fun _ => ?_)
  refine lv_bipush (v := (-2)) hx hb dX11_rings_7 (by decide +kernel) ?_
  exact z_iret (v := (-2)) hx hb hr hlocks hP hD hS dX11_rings_9 rfl
set_option maxHeartbeats 4000000 in
set_option maxRecDepth 100000 in
theorem kX11_owns (l : Launch) (D : va_G) (q : Nat → Nat) (cA : Nat → ClassId)  (h : Int32)  : zMi l D vwCl (zMtys cA) 25 q (zMd q cA) yX11_owns cX11_owns 4 (some .int) ({ frames := 2, cells := 0, slots := 0, locals := 47 } : Room) [.ref (q 0), .int (h)] (zMI0, zMR0, zMJ0) (fun r _ => r = (-2)) := by
  intro sz
  refine z_body (by decide +kernel) (Nat.le_of_ble_eq_true rfl) (fun p e s m below meth c ls hx hb hml hr ht hown hlocks hsz hK hP hD hS hl => ?_)
  have hA : ∀ a, s.heap.size ≤ a → zA 25 q sz a := fun a h => Or.inr (hsz ▸ h)
  have hl : lv_has ls 4 [(0, .ref (q 0)), (1, .int (h))] := hl
  refine lv_aload_n hx hb dX11_owns_0 rfl (lv_at hl 0 rfl) ?_
  refine lv_iload_n hx hb dX11_owns_1 rfl (lv_at hl 1 rfl) ?_
  refine lv_i2l (v := (h).toInt64) hx hb dX11_owns_2 rfl ?_
  refine z_callVi (k := 0) (As := [.long ((h).toInt64)]) (rest := []) hx hb hml hown ht (kX11_isHouse l D q cA ((h).toInt64)) hw_6_176 hmX11_isHouse ⟨rfl, rfl⟩ (na := 1) rfl (by decide +kernel) (by decide) (by decide) rfl rfl hK hP hD hS hA hl.1 rfl (Nat.le_of_ble_eq_true rfl) ⟨Nat.zero_le _, Nat.zero_le _⟩ dX11_owns_3 (fun r_1 I_1 R_1 J_1 H locs hp_1 hP hD hS _ _ => ?_)
  obtain ⟨rfl, hu_1⟩ := hp_1
  cases hu_1
  refine lv_if_ne (tgt := 12) hx hb dX11_owns_6 (by decide) (fun c_0 => absurd (by decide +kernel) c_0) (fun _ => ?_)
  refine lv_bipush (v := (-2)) hx hb dX11_owns_9 (by decide +kernel) ?_
  exact z_iret (v := (-2)) hx hb hr hlocks hP hD hS dX11_owns_11 rfl
set_option maxHeartbeats 4000000 in
set_option maxRecDepth 100000 in
theorem kX11_twice (l : Launch) (D : va_G) (q : Nat → Nat) (cA : Nat → ClassId)    : zMi l D vwCl (zMtys cA) 25 q (zMd q cA) yX11_twice cX11_twice 4 (some .int) ({ frames := 1, cells := 0, slots := 0, locals := 20 } : Room) [.ref (q 0)] (zMI0, zMR0, zMJ0) (fun r _ => r = (-2)) := by
  intro sz
  refine z_body (by decide +kernel) (Nat.le_of_ble_eq_true rfl) (fun p e s m below meth c ls hx hb hml hr ht hown hlocks hsz hK hP hD hS hl => ?_)
  have hA : ∀ a, s.heap.size ≤ a → zA 25 q sz a := fun a h => Or.inr (hsz ▸ h)
  have hl : lv_has ls 4 [(0, .ref (q 0))] := hl
  refine lv_aload_n hx hb dX11_twice_0 rfl (lv_at hl 0 rfl) ?_
  refine z_callVi (k := 0) (As := []) (rest := []) hx hb hml hown ht (kX11_isCity l D q cA ) hw_7_75 hmX11_isCity ⟨rfl, rfl⟩ (na := 0) rfl (by decide +kernel) (by decide) (by decide) rfl rfl hK hP hD hS hA hl.1 rfl (Nat.le_of_ble_eq_true rfl) ⟨Nat.zero_le _, Nat.zero_le _⟩ dX11_twice_1 (fun r_1 I_1 R_1 J_1 H locs hp_1 hP hD hS _ _ => ?_)
  obtain ⟨rfl, hu_1⟩ := hp_1
  cases hu_1
  refine lv_if_ne (tgt := 10) hx hb dX11_twice_4 (by decide) (fun c_0 => absurd (by decide +kernel) c_0) (fun _ => ?_)
  refine lv_bipush (v := (-2)) hx hb dX11_twice_7 (by decide +kernel) ?_
  exact z_iret (v := (-2)) hx hb hr hlocks hP hD hS dX11_twice_9 rfl
set_option maxHeartbeats 4000000 in
set_option maxRecDepth 100000 in
theorem kX11_strikes (l : Launch) (D : va_G) (q : Nat → Nat) (cA : Nat → ClassId)    : zMi l D vwCl (zMtys cA) 25 q (zMd q cA) yX11_strikes cX11_strikes 1 (some .int) ({ frames := 1, cells := 0, slots := 0, locals := 20 } : Room) [.ref (q 0)] (zMI0, zMR0, zMJ0) (fun r _ => r = (-2)) := by
  intro sz
  refine z_body (by decide +kernel) (Nat.le_of_ble_eq_true rfl) (fun p e s m below meth c ls hx hb hml hr ht hown hlocks hsz hK hP hD hS hl => ?_)
  have hA : ∀ a, s.heap.size ≤ a → zA 25 q sz a := fun a h => Or.inr (hsz ▸ h)
  have hl : lv_has ls 1 [(0, .ref (q 0))] := hl
  refine lv_aload_n hx hb dX11_strikes_0 rfl (lv_at hl 0 rfl) ?_
  refine z_callVi (k := 0) (As := []) (rest := []) hx hb hml hown ht (kX11_isCity l D q cA ) hw_7_75 hmX11_isCity ⟨rfl, rfl⟩ (na := 0) rfl (by decide +kernel) (by decide) (by decide) rfl rfl hK hP hD hS hA hl.1 rfl (Nat.le_of_ble_eq_true rfl) ⟨Nat.zero_le _, Nat.zero_le _⟩ dX11_strikes_1 (fun r_1 I_1 R_1 J_1 H locs hp_1 hP hD hS _ _ => ?_)
  obtain ⟨rfl, hu_1⟩ := hp_1
  cases hu_1
  refine lv_if_eq (tgt := 17) hx hb dX11_strikes_4 (by decide) (fun _ => ?_) (fun c_0 => absurd (by decide +kernel) c_0)
  refine lv_bipush (v := (-2)) hx hb dX11_strikes_17 (by decide +kernel) ?_
  exact z_iret (v := (-2)) hx hb hr hlocks hP hD hS dX11_strikes_19 rfl
set_option maxHeartbeats 4000000 in
set_option maxRecDepth 100000 in
theorem kX11_struck (l : Launch) (D : va_G) (q : Nat → Nat) (cA : Nat → ClassId)    : zMi l D vwCl (zMtys cA) 25 q (zMd q cA) yX11_struck cX11_struck 1 (some .int) ({ frames := 1, cells := 0, slots := 0, locals := 20 } : Room) [.ref (q 0)] (zMI0, zMR0, zMJ0) (fun r _ => r = (-2)) := by
  intro sz
  refine z_body (by decide +kernel) (Nat.le_of_ble_eq_true rfl) (fun p e s m below meth c ls hx hb hml hr ht hown hlocks hsz hK hP hD hS hl => ?_)
  have hA : ∀ a, s.heap.size ≤ a → zA 25 q sz a := fun a h => Or.inr (hsz ▸ h)
  have hl : lv_has ls 1 [(0, .ref (q 0))] := hl
  refine lv_aload_n hx hb dX11_struck_0 rfl (lv_at hl 0 rfl) ?_
  refine z_callVi (k := 0) (As := []) (rest := []) hx hb hml hown ht (kX11_isCity l D q cA ) hw_7_75 hmX11_isCity ⟨rfl, rfl⟩ (na := 0) rfl (by decide +kernel) (by decide) (by decide) rfl rfl hK hP hD hS hA hl.1 rfl (Nat.le_of_ble_eq_true rfl) ⟨Nat.zero_le _, Nat.zero_le _⟩ dX11_struck_1 (fun r_1 I_1 R_1 J_1 H locs hp_1 hP hD hS _ _ => ?_)
  obtain ⟨rfl, hu_1⟩ := hp_1
  cases hu_1
  refine lv_if_eq (tgt := 14) hx hb dX11_struck_4 (by decide) (fun _ => ?_) (fun c_0 => absurd (by decide +kernel) c_0)
  refine lv_bipush (v := (-2)) hx hb dX11_struck_14 (by decide +kernel) ?_
  exact z_iret (v := (-2)) hx hb hr hlocks hP hD hS dX11_struck_16 rfl
set_option maxHeartbeats 4000000 in
set_option maxRecDepth 100000 in
theorem kX11_trail (l : Launch) (D : va_G) (q : Nat → Nat) (cA : Nat → ClassId)  (t : Int32) (i : Int32)  : zMi l D vwCl (zMtys cA) 25 q (zMd q cA) yX11_trail cX11_trail 3 (some .int) ({ frames := 2, cells := 0, slots := 0, locals := 47 } : Room) [.ref (q 0), .int (t), .int (i)] (zMI0, zMR0, zMJ0) (fun r _ => r = (-2)) := by
  intro sz
  refine z_body (by decide +kernel) (Nat.le_of_ble_eq_true rfl) (fun p e s m below meth c ls hx hb hml hr ht hown hlocks hsz hK hP hD hS hl => ?_)
  have hA : ∀ a, s.heap.size ≤ a → zA 25 q sz a := fun a h => Or.inr (hsz ▸ h)
  have hl : lv_has ls 3 [(0, .ref (q 0)), (1, .int (t)), (2, .int (i))] := hl
  refine lv_aload_n hx hb dX11_trail_0 rfl (lv_at hl 0 rfl) ?_
  refine lv_iload_n hx hb dX11_trail_1 rfl (lv_at hl 1 rfl) ?_
  refine lv_i2l (v := (t).toInt64) hx hb dX11_trail_2 rfl ?_
  refine z_callVi (k := 0) (As := [.long ((t).toInt64)]) (rest := []) hx hb hml hown ht (kX11_isThing l D q cA ((t).toInt64)) hw_6_238 hmX11_isThing ⟨rfl, rfl⟩ (na := 1) rfl (by decide +kernel) (by decide) (by decide) rfl rfl hK hP hD hS hA hl.1 rfl (Nat.le_of_ble_eq_true rfl) ⟨Nat.zero_le _, Nat.zero_le _⟩ dX11_trail_3 (fun r_1 I_1 R_1 J_1 H locs hp_1 hP hD hS _ _ => ?_)
  obtain ⟨rfl, hu_1⟩ := hp_1
  cases hu_1
  refine lv_if_ne (tgt := 12) hx hb dX11_trail_6 (by decide) (fun c_0 => absurd (by decide +kernel) c_0) (fun _ => ?_)
  refine lv_bipush (v := (-2)) hx hb dX11_trail_9 (by decide +kernel) ?_
  exact z_iret (v := (-2)) hx hb hr hlocks hP hD hS dX11_trail_11 rfl
set_option maxHeartbeats 4000000 in
set_option maxRecDepth 100000 in
theorem kX11_went (l : Launch) (D : va_G) (q : Nat → Nat) (cA : Nat → ClassId)  (t : Int32)  : zMi l D vwCl (zMtys cA) 25 q (zMd q cA) yX11_went cX11_went 2 (some .int) ({ frames := 2, cells := 0, slots := 0, locals := 47 } : Room) [.ref (q 0), .int (t)] (zMI0, zMR0, zMJ0) (fun r _ => r = (-2)) := by
  intro sz
  refine z_body (by decide +kernel) (Nat.le_of_ble_eq_true rfl) (fun p e s m below meth c ls hx hb hml hr ht hown hlocks hsz hK hP hD hS hl => ?_)
  have hA : ∀ a, s.heap.size ≤ a → zA 25 q sz a := fun a h => Or.inr (hsz ▸ h)
  have hl : lv_has ls 2 [(0, .ref (q 0)), (1, .int (t))] := hl
  refine lv_aload_n hx hb dX11_went_0 rfl (lv_at hl 0 rfl) ?_
  refine lv_iload_n hx hb dX11_went_1 rfl (lv_at hl 1 rfl) ?_
  refine lv_i2l (v := (t).toInt64) hx hb dX11_went_2 rfl ?_
  refine z_callVi (k := 0) (As := [.long ((t).toInt64)]) (rest := []) hx hb hml hown ht (kX11_isThing l D q cA ((t).toInt64)) hw_6_238 hmX11_isThing ⟨rfl, rfl⟩ (na := 1) rfl (by decide +kernel) (by decide) (by decide) rfl rfl hK hP hD hS hA hl.1 rfl (Nat.le_of_ble_eq_true rfl) ⟨Nat.zero_le _, Nat.zero_le _⟩ dX11_went_3 (fun r_1 I_1 R_1 J_1 H locs hp_1 hP hD hS _ _ => ?_)
  obtain ⟨rfl, hu_1⟩ := hp_1
  cases hu_1
  refine lv_if_ne (tgt := 12) hx hb dX11_went_6 (by decide) (fun c_0 => absurd (by decide +kernel) c_0) (fun _ => ?_)
  refine lv_bipush (v := (-2)) hx hb dX11_went_9 (by decide +kernel) ?_
  exact z_iret (v := (-2)) hx hb hr hlocks hP hD hS dX11_went_11 rfl
set_option maxHeartbeats 4000000 in
set_option maxRecDepth 100000 in
theorem kX11_lies (l : Launch) (D : va_G) (q : Nat → Nat) (cA : Nat → ClassId)  (h : Int32)  : zMi l D vwCl (zMtys cA) 25 q (zMd q cA) yX11_lies cX11_lies 2 (some .int) ({ frames := 2, cells := 0, slots := 0, locals := 47 } : Room) [.ref (q 0), .int (h)] (zMI0, zMR0, zMJ0) (fun r _ => r = (-2)) := by
  intro sz
  refine z_body (by decide +kernel) (Nat.le_of_ble_eq_true rfl) (fun p e s m below meth c ls hx hb hml hr ht hown hlocks hsz hK hP hD hS hl => ?_)
  have hA : ∀ a, s.heap.size ≤ a → zA 25 q sz a := fun a h => Or.inr (hsz ▸ h)
  have hl : lv_has ls 2 [(0, .ref (q 0)), (1, .int (h))] := hl
  refine lv_aload_n hx hb dX11_lies_0 rfl (lv_at hl 0 rfl) ?_
  refine lv_iload_n hx hb dX11_lies_1 rfl (lv_at hl 1 rfl) ?_
  refine lv_i2l (v := (h).toInt64) hx hb dX11_lies_2 rfl ?_
  refine z_callVi (k := 0) (As := [.long ((h).toInt64)]) (rest := []) hx hb hml hown ht (kX11_isHouse l D q cA ((h).toInt64)) hw_6_176 hmX11_isHouse ⟨rfl, rfl⟩ (na := 1) rfl (by decide +kernel) (by decide) (by decide) rfl rfl hK hP hD hS hA hl.1 rfl (Nat.le_of_ble_eq_true rfl) ⟨Nat.zero_le _, Nat.zero_le _⟩ dX11_lies_3 (fun r_1 I_1 R_1 J_1 H locs hp_1 hP hD hS _ _ => ?_)
  obtain ⟨rfl, hu_1⟩ := hp_1
  cases hu_1
  refine lv_if_ne (tgt := 12) hx hb dX11_lies_6 (by decide) (fun c_0 => absurd (by decide +kernel) c_0) (fun _ => ?_)
  refine lv_bipush (v := (-2)) hx hb dX11_lies_9 (by decide +kernel) ?_
  exact z_iret (v := (-2)) hx hb hr hlocks hP hD hS dX11_lies_11 rfl
set_option maxHeartbeats 4000000 in
set_option maxRecDepth 100000 in
theorem kX11_poorest (l : Launch) (D : va_G) (q : Nat → Nat) (cA : Nat → ClassId)    : zMi l D vwCl (zMtys cA) 25 q (zMd q cA) yX11_poorest cX11_poorest 3 (some .int) ({ frames := 1, cells := 0, slots := 0, locals := 20 } : Room) [.ref (q 0)] (zMI0, zMR0, zMJ0) (fun r _ => r = (-2)) := by
  intro sz
  refine z_body (by decide +kernel) (Nat.le_of_ble_eq_true rfl) (fun p e s m below meth c ls hx hb hml hr ht hown hlocks hsz hK hP hD hS hl => ?_)
  have hA : ∀ a, s.heap.size ≤ a → zA 25 q sz a := fun a h => Or.inr (hsz ▸ h)
  have hl : lv_has ls 3 [(0, .ref (q 0))] := hl
  refine lv_aload_n hx hb dX11_poorest_0 rfl (lv_at hl 0 rfl) ?_
  refine z_callVi (k := 0) (As := []) (rest := []) hx hb hml hown ht (kX11_isCity l D q cA ) hw_7_75 hmX11_isCity ⟨rfl, rfl⟩ (na := 0) rfl (by decide +kernel) (by decide) (by decide) rfl rfl hK hP hD hS hA hl.1 rfl (Nat.le_of_ble_eq_true rfl) ⟨Nat.zero_le _, Nat.zero_le _⟩ dX11_poorest_1 (fun r_1 I_1 R_1 J_1 H locs hp_1 hP hD hS _ _ => ?_)
  obtain ⟨rfl, hu_1⟩ := hp_1
  cases hu_1
  refine lv_if_ne (tgt := 10) hx hb dX11_poorest_4 (by decide) (fun c_0 => absurd (by decide +kernel) c_0) (fun _ => ?_)
  refine lv_bipush (v := (-2)) hx hb dX11_poorest_7 (by decide +kernel) ?_
  exact z_iret (v := (-2)) hx hb hr hlocks hP hD hS dX11_poorest_9 rfl
set_option maxHeartbeats 4000000 in
set_option maxRecDepth 100000 in
theorem kX11_due (l : Launch) (D : va_G) (q : Nat → Nat) (cA : Nat → ClassId)  (d : Int32)  : zMi l D vwCl (zMtys cA) 25 q (zMd q cA) yX11_due cX11_due 2 (some .int) ({ frames := 1, cells := 0, slots := 0, locals := 20 } : Room) [.ref (q 0), .int (d)] (zMI0, zMR0, zMJ0) (fun r _ => r = (-2)) := by
  intro sz
  refine z_body (by decide +kernel) (Nat.le_of_ble_eq_true rfl) (fun p e s m below meth c ls hx hb hml hr ht hown hlocks hsz hK hP hD hS hl => ?_)
  have hA : ∀ a, s.heap.size ≤ a → zA 25 q sz a := fun a h => Or.inr (hsz ▸ h)
  have hl : lv_has ls 2 [(0, .ref (q 0)), (1, .int (d))] := hl
  refine lv_aload_n hx hb dX11_due_0 rfl (lv_at hl 0 rfl) ?_
  refine z_callVi (k := 0) (As := []) (rest := []) hx hb hml hown ht (kX11_isCity l D q cA ) hw_7_75 hmX11_isCity ⟨rfl, rfl⟩ (na := 0) rfl (by decide +kernel) (by decide) (by decide) rfl rfl hK hP hD hS hA hl.1 rfl (Nat.le_of_ble_eq_true rfl) ⟨Nat.zero_le _, Nat.zero_le _⟩ dX11_due_1 (fun r_1 I_1 R_1 J_1 H locs hp_1 hP hD hS _ _ => ?_)
  obtain ⟨rfl, hu_1⟩ := hp_1
  cases hu_1
  refine lv_if_eq (tgt := 19) hx hb dX11_due_4 (by decide) (fun _ => ?_) (fun c_0 => absurd (by decide +kernel) c_0)
  refine lv_bipush (v := (-2)) hx hb dX11_due_19 (by decide +kernel) ?_
  exact z_iret (v := (-2)) hx hb hr hlocks hP hD hS dX11_due_21 rfl
set_option maxHeartbeats 4000000 in
set_option maxRecDepth 100000 in
theorem kX11_monday (l : Launch) (D : va_G) (q : Nat → Nat) (cA : Nat → ClassId)    : zMi l D vwCl (zMtys cA) 25 q (zMd q cA) yX11_monday cX11_monday 4 (some .int) ({ frames := 1, cells := 0, slots := 0, locals := 20 } : Room) [.ref (q 0)] (zMI0, zMR0, zMJ0) (fun r _ => r = (-2)) := by
  intro sz
  refine z_body (by decide +kernel) (Nat.le_of_ble_eq_true rfl) (fun p e s m below meth c ls hx hb hml hr ht hown hlocks hsz hK hP hD hS hl => ?_)
  have hA : ∀ a, s.heap.size ≤ a → zA 25 q sz a := fun a h => Or.inr (hsz ▸ h)
  have hl : lv_has ls 4 [(0, .ref (q 0))] := hl
  refine lv_aload_n hx hb dX11_monday_0 rfl (lv_at hl 0 rfl) ?_
  refine z_callVi (k := 0) (As := []) (rest := []) hx hb hml hown ht (kX11_isCity l D q cA ) hw_7_75 hmX11_isCity ⟨rfl, rfl⟩ (na := 0) rfl (by decide +kernel) (by decide) (by decide) rfl rfl hK hP hD hS hA hl.1 rfl (Nat.le_of_ble_eq_true rfl) ⟨Nat.zero_le _, Nat.zero_le _⟩ dX11_monday_1 (fun r_1 I_1 R_1 J_1 H locs hp_1 hP hD hS _ _ => ?_)
  obtain ⟨rfl, hu_1⟩ := hp_1
  cases hu_1
  refine lv_if_ne (tgt := 10) hx hb dX11_monday_4 (by decide) (fun c_0 => absurd (by decide +kernel) c_0) (fun _ => ?_)
  refine lv_bipush (v := (-2)) hx hb dX11_monday_7 (by decide +kernel) ?_
  exact z_iret (v := (-2)) hx hb hr hlocks hP hD hS dX11_monday_9 rfl
set_option maxHeartbeats 4000000 in
set_option maxRecDepth 100000 in
theorem kX11_lacks (l : Launch) (D : va_G) (q : Nat → Nat) (cA : Nat → ClassId)  (h : Int32)  : zMi l D vwCl (zMtys cA) 25 q (zMd q cA) yX11_lacks cX11_lacks 4 (some .int) ({ frames := 2, cells := 0, slots := 0, locals := 47 } : Room) [.ref (q 0), .int (h)] (zMI0, zMR0, zMJ0) (fun r _ => r = (-2)) := by
  intro sz
  refine z_body (by decide +kernel) (Nat.le_of_ble_eq_true rfl) (fun p e s m below meth c ls hx hb hml hr ht hown hlocks hsz hK hP hD hS hl => ?_)
  have hA : ∀ a, s.heap.size ≤ a → zA 25 q sz a := fun a h => Or.inr (hsz ▸ h)
  have hl : lv_has ls 4 [(0, .ref (q 0)), (1, .int (h))] := hl
  refine lv_aload_n hx hb dX11_lacks_0 rfl (lv_at hl 0 rfl) ?_
  refine lv_iload_n hx hb dX11_lacks_1 rfl (lv_at hl 1 rfl) ?_
  refine lv_i2l (v := (h).toInt64) hx hb dX11_lacks_2 rfl ?_
  refine z_callVi (k := 0) (As := [.long ((h).toInt64)]) (rest := []) hx hb hml hown ht (kX11_isHouse l D q cA ((h).toInt64)) hw_6_176 hmX11_isHouse ⟨rfl, rfl⟩ (na := 1) rfl (by decide +kernel) (by decide) (by decide) rfl rfl hK hP hD hS hA hl.1 rfl (Nat.le_of_ble_eq_true rfl) ⟨Nat.zero_le _, Nat.zero_le _⟩ dX11_lacks_3 (fun r_1 I_1 R_1 J_1 H locs hp_1 hP hD hS _ _ => ?_)
  obtain ⟨rfl, hu_1⟩ := hp_1
  cases hu_1
  refine lv_if_ne (tgt := 12) hx hb dX11_lacks_6 (by decide) (fun c_0 => absurd (by decide +kernel) c_0) (fun _ => ?_)
  refine lv_bipush (v := (-2)) hx hb dX11_lacks_9 (by decide +kernel) ?_
  exact z_iret (v := (-2)) hx hb hr hlocks hP hD hS dX11_lacks_11 rfl
set_option maxHeartbeats 4000000 in
set_option maxRecDepth 100000 in
theorem kX11_needs_ (l : Launch) (D : va_G) (q : Nat → Nat) (cA : Nat → ClassId)  (h : Int32)  : zMi l D vwCl (zMtys cA) 25 q (zMd q cA) yX11_needs_ cX11_needs_ 3 (some .int) ({ frames := 2, cells := 0, slots := 0, locals := 47 } : Room) [.ref (q 0), .int (h)] (zMI0, zMR0, zMJ0) (fun r _ => r = (-2)) := by
  intro sz
  refine z_body (by decide +kernel) (Nat.le_of_ble_eq_true rfl) (fun p e s m below meth c ls hx hb hml hr ht hown hlocks hsz hK hP hD hS hl => ?_)
  have hA : ∀ a, s.heap.size ≤ a → zA 25 q sz a := fun a h => Or.inr (hsz ▸ h)
  have hl : lv_has ls 3 [(0, .ref (q 0)), (1, .int (h))] := hl
  refine lv_aload_n hx hb dX11_needs__0 rfl (lv_at hl 0 rfl) ?_
  refine lv_iload_n hx hb dX11_needs__1 rfl (lv_at hl 1 rfl) ?_
  refine lv_i2l (v := (h).toInt64) hx hb dX11_needs__2 rfl ?_
  refine z_callVi (k := 0) (As := [.long ((h).toInt64)]) (rest := []) hx hb hml hown ht (kX11_isHouse l D q cA ((h).toInt64)) hw_6_176 hmX11_isHouse ⟨rfl, rfl⟩ (na := 1) rfl (by decide +kernel) (by decide) (by decide) rfl rfl hK hP hD hS hA hl.1 rfl (Nat.le_of_ble_eq_true rfl) ⟨Nat.zero_le _, Nat.zero_le _⟩ dX11_needs__3 (fun r_1 I_1 R_1 J_1 H locs hp_1 hP hD hS _ _ => ?_)
  obtain ⟨rfl, hu_1⟩ := hp_1
  cases hu_1
  refine lv_if_ne (tgt := 12) hx hb dX11_needs__6 (by decide) (fun c_0 => absurd (by decide +kernel) c_0) (fun _ => ?_)
  refine lv_bipush (v := (-2)) hx hb dX11_needs__9 (by decide +kernel) ?_
  exact z_iret (v := (-2)) hx hb hr hlocks hP hD hS dX11_needs__11 rfl
set_option maxHeartbeats 4000000 in
set_option maxRecDepth 100000 in
theorem kX11_fails (l : Launch) (D : va_G) (q : Nat → Nat) (cA : Nat → ClassId)  (n : Int32)  : zMi l D vwCl (zMtys cA) 25 q (zMd q cA) yX11_fails cX11_fails 2 (some .int) ({ frames := 1, cells := 0, slots := 0, locals := 20 } : Room) [.ref (q 0), .int (n)] (zMI0, zMR0, zMJ0) (fun r _ => r = (-2)) := by
  intro sz
  refine z_body (by decide +kernel) (Nat.le_of_ble_eq_true rfl) (fun p e s m below meth c ls hx hb hml hr ht hown hlocks hsz hK hP hD hS hl => ?_)
  have hA : ∀ a, s.heap.size ≤ a → zA 25 q sz a := fun a h => Or.inr (hsz ▸ h)
  have hl : lv_has ls 2 [(0, .ref (q 0)), (1, .int (n))] := hl
  refine lv_aload_n hx hb dX11_fails_0 rfl (lv_at hl 0 rfl) ?_
  refine z_callVi (k := 0) (As := []) (rest := []) hx hb hml hown ht (kX11_isCity l D q cA ) hw_7_75 hmX11_isCity ⟨rfl, rfl⟩ (na := 0) rfl (by decide +kernel) (by decide) (by decide) rfl rfl hK hP hD hS hA hl.1 rfl (Nat.le_of_ble_eq_true rfl) ⟨Nat.zero_le _, Nat.zero_le _⟩ dX11_fails_1 (fun r_1 I_1 R_1 J_1 H locs hp_1 hP hD hS _ _ => ?_)
  obtain ⟨rfl, hu_1⟩ := hp_1
  cases hu_1
  refine lv_if_eq (tgt := 22) hx hb dX11_fails_4 (by decide) (fun _ => ?_) (fun c_0 => absurd (by decide +kernel) c_0)
  refine lv_bipush (v := (-2)) hx hb dX11_fails_22 (by decide +kernel) ?_
  exact z_iret (v := (-2)) hx hb hr hlocks hP hD hS dX11_fails_24 rfl
set_option maxHeartbeats 4000000 in
set_option maxRecDepth 100000 in
theorem kX11_later (l : Launch) (D : va_G) (q : Nat → Nat) (cA : Nat → ClassId)  (t : Int32) (n : Int32)  : zMi l D vwCl (zMtys cA) 25 q (zMd q cA) yX11_later cX11_later 3 (some .int) ({ frames := 2, cells := 0, slots := 0, locals := 47 } : Room) [.ref (q 0), .int (t), .int (n)] (zMI0, zMR0, zMJ0) (fun r _ => r = (-2)) := by
  intro sz
  refine z_body (by decide +kernel) (Nat.le_of_ble_eq_true rfl) (fun p e s m below meth c ls hx hb hml hr ht hown hlocks hsz hK hP hD hS hl => ?_)
  have hA : ∀ a, s.heap.size ≤ a → zA 25 q sz a := fun a h => Or.inr (hsz ▸ h)
  have hl : lv_has ls 3 [(0, .ref (q 0)), (1, .int (t)), (2, .int (n))] := hl
  refine lv_aload_n hx hb dX11_later_0 rfl (lv_at hl 0 rfl) ?_
  refine lv_iload_n hx hb dX11_later_1 rfl (lv_at hl 1 rfl) ?_
  refine lv_i2l (v := (t).toInt64) hx hb dX11_later_2 rfl ?_
  refine z_callVi (k := 0) (As := [.long ((t).toInt64)]) (rest := []) hx hb hml hown ht (kX11_isThing l D q cA ((t).toInt64)) hw_6_238 hmX11_isThing ⟨rfl, rfl⟩ (na := 1) rfl (by decide +kernel) (by decide) (by decide) rfl rfl hK hP hD hS hA hl.1 rfl (Nat.le_of_ble_eq_true rfl) ⟨Nat.zero_le _, Nat.zero_le _⟩ dX11_later_3 (fun r_1 I_1 R_1 J_1 H locs hp_1 hP hD hS _ _ => ?_)
  obtain ⟨rfl, hu_1⟩ := hp_1
  cases hu_1
  refine lv_if_eq (tgt := 16) hx hb dX11_later_6 (by decide) (fun _ => ?_) (fun c_0 => absurd (by decide +kernel) c_0)
  refine lv_bipush (v := (-2)) hx hb dX11_later_16 (by decide +kernel) ?_
  exact z_iret (v := (-2)) hx hb hr hlocks hP hD hS dX11_later_18 rfl
set_option maxHeartbeats 4000000 in
set_option maxRecDepth 100000 in
theorem kX11_purse (l : Launch) (D : va_G) (q : Nat → Nat) (cA : Nat → ClassId)  (h : Int32) (n : Int32)  : zMi l D vwCl (zMtys cA) 25 q (zMd q cA) yX11_purse cX11_purse 3 (some .int) ({ frames := 2, cells := 0, slots := 0, locals := 47 } : Room) [.ref (q 0), .int (h), .int (n)] (zMI0, zMR0, zMJ0) (fun r _ => r = (-2)) := by
  intro sz
  refine z_body (by decide +kernel) (Nat.le_of_ble_eq_true rfl) (fun p e s m below meth c ls hx hb hml hr ht hown hlocks hsz hK hP hD hS hl => ?_)
  have hA : ∀ a, s.heap.size ≤ a → zA 25 q sz a := fun a h => Or.inr (hsz ▸ h)
  have hl : lv_has ls 3 [(0, .ref (q 0)), (1, .int (h)), (2, .int (n))] := hl
  refine lv_aload_n hx hb dX11_purse_0 rfl (lv_at hl 0 rfl) ?_
  refine lv_iload_n hx hb dX11_purse_1 rfl (lv_at hl 1 rfl) ?_
  refine lv_i2l (v := (h).toInt64) hx hb dX11_purse_2 rfl ?_
  refine z_callVi (k := 0) (As := [.long ((h).toInt64)]) (rest := []) hx hb hml hown ht (kX11_isHouse l D q cA ((h).toInt64)) hw_6_176 hmX11_isHouse ⟨rfl, rfl⟩ (na := 1) rfl (by decide +kernel) (by decide) (by decide) rfl rfl hK hP hD hS hA hl.1 rfl (Nat.le_of_ble_eq_true rfl) ⟨Nat.zero_le _, Nat.zero_le _⟩ dX11_purse_3 (fun r_1 I_1 R_1 J_1 H locs hp_1 hP hD hS _ _ => ?_)
  obtain ⟨rfl, hu_1⟩ := hp_1
  cases hu_1
  refine lv_if_eq (tgt := 16) hx hb dX11_purse_6 (by decide) (fun _ => ?_) (fun c_0 => absurd (by decide +kernel) c_0)
  refine lv_bipush (v := (-2)) hx hb dX11_purse_16 (by decide +kernel) ?_
  exact z_iret (v := (-2)) hx hb hr hlocks hP hD hS dX11_purse_18 rfl
set_option maxHeartbeats 4000000 in
set_option maxRecDepth 100000 in
theorem kX11_run (l : Launch) (D : va_G) (q : Nat → Nat) (cA : Nat → ClassId)    : zMi l D vwCl (zMtys cA) 25 q (zMd q cA) yX11_run cX11_run 4 (some .int) ({ frames := 1, cells := 0, slots := 0, locals := 20 } : Room) [.ref (q 0)] (zMI0, zMR0, zMJ0) (fun r _ => r = (-2)) := by
  intro sz
  refine z_body (by decide +kernel) (Nat.le_of_ble_eq_true rfl) (fun p e s m below meth c ls hx hb hml hr ht hown hlocks hsz hK hP hD hS hl => ?_)
  have hA : ∀ a, s.heap.size ≤ a → zA 25 q sz a := fun a h => Or.inr (hsz ▸ h)
  have hl : lv_has ls 4 [(0, .ref (q 0))] := hl
  refine lv_aload_n hx hb dX11_run_0 rfl (lv_at hl 0 rfl) ?_
  refine z_callVi (k := 0) (As := []) (rest := []) hx hb hml hown ht (kX11_isCity l D q cA ) hw_7_75 hmX11_isCity ⟨rfl, rfl⟩ (na := 0) rfl (by decide +kernel) (by decide) (by decide) rfl rfl hK hP hD hS hA hl.1 rfl (Nat.le_of_ble_eq_true rfl) ⟨Nat.zero_le _, Nat.zero_le _⟩ dX11_run_1 (fun r_1 I_1 R_1 J_1 H locs hp_1 hP hD hS _ _ => ?_)
  obtain ⟨rfl, hu_1⟩ := hp_1
  cases hu_1
  refine lv_if_ne (tgt := 10) hx hb dX11_run_4 (by decide) (fun c_0 => absurd (by decide +kernel) c_0) (fun _ => ?_)
  refine lv_bipush (v := (-2)) hx hb dX11_run_7 (by decide +kernel) ?_
  exact z_iret (v := (-2)) hx hb hr hlocks hP hD hS dX11_run_9 rfl
set_option maxHeartbeats 4000000 in
set_option maxRecDepth 100000 in
theorem kX11_hit (l : Launch) (D : va_G) (q : Nat → Nat) (cA : Nat → ClassId)  (h : Int32)  : zMi l D vwCl (zMtys cA) 25 q (zMd q cA) yX11_hit cX11_hit 2 (some .int) ({ frames := 2, cells := 0, slots := 0, locals := 47 } : Room) [.ref (q 0), .int (h)] (zMI0, zMR0, zMJ0) (fun r _ => r = (-2)) := by
  intro sz
  refine z_body (by decide +kernel) (Nat.le_of_ble_eq_true rfl) (fun p e s m below meth c ls hx hb hml hr ht hown hlocks hsz hK hP hD hS hl => ?_)
  have hA : ∀ a, s.heap.size ≤ a → zA 25 q sz a := fun a h => Or.inr (hsz ▸ h)
  have hl : lv_has ls 2 [(0, .ref (q 0)), (1, .int (h))] := hl
  refine lv_aload_n hx hb dX11_hit_0 rfl (lv_at hl 0 rfl) ?_
  refine lv_iload_n hx hb dX11_hit_1 rfl (lv_at hl 1 rfl) ?_
  refine lv_i2l (v := (h).toInt64) hx hb dX11_hit_2 rfl ?_
  refine z_callVi (k := 0) (As := [.long ((h).toInt64)]) (rest := []) hx hb hml hown ht (kX11_isHouse l D q cA ((h).toInt64)) hw_6_176 hmX11_isHouse ⟨rfl, rfl⟩ (na := 1) rfl (by decide +kernel) (by decide) (by decide) rfl rfl hK hP hD hS hA hl.1 rfl (Nat.le_of_ble_eq_true rfl) ⟨Nat.zero_le _, Nat.zero_le _⟩ dX11_hit_3 (fun r_1 I_1 R_1 J_1 H locs hp_1 hP hD hS _ _ => ?_)
  obtain ⟨rfl, hu_1⟩ := hp_1
  cases hu_1
  refine lv_if_eq (tgt := 17) hx hb dX11_hit_6 (by decide) (fun _ => ?_) (fun c_0 => absurd (by decide +kernel) c_0)
  refine lv_bipush (v := (-2)) hx hb dX11_hit_17 (by decide +kernel) ?_
  exact z_iret (v := (-2)) hx hb hr hlocks hP hD hS dX11_hit_19 rfl
set_option maxHeartbeats 4000000 in
set_option maxRecDepth 100000 in
theorem kX11_hits (l : Launch) (D : va_G) (q : Nat → Nat) (cA : Nat → ClassId)  (h : Int32)  : zMi l D vwCl (zMtys cA) 25 q (zMd q cA) yX11_hits cX11_hits 2 (some .int) ({ frames := 2, cells := 0, slots := 0, locals := 47 } : Room) [.ref (q 0), .int (h)] (zMI0, zMR0, zMJ0) (fun r _ => r = (-2)) := by
  intro sz
  refine z_body (by decide +kernel) (Nat.le_of_ble_eq_true rfl) (fun p e s m below meth c ls hx hb hml hr ht hown hlocks hsz hK hP hD hS hl => ?_)
  have hA : ∀ a, s.heap.size ≤ a → zA 25 q sz a := fun a h => Or.inr (hsz ▸ h)
  have hl : lv_has ls 2 [(0, .ref (q 0)), (1, .int (h))] := hl
  refine lv_aload_n hx hb dX11_hits_0 rfl (lv_at hl 0 rfl) ?_
  refine lv_iload_n hx hb dX11_hits_1 rfl (lv_at hl 1 rfl) ?_
  refine lv_i2l (v := (h).toInt64) hx hb dX11_hits_2 rfl ?_
  refine z_callVi (k := 0) (As := [.long ((h).toInt64)]) (rest := []) hx hb hml hown ht (kX11_isHouse l D q cA ((h).toInt64)) hw_6_176 hmX11_isHouse ⟨rfl, rfl⟩ (na := 1) rfl (by decide +kernel) (by decide) (by decide) rfl rfl hK hP hD hS hA hl.1 rfl (Nat.le_of_ble_eq_true rfl) ⟨Nat.zero_le _, Nat.zero_le _⟩ dX11_hits_3 (fun r_1 I_1 R_1 J_1 H locs hp_1 hP hD hS _ _ => ?_)
  obtain ⟨rfl, hu_1⟩ := hp_1
  cases hu_1
  refine lv_if_ne (tgt := 12) hx hb dX11_hits_6 (by decide) (fun c_0 => absurd (by decide +kernel) c_0) (fun _ => ?_)
  refine lv_bipush (v := (-2)) hx hb dX11_hits_9 (by decide +kernel) ?_
  exact z_iret (v := (-2)) hx hb hr hlocks hP hD hS dX11_hits_11 rfl
set_option maxHeartbeats 4000000 in
set_option maxRecDepth 100000 in
theorem kX11_plan (l : Launch) (D : va_G) (q : Nat → Nat) (cA : Nat → ClassId)  (h : Int32) (n : Int32)  : zMi l D vwCl (zMtys cA) 25 q (zMd q cA) yX11_plan cX11_plan 6 (some .int) ({ frames := 2, cells := 0, slots := 0, locals := 47 } : Room) [.ref (q 0), .int (h), .int (n)] (zMI0, zMR0, zMJ0) (fun r _ => r = (-2)) := by
  intro sz
  refine z_body (by decide +kernel) (Nat.le_of_ble_eq_true rfl) (fun p e s m below meth c ls hx hb hml hr ht hown hlocks hsz hK hP hD hS hl => ?_)
  have hA : ∀ a, s.heap.size ≤ a → zA 25 q sz a := fun a h => Or.inr (hsz ▸ h)
  have hl : lv_has ls 6 [(0, .ref (q 0)), (1, .int (h)), (2, .int (n))] := hl
  refine lv_aload_n hx hb dX11_plan_0 rfl (lv_at hl 0 rfl) ?_
  refine lv_iload_n hx hb dX11_plan_1 rfl (lv_at hl 1 rfl) ?_
  refine lv_i2l (v := (h).toInt64) hx hb dX11_plan_2 rfl ?_
  refine z_callVi (k := 0) (As := [.long ((h).toInt64)]) (rest := []) hx hb hml hown ht (kX11_isHouse l D q cA ((h).toInt64)) hw_6_176 hmX11_isHouse ⟨rfl, rfl⟩ (na := 1) rfl (by decide +kernel) (by decide) (by decide) rfl rfl hK hP hD hS hA hl.1 rfl (Nat.le_of_ble_eq_true rfl) ⟨Nat.zero_le _, Nat.zero_le _⟩ dX11_plan_3 (fun r_1 I_1 R_1 J_1 H locs hp_1 hP hD hS _ _ => ?_)
  obtain ⟨rfl, hu_1⟩ := hp_1
  cases hu_1
  refine lv_if_eq (tgt := 16) hx hb dX11_plan_6 (by decide) (fun _ => ?_) (fun c_0 => absurd (by decide +kernel) c_0)
  refine lv_bipush (v := (-2)) hx hb dX11_plan_16 (by decide +kernel) ?_
  exact z_iret (v := (-2)) hx hb hr hlocks hP hD hS dX11_plan_18 rfl
set_option maxHeartbeats 4000000 in
set_option maxRecDepth 100000 in
theorem kX11_plans (l : Launch) (D : va_G) (q : Nat → Nat) (cA : Nat → ClassId)  (h : Int32) (n : Int32) (i : Int32)  : zMi l D vwCl (zMtys cA) 25 q (zMd q cA) yX11_plans cX11_plans 6 (some .int) ({ frames := 2, cells := 0, slots := 0, locals := 47 } : Room) [.ref (q 0), .int (h), .int (n), .int (i)] (zMI0, zMR0, zMJ0) (fun r _ => r = (-2)) := by
  intro sz
  refine z_body (by decide +kernel) (Nat.le_of_ble_eq_true rfl) (fun p e s m below meth c ls hx hb hml hr ht hown hlocks hsz hK hP hD hS hl => ?_)
  have hA : ∀ a, s.heap.size ≤ a → zA 25 q sz a := fun a h => Or.inr (hsz ▸ h)
  have hl : lv_has ls 6 [(0, .ref (q 0)), (1, .int (h)), (2, .int (n)), (3, .int (i))] := hl
  refine lv_aload_n hx hb dX11_plans_0 rfl (lv_at hl 0 rfl) ?_
  refine lv_iload_n hx hb dX11_plans_1 rfl (lv_at hl 1 rfl) ?_
  refine lv_i2l (v := (h).toInt64) hx hb dX11_plans_2 rfl ?_
  refine z_callVi (k := 0) (As := [.long ((h).toInt64)]) (rest := []) hx hb hml hown ht (kX11_isHouse l D q cA ((h).toInt64)) hw_6_176 hmX11_isHouse ⟨rfl, rfl⟩ (na := 1) rfl (by decide +kernel) (by decide) (by decide) rfl rfl hK hP hD hS hA hl.1 rfl (Nat.le_of_ble_eq_true rfl) ⟨Nat.zero_le _, Nat.zero_le _⟩ dX11_plans_3 (fun r_1 I_1 R_1 J_1 H locs hp_1 hP hD hS _ _ => ?_)
  obtain ⟨rfl, hu_1⟩ := hp_1
  cases hu_1
  refine lv_if_eq (tgt := 16) hx hb dX11_plans_6 (by decide) (fun _ => ?_) (fun c_0 => absurd (by decide +kernel) c_0)
  refine lv_bipush (v := (-2)) hx hb dX11_plans_16 (by decide +kernel) ?_
  exact z_iret (v := (-2)) hx hb hr hlocks hP hD hS dX11_plans_18 rfl
set_option maxHeartbeats 4000000 in
set_option maxRecDepth 100000 in
theorem kX11_change (l : Launch) (D : va_G) (q : Nat → Nat) (cA : Nat → ClassId)  (h : Int32) (o : Int32)  : zMi l D vwCl (zMtys cA) 25 q (zMd q cA) yX11_change cX11_change 5 (some .int) ({ frames := 2, cells := 0, slots := 0, locals := 47 } : Room) [.ref (q 0), .int (h), .int (o)] (zMI0, zMR0, zMJ0) (fun r _ => r = (-2)) := by
  intro sz
  refine z_body (by decide +kernel) (Nat.le_of_ble_eq_true rfl) (fun p e s m below meth c ls hx hb hml hr ht hown hlocks hsz hK hP hD hS hl => ?_)
  have hA : ∀ a, s.heap.size ≤ a → zA 25 q sz a := fun a h => Or.inr (hsz ▸ h)
  have hl : lv_has ls 5 [(0, .ref (q 0)), (1, .int (h)), (2, .int (o))] := hl
  refine lv_aload_n hx hb dX11_change_0 rfl (lv_at hl 0 rfl) ?_
  refine lv_iload_n hx hb dX11_change_1 rfl (lv_at hl 1 rfl) ?_
  refine lv_i2l (v := (h).toInt64) hx hb dX11_change_2 rfl ?_
  refine z_callVi (k := 0) (As := [.long ((h).toInt64)]) (rest := []) hx hb hml hown ht (kX11_isHouse l D q cA ((h).toInt64)) hw_6_176 hmX11_isHouse ⟨rfl, rfl⟩ (na := 1) rfl (by decide +kernel) (by decide) (by decide) rfl rfl hK hP hD hS hA hl.1 rfl (Nat.le_of_ble_eq_true rfl) ⟨Nat.zero_le _, Nat.zero_le _⟩ dX11_change_3 (fun r_1 I_1 R_1 J_1 H locs hp_1 hP hD hS _ _ => ?_)
  obtain ⟨rfl, hu_1⟩ := hp_1
  cases hu_1
  refine lv_if_eq (tgt := 23) hx hb dX11_change_6 (by decide) (fun _ => ?_) (fun c_0 => absurd (by decide +kernel) c_0)
  refine lv_bipush (v := (-2)) hx hb dX11_change_23 (by decide +kernel) ?_
  exact z_iret (v := (-2)) hx hb hr hlocks hP hD hS dX11_change_25 rfl
set_option maxHeartbeats 4000000 in
set_option maxRecDepth 100000 in
theorem kX11_deal (l : Launch) (D : va_G) (q : Nat → Nat) (cA : Nat → ClassId)    : zMi l D vwCl (zMtys cA) 25 q (zMd q cA) yX11_deal cX11_deal 1 (some .int) ({ frames := 1, cells := 0, slots := 0, locals := 20 } : Room) [.ref (q 0)] (zMI0, zMR0, zMJ0) (fun r _ => r = (-2)) := by
  intro sz
  refine z_body (by decide +kernel) (Nat.le_of_ble_eq_true rfl) (fun p e s m below meth c ls hx hb hml hr ht hown hlocks hsz hK hP hD hS hl => ?_)
  have hA : ∀ a, s.heap.size ≤ a → zA 25 q sz a := fun a h => Or.inr (hsz ▸ h)
  have hl : lv_has ls 1 [(0, .ref (q 0))] := hl
  refine lv_aload_n hx hb dX11_deal_0 rfl (lv_at hl 0 rfl) ?_
  refine z_callVi (k := 0) (As := []) (rest := []) hx hb hml hown ht (kX11_isCity l D q cA ) hw_7_75 hmX11_isCity ⟨rfl, rfl⟩ (na := 0) rfl (by decide +kernel) (by decide) (by decide) rfl rfl hK hP hD hS hA hl.1 rfl (Nat.le_of_ble_eq_true rfl) ⟨Nat.zero_le _, Nat.zero_le _⟩ dX11_deal_1 (fun r_1 I_1 R_1 J_1 H locs hp_1 hP hD hS _ _ => ?_)
  obtain ⟨rfl, hu_1⟩ := hp_1
  cases hu_1
  refine lv_if_eq (tgt := 14) hx hb dX11_deal_4 (by decide) (fun _ => ?_) (fun c_0 => absurd (by decide +kernel) c_0)
  refine lv_bipush (v := (-2)) hx hb dX11_deal_14 (by decide +kernel) ?_
  exact z_iret (v := (-2)) hx hb hr hlocks hP hD hS dX11_deal_16 rfl
set_option maxHeartbeats 4000000 in
set_option maxRecDepth 100000 in
theorem kX11_deals (l : Launch) (D : va_G) (q : Nat → Nat) (cA : Nat → ClassId)  (t : Int32)  : zMi l D vwCl (zMtys cA) 25 q (zMd q cA) yX11_deals cX11_deals 6 (some .int) ({ frames := 2, cells := 0, slots := 0, locals := 47 } : Room) [.ref (q 0), .int (t)] (zMI0, zMR0, zMJ0) (fun r _ => r = (-2)) := by
  intro sz
  refine z_body (by decide +kernel) (Nat.le_of_ble_eq_true rfl) (fun p e s m below meth c ls hx hb hml hr ht hown hlocks hsz hK hP hD hS hl => ?_)
  have hA : ∀ a, s.heap.size ≤ a → zA 25 q sz a := fun a h => Or.inr (hsz ▸ h)
  have hl : lv_has ls 6 [(0, .ref (q 0)), (1, .int (t))] := hl
  refine lv_aload_n hx hb dX11_deals_0 rfl (lv_at hl 0 rfl) ?_
  refine lv_iload_n hx hb dX11_deals_1 rfl (lv_at hl 1 rfl) ?_
  refine lv_i2l (v := (t).toInt64) hx hb dX11_deals_2 rfl ?_
  refine z_callVi (k := 0) (As := [.long ((t).toInt64)]) (rest := []) hx hb hml hown ht (kX11_isThing l D q cA ((t).toInt64)) hw_6_238 hmX11_isThing ⟨rfl, rfl⟩ (na := 1) rfl (by decide +kernel) (by decide) (by decide) rfl rfl hK hP hD hS hA hl.1 rfl (Nat.le_of_ble_eq_true rfl) ⟨Nat.zero_le _, Nat.zero_le _⟩ dX11_deals_3 (fun r_1 I_1 R_1 J_1 H locs hp_1 hP hD hS _ _ => ?_)
  obtain ⟨rfl, hu_1⟩ := hp_1
  cases hu_1
  refine lv_if_ne (tgt := 12) hx hb dX11_deals_6 (by decide) (fun c_0 => absurd (by decide +kernel) c_0) (fun _ => ?_)
  refine lv_bipush (v := (-2)) hx hb dX11_deals_9 (by decide +kernel) ?_
  exact z_iret (v := (-2)) hx hb hr hlocks hP hD hS dX11_deals_11 rfl
set_option maxHeartbeats 4000000 in
set_option maxRecDepth 100000 in
theorem kX11_dear (l : Launch) (D : va_G) (q : Nat → Nat) (cA : Nat → ClassId)    : zMi l D vwCl (zMtys cA) 25 q (zMd q cA) yX11_dear cX11_dear 2 (some .int) ({ frames := 1, cells := 0, slots := 0, locals := 20 } : Room) [.ref (q 0)] (zMI0, zMR0, zMJ0) (fun r _ => r = (-2)) := by
  intro sz
  refine z_body (by decide +kernel) (Nat.le_of_ble_eq_true rfl) (fun p e s m below meth c ls hx hb hml hr ht hown hlocks hsz hK hP hD hS hl => ?_)
  have hA : ∀ a, s.heap.size ≤ a → zA 25 q sz a := fun a h => Or.inr (hsz ▸ h)
  have hl : lv_has ls 2 [(0, .ref (q 0))] := hl
  refine lv_aload_n hx hb dX11_dear_0 rfl (lv_at hl 0 rfl) ?_
  refine z_callVi (k := 0) (As := []) (rest := []) hx hb hml hown ht (kX11_isCity l D q cA ) hw_7_75 hmX11_isCity ⟨rfl, rfl⟩ (na := 0) rfl (by decide +kernel) (by decide) (by decide) rfl rfl hK hP hD hS hA hl.1 rfl (Nat.le_of_ble_eq_true rfl) ⟨Nat.zero_le _, Nat.zero_le _⟩ dX11_dear_1 (fun r_1 I_1 R_1 J_1 H locs hp_1 hP hD hS _ _ => ?_)
  obtain ⟨rfl, hu_1⟩ := hp_1
  cases hu_1
  refine lv_if_ne (tgt := 10) hx hb dX11_dear_4 (by decide) (fun c_0 => absurd (by decide +kernel) c_0) (fun _ => ?_)
  refine lv_bipush (v := (-2)) hx hb dX11_dear_7 (by decide +kernel) ?_
  exact z_iret (v := (-2)) hx hb hr hlocks hP hD hS dX11_dear_9 rfl
set_option maxHeartbeats 4000000 in
set_option maxRecDepth 100000 in
theorem kX11_rate (l : Launch) (D : va_G) (q : Nat → Nat) (cA : Nat → ClassId)  (t : Int32) (n : Int32)  : zMi l D vwCl (zMtys cA) 25 q (zMd q cA) yX11_rate cX11_rate 3 (some .int) ({ frames := 2, cells := 0, slots := 0, locals := 47 } : Room) [.ref (q 0), .int (t), .int (n)] (zMI0, zMR0, zMJ0) (fun r _ => r = (-2)) := by
  intro sz
  refine z_body (by decide +kernel) (Nat.le_of_ble_eq_true rfl) (fun p e s m below meth c ls hx hb hml hr ht hown hlocks hsz hK hP hD hS hl => ?_)
  have hA : ∀ a, s.heap.size ≤ a → zA 25 q sz a := fun a h => Or.inr (hsz ▸ h)
  have hl : lv_has ls 3 [(0, .ref (q 0)), (1, .int (t)), (2, .int (n))] := hl
  refine lv_aload_n hx hb dX11_rate_0 rfl (lv_at hl 0 rfl) ?_
  refine lv_iload_n hx hb dX11_rate_1 rfl (lv_at hl 1 rfl) ?_
  refine lv_i2l (v := (t).toInt64) hx hb dX11_rate_2 rfl ?_
  refine z_callVi (k := 0) (As := [.long ((t).toInt64)]) (rest := []) hx hb hml hown ht (kX11_isThing l D q cA ((t).toInt64)) hw_6_238 hmX11_isThing ⟨rfl, rfl⟩ (na := 1) rfl (by decide +kernel) (by decide) (by decide) rfl rfl hK hP hD hS hA hl.1 rfl (Nat.le_of_ble_eq_true rfl) ⟨Nat.zero_le _, Nat.zero_le _⟩ dX11_rate_3 (fun r_1 I_1 R_1 J_1 H locs hp_1 hP hD hS _ _ => ?_)
  obtain ⟨rfl, hu_1⟩ := hp_1
  cases hu_1
  refine lv_if_eq (tgt := 37) hx hb dX11_rate_6 (by decide) (fun _ => ?_) (fun c_0 => absurd (by decide +kernel) c_0)
  refine lv_bipush (v := (-2)) hx hb dX11_rate_37 (by decide +kernel) ?_
  exact z_iret (v := (-2)) hx hb hr hlocks hP hD hS dX11_rate_39 rfl
set_option maxHeartbeats 4000000 in
set_option maxRecDepth 100000 in
theorem kX11_want (l : Launch) (D : va_G) (q : Nat → Nat) (cA : Nat → ClassId)  (h : Int32) (t : Int32) (n : Int32)  : zMi l D vwCl (zMtys cA) 25 q (zMd q cA) yX11_want cX11_want 4 (some .int) ({ frames := 2, cells := 0, slots := 0, locals := 47 } : Room) [.ref (q 0), .int (h), .int (t), .int (n)] (zMI0, zMR0, zMJ0) (fun r _ => r = (-2)) := by
  intro sz
  refine z_body (by decide +kernel) (Nat.le_of_ble_eq_true rfl) (fun p e s m below meth c ls hx hb hml hr ht hown hlocks hsz hK hP hD hS hl => ?_)
  have hA : ∀ a, s.heap.size ≤ a → zA 25 q sz a := fun a h => Or.inr (hsz ▸ h)
  have hl : lv_has ls 4 [(0, .ref (q 0)), (1, .int (h)), (2, .int (t)), (3, .int (n))] := hl
  refine lv_aload_n hx hb dX11_want_0 rfl (lv_at hl 0 rfl) ?_
  refine lv_iload_n hx hb dX11_want_1 rfl (lv_at hl 1 rfl) ?_
  refine lv_i2l (v := (h).toInt64) hx hb dX11_want_2 rfl ?_
  refine z_callVi (k := 0) (As := [.long ((h).toInt64)]) (rest := []) hx hb hml hown ht (kX11_isHouse l D q cA ((h).toInt64)) hw_6_176 hmX11_isHouse ⟨rfl, rfl⟩ (na := 1) rfl (by decide +kernel) (by decide) (by decide) rfl rfl hK hP hD hS hA hl.1 rfl (Nat.le_of_ble_eq_true rfl) ⟨Nat.zero_le _, Nat.zero_le _⟩ dX11_want_3 (fun r_1 I_1 R_1 J_1 H locs hp_1 hP hD hS _ _ => ?_)
  obtain ⟨rfl, hu_1⟩ := hp_1
  cases hu_1
  refine lv_if_eq (tgt := 47) hx hb dX11_want_6 (by decide) (fun _ => ?_) (fun c_0 => absurd (by decide +kernel) c_0)
  refine lv_bipush (v := (-2)) hx hb dX11_want_47 (by decide +kernel) ?_
  exact z_iret (v := (-2)) hx hb hr hlocks hP hD hS dX11_want_49 rfl
set_option maxHeartbeats 4000000 in
set_option maxRecDepth 100000 in
theorem kX11_isCity_g (l : Launch) (D : va_G) (q : Nat → Nat) (cA : Nat → ClassId) (I R : Nat → Nat → Int32) (J : Nat → Nat → Int64)  (hR : R 1 = zMR0 1) : zMi l D vwCl (zMtys cA) 25 q (zMd q cA) yX11_isCity cX11_isCity 1 (some .boolean) ({ frames := 0, cells := 0, slots := 0, locals := 0 } : Room) [.ref (q 0)] (I, R, J) (fun r u => r = nI 0 ∧ u = (I, R, J)) := by
  intro sz
  refine z_body (by decide +kernel) (Nat.le_of_ble_eq_true rfl) (fun p e s m below meth c ls hx hb hml hr ht hown hlocks hsz hK hP hD hS hl => ?_)
  have hA : ∀ a, s.heap.size ≤ a → zA 25 q sz a := fun a h => Or.inr (hsz ▸ h)
  have hl : lv_has ls 1 [(0, .ref (q 0))] := hl
  refine lv_aload_n hx hb dX11_isCity_0 rfl (lv_at hl 0 rfl) ?_
  refine z_get hx hb ht hown hK hP ziX11 rfl 0 (by decide) 1 (by decide) hw_5_188 rfl (v := .ref (q 1)) rfl dX11_isCity_1 ?_
  refine lv_iconst (v := nI 5) hx hb dX11_isCity_4 (by decide +kernel) ?_
  refine z_iald hx hb hK hP 1 (by decide) 0 rfl rfl (vp_in_nI (by omega) (by decide)) dX11_isCity_5 ?_
  refine z_eqi (y := nI 0) (by rw [hR]; rfl) ?_
  refine lv_if_le (tgt := 13) hx hb dX11_isCity_6 (by decide) (fun _ => ?_) (fun c_0 => absurd (by decide +kernel) c_0)
  refine lv_iconst (v := nI 0) hx hb dX11_isCity_13 (by decide +kernel) ?_
  exact z_zret (v := nI 0) hx hb hr hlocks hP hD hS (by decide +kernel) dX11_isCity_14 ⟨rfl, rfl⟩
set_option maxHeartbeats 4000000 in
set_option maxRecDepth 100000 in
theorem kX11_asItIs (l : Launch) (D : va_G) (q : Nat → Nat) (cA : Nat → ClassId)    : zMv l D vwCl (zMtys cA) 25 q (zMd q cA) yX11_asItIs cX11_asItIs 2 none ({ frames := 0, cells := 0, slots := 0, locals := 0 } : Room) [.ref (q 0)] (zMI0, zMR0, zMJ0) (fun u => u.1 0 26 = nI 0 ∧ u.2.1 1 = zMR0 1) := by
  intro sz
  refine z_body (by decide +kernel) (Nat.le_of_ble_eq_true rfl) (fun p e s m below meth c ls hx hb hml hr ht hown hlocks hsz hK hP hD hS hl => ?_)
  have hA : ∀ a, s.heap.size ≤ a → zA 25 q sz a := fun a h => Or.inr (hsz ▸ h)
  have hl : lv_has ls 2 [(0, .ref (q 0))] := hl
  refine lv_aload_n hx hb dX11_asItIs_0 rfl (lv_at hl 0 rfl) ?_
  refine lv_iconst (v := nI 0) hx hb dX11_asItIs_1 (by decide +kernel) ?_
  refine z_putI hx hb ht hown hK hP hD hS ziX11 tyX11 tyX11_ok nmX11 rfl 0 (by decide) 26 (by decide) hw_5_213 rfl (v := nI 0) rfl rfl rfl (Nat.le_of_ble_eq_true rfl) rfl dX11_asItIs_2 (fun H locs hP hD hS => ?_)
  refine lv_aload_n hx hb dX11_asItIs_5 rfl (lv_at hl 0 rfl) ?_
  refine lv_iconst (v := nI 0) hx hb dX11_asItIs_6 (by decide +kernel) ?_
  refine z_putI hx hb ht hown hK hP hD hS ziX11 tyX11 tyX11_ok nmX11 rfl 0 (by decide) 27 (by decide) hw_5_214 rfl (v := nI 0) rfl rfl rfl (Nat.le_of_ble_eq_true rfl) rfl dX11_asItIs_7 (fun H locs hP hD hS => ?_)
  refine lv_aload_n hx hb dX11_asItIs_10 rfl (lv_at hl 0 rfl) ?_
  refine lv_iconst (v := (-1)) hx hb dX11_asItIs_11 (by decide +kernel) ?_
  refine z_putI hx hb ht hown hK hP hD hS ziX11 tyX11 tyX11_ok nmX11 rfl 0 (by decide) 29 (by decide) hw_5_216 rfl (v := (-1)) rfl rfl rfl (Nat.le_of_ble_eq_true rfl) rfl dX11_asItIs_12 (fun H locs hP hD hS => ?_)
  refine lv_iconst (v := nI 0) hx hb dX11_asItIs_15 (by decide +kernel) ?_
  refine lv_istore_n (lv' := [(1, .int (nI 0)), (0, .ref (q 0))]) hx hb dX11_asItIs_16 rfl hl (by decide) rfl (fun ls hl => ?_)
  refine lv_iload_n hx hb dX11_asItIs_17 rfl (lv_at hl 0 rfl) ?_
  refine lv_iconst (v := nI 5) hx hb dX11_asItIs_18 (by decide +kernel) ?_
  refine lv_icmp_ge (tgt := 64) hx hb dX11_asItIs_19 (by decide) (fun c_0 => absurd c_0 (by decide +kernel)) (fun _ => ?_)
  refine lv_aload_n hx hb dX11_asItIs_22 rfl (lv_at hl 1 rfl) ?_
  refine z_get hx hb ht hown hK hP ziX11 rfl 0 (by decide) 15 (by decide) hw_5_202 rfl (v := .ref (q 7)) rfl dX11_asItIs_23 ?_
  refine lv_iload_n hx hb dX11_asItIs_26 rfl (lv_at hl 0 rfl) ?_
  refine lv_aload_n hx hb dX11_asItIs_27 rfl (lv_at hl 1 rfl) ?_
  refine z_get hx hb ht hown hK hP ziX11 rfl 0 (by decide) 1 (by decide) hw_5_188 rfl (v := .ref (q 1)) rfl dX11_asItIs_28 ?_
  refine lv_bipush (v := nI 7) hx hb dX11_asItIs_31 (by decide +kernel) ?_
  refine lv_iconst (v := nI 2) hx hb dX11_asItIs_33 (by decide +kernel) ?_
  refine lv_iload_n hx hb dX11_asItIs_34 rfl (lv_at hl 0 rfl) ?_
  refine lv_imul hx hb dX11_asItIs_35 ?_
  refine z_eqi (y := nI 0) (by decide +kernel) ?_
  refine lv_iadd hx hb dX11_asItIs_36 ?_
  refine z_eqi (y := nI 7) (by decide +kernel) ?_
  refine z_iald hx hb hK hP 1 (by decide) 0 rfl rfl (vp_in_nI (by omega) (by decide)) dX11_asItIs_37 ?_
  refine z_eqi (y := nI 0) rfl ?_
  refine z_iast hx hb hK hP hD hS 7 (by decide) 6 (fun _ => rfl) rfl (vp_in_nI (by omega) (by decide)) dX11_asItIs_38 (fun H locs hP hD hS => ?_)
  refine lv_aload_n hx hb dX11_asItIs_39 rfl (lv_at hl 1 rfl) ?_
  refine z_get hx hb ht hown hK hP ziX11 rfl 0 (by decide) 16 (by decide) hw_5_203 rfl (v := .ref (q 8)) rfl dX11_asItIs_40 ?_
  refine lv_iload_n hx hb dX11_asItIs_43 rfl (lv_at hl 0 rfl) ?_
  refine lv_aload_n hx hb dX11_asItIs_44 rfl (lv_at hl 1 rfl) ?_
  refine z_get hx hb ht hown hK hP ziX11 rfl 0 (by decide) 1 (by decide) hw_5_188 rfl (v := .ref (q 1)) rfl dX11_asItIs_45 ?_
  refine lv_bipush (v := nI 7) hx hb dX11_asItIs_48 (by decide +kernel) ?_
  refine lv_iconst (v := nI 2) hx hb dX11_asItIs_50 (by decide +kernel) ?_
  refine lv_iload_n hx hb dX11_asItIs_51 rfl (lv_at hl 0 rfl) ?_
  refine lv_imul hx hb dX11_asItIs_52 ?_
  refine z_eqi (y := nI 0) (by decide +kernel) ?_
  refine lv_iadd hx hb dX11_asItIs_53 ?_
  refine z_eqi (y := nI 7) (by decide +kernel) ?_
  refine lv_iconst (v := nI 1) hx hb dX11_asItIs_54 (by decide +kernel) ?_
  refine lv_iadd hx hb dX11_asItIs_55 ?_
  refine z_eqi (y := nI 8) (by decide +kernel) ?_
  refine z_iald hx hb hK hP 1 (by decide) 0 rfl rfl (vp_in_nI (by omega) (by decide)) dX11_asItIs_56 ?_
  refine z_eqi (y := nI 0) rfl ?_
  refine z_iast hx hb hK hP hD hS 8 (by decide) 7 (fun _ => rfl) rfl (vp_in_nI (by omega) (by decide)) dX11_asItIs_57 (fun H locs hP hD hS => ?_)
  refine lv_iinc (v := nI 1) (lv' := [(1, .int (nI 1)), (0, .ref (q 0))]) hx hb dX11_asItIs_58 hl (k := 0) rfl (by decide +kernel) (by decide) rfl (fun ls hl => ?_)
  refine lv_goto (tgt := 17) hx hb dX11_asItIs_61 (by decide) ?_
  refine lv_iload_n hx hb dX11_asItIs_17 rfl (lv_at hl 0 rfl) ?_
  refine lv_iconst (v := nI 5) hx hb dX11_asItIs_18 (by decide +kernel) ?_
  refine lv_icmp_ge (tgt := 64) hx hb dX11_asItIs_19 (by decide) (fun c_0 => absurd c_0 (by decide +kernel)) (fun _ => ?_)
  refine lv_aload_n hx hb dX11_asItIs_22 rfl (lv_at hl 1 rfl) ?_
  refine z_get hx hb ht hown hK hP ziX11 rfl 0 (by decide) 15 (by decide) hw_5_202 rfl (v := .ref (q 7)) rfl dX11_asItIs_23 ?_
  refine lv_iload_n hx hb dX11_asItIs_26 rfl (lv_at hl 0 rfl) ?_
  refine lv_aload_n hx hb dX11_asItIs_27 rfl (lv_at hl 1 rfl) ?_
  refine z_get hx hb ht hown hK hP ziX11 rfl 0 (by decide) 1 (by decide) hw_5_188 rfl (v := .ref (q 1)) rfl dX11_asItIs_28 ?_
  refine lv_bipush (v := nI 7) hx hb dX11_asItIs_31 (by decide +kernel) ?_
  refine lv_iconst (v := nI 2) hx hb dX11_asItIs_33 (by decide +kernel) ?_
  refine lv_iload_n hx hb dX11_asItIs_34 rfl (lv_at hl 0 rfl) ?_
  refine lv_imul hx hb dX11_asItIs_35 ?_
  refine z_eqi (y := nI 2) (by decide +kernel) ?_
  refine lv_iadd hx hb dX11_asItIs_36 ?_
  refine z_eqi (y := nI 9) (by decide +kernel) ?_
  refine z_iald hx hb hK hP 1 (by decide) 0 rfl rfl (vp_in_nI (by omega) (by decide)) dX11_asItIs_37 ?_
  refine z_eqi (y := nI 0) rfl ?_
  refine z_iast hx hb hK hP hD hS 7 (by decide) 6 (fun _ => rfl) rfl (vp_in_nI (by omega) (by decide)) dX11_asItIs_38 (fun H locs hP hD hS => ?_)
  refine lv_aload_n hx hb dX11_asItIs_39 rfl (lv_at hl 1 rfl) ?_
  refine z_get hx hb ht hown hK hP ziX11 rfl 0 (by decide) 16 (by decide) hw_5_203 rfl (v := .ref (q 8)) rfl dX11_asItIs_40 ?_
  refine lv_iload_n hx hb dX11_asItIs_43 rfl (lv_at hl 0 rfl) ?_
  refine lv_aload_n hx hb dX11_asItIs_44 rfl (lv_at hl 1 rfl) ?_
  refine z_get hx hb ht hown hK hP ziX11 rfl 0 (by decide) 1 (by decide) hw_5_188 rfl (v := .ref (q 1)) rfl dX11_asItIs_45 ?_
  refine lv_bipush (v := nI 7) hx hb dX11_asItIs_48 (by decide +kernel) ?_
  refine lv_iconst (v := nI 2) hx hb dX11_asItIs_50 (by decide +kernel) ?_
  refine lv_iload_n hx hb dX11_asItIs_51 rfl (lv_at hl 0 rfl) ?_
  refine lv_imul hx hb dX11_asItIs_52 ?_
  refine z_eqi (y := nI 2) (by decide +kernel) ?_
  refine lv_iadd hx hb dX11_asItIs_53 ?_
  refine z_eqi (y := nI 9) (by decide +kernel) ?_
  refine lv_iconst (v := nI 1) hx hb dX11_asItIs_54 (by decide +kernel) ?_
  refine lv_iadd hx hb dX11_asItIs_55 ?_
  refine z_eqi (y := nI 10) (by decide +kernel) ?_
  refine z_iald hx hb hK hP 1 (by decide) 0 rfl rfl (vp_in_nI (by omega) (by decide)) dX11_asItIs_56 ?_
  refine z_eqi (y := nI 0) rfl ?_
  refine z_iast hx hb hK hP hD hS 8 (by decide) 7 (fun _ => rfl) rfl (vp_in_nI (by omega) (by decide)) dX11_asItIs_57 (fun H locs hP hD hS => ?_)
  refine lv_iinc (v := nI 2) (lv' := [(1, .int (nI 2)), (0, .ref (q 0))]) hx hb dX11_asItIs_58 hl (k := 0) rfl (by decide +kernel) (by decide) rfl (fun ls hl => ?_)
  refine lv_goto (tgt := 17) hx hb dX11_asItIs_61 (by decide) ?_
  refine lv_iload_n hx hb dX11_asItIs_17 rfl (lv_at hl 0 rfl) ?_
  refine lv_iconst (v := nI 5) hx hb dX11_asItIs_18 (by decide +kernel) ?_
  refine lv_icmp_ge (tgt := 64) hx hb dX11_asItIs_19 (by decide) (fun c_0 => absurd c_0 (by decide +kernel)) (fun _ => ?_)
  refine lv_aload_n hx hb dX11_asItIs_22 rfl (lv_at hl 1 rfl) ?_
  refine z_get hx hb ht hown hK hP ziX11 rfl 0 (by decide) 15 (by decide) hw_5_202 rfl (v := .ref (q 7)) rfl dX11_asItIs_23 ?_
  refine lv_iload_n hx hb dX11_asItIs_26 rfl (lv_at hl 0 rfl) ?_
  refine lv_aload_n hx hb dX11_asItIs_27 rfl (lv_at hl 1 rfl) ?_
  refine z_get hx hb ht hown hK hP ziX11 rfl 0 (by decide) 1 (by decide) hw_5_188 rfl (v := .ref (q 1)) rfl dX11_asItIs_28 ?_
  refine lv_bipush (v := nI 7) hx hb dX11_asItIs_31 (by decide +kernel) ?_
  refine lv_iconst (v := nI 2) hx hb dX11_asItIs_33 (by decide +kernel) ?_
  refine lv_iload_n hx hb dX11_asItIs_34 rfl (lv_at hl 0 rfl) ?_
  refine lv_imul hx hb dX11_asItIs_35 ?_
  refine z_eqi (y := nI 4) (by decide +kernel) ?_
  refine lv_iadd hx hb dX11_asItIs_36 ?_
  refine z_eqi (y := nI 11) (by decide +kernel) ?_
  refine z_iald hx hb hK hP 1 (by decide) 0 rfl rfl (vp_in_nI (by omega) (by decide)) dX11_asItIs_37 ?_
  refine z_eqi (y := nI 0) rfl ?_
  refine z_iast hx hb hK hP hD hS 7 (by decide) 6 (fun _ => rfl) rfl (vp_in_nI (by omega) (by decide)) dX11_asItIs_38 (fun H locs hP hD hS => ?_)
  refine lv_aload_n hx hb dX11_asItIs_39 rfl (lv_at hl 1 rfl) ?_
  refine z_get hx hb ht hown hK hP ziX11 rfl 0 (by decide) 16 (by decide) hw_5_203 rfl (v := .ref (q 8)) rfl dX11_asItIs_40 ?_
  refine lv_iload_n hx hb dX11_asItIs_43 rfl (lv_at hl 0 rfl) ?_
  refine lv_aload_n hx hb dX11_asItIs_44 rfl (lv_at hl 1 rfl) ?_
  refine z_get hx hb ht hown hK hP ziX11 rfl 0 (by decide) 1 (by decide) hw_5_188 rfl (v := .ref (q 1)) rfl dX11_asItIs_45 ?_
  refine lv_bipush (v := nI 7) hx hb dX11_asItIs_48 (by decide +kernel) ?_
  refine lv_iconst (v := nI 2) hx hb dX11_asItIs_50 (by decide +kernel) ?_
  refine lv_iload_n hx hb dX11_asItIs_51 rfl (lv_at hl 0 rfl) ?_
  refine lv_imul hx hb dX11_asItIs_52 ?_
  refine z_eqi (y := nI 4) (by decide +kernel) ?_
  refine lv_iadd hx hb dX11_asItIs_53 ?_
  refine z_eqi (y := nI 11) (by decide +kernel) ?_
  refine lv_iconst (v := nI 1) hx hb dX11_asItIs_54 (by decide +kernel) ?_
  refine lv_iadd hx hb dX11_asItIs_55 ?_
  refine z_eqi (y := nI 12) (by decide +kernel) ?_
  refine z_iald hx hb hK hP 1 (by decide) 0 rfl rfl (vp_in_nI (by omega) (by decide)) dX11_asItIs_56 ?_
  refine z_eqi (y := nI 0) rfl ?_
  refine z_iast hx hb hK hP hD hS 8 (by decide) 7 (fun _ => rfl) rfl (vp_in_nI (by omega) (by decide)) dX11_asItIs_57 (fun H locs hP hD hS => ?_)
  refine lv_iinc (v := nI 3) (lv' := [(1, .int (nI 3)), (0, .ref (q 0))]) hx hb dX11_asItIs_58 hl (k := 0) rfl (by decide +kernel) (by decide) rfl (fun ls hl => ?_)
  refine lv_goto (tgt := 17) hx hb dX11_asItIs_61 (by decide) ?_
  refine lv_iload_n hx hb dX11_asItIs_17 rfl (lv_at hl 0 rfl) ?_
  refine lv_iconst (v := nI 5) hx hb dX11_asItIs_18 (by decide +kernel) ?_
  refine lv_icmp_ge (tgt := 64) hx hb dX11_asItIs_19 (by decide) (fun c_0 => absurd c_0 (by decide +kernel)) (fun _ => ?_)
  refine lv_aload_n hx hb dX11_asItIs_22 rfl (lv_at hl 1 rfl) ?_
  refine z_get hx hb ht hown hK hP ziX11 rfl 0 (by decide) 15 (by decide) hw_5_202 rfl (v := .ref (q 7)) rfl dX11_asItIs_23 ?_
  refine lv_iload_n hx hb dX11_asItIs_26 rfl (lv_at hl 0 rfl) ?_
  refine lv_aload_n hx hb dX11_asItIs_27 rfl (lv_at hl 1 rfl) ?_
  refine z_get hx hb ht hown hK hP ziX11 rfl 0 (by decide) 1 (by decide) hw_5_188 rfl (v := .ref (q 1)) rfl dX11_asItIs_28 ?_
  refine lv_bipush (v := nI 7) hx hb dX11_asItIs_31 (by decide +kernel) ?_
  refine lv_iconst (v := nI 2) hx hb dX11_asItIs_33 (by decide +kernel) ?_
  refine lv_iload_n hx hb dX11_asItIs_34 rfl (lv_at hl 0 rfl) ?_
  refine lv_imul hx hb dX11_asItIs_35 ?_
  refine z_eqi (y := nI 6) (by decide +kernel) ?_
  refine lv_iadd hx hb dX11_asItIs_36 ?_
  refine z_eqi (y := nI 13) (by decide +kernel) ?_
  refine z_iald hx hb hK hP 1 (by decide) 0 rfl rfl (vp_in_nI (by omega) (by decide)) dX11_asItIs_37 ?_
  refine z_eqi (y := nI 0) rfl ?_
  refine z_iast hx hb hK hP hD hS 7 (by decide) 6 (fun _ => rfl) rfl (vp_in_nI (by omega) (by decide)) dX11_asItIs_38 (fun H locs hP hD hS => ?_)
  refine lv_aload_n hx hb dX11_asItIs_39 rfl (lv_at hl 1 rfl) ?_
  refine z_get hx hb ht hown hK hP ziX11 rfl 0 (by decide) 16 (by decide) hw_5_203 rfl (v := .ref (q 8)) rfl dX11_asItIs_40 ?_
  refine lv_iload_n hx hb dX11_asItIs_43 rfl (lv_at hl 0 rfl) ?_
  refine lv_aload_n hx hb dX11_asItIs_44 rfl (lv_at hl 1 rfl) ?_
  refine z_get hx hb ht hown hK hP ziX11 rfl 0 (by decide) 1 (by decide) hw_5_188 rfl (v := .ref (q 1)) rfl dX11_asItIs_45 ?_
  refine lv_bipush (v := nI 7) hx hb dX11_asItIs_48 (by decide +kernel) ?_
  refine lv_iconst (v := nI 2) hx hb dX11_asItIs_50 (by decide +kernel) ?_
  refine lv_iload_n hx hb dX11_asItIs_51 rfl (lv_at hl 0 rfl) ?_
  refine lv_imul hx hb dX11_asItIs_52 ?_
  refine z_eqi (y := nI 6) (by decide +kernel) ?_
  refine lv_iadd hx hb dX11_asItIs_53 ?_
  refine z_eqi (y := nI 13) (by decide +kernel) ?_
  refine lv_iconst (v := nI 1) hx hb dX11_asItIs_54 (by decide +kernel) ?_
  refine lv_iadd hx hb dX11_asItIs_55 ?_
  refine z_eqi (y := nI 14) (by decide +kernel) ?_
  refine z_iald hx hb hK hP 1 (by decide) 0 rfl rfl (vp_in_nI (by omega) (by decide)) dX11_asItIs_56 ?_
  refine z_eqi (y := nI 0) rfl ?_
  refine z_iast hx hb hK hP hD hS 8 (by decide) 7 (fun _ => rfl) rfl (vp_in_nI (by omega) (by decide)) dX11_asItIs_57 (fun H locs hP hD hS => ?_)
  refine lv_iinc (v := nI 4) (lv' := [(1, .int (nI 4)), (0, .ref (q 0))]) hx hb dX11_asItIs_58 hl (k := 0) rfl (by decide +kernel) (by decide) rfl (fun ls hl => ?_)
  refine lv_goto (tgt := 17) hx hb dX11_asItIs_61 (by decide) ?_
  refine lv_iload_n hx hb dX11_asItIs_17 rfl (lv_at hl 0 rfl) ?_
  refine lv_iconst (v := nI 5) hx hb dX11_asItIs_18 (by decide +kernel) ?_
  refine lv_icmp_ge (tgt := 64) hx hb dX11_asItIs_19 (by decide) (fun c_0 => absurd c_0 (by decide +kernel)) (fun _ => ?_)
  refine lv_aload_n hx hb dX11_asItIs_22 rfl (lv_at hl 1 rfl) ?_
  refine z_get hx hb ht hown hK hP ziX11 rfl 0 (by decide) 15 (by decide) hw_5_202 rfl (v := .ref (q 7)) rfl dX11_asItIs_23 ?_
  refine lv_iload_n hx hb dX11_asItIs_26 rfl (lv_at hl 0 rfl) ?_
  refine lv_aload_n hx hb dX11_asItIs_27 rfl (lv_at hl 1 rfl) ?_
  refine z_get hx hb ht hown hK hP ziX11 rfl 0 (by decide) 1 (by decide) hw_5_188 rfl (v := .ref (q 1)) rfl dX11_asItIs_28 ?_
  refine lv_bipush (v := nI 7) hx hb dX11_asItIs_31 (by decide +kernel) ?_
  refine lv_iconst (v := nI 2) hx hb dX11_asItIs_33 (by decide +kernel) ?_
  refine lv_iload_n hx hb dX11_asItIs_34 rfl (lv_at hl 0 rfl) ?_
  refine lv_imul hx hb dX11_asItIs_35 ?_
  refine z_eqi (y := nI 8) (by decide +kernel) ?_
  refine lv_iadd hx hb dX11_asItIs_36 ?_
  refine z_eqi (y := nI 15) (by decide +kernel) ?_
  refine z_iald hx hb hK hP 1 (by decide) 0 rfl rfl (vp_in_nI (by omega) (by decide)) dX11_asItIs_37 ?_
  refine z_eqi (y := nI 0) rfl ?_
  refine z_iast hx hb hK hP hD hS 7 (by decide) 6 (fun _ => rfl) rfl (vp_in_nI (by omega) (by decide)) dX11_asItIs_38 (fun H locs hP hD hS => ?_)
  refine lv_aload_n hx hb dX11_asItIs_39 rfl (lv_at hl 1 rfl) ?_
  refine z_get hx hb ht hown hK hP ziX11 rfl 0 (by decide) 16 (by decide) hw_5_203 rfl (v := .ref (q 8)) rfl dX11_asItIs_40 ?_
  refine lv_iload_n hx hb dX11_asItIs_43 rfl (lv_at hl 0 rfl) ?_
  refine lv_aload_n hx hb dX11_asItIs_44 rfl (lv_at hl 1 rfl) ?_
  refine z_get hx hb ht hown hK hP ziX11 rfl 0 (by decide) 1 (by decide) hw_5_188 rfl (v := .ref (q 1)) rfl dX11_asItIs_45 ?_
  refine lv_bipush (v := nI 7) hx hb dX11_asItIs_48 (by decide +kernel) ?_
  refine lv_iconst (v := nI 2) hx hb dX11_asItIs_50 (by decide +kernel) ?_
  refine lv_iload_n hx hb dX11_asItIs_51 rfl (lv_at hl 0 rfl) ?_
  refine lv_imul hx hb dX11_asItIs_52 ?_
  refine z_eqi (y := nI 8) (by decide +kernel) ?_
  refine lv_iadd hx hb dX11_asItIs_53 ?_
  refine z_eqi (y := nI 15) (by decide +kernel) ?_
  refine lv_iconst (v := nI 1) hx hb dX11_asItIs_54 (by decide +kernel) ?_
  refine lv_iadd hx hb dX11_asItIs_55 ?_
  refine z_eqi (y := nI 16) (by decide +kernel) ?_
  refine z_iald hx hb hK hP 1 (by decide) 0 rfl rfl (vp_in_nI (by omega) (by decide)) dX11_asItIs_56 ?_
  refine z_eqi (y := nI 0) rfl ?_
  refine z_iast hx hb hK hP hD hS 8 (by decide) 7 (fun _ => rfl) rfl (vp_in_nI (by omega) (by decide)) dX11_asItIs_57 (fun H locs hP hD hS => ?_)
  refine lv_iinc (v := nI 5) (lv' := [(1, .int (nI 5)), (0, .ref (q 0))]) hx hb dX11_asItIs_58 hl (k := 0) rfl (by decide +kernel) (by decide) rfl (fun ls hl => ?_)
  refine lv_goto (tgt := 17) hx hb dX11_asItIs_61 (by decide) ?_
  refine lv_iload_n hx hb dX11_asItIs_17 rfl (lv_at hl 0 rfl) ?_
  refine lv_iconst (v := nI 5) hx hb dX11_asItIs_18 (by decide +kernel) ?_
  refine lv_icmp_ge (tgt := 64) hx hb dX11_asItIs_19 (by decide) (fun _ => ?_) (fun c_0 => absurd (by decide +kernel) c_0)
  refine lv_iconst (v := nI 0) hx hb dX11_asItIs_64 (by decide +kernel) ?_
  refine lv_istore_n (lv' := [(1, .int (nI 0)), (0, .ref (q 0))]) hx hb dX11_asItIs_65 rfl hl (by decide) rfl (fun ls hl => ?_)
  refine lv_iload_n hx hb dX11_asItIs_66 rfl (lv_at hl 0 rfl) ?_
  refine lv_bipush (v := nI 6) hx hb dX11_asItIs_67 (by decide +kernel) ?_
  refine lv_icmp_ge (tgt := 118) hx hb dX11_asItIs_69 (by decide) (fun c_0 => absurd c_0 (by decide +kernel)) (fun _ => ?_)
  refine lv_aload_n hx hb dX11_asItIs_72 rfl (lv_at hl 1 rfl) ?_
  refine z_get hx hb ht hown hK hP ziX11 rfl 0 (by decide) 17 (by decide) hw_5_204 rfl (v := .ref (q 9)) rfl dX11_asItIs_73 ?_
  refine lv_iload_n hx hb dX11_asItIs_76 rfl (lv_at hl 0 rfl) ?_
  refine lv_aload_n hx hb dX11_asItIs_77 rfl (lv_at hl 1 rfl) ?_
  refine z_get hx hb ht hown hK hP ziX11 rfl 0 (by decide) 1 (by decide) hw_5_188 rfl (v := .ref (q 1)) rfl dX11_asItIs_78 ?_
  refine lv_bipush (v := nI 17) hx hb dX11_asItIs_81 (by decide +kernel) ?_
  refine lv_iconst (v := nI 2) hx hb dX11_asItIs_83 (by decide +kernel) ?_
  refine lv_iload_n hx hb dX11_asItIs_84 rfl (lv_at hl 0 rfl) ?_
  refine lv_imul hx hb dX11_asItIs_85 ?_
  refine z_eqi (y := nI 0) (by decide +kernel) ?_
  refine lv_iadd hx hb dX11_asItIs_86 ?_
  refine z_eqi (y := nI 17) (by decide +kernel) ?_
  refine z_iald hx hb hK hP 1 (by decide) 0 rfl rfl (vp_in_nI (by omega) (by decide)) dX11_asItIs_87 ?_
  refine z_eqi (y := nI 0) rfl ?_
  refine z_iast hx hb hK hP hD hS 9 (by decide) 8 (fun _ => rfl) rfl (vp_in_nI (by omega) (by decide)) dX11_asItIs_88 (fun H locs hP hD hS => ?_)
  refine lv_aload_n hx hb dX11_asItIs_89 rfl (lv_at hl 1 rfl) ?_
  refine z_get hx hb ht hown hK hP ziX11 rfl 0 (by decide) 25 (by decide) hw_5_212 rfl (v := .ref (q 17)) rfl dX11_asItIs_90 ?_
  refine lv_iload_n hx hb dX11_asItIs_93 rfl (lv_at hl 0 rfl) ?_
  refine lv_iconst (v := nI 1) hx hb dX11_asItIs_94 (by decide +kernel) ?_
  refine z_iast hx hb hK hP hD hS 17 (by decide) 16 (fun _ => rfl) rfl (vp_in_nI (by omega) (by decide)) dX11_asItIs_95 (fun H locs hP hD hS => ?_)
  refine lv_aload_n hx hb dX11_asItIs_96 rfl (lv_at hl 1 rfl) ?_
  refine z_get hx hb ht hown hK hP ziX11 rfl 0 (by decide) 24 (by decide) hw_5_211 rfl (v := .ref (q 16)) rfl dX11_asItIs_97 ?_
  refine lv_sipush (v := nI 146) hx hb dX11_asItIs_100 (by decide +kernel) ?_
  refine lv_iload_n hx hb dX11_asItIs_103 rfl (lv_at hl 0 rfl) ?_
  refine lv_imul hx hb dX11_asItIs_104 ?_
  refine z_eqi (y := nI 0) (by decide +kernel) ?_
  refine lv_aload_n hx hb dX11_asItIs_105 rfl (lv_at hl 1 rfl) ?_
  refine z_get hx hb ht hown hK hP ziX11 rfl 0 (by decide) 17 (by decide) hw_5_204 rfl (v := .ref (q 9)) rfl dX11_asItIs_106 ?_
  refine lv_iload_n hx hb dX11_asItIs_109 rfl (lv_at hl 0 rfl) ?_
  refine z_iald hx hb hK hP 9 (by decide) 8 rfl rfl (vp_in_nI (by omega) (by decide)) dX11_asItIs_110 ?_
  refine lv_topi (fun x_1 ex_1 => ?_)
  refine z_iast hx hb hK hP hD hS 16 (by decide) 15 (fun _ => rfl) rfl (vp_in_nI (by omega) (by decide)) dX11_asItIs_111 (fun H locs hP hD hS => ?_)
  refine lv_iinc (v := nI 1) (lv' := [(1, .int (nI 1)), (0, .ref (q 0))]) hx hb dX11_asItIs_112 hl (k := 0) rfl (by decide +kernel) (by decide) rfl (fun ls hl => ?_)
  refine lv_goto (tgt := 66) hx hb dX11_asItIs_115 (by decide) ?_
  refine lv_iload_n hx hb dX11_asItIs_66 rfl (lv_at hl 0 rfl) ?_
  refine lv_bipush (v := nI 6) hx hb dX11_asItIs_67 (by decide +kernel) ?_
  refine lv_icmp_ge (tgt := 118) hx hb dX11_asItIs_69 (by decide) (fun c_0 => absurd c_0 (by decide +kernel)) (fun _ => ?_)
  refine lv_aload_n hx hb dX11_asItIs_72 rfl (lv_at hl 1 rfl) ?_
  refine z_get hx hb ht hown hK hP ziX11 rfl 0 (by decide) 17 (by decide) hw_5_204 rfl (v := .ref (q 9)) rfl dX11_asItIs_73 ?_
  refine lv_iload_n hx hb dX11_asItIs_76 rfl (lv_at hl 0 rfl) ?_
  refine lv_aload_n hx hb dX11_asItIs_77 rfl (lv_at hl 1 rfl) ?_
  refine z_get hx hb ht hown hK hP ziX11 rfl 0 (by decide) 1 (by decide) hw_5_188 rfl (v := .ref (q 1)) rfl dX11_asItIs_78 ?_
  refine lv_bipush (v := nI 17) hx hb dX11_asItIs_81 (by decide +kernel) ?_
  refine lv_iconst (v := nI 2) hx hb dX11_asItIs_83 (by decide +kernel) ?_
  refine lv_iload_n hx hb dX11_asItIs_84 rfl (lv_at hl 0 rfl) ?_
  refine lv_imul hx hb dX11_asItIs_85 ?_
  refine z_eqi (y := nI 2) (by decide +kernel) ?_
  refine lv_iadd hx hb dX11_asItIs_86 ?_
  refine z_eqi (y := nI 19) (by decide +kernel) ?_
  refine z_iald hx hb hK hP 1 (by decide) 0 rfl rfl (vp_in_nI (by omega) (by decide)) dX11_asItIs_87 ?_
  refine z_eqi (y := nI 0) rfl ?_
  refine z_iast hx hb hK hP hD hS 9 (by decide) 8 (fun _ => rfl) rfl (vp_in_nI (by omega) (by decide)) dX11_asItIs_88 (fun H locs hP hD hS => ?_)
  refine lv_aload_n hx hb dX11_asItIs_89 rfl (lv_at hl 1 rfl) ?_
  refine z_get hx hb ht hown hK hP ziX11 rfl 0 (by decide) 25 (by decide) hw_5_212 rfl (v := .ref (q 17)) rfl dX11_asItIs_90 ?_
  refine lv_iload_n hx hb dX11_asItIs_93 rfl (lv_at hl 0 rfl) ?_
  refine lv_iconst (v := nI 1) hx hb dX11_asItIs_94 (by decide +kernel) ?_
  refine z_iast hx hb hK hP hD hS 17 (by decide) 16 (fun _ => rfl) rfl (vp_in_nI (by omega) (by decide)) dX11_asItIs_95 (fun H locs hP hD hS => ?_)
  refine lv_aload_n hx hb dX11_asItIs_96 rfl (lv_at hl 1 rfl) ?_
  refine z_get hx hb ht hown hK hP ziX11 rfl 0 (by decide) 24 (by decide) hw_5_211 rfl (v := .ref (q 16)) rfl dX11_asItIs_97 ?_
  refine lv_sipush (v := nI 146) hx hb dX11_asItIs_100 (by decide +kernel) ?_
  refine lv_iload_n hx hb dX11_asItIs_103 rfl (lv_at hl 0 rfl) ?_
  refine lv_imul hx hb dX11_asItIs_104 ?_
  refine z_eqi (y := nI 146) (by decide +kernel) ?_
  refine lv_aload_n hx hb dX11_asItIs_105 rfl (lv_at hl 1 rfl) ?_
  refine z_get hx hb ht hown hK hP ziX11 rfl 0 (by decide) 17 (by decide) hw_5_204 rfl (v := .ref (q 9)) rfl dX11_asItIs_106 ?_
  refine lv_iload_n hx hb dX11_asItIs_109 rfl (lv_at hl 0 rfl) ?_
  refine z_iald hx hb hK hP 9 (by decide) 8 rfl rfl (vp_in_nI (by omega) (by decide)) dX11_asItIs_110 ?_
  refine lv_topi (fun x_2 ex_2 => ?_)
  refine z_iast hx hb hK hP hD hS 16 (by decide) 15 (fun _ => rfl) rfl (vp_in_nI (by omega) (by decide)) dX11_asItIs_111 (fun H locs hP hD hS => ?_)
  refine lv_iinc (v := nI 2) (lv' := [(1, .int (nI 2)), (0, .ref (q 0))]) hx hb dX11_asItIs_112 hl (k := 0) rfl (by decide +kernel) (by decide) rfl (fun ls hl => ?_)
  refine lv_goto (tgt := 66) hx hb dX11_asItIs_115 (by decide) ?_
  refine lv_iload_n hx hb dX11_asItIs_66 rfl (lv_at hl 0 rfl) ?_
  refine lv_bipush (v := nI 6) hx hb dX11_asItIs_67 (by decide +kernel) ?_
  refine lv_icmp_ge (tgt := 118) hx hb dX11_asItIs_69 (by decide) (fun c_0 => absurd c_0 (by decide +kernel)) (fun _ => ?_)
  refine lv_aload_n hx hb dX11_asItIs_72 rfl (lv_at hl 1 rfl) ?_
  refine z_get hx hb ht hown hK hP ziX11 rfl 0 (by decide) 17 (by decide) hw_5_204 rfl (v := .ref (q 9)) rfl dX11_asItIs_73 ?_
  refine lv_iload_n hx hb dX11_asItIs_76 rfl (lv_at hl 0 rfl) ?_
  refine lv_aload_n hx hb dX11_asItIs_77 rfl (lv_at hl 1 rfl) ?_
  refine z_get hx hb ht hown hK hP ziX11 rfl 0 (by decide) 1 (by decide) hw_5_188 rfl (v := .ref (q 1)) rfl dX11_asItIs_78 ?_
  refine lv_bipush (v := nI 17) hx hb dX11_asItIs_81 (by decide +kernel) ?_
  refine lv_iconst (v := nI 2) hx hb dX11_asItIs_83 (by decide +kernel) ?_
  refine lv_iload_n hx hb dX11_asItIs_84 rfl (lv_at hl 0 rfl) ?_
  refine lv_imul hx hb dX11_asItIs_85 ?_
  refine z_eqi (y := nI 4) (by decide +kernel) ?_
  refine lv_iadd hx hb dX11_asItIs_86 ?_
  refine z_eqi (y := nI 21) (by decide +kernel) ?_
  refine z_iald hx hb hK hP 1 (by decide) 0 rfl rfl (vp_in_nI (by omega) (by decide)) dX11_asItIs_87 ?_
  refine z_eqi (y := nI 0) rfl ?_
  refine z_iast hx hb hK hP hD hS 9 (by decide) 8 (fun _ => rfl) rfl (vp_in_nI (by omega) (by decide)) dX11_asItIs_88 (fun H locs hP hD hS => ?_)
  refine lv_aload_n hx hb dX11_asItIs_89 rfl (lv_at hl 1 rfl) ?_
  refine z_get hx hb ht hown hK hP ziX11 rfl 0 (by decide) 25 (by decide) hw_5_212 rfl (v := .ref (q 17)) rfl dX11_asItIs_90 ?_
  refine lv_iload_n hx hb dX11_asItIs_93 rfl (lv_at hl 0 rfl) ?_
  refine lv_iconst (v := nI 1) hx hb dX11_asItIs_94 (by decide +kernel) ?_
  refine z_iast hx hb hK hP hD hS 17 (by decide) 16 (fun _ => rfl) rfl (vp_in_nI (by omega) (by decide)) dX11_asItIs_95 (fun H locs hP hD hS => ?_)
  refine lv_aload_n hx hb dX11_asItIs_96 rfl (lv_at hl 1 rfl) ?_
  refine z_get hx hb ht hown hK hP ziX11 rfl 0 (by decide) 24 (by decide) hw_5_211 rfl (v := .ref (q 16)) rfl dX11_asItIs_97 ?_
  refine lv_sipush (v := nI 146) hx hb dX11_asItIs_100 (by decide +kernel) ?_
  refine lv_iload_n hx hb dX11_asItIs_103 rfl (lv_at hl 0 rfl) ?_
  refine lv_imul hx hb dX11_asItIs_104 ?_
  refine z_eqi (y := nI 292) (by decide +kernel) ?_
  refine lv_aload_n hx hb dX11_asItIs_105 rfl (lv_at hl 1 rfl) ?_
  refine z_get hx hb ht hown hK hP ziX11 rfl 0 (by decide) 17 (by decide) hw_5_204 rfl (v := .ref (q 9)) rfl dX11_asItIs_106 ?_
  refine lv_iload_n hx hb dX11_asItIs_109 rfl (lv_at hl 0 rfl) ?_
  refine z_iald hx hb hK hP 9 (by decide) 8 rfl rfl (vp_in_nI (by omega) (by decide)) dX11_asItIs_110 ?_
  refine lv_topi (fun x_3 ex_3 => ?_)
  refine z_iast hx hb hK hP hD hS 16 (by decide) 15 (fun _ => rfl) rfl (vp_in_nI (by omega) (by decide)) dX11_asItIs_111 (fun H locs hP hD hS => ?_)
  refine lv_iinc (v := nI 3) (lv' := [(1, .int (nI 3)), (0, .ref (q 0))]) hx hb dX11_asItIs_112 hl (k := 0) rfl (by decide +kernel) (by decide) rfl (fun ls hl => ?_)
  refine lv_goto (tgt := 66) hx hb dX11_asItIs_115 (by decide) ?_
  refine lv_iload_n hx hb dX11_asItIs_66 rfl (lv_at hl 0 rfl) ?_
  refine lv_bipush (v := nI 6) hx hb dX11_asItIs_67 (by decide +kernel) ?_
  refine lv_icmp_ge (tgt := 118) hx hb dX11_asItIs_69 (by decide) (fun c_0 => absurd c_0 (by decide +kernel)) (fun _ => ?_)
  refine lv_aload_n hx hb dX11_asItIs_72 rfl (lv_at hl 1 rfl) ?_
  refine z_get hx hb ht hown hK hP ziX11 rfl 0 (by decide) 17 (by decide) hw_5_204 rfl (v := .ref (q 9)) rfl dX11_asItIs_73 ?_
  refine lv_iload_n hx hb dX11_asItIs_76 rfl (lv_at hl 0 rfl) ?_
  refine lv_aload_n hx hb dX11_asItIs_77 rfl (lv_at hl 1 rfl) ?_
  refine z_get hx hb ht hown hK hP ziX11 rfl 0 (by decide) 1 (by decide) hw_5_188 rfl (v := .ref (q 1)) rfl dX11_asItIs_78 ?_
  refine lv_bipush (v := nI 17) hx hb dX11_asItIs_81 (by decide +kernel) ?_
  refine lv_iconst (v := nI 2) hx hb dX11_asItIs_83 (by decide +kernel) ?_
  refine lv_iload_n hx hb dX11_asItIs_84 rfl (lv_at hl 0 rfl) ?_
  refine lv_imul hx hb dX11_asItIs_85 ?_
  refine z_eqi (y := nI 6) (by decide +kernel) ?_
  refine lv_iadd hx hb dX11_asItIs_86 ?_
  refine z_eqi (y := nI 23) (by decide +kernel) ?_
  refine z_iald hx hb hK hP 1 (by decide) 0 rfl rfl (vp_in_nI (by omega) (by decide)) dX11_asItIs_87 ?_
  refine z_eqi (y := nI 0) rfl ?_
  refine z_iast hx hb hK hP hD hS 9 (by decide) 8 (fun _ => rfl) rfl (vp_in_nI (by omega) (by decide)) dX11_asItIs_88 (fun H locs hP hD hS => ?_)
  refine lv_aload_n hx hb dX11_asItIs_89 rfl (lv_at hl 1 rfl) ?_
  refine z_get hx hb ht hown hK hP ziX11 rfl 0 (by decide) 25 (by decide) hw_5_212 rfl (v := .ref (q 17)) rfl dX11_asItIs_90 ?_
  refine lv_iload_n hx hb dX11_asItIs_93 rfl (lv_at hl 0 rfl) ?_
  refine lv_iconst (v := nI 1) hx hb dX11_asItIs_94 (by decide +kernel) ?_
  refine z_iast hx hb hK hP hD hS 17 (by decide) 16 (fun _ => rfl) rfl (vp_in_nI (by omega) (by decide)) dX11_asItIs_95 (fun H locs hP hD hS => ?_)
  refine lv_aload_n hx hb dX11_asItIs_96 rfl (lv_at hl 1 rfl) ?_
  refine z_get hx hb ht hown hK hP ziX11 rfl 0 (by decide) 24 (by decide) hw_5_211 rfl (v := .ref (q 16)) rfl dX11_asItIs_97 ?_
  refine lv_sipush (v := nI 146) hx hb dX11_asItIs_100 (by decide +kernel) ?_
  refine lv_iload_n hx hb dX11_asItIs_103 rfl (lv_at hl 0 rfl) ?_
  refine lv_imul hx hb dX11_asItIs_104 ?_
  refine z_eqi (y := nI 438) (by decide +kernel) ?_
  refine lv_aload_n hx hb dX11_asItIs_105 rfl (lv_at hl 1 rfl) ?_
  refine z_get hx hb ht hown hK hP ziX11 rfl 0 (by decide) 17 (by decide) hw_5_204 rfl (v := .ref (q 9)) rfl dX11_asItIs_106 ?_
  refine lv_iload_n hx hb dX11_asItIs_109 rfl (lv_at hl 0 rfl) ?_
  refine z_iald hx hb hK hP 9 (by decide) 8 rfl rfl (vp_in_nI (by omega) (by decide)) dX11_asItIs_110 ?_
  refine lv_topi (fun x_4 ex_4 => ?_)
  refine z_iast hx hb hK hP hD hS 16 (by decide) 15 (fun _ => rfl) rfl (vp_in_nI (by omega) (by decide)) dX11_asItIs_111 (fun H locs hP hD hS => ?_)
  refine lv_iinc (v := nI 4) (lv' := [(1, .int (nI 4)), (0, .ref (q 0))]) hx hb dX11_asItIs_112 hl (k := 0) rfl (by decide +kernel) (by decide) rfl (fun ls hl => ?_)
  refine lv_goto (tgt := 66) hx hb dX11_asItIs_115 (by decide) ?_
  refine lv_iload_n hx hb dX11_asItIs_66 rfl (lv_at hl 0 rfl) ?_
  refine lv_bipush (v := nI 6) hx hb dX11_asItIs_67 (by decide +kernel) ?_
  refine lv_icmp_ge (tgt := 118) hx hb dX11_asItIs_69 (by decide) (fun c_0 => absurd c_0 (by decide +kernel)) (fun _ => ?_)
  refine lv_aload_n hx hb dX11_asItIs_72 rfl (lv_at hl 1 rfl) ?_
  refine z_get hx hb ht hown hK hP ziX11 rfl 0 (by decide) 17 (by decide) hw_5_204 rfl (v := .ref (q 9)) rfl dX11_asItIs_73 ?_
  refine lv_iload_n hx hb dX11_asItIs_76 rfl (lv_at hl 0 rfl) ?_
  refine lv_aload_n hx hb dX11_asItIs_77 rfl (lv_at hl 1 rfl) ?_
  refine z_get hx hb ht hown hK hP ziX11 rfl 0 (by decide) 1 (by decide) hw_5_188 rfl (v := .ref (q 1)) rfl dX11_asItIs_78 ?_
  refine lv_bipush (v := nI 17) hx hb dX11_asItIs_81 (by decide +kernel) ?_
  refine lv_iconst (v := nI 2) hx hb dX11_asItIs_83 (by decide +kernel) ?_
  refine lv_iload_n hx hb dX11_asItIs_84 rfl (lv_at hl 0 rfl) ?_
  refine lv_imul hx hb dX11_asItIs_85 ?_
  refine z_eqi (y := nI 8) (by decide +kernel) ?_
  refine lv_iadd hx hb dX11_asItIs_86 ?_
  refine z_eqi (y := nI 25) (by decide +kernel) ?_
  refine z_iald hx hb hK hP 1 (by decide) 0 rfl rfl (vp_in_nI (by omega) (by decide)) dX11_asItIs_87 ?_
  refine z_eqi (y := nI 0) rfl ?_
  refine z_iast hx hb hK hP hD hS 9 (by decide) 8 (fun _ => rfl) rfl (vp_in_nI (by omega) (by decide)) dX11_asItIs_88 (fun H locs hP hD hS => ?_)
  refine lv_aload_n hx hb dX11_asItIs_89 rfl (lv_at hl 1 rfl) ?_
  refine z_get hx hb ht hown hK hP ziX11 rfl 0 (by decide) 25 (by decide) hw_5_212 rfl (v := .ref (q 17)) rfl dX11_asItIs_90 ?_
  refine lv_iload_n hx hb dX11_asItIs_93 rfl (lv_at hl 0 rfl) ?_
  refine lv_iconst (v := nI 1) hx hb dX11_asItIs_94 (by decide +kernel) ?_
  refine z_iast hx hb hK hP hD hS 17 (by decide) 16 (fun _ => rfl) rfl (vp_in_nI (by omega) (by decide)) dX11_asItIs_95 (fun H locs hP hD hS => ?_)
  refine lv_aload_n hx hb dX11_asItIs_96 rfl (lv_at hl 1 rfl) ?_
  refine z_get hx hb ht hown hK hP ziX11 rfl 0 (by decide) 24 (by decide) hw_5_211 rfl (v := .ref (q 16)) rfl dX11_asItIs_97 ?_
  refine lv_sipush (v := nI 146) hx hb dX11_asItIs_100 (by decide +kernel) ?_
  refine lv_iload_n hx hb dX11_asItIs_103 rfl (lv_at hl 0 rfl) ?_
  refine lv_imul hx hb dX11_asItIs_104 ?_
  refine z_eqi (y := nI 584) (by decide +kernel) ?_
  refine lv_aload_n hx hb dX11_asItIs_105 rfl (lv_at hl 1 rfl) ?_
  refine z_get hx hb ht hown hK hP ziX11 rfl 0 (by decide) 17 (by decide) hw_5_204 rfl (v := .ref (q 9)) rfl dX11_asItIs_106 ?_
  refine lv_iload_n hx hb dX11_asItIs_109 rfl (lv_at hl 0 rfl) ?_
  refine z_iald hx hb hK hP 9 (by decide) 8 rfl rfl (vp_in_nI (by omega) (by decide)) dX11_asItIs_110 ?_
  refine lv_topi (fun x_5 ex_5 => ?_)
  refine z_iast hx hb hK hP hD hS 16 (by decide) 15 (fun _ => rfl) rfl (vp_in_nI (by omega) (by decide)) dX11_asItIs_111 (fun H locs hP hD hS => ?_)
  refine lv_iinc (v := nI 5) (lv' := [(1, .int (nI 5)), (0, .ref (q 0))]) hx hb dX11_asItIs_112 hl (k := 0) rfl (by decide +kernel) (by decide) rfl (fun ls hl => ?_)
  refine lv_goto (tgt := 66) hx hb dX11_asItIs_115 (by decide) ?_
  refine lv_iload_n hx hb dX11_asItIs_66 rfl (lv_at hl 0 rfl) ?_
  refine lv_bipush (v := nI 6) hx hb dX11_asItIs_67 (by decide +kernel) ?_
  refine lv_icmp_ge (tgt := 118) hx hb dX11_asItIs_69 (by decide) (fun c_0 => absurd c_0 (by decide +kernel)) (fun _ => ?_)
  refine lv_aload_n hx hb dX11_asItIs_72 rfl (lv_at hl 1 rfl) ?_
  refine z_get hx hb ht hown hK hP ziX11 rfl 0 (by decide) 17 (by decide) hw_5_204 rfl (v := .ref (q 9)) rfl dX11_asItIs_73 ?_
  refine lv_iload_n hx hb dX11_asItIs_76 rfl (lv_at hl 0 rfl) ?_
  refine lv_aload_n hx hb dX11_asItIs_77 rfl (lv_at hl 1 rfl) ?_
  refine z_get hx hb ht hown hK hP ziX11 rfl 0 (by decide) 1 (by decide) hw_5_188 rfl (v := .ref (q 1)) rfl dX11_asItIs_78 ?_
  refine lv_bipush (v := nI 17) hx hb dX11_asItIs_81 (by decide +kernel) ?_
  refine lv_iconst (v := nI 2) hx hb dX11_asItIs_83 (by decide +kernel) ?_
  refine lv_iload_n hx hb dX11_asItIs_84 rfl (lv_at hl 0 rfl) ?_
  refine lv_imul hx hb dX11_asItIs_85 ?_
  refine z_eqi (y := nI 10) (by decide +kernel) ?_
  refine lv_iadd hx hb dX11_asItIs_86 ?_
  refine z_eqi (y := nI 27) (by decide +kernel) ?_
  refine z_iald hx hb hK hP 1 (by decide) 0 rfl rfl (vp_in_nI (by omega) (by decide)) dX11_asItIs_87 ?_
  refine z_eqi (y := nI 0) rfl ?_
  refine z_iast hx hb hK hP hD hS 9 (by decide) 8 (fun _ => rfl) rfl (vp_in_nI (by omega) (by decide)) dX11_asItIs_88 (fun H locs hP hD hS => ?_)
  refine lv_aload_n hx hb dX11_asItIs_89 rfl (lv_at hl 1 rfl) ?_
  refine z_get hx hb ht hown hK hP ziX11 rfl 0 (by decide) 25 (by decide) hw_5_212 rfl (v := .ref (q 17)) rfl dX11_asItIs_90 ?_
  refine lv_iload_n hx hb dX11_asItIs_93 rfl (lv_at hl 0 rfl) ?_
  refine lv_iconst (v := nI 1) hx hb dX11_asItIs_94 (by decide +kernel) ?_
  refine z_iast hx hb hK hP hD hS 17 (by decide) 16 (fun _ => rfl) rfl (vp_in_nI (by omega) (by decide)) dX11_asItIs_95 (fun H locs hP hD hS => ?_)
  refine lv_aload_n hx hb dX11_asItIs_96 rfl (lv_at hl 1 rfl) ?_
  refine z_get hx hb ht hown hK hP ziX11 rfl 0 (by decide) 24 (by decide) hw_5_211 rfl (v := .ref (q 16)) rfl dX11_asItIs_97 ?_
  refine lv_sipush (v := nI 146) hx hb dX11_asItIs_100 (by decide +kernel) ?_
  refine lv_iload_n hx hb dX11_asItIs_103 rfl (lv_at hl 0 rfl) ?_
  refine lv_imul hx hb dX11_asItIs_104 ?_
  refine z_eqi (y := nI 730) (by decide +kernel) ?_
  refine lv_aload_n hx hb dX11_asItIs_105 rfl (lv_at hl 1 rfl) ?_
  refine z_get hx hb ht hown hK hP ziX11 rfl 0 (by decide) 17 (by decide) hw_5_204 rfl (v := .ref (q 9)) rfl dX11_asItIs_106 ?_
  refine lv_iload_n hx hb dX11_asItIs_109 rfl (lv_at hl 0 rfl) ?_
  refine z_iald hx hb hK hP 9 (by decide) 8 rfl rfl (vp_in_nI (by omega) (by decide)) dX11_asItIs_110 ?_
  refine lv_topi (fun x_6 ex_6 => ?_)
  refine z_iast hx hb hK hP hD hS 16 (by decide) 15 (fun _ => rfl) rfl (vp_in_nI (by omega) (by decide)) dX11_asItIs_111 (fun H locs hP hD hS => ?_)
  refine lv_iinc (v := nI 6) (lv' := [(1, .int (nI 6)), (0, .ref (q 0))]) hx hb dX11_asItIs_112 hl (k := 0) rfl (by decide +kernel) (by decide) rfl (fun ls hl => ?_)
  refine lv_goto (tgt := 66) hx hb dX11_asItIs_115 (by decide) ?_
  refine lv_iload_n hx hb dX11_asItIs_66 rfl (lv_at hl 0 rfl) ?_
  refine lv_bipush (v := nI 6) hx hb dX11_asItIs_67 (by decide +kernel) ?_
  refine lv_icmp_ge (tgt := 118) hx hb dX11_asItIs_69 (by decide) (fun _ => ?_) (fun c_0 => absurd (by decide +kernel) c_0)
  refine lv_iconst (v := nI 0) hx hb dX11_asItIs_118 (by decide +kernel) ?_
  refine lv_istore_n (lv' := [(1, .int (nI 0)), (0, .ref (q 0))]) hx hb dX11_asItIs_119 rfl hl (by decide) rfl (fun ls hl => ?_)
  refine lv_iload_n hx hb dX11_asItIs_120 rfl (lv_at hl 0 rfl) ?_
  refine lv_aload_n hx hb dX11_asItIs_121 rfl (lv_at hl 1 rfl) ?_
  refine z_get hx hb ht hown hK hP ziX11 rfl 0 (by decide) 1 (by decide) hw_5_188 rfl (v := .ref (q 1)) rfl dX11_asItIs_122 ?_
  refine lv_bipush (v := nI 6) hx hb dX11_asItIs_125 (by decide +kernel) ?_
  refine z_iald hx hb hK hP 1 (by decide) 0 rfl rfl (vp_in_nI (by omega) (by decide)) dX11_asItIs_127 ?_
  refine z_eqi (y := nI 0) rfl ?_
  refine lv_icmp_ge (tgt := 150) hx hb dX11_asItIs_128 (by decide) (fun _ => ?_) (fun c_0 => absurd (by decide +kernel) c_0)
  exact z_vret hx hb hr hlocks hP hD hS dX11_asItIs_150 ⟨rfl, rfl⟩
set_option maxHeartbeats 4000000 in
set_option maxRecDepth 100000 in
theorem kX11_isPaper (l : Launch) (D : va_G) (q : Nat → Nat) (cA : Nat → ClassId)  (x : Int32)  : zMi l D vwCl (zMtys cA) 25 q (zMd q cA) yX11_isPaper cX11_isPaper 2 (some .boolean) ({ frames := 1, cells := 0, slots := 0, locals := 25 } : Room) [.ref (q 0), .int (x)] (zMI0, zMR0, zMJ0) (fun r _ => r = nI 0) := by
  intro sz
  refine z_body (by decide +kernel) (Nat.le_of_ble_eq_true rfl) (fun p e s m below meth c ls hx hb hml hr ht hown hlocks hsz hK hP hD hS hl => ?_)
  have hA : ∀ a, s.heap.size ≤ a → zA 25 q sz a := fun a h => Or.inr (hsz ▸ h)
  have hl : lv_has ls 2 [(0, .ref (q 0)), (1, .int (x))] := hl
  refine lv_aload_n hx hb dX11_isPaper_0 rfl (lv_at hl 0 rfl) ?_
  refine z_callVv (k := 0) (As := []) (rest := []) hx hb hml hown ht (kX11_asItIs l D q cA) hw_6_181 hmX11_asItIs ⟨rfl, rfl⟩ (na := 0) rfl (by decide +kernel) (by decide) (by decide) rfl rfl hK hP hD hS hA hl.1 rfl (Nat.le_of_ble_eq_true rfl) ⟨Nat.zero_le _, Nat.zero_le _⟩ dX11_isPaper_1 (fun I_1 R_1 J_1 H locs hp_1 hP hD hS _ _ => ?_)
  obtain ⟨ha_1, hb_1⟩ := hp_1
  refine lv_iload_n hx hb dX11_isPaper_4 rfl (lv_at hl 1 rfl) ?_
  refine lv_i2l (v := (x).toInt64) hx hb dX11_isPaper_5 rfl ?_
  refine lv_lconst (v := (0 : Int64)) hx hb dX11_isPaper_6 (by decide +kernel) ?_
  refine lv_aload_n hx hb dX11_isPaper_7 rfl (lv_at hl 0 rfl) ?_
  refine z_get hx hb ht hown hK hP ziX11 rfl 0 (by decide) 26 (by decide) hw_5_213 rfl (v := .int (I_1 0 26)) rfl dX11_isPaper_8 ?_
  refine z_eqi (y := nI 0) ha_1 ?_
  refine lv_iconst (v := nI 1) hx hb dX11_isPaper_11 (by decide +kernel) ?_
  refine lv_isub hx hb dX11_isPaper_12 ?_
  refine z_eqi (y := (-1)) (by decide +kernel) ?_
  refine lv_i2l (v := (-1 : Int64)) hx hb dX11_isPaper_13 (by decide +kernel) ?_
  refine z_callSi (As := [.long ((x).toInt64), .long ((0 : Int64)), .long ((-1 : Int64))]) (rest := []) hx hb hml hown ht (kX11_in l D q cA _ _ _ (x).toInt 0 (-1) ((x).toInt64) ((0 : Int64)) ((-1 : Int64)) (z_i2l _) (by decide +kernel) (by decide +kernel)) hw_6_86 hmX11_in ⟨rfl, rfl⟩ (na := 3) rfl (by decide +kernel) (by decide) hK hP hD hS hA hl.1 rfl (Nat.le_of_ble_eq_true rfl) ⟨Nat.zero_le _, Nat.zero_le _⟩ dX11_isPaper_14 (fun r_2 I_2 R_2 J_2 H locs hp_2 hP hD hS _ _ => ?_)
  rcases hp_2 with ⟨rfl, hu_2, h1_2, h2_2⟩ | ⟨rfl, hu_2, h1_2⟩
  · exfalso; omega
  · cases hu_2
    exact z_zret (v := nI 0) hx hb hr hlocks hP hD hS (by decide +kernel) dX11_isPaper_17 rfl
set_option maxHeartbeats 4000000 in
set_option maxRecDepth 100000 in
theorem kX11_isCost (l : Launch) (D : va_G) (q : Nat → Nat) (cA : Nat → ClassId)  (x : Int32)  : zMi l D vwCl (zMtys cA) 25 q (zMd q cA) yX11_isCost cX11_isCost 2 (some .boolean) ({ frames := 1, cells := 0, slots := 0, locals := 21 } : Room) [.ref (q 0), .int (x)] (zMI0, zMR0, zMJ0) (fun r _ => r = nI 0) := by
  intro sz
  refine z_body (by decide +kernel) (Nat.le_of_ble_eq_true rfl) (fun p e s m below meth c ls hx hb hml hr ht hown hlocks hsz hK hP hD hS hl => ?_)
  have hA : ∀ a, s.heap.size ≤ a → zA 25 q sz a := fun a h => Or.inr (hsz ▸ h)
  have hl : lv_has ls 2 [(0, .ref (q 0)), (1, .int (x))] := hl
  refine lv_aload_n hx hb dX11_isCost_0 rfl (lv_at hl 0 rfl) ?_
  refine z_callVv (k := 0) (As := []) (rest := []) hx hb hml hown ht (kX11_asItIs l D q cA) hw_6_181 hmX11_asItIs ⟨rfl, rfl⟩ (na := 0) rfl (by decide +kernel) (by decide) (by decide) rfl rfl hK hP hD hS hA hl.1 rfl (Nat.le_of_ble_eq_true rfl) ⟨Nat.zero_le _, Nat.zero_le _⟩ dX11_isCost_1 (fun I_1 R_1 J_1 H locs hp_1 hP hD hS _ _ => ?_)
  obtain ⟨ha_1, hb_1⟩ := hp_1
  refine lv_aload_n hx hb dX11_isCost_4 rfl (lv_at hl 0 rfl) ?_
  refine z_callVi (k := 0) (As := []) (rest := []) hx hb hml hown ht (kX11_isCity_g l D q cA _ _ _ hb_1) hw_7_75 hmX11_isCity ⟨rfl, rfl⟩ (na := 0) rfl (by decide +kernel) (by decide) (by decide) rfl rfl hK hP hD hS hA hl.1 rfl (Nat.le_of_ble_eq_true rfl) ⟨Nat.zero_le _, Nat.zero_le _⟩ dX11_isCost_5 (fun r_2 I_2 R_2 J_2 H locs hp_2 hP hD hS _ _ => ?_)
  obtain ⟨rfl, hu_2⟩ := hp_2
  cases hu_2
  refine lv_if_eq (tgt := 27) hx hb dX11_isCost_8 (by decide) (fun _ => ?_) (fun c_0 => absurd (by decide +kernel) c_0)
  refine lv_iconst (v := nI 0) hx hb dX11_isCost_27 (by decide +kernel) ?_
  exact z_zret (v := nI 0) hx hb hr hlocks hP hD hS (by decide +kernel) dX11_isCost_28 rfl
set_option maxHeartbeats 4000000 in
set_option maxRecDepth 100000 in
theorem kX11_areDrawn (l : Launch) (D : va_G) (q : Nat → Nat) (cA : Nat → ClassId)  (x : Int32) (n : Int32)  : zMi l D vwCl (zMtys cA) 25 q (zMd q cA) yX11_areDrawn cX11_areDrawn 3 (some .boolean) ({ frames := 1, cells := 0, slots := 0, locals := 20 } : Room) [.ref (q 0), .int (x), .int (n)] (zMI0, zMR0, zMJ0) (fun r u => r = nI 0 ∧ u = (zMI0, zMR0, zMJ0)) := by
  intro sz
  refine z_body (by decide +kernel) (Nat.le_of_ble_eq_true rfl) (fun p e s m below meth c ls hx hb hml hr ht hown hlocks hsz hK hP hD hS hl => ?_)
  have hA : ∀ a, s.heap.size ≤ a → zA 25 q sz a := fun a h => Or.inr (hsz ▸ h)
  have hl : lv_has ls 3 [(0, .ref (q 0)), (1, .int (x)), (2, .int (n))] := hl
  refine lv_aload_n hx hb dX11_areDrawn_0 rfl (lv_at hl 0 rfl) ?_
  refine z_callVi (k := 0) (As := []) (rest := []) hx hb hml hown ht (kX11_isCity l D q cA ) hw_7_75 hmX11_isCity ⟨rfl, rfl⟩ (na := 0) rfl (by decide +kernel) (by decide) (by decide) rfl rfl hK hP hD hS hA hl.1 rfl (Nat.le_of_ble_eq_true rfl) ⟨Nat.zero_le _, Nat.zero_le _⟩ dX11_areDrawn_1 (fun r_1 I_1 R_1 J_1 H locs hp_1 hP hD hS _ _ => ?_)
  obtain ⟨rfl, hu_1⟩ := hp_1
  cases hu_1
  refine lv_if_eq (tgt := 35) hx hb dX11_areDrawn_4 (by decide) (fun _ => ?_) (fun c_0 => absurd (by decide +kernel) c_0)
  refine lv_iconst (v := nI 0) hx hb dX11_areDrawn_35 (by decide +kernel) ?_
  exact z_zret (v := nI 0) hx hb hr hlocks hP hD hS (by decide +kernel) dX11_areDrawn_36 ⟨rfl, rfl⟩
set_option maxHeartbeats 4000000 in
set_option maxRecDepth 100000 in
theorem kX11_isSlot (l : Launch) (D : va_G) (q : Nat → Nat) (cA : Nat → ClassId) (I R : Nat → Nat → Int32) (J : Nat → Nat → Int64) (x : Int32)  : zMi l D vwCl (zMtys cA) 25 q (zMd q cA) yX11_isSlot cX11_isSlot 1 (some .boolean) ({ frames := 1, cells := 0, slots := 0, locals := 25 } : Room) [.int (x)] (I, R, J) (fun r u => (r = nI 1 ∧ u = (I, R, J) ∧ 0 ≤ x.toInt ∧ x.toInt ≤ 3) ∨ (r = nI 0 ∧ u = (I, R, J) ∧ (x.toInt < 0 ∨ 3 < x.toInt))) := by
  intro sz
  refine z_body (by decide +kernel) (Nat.le_of_ble_eq_true rfl) (fun p e s m below meth c ls hx hb hml hr ht hown hlocks hsz hK hP hD hS hl => ?_)
  have hA : ∀ a, s.heap.size ≤ a → zA 25 q sz a := fun a h => Or.inr (hsz ▸ h)
  have hl : lv_has ls 1 [(0, .int (x))] := hl
  refine lv_iload_n hx hb dX11_isSlot_0 rfl (lv_at hl 0 rfl) ?_
  refine lv_i2l (v := (x).toInt64) hx hb dX11_isSlot_1 rfl ?_
  refine lv_lconst (v := (0 : Int64)) hx hb dX11_isSlot_2 (by decide +kernel) ?_
  refine lv_ldc2 (v := (3 : Int64)) hx hb hown (ht _ hw_7_91) dX11_isSlot_3 ?_
  refine z_callSi (As := [.long ((x).toInt64), .long ((0 : Int64)), .long ((3 : Int64))]) (rest := []) hx hb hml hown ht (kX11_in l D q cA _ _ _ (x).toInt 0 3 ((x).toInt64) ((0 : Int64)) ((3 : Int64)) (z_i2l _) (by decide +kernel) (by decide +kernel)) hw_6_86 hmX11_in ⟨rfl, rfl⟩ (na := 3) rfl (by decide +kernel) (by decide) hK hP hD hS hA hl.1 rfl (Nat.le_of_ble_eq_true rfl) ⟨Nat.zero_le _, Nat.zero_le _⟩ dX11_isSlot_6 (fun r_1 I_1 R_1 J_1 H locs hp_1 hP hD hS _ _ => ?_)
  rcases hp_1 with ⟨rfl, hu_1, h1_1, h2_1⟩ | ⟨rfl, hu_1, h1_1⟩
  · cases hu_1
    exact z_zret (v := nI 1) hx hb hr hlocks hP hD hS (by decide +kernel) dX11_isSlot_9 (Or.inl ⟨rfl, rfl, by omega, by omega⟩)
  · cases hu_1
    exact z_zret (v := nI 0) hx hb hr hlocks hP hD hS (by decide +kernel) dX11_isSlot_9 (Or.inr ⟨rfl, rfl, by omega⟩)
set_option maxHeartbeats 4000000 in
set_option maxRecDepth 100000 in
theorem kX11_asksPapers (l : Launch) (D : va_G) (q : Nat → Nat) (cA : Nat → ClassId)  (x : Int32)  : zMi l D vwCl (zMtys cA) 25 q (zMd q cA) yX11_asksPapers cX11_asksPapers 3 (some .int) ({ frames := 2, cells := 0, slots := 0, locals := 45 } : Room) [.ref (q 0), .int (x)] (zMI0, zMR0, zMJ0) (fun r u => r = (-2) ∧ u = (zMI0, zMR0, zMJ0)) := by
  intro sz
  refine z_body (by decide +kernel) (Nat.le_of_ble_eq_true rfl) (fun p e s m below meth c ls hx hb hml hr ht hown hlocks hsz hK hP hD hS hl => ?_)
  have hA : ∀ a, s.heap.size ≤ a → zA 25 q sz a := fun a h => Or.inr (hsz ▸ h)
  have hl : lv_has ls 3 [(0, .ref (q 0)), (1, .int (x))] := hl
  refine lv_iload_n hx hb dX11_asksPapers_0 rfl (lv_at hl 1 rfl) ?_
  refine z_callSi (As := [.int (x)]) (rest := []) hx hb hml hown ht (kX11_isSlot l D q cA _ _ _ (x)) hw_8_76 hmX11_isSlot ⟨rfl, rfl⟩ (na := 1) rfl (by decide +kernel) (by decide) hK hP hD hS hA hl.1 rfl (Nat.le_of_ble_eq_true rfl) ⟨Nat.zero_le _, Nat.zero_le _⟩ dX11_asksPapers_1 (fun r_1 I_1 R_1 J_1 H locs hp_1 hP hD hS _ _ => ?_)
  rcases hp_1 with ⟨rfl, hu_1, h1_1, h2_1⟩ | ⟨rfl, hu_1, h1_1⟩
  · cases hu_1
    refine lv_if_eq (tgt := 14) hx hb dX11_asksPapers_4 (by decide) (fun c_0 => absurd c_0 (by decide +kernel)) (fun _ => ?_)
    refine lv_aload_n hx hb dX11_asksPapers_7 rfl (lv_at hl 0 rfl) ?_
    refine z_callVi (k := 0) (As := []) (rest := []) hx hb hml hown ht (kX11_isCity l D q cA ) hw_7_75 hmX11_isCity ⟨rfl, rfl⟩ (na := 0) rfl (by decide +kernel) (by decide) (by decide) rfl rfl hK hP hD hS hA hl.1 rfl (Nat.le_of_ble_eq_true rfl) ⟨Nat.zero_le _, Nat.zero_le _⟩ dX11_asksPapers_8 (fun r_2 I_2 R_2 J_2 H locs hp_2 hP hD hS _ _ => ?_)
    obtain ⟨rfl, hu_2⟩ := hp_2
    cases hu_2
    refine lv_if_ne (tgt := 17) hx hb dX11_asksPapers_11 (by decide) (fun c_0 => absurd (by decide +kernel) c_0) (fun _ => ?_)
    refine lv_bipush (v := (-2)) hx hb dX11_asksPapers_14 (by decide +kernel) ?_
    exact z_iret (v := (-2)) hx hb hr hlocks hP hD hS dX11_asksPapers_16 ⟨rfl, rfl⟩
  · cases hu_1
    refine lv_if_eq (tgt := 14) hx hb dX11_asksPapers_4 (by decide) (fun _ => ?_) (fun c_0 => absurd (by decide +kernel) c_0)
    refine lv_bipush (v := (-2)) hx hb dX11_asksPapers_14 (by decide +kernel) ?_
    exact z_iret (v := (-2)) hx hb hr hlocks hP hD hS dX11_asksPapers_16 ⟨rfl, rfl⟩
set_option maxHeartbeats 4000000 in
set_option maxRecDepth 100000 in
theorem kX11_paper (l : Launch) (D : va_G) (q : Nat → Nat) (cA : Nat → ClassId)  (x : Int32) (w : Int32)  : zMi l D vwCl (zMtys cA) 25 q (zMd q cA) yX11_paper cX11_paper 3 (some .int) ({ frames := 2, cells := 0, slots := 0, locals := 46 } : Room) [.ref (q 0), .int (x), .int (w)] (zMI0, zMR0, zMJ0) (fun r _ => r = (-2)) := by
  intro sz
  refine z_body (by decide +kernel) (Nat.le_of_ble_eq_true rfl) (fun p e s m below meth c ls hx hb hml hr ht hown hlocks hsz hK hP hD hS hl => ?_)
  have hA : ∀ a, s.heap.size ≤ a → zA 25 q sz a := fun a h => Or.inr (hsz ▸ h)
  have hl : lv_has ls 3 [(0, .ref (q 0)), (1, .int (x)), (2, .int (w))] := hl
  refine lv_aload_n hx hb dX11_paper_0 rfl (lv_at hl 0 rfl) ?_
  refine lv_iload_n hx hb dX11_paper_1 rfl (lv_at hl 1 rfl) ?_
  refine z_callVi (k := 0) (As := [.int (x)]) (rest := []) hx hb hml hown ht (kX11_isPaper l D q cA (x)) hw_7_18 hmX11_isPaper ⟨rfl, rfl⟩ (na := 1) rfl (by decide +kernel) (by decide) (by decide) rfl rfl hK hP hD hS hA hl.1 rfl (Nat.le_of_ble_eq_true rfl) ⟨Nat.zero_le _, Nat.zero_le _⟩ dX11_paper_2 (fun r_1 I_1 R_1 J_1 H locs hp_1 hP hD hS _ _ => ?_)
  obtain rfl := hp_1
  refine lv_if_eq (tgt := 20) hx hb dX11_paper_5 (by decide) (fun _ => ?_) (fun c_0 => absurd (by decide +kernel) c_0)
  refine lv_bipush (v := (-2)) hx hb dX11_paper_20 (by decide +kernel) ?_
  exact z_iret (v := (-2)) hx hb hr hlocks hP hD hS dX11_paper_22 rfl
set_option maxHeartbeats 4000000 in
set_option maxRecDepth 100000 in
theorem kX11_price (l : Launch) (D : va_G) (q : Nat → Nat) (cA : Nat → ClassId)  (x : Int32)  : zMi l D vwCl (zMtys cA) 25 q (zMd q cA) yX11_price cX11_price 2 (some .int) ({ frames := 2, cells := 0, slots := 0, locals := 46 } : Room) [.ref (q 0), .int (x)] (zMI0, zMR0, zMJ0) (fun r _ => r = (-2)) := by
  intro sz
  refine z_body (by decide +kernel) (Nat.le_of_ble_eq_true rfl) (fun p e s m below meth c ls hx hb hml hr ht hown hlocks hsz hK hP hD hS hl => ?_)
  have hA : ∀ a, s.heap.size ≤ a → zA 25 q sz a := fun a h => Or.inr (hsz ▸ h)
  have hl : lv_has ls 2 [(0, .ref (q 0)), (1, .int (x))] := hl
  refine lv_aload_n hx hb dX11_price_0 rfl (lv_at hl 0 rfl) ?_
  refine lv_iload_n hx hb dX11_price_1 rfl (lv_at hl 1 rfl) ?_
  refine z_callVi (k := 0) (As := [.int (x)]) (rest := []) hx hb hml hown ht (kX11_isPaper l D q cA (x)) hw_7_18 hmX11_isPaper ⟨rfl, rfl⟩ (na := 1) rfl (by decide +kernel) (by decide) (by decide) rfl rfl hK hP hD hS hA hl.1 rfl (Nat.le_of_ble_eq_true rfl) ⟨Nat.zero_le _, Nat.zero_le _⟩ dX11_price_2 (fun r_1 I_1 R_1 J_1 H locs hp_1 hP hD hS _ _ => ?_)
  obtain rfl := hp_1
  refine lv_if_ne (tgt := 11) hx hb dX11_price_5 (by decide) (fun c_0 => absurd (by decide +kernel) c_0) (fun _ => ?_)
  refine lv_bipush (v := (-2)) hx hb dX11_price_8 (by decide +kernel) ?_
  exact z_iret (v := (-2)) hx hb hr hlocks hP hD hS dX11_price_10 rfl
set_option maxHeartbeats 4000000 in
set_option maxRecDepth 100000 in
theorem kX11_sell (l : Launch) (D : va_G) (q : Nat → Nat) (cA : Nat → ClassId)  (x : Int32) (h : Int32)  : zMi l D vwCl (zMtys cA) 25 q (zMd q cA) yX11_sell cX11_sell 3 (some .int) ({ frames := 2, cells := 0, slots := 0, locals := 46 } : Room) [.ref (q 0), .int (x), .int (h)] (zMI0, zMR0, zMJ0) (fun r _ => r = (-2)) := by
  intro sz
  refine z_body (by decide +kernel) (Nat.le_of_ble_eq_true rfl) (fun p e s m below meth c ls hx hb hml hr ht hown hlocks hsz hK hP hD hS hl => ?_)
  have hA : ∀ a, s.heap.size ≤ a → zA 25 q sz a := fun a h => Or.inr (hsz ▸ h)
  have hl : lv_has ls 3 [(0, .ref (q 0)), (1, .int (x)), (2, .int (h))] := hl
  refine lv_aload_n hx hb dX11_sell_0 rfl (lv_at hl 0 rfl) ?_
  refine lv_iload_n hx hb dX11_sell_1 rfl (lv_at hl 1 rfl) ?_
  refine z_callVi (k := 0) (As := [.int (x)]) (rest := []) hx hb hml hown ht (kX11_isPaper l D q cA (x)) hw_7_18 hmX11_isPaper ⟨rfl, rfl⟩ (na := 1) rfl (by decide +kernel) (by decide) (by decide) rfl rfl hK hP hD hS hA hl.1 rfl (Nat.le_of_ble_eq_true rfl) ⟨Nat.zero_le _, Nat.zero_le _⟩ dX11_sell_2 (fun r_1 I_1 R_1 J_1 H locs hp_1 hP hD hS _ _ => ?_)
  obtain rfl := hp_1
  refine lv_if_eq (tgt := 17) hx hb dX11_sell_5 (by decide) (fun _ => ?_) (fun c_0 => absurd (by decide +kernel) c_0)
  refine lv_bipush (v := (-2)) hx hb dX11_sell_17 (by decide +kernel) ?_
  exact z_iret (v := (-2)) hx hb hr hlocks hP hD hS dX11_sell_19 rfl
set_option maxHeartbeats 4000000 in
set_option maxRecDepth 100000 in
theorem kX11_brings (l : Launch) (D : va_G) (q : Nat → Nat) (cA : Nat → ClassId)  (x : Int32)  : zMi l D vwCl (zMtys cA) 25 q (zMd q cA) yX11_brings cX11_brings 2 (some .int) ({ frames := 2, cells := 0, slots := 0, locals := 46 } : Room) [.ref (q 0), .int (x)] (zMI0, zMR0, zMJ0) (fun r _ => r = (-2)) := by
  intro sz
  refine z_body (by decide +kernel) (Nat.le_of_ble_eq_true rfl) (fun p e s m below meth c ls hx hb hml hr ht hown hlocks hsz hK hP hD hS hl => ?_)
  have hA : ∀ a, s.heap.size ≤ a → zA 25 q sz a := fun a h => Or.inr (hsz ▸ h)
  have hl : lv_has ls 2 [(0, .ref (q 0)), (1, .int (x))] := hl
  refine lv_aload_n hx hb dX11_brings_0 rfl (lv_at hl 0 rfl) ?_
  refine lv_iload_n hx hb dX11_brings_1 rfl (lv_at hl 1 rfl) ?_
  refine z_callVi (k := 0) (As := [.int (x)]) (rest := []) hx hb hml hown ht (kX11_isPaper l D q cA (x)) hw_7_18 hmX11_isPaper ⟨rfl, rfl⟩ (na := 1) rfl (by decide +kernel) (by decide) (by decide) rfl rfl hK hP hD hS hA hl.1 rfl (Nat.le_of_ble_eq_true rfl) ⟨Nat.zero_le _, Nat.zero_le _⟩ dX11_brings_2 (fun r_1 I_1 R_1 J_1 H locs hp_1 hP hD hS _ _ => ?_)
  obtain rfl := hp_1
  refine lv_if_ne (tgt := 11) hx hb dX11_brings_5 (by decide) (fun c_0 => absurd (by decide +kernel) c_0) (fun _ => ?_)
  refine lv_bipush (v := (-2)) hx hb dX11_brings_8 (by decide +kernel) ?_
  exact z_iret (v := (-2)) hx hb hr hlocks hP hD hS dX11_brings_10 rfl
set_option maxHeartbeats 4000000 in
set_option maxRecDepth 100000 in
theorem kX11_strike (l : Launch) (D : va_G) (q : Nat → Nat) (cA : Nat → ClassId)  (x : Int32)  : zMi l D vwCl (zMtys cA) 25 q (zMd q cA) yX11_strike cX11_strike 2 (some .int) ({ frames := 2, cells := 0, slots := 0, locals := 46 } : Room) [.ref (q 0), .int (x)] (zMI0, zMR0, zMJ0) (fun r _ => r = (-2)) := by
  intro sz
  refine z_body (by decide +kernel) (Nat.le_of_ble_eq_true rfl) (fun p e s m below meth c ls hx hb hml hr ht hown hlocks hsz hK hP hD hS hl => ?_)
  have hA : ∀ a, s.heap.size ≤ a → zA 25 q sz a := fun a h => Or.inr (hsz ▸ h)
  have hl : lv_has ls 2 [(0, .ref (q 0)), (1, .int (x))] := hl
  refine lv_aload_n hx hb dX11_strike_0 rfl (lv_at hl 0 rfl) ?_
  refine lv_iload_n hx hb dX11_strike_1 rfl (lv_at hl 1 rfl) ?_
  refine z_callVi (k := 0) (As := [.int (x)]) (rest := []) hx hb hml hown ht (kX11_isPaper l D q cA (x)) hw_7_18 hmX11_isPaper ⟨rfl, rfl⟩ (na := 1) rfl (by decide +kernel) (by decide) (by decide) rfl rfl hK hP hD hS hA hl.1 rfl (Nat.le_of_ble_eq_true rfl) ⟨Nat.zero_le _, Nat.zero_le _⟩ dX11_strike_2 (fun r_1 I_1 R_1 J_1 H locs hp_1 hP hD hS _ _ => ?_)
  obtain rfl := hp_1
  refine lv_if_ne (tgt := 11) hx hb dX11_strike_5 (by decide) (fun c_0 => absurd (by decide +kernel) c_0) (fun _ => ?_)
  refine lv_bipush (v := (-2)) hx hb dX11_strike_8 (by decide +kernel) ?_
  exact z_iret (v := (-2)) hx hb hr hlocks hP hD hS dX11_strike_10 rfl
set_option maxHeartbeats 4000000 in
set_option maxRecDepth 100000 in
theorem kX11_rests (l : Launch) (D : va_G) (q : Nat → Nat) (cA : Nat → ClassId)  (x : Int32)  : zMi l D vwCl (zMtys cA) 25 q (zMd q cA) yX11_rests cX11_rests 4 (some .int) ({ frames := 2, cells := 0, slots := 0, locals := 42 } : Room) [.ref (q 0), .int (x)] (zMI0, zMR0, zMJ0) (fun r _ => r = (-2)) := by
  intro sz
  refine z_body (by decide +kernel) (Nat.le_of_ble_eq_true rfl) (fun p e s m below meth c ls hx hb hml hr ht hown hlocks hsz hK hP hD hS hl => ?_)
  have hA : ∀ a, s.heap.size ≤ a → zA 25 q sz a := fun a h => Or.inr (hsz ▸ h)
  have hl : lv_has ls 4 [(0, .ref (q 0)), (1, .int (x))] := hl
  refine lv_aload_n hx hb dX11_rests_0 rfl (lv_at hl 0 rfl) ?_
  refine lv_iload_n hx hb dX11_rests_1 rfl (lv_at hl 1 rfl) ?_
  refine z_callVi (k := 0) (As := [.int (x)]) (rest := []) hx hb hml hown ht (kX11_isCost l D q cA (x)) hw_8_39 hmX11_isCost ⟨rfl, rfl⟩ (na := 1) rfl (by decide +kernel) (by decide) (by decide) rfl rfl hK hP hD hS hA hl.1 rfl (Nat.le_of_ble_eq_true rfl) ⟨Nat.zero_le _, Nat.zero_le _⟩ dX11_rests_2 (fun r_1 I_1 R_1 J_1 H locs hp_1 hP hD hS _ _ => ?_)
  obtain rfl := hp_1
  refine lv_if_ne (tgt := 11) hx hb dX11_rests_5 (by decide) (fun c_0 => absurd (by decide +kernel) c_0) (fun _ => ?_)
  refine lv_bipush (v := (-2)) hx hb dX11_rests_8 (by decide +kernel) ?_
  exact z_iret (v := (-2)) hx hb hr hlocks hP hD hS dX11_rests_10 rfl
set_option maxHeartbeats 4000000 in
set_option maxRecDepth 100000 in
theorem kX11_rest (l : Launch) (D : va_G) (q : Nat → Nat) (cA : Nat → ClassId)  (x : Int32)  : zMi l D vwCl (zMtys cA) 25 q (zMd q cA) yX11_rest cX11_rest 3 (some .int) ({ frames := 2, cells := 0, slots := 0, locals := 42 } : Room) [.ref (q 0), .int (x)] (zMI0, zMR0, zMJ0) (fun r _ => r = (-2)) := by
  intro sz
  refine z_body (by decide +kernel) (Nat.le_of_ble_eq_true rfl) (fun p e s m below meth c ls hx hb hml hr ht hown hlocks hsz hK hP hD hS hl => ?_)
  have hA : ∀ a, s.heap.size ≤ a → zA 25 q sz a := fun a h => Or.inr (hsz ▸ h)
  have hl : lv_has ls 3 [(0, .ref (q 0)), (1, .int (x))] := hl
  refine lv_aload_n hx hb dX11_rest_0 rfl (lv_at hl 0 rfl) ?_
  refine lv_iload_n hx hb dX11_rest_1 rfl (lv_at hl 1 rfl) ?_
  refine z_callVi (k := 0) (As := [.int (x)]) (rest := []) hx hb hml hown ht (kX11_isCost l D q cA (x)) hw_8_39 hmX11_isCost ⟨rfl, rfl⟩ (na := 1) rfl (by decide +kernel) (by decide) (by decide) rfl rfl hK hP hD hS hA hl.1 rfl (Nat.le_of_ble_eq_true rfl) ⟨Nat.zero_le _, Nat.zero_le _⟩ dX11_rest_2 (fun r_1 I_1 R_1 J_1 H locs hp_1 hP hD hS _ _ => ?_)
  obtain rfl := hp_1
  refine lv_if_ne (tgt := 11) hx hb dX11_rest_5 (by decide) (fun c_0 => absurd (by decide +kernel) c_0) (fun _ => ?_)
  refine lv_bipush (v := (-2)) hx hb dX11_rest_8 (by decide +kernel) ?_
  exact z_iret (v := (-2)) hx hb hr hlocks hP hD hS dX11_rest_10 rfl
set_option maxHeartbeats 4000000 in
set_option maxRecDepth 100000 in
theorem kX11_wrong (l : Launch) (D : va_G) (q : Nat → Nat) (cA : Nat → ClassId)  (x : Int32)  : zMi l D vwCl (zMtys cA) 25 q (zMd q cA) yX11_wrong cX11_wrong 3 (some .int) ({ frames := 3, cells := 0, slots := 0, locals := 67 } : Room) [.ref (q 0), .int (x)] (zMI0, zMR0, zMJ0) (fun r _ => r = (-2)) := by
  intro sz
  refine z_body (by decide +kernel) (Nat.le_of_ble_eq_true rfl) (fun p e s m below meth c ls hx hb hml hr ht hown hlocks hsz hK hP hD hS hl => ?_)
  have hA : ∀ a, s.heap.size ≤ a → zA 25 q sz a := fun a h => Or.inr (hsz ▸ h)
  have hl : lv_has ls 3 [(0, .ref (q 0)), (1, .int (x))] := hl
  refine lv_aload_n hx hb dX11_wrong_0 rfl (lv_at hl 0 rfl) ?_
  refine lv_iload_n hx hb dX11_wrong_1 rfl (lv_at hl 1 rfl) ?_
  refine z_callVi (k := 0) (As := [.int (x)]) (rest := []) hx hb hml hown ht (kX11_asksPapers l D q cA (x)) hw_8_72 hmX11_asksPapers ⟨rfl, rfl⟩ (na := 1) rfl (by decide +kernel) (by decide) (by decide) rfl rfl hK hP hD hS hA hl.1 rfl (Nat.le_of_ble_eq_true rfl) ⟨Nat.zero_le _, Nat.zero_le _⟩ dX11_wrong_2 (fun r_1 I_1 R_1 J_1 H locs hp_1 hP hD hS _ _ => ?_)
  obtain ⟨rfl, hu_1⟩ := hp_1
  cases hu_1
  refine lv_istore_n (lv' := [(2, .int ((-2))), (0, .ref (q 0)), (1, .int (x))]) hx hb dX11_wrong_5 rfl hl (by decide) rfl (fun ls hl => ?_)
  refine lv_iload_n hx hb dX11_wrong_6 rfl (lv_at hl 0 rfl) ?_
  refine lv_if_ge (tgt := 12) hx hb dX11_wrong_7 (by decide) (fun c_0 => absurd c_0 (by decide +kernel)) (fun _ => ?_)
  refine lv_iload_n hx hb dX11_wrong_10 rfl (lv_at hl 0 rfl) ?_
  exact z_iret (v := (-2)) hx hb hr hlocks hP hD hS dX11_wrong_11 rfl
set_option maxHeartbeats 4000000 in
set_option maxRecDepth 100000 in
theorem kX11_forged (l : Launch) (D : va_G) (q : Nat → Nat) (cA : Nat → ClassId)  (x : Int32)  : zMi l D vwCl (zMtys cA) 25 q (zMd q cA) yX11_forged cX11_forged 3 (some .int) ({ frames := 3, cells := 0, slots := 0, locals := 67 } : Room) [.ref (q 0), .int (x)] (zMI0, zMR0, zMJ0) (fun r _ => r = (-2)) := by
  intro sz
  refine z_body (by decide +kernel) (Nat.le_of_ble_eq_true rfl) (fun p e s m below meth c ls hx hb hml hr ht hown hlocks hsz hK hP hD hS hl => ?_)
  have hA : ∀ a, s.heap.size ≤ a → zA 25 q sz a := fun a h => Or.inr (hsz ▸ h)
  have hl : lv_has ls 3 [(0, .ref (q 0)), (1, .int (x))] := hl
  refine lv_aload_n hx hb dX11_forged_0 rfl (lv_at hl 0 rfl) ?_
  refine lv_iload_n hx hb dX11_forged_1 rfl (lv_at hl 1 rfl) ?_
  refine z_callVi (k := 0) (As := [.int (x)]) (rest := []) hx hb hml hown ht (kX11_asksPapers l D q cA (x)) hw_8_72 hmX11_asksPapers ⟨rfl, rfl⟩ (na := 1) rfl (by decide +kernel) (by decide) (by decide) rfl rfl hK hP hD hS hA hl.1 rfl (Nat.le_of_ble_eq_true rfl) ⟨Nat.zero_le _, Nat.zero_le _⟩ dX11_forged_2 (fun r_1 I_1 R_1 J_1 H locs hp_1 hP hD hS _ _ => ?_)
  obtain ⟨rfl, hu_1⟩ := hp_1
  cases hu_1
  refine lv_istore_n (lv' := [(2, .int ((-2))), (0, .ref (q 0)), (1, .int (x))]) hx hb dX11_forged_5 rfl hl (by decide) rfl (fun ls hl => ?_)
  refine lv_iload_n hx hb dX11_forged_6 rfl (lv_at hl 0 rfl) ?_
  refine lv_if_ge (tgt := 12) hx hb dX11_forged_7 (by decide) (fun c_0 => absurd c_0 (by decide +kernel)) (fun _ => ?_)
  refine lv_iload_n hx hb dX11_forged_10 rfl (lv_at hl 0 rfl) ?_
  exact z_iret (v := (-2)) hx hb hr hlocks hP hD hS dX11_forged_11 rfl
set_option maxHeartbeats 4000000 in
set_option maxRecDepth 100000 in
theorem kX11_argued (l : Launch) (D : va_G) (q : Nat → Nat) (cA : Nat → ClassId)  (x : Int32)  : zMi l D vwCl (zMtys cA) 25 q (zMd q cA) yX11_argued cX11_argued 3 (some .int) ({ frames := 3, cells := 0, slots := 0, locals := 67 } : Room) [.ref (q 0), .int (x)] (zMI0, zMR0, zMJ0) (fun r _ => r = (-2)) := by
  intro sz
  refine z_body (by decide +kernel) (Nat.le_of_ble_eq_true rfl) (fun p e s m below meth c ls hx hb hml hr ht hown hlocks hsz hK hP hD hS hl => ?_)
  have hA : ∀ a, s.heap.size ≤ a → zA 25 q sz a := fun a h => Or.inr (hsz ▸ h)
  have hl : lv_has ls 3 [(0, .ref (q 0)), (1, .int (x))] := hl
  refine lv_aload_n hx hb dX11_argued_0 rfl (lv_at hl 0 rfl) ?_
  refine lv_iload_n hx hb dX11_argued_1 rfl (lv_at hl 1 rfl) ?_
  refine z_callVi (k := 0) (As := [.int (x)]) (rest := []) hx hb hml hown ht (kX11_asksPapers l D q cA (x)) hw_8_72 hmX11_asksPapers ⟨rfl, rfl⟩ (na := 1) rfl (by decide +kernel) (by decide) (by decide) rfl rfl hK hP hD hS hA hl.1 rfl (Nat.le_of_ble_eq_true rfl) ⟨Nat.zero_le _, Nat.zero_le _⟩ dX11_argued_2 (fun r_1 I_1 R_1 J_1 H locs hp_1 hP hD hS _ _ => ?_)
  obtain ⟨rfl, hu_1⟩ := hp_1
  cases hu_1
  refine lv_istore_n (lv' := [(2, .int ((-2))), (0, .ref (q 0)), (1, .int (x))]) hx hb dX11_argued_5 rfl hl (by decide) rfl (fun ls hl => ?_)
  refine lv_iload_n hx hb dX11_argued_6 rfl (lv_at hl 0 rfl) ?_
  refine lv_if_ge (tgt := 12) hx hb dX11_argued_7 (by decide) (fun c_0 => absurd c_0 (by decide +kernel)) (fun _ => ?_)
  refine lv_iload_n hx hb dX11_argued_10 rfl (lv_at hl 0 rfl) ?_
  exact z_iret (v := (-2)) hx hb hr hlocks hP hD hS dX11_argued_11 rfl
set_option maxHeartbeats 4000000 in
set_option maxRecDepth 100000 in
theorem kX11_drawn (l : Launch) (D : va_G) (q : Nat → Nat) (cA : Nat → ClassId)  (x : Int32) (n : Int32) (w : Int32)  : zMi l D vwCl (zMtys cA) 25 q (zMd q cA) yX11_drawn cX11_drawn 5 (some .int) ({ frames := 2, cells := 0, slots := 0, locals := 42 } : Room) [.ref (q 0), .int (x), .int (n), .int (w)] (zMI0, zMR0, zMJ0) (fun r _ => r = (-2)) := by
  intro sz
  refine z_body (by decide +kernel) (Nat.le_of_ble_eq_true rfl) (fun p e s m below meth c ls hx hb hml hr ht hown hlocks hsz hK hP hD hS hl => ?_)
  have hA : ∀ a, s.heap.size ≤ a → zA 25 q sz a := fun a h => Or.inr (hsz ▸ h)
  have hl : lv_has ls 5 [(0, .ref (q 0)), (1, .int (x)), (2, .int (n)), (3, .int (w))] := hl
  refine lv_aload_n hx hb dX11_drawn_0 rfl (lv_at hl 0 rfl) ?_
  refine lv_iload_n hx hb dX11_drawn_1 rfl (lv_at hl 1 rfl) ?_
  refine lv_iload_n hx hb dX11_drawn_2 rfl (lv_at hl 2 rfl) ?_
  refine z_callVi (k := 0) (As := [.int (x), .int (n)]) (rest := []) hx hb hml hown ht (kX11_areDrawn l D q cA (x) (n)) hw_8_108 hmX11_areDrawn ⟨rfl, rfl⟩ (na := 2) rfl (by decide +kernel) (by decide) (by decide) rfl rfl hK hP hD hS hA hl.1 rfl (Nat.le_of_ble_eq_true rfl) ⟨Nat.zero_le _, Nat.zero_le _⟩ dX11_drawn_3 (fun r_1 I_1 R_1 J_1 H locs hp_1 hP hD hS _ _ => ?_)
  obtain ⟨rfl, hu_1⟩ := hp_1
  cases hu_1
  refine lv_if_eq (tgt := 21) hx hb dX11_drawn_6 (by decide) (fun _ => ?_) (fun c_0 => absurd (by decide +kernel) c_0)
  refine lv_bipush (v := (-2)) hx hb dX11_drawn_21 (by decide +kernel) ?_
  exact z_iret (v := (-2)) hx hb hr hlocks hP hD hS dX11_drawn_23 rfl
set_option maxHeartbeats 4000000 in
set_option maxRecDepth 100000 in
theorem kX11_luck (l : Launch) (D : va_G) (q : Nat → Nat) (cA : Nat → ClassId)  (x : Int32) (k : Int32) (n : Int32) (t : Int32) (h : Int32)  : zMi l D vwCl (zMtys cA) 25 q (zMd q cA) yX11_luck cX11_luck 8 (some .int) ({ frames := 2, cells := 0, slots := 0, locals := 42 } : Room) [.ref (q 0), .int (x), .int (k), .int (n), .int (t), .int (h)] (zMI0, zMR0, zMJ0) (fun r _ => r = (-2)) := by
  intro sz
  refine z_body (by decide +kernel) (Nat.le_of_ble_eq_true rfl) (fun p e s m below meth c ls hx hb hml hr ht hown hlocks hsz hK hP hD hS hl => ?_)
  have hA : ∀ a, s.heap.size ≤ a → zA 25 q sz a := fun a h => Or.inr (hsz ▸ h)
  have hl : lv_has ls 8 [(0, .ref (q 0)), (1, .int (x)), (2, .int (k)), (3, .int (n)), (4, .int (t)), (5, .int (h))] := hl
  refine lv_aload_n hx hb dX11_luck_0 rfl (lv_at hl 0 rfl) ?_
  refine lv_iload_n hx hb dX11_luck_1 rfl (lv_at hl 1 rfl) ?_
  refine lv_iload_n hx hb dX11_luck_2 rfl (lv_at hl 3 rfl) ?_
  refine z_callVi (k := 0) (As := [.int (x), .int (n)]) (rest := []) hx hb hml hown ht (kX11_areDrawn l D q cA (x) (n)) hw_8_108 hmX11_areDrawn ⟨rfl, rfl⟩ (na := 2) rfl (by decide +kernel) (by decide) (by decide) rfl rfl hK hP hD hS hA hl.1 rfl (Nat.le_of_ble_eq_true rfl) ⟨Nat.zero_le _, Nat.zero_le _⟩ dX11_luck_3 (fun r_1 I_1 R_1 J_1 H locs hp_1 hP hD hS _ _ => ?_)
  obtain ⟨rfl, hu_1⟩ := hp_1
  cases hu_1
  refine lv_if_eq (tgt := 41) hx hb dX11_luck_6 (by decide) (fun _ => ?_) (fun c_0 => absurd (by decide +kernel) c_0)
  refine lv_bipush (v := (-2)) hx hb dX11_luck_41 (by decide +kernel) ?_
  exact z_iret (v := (-2)) hx hb hr hlocks hP hD hS dX11_luck_43 rfl
set_option maxHeartbeats 4000000 in
set_option maxRecDepth 100000 in
theorem kX11_end (l : Launch) (D : va_G) (q : Nat → Nat) (cA : Nat → ClassId)  (x : Int32)  : zMi l D vwCl (zMtys cA) 25 q (zMd q cA) yX11_end cX11_end 2 (some .int) ({ frames := 1, cells := 0, slots := 0, locals := 25 } : Room) [.ref (q 0), .int (x)] (zMI0, zMR0, zMJ0) (fun r _ => (x.toInt = 0 ∧ r = nI 0) ∨ (x.toInt ≠ 0 ∧ r = (-1))) := by
  intro sz
  refine z_body (by decide +kernel) (Nat.le_of_ble_eq_true rfl) (fun p e s m below meth c ls hx hb hml hr ht hown hlocks hsz hK hP hD hS hl => ?_)
  have hA : ∀ a, s.heap.size ≤ a → zA 25 q sz a := fun a h => Or.inr (hsz ▸ h)
  have hl : lv_has ls 2 [(0, .ref (q 0)), (1, .int (x))] := hl
  refine lv_iload_n hx hb dX11_end_0 rfl (lv_at hl 1 rfl) ?_
  refine lv_i2l (v := (x).toInt64) hx hb dX11_end_1 rfl ?_
  refine lv_lconst (v := (0 : Int64)) hx hb dX11_end_2 (by decide +kernel) ?_
  refine lv_aload_n hx hb dX11_end_3 rfl (lv_at hl 0 rfl) ?_
  refine z_get hx hb ht hown hK hP ziX11 rfl 0 (by decide) 5 (by decide) hw_5_192 rfl (v := .int (nI 0)) rfl dX11_end_4 ?_
  refine lv_i2l (v := (0 : Int64)) hx hb dX11_end_7 (by decide +kernel) ?_
  refine z_callSi (As := [.long ((x).toInt64), .long ((0 : Int64)), .long ((0 : Int64))]) (rest := []) hx hb hml hown ht (kX11_in l D q cA _ _ _ (x).toInt 0 0 ((x).toInt64) ((0 : Int64)) ((0 : Int64)) (z_i2l _) (by decide +kernel) (by decide +kernel)) hw_6_86 hmX11_in ⟨rfl, rfl⟩ (na := 3) rfl (by decide +kernel) (by decide) hK hP hD hS hA hl.1 rfl (Nat.le_of_ble_eq_true rfl) ⟨Nat.zero_le _, Nat.zero_le _⟩ dX11_end_8 (fun r_1 I_1 R_1 J_1 H locs hp_1 hP hD hS _ _ => ?_)
  rcases hp_1 with ⟨rfl, hu_1, h1_1, h2_1⟩ | ⟨rfl, hu_1, h1_1⟩
  · cases hu_1
    refine lv_if_ne (tgt := 16) hx hb dX11_end_11 (by decide) (fun _ => ?_) (fun c_0 => absurd c_0 (by decide +kernel))
    refine lv_aload_n hx hb dX11_end_16 rfl (lv_at hl 0 rfl) ?_
    refine lv_iload_n hx hb dX11_end_17 rfl (lv_at hl 1 rfl) ?_
    refine z_putI hx hb ht hown hK hP hD hS ziX11 tyX11 tyX11_ok nmX11 rfl 0 (by decide) 5 (by decide) hw_5_192 rfl (v := x) rfl rfl rfl (Nat.le_of_ble_eq_true rfl) rfl dX11_end_18 (fun H locs hP hD hS => ?_)
    refine lv_iload_n hx hb dX11_end_21 rfl (lv_at hl 1 rfl) ?_
    exact z_iret (v := x) hx hb hr hlocks hP hD hS dX11_end_22 (Or.inl ⟨by omega, z_of (by omega) (by omega)⟩)
  · cases hu_1
    refine lv_if_ne (tgt := 16) hx hb dX11_end_11 (by decide) (fun c_0 => absurd (by decide +kernel) c_0) (fun _ => ?_)
    refine lv_iconst (v := (-1)) hx hb dX11_end_14 (by decide +kernel) ?_
    exact z_iret (v := (-1)) hx hb hr hlocks hP hD hS dX11_end_15 (Or.inr ⟨by omega, rfl⟩)
set_option maxHeartbeats 4000000 in
set_option maxRecDepth 100000 in
theorem kX11_fault (l : Launch) (D : va_G) (q : Nat → Nat) (cA : Nat → ClassId)  (x : Int32)  : zMi l D vwCl (zMtys cA) 25 q (zMd q cA) yX11_fault cX11_fault 2 (some .int) ({ frames := 0, cells := 0, slots := 0, locals := 0 } : Room) [.ref (q 0), .int (x)] (zMI0, zMR0, zMJ0) (fun r _ => (x.toInt = 0 ∧ r = nI 0) ∨ (x.toInt ≠ 0 ∧ r = (-1))) := by
  intro sz
  refine z_body (by decide +kernel) (Nat.le_of_ble_eq_true rfl) (fun p e s m below meth c ls hx hb hml hr ht hown hlocks hsz hK hP hD hS hl => ?_)
  have hA : ∀ a, s.heap.size ≤ a → zA 25 q sz a := fun a h => Or.inr (hsz ▸ h)
  have hl : lv_has ls 2 [(0, .ref (q 0)), (1, .int (x))] := hl
  refine lv_iload_n hx hb dX11_fault_0 rfl (lv_at hl 1 rfl) ?_
  refine lv_if_ne (tgt := 11) hx hb dX11_fault_1 (by decide) (fun c_1 => ?_) (fun c_1 => ?_)
  · have kc_1_1 : (nI 0 : Int32).toInt = 0 := by decide +kernel
    have kc_1_2 : (0 : Int32).toInt = 0 := by decide +kernel
    have t_c_1 := z_eqF c_1
    refine lv_iload_n hx hb dX11_fault_11 rfl (lv_at hl 1 rfl) ?_
    refine lv_iconst (v := nI 1) hx hb dX11_fault_12 (by decide +kernel) ?_
    refine lv_icmp_ne (tgt := 23) hx hb dX11_fault_13 (by decide) (fun c_2 => ?_) (fun c_2 => ?_)
    · have kc_2_1 : (nI 1 : Int32).toInt = 1 := by decide +kernel
      have t_c_2 := z_eqF c_2
      refine lv_iconst (v := (-1)) hx hb dX11_fault_23 (by decide +kernel) ?_
      exact z_iret (v := (-1)) hx hb hr hlocks hP hD hS dX11_fault_24 (Or.inr ⟨by omega, rfl⟩)
    · have kc_2_1 : (nI 1 : Int32).toInt = 1 := by decide +kernel
      have t_c_2 := z_eqT c_2
      refine lv_aload_n hx hb dX11_fault_16 rfl (lv_at hl 0 rfl) ?_
      refine z_get hx hb ht hown hK hP ziX11 rfl 0 (by decide) 13 (by decide) hw_5_200 rfl (v := .int ((-1))) rfl dX11_fault_17 ?_
      refine lv_goto (tgt := 24) hx hb dX11_fault_20 (by decide) ?_
      exact z_iret (v := (-1)) hx hb hr hlocks hP hD hS dX11_fault_24 (Or.inr ⟨by omega, rfl⟩)
  · have kc_1_1 : (nI 0 : Int32).toInt = 0 := by decide +kernel
    have kc_1_2 : (0 : Int32).toInt = 0 := by decide +kernel
    have t_c_1 := z_eqT c_1
    refine lv_aload_n hx hb dX11_fault_4 rfl (lv_at hl 0 rfl) ?_
    refine z_get hx hb ht hown hK hP ziX11 rfl 0 (by decide) 12 (by decide) hw_5_199 rfl (v := .int (nI 0)) rfl dX11_fault_5 ?_
    refine lv_goto (tgt := 24) hx hb dX11_fault_8 (by decide) ?_
    exact z_iret (v := nI 0) hx hb hr hlocks hP hD hS dX11_fault_24 (Or.inl ⟨by omega, rfl⟩)
set_option maxHeartbeats 4000000 in
set_option maxRecDepth 100000 in
theorem kX11_count (l : Launch) (D : va_G) (q : Nat → Nat) (cA : Nat → ClassId)  (x : Int32)  : zMi l D vwCl (zMtys cA) 25 q (zMd q cA) yX11_count cX11_count 4 (some .int) ({ frames := 1, cells := 0, slots := 0, locals := 21 } : Room) [.ref (q 0), .int (x)] (zMI0, zMR0, zMJ0) (fun r _ => (0 ≤ x.toInt ∧ x.toInt ≤ 9 ∧ r = nI 0) ∨ ((x.toInt < 0 ∨ 9 < x.toInt) ∧ r = (-1))) := by
  intro sz
  refine z_body (by decide +kernel) (Nat.le_of_ble_eq_true rfl) (fun p e s m below meth c ls hx hb hml hr ht hown hlocks hsz hK hP hD hS hl => ?_)
  have hA : ∀ a, s.heap.size ≤ a → zA 25 q sz a := fun a h => Or.inr (hsz ▸ h)
  have hl : lv_has ls 4 [(0, .ref (q 0)), (1, .int (x))] := hl
  refine lv_iconst (v := nI 0) hx hb dX11_count_0 (by decide +kernel) ?_
  refine lv_istore_n (lv' := [(2, .int (nI 0)), (0, .ref (q 0)), (1, .int (x))]) hx hb dX11_count_1 rfl hl (by decide) rfl (fun ls hl => ?_)
  refine lv_iload_n hx hb dX11_count_2 rfl (lv_at hl 2 rfl) ?_
  by_cases c_1 : (x).toInt < 0 ∨ 9 < (x).toInt
  · refine lv_tableOut (tgt := 153) hx hb dX11_count_3 c_1 (by decide) ?_
    refine lv_iconst (v := (-1)) hx hb dX11_count_153 (by decide +kernel) ?_
    exact z_iret (v := (-1)) hx hb hr hlocks hP hD hS dX11_count_154 (Or.inr ⟨by omega, rfl⟩)
  · have hc_1 : (x).toInt = 0 ∨ (x).toInt = 1 ∨ (x).toInt = 2 ∨ (x).toInt = 3 ∨ (x).toInt = 4 ∨ (x).toInt = 5 ∨ (x).toInt = 6 ∨ (x).toInt = 7 ∨ (x).toInt = 8 ∨ (x).toInt = 9 := by omega
    rcases hc_1 with kc_1 | kc_1 | kc_1 | kc_1 | kc_1 | kc_1 | kc_1 | kc_1 | kc_1 | kc_1
    · refine lv_tableIn (off := 53) (tgt := 56) hx hb dX11_count_3 (by omega) (by omega) (by rw [kc_1]; decide +kernel) (by decide) ?_
      refine lv_aload_n hx hb dX11_count_56 rfl (lv_at hl 1 rfl) ?_
      refine z_get hx hb ht hown hK hP ziX11 rfl 0 (by decide) 1 (by decide) hw_5_188 rfl (v := .ref (q 1)) rfl dX11_count_57 ?_
      refine lv_iconst (v := nI 0) hx hb dX11_count_60 (by decide +kernel) ?_
      refine z_iald hx hb hK hP 1 (by decide) 0 rfl rfl (vp_in_nI (by omega) (by decide)) dX11_count_61 ?_
      refine z_eqi (y := nI 0) rfl ?_
      exact z_iret (v := nI 0) hx hb hr hlocks hP hD hS dX11_count_62 (Or.inl ⟨by omega, by omega, rfl⟩)
    · refine lv_tableIn (off := 60) (tgt := 63) hx hb dX11_count_3 (by omega) (by omega) (by rw [kc_1]; decide +kernel) (by decide) ?_
      refine lv_aload_n hx hb dX11_count_63 rfl (lv_at hl 1 rfl) ?_
      refine z_get hx hb ht hown hK hP ziX11 rfl 0 (by decide) 1 (by decide) hw_5_188 rfl (v := .ref (q 1)) rfl dX11_count_64 ?_
      refine lv_iconst (v := nI 1) hx hb dX11_count_67 (by decide +kernel) ?_
      refine z_iald hx hb hK hP 1 (by decide) 0 rfl rfl (vp_in_nI (by omega) (by decide)) dX11_count_68 ?_
      refine z_eqi (y := nI 0) rfl ?_
      exact z_iret (v := nI 0) hx hb hr hlocks hP hD hS dX11_count_69 (Or.inl ⟨by omega, by omega, rfl⟩)
    · refine lv_tableIn (off := 67) (tgt := 70) hx hb dX11_count_3 (by omega) (by omega) (by rw [kc_1]; decide +kernel) (by decide) ?_
      refine lv_aload_n hx hb dX11_count_70 rfl (lv_at hl 1 rfl) ?_
      refine z_get hx hb ht hown hK hP ziX11 rfl 0 (by decide) 1 (by decide) hw_5_188 rfl (v := .ref (q 1)) rfl dX11_count_71 ?_
      refine lv_iconst (v := nI 2) hx hb dX11_count_74 (by decide +kernel) ?_
      refine z_iald hx hb hK hP 1 (by decide) 0 rfl rfl (vp_in_nI (by omega) (by decide)) dX11_count_75 ?_
      refine z_eqi (y := nI 0) rfl ?_
      exact z_iret (v := nI 0) hx hb hr hlocks hP hD hS dX11_count_76 (Or.inl ⟨by omega, by omega, rfl⟩)
    · refine lv_tableIn (off := 74) (tgt := 77) hx hb dX11_count_3 (by omega) (by omega) (by rw [kc_1]; decide +kernel) (by decide) ?_
      refine lv_aload_n hx hb dX11_count_77 rfl (lv_at hl 1 rfl) ?_
      refine z_get hx hb ht hown hK hP ziX11 rfl 0 (by decide) 1 (by decide) hw_5_188 rfl (v := .ref (q 1)) rfl dX11_count_78 ?_
      refine lv_iconst (v := nI 3) hx hb dX11_count_81 (by decide +kernel) ?_
      refine z_iald hx hb hK hP 1 (by decide) 0 rfl rfl (vp_in_nI (by omega) (by decide)) dX11_count_82 ?_
      refine z_eqi (y := nI 0) rfl ?_
      exact z_iret (v := nI 0) hx hb hr hlocks hP hD hS dX11_count_83 (Or.inl ⟨by omega, by omega, rfl⟩)
    · refine lv_tableIn (off := 81) (tgt := 84) hx hb dX11_count_3 (by omega) (by omega) (by rw [kc_1]; decide +kernel) (by decide) ?_
      refine lv_aload_n hx hb dX11_count_84 rfl (lv_at hl 1 rfl) ?_
      refine z_get hx hb ht hown hK hP ziX11 rfl 0 (by decide) 1 (by decide) hw_5_188 rfl (v := .ref (q 1)) rfl dX11_count_85 ?_
      refine lv_iconst (v := nI 4) hx hb dX11_count_88 (by decide +kernel) ?_
      refine z_iald hx hb hK hP 1 (by decide) 0 rfl rfl (vp_in_nI (by omega) (by decide)) dX11_count_89 ?_
      refine z_eqi (y := nI 0) rfl ?_
      exact z_iret (v := nI 0) hx hb hr hlocks hP hD hS dX11_count_90 (Or.inl ⟨by omega, by omega, rfl⟩)
    · refine lv_tableIn (off := 88) (tgt := 91) hx hb dX11_count_3 (by omega) (by omega) (by rw [kc_1]; decide +kernel) (by decide) ?_
      refine lv_aload_n hx hb dX11_count_91 rfl (lv_at hl 1 rfl) ?_
      refine z_callVv (k := 0) (As := []) (rest := []) hx hb hml hown ht (kX11_asItIs l D q cA) hw_6_181 hmX11_asItIs ⟨rfl, rfl⟩ (na := 0) rfl (by decide +kernel) (by decide) (by decide) rfl rfl hK hP hD hS hA hl.1 rfl (Nat.le_of_ble_eq_true rfl) ⟨Nat.zero_le _, Nat.zero_le _⟩ dX11_count_92 (fun I_2 R_2 J_2 H locs hp_2 hP hD hS _ _ => ?_)
      obtain ⟨ha_2, hb_2⟩ := hp_2
      refine lv_aload_n hx hb dX11_count_95 rfl (lv_at hl 1 rfl) ?_
      refine z_get hx hb ht hown hK hP ziX11 rfl 0 (by decide) 26 (by decide) hw_5_213 rfl (v := .int (I_2 0 26)) rfl dX11_count_96 ?_
      refine z_eqi (y := nI 0) ha_2 ?_
      exact z_iret (v := nI 0) hx hb hr hlocks hP hD hS dX11_count_99 (Or.inl ⟨by omega, by omega, rfl⟩)
    · refine lv_tableIn (off := 97) (tgt := 100) hx hb dX11_count_3 (by omega) (by omega) (by rw [kc_1]; decide +kernel) (by decide) ?_
      refine lv_aload_n hx hb dX11_count_100 rfl (lv_at hl 1 rfl) ?_
      refine z_get hx hb ht hown hK hP ziX11 rfl 0 (by decide) 1 (by decide) hw_5_188 rfl (v := .ref (q 1)) rfl dX11_count_101 ?_
      refine lv_bipush (v := nI 6) hx hb dX11_count_104 (by decide +kernel) ?_
      refine z_iald hx hb hK hP 1 (by decide) 0 rfl rfl (vp_in_nI (by omega) (by decide)) dX11_count_106 ?_
      refine z_eqi (y := nI 0) rfl ?_
      exact z_iret (v := nI 0) hx hb hr hlocks hP hD hS dX11_count_107 (Or.inl ⟨by omega, by omega, rfl⟩)
    · refine lv_tableIn (off := 105) (tgt := 108) hx hb dX11_count_3 (by omega) (by omega) (by rw [kc_1]; decide +kernel) (by decide) ?_
      refine lv_aload_n hx hb dX11_count_108 rfl (lv_at hl 1 rfl) ?_
      refine z_get hx hb ht hown hK hP ziX11 rfl 0 (by decide) 1 (by decide) hw_5_188 rfl (v := .ref (q 1)) rfl dX11_count_109 ?_
      refine lv_iconst (v := nI 5) hx hb dX11_count_112 (by decide +kernel) ?_
      refine z_iald hx hb hK hP 1 (by decide) 0 rfl rfl (vp_in_nI (by omega) (by decide)) dX11_count_113 ?_
      refine z_eqi (y := nI 0) rfl ?_
      exact z_iret (v := nI 0) hx hb hr hlocks hP hD hS dX11_count_114 (Or.inl ⟨by omega, by omega, rfl⟩)
    · refine lv_tableIn (off := 112) (tgt := 115) hx hb dX11_count_3 (by omega) (by omega) (by rw [kc_1]; decide +kernel) (by decide) ?_
      refine lv_aload_n hx hb dX11_count_115 rfl (lv_at hl 1 rfl) ?_
      refine z_get hx hb ht hown hK hP ziX11 rfl 0 (by decide) 5 (by decide) hw_5_192 rfl (v := .int (nI 0)) rfl dX11_count_116 ?_
      exact z_iret (v := nI 0) hx hb hr hlocks hP hD hS dX11_count_119 (Or.inl ⟨by omega, by omega, rfl⟩)
    · refine lv_tableIn (off := 117) (tgt := 120) hx hb dX11_count_3 (by omega) (by omega) (by rw [kc_1]; decide +kernel) (by decide) ?_
      refine lv_iconst (v := nI 0) hx hb dX11_count_120 (by decide +kernel) ?_
      refine lv_istore_n (lv' := [(3, .int (nI 0)), (2, .int (nI 0)), (0, .ref (q 0)), (1, .int (x))]) hx hb dX11_count_121 rfl hl (by decide) rfl (fun ls hl => ?_)
      refine lv_iload_n hx hb dX11_count_122 rfl (lv_at hl 0 rfl) ?_
      refine lv_iconst (v := nI 4) hx hb dX11_count_123 (by decide +kernel) ?_
      refine lv_icmp_ge (tgt := 151) hx hb dX11_count_124 (by decide) (fun c_0 => absurd c_0 (by decide +kernel)) (fun _ => ?_)
      refine lv_iload_n hx hb dX11_count_127 rfl (lv_at hl 1 rfl) ?_
      refine lv_aload_n hx hb dX11_count_128 rfl (lv_at hl 2 rfl) ?_
      refine z_get hx hb ht hown hK hP ziX11 rfl 0 (by decide) 40 (by decide) hw_5_227 rfl (v := .ref (q 21)) rfl dX11_count_129 ?_
      refine lv_iload_n hx hb dX11_count_132 rfl (lv_at hl 0 rfl) ?_
      refine z_iald hx hb hK hP 21 (by decide) 20 rfl rfl (vp_in_nI (by omega) (by decide)) dX11_count_133 ?_
      refine z_eqi (y := (-1)) (by decide +kernel) ?_
      refine lv_iconst (v := (-1)) hx hb dX11_count_134 (by decide +kernel) ?_
      refine lv_icmp_ne (tgt := 142) hx hb dX11_count_135 (by decide) (fun c_0 => absurd (by decide +kernel) c_0) (fun _ => ?_)
      refine lv_iconst (v := nI 0) hx hb dX11_count_138 (by decide +kernel) ?_
      refine lv_goto (tgt := 143) hx hb dX11_count_139 (by decide) ?_
      refine lv_iadd hx hb dX11_count_143 ?_
      refine z_eqi (y := nI 0) (by decide +kernel) ?_
      refine lv_istore_n (lv' := [(2, .int (nI 0)), (3, .int (nI 0)), (0, .ref (q 0)), (1, .int (x))]) hx hb dX11_count_144 rfl hl (by decide) rfl (fun ls hl => ?_)
      refine lv_iinc (v := nI 1) (lv' := [(3, .int (nI 1)), (2, .int (nI 0)), (0, .ref (q 0)), (1, .int (x))]) hx hb dX11_count_145 hl (k := 1) rfl (by decide +kernel) (by decide) rfl (fun ls hl => ?_)
      refine lv_goto (tgt := 122) hx hb dX11_count_148 (by decide) ?_
      refine lv_iload_n hx hb dX11_count_122 rfl (lv_at hl 0 rfl) ?_
      refine lv_iconst (v := nI 4) hx hb dX11_count_123 (by decide +kernel) ?_
      refine lv_icmp_ge (tgt := 151) hx hb dX11_count_124 (by decide) (fun c_0 => absurd c_0 (by decide +kernel)) (fun _ => ?_)
      refine lv_iload_n hx hb dX11_count_127 rfl (lv_at hl 1 rfl) ?_
      refine lv_aload_n hx hb dX11_count_128 rfl (lv_at hl 2 rfl) ?_
      refine z_get hx hb ht hown hK hP ziX11 rfl 0 (by decide) 40 (by decide) hw_5_227 rfl (v := .ref (q 21)) rfl dX11_count_129 ?_
      refine lv_iload_n hx hb dX11_count_132 rfl (lv_at hl 0 rfl) ?_
      refine z_iald hx hb hK hP 21 (by decide) 20 rfl rfl (vp_in_nI (by omega) (by decide)) dX11_count_133 ?_
      refine z_eqi (y := (-1)) (by decide +kernel) ?_
      refine lv_iconst (v := (-1)) hx hb dX11_count_134 (by decide +kernel) ?_
      refine lv_icmp_ne (tgt := 142) hx hb dX11_count_135 (by decide) (fun c_0 => absurd (by decide +kernel) c_0) (fun _ => ?_)
      refine lv_iconst (v := nI 0) hx hb dX11_count_138 (by decide +kernel) ?_
      refine lv_goto (tgt := 143) hx hb dX11_count_139 (by decide) ?_
      refine lv_iadd hx hb dX11_count_143 ?_
      refine z_eqi (y := nI 0) (by decide +kernel) ?_
      refine lv_istore_n (lv' := [(2, .int (nI 0)), (3, .int (nI 1)), (0, .ref (q 0)), (1, .int (x))]) hx hb dX11_count_144 rfl hl (by decide) rfl (fun ls hl => ?_)
      refine lv_iinc (v := nI 2) (lv' := [(3, .int (nI 2)), (2, .int (nI 0)), (0, .ref (q 0)), (1, .int (x))]) hx hb dX11_count_145 hl (k := 1) rfl (by decide +kernel) (by decide) rfl (fun ls hl => ?_)
      refine lv_goto (tgt := 122) hx hb dX11_count_148 (by decide) ?_
      refine lv_iload_n hx hb dX11_count_122 rfl (lv_at hl 0 rfl) ?_
      refine lv_iconst (v := nI 4) hx hb dX11_count_123 (by decide +kernel) ?_
      refine lv_icmp_ge (tgt := 151) hx hb dX11_count_124 (by decide) (fun c_0 => absurd c_0 (by decide +kernel)) (fun _ => ?_)
      refine lv_iload_n hx hb dX11_count_127 rfl (lv_at hl 1 rfl) ?_
      refine lv_aload_n hx hb dX11_count_128 rfl (lv_at hl 2 rfl) ?_
      refine z_get hx hb ht hown hK hP ziX11 rfl 0 (by decide) 40 (by decide) hw_5_227 rfl (v := .ref (q 21)) rfl dX11_count_129 ?_
      refine lv_iload_n hx hb dX11_count_132 rfl (lv_at hl 0 rfl) ?_
      refine z_iald hx hb hK hP 21 (by decide) 20 rfl rfl (vp_in_nI (by omega) (by decide)) dX11_count_133 ?_
      refine z_eqi (y := (-1)) (by decide +kernel) ?_
      refine lv_iconst (v := (-1)) hx hb dX11_count_134 (by decide +kernel) ?_
      refine lv_icmp_ne (tgt := 142) hx hb dX11_count_135 (by decide) (fun c_0 => absurd (by decide +kernel) c_0) (fun _ => ?_)
      refine lv_iconst (v := nI 0) hx hb dX11_count_138 (by decide +kernel) ?_
      refine lv_goto (tgt := 143) hx hb dX11_count_139 (by decide) ?_
      refine lv_iadd hx hb dX11_count_143 ?_
      refine z_eqi (y := nI 0) (by decide +kernel) ?_
      refine lv_istore_n (lv' := [(2, .int (nI 0)), (3, .int (nI 2)), (0, .ref (q 0)), (1, .int (x))]) hx hb dX11_count_144 rfl hl (by decide) rfl (fun ls hl => ?_)
      refine lv_iinc (v := nI 3) (lv' := [(3, .int (nI 3)), (2, .int (nI 0)), (0, .ref (q 0)), (1, .int (x))]) hx hb dX11_count_145 hl (k := 1) rfl (by decide +kernel) (by decide) rfl (fun ls hl => ?_)
      refine lv_goto (tgt := 122) hx hb dX11_count_148 (by decide) ?_
      refine lv_iload_n hx hb dX11_count_122 rfl (lv_at hl 0 rfl) ?_
      refine lv_iconst (v := nI 4) hx hb dX11_count_123 (by decide +kernel) ?_
      refine lv_icmp_ge (tgt := 151) hx hb dX11_count_124 (by decide) (fun c_0 => absurd c_0 (by decide +kernel)) (fun _ => ?_)
      refine lv_iload_n hx hb dX11_count_127 rfl (lv_at hl 1 rfl) ?_
      refine lv_aload_n hx hb dX11_count_128 rfl (lv_at hl 2 rfl) ?_
      refine z_get hx hb ht hown hK hP ziX11 rfl 0 (by decide) 40 (by decide) hw_5_227 rfl (v := .ref (q 21)) rfl dX11_count_129 ?_
      refine lv_iload_n hx hb dX11_count_132 rfl (lv_at hl 0 rfl) ?_
      refine z_iald hx hb hK hP 21 (by decide) 20 rfl rfl (vp_in_nI (by omega) (by decide)) dX11_count_133 ?_
      refine z_eqi (y := (-1)) (by decide +kernel) ?_
      refine lv_iconst (v := (-1)) hx hb dX11_count_134 (by decide +kernel) ?_
      refine lv_icmp_ne (tgt := 142) hx hb dX11_count_135 (by decide) (fun c_0 => absurd (by decide +kernel) c_0) (fun _ => ?_)
      refine lv_iconst (v := nI 0) hx hb dX11_count_138 (by decide +kernel) ?_
      refine lv_goto (tgt := 143) hx hb dX11_count_139 (by decide) ?_
      refine lv_iadd hx hb dX11_count_143 ?_
      refine z_eqi (y := nI 0) (by decide +kernel) ?_
      refine lv_istore_n (lv' := [(2, .int (nI 0)), (3, .int (nI 3)), (0, .ref (q 0)), (1, .int (x))]) hx hb dX11_count_144 rfl hl (by decide) rfl (fun ls hl => ?_)
      refine lv_iinc (v := nI 4) (lv' := [(3, .int (nI 4)), (2, .int (nI 0)), (0, .ref (q 0)), (1, .int (x))]) hx hb dX11_count_145 hl (k := 1) rfl (by decide +kernel) (by decide) rfl (fun ls hl => ?_)
      refine lv_goto (tgt := 122) hx hb dX11_count_148 (by decide) ?_
      refine lv_iload_n hx hb dX11_count_122 rfl (lv_at hl 0 rfl) ?_
      refine lv_iconst (v := nI 4) hx hb dX11_count_123 (by decide +kernel) ?_
      refine lv_icmp_ge (tgt := 151) hx hb dX11_count_124 (by decide) (fun _ => ?_) (fun c_0 => absurd (by decide +kernel) c_0)
      refine lv_iload_n hx hb dX11_count_151 rfl (lv_at hl 1 rfl) ?_
      exact z_iret (v := nI 0) hx hb hr hlocks hP hD hS dX11_count_152 (Or.inl ⟨by omega, by omega, rfl⟩)
set_option maxHeartbeats 4000000 in
set_option maxRecDepth 100000 in
theorem kX11_back (l : Launch) (D : va_G) (q : Nat → Nat) (cA : Nat → ClassId)  (x : Int32)  : zMi l D vwCl (zMtys cA) 25 q (zMd q cA) yX11_back cX11_back 3 (some .int) ({ frames := 1, cells := 0, slots := 0, locals := 25 } : Room) [.ref (q 0), .int (x)] (zMI0, zMR0, zMJ0) (fun r _ => (0 ≤ x.toInt ∧ x.toInt ≤ 2 ∧ r = (-6)) ∨ ((x.toInt < 0 ∨ 2 < x.toInt) ∧ r = (-2))) := by
  intro sz
  refine z_body (by decide +kernel) (Nat.le_of_ble_eq_true rfl) (fun p e s m below meth c ls hx hb hml hr ht hown hlocks hsz hK hP hD hS hl => ?_)
  have hA : ∀ a, s.heap.size ≤ a → zA 25 q sz a := fun a h => Or.inr (hsz ▸ h)
  have hl : lv_has ls 3 [(0, .ref (q 0)), (1, .int (x))] := hl
  refine lv_iload_n hx hb dX11_back_0 rfl (lv_at hl 1 rfl) ?_
  refine lv_i2l (v := (x).toInt64) hx hb dX11_back_1 rfl ?_
  refine lv_lconst (v := (0 : Int64)) hx hb dX11_back_2 (by decide +kernel) ?_
  refine lv_ldc2 (v := (2 : Int64)) hx hb hown (ht _ hw_6_85) dX11_back_3 ?_
  refine z_callSi (As := [.long ((x).toInt64), .long ((0 : Int64)), .long ((2 : Int64))]) (rest := []) hx hb hml hown ht (kX11_in l D q cA _ _ _ (x).toInt 0 2 ((x).toInt64) ((0 : Int64)) ((2 : Int64)) (z_i2l _) (by decide +kernel) (by decide +kernel)) hw_6_86 hmX11_in ⟨rfl, rfl⟩ (na := 3) rfl (by decide +kernel) (by decide) hK hP hD hS hA hl.1 rfl (Nat.le_of_ble_eq_true rfl) ⟨Nat.zero_le _, Nat.zero_le _⟩ dX11_back_6 (fun r_1 I_1 R_1 J_1 H locs hp_1 hP hD hS _ _ => ?_)
  rcases hp_1 with ⟨rfl, hu_1, h1_1, h2_1⟩ | ⟨rfl, hu_1, h1_1⟩
  · cases hu_1
    refine lv_if_ne (tgt := 15) hx hb dX11_back_9 (by decide) (fun _ => ?_) (fun c_0 => absurd c_0 (by decide +kernel))
    refine lv_aload_n hx hb dX11_back_15 rfl (lv_at hl 0 rfl) ?_
    refine z_get hx hb ht hown hK hP ziX11 rfl 0 (by decide) 3 (by decide) hw_5_190 rfl (v := .ref (q 3)) rfl dX11_back_16 ?_
    refine lv_iload_n hx hb dX11_back_19 rfl (lv_at hl 1 rfl) ?_
    refine z_zald hx hb hK hP 3 (by decide) 2 rfl rfl (z_vin (by omega) (by omega)) dX11_back_20 ?_
    refine z_eqi (y := nI 0) rfl ?_
    refine lv_if_ne (tgt := 27) hx hb dX11_back_21 (by decide) (fun c_0 => absurd (by decide +kernel) c_0) (fun _ => ?_)
    refine lv_bipush (v := (-6)) hx hb dX11_back_24 (by decide +kernel) ?_
    exact z_iret (v := (-6)) hx hb hr hlocks hP hD hS dX11_back_26 (Or.inl ⟨by omega, by omega, rfl⟩)
  · cases hu_1
    refine lv_if_ne (tgt := 15) hx hb dX11_back_9 (by decide) (fun c_0 => absurd (by decide +kernel) c_0) (fun _ => ?_)
    refine lv_bipush (v := (-2)) hx hb dX11_back_12 (by decide +kernel) ?_
    exact z_iret (v := (-2)) hx hb hr hlocks hP hD hS dX11_back_14 (Or.inr ⟨by omega, rfl⟩)
set_option maxHeartbeats 4000000 in
set_option maxRecDepth 100000 in
theorem kX11_write (l : Launch) (D : va_G) (q : Nat → Nat) (cA : Nat → ClassId)  (x : Int32) (i : Int32) (v : Int64)  : zMi l D vwCl (zMtys cA) 25 q (zMd q cA) yX11_write cX11_write 5 (some .int) ({ frames := 2, cells := 0, slots := 0, locals := 45 } : Room) [.ref (q 0), .int (x), .int (i), .long (v)] (zMI0, zMR0, zMJ0) (fun r _ => (0 ≤ x.toInt ∧ x.toInt ≤ 3 ∧ r = (-6)) ∨ ((x.toInt < 0 ∨ 3 < x.toInt) ∧ r = (-2))) := by
  intro sz
  refine z_body (by decide +kernel) (Nat.le_of_ble_eq_true rfl) (fun p e s m below meth c ls hx hb hml hr ht hown hlocks hsz hK hP hD hS hl => ?_)
  have hA : ∀ a, s.heap.size ≤ a → zA 25 q sz a := fun a h => Or.inr (hsz ▸ h)
  have hl : lv_has ls 5 [(0, .ref (q 0)), (1, .int (x)), (2, .int (i)), (3, .long (v))] := hl
  refine lv_iload_n hx hb dX11_write_0 rfl (lv_at hl 1 rfl) ?_
  refine z_callSi (As := [.int (x)]) (rest := []) hx hb hml hown ht (kX11_isSlot l D q cA _ _ _ (x)) hw_8_76 hmX11_isSlot ⟨rfl, rfl⟩ (na := 1) rfl (by decide +kernel) (by decide) hK hP hD hS hA hl.1 rfl (Nat.le_of_ble_eq_true rfl) ⟨Nat.zero_le _, Nat.zero_le _⟩ dX11_write_1 (fun r_1 I_1 R_1 J_1 H locs hp_1 hP hD hS _ _ => ?_)
  rcases hp_1 with ⟨rfl, hu_1, h1_1, h2_1⟩ | ⟨rfl, hu_1, h1_1⟩
  · cases hu_1
    refine lv_if_ne (tgt := 10) hx hb dX11_write_4 (by decide) (fun _ => ?_) (fun c_0 => absurd c_0 (by decide +kernel))
    refine lv_aload_n hx hb dX11_write_10 rfl (lv_at hl 0 rfl) ?_
    refine z_get hx hb ht hown hK hP ziX11 rfl 0 (by decide) 40 (by decide) hw_5_227 rfl (v := .ref (q 21)) rfl dX11_write_11 ?_
    refine lv_iload_n hx hb dX11_write_14 rfl (lv_at hl 1 rfl) ?_
    refine z_iald hx hb hK hP 21 (by decide) 20 rfl rfl (z_vin (by omega) (by omega)) dX11_write_15 ?_
    refine z_eqi (y := (-1)) (z_many (by omega) (by omega)) ?_
    refine lv_iconst (v := (-1)) hx hb dX11_write_16 (by decide +kernel) ?_
    refine lv_icmp_ne (tgt := 23) hx hb dX11_write_17 (by decide) (fun c_0 => absurd (by decide +kernel) c_0) (fun _ => ?_)
    refine lv_bipush (v := (-6)) hx hb dX11_write_20 (by decide +kernel) ?_
    exact z_iret (v := (-6)) hx hb hr hlocks hP hD hS dX11_write_22 (Or.inl ⟨by omega, by omega, rfl⟩)
  · cases hu_1
    refine lv_if_ne (tgt := 10) hx hb dX11_write_4 (by decide) (fun c_0 => absurd (by decide +kernel) c_0) (fun _ => ?_)
    refine lv_bipush (v := (-2)) hx hb dX11_write_7 (by decide +kernel) ?_
    exact z_iret (v := (-2)) hx hb hr hlocks hP hD hS dX11_write_9 (Or.inr ⟨by omega, rfl⟩)
set_option maxHeartbeats 4000000 in
set_option maxRecDepth 100000 in
theorem kX11_paste (l : Launch) (D : va_G) (q : Nat → Nat) (cA : Nat → ClassId)  (x : Int32) (i : Int32) (t : Int32) (k : Int32) (n : Int32)  : zMi l D vwCl (zMtys cA) 25 q (zMd q cA) yX11_paste cX11_paste 7 (some .int) ({ frames := 2, cells := 0, slots := 0, locals := 45 } : Room) [.ref (q 0), .int (x), .int (i), .int (t), .int (k), .int (n)] (zMI0, zMR0, zMJ0) (fun r _ => (0 ≤ x.toInt ∧ x.toInt ≤ 3 ∧ 0 ≤ t.toInt ∧ t.toInt ≤ 3 ∧ r = (-6)) ∨ ((x.toInt < 0 ∨ 3 < x.toInt ∨ t.toInt < 0 ∨ 3 < t.toInt) ∧ r = (-2))) := by
  intro sz
  refine z_body (by decide +kernel) (Nat.le_of_ble_eq_true rfl) (fun p e s m below meth c ls hx hb hml hr ht hown hlocks hsz hK hP hD hS hl => ?_)
  have hA : ∀ a, s.heap.size ≤ a → zA 25 q sz a := fun a h => Or.inr (hsz ▸ h)
  have hl : lv_has ls 7 [(0, .ref (q 0)), (1, .int (x)), (2, .int (i)), (3, .int (t)), (4, .int (k)), (5, .int (n))] := hl
  refine lv_iload_n hx hb dX11_paste_0 rfl (lv_at hl 1 rfl) ?_
  refine z_callSi (As := [.int (x)]) (rest := []) hx hb hml hown ht (kX11_isSlot l D q cA _ _ _ (x)) hw_8_76 hmX11_isSlot ⟨rfl, rfl⟩ (na := 1) rfl (by decide +kernel) (by decide) hK hP hD hS hA hl.1 rfl (Nat.le_of_ble_eq_true rfl) ⟨Nat.zero_le _, Nat.zero_le _⟩ dX11_paste_1 (fun r_1 I_1 R_1 J_1 H locs hp_1 hP hD hS _ _ => ?_)
  rcases hp_1 with ⟨rfl, hu_1, h1_1, h2_1⟩ | ⟨rfl, hu_1, h1_1⟩
  · cases hu_1
    refine lv_if_eq (tgt := 14) hx hb dX11_paste_4 (by decide) (fun c_0 => absurd c_0 (by decide +kernel)) (fun _ => ?_)
    refine lv_iload_n hx hb dX11_paste_7 rfl (lv_at hl 3 rfl) ?_
    refine z_callSi (As := [.int (t)]) (rest := []) hx hb hml hown ht (kX11_isSlot l D q cA _ _ _ (t)) hw_8_76 hmX11_isSlot ⟨rfl, rfl⟩ (na := 1) rfl (by decide +kernel) (by decide) hK hP hD hS hA hl.1 rfl (Nat.le_of_ble_eq_true rfl) ⟨Nat.zero_le _, Nat.zero_le _⟩ dX11_paste_8 (fun r_2 I_2 R_2 J_2 H locs hp_2 hP hD hS _ _ => ?_)
    rcases hp_2 with ⟨rfl, hu_2, h1_2, h2_2⟩ | ⟨rfl, hu_2, h1_2⟩
    · cases hu_2
      refine lv_if_ne (tgt := 17) hx hb dX11_paste_11 (by decide) (fun _ => ?_) (fun c_0 => absurd c_0 (by decide +kernel))
      refine lv_aload_n hx hb dX11_paste_17 rfl (lv_at hl 0 rfl) ?_
      refine z_get hx hb ht hown hK hP ziX11 rfl 0 (by decide) 40 (by decide) hw_5_227 rfl (v := .ref (q 21)) rfl dX11_paste_18 ?_
      refine lv_iload_n hx hb dX11_paste_21 rfl (lv_at hl 1 rfl) ?_
      refine z_iald hx hb hK hP 21 (by decide) 20 rfl rfl (z_vin (by omega) (by omega)) dX11_paste_22 ?_
      refine z_eqi (y := (-1)) (z_many (by omega) (by omega)) ?_
      refine lv_iconst (v := (-1)) hx hb dX11_paste_23 (by decide +kernel) ?_
      refine lv_icmp_eq (tgt := 37) hx hb dX11_paste_24 (by decide) (fun _ => ?_) (fun c_0 => absurd (by decide +kernel) c_0)
      refine lv_bipush (v := (-6)) hx hb dX11_paste_37 (by decide +kernel) ?_
      exact z_iret (v := (-6)) hx hb hr hlocks hP hD hS dX11_paste_39 (Or.inl ⟨by omega, by omega, by omega, by omega, rfl⟩)
    · cases hu_2
      refine lv_if_ne (tgt := 17) hx hb dX11_paste_11 (by decide) (fun c_0 => absurd (by decide +kernel) c_0) (fun _ => ?_)
      refine lv_bipush (v := (-2)) hx hb dX11_paste_14 (by decide +kernel) ?_
      exact z_iret (v := (-2)) hx hb hr hlocks hP hD hS dX11_paste_16 (Or.inr ⟨by omega, rfl⟩)
  · cases hu_1
    refine lv_if_eq (tgt := 14) hx hb dX11_paste_4 (by decide) (fun _ => ?_) (fun c_0 => absurd (by decide +kernel) c_0)
    refine lv_bipush (v := (-2)) hx hb dX11_paste_14 (by decide +kernel) ?_
    exact z_iret (v := (-2)) hx hb hr hlocks hP hD hS dX11_paste_16 (Or.inr ⟨by omega, rfl⟩)
set_option maxHeartbeats 4000000 in
set_option maxRecDepth 100000 in
theorem kX11_image (l : Launch) (D : va_G) (q : Nat → Nat) (cA : Nat → ClassId)  (x : Int32)  : zMi l D vwCl (zMtys cA) 25 q (zMd q cA) yX11_image cX11_image 3 (some .int) ({ frames := 1, cells := 0, slots := 0, locals := 25 } : Room) [.ref (q 0), .int (x)] (zMI0, zMR0, zMJ0) (fun r _ => (0 ≤ x.toInt ∧ x.toInt ≤ 2 ∧ r = nI 0) ∨ ((x.toInt < 0 ∨ 2 < x.toInt) ∧ r = (-2))) := by
  intro sz
  refine z_body (by decide +kernel) (Nat.le_of_ble_eq_true rfl) (fun p e s m below meth c ls hx hb hml hr ht hown hlocks hsz hK hP hD hS hl => ?_)
  have hA : ∀ a, s.heap.size ≤ a → zA 25 q sz a := fun a h => Or.inr (hsz ▸ h)
  have hl : lv_has ls 3 [(0, .ref (q 0)), (1, .int (x))] := hl
  refine lv_iload_n hx hb dX11_image_0 rfl (lv_at hl 1 rfl) ?_
  refine lv_i2l (v := (x).toInt64) hx hb dX11_image_1 rfl ?_
  refine lv_lconst (v := (0 : Int64)) hx hb dX11_image_2 (by decide +kernel) ?_
  refine lv_ldc2 (v := (2 : Int64)) hx hb hown (ht _ hw_6_85) dX11_image_3 ?_
  refine z_callSi (As := [.long ((x).toInt64), .long ((0 : Int64)), .long ((2 : Int64))]) (rest := []) hx hb hml hown ht (kX11_in l D q cA _ _ _ (x).toInt 0 2 ((x).toInt64) ((0 : Int64)) ((2 : Int64)) (z_i2l _) (by decide +kernel) (by decide +kernel)) hw_6_86 hmX11_in ⟨rfl, rfl⟩ (na := 3) rfl (by decide +kernel) (by decide) hK hP hD hS hA hl.1 rfl (Nat.le_of_ble_eq_true rfl) ⟨Nat.zero_le _, Nat.zero_le _⟩ dX11_image_6 (fun r_1 I_1 R_1 J_1 H locs hp_1 hP hD hS _ _ => ?_)
  rcases hp_1 with ⟨rfl, hu_1, h1_1, h2_1⟩ | ⟨rfl, hu_1, h1_1⟩
  · cases hu_1
    refine lv_if_ne (tgt := 15) hx hb dX11_image_9 (by decide) (fun _ => ?_) (fun c_0 => absurd c_0 (by decide +kernel))
    obtain ⟨n_2, hn_2, rfl⟩ := z_ex (x := x) (N := 3) (by omega) (by omega)
    refine lv_iconst (v := nI 0) hx hb dX11_image_15 (by decide +kernel) ?_
    refine lv_istore_n (lv' := [(2, .int (nI 0)), (0, .ref (q 0)), (1, .int (nI n_2))]) hx hb dX11_image_16 rfl hl (by decide) rfl (fun ls hl => ?_)
    have loop_k_3 : ∀ (N k_3 : Nat) (gk_3_2 : Nat → Int32), k_3 ≤ 119 → 119 < k_3 + N → ∀ (H : Heap) (locs : List Loc), va_P D vwCl (zw 25 q (zMd q cA) zMI0 (zr zMR0 2 gk_3_2) zMJ0) H → va_D (zA 25 q sz) (zw 25 q (zMd q cA) zMI0 (zr zMR0 2 gk_3_2) zMJ0) → va_S (zA 25 q sz) s.heap H locs → ∀ ls : Array Slot, lv_has ls 3 [(0, .ref (q 0)), (1, .int (nI n_2)), (2, .int (nI k_3))] → W p l e ({ frames := 1, cells := 0, slots := 0, locals := 25 } : Room) s m ([.ref (q 0), .int ((nI n_2))] : List Value).toArray below meth c H locs 0 0 (MQ below (va_Qi (fun r _ => (0 ≤ (nI n_2).toInt ∧ (nI n_2).toInt ≤ 2 ∧ r = nI 0) ∨ (((nI n_2).toInt < 0 ∨ 2 < (nI n_2).toInt) ∧ r = (-2))) (zB D vwCl 25 q (zMd q cA) sz) (zA 25 q sz)) ([.ref (q 0), .int ((nI n_2))] : List Value).toArray s 0 0 (zA 25 q sz)) (F0 m 17 ls []) := by
      intro N
      induction N with
      | zero => intro k_3 gk_3_2 h1 h2; exact absurd h2 (by omega)
      | succ N ih =>
        intro k_3 gk_3_2 h1k_3 h2k_3  H locs hP hD hS ls hl
        rcases Nat.lt_or_ge k_3 119 with hkk_3 | hkk_3
        · refine lv_iload_n hx hb dX11_image_17 rfl (lv_at hl 2 rfl) ?_
          refine lv_bipush (v := nI 119) hx hb dX11_image_18 (by decide +kernel) ?_
          refine lv_icmp_ge (tgt := 46) hx hb dX11_image_20 (by decide) (fun c_0 => absurd c_0 (nI_ge (by omega) (by omega))) (fun _ => ?_)
          refine lv_aload_n hx hb dX11_image_23 rfl (lv_at hl 0 rfl) ?_
          refine z_get hx hb ht hown hK hP ziX11 rfl 0 (by decide) 2 (by decide) hw_5_189 rfl (v := .ref (q 2)) rfl dX11_image_24 ?_
          refine lv_bipush (v := nI 119) hx hb dX11_image_27 (by decide +kernel) ?_
          refine lv_iload_n hx hb dX11_image_29 rfl (lv_at hl 1 rfl) ?_
          refine lv_imul hx hb dX11_image_30 ?_
          refine z_eqi (y := nI (119 * n_2)) (pk_mul 119 n_2) ?_
          refine lv_iload_n hx hb dX11_image_31 rfl (lv_at hl 2 rfl) ?_
          refine lv_iadd hx hb dX11_image_32 ?_
          refine z_eqi (y := nI ((119 * n_2) + k_3)) (nI_add (119 * n_2) k_3) ?_
          refine lv_aload_n hx hb dX11_image_33 rfl (lv_at hl 0 rfl) ?_
          refine z_get hx hb ht hown hK hP ziX11 rfl 0 (by decide) 1 (by decide) hw_5_188 rfl (v := .ref (q 1)) rfl dX11_image_34 ?_
          refine lv_iload_n hx hb dX11_image_37 rfl (lv_at hl 2 rfl) ?_
          refine z_iald hx hb hK hP 1 (by decide) 0 rfl rfl (vp_in_nI (by omega) (by decide)) dX11_image_38 ?_
          refine z_eqi (y := nI 0) rfl ?_
          refine z_iast hx hb hK hP hD hS 2 (by decide) 1 (fun _ => rfl) rfl (vp_in_nI (by omega) (by decide)) dX11_image_39 (fun H locs hP hD hS => ?_)
          refine lv_iinc (v := nI (k_3 + 1)) (lv' := [(2, .int (nI (k_3 + 1))), (0, .ref (q 0)), (1, .int (nI n_2))]) hx hb dX11_image_40 hl (k := 2) rfl (nI_add k_3 1) (by decide) rfl (fun ls hl => ?_)
          refine lv_goto (tgt := 17) hx hb dX11_image_43 (by decide) ?_
          rw [zp_zr] at hP hD
          exact ih ((k_3 + 1)) _ (by omega) (by omega)  _ _ hP hD hS _ (lv_sub hl [1, 2, 0] rfl)
        · refine lv_iload_n hx hb dX11_image_17 rfl (lv_at hl 2 rfl) ?_
          refine lv_bipush (v := nI 119) hx hb dX11_image_18 (by decide +kernel) ?_
          refine lv_icmp_ge (tgt := 46) hx hb dX11_image_20 (by decide) (fun _ => ?_) (fun c_0 => absurd (nI_le (by omega) (by omega)) c_0)
          refine lv_aload_n hx hb dX11_image_46 rfl (lv_at hl 0 rfl) ?_
          refine z_get hx hb ht hown hK hP ziX11 rfl 0 (by decide) 3 (by decide) hw_5_190 rfl (v := .ref (q 3)) rfl dX11_image_47 ?_
          refine lv_iload_n hx hb dX11_image_50 rfl (lv_at hl 1 rfl) ?_
          refine lv_iconst (v := nI 1) hx hb dX11_image_51 (by decide +kernel) ?_
          refine z_zast hx hb hK hP hD hS 3 (by decide) 2 (fun _ => rfl) rfl (vp_in_nI (by omega) (by decide)) dX11_image_52 (fun H locs hP hD hS => ?_)
          refine lv_iconst (v := nI 0) hx hb dX11_image_53 (by decide +kernel) ?_
          exact z_iret (v := nI 0) hx hb hr hlocks hP hD hS dX11_image_54 (Or.inl ⟨by omega, by omega, rfl⟩)
    exact loop_k_3 120 0 (zMR0 2) (by omega) (by omega)  _ _ (by simp only [zr_self]; exact hP) (by simp only [zr_self]; exact hD) hS _ (lv_sub hl [1, 2, 0] rfl)
  · cases hu_1
    refine lv_if_ne (tgt := 15) hx hb dX11_image_9 (by decide) (fun c_0 => absurd (by decide +kernel) c_0) (fun _ => ?_)
    refine lv_bipush (v := (-2)) hx hb dX11_image_12 (by decide +kernel) ?_
    exact z_iret (v := (-2)) hx hb hr hlocks hP hD hS dX11_image_14 (Or.inr ⟨by omega, rfl⟩)
set_option maxHeartbeats 4000000 in
set_option maxRecDepth 100000 in
theorem kX11_row (l : Launch) (D : va_G) (q : Nat → Nat) (cA : Nat → ClassId)  (x : Int32) (w : Int32) (n : Int32)  : zMi l D vwCl (zMtys cA) 25 q (zMd q cA) yX11_row cX11_row 5 (some .int) ({ frames := 2, cells := 0, slots := 0, locals := 45 } : Room) [.ref (q 0), .int (x), .int (w), .int (n)] (zMI0, zMR0, zMJ0) (fun r _ => ((x.toInt < 0 ∨ 3 < x.toInt ∨ w.toInt < 0 ∨ 3 < w.toInt ∨ 60 < n.toInt) ∧ r = (-2)) ∨ (¬ (x.toInt < 0 ∨ 3 < x.toInt ∨ w.toInt < 0 ∨ 3 < w.toInt ∨ 60 < n.toInt) ∧ n.toInt < 0 ∧ r = (-3)) ∨ (¬ (x.toInt < 0 ∨ 3 < x.toInt ∨ w.toInt < 0 ∨ 3 < w.toInt ∨ 60 < n.toInt) ∧ 0 ≤ n.toInt ∧ r = nI 0)) := by
  intro sz
  refine z_body (by decide +kernel) (Nat.le_of_ble_eq_true rfl) (fun p e s m below meth c ls hx hb hml hr ht hown hlocks hsz hK hP hD hS hl => ?_)
  have hA : ∀ a, s.heap.size ≤ a → zA 25 q sz a := fun a h => Or.inr (hsz ▸ h)
  have hl : lv_has ls 5 [(0, .ref (q 0)), (1, .int (x)), (2, .int (w)), (3, .int (n))] := hl
  refine lv_iload_n hx hb dX11_row_0 rfl (lv_at hl 1 rfl) ?_
  refine z_callSi (As := [.int (x)]) (rest := []) hx hb hml hown ht (kX11_isSlot l D q cA _ _ _ (x)) hw_8_76 hmX11_isSlot ⟨rfl, rfl⟩ (na := 1) rfl (by decide +kernel) (by decide) hK hP hD hS hA hl.1 rfl (Nat.le_of_ble_eq_true rfl) ⟨Nat.zero_le _, Nat.zero_le _⟩ dX11_row_1 (fun r_1 I_1 R_1 J_1 H locs hp_1 hP hD hS _ _ => ?_)
  rcases hp_1 with ⟨rfl, hu_1, h1_1, h2_1⟩ | ⟨rfl, hu_1, h1_1⟩
  · cases hu_1
    refine lv_if_eq (tgt := 25) hx hb dX11_row_4 (by decide) (fun c_0 => absurd c_0 (by decide +kernel)) (fun _ => ?_)
    refine lv_iload_n hx hb dX11_row_7 rfl (lv_at hl 2 rfl) ?_
    refine lv_i2l (v := (w).toInt64) hx hb dX11_row_8 rfl ?_
    refine lv_lconst (v := (0 : Int64)) hx hb dX11_row_9 (by decide +kernel) ?_
    refine lv_ldc2 (v := (3 : Int64)) hx hb hown (ht _ hw_7_91) dX11_row_10 ?_
    refine z_callSi (As := [.long ((w).toInt64), .long ((0 : Int64)), .long ((3 : Int64))]) (rest := []) hx hb hml hown ht (kX11_in l D q cA _ _ _ (w).toInt 0 3 ((w).toInt64) ((0 : Int64)) ((3 : Int64)) (z_i2l _) (by decide +kernel) (by decide +kernel)) hw_6_86 hmX11_in ⟨rfl, rfl⟩ (na := 3) rfl (by decide +kernel) (by decide) hK hP hD hS hA hl.1 rfl (Nat.le_of_ble_eq_true rfl) ⟨Nat.zero_le _, Nat.zero_le _⟩ dX11_row_13 (fun r_2 I_2 R_2 J_2 H locs hp_2 hP hD hS _ _ => ?_)
    rcases hp_2 with ⟨rfl, hu_2, h1_2, h2_2⟩ | ⟨rfl, hu_2, h1_2⟩
    · cases hu_2
      refine lv_if_eq (tgt := 25) hx hb dX11_row_16 (by decide) (fun c_0 => absurd c_0 (by decide +kernel)) (fun _ => ?_)
      refine lv_iload_n hx hb dX11_row_19 rfl (lv_at hl 3 rfl) ?_
      refine lv_bipush (v := nI 60) hx hb dX11_row_20 (by decide +kernel) ?_
      refine lv_icmp_le (tgt := 28) hx hb dX11_row_22 (by decide) (fun c_3 => ?_) (fun c_3 => ?_)
      · have kc_3_1 : (nI 60 : Int32).toInt = 60 := by decide +kernel
        have t_c_3 := z_leT c_3
        refine lv_iload_n hx hb dX11_row_28 rfl (lv_at hl 3 rfl) ?_
        refine lv_if_ge (tgt := 35) hx hb dX11_row_29 (by decide) (fun c_4 => ?_) (fun c_4 => ?_)
        · have kc_4_1 : (nI 0 : Int32).toInt = 0 := by decide +kernel
          have kc_4_2 : (0 : Int32).toInt = 0 := by decide +kernel
          have t_c_4 := z_leT c_4
          obtain ⟨n_5, hn_5, rfl⟩ := z_ex (x := x) (N := 4) (by omega) (by omega)
          refine lv_aload_n hx hb dX11_row_35 rfl (lv_at hl 0 rfl) ?_
          refine z_get hx hb ht hown hK hP ziX11 rfl 0 (by decide) 40 (by decide) hw_5_227 rfl (v := .ref (q 21)) rfl dX11_row_36 ?_
          refine lv_iload_n hx hb dX11_row_39 rfl (lv_at hl 1 rfl) ?_
          refine lv_iload_n hx hb dX11_row_40 rfl (lv_at hl 3 rfl) ?_
          refine z_iast hx hb hK hP hD hS 21 (by decide) 20 (fun _ => rfl) rfl (vp_in_nI (by omega) (by decide)) dX11_row_41 (fun H locs hP hD hS => ?_)
          refine lv_aload_n hx hb dX11_row_42 rfl (lv_at hl 0 rfl) ?_
          refine z_get hx hb ht hown hK hP ziX11 rfl 0 (by decide) 41 (by decide) hw_5_228 rfl (v := .ref (q 22)) rfl dX11_row_43 ?_
          refine lv_iload_n hx hb dX11_row_46 rfl (lv_at hl 1 rfl) ?_
          refine lv_iload_n hx hb dX11_row_47 rfl (lv_at hl 2 rfl) ?_
          refine z_iast hx hb hK hP hD hS 22 (by decide) 21 (fun _ => rfl) rfl (vp_in_nI (by omega) (by decide)) dX11_row_48 (fun H locs hP hD hS => ?_)
          refine lv_iconst (v := nI 0) hx hb dX11_row_49 (by decide +kernel) ?_
          refine lv_istore (lv' := [(4, .int (nI 0)), (0, .ref (q 0)), (1, .int (nI n_5)), (2, .int (w)), (3, .int (n))]) hx hb dX11_row_50 hl (by decide) rfl (fun ls hl => ?_)
          have loop_k_6 : ∀ (N k_6 : Nat) (jk_6_23 : Nat → Int64), k_6 ≤ 60 → 60 < k_6 + N → ∀ (H : Heap) (locs : List Loc), va_P D vwCl (zw 25 q (zMd q cA) zMI0 (zp (zp zMR0 21 (nI n_5).toNatClampNeg (n)) 22 (nI n_5).toNatClampNeg (w)) (zr zMJ0 23 jk_6_23)) H → va_D (zA 25 q sz) (zw 25 q (zMd q cA) zMI0 (zp (zp zMR0 21 (nI n_5).toNatClampNeg (n)) 22 (nI n_5).toNatClampNeg (w)) (zr zMJ0 23 jk_6_23)) → va_S (zA 25 q sz) s.heap H locs → ∀ ls : Array Slot, lv_has ls 5 [(0, .ref (q 0)), (1, .int (nI n_5)), (2, .int (w)), (3, .int (n)), (4, .int (nI k_6))] → W p l e ({ frames := 2, cells := 0, slots := 0, locals := 45 } : Room) s m ([.ref (q 0), .int ((nI n_5)), .int (w), .int (n)] : List Value).toArray below meth c H locs 0 0 (MQ below (va_Qi (fun r _ => (((nI n_5).toInt < 0 ∨ 3 < (nI n_5).toInt ∨ w.toInt < 0 ∨ 3 < w.toInt ∨ 60 < n.toInt) ∧ r = (-2)) ∨ (¬ ((nI n_5).toInt < 0 ∨ 3 < (nI n_5).toInt ∨ w.toInt < 0 ∨ 3 < w.toInt ∨ 60 < n.toInt) ∧ n.toInt < 0 ∧ r = (-3)) ∨ (¬ ((nI n_5).toInt < 0 ∨ 3 < (nI n_5).toInt ∨ w.toInt < 0 ∨ 3 < w.toInt ∨ 60 < n.toInt) ∧ 0 ≤ n.toInt ∧ r = nI 0)) (zB D vwCl 25 q (zMd q cA) sz) (zA 25 q sz)) ([.ref (q 0), .int ((nI n_5)), .int (w), .int (n)] : List Value).toArray s 0 0 (zA 25 q sz)) (F0 m 52 ls []) := by
            intro N
            induction N with
            | zero => intro k_6 jk_6_23 h1 h2; exact absurd h2 (by omega)
            | succ N ih =>
              intro k_6 jk_6_23 h1k_6 h2k_6  H locs hP hD hS ls hl
              rcases Nat.lt_or_ge k_6 60 with hkk_6 | hkk_6
              · refine lv_iload hx hb dX11_row_52 (lv_at hl 4 rfl) ?_
                refine lv_bipush (v := nI 60) hx hb dX11_row_54 (by decide +kernel) ?_
                refine lv_icmp_ge (tgt := 78) hx hb dX11_row_56 (by decide) (fun c_0 => absurd c_0 (nI_ge (by omega) (by omega))) (fun _ => ?_)
                refine lv_aload_n hx hb dX11_row_59 rfl (lv_at hl 0 rfl) ?_
                refine z_get hx hb ht hown hK hP ziX11 rfl 0 (by decide) 42 (by decide) hw_5_229 rfl (v := .ref (q 23)) rfl dX11_row_60 ?_
                refine lv_bipush (v := nI 60) hx hb dX11_row_63 (by decide +kernel) ?_
                refine lv_iload_n hx hb dX11_row_65 rfl (lv_at hl 1 rfl) ?_
                refine lv_imul hx hb dX11_row_66 ?_
                refine z_eqi (y := nI (60 * n_5)) (pk_mul 60 n_5) ?_
                refine lv_iload hx hb dX11_row_67 (lv_at hl 4 rfl) ?_
                refine lv_iadd hx hb dX11_row_69 ?_
                refine z_eqi (y := nI ((60 * n_5) + k_6)) (nI_add (60 * n_5) k_6) ?_
                refine lv_lconst (v := (0 : Int64)) hx hb dX11_row_70 (by decide +kernel) ?_
                refine z_last hx hb hK hP hD hS 23 (by decide) 22 (fun _ => rfl) rfl (vp_in_nI (by omega) (by decide)) dX11_row_71 (fun H locs hP hD hS => ?_)
                refine lv_iinc (v := nI (k_6 + 1)) (lv' := [(4, .int (nI (k_6 + 1))), (0, .ref (q 0)), (1, .int (nI n_5)), (2, .int (w)), (3, .int (n))]) hx hb dX11_row_72 hl (k := 4) rfl (nI_add k_6 1) (by decide) rfl (fun ls hl => ?_)
                refine lv_goto (tgt := 52) hx hb dX11_row_75 (by decide) ?_
                rw [zp_zr] at hP hD
                exact ih ((k_6 + 1)) _ (by omega) (by omega)  _ _ hP hD hS _ (lv_sub hl [1, 2, 3, 4, 0] rfl)
              · refine lv_iload hx hb dX11_row_52 (lv_at hl 4 rfl) ?_
                refine lv_bipush (v := nI 60) hx hb dX11_row_54 (by decide +kernel) ?_
                refine lv_icmp_ge (tgt := 78) hx hb dX11_row_56 (by decide) (fun _ => ?_) (fun c_0 => absurd (nI_le (by omega) (by omega)) c_0)
                refine lv_iconst (v := nI 0) hx hb dX11_row_78 (by decide +kernel) ?_
                exact z_iret (v := nI 0) hx hb hr hlocks hP hD hS dX11_row_79 (Or.inr (Or.inr ⟨by omega, by omega, rfl⟩))
          exact loop_k_6 61 0 (zMJ0 23) (by omega) (by omega)  _ _ (by simp only [zr_self]; exact hP) (by simp only [zr_self]; exact hD) hS _ (lv_sub hl [1, 2, 3, 4, 0] rfl)
        · have kc_4_1 : (nI 0 : Int32).toInt = 0 := by decide +kernel
          have kc_4_2 : (0 : Int32).toInt = 0 := by decide +kernel
          have t_c_4 := z_leF c_4
          refine lv_bipush (v := (-3)) hx hb dX11_row_32 (by decide +kernel) ?_
          exact z_iret (v := (-3)) hx hb hr hlocks hP hD hS dX11_row_34 (Or.inr (Or.inl ⟨by omega, by omega, rfl⟩))
      · have kc_3_1 : (nI 60 : Int32).toInt = 60 := by decide +kernel
        have t_c_3 := z_leF c_3
        refine lv_bipush (v := (-2)) hx hb dX11_row_25 (by decide +kernel) ?_
        exact z_iret (v := (-2)) hx hb hr hlocks hP hD hS dX11_row_27 (Or.inl ⟨by omega, rfl⟩)
    · cases hu_2
      refine lv_if_eq (tgt := 25) hx hb dX11_row_16 (by decide) (fun _ => ?_) (fun c_0 => absurd (by decide +kernel) c_0)
      refine lv_bipush (v := (-2)) hx hb dX11_row_25 (by decide +kernel) ?_
      exact z_iret (v := (-2)) hx hb hr hlocks hP hD hS dX11_row_27 (Or.inl ⟨by omega, rfl⟩)
  · cases hu_1
    refine lv_if_eq (tgt := 25) hx hb dX11_row_4 (by decide) (fun _ => ?_) (fun c_0 => absurd (by decide +kernel) c_0)
    refine lv_bipush (v := (-2)) hx hb dX11_row_25 (by decide +kernel) ?_
    exact z_iret (v := (-2)) hx hb hr hlocks hP hD hS dX11_row_27 (Or.inl ⟨by omega, rfl⟩)
set_option maxHeartbeats 4000000 in
set_option maxRecDepth 100000 in
theorem kX11_feed (l : Launch) (D : va_G) (q : Nat → Nat) (cA : Nat → ClassId)  (a : Int32) (b : Int32) (c_ : Int32) (d_ : Int32) (e_ : Int32)  : zMi l D vwCl (zMtys cA) 25 q (zMd q cA) yX11_feed cX11_feed 7 (some .int) ({ frames := 0, cells := 0, slots := 0, locals := 0 } : Room) [.ref (q 0), .int (a), .int (b), .int (c_), .int (d_), .int (e_)] (zMI0, zMR0, zMJ0) (fun r _ => r = nI 20) := by
  intro sz
  refine z_body (by decide +kernel) (Nat.le_of_ble_eq_true rfl) (fun p e s m below meth c ls hx hb hml hr ht hown hlocks hsz hK hP hD hS hl => ?_)
  have hA : ∀ a, s.heap.size ≤ a → zA 25 q sz a := fun a h => Or.inr (hsz ▸ h)
  have hl : lv_has ls 7 [(0, .ref (q 0)), (1, .int (a)), (2, .int (b)), (3, .int (c_)), (4, .int (d_)), (5, .int (e_))] := hl
  refine lv_aload_n hx hb dX11_feed_0 rfl (lv_at hl 0 rfl) ?_
  refine z_get hx hb ht hown hK hP ziX11 rfl 0 (by decide) 5 (by decide) hw_5_192 rfl (v := .int (nI 0)) rfl dX11_feed_1 ?_
  refine lv_bipush (v := nI 20) hx hb dX11_feed_4 (by decide +kernel) ?_
  refine lv_iadd hx hb dX11_feed_6 ?_
  refine z_eqi (y := nI 20) (by decide +kernel) ?_
  refine lv_sipush (v := nI 800) hx hb dX11_feed_7 (by decide +kernel) ?_
  refine lv_icmp_le (tgt := 15) hx hb dX11_feed_10 (by decide) (fun _ => ?_) (fun c_0 => absurd (by decide +kernel) c_0)
  refine lv_aload_n hx hb dX11_feed_15 rfl (lv_at hl 0 rfl) ?_
  refine z_get hx hb ht hown hK hP ziX11 rfl 0 (by decide) 6 (by decide) hw_5_193 rfl (v := .ref (q 5)) rfl dX11_feed_16 ?_
  refine lv_iconst (v := nI 0) hx hb dX11_feed_19 (by decide +kernel) ?_
  refine lv_iload_n hx hb dX11_feed_20 rfl (lv_at hl 1 rfl) ?_
  refine z_iast hx hb hK hP hD hS 5 (by decide) 4 (fun _ => rfl) rfl (vp_in_nI (by omega) (by decide)) dX11_feed_21 (fun H locs hP hD hS => ?_)
  refine lv_aload_n hx hb dX11_feed_22 rfl (lv_at hl 0 rfl) ?_
  refine z_get hx hb ht hown hK hP ziX11 rfl 0 (by decide) 6 (by decide) hw_5_193 rfl (v := .ref (q 5)) rfl dX11_feed_23 ?_
  refine lv_iconst (v := nI 1) hx hb dX11_feed_26 (by decide +kernel) ?_
  refine lv_iload_n hx hb dX11_feed_27 rfl (lv_at hl 2 rfl) ?_
  refine z_iast hx hb hK hP hD hS 5 (by decide) 4 (fun _ => rfl) rfl (vp_in_nI (by omega) (by decide)) dX11_feed_28 (fun H locs hP hD hS => ?_)
  refine lv_aload_n hx hb dX11_feed_29 rfl (lv_at hl 0 rfl) ?_
  refine z_get hx hb ht hown hK hP ziX11 rfl 0 (by decide) 6 (by decide) hw_5_193 rfl (v := .ref (q 5)) rfl dX11_feed_30 ?_
  refine lv_iconst (v := nI 2) hx hb dX11_feed_33 (by decide +kernel) ?_
  refine lv_iload_n hx hb dX11_feed_34 rfl (lv_at hl 3 rfl) ?_
  refine z_iast hx hb hK hP hD hS 5 (by decide) 4 (fun _ => rfl) rfl (vp_in_nI (by omega) (by decide)) dX11_feed_35 (fun H locs hP hD hS => ?_)
  refine lv_aload_n hx hb dX11_feed_36 rfl (lv_at hl 0 rfl) ?_
  refine z_get hx hb ht hown hK hP ziX11 rfl 0 (by decide) 6 (by decide) hw_5_193 rfl (v := .ref (q 5)) rfl dX11_feed_37 ?_
  refine lv_iconst (v := nI 3) hx hb dX11_feed_40 (by decide +kernel) ?_
  refine lv_iload hx hb dX11_feed_41 (lv_at hl 4 rfl) ?_
  refine z_iast hx hb hK hP hD hS 5 (by decide) 4 (fun _ => rfl) rfl (vp_in_nI (by omega) (by decide)) dX11_feed_43 (fun H locs hP hD hS => ?_)
  refine lv_aload_n hx hb dX11_feed_44 rfl (lv_at hl 0 rfl) ?_
  refine z_get hx hb ht hown hK hP ziX11 rfl 0 (by decide) 6 (by decide) hw_5_193 rfl (v := .ref (q 5)) rfl dX11_feed_45 ?_
  refine lv_iconst (v := nI 4) hx hb dX11_feed_48 (by decide +kernel) ?_
  refine lv_iload hx hb dX11_feed_49 (lv_at hl 5 rfl) ?_
  refine z_iast hx hb hK hP hD hS 5 (by decide) 4 (fun _ => rfl) rfl (vp_in_nI (by omega) (by decide)) dX11_feed_51 (fun H locs hP hD hS => ?_)
  refine lv_iconst (v := nI 0) hx hb dX11_feed_52 (by decide +kernel) ?_
  refine lv_istore (lv' := [(6, .int (nI 0)), (0, .ref (q 0)), (1, .int (a)), (2, .int (b)), (3, .int (c_)), (4, .int (d_)), (5, .int (e_))]) hx hb dX11_feed_53 hl (by decide) rfl (fun ls hl => ?_)
  have loop_k_1 : ∀ (N k_1 : Nat) (gk_1_4 : Nat → Int32), k_1 ≤ 20 → 20 < k_1 + N → ∀ (H : Heap) (locs : List Loc), va_P D vwCl (zw 25 q (zMd q cA) zMI0 (zr (zp (zp (zp (zp (zp zMR0 5 (nI 0).toNatClampNeg (a)) 5 (nI 1).toNatClampNeg (b)) 5 (nI 2).toNatClampNeg (c_)) 5 (nI 3).toNatClampNeg (d_)) 5 (nI 4).toNatClampNeg (e_)) 4 gk_1_4) zMJ0) H → va_D (zA 25 q sz) (zw 25 q (zMd q cA) zMI0 (zr (zp (zp (zp (zp (zp zMR0 5 (nI 0).toNatClampNeg (a)) 5 (nI 1).toNatClampNeg (b)) 5 (nI 2).toNatClampNeg (c_)) 5 (nI 3).toNatClampNeg (d_)) 5 (nI 4).toNatClampNeg (e_)) 4 gk_1_4) zMJ0) → va_S (zA 25 q sz) s.heap H locs → ∀ ls : Array Slot, lv_has ls 7 [(0, .ref (q 0)), (1, .int (a)), (2, .int (b)), (3, .int (c_)), (4, .int (d_)), (5, .int (e_)), (6, .int (nI k_1))] → W p l e ({ frames := 0, cells := 0, slots := 0, locals := 0 } : Room) s m ([.ref (q 0), .int (a), .int (b), .int (c_), .int (d_), .int (e_)] : List Value).toArray below meth c H locs 0 0 (MQ below (va_Qi (fun r _ => r = nI 20) (zB D vwCl 25 q (zMd q cA) sz) (zA 25 q sz)) ([.ref (q 0), .int (a), .int (b), .int (c_), .int (d_), .int (e_)] : List Value).toArray s 0 0 (zA 25 q sz)) (F0 m 55 ls []) := by
    intro N
    induction N with
    | zero => intro k_1 gk_1_4 h1 h2; exact absurd h2 (by omega)
    | succ N ih =>
      intro k_1 gk_1_4 h1k_1 h2k_1  H locs hP hD hS ls hl
      rcases Nat.lt_or_ge k_1 20 with hkk_1 | hkk_1
      · refine lv_iload hx hb dX11_feed_55 (lv_at hl 6 rfl) ?_
        refine lv_bipush (v := nI 20) hx hb dX11_feed_57 (by decide +kernel) ?_
        refine lv_icmp_ge (tgt := 101) hx hb dX11_feed_59 (by decide) (fun c_0 => absurd c_0 (nI_ge (by omega) (by omega))) (fun _ => ?_)
        refine lv_aload_n hx hb dX11_feed_62 rfl (lv_at hl 0 rfl) ?_
        refine z_get hx hb ht hown hK hP ziX11 rfl 0 (by decide) 4 (by decide) hw_5_191 rfl (v := .ref (q 4)) rfl dX11_feed_63 ?_
        refine lv_aload_n hx hb dX11_feed_66 rfl (lv_at hl 0 rfl) ?_
        refine z_get hx hb ht hown hK hP ziX11 rfl 0 (by decide) 5 (by decide) hw_5_192 rfl (v := .int (nI 0)) rfl dX11_feed_67 ?_
        refine lv_iload hx hb dX11_feed_70 (lv_at hl 6 rfl) ?_
        refine lv_iadd hx hb dX11_feed_72 ?_
        refine z_eqi (y := nI (0 + k_1)) (nI_add 0 k_1) ?_
        refine lv_aload_n hx hb dX11_feed_73 rfl (lv_at hl 0 rfl) ?_
        refine z_get hx hb ht hown hK hP ziX11 rfl 0 (by decide) 6 (by decide) hw_5_193 rfl (v := .ref (q 5)) rfl dX11_feed_74 ?_
        refine lv_iload hx hb dX11_feed_77 (lv_at hl 6 rfl) ?_
        refine lv_iconst (v := nI 4) hx hb dX11_feed_79 (by decide +kernel) ?_
        refine lv_idiv hx hb dX11_feed_80 (by decide +kernel) ?_
        refine z_eqi (y := nI (k_1 / 4)) (pk_div (by omega) (by decide) (by decide)) ?_
        refine z_iald hx hb hK hP 5 (by decide) 4 rfl rfl (vp_in_nI (by omega) (by decide)) dX11_feed_81 ?_
        refine lv_topi (fun x_2 ex_2 => ?_)
        refine lv_bipush (v := nI 24) hx hb dX11_feed_82 (by decide +kernel) ?_
        refine lv_bipush (v := nI 8) hx hb dX11_feed_84 (by decide +kernel) ?_
        refine lv_iload hx hb dX11_feed_86 (lv_at hl 6 rfl) ?_
        refine lv_iconst (v := nI 4) hx hb dX11_feed_88 (by decide +kernel) ?_
        refine lv_irem hx hb dX11_feed_89 (by decide +kernel) ?_
        refine z_eqi (y := nI (k_1 % 4)) (pk_rem (by omega) (by decide) (by decide)) ?_
        refine lv_imul hx hb dX11_feed_90 ?_
        refine z_eqi (y := nI (8 * (k_1 % 4))) (pk_mul 8 (k_1 % 4)) ?_
        refine lv_isub hx hb dX11_feed_91 ?_
        refine lv_ishr hx hb dX11_feed_92 ?_
        refine lv_i2b (v := ((x_2) >>> (((nI 24) - (nI (8 * (k_1 % 4)))) &&& 31)).toInt8.toInt32) hx hb dX11_feed_93 rfl ?_
        refine z_bast hx hb hK hP hD hS 4 (by decide) 3 (fun _ => rfl) rfl (vp_in_nI (by omega) (by decide)) dX11_feed_94 (fun H locs hP hD hS => ?_)
        refine lv_iinc (v := nI (k_1 + 1)) (lv' := [(6, .int (nI (k_1 + 1))), (0, .ref (q 0)), (1, .int (a)), (2, .int (b)), (3, .int (c_)), (4, .int (d_)), (5, .int (e_))]) hx hb dX11_feed_95 hl (k := 6) rfl (nI_add k_1 1) (by decide) rfl (fun ls hl => ?_)
        refine lv_goto (tgt := 55) hx hb dX11_feed_98 (by decide) ?_
        rw [zp_zr] at hP hD
        exact ih ((k_1 + 1)) _ (by omega) (by omega)  _ _ hP hD hS _ (lv_sub hl [1, 2, 3, 4, 5, 6, 0] rfl)
      · refine lv_iload hx hb dX11_feed_55 (lv_at hl 6 rfl) ?_
        refine lv_bipush (v := nI 20) hx hb dX11_feed_57 (by decide +kernel) ?_
        refine lv_icmp_ge (tgt := 101) hx hb dX11_feed_59 (by decide) (fun _ => ?_) (fun c_0 => absurd (nI_le (by omega) (by omega)) c_0)
        refine lv_aload_n hx hb dX11_feed_101 rfl (lv_at hl 0 rfl) ?_
        refine lv_dup hx hb dX11_feed_102 rfl ?_
        refine z_get hx hb ht hown hK hP ziX11 rfl 0 (by decide) 5 (by decide) hw_5_192 rfl (v := .int (nI 0)) rfl dX11_feed_103 ?_
        refine lv_bipush (v := nI 20) hx hb dX11_feed_106 (by decide +kernel) ?_
        refine lv_iadd hx hb dX11_feed_108 ?_
        refine z_eqi (y := nI 20) (by decide +kernel) ?_
        refine z_putI hx hb ht hown hK hP hD hS ziX11 tyX11 tyX11_ok nmX11 rfl 0 (by decide) 5 (by decide) hw_5_192 rfl (v := nI 20) rfl rfl rfl (Nat.le_of_ble_eq_true rfl) rfl dX11_feed_109 (fun H locs hP hD hS => ?_)
        refine lv_aload_n hx hb dX11_feed_112 rfl (lv_at hl 0 rfl) ?_
        refine z_get hx hb ht hown hK hP ziX11 rfl 0 (by decide) 5 (by decide) hw_5_192 rfl (v := .int (nI 20)) rfl dX11_feed_113 ?_
        exact z_iret (v := nI 20) hx hb hr hlocks hP hD hS dX11_feed_116 rfl
  exact loop_k_1 21 0 ((zp (zp (zp (zp (zp zMR0 5 (nI 0).toNatClampNeg (a)) 5 (nI 1).toNatClampNeg (b)) 5 (nI 2).toNatClampNeg (c_)) 5 (nI 3).toNatClampNeg (d_)) 5 (nI 4).toNatClampNeg (e_)) 4) (by omega) (by omega)  _ _ (by simp only [zr_self]; exact hP) (by simp only [zr_self]; exact hD) hS _ (lv_sub hl [1, 2, 3, 4, 5, 6, 0] rfl)
set_option maxHeartbeats 4000000 in
set_option maxRecDepth 100000 in
theorem kX11_good (l : Launch) (D : va_G) (q : Nat → Nat) (cA : Nat → ClassId) (I R : Nat → Nat → Int32) (J : Nat → Nat → Int64)  (hf : I 0 12 = nI 0) : zMi l D vwCl (zMtys cA) 25 q (zMd q cA) yX11_good cX11_good 1 (some .boolean) ({ frames := 0, cells := 0, slots := 0, locals := 0 } : Room) [.ref (q 0)] (I, R, J) (fun r u => r = nI 1 ∧ u = (I, R, J)) := by
  intro sz
  refine z_body (by decide +kernel) (Nat.le_of_ble_eq_true rfl) (fun p e s m below meth c ls hx hb hml hr ht hown hlocks hsz hK hP hD hS hl => ?_)
  have hA : ∀ a, s.heap.size ≤ a → zA 25 q sz a := fun a h => Or.inr (hsz ▸ h)
  have hl : lv_has ls 1 [(0, .ref (q 0))] := hl
  refine lv_aload_n hx hb dX11_good_0 rfl (lv_at hl 0 rfl) ?_
  refine z_get hx hb ht hown hK hP ziX11 rfl 0 (by decide) 12 (by decide) hw_5_199 rfl (v := .int (I 0 12)) rfl dX11_good_1 ?_
  refine z_eqi (y := nI 0) hf ?_
  refine lv_if_ne (tgt := 11) hx hb dX11_good_4 (by decide) (fun c_0 => absurd (by decide +kernel) c_0) (fun _ => ?_)
  refine lv_iconst (v := nI 1) hx hb dX11_good_7 (by decide +kernel) ?_
  refine lv_goto (tgt := 12) hx hb dX11_good_8 (by decide) ?_
  exact z_zret (v := nI 1) hx hb hr hlocks hP hD hS (by decide +kernel) dX11_good_12 ⟨rfl, rfl⟩
set_option maxHeartbeats 4000000 in
set_option maxRecDepth 100000 in
theorem kX11_see (l : Launch) (D : va_G) (q : Nat → Nat) (cA : Nat → ClassId) (I R : Nat → Nat → Int32) (J : Nat → Nat → Int64)  (hs : I 0 7 = nI 0) : zMi l D vwCl (zMtys cA) 25 q (zMd q cA) yX11_see cX11_see 2 (some .int) ({ frames := 0, cells := 0, slots := 0, locals := 0 } : Room) [.ref (q 0), .int (nI 0)] (I, R, J) (fun r u => r = (-1) ∧ u = (I, R, J)) := by
  intro sz
  refine z_body (by decide +kernel) (Nat.le_of_ble_eq_true rfl) (fun p e s m below meth c ls hx hb hml hr ht hown hlocks hsz hK hP hD hS hl => ?_)
  have hA : ∀ a, s.heap.size ≤ a → zA 25 q sz a := fun a h => Or.inr (hsz ▸ h)
  have hl : lv_has ls 2 [(0, .ref (q 0)), (1, .int (nI 0))] := hl
  refine lv_iload_n hx hb dX11_see_0 rfl (lv_at hl 1 rfl) ?_
  refine lv_aload_n hx hb dX11_see_1 rfl (lv_at hl 0 rfl) ?_
  refine z_get hx hb ht hown hK hP ziX11 rfl 0 (by decide) 7 (by decide) hw_5_194 rfl (v := .int (I 0 7)) rfl dX11_see_2 ?_
  refine z_eqi (y := nI 0) hs ?_
  refine lv_icmp_ge (tgt := 21) hx hb dX11_see_5 (by decide) (fun _ => ?_) (fun c_0 => absurd (by decide +kernel) c_0)
  refine lv_iconst (v := (-1)) hx hb dX11_see_21 (by decide +kernel) ?_
  exact z_iret (v := (-1)) hx hb hr hlocks hP hD hS dX11_see_22 ⟨rfl, rfl⟩
set_option maxHeartbeats 4000000 in
set_option maxRecDepth 100000 in
theorem kX11_advance (l : Launch) (D : va_G) (q : Nat → Nat) (cA : Nat → ClassId) (I R : Nat → Nat → Int32) (J : Nat → Nat → Int64)  (hs : I 0 7 = nI 0) (ha : I 0 8 = nI 0) : zMv l D vwCl (zMtys cA) 25 q (zMd q cA) yX11_advance cX11_advance 2 none ({ frames := 1, cells := 0, slots := 0, locals := 21 } : Room) [.ref (q 0)] (I, R, J) (fun u => u.1 0 10 = nI 0 ∧ u.1 0 12 = I 0 12 ∧ u.2 = (R, J)) := by
  intro sz
  refine z_body (by decide +kernel) (Nat.le_of_ble_eq_true rfl) (fun p e s m below meth c ls hx hb hml hr ht hown hlocks hsz hK hP hD hS hl => ?_)
  have hA : ∀ a, s.heap.size ≤ a → zA 25 q sz a := fun a h => Or.inr (hsz ▸ h)
  have hl : lv_has ls 2 [(0, .ref (q 0))] := hl
  refine lv_aload_n hx hb dX11_advance_0 rfl (lv_at hl 0 rfl) ?_
  refine lv_aload_n hx hb dX11_advance_1 rfl (lv_at hl 0 rfl) ?_
  refine z_get hx hb ht hown hK hP ziX11 rfl 0 (by decide) 8 (by decide) hw_5_195 rfl (v := .int (I 0 8)) rfl dX11_advance_2 ?_
  refine z_eqi (y := nI 0) ha ?_
  refine z_callVi (k := 0) (As := [.int (nI 0)]) (rest := []) hx hb hml hown ht (kX11_see l D q cA I _ _ hs) hw_6_113 hmX11_see ⟨rfl, rfl⟩ (na := 1) rfl (by decide +kernel) (by decide) (by decide) rfl rfl hK hP hD hS hA hl.1 rfl (Nat.le_of_ble_eq_true rfl) ⟨Nat.zero_le _, Nat.zero_le _⟩ dX11_advance_5 (fun r_1 I_1 R_1 J_1 H locs hp_1 hP hD hS _ _ => ?_)
  obtain ⟨rfl, hu_1⟩ := hp_1
  cases hu_1
  refine lv_bipush (v := nI 32) hx hb dX11_advance_8 (by decide +kernel) ?_
  refine lv_icmp_eq (tgt := 26) hx hb dX11_advance_10 (by decide) (fun c_0 => absurd c_0 (by decide +kernel)) (fun _ => ?_)
  refine lv_aload_n hx hb dX11_advance_13 rfl (lv_at hl 0 rfl) ?_
  refine lv_aload_n hx hb dX11_advance_14 rfl (lv_at hl 0 rfl) ?_
  refine z_get hx hb ht hown hK hP ziX11 rfl 0 (by decide) 8 (by decide) hw_5_195 rfl (v := .int (I 0 8)) rfl dX11_advance_15 ?_
  refine z_eqi (y := nI 0) ha ?_
  refine z_callVi (k := 0) (As := [.int (nI 0)]) (rest := []) hx hb hml hown ht (kX11_see l D q cA I _ _ hs) hw_6_113 hmX11_see ⟨rfl, rfl⟩ (na := 1) rfl (by decide +kernel) (by decide) (by decide) rfl rfl hK hP hD hS hA hl.1 rfl (Nat.le_of_ble_eq_true rfl) ⟨Nat.zero_le _, Nat.zero_le _⟩ dX11_advance_18 (fun r_2 I_2 R_2 J_2 H locs hp_2 hP hD hS _ _ => ?_)
  obtain ⟨rfl, hu_2⟩ := hp_2
  cases hu_2
  refine lv_bipush (v := nI 10) hx hb dX11_advance_21 (by decide +kernel) ?_
  refine lv_icmp_ne (tgt := 39) hx hb dX11_advance_23 (by decide) (fun _ => ?_) (fun c_0 => absurd c_0 (by decide +kernel))
  refine lv_aload_n hx hb dX11_advance_39 rfl (lv_at hl 0 rfl) ?_
  refine lv_aload_n hx hb dX11_advance_40 rfl (lv_at hl 0 rfl) ?_
  refine z_get hx hb ht hown hK hP ziX11 rfl 0 (by decide) 8 (by decide) hw_5_195 rfl (v := .int (I 0 8)) rfl dX11_advance_41 ?_
  refine z_eqi (y := nI 0) ha ?_
  refine z_putI hx hb ht hown hK hP hD hS ziX11 tyX11 tyX11_ok nmX11 rfl 0 (by decide) 9 (by decide) hw_5_196 rfl (v := nI 0) rfl rfl rfl (Nat.le_of_ble_eq_true rfl) rfl dX11_advance_44 (fun H locs hP hD hS => ?_)
  refine lv_aload_n hx hb dX11_advance_47 rfl (lv_at hl 0 rfl) ?_
  refine lv_aload_n hx hb dX11_advance_48 rfl (lv_at hl 0 rfl) ?_
  refine z_get hx hb ht hown hK hP ziX11 rfl 0 (by decide) 8 (by decide) hw_5_195 rfl (v := .int (I 0 8)) rfl dX11_advance_49 ?_
  refine z_eqi (y := nI 0) ha ?_
  refine z_callVi (k := 0) (As := [.int (nI 0)]) (rest := []) hx hb hml hown ht (kX11_see l D q cA (zp I 0 9 (nI 0)) _ _ hs) hw_6_113 hmX11_see ⟨rfl, rfl⟩ (na := 1) rfl (by decide +kernel) (by decide) (by decide) rfl rfl hK hP hD hS hA hl.1 rfl (Nat.le_of_ble_eq_true rfl) ⟨Nat.zero_le _, Nat.zero_le _⟩ dX11_advance_52 (fun r_3 I_3 R_3 J_3 H locs hp_3 hP hD hS _ _ => ?_)
  obtain ⟨rfl, hu_3⟩ := hp_3
  cases hu_3
  refine lv_istore_n (lv' := [(1, .int ((-1))), (0, .ref (q 0))]) hx hb dX11_advance_55 rfl hl (by decide) rfl (fun ls hl => ?_)
  refine lv_iload_n hx hb dX11_advance_56 rfl (lv_at hl 0 rfl) ?_
  refine lv_iconst (v := (-1)) hx hb dX11_advance_57 (by decide +kernel) ?_
  refine lv_icmp_ne (tgt := 69) hx hb dX11_advance_58 (by decide) (fun c_0 => absurd (by decide +kernel) c_0) (fun _ => ?_)
  refine lv_aload_n hx hb dX11_advance_61 rfl (lv_at hl 1 rfl) ?_
  refine lv_iconst (v := nI 0) hx hb dX11_advance_62 (by decide +kernel) ?_
  refine z_putI hx hb ht hown hK hP hD hS ziX11 tyX11 tyX11_ok nmX11 rfl 0 (by decide) 10 (by decide) hw_5_197 rfl (v := nI 0) rfl rfl rfl (Nat.le_of_ble_eq_true rfl) rfl dX11_advance_63 (fun H locs hP hD hS => ?_)
  refine lv_goto (tgt := 239) hx hb dX11_advance_66 (by decide) ?_
  exact z_vret hx hb hr hlocks hP hD hS dX11_advance_239 ⟨rfl, rfl, rfl⟩
set_option maxHeartbeats 4000000 in
set_option maxRecDepth 100000 in
theorem kX11_city (l : Launch) (D : va_G) (q : Nat → Nat) (cA : Nat → ClassId)    : zMi l D vwCl (zMtys cA) 25 q (zMd q cA) yX11_city cX11_city 2 (some .int) ({ frames := 2, cells := 0, slots := 0, locals := 42 } : Room) [.ref (q 0)] (zMI0, zMR0, zMJ0) (fun r _ => r = nI 0) := by
  intro sz
  refine z_body (by decide +kernel) (Nat.le_of_ble_eq_true rfl) (fun p e s m below meth c ls hx hb hml hr ht hown hlocks hsz hK hP hD hS hl => ?_)
  have hA : ∀ a, s.heap.size ≤ a → zA 25 q sz a := fun a h => Or.inr (hsz ▸ h)
  have hl : lv_has ls 2 [(0, .ref (q 0))] := hl
  refine lv_aload_n hx hb dX11_city_0 rfl (lv_at hl 0 rfl) ?_
  refine lv_aload_n hx hb dX11_city_1 rfl (lv_at hl 0 rfl) ?_
  refine z_get hx hb ht hown hK hP ziX11 rfl 0 (by decide) 5 (by decide) hw_5_192 rfl (v := .int (nI 0)) rfl dX11_city_2 ?_
  refine z_putI hx hb ht hown hK hP hD hS ziX11 tyX11 tyX11_ok nmX11 rfl 0 (by decide) 7 (by decide) hw_5_194 rfl (v := nI 0) rfl rfl rfl (Nat.le_of_ble_eq_true rfl) rfl dX11_city_5 (fun H locs hP hD hS => ?_)
  refine lv_aload_n hx hb dX11_city_8 rfl (lv_at hl 0 rfl) ?_
  refine lv_iconst (v := nI 0) hx hb dX11_city_9 (by decide +kernel) ?_
  refine z_putI hx hb ht hown hK hP hD hS ziX11 tyX11 tyX11_ok nmX11 rfl 0 (by decide) 5 (by decide) hw_5_192 rfl (v := nI 0) rfl rfl rfl (Nat.le_of_ble_eq_true rfl) rfl dX11_city_10 (fun H locs hP hD hS => ?_)
  refine lv_aload_n hx hb dX11_city_13 rfl (lv_at hl 0 rfl) ?_
  refine lv_iconst (v := nI 0) hx hb dX11_city_14 (by decide +kernel) ?_
  refine z_putI hx hb ht hown hK hP hD hS ziX11 tyX11 tyX11_ok nmX11 rfl 0 (by decide) 8 (by decide) hw_5_195 rfl (v := nI 0) rfl rfl rfl (Nat.le_of_ble_eq_true rfl) rfl dX11_city_15 (fun H locs hP hD hS => ?_)
  refine lv_aload_n hx hb dX11_city_18 rfl (lv_at hl 0 rfl) ?_
  refine lv_iconst (v := nI 0) hx hb dX11_city_19 (by decide +kernel) ?_
  refine z_putI hx hb ht hown hK hP hD hS ziX11 tyX11 tyX11_ok nmX11 rfl 0 (by decide) 12 (by decide) hw_5_199 rfl (v := nI 0) rfl rfl rfl (Nat.le_of_ble_eq_true rfl) rfl dX11_city_20 (fun H locs hP hD hS => ?_)
  refine lv_aload_n hx hb dX11_city_23 rfl (lv_at hl 0 rfl) ?_
  refine lv_iconst (v := (-1)) hx hb dX11_city_24 (by decide +kernel) ?_
  refine z_putI hx hb ht hown hK hP hD hS ziX11 tyX11 tyX11_ok nmX11 rfl 0 (by decide) 13 (by decide) hw_5_200 rfl (v := (-1)) rfl rfl rfl (Nat.le_of_ble_eq_true rfl) rfl dX11_city_25 (fun H locs hP hD hS => ?_)
  refine lv_iconst (v := nI 0) hx hb dX11_city_28 (by decide +kernel) ?_
  refine lv_istore_n (lv' := [(1, .int (nI 0)), (0, .ref (q 0))]) hx hb dX11_city_29 rfl hl (by decide) rfl (fun ls hl => ?_)
  have loop_k_1 : ∀ (N k_1 : Nat) (gk_1_6 : Nat → Int32), k_1 ≤ 119 → 119 < k_1 + N → (∀ j, gk_1_6 j = nI 0) → ∀ (H : Heap) (locs : List Loc), va_P D vwCl (zw 25 q (zMd q cA) (zp (zp (zp (zp (zp zMI0 0 7 (nI 0)) 0 5 (nI 0)) 0 8 (nI 0)) 0 12 (nI 0)) 0 13 ((-1))) (zr zMR0 6 gk_1_6) zMJ0) H → va_D (zA 25 q sz) (zw 25 q (zMd q cA) (zp (zp (zp (zp (zp zMI0 0 7 (nI 0)) 0 5 (nI 0)) 0 8 (nI 0)) 0 12 (nI 0)) 0 13 ((-1))) (zr zMR0 6 gk_1_6) zMJ0) → va_S (zA 25 q sz) s.heap H locs → ∀ ls : Array Slot, lv_has ls 2 [(0, .ref (q 0)), (1, .int (nI k_1))] → W p l e ({ frames := 2, cells := 0, slots := 0, locals := 42 } : Room) s m ([.ref (q 0)] : List Value).toArray below meth c H locs 0 0 (MQ below (va_Qi (fun r _ => r = nI 0) (zB D vwCl 25 q (zMd q cA) sz) (zA 25 q sz)) ([.ref (q 0)] : List Value).toArray s 0 0 (zA 25 q sz)) (F0 m 30 ls []) := by
    intro N
    induction N with
    | zero => intro k_1 gk_1_6 h1 h2; exact absurd h2 (by omega)
    | succ N ih =>
      intro k_1 gk_1_6 h1k_1 h2k_1 hgk_1_6 H locs hP hD hS ls hl
      rcases Nat.lt_or_ge k_1 119 with hkk_1 | hkk_1
      · refine lv_iload_n hx hb dX11_city_30 rfl (lv_at hl 1 rfl) ?_
        refine lv_bipush (v := nI 119) hx hb dX11_city_31 (by decide +kernel) ?_
        refine lv_icmp_ge (tgt := 49) hx hb dX11_city_33 (by decide) (fun c_0 => absurd c_0 (nI_ge (by omega) (by omega))) (fun _ => ?_)
        refine lv_aload_n hx hb dX11_city_36 rfl (lv_at hl 0 rfl) ?_
        refine z_get hx hb ht hown hK hP ziX11 rfl 0 (by decide) 14 (by decide) hw_5_201 rfl (v := .ref (q 6)) rfl dX11_city_37 ?_
        refine lv_iload_n hx hb dX11_city_40 rfl (lv_at hl 1 rfl) ?_
        refine lv_iconst (v := nI 0) hx hb dX11_city_41 (by decide +kernel) ?_
        refine z_iast hx hb hK hP hD hS 6 (by decide) 5 (fun _ => rfl) rfl (vp_in_nI (by omega) (by decide)) dX11_city_42 (fun H locs hP hD hS => ?_)
        refine lv_iinc (v := nI (k_1 + 1)) (lv' := [(1, .int (nI (k_1 + 1))), (0, .ref (q 0))]) hx hb dX11_city_43 hl (k := 1) rfl (nI_add k_1 1) (by decide) rfl (fun ls hl => ?_)
        refine lv_goto (tgt := 30) hx hb dX11_city_46 (by decide) ?_
        rw [zp_zr] at hP hD
        exact ih ((k_1 + 1)) _ (by omega) (by omega) (z_all hgk_1_6 rfl) _ _ hP hD hS _ (lv_sub hl [1, 0] rfl)
      · refine lv_iload_n hx hb dX11_city_30 rfl (lv_at hl 1 rfl) ?_
        refine lv_bipush (v := nI 119) hx hb dX11_city_31 (by decide +kernel) ?_
        refine lv_icmp_ge (tgt := 49) hx hb dX11_city_33 (by decide) (fun _ => ?_) (fun c_0 => absurd (nI_le (by omega) (by omega)) c_0)
        refine lv_aload_n hx hb dX11_city_49 rfl (lv_at hl 0 rfl) ?_
        refine z_callVv (k := 0) (As := []) (rest := []) hx hb hml hown ht (kX11_advance l D q cA (zp (zp (zp (zp (zp zMI0 0 7 (nI 0)) 0 5 (nI 0)) 0 8 (nI 0)) 0 12 (nI 0)) 0 13 ((-1))) _ _ rfl rfl) hw_6_109 hmX11_advance ⟨rfl, rfl⟩ (na := 0) rfl (by decide +kernel) (by decide) (by decide) rfl rfl hK hP hD hS hA hl.1 rfl (Nat.le_of_ble_eq_true rfl) ⟨Nat.zero_le _, Nat.zero_le _⟩ dX11_city_50 (fun I_2 R_2 J_2 H locs hp_2 hP hD hS _ _ => ?_)
        obtain ⟨ha_2, hb_2, hu_2⟩ := hp_2
        dsimp only at ha_2 hb_2 hu_2
        cases hu_2
        refine lv_aload_n hx hb dX11_city_53 rfl (lv_at hl 0 rfl) ?_
        refine z_callVi (k := 0) (As := []) (rest := []) hx hb hml hown ht (kX11_good l D q cA I_2 _ _ hb_2) hw_6_123 hmX11_good ⟨rfl, rfl⟩ (na := 0) rfl (by decide +kernel) (by decide) (by decide) rfl rfl hK hP hD hS hA hl.1 rfl (Nat.le_of_ble_eq_true rfl) ⟨Nat.zero_le _, Nat.zero_le _⟩ dX11_city_54 (fun r_3 I_3 R_3 J_3 H locs hp_3 hP hD hS _ _ => ?_)
        obtain ⟨rfl, hu_3⟩ := hp_3
        cases hu_3
        refine lv_if_eq (tgt := 74) hx hb dX11_city_57 (by decide) (fun c_0 => absurd c_0 (by decide +kernel)) (fun _ => ?_)
        refine lv_aload_n hx hb dX11_city_60 rfl (lv_at hl 0 rfl) ?_
        refine z_get hx hb ht hown hK hP ziX11 rfl 0 (by decide) 10 (by decide) hw_5_197 rfl (v := .int (I_2 0 10)) rfl dX11_city_61 ?_
        refine z_eqi (y := nI 0) ha_2 ?_
        refine lv_if_eq (tgt := 74) hx hb dX11_city_64 (by decide) (fun _ => ?_) (fun c_0 => absurd (by decide +kernel) c_0)
        refine lv_aload_n hx hb dX11_city_74 rfl (lv_at hl 0 rfl) ?_
        refine z_callVi (k := 0) (As := []) (rest := []) hx hb hml hown ht (kX11_good l D q cA I_2 _ _ hb_2) hw_6_123 hmX11_good ⟨rfl, rfl⟩ (na := 0) rfl (by decide +kernel) (by decide) (by decide) rfl rfl hK hP hD hS hA hl.1 rfl (Nat.le_of_ble_eq_true rfl) ⟨Nat.zero_le _, Nat.zero_le _⟩ dX11_city_75 (fun r_4 I_4 R_4 J_4 H locs hp_4 hP hD hS _ _ => ?_)
        obtain ⟨rfl, hu_4⟩ := hp_4
        cases hu_4
        refine lv_if_ne (tgt := 84) hx hb dX11_city_78 (by decide) (fun _ => ?_) (fun c_0 => absurd c_0 (by decide +kernel))
        refine lv_iconst (v := nI 0) hx hb dX11_city_84 (by decide +kernel) ?_
        refine lv_istore_n (lv' := [(1, .int (nI 0)), (0, .ref (q 0))]) hx hb dX11_city_85 rfl hl (by decide) rfl (fun ls hl => ?_)
        have loop_k_5 : ∀ (N k_5 : Nat) (gk_5_1 : Nat → Int32), k_5 ≤ 119 → 119 < k_5 + N → (∀ j, gk_5_1 j = nI 0) → ∀ (H : Heap) (locs : List Loc), va_P D vwCl (zw 25 q (zMd q cA) I_2 (zr (zr zMR0 6 gk_1_6) 1 gk_5_1) zMJ0) H → va_D (zA 25 q sz) (zw 25 q (zMd q cA) I_2 (zr (zr zMR0 6 gk_1_6) 1 gk_5_1) zMJ0) → va_S (zA 25 q sz) s.heap H locs → ∀ ls : Array Slot, lv_has ls 2 [(0, .ref (q 0)), (1, .int (nI k_5))] → W p l e ({ frames := 2, cells := 0, slots := 0, locals := 42 } : Room) s m ([.ref (q 0)] : List Value).toArray below meth c H locs 0 0 (MQ below (va_Qi (fun r _ => r = nI 0) (zB D vwCl 25 q (zMd q cA) sz) (zA 25 q sz)) ([.ref (q 0)] : List Value).toArray s 0 0 (zA 25 q sz)) (F0 m 86 ls []) := by
          intro N
          induction N with
          | zero => intro k_5 gk_5_1 h1 h2; exact absurd h2 (by omega)
          | succ N ih =>
            intro k_5 gk_5_1 h1k_5 h2k_5 hgk_5_1 H locs hP hD hS ls hl
            rcases Nat.lt_or_ge k_5 119 with hkk_5 | hkk_5
            · refine lv_iload_n hx hb dX11_city_86 rfl (lv_at hl 1 rfl) ?_
              refine lv_bipush (v := nI 119) hx hb dX11_city_87 (by decide +kernel) ?_
              refine lv_icmp_ge (tgt := 110) hx hb dX11_city_89 (by decide) (fun c_0 => absurd c_0 (nI_ge (by omega) (by omega))) (fun _ => ?_)
              refine lv_aload_n hx hb dX11_city_92 rfl (lv_at hl 0 rfl) ?_
              refine z_get hx hb ht hown hK hP ziX11 rfl 0 (by decide) 1 (by decide) hw_5_188 rfl (v := .ref (q 1)) rfl dX11_city_93 ?_
              refine lv_iload_n hx hb dX11_city_96 rfl (lv_at hl 1 rfl) ?_
              refine lv_aload_n hx hb dX11_city_97 rfl (lv_at hl 0 rfl) ?_
              refine z_get hx hb ht hown hK hP ziX11 rfl 0 (by decide) 14 (by decide) hw_5_201 rfl (v := .ref (q 6)) rfl dX11_city_98 ?_
              refine lv_iload_n hx hb dX11_city_101 rfl (lv_at hl 1 rfl) ?_
              refine z_iald hx hb hK hP 6 (by decide) 5 rfl rfl (vp_in_nI (by omega) (by decide)) dX11_city_102 ?_
              refine z_eqi (y := nI 0) (hgk_1_6 _) ?_
              refine z_iast hx hb hK hP hD hS 1 (by decide) 0 (fun _ => rfl) rfl (vp_in_nI (by omega) (by decide)) dX11_city_103 (fun H locs hP hD hS => ?_)
              refine lv_iinc (v := nI (k_5 + 1)) (lv' := [(1, .int (nI (k_5 + 1))), (0, .ref (q 0))]) hx hb dX11_city_104 hl (k := 1) rfl (nI_add k_5 1) (by decide) rfl (fun ls hl => ?_)
              refine lv_goto (tgt := 86) hx hb dX11_city_107 (by decide) ?_
              rw [zp_zr] at hP hD
              exact ih ((k_5 + 1)) _ (by omega) (by omega) (z_all hgk_5_1 rfl) _ _ hP hD hS _ (lv_sub hl [1, 0] rfl)
            · refine lv_iload_n hx hb dX11_city_86 rfl (lv_at hl 1 rfl) ?_
              refine lv_bipush (v := nI 119) hx hb dX11_city_87 (by decide +kernel) ?_
              refine lv_icmp_ge (tgt := 110) hx hb dX11_city_89 (by decide) (fun _ => ?_) (fun c_0 => absurd (nI_le (by omega) (by omega)) c_0)
              refine lv_aload_n hx hb dX11_city_110 rfl (lv_at hl 0 rfl) ?_
              refine z_get hx hb ht hown hK hP ziX11 rfl 0 (by decide) 1 (by decide) hw_5_188 rfl (v := .ref (q 1)) rfl dX11_city_111 ?_
              refine lv_iconst (v := nI 5) hx hb dX11_city_114 (by decide +kernel) ?_
              refine z_iald hx hb hK hP 1 (by decide) 0 rfl rfl (vp_in_nI (by omega) (by decide)) dX11_city_115 ?_
              refine z_eqi (y := nI 0) (hgk_5_1 _) ?_
              exact z_iret (v := nI 0) hx hb hr hlocks hP hD hS dX11_city_116 rfl
        exact loop_k_5 120 0 ((zr zMR0 6 gk_1_6) 1) (by omega) (by omega) (fun _ => rfl) _ _ (by simp only [zr_self]; exact hP) (by simp only [zr_self]; exact hD) hS _ (lv_sub hl [1, 0] rfl)
  exact loop_k_1 120 0 (zMR0 6) (by omega) (by omega) (fun _ => rfl) _ _ (by simp only [zr_self]; exact hP) (by simp only [zr_self]; exact hD) hS _ (lv_sub hl [1, 0] rfl)
