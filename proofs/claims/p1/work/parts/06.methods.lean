set_option maxHeartbeats 4000000 in
set_option maxRecDepth 100000 in
theorem kX11_in (l : Launch) (D : va_G) (q : Nat → Nat) (cA : Nat → ClassId) (I R : Nat → Nat → Int32) (J : Nat → Nat → Int64) (x a b : Int) (v : Int64) (lo : Int64) (hi : Int64) (hv : v.toInt = x) (hlo : lo.toInt = a) (hhi : hi.toInt = b) : zMi l D vwCl (zMtys cA) 25 q (zMd q cA) yX11_in cX11_in 6 (some .boolean) ({ frames := 0, cells := 0, slots := 0, locals := 0 } : Room) [.long (v), .long (lo), .long (hi)] (I, R, J) (fun r u => (r = nI 1 ∧ u = (I, R, J) ∧ a ≤ x ∧ x ≤ b) ∨ (r = nI 0 ∧ u = (I, R, J) ∧ (x < a ∨ b < x))) := by
  intro sz
  refine z_body (by decide +kernel) (Nat.le_of_ble_eq_true rfl) (fun p e s m below meth c ls hx hb hml hr ht hown hlocks hsz hK hP hD hS hl => ?_)
  have hA : ∀ a, s.heap.size ≤ a → zA 25 q sz a := fun a h => Or.inr (hsz ▸ h)
  have hl : lv_has ls 6 [(0, .long (v)), (2, .long (lo)), (4, .long (hi))] := hl
  refine lv_lload_n hx hb dX11_in_0 rfl (lv_at hl 0 rfl) ?_
  refine lv_lload_n hx hb dX11_in_1 rfl (lv_at hl 1 rfl) ?_
  refine W.lcmp hx hb dX11_in_2 ?_
  refine lv_if_lt (tgt := 17) hx hb dX11_in_3 (by decide) (fun c_1 => ?_) (fun c_1 => ?_)
  · have t_c_1 := z_lltT ((lg_cmp_lt _ _).mp c_1)
    refine lv_iconst (v := nI 0) hx hb dX11_in_17 (by decide +kernel) ?_
    exact z_zret (v := nI 0) hx hb hr hlocks hP hD hS (by decide +kernel) dX11_in_18 (Or.inr ⟨rfl, rfl, by omega⟩)
  · have t_c_1 := z_lltF (fun h => c_1 ((lg_cmp_lt _ _).mpr h))
    refine lv_lload_n hx hb dX11_in_6 rfl (lv_at hl 0 rfl) ?_
    refine lv_lload hx hb dX11_in_7 (lv_at hl 2 rfl) ?_
    refine W.lcmp hx hb dX11_in_9 ?_
    refine lv_if_gt (tgt := 17) hx hb dX11_in_10 (by decide) (fun c_2 => ?_) (fun c_2 => ?_)
    · have t_c_2 := z_lltT ((lg_cmp_gt _ _).mp c_2)
      refine lv_iconst (v := nI 0) hx hb dX11_in_17 (by decide +kernel) ?_
      exact z_zret (v := nI 0) hx hb hr hlocks hP hD hS (by decide +kernel) dX11_in_18 (Or.inr ⟨rfl, rfl, by omega⟩)
    · have t_c_2 := z_lltF (fun h => c_2 ((lg_cmp_gt _ _).mpr h))
      refine lv_iconst (v := nI 1) hx hb dX11_in_13 (by decide +kernel) ?_
      refine lv_goto (tgt := 18) hx hb dX11_in_14 (by decide) ?_
      exact z_zret (v := nI 1) hx hb hr hlocks hP hD hS (by decide +kernel) dX11_in_18 (Or.inl ⟨rfl, rfl, by omega, by omega⟩)
set_option maxHeartbeats 4000000 in
set_option maxRecDepth 100000 in
theorem kX11_isCity (l : Launch) (D : va_G) (q : Nat → Nat) (cA : Nat → ClassId)    : zMi l D vwCl (zMtys cA) 25 q (zMd q cA) yX11_isCity cX11_isCity 1 (some .boolean) ({ frames := 0, cells := 0, slots := 0, locals := 0 } : Room) [.ref (q 0)] (zMI0, zMR0, zMJ0) (fun r u => r = nI 0 ∧ u = (zMI0, zMR0, zMJ0)) := by
  intro sz
  refine z_body (by decide +kernel) (Nat.le_of_ble_eq_true rfl) (fun p e s m below meth c ls hx hb hml hr ht hown hlocks hsz hK hP hD hS hl => ?_)
  have hA : ∀ a, s.heap.size ≤ a → zA 25 q sz a := fun a h => Or.inr (hsz ▸ h)
  have hl : lv_has ls 1 [(0, .ref (q 0))] := hl
  refine lv_aload_n hx hb dX11_isCity_0 rfl (lv_at hl 0 rfl) ?_
  refine z_get hx hb ht hown hK hP ziX11 rfl 0 (by decide) 1 (by decide) hw_5_188 rfl (v := .ref (q 1)) rfl dX11_isCity_1 ?_
  refine lv_iconst (v := nI 5) hx hb dX11_isCity_4 (by decide +kernel) ?_
  refine z_iald hx hb hK hP 1 (by decide) 0 rfl rfl (vp_in_nI (by omega) (by decide)) dX11_isCity_5 ?_
  refine z_eqi (y := nI 0) rfl ?_
  refine lv_if_le (tgt := 13) hx hb dX11_isCity_6 (by decide) (fun _ => ?_) (fun c_0 => absurd (by decide +kernel) c_0)
  refine lv_iconst (v := nI 0) hx hb dX11_isCity_13 (by decide +kernel) ?_
  exact z_zret (v := nI 0) hx hb hr hlocks hP hD hS (by decide +kernel) dX11_isCity_14 ⟨rfl, rfl⟩
set_option maxHeartbeats 4000000 in
set_option maxRecDepth 100000 in
theorem kX11_isHouse (l : Launch) (D : va_G) (q : Nat → Nat) (cA : Nat → ClassId)  (h : Int64)  : zMi l D vwCl (zMtys cA) 25 q (zMd q cA) yX11_isHouse cX11_isHouse 3 (some .boolean) ({ frames := 1, cells := 0, slots := 0, locals := 25 } : Room) [.ref (q 0), .long (h)] (zMI0, zMR0, zMJ0) (fun r u => r = nI 0 ∧ u = (zMI0, zMR0, zMJ0)) := by
  intro sz
  refine z_body (by decide +kernel) (Nat.le_of_ble_eq_true rfl) (fun p e s m below meth c ls hx hb hml hr ht hown hlocks hsz hK hP hD hS hl => ?_)
  have hA : ∀ a, s.heap.size ≤ a → zA 25 q sz a := fun a h => Or.inr (hsz ▸ h)
  have hl : lv_has ls 3 [(0, .ref (q 0)), (1, .long (h))] := hl
  refine lv_lload_n hx hb dX11_isHouse_0 rfl (lv_at hl 1 rfl) ?_
  refine lv_lconst (v := (0 : Int64)) hx hb dX11_isHouse_1 (by decide +kernel) ?_
  refine lv_aload_n hx hb dX11_isHouse_2 rfl (lv_at hl 0 rfl) ?_
  refine z_get hx hb ht hown hK hP ziX11 rfl 0 (by decide) 1 (by decide) hw_5_188 rfl (v := .ref (q 1)) rfl dX11_isHouse_3 ?_
  refine lv_iconst (v := nI 3) hx hb dX11_isHouse_6 (by decide +kernel) ?_
  refine z_iald hx hb hK hP 1 (by decide) 0 rfl rfl (vp_in_nI (by omega) (by decide)) dX11_isHouse_7 ?_
  refine z_eqi (y := nI 0) rfl ?_
  refine lv_iconst (v := nI 1) hx hb dX11_isHouse_8 (by decide +kernel) ?_
  refine lv_isub hx hb dX11_isHouse_9 ?_
  refine z_eqi (y := (-1)) (by decide +kernel) ?_
  refine lv_i2l (v := (-1 : Int64)) hx hb dX11_isHouse_10 (by decide +kernel) ?_
  refine z_callSi (As := [.long (h), .long ((0 : Int64)), .long ((-1 : Int64))]) (rest := []) hx hb hml hown ht (kX11_in l D q cA _ _ _ (h).toInt 0 (-1) (h) ((0 : Int64)) ((-1 : Int64)) rfl (by decide +kernel) (by decide +kernel)) hw_6_86 hmX11_in ⟨rfl, rfl⟩ (na := 3) rfl (by decide +kernel) (by decide) hK hP hD hS hA hl.1 rfl (Nat.le_of_ble_eq_true rfl) ⟨Nat.zero_le _, Nat.zero_le _⟩ dX11_isHouse_11 (fun r_1 I_1 R_1 J_1 H locs hp_1 hP hD hS _ _ => ?_)
  rcases hp_1 with ⟨rfl, hu_1, h1_1, h2_1⟩ | ⟨rfl, hu_1, h1_1⟩
  · exfalso; omega
  · cases hu_1
    exact z_zret (v := nI 0) hx hb hr hlocks hP hD hS (by decide +kernel) dX11_isHouse_14 ⟨rfl, rfl⟩
set_option maxHeartbeats 4000000 in
set_option maxRecDepth 100000 in
theorem kX11_isThing (l : Launch) (D : va_G) (q : Nat → Nat) (cA : Nat → ClassId)  (h : Int64)  : zMi l D vwCl (zMtys cA) 25 q (zMd q cA) yX11_isThing cX11_isThing 3 (some .boolean) ({ frames := 1, cells := 0, slots := 0, locals := 25 } : Room) [.ref (q 0), .long (h)] (zMI0, zMR0, zMJ0) (fun r u => r = nI 0 ∧ u = (zMI0, zMR0, zMJ0)) := by
  intro sz
  refine z_body (by decide +kernel) (Nat.le_of_ble_eq_true rfl) (fun p e s m below meth c ls hx hb hml hr ht hown hlocks hsz hK hP hD hS hl => ?_)
  have hA : ∀ a, s.heap.size ≤ a → zA 25 q sz a := fun a h => Or.inr (hsz ▸ h)
  have hl : lv_has ls 3 [(0, .ref (q 0)), (1, .long (h))] := hl
  refine lv_lload_n hx hb dX11_isThing_0 rfl (lv_at hl 1 rfl) ?_
  refine lv_lconst (v := (0 : Int64)) hx hb dX11_isThing_1 (by decide +kernel) ?_
  refine lv_aload_n hx hb dX11_isThing_2 rfl (lv_at hl 0 rfl) ?_
  refine z_get hx hb ht hown hK hP ziX11 rfl 0 (by decide) 1 (by decide) hw_5_188 rfl (v := .ref (q 1)) rfl dX11_isThing_3 ?_
  refine lv_iconst (v := nI 4) hx hb dX11_isThing_6 (by decide +kernel) ?_
  refine z_iald hx hb hK hP 1 (by decide) 0 rfl rfl (vp_in_nI (by omega) (by decide)) dX11_isThing_7 ?_
  refine z_eqi (y := nI 0) rfl ?_
  refine lv_iconst (v := nI 1) hx hb dX11_isThing_8 (by decide +kernel) ?_
  refine lv_isub hx hb dX11_isThing_9 ?_
  refine z_eqi (y := (-1)) (by decide +kernel) ?_
  refine lv_i2l (v := (-1 : Int64)) hx hb dX11_isThing_10 (by decide +kernel) ?_
  refine z_callSi (As := [.long (h), .long ((0 : Int64)), .long ((-1 : Int64))]) (rest := []) hx hb hml hown ht (kX11_in l D q cA _ _ _ (h).toInt 0 (-1) (h) ((0 : Int64)) ((-1 : Int64)) rfl (by decide +kernel) (by decide +kernel)) hw_6_86 hmX11_in ⟨rfl, rfl⟩ (na := 3) rfl (by decide +kernel) (by decide) hK hP hD hS hA hl.1 rfl (Nat.le_of_ble_eq_true rfl) ⟨Nat.zero_le _, Nat.zero_le _⟩ dX11_isThing_11 (fun r_1 I_1 R_1 J_1 H locs hp_1 hP hD hS _ _ => ?_)
  rcases hp_1 with ⟨rfl, hu_1, h1_1, h2_1⟩ | ⟨rfl, hu_1, h1_1⟩
  · exfalso; omega
  · cases hu_1
    exact z_zret (v := nI 0) hx hb hr hlocks hP hD hS (by decide +kernel) dX11_isThing_14 ⟨rfl, rfl⟩
set_option maxHeartbeats 4000000 in
set_option maxRecDepth 100000 in
theorem kX11_house (l : Launch) (D : va_G) (q : Nat → Nat) (cA : Nat → ClassId)  (h : Int32) (w : Int32)  : zMi l D vwCl (zMtys cA) 25 q (zMd q cA) yX11_house cX11_house 5 (some .int) ({ frames := 2, cells := 0, slots := 0, locals := 47 } : Room) [.ref (q 0), .int (h), .int (w)] (zMI0, zMR0, zMJ0) (fun r _ => r = (-2)) := by
  intro sz
  refine z_body (by decide +kernel) (Nat.le_of_ble_eq_true rfl) (fun p e s m below meth c ls hx hb hml hr ht hown hlocks hsz hK hP hD hS hl => ?_)
  have hA : ∀ a, s.heap.size ≤ a → zA 25 q sz a := fun a h => Or.inr (hsz ▸ h)
  have hl : lv_has ls 5 [(0, .ref (q 0)), (1, .int (h)), (2, .int (w))] := hl
  refine lv_aload_n hx hb dX11_house_0 rfl (lv_at hl 0 rfl) ?_
  refine lv_iload_n hx hb dX11_house_1 rfl (lv_at hl 1 rfl) ?_
  refine lv_i2l (v := (h).toInt64) hx hb dX11_house_2 rfl ?_
  refine z_callVi (k := 0) (As := [.long ((h).toInt64)]) (rest := []) hx hb hml hown ht (kX11_isHouse l D q cA ((h).toInt64)) hw_6_176 hmX11_isHouse ⟨rfl, rfl⟩ (na := 1) rfl (by decide +kernel) (by decide) (by decide) rfl rfl hK hP hD hS hA hl.1 rfl (Nat.le_of_ble_eq_true rfl) ⟨Nat.zero_le _, Nat.zero_le _⟩ dX11_house_3 (fun r_1 I_1 R_1 J_1 H locs hp_1 hP hD hS _ _ => ?_)
  obtain ⟨rfl, hu_1⟩ := hp_1
  cases hu_1
  refine lv_if_eq (tgt := 21) hx hb dX11_house_6 (by decide) (fun _ => ?_) (fun c_0 => absurd (by decide +kernel) c_0)
  refine lv_bipush (v := (-2)) hx hb dX11_house_21 (by decide +kernel) ?_
  exact z_iret (v := (-2)) hx hb hr hlocks hP hD hS dX11_house_23 rfl
set_option maxHeartbeats 4000000 in
set_option maxRecDepth 100000 in
theorem kX11_thing (l : Launch) (D : va_G) (q : Nat → Nat) (cA : Nat → ClassId)  (h : Int32) (w : Int32)  : zMi l D vwCl (zMtys cA) 25 q (zMd q cA) yX11_thing cX11_thing 3 (some .int) ({ frames := 2, cells := 0, slots := 0, locals := 47 } : Room) [.ref (q 0), .int (h), .int (w)] (zMI0, zMR0, zMJ0) (fun r _ => r = (-2)) := by
  intro sz
  refine z_body (by decide +kernel) (Nat.le_of_ble_eq_true rfl) (fun p e s m below meth c ls hx hb hml hr ht hown hlocks hsz hK hP hD hS hl => ?_)
  have hA : ∀ a, s.heap.size ≤ a → zA 25 q sz a := fun a h => Or.inr (hsz ▸ h)
  have hl : lv_has ls 3 [(0, .ref (q 0)), (1, .int (h)), (2, .int (w))] := hl
  refine lv_aload_n hx hb dX11_thing_0 rfl (lv_at hl 0 rfl) ?_
  refine lv_iload_n hx hb dX11_thing_1 rfl (lv_at hl 1 rfl) ?_
  refine lv_i2l (v := (h).toInt64) hx hb dX11_thing_2 rfl ?_
  refine z_callVi (k := 0) (As := [.long ((h).toInt64)]) (rest := []) hx hb hml hown ht (kX11_isThing l D q cA ((h).toInt64)) hw_6_238 hmX11_isThing ⟨rfl, rfl⟩ (na := 1) rfl (by decide +kernel) (by decide) (by decide) rfl rfl hK hP hD hS hA hl.1 rfl (Nat.le_of_ble_eq_true rfl) ⟨Nat.zero_le _, Nat.zero_le _⟩ dX11_thing_3 (fun r_1 I_1 R_1 J_1 H locs hp_1 hP hD hS _ _ => ?_)
  obtain ⟨rfl, hu_1⟩ := hp_1
  cases hu_1
  refine lv_if_eq (tgt := 21) hx hb dX11_thing_6 (by decide) (fun _ => ?_) (fun c_0 => absurd (by decide +kernel) c_0)
  refine lv_bipush (v := (-2)) hx hb dX11_thing_21 (by decide +kernel) ?_
  exact z_iret (v := (-2)) hx hb hr hlocks hP hD hS dX11_thing_23 rfl
set_option maxHeartbeats 4000000 in
set_option maxRecDepth 100000 in
theorem kX11_value (l : Launch) (D : va_G) (q : Nat → Nat) (cA : Nat → ClassId)  (h : Int32) (w : Int32)  : zMi l D vwCl (zMtys cA) 25 q (zMd q cA) yX11_value cX11_value 3 (some .int) ({ frames := 2, cells := 0, slots := 0, locals := 47 } : Room) [.ref (q 0), .int (h), .int (w)] (zMI0, zMR0, zMJ0) (fun r _ => r = (-2)) := by
  intro sz
  refine z_body (by decide +kernel) (Nat.le_of_ble_eq_true rfl) (fun p e s m below meth c ls hx hb hml hr ht hown hlocks hsz hK hP hD hS hl => ?_)
  have hA : ∀ a, s.heap.size ≤ a → zA 25 q sz a := fun a h => Or.inr (hsz ▸ h)
  have hl : lv_has ls 3 [(0, .ref (q 0)), (1, .int (h)), (2, .int (w))] := hl
  refine lv_aload_n hx hb dX11_value_0 rfl (lv_at hl 0 rfl) ?_
  refine lv_iload_n hx hb dX11_value_1 rfl (lv_at hl 1 rfl) ?_
  refine lv_i2l (v := (h).toInt64) hx hb dX11_value_2 rfl ?_
  refine z_callVi (k := 0) (As := [.long ((h).toInt64)]) (rest := []) hx hb hml hown ht (kX11_isHouse l D q cA ((h).toInt64)) hw_6_176 hmX11_isHouse ⟨rfl, rfl⟩ (na := 1) rfl (by decide +kernel) (by decide) (by decide) rfl rfl hK hP hD hS hA hl.1 rfl (Nat.le_of_ble_eq_true rfl) ⟨Nat.zero_le _, Nat.zero_le _⟩ dX11_value_3 (fun r_1 I_1 R_1 J_1 H locs hp_1 hP hD hS _ _ => ?_)
  obtain ⟨rfl, hu_1⟩ := hp_1
  cases hu_1
  refine lv_if_eq (tgt := 27) hx hb dX11_value_6 (by decide) (fun _ => ?_) (fun c_0 => absurd (by decide +kernel) c_0)
  refine lv_bipush (v := (-2)) hx hb dX11_value_27 (by decide +kernel) ?_
  exact z_iret (v := (-2)) hx hb hr hlocks hP hD hS dX11_value_29 rfl
set_option maxHeartbeats 4000000 in
set_option maxRecDepth 100000 in
theorem kX11_net (l : Launch) (D : va_G) (q : Nat → Nat) (cA : Nat → ClassId)  (h : Int32)  : zMi l D vwCl (zMtys cA) 25 q (zMd q cA) yX11_net cX11_net 2 (some .int) ({ frames := 2, cells := 0, slots := 0, locals := 47 } : Room) [.ref (q 0), .int (h)] (zMI0, zMR0, zMJ0) (fun r _ => r = (-100000)) := by
  intro sz
  refine z_body (by decide +kernel) (Nat.le_of_ble_eq_true rfl) (fun p e s m below meth c ls hx hb hml hr ht hown hlocks hsz hK hP hD hS hl => ?_)
  have hA : ∀ a, s.heap.size ≤ a → zA 25 q sz a := fun a h => Or.inr (hsz ▸ h)
  have hl : lv_has ls 2 [(0, .ref (q 0)), (1, .int (h))] := hl
  refine lv_aload_n hx hb dX11_net_0 rfl (lv_at hl 0 rfl) ?_
  refine lv_iload_n hx hb dX11_net_1 rfl (lv_at hl 1 rfl) ?_
  refine lv_i2l (v := (h).toInt64) hx hb dX11_net_2 rfl ?_
  refine z_callVi (k := 0) (As := [.long ((h).toInt64)]) (rest := []) hx hb hml hown ht (kX11_isHouse l D q cA ((h).toInt64)) hw_6_176 hmX11_isHouse ⟨rfl, rfl⟩ (na := 1) rfl (by decide +kernel) (by decide) (by decide) rfl rfl hK hP hD hS hA hl.1 rfl (Nat.le_of_ble_eq_true rfl) ⟨Nat.zero_le _, Nat.zero_le _⟩ dX11_net_3 (fun r_1 I_1 R_1 J_1 H locs hp_1 hP hD hS _ _ => ?_)
  obtain ⟨rfl, hu_1⟩ := hp_1
  cases hu_1
  refine lv_if_ne (tgt := 13) hx hb dX11_net_6 (by decide) (fun c_0 => absurd c_0 (by decide +kernel)) (fun _ => ?_)
  refine lv_ldcw (v := (-100000)) hx hb hown (ht _ hw_7_30) dX11_net_9 ?_
  exact z_iret (v := (-100000)) hx hb hr hlocks hP hD hS dX11_net_12 rfl
set_option maxHeartbeats 4000000 in
set_option maxRecDepth 100000 in
theorem kX11_steal (l : Launch) (D : va_G) (q : Nat → Nat) (cA : Nat → ClassId)  (h : Int32) (t : Int32) (d : Int32)  : zMi l D vwCl (zMtys cA) 25 q (zMd q cA) yX11_steal cX11_steal 4 (some .int) ({ frames := 2, cells := 0, slots := 0, locals := 47 } : Room) [.ref (q 0), .int (h), .int (t), .int (d)] (zMI0, zMR0, zMJ0) (fun r _ => r = (-2)) := by
  intro sz
  refine z_body (by decide +kernel) (Nat.le_of_ble_eq_true rfl) (fun p e s m below meth c ls hx hb hml hr ht hown hlocks hsz hK hP hD hS hl => ?_)
  have hA : ∀ a, s.heap.size ≤ a → zA 25 q sz a := fun a h => Or.inr (hsz ▸ h)
  have hl : lv_has ls 4 [(0, .ref (q 0)), (1, .int (h)), (2, .int (t)), (3, .int (d))] := hl
  refine lv_aload_n hx hb dX11_steal_0 rfl (lv_at hl 0 rfl) ?_
  refine lv_iload_n hx hb dX11_steal_1 rfl (lv_at hl 1 rfl) ?_
  refine lv_i2l (v := (h).toInt64) hx hb dX11_steal_2 rfl ?_
  refine z_callVi (k := 0) (As := [.long ((h).toInt64)]) (rest := []) hx hb hml hown ht (kX11_isHouse l D q cA ((h).toInt64)) hw_6_176 hmX11_isHouse ⟨rfl, rfl⟩ (na := 1) rfl (by decide +kernel) (by decide) (by decide) rfl rfl hK hP hD hS hA hl.1 rfl (Nat.le_of_ble_eq_true rfl) ⟨Nat.zero_le _, Nat.zero_le _⟩ dX11_steal_3 (fun r_1 I_1 R_1 J_1 H locs hp_1 hP hD hS _ _ => ?_)
  obtain ⟨rfl, hu_1⟩ := hp_1
  cases hu_1
  refine lv_if_eq (tgt := 30) hx hb dX11_steal_6 (by decide) (fun _ => ?_) (fun c_0 => absurd (by decide +kernel) c_0)
  refine lv_bipush (v := (-2)) hx hb dX11_steal_30 (by decide +kernel) ?_
  exact z_iret (v := (-2)) hx hb hr hlocks hP hD hS dX11_steal_32 rfl
set_option maxHeartbeats 4000000 in
set_option maxRecDepth 100000 in
theorem kX11_lock (l : Launch) (D : va_G) (q : Nat → Nat) (cA : Nat → ClassId)  (h : Int32) (w : Int32)  : zMi l D vwCl (zMtys cA) 25 q (zMd q cA) yX11_lock cX11_lock 3 (some .int) ({ frames := 2, cells := 0, slots := 0, locals := 47 } : Room) [.ref (q 0), .int (h), .int (w)] (zMI0, zMR0, zMJ0) (fun r _ => r = (-2)) := by
  intro sz
  refine z_body (by decide +kernel) (Nat.le_of_ble_eq_true rfl) (fun p e s m below meth c ls hx hb hml hr ht hown hlocks hsz hK hP hD hS hl => ?_)
  have hA : ∀ a, s.heap.size ≤ a → zA 25 q sz a := fun a h => Or.inr (hsz ▸ h)
  have hl : lv_has ls 3 [(0, .ref (q 0)), (1, .int (h)), (2, .int (w))] := hl
  refine lv_aload_n hx hb dX11_lock_0 rfl (lv_at hl 0 rfl) ?_
  refine lv_iload_n hx hb dX11_lock_1 rfl (lv_at hl 1 rfl) ?_
  refine lv_i2l (v := (h).toInt64) hx hb dX11_lock_2 rfl ?_
  refine z_callVi (k := 0) (As := [.long ((h).toInt64)]) (rest := []) hx hb hml hown ht (kX11_isHouse l D q cA ((h).toInt64)) hw_6_176 hmX11_isHouse ⟨rfl, rfl⟩ (na := 1) rfl (by decide +kernel) (by decide) (by decide) rfl rfl hK hP hD hS hA hl.1 rfl (Nat.le_of_ble_eq_true rfl) ⟨Nat.zero_le _, Nat.zero_le _⟩ dX11_lock_3 (fun r_1 I_1 R_1 J_1 H locs hp_1 hP hD hS _ _ => ?_)
  obtain ⟨rfl, hu_1⟩ := hp_1
  cases hu_1
  refine lv_if_eq (tgt := 19) hx hb dX11_lock_6 (by decide) (fun _ => ?_) (fun c_0 => absurd (by decide +kernel) c_0)
  refine lv_bipush (v := (-2)) hx hb dX11_lock_19 (by decide +kernel) ?_
  exact z_iret (v := (-2)) hx hb hr hlocks hP hD hS dX11_lock_21 rfl
set_option maxHeartbeats 4000000 in
set_option maxRecDepth 100000 in
theorem kX11_night (l : Launch) (D : va_G) (q : Nat → Nat) (cA : Nat → ClassId)    : zMi l D vwCl (zMtys cA) 25 q (zMd q cA) yX11_night cX11_night 1 (some .int) ({ frames := 1, cells := 0, slots := 0, locals := 20 } : Room) [.ref (q 0)] (zMI0, zMR0, zMJ0) (fun r _ => r = (-2)) := by
  intro sz
  refine z_body (by decide +kernel) (Nat.le_of_ble_eq_true rfl) (fun p e s m below meth c ls hx hb hml hr ht hown hlocks hsz hK hP hD hS hl => ?_)
  have hA : ∀ a, s.heap.size ≤ a → zA 25 q sz a := fun a h => Or.inr (hsz ▸ h)
  have hl : lv_has ls 1 [(0, .ref (q 0))] := hl
  refine lv_aload_n hx hb dX11_night_0 rfl (lv_at hl 0 rfl) ?_
  refine z_callVi (k := 0) (As := []) (rest := []) hx hb hml hown ht (kX11_isCity l D q cA ) hw_7_75 hmX11_isCity ⟨rfl, rfl⟩ (na := 0) rfl (by decide +kernel) (by decide) (by decide) rfl rfl hK hP hD hS hA hl.1 rfl (Nat.le_of_ble_eq_true rfl) ⟨Nat.zero_le _, Nat.zero_le _⟩ dX11_night_1 (fun r_1 I_1 R_1 J_1 H locs hp_1 hP hD hS _ _ => ?_)
  obtain ⟨rfl, hu_1⟩ := hp_1
  cases hu_1
  refine lv_if_ne (tgt := 10) hx hb dX11_night_4 (by decide) (fun c_0 => absurd c_0 (by decide +kernel)) (fun _ => ?_)
  refine lv_bipush (v := (-2)) hx hb dX11_night_7 (by decide +kernel) ?_
  exact z_iret (v := (-2)) hx hb hr hlocks hP hD hS dX11_night_9 rfl
set_option maxHeartbeats 4000000 in
set_option maxRecDepth 100000 in
theorem kX11_undo (l : Launch) (D : va_G) (q : Nat → Nat) (cA : Nat → ClassId)    : zMi l D vwCl (zMtys cA) 25 q (zMd q cA) yX11_undo cX11_undo 1 (some .int) ({ frames := 1, cells := 0, slots := 0, locals := 20 } : Room) [.ref (q 0)] (zMI0, zMR0, zMJ0) (fun r _ => r = (-2)) := by
  intro sz
  refine z_body (by decide +kernel) (Nat.le_of_ble_eq_true rfl) (fun p e s m below meth c ls hx hb hml hr ht hown hlocks hsz hK hP hD hS hl => ?_)
  have hA : ∀ a, s.heap.size ≤ a → zA 25 q sz a := fun a h => Or.inr (hsz ▸ h)
  have hl : lv_has ls 1 [(0, .ref (q 0))] := hl
  refine lv_aload_n hx hb dX11_undo_0 rfl (lv_at hl 0 rfl) ?_
  refine z_callVi (k := 0) (As := []) (rest := []) hx hb hml hown ht (kX11_isCity l D q cA ) hw_7_75 hmX11_isCity ⟨rfl, rfl⟩ (na := 0) rfl (by decide +kernel) (by decide) (by decide) rfl rfl hK hP hD hS hA hl.1 rfl (Nat.le_of_ble_eq_true rfl) ⟨Nat.zero_le _, Nat.zero_le _⟩ dX11_undo_1 (fun r_1 I_1 R_1 J_1 H locs hp_1 hP hD hS _ _ => ?_)
  obtain ⟨rfl, hu_1⟩ := hp_1
  cases hu_1
  refine lv_if_ne (tgt := 10) hx hb dX11_undo_4 (by decide) (fun c_0 => absurd c_0 (by decide +kernel)) (fun _ => ?_)
  refine lv_bipush (v := (-2)) hx hb dX11_undo_7 (by decide +kernel) ?_
  exact z_iret (v := (-2)) hx hb hr hlocks hP hD hS dX11_undo_9 rfl
set_option maxHeartbeats 4000000 in
set_option maxRecDepth 100000 in
theorem kX11_anew (l : Launch) (D : va_G) (q : Nat → Nat) (cA : Nat → ClassId)    : zMi l D vwCl (zMtys cA) 25 q (zMd q cA) yX11_anew cX11_anew 2 (some .int) ({ frames := 1, cells := 0, slots := 0, locals := 20 } : Room) [.ref (q 0)] (zMI0, zMR0, zMJ0) (fun r _ => r = (-2)) := by
  intro sz
  refine z_body (by decide +kernel) (Nat.le_of_ble_eq_true rfl) (fun p e s m below meth c ls hx hb hml hr ht hown hlocks hsz hK hP hD hS hl => ?_)
  have hA : ∀ a, s.heap.size ≤ a → zA 25 q sz a := fun a h => Or.inr (hsz ▸ h)
  have hl : lv_has ls 2 [(0, .ref (q 0))] := hl
  refine lv_aload_n hx hb dX11_anew_0 rfl (lv_at hl 0 rfl) ?_
  refine z_callVi (k := 0) (As := []) (rest := []) hx hb hml hown ht (kX11_isCity l D q cA ) hw_7_75 hmX11_isCity ⟨rfl, rfl⟩ (na := 0) rfl (by decide +kernel) (by decide) (by decide) rfl rfl hK hP hD hS hA hl.1 rfl (Nat.le_of_ble_eq_true rfl) ⟨Nat.zero_le _, Nat.zero_le _⟩ dX11_anew_1 (fun r_1 I_1 R_1 J_1 H locs hp_1 hP hD hS _ _ => ?_)
  obtain ⟨rfl, hu_1⟩ := hp_1
  cases hu_1
  refine lv_if_ne (tgt := 10) hx hb dX11_anew_4 (by decide) (fun c_0 => absurd c_0 (by decide +kernel)) (fun _ => ?_)
  refine lv_bipush (v := (-2)) hx hb dX11_anew_7 (by decide +kernel) ?_
  exact z_iret (v := (-2)) hx hb hr hlocks hP hD hS dX11_anew_9 rfl
set_option maxHeartbeats 4000000 in
set_option maxRecDepth 100000 in
theorem kX11_now (l : Launch) (D : va_G) (q : Nat → Nat) (cA : Nat → ClassId)  (w : Int32)  : zMi l D vwCl (zMtys cA) 25 q (zMd q cA) yX11_now cX11_now 4 (some .int) ({ frames := 1, cells := 0, slots := 0, locals := 20 } : Room) [.ref (q 0), .int (w)] (zMI0, zMR0, zMJ0) (fun r _ => r = (-2)) := by
  intro sz
  refine z_body (by decide +kernel) (Nat.le_of_ble_eq_true rfl) (fun p e s m below meth c ls hx hb hml hr ht hown hlocks hsz hK hP hD hS hl => ?_)
  have hA : ∀ a, s.heap.size ≤ a → zA 25 q sz a := fun a h => Or.inr (hsz ▸ h)
  have hl : lv_has ls 4 [(0, .ref (q 0)), (1, .int (w))] := hl
  refine lv_aload_n hx hb dX11_now_0 rfl (lv_at hl 0 rfl) ?_
  refine z_callVi (k := 0) (As := []) (rest := []) hx hb hml hown ht (kX11_isCity l D q cA ) hw_7_75 hmX11_isCity ⟨rfl, rfl⟩ (na := 0) rfl (by decide +kernel) (by decide) (by decide) rfl rfl hK hP hD hS hA hl.1 rfl (Nat.le_of_ble_eq_true rfl) ⟨Nat.zero_le _, Nat.zero_le _⟩ dX11_now_1 (fun r_1 I_1 R_1 J_1 H locs hp_1 hP hD hS _ _ => ?_)
  obtain ⟨rfl, hu_1⟩ := hp_1
  cases hu_1
  refine lv_if_eq (tgt := 19) hx hb dX11_now_4 (by decide) (fun _ => ?_) (fun c_0 => absurd (by decide +kernel) c_0)
  refine lv_bipush (v := (-2)) hx hb dX11_now_19 (by decide +kernel) ?_
  exact z_iret (v := (-2)) hx hb hr hlocks hP hD hS dX11_now_21 rfl
set_option maxHeartbeats 4000000 in
set_option maxRecDepth 100000 in
theorem kX11_owner (l : Launch) (D : va_G) (q : Nat → Nat) (cA : Nat → ClassId)  (t : Int32)  : zMi l D vwCl (zMtys cA) 25 q (zMd q cA) yX11_owner cX11_owner 2 (some .int) ({ frames := 2, cells := 0, slots := 0, locals := 47 } : Room) [.ref (q 0), .int (t)] (zMI0, zMR0, zMJ0) (fun r _ => r = (-2)) := by
  intro sz
  refine z_body (by decide +kernel) (Nat.le_of_ble_eq_true rfl) (fun p e s m below meth c ls hx hb hml hr ht hown hlocks hsz hK hP hD hS hl => ?_)
  have hA : ∀ a, s.heap.size ≤ a → zA 25 q sz a := fun a h => Or.inr (hsz ▸ h)
  have hl : lv_has ls 2 [(0, .ref (q 0)), (1, .int (t))] := hl
  refine lv_aload_n hx hb dX11_owner_0 rfl (lv_at hl 0 rfl) ?_
  refine lv_iload_n hx hb dX11_owner_1 rfl (lv_at hl 1 rfl) ?_
  refine lv_i2l (v := (t).toInt64) hx hb dX11_owner_2 rfl ?_
  refine z_callVi (k := 0) (As := [.long ((t).toInt64)]) (rest := []) hx hb hml hown ht (kX11_isThing l D q cA ((t).toInt64)) hw_6_238 hmX11_isThing ⟨rfl, rfl⟩ (na := 1) rfl (by decide +kernel) (by decide) (by decide) rfl rfl hK hP hD hS hA hl.1 rfl (Nat.le_of_ble_eq_true rfl) ⟨Nat.zero_le _, Nat.zero_le _⟩ dX11_owner_3 (fun r_1 I_1 R_1 J_1 H locs hp_1 hP hD hS _ _ => ?_)
  obtain ⟨rfl, hu_1⟩ := hp_1
  cases hu_1
  refine lv_if_ne (tgt := 12) hx hb dX11_owner_6 (by decide) (fun c_0 => absurd c_0 (by decide +kernel)) (fun _ => ?_)
  refine lv_bipush (v := (-2)) hx hb dX11_owner_9 (by decide +kernel) ?_
  exact z_iret (v := (-2)) hx hb hr hlocks hP hD hS dX11_owner_11 rfl
set_option maxHeartbeats 4000000 in
set_option maxRecDepth 100000 in
theorem kX11_chain (l : Launch) (D : va_G) (q : Nat → Nat) (cA : Nat → ClassId)  (t : Int32) (i : Int32)  : zMi l D vwCl (zMtys cA) 25 q (zMd q cA) yX11_chain cX11_chain 3 (some .int) ({ frames := 2, cells := 0, slots := 0, locals := 47 } : Room) [.ref (q 0), .int (t), .int (i)] (zMI0, zMR0, zMJ0) (fun r _ => r = (-2)) := by
  intro sz
  refine z_body (by decide +kernel) (Nat.le_of_ble_eq_true rfl) (fun p e s m below meth c ls hx hb hml hr ht hown hlocks hsz hK hP hD hS hl => ?_)
  have hA : ∀ a, s.heap.size ≤ a → zA 25 q sz a := fun a h => Or.inr (hsz ▸ h)
  have hl : lv_has ls 3 [(0, .ref (q 0)), (1, .int (t)), (2, .int (i))] := hl
  refine lv_aload_n hx hb dX11_chain_0 rfl (lv_at hl 0 rfl) ?_
  refine lv_iload_n hx hb dX11_chain_1 rfl (lv_at hl 1 rfl) ?_
  refine lv_i2l (v := (t).toInt64) hx hb dX11_chain_2 rfl ?_
  refine z_callVi (k := 0) (As := [.long ((t).toInt64)]) (rest := []) hx hb hml hown ht (kX11_isThing l D q cA ((t).toInt64)) hw_6_238 hmX11_isThing ⟨rfl, rfl⟩ (na := 1) rfl (by decide +kernel) (by decide) (by decide) rfl rfl hK hP hD hS hA hl.1 rfl (Nat.le_of_ble_eq_true rfl) ⟨Nat.zero_le _, Nat.zero_le _⟩ dX11_chain_3 (fun r_1 I_1 R_1 J_1 H locs hp_1 hP hD hS _ _ => ?_)
  obtain ⟨rfl, hu_1⟩ := hp_1
  cases hu_1
  refine lv_if_ne (tgt := 12) hx hb dX11_chain_6 (by decide) (fun c_0 => absurd c_0 (by decide +kernel)) (fun _ => ?_)
  refine lv_bipush (v := (-2)) hx hb dX11_chain_9 (by decide +kernel) ?_
  exact z_iret (v := (-2)) hx hb hr hlocks hP hD hS dX11_chain_11 rfl
set_option maxHeartbeats 4000000 in
set_option maxRecDepth 100000 in
theorem kX11_rings (l : Launch) (D : va_G) (q : Nat → Nat) (cA : Nat → ClassId)    : zMi l D vwCl (zMtys cA) 25 q (zMd q cA) yX11_rings cX11_rings 3 (some .int) ({ frames := 1, cells := 0, slots := 0, locals := 20 } : Room) [.ref (q 0)] (zMI0, zMR0, zMJ0) (fun r _ => r = (-2)) := by
  intro sz
  refine z_body (by decide +kernel) (Nat.le_of_ble_eq_true rfl) (fun p e s m below meth c ls hx hb hml hr ht hown hlocks hsz hK hP hD hS hl => ?_)
  have hA : ∀ a, s.heap.size ≤ a → zA 25 q sz a := fun a h => Or.inr (hsz ▸ h)
  have hl : lv_has ls 3 [(0, .ref (q 0))] := hl
  refine lv_aload_n hx hb dX11_rings_0 rfl (lv_at hl 0 rfl) ?_
  refine z_callVi (k := 0) (As := []) (rest := []) hx hb hml hown ht (kX11_isCity l D q cA ) hw_7_75 hmX11_isCity ⟨rfl, rfl⟩ (na := 0) rfl (by decide +kernel) (by decide) (by decide) rfl rfl hK hP hD hS hA hl.1 rfl (Nat.le_of_ble_eq_true rfl) ⟨Nat.zero_le _, Nat.zero_le _⟩ dX11_rings_1 (fun r_1 I_1 R_1 J_1 H locs hp_1 hP hD hS _ _ => ?_)
  obtain ⟨rfl, hu_1⟩ := hp_1
  cases hu_1
  refine lv_if_ne (tgt := 10) hx hb dX11_rings_4 (by decide) (fun c_0 => absurd c_0 (by decide +kernel)) (fun _ => ?_)
  refine lv_bipush (v := (-2)) hx hb dX11_rings_7 (by decide +kernel) ?_
  exact z_iret (v := (-2)) hx hb hr hlocks hP hD hS dX11_rings_9 rfl
set_option maxHeartbeats 4000000 in
set_option maxRecDepth 100000 in
theorem kX11_owns (l : Launch) (D : va_G) (q : Nat → Nat) (cA : Nat → ClassId)  (h : Int32)  : zMi l D vwCl (zMtys cA) 25 q (zMd q cA) yX11_owns cX11_owns 4 (some .int) ({ frames := 2, cells := 0, slots := 0, locals := 47 } : Room) [.ref (q 0), .int (h)] (zMI0, zMR0, zMJ0) (fun r _ => r = (-2)) := by
  intro sz
  refine z_body (by decide +kernel) (Nat.le_of_ble_eq_true rfl) (fun p e s m below meth c ls hx hb hml hr ht hown hlocks hsz hK hP hD hS hl => ?_)
  have hA : ∀ a, s.heap.size ≤ a → zA 25 q sz a := fun a h => Or.inr (hsz ▸ h)
  have hl : lv_has ls 4 [(0, .ref (q 0)), (1, .int (h))] := hl
  refine lv_aload_n hx hb dX11_owns_0 rfl (lv_at hl 0 rfl) ?_
  refine lv_iload_n hx hb dX11_owns_1 rfl (lv_at hl 1 rfl) ?_
  refine lv_i2l (v := (h).toInt64) hx hb dX11_owns_2 rfl ?_
  refine z_callVi (k := 0) (As := [.long ((h).toInt64)]) (rest := []) hx hb hml hown ht (kX11_isHouse l D q cA ((h).toInt64)) hw_6_176 hmX11_isHouse ⟨rfl, rfl⟩ (na := 1) rfl (by decide +kernel) (by decide) (by decide) rfl rfl hK hP hD hS hA hl.1 rfl (Nat.le_of_ble_eq_true rfl) ⟨Nat.zero_le _, Nat.zero_le _⟩ dX11_owns_3 (fun r_1 I_1 R_1 J_1 H locs hp_1 hP hD hS _ _ => ?_)
  obtain ⟨rfl, hu_1⟩ := hp_1
  cases hu_1
  refine lv_if_ne (tgt := 12) hx hb dX11_owns_6 (by decide) (fun c_0 => absurd c_0 (by decide +kernel)) (fun _ => ?_)
  refine lv_bipush (v := (-2)) hx hb dX11_owns_9 (by decide +kernel) ?_
  exact z_iret (v := (-2)) hx hb hr hlocks hP hD hS dX11_owns_11 rfl
set_option maxHeartbeats 4000000 in
set_option maxRecDepth 100000 in
theorem kX11_twice (l : Launch) (D : va_G) (q : Nat → Nat) (cA : Nat → ClassId)    : zMi l D vwCl (zMtys cA) 25 q (zMd q cA) yX11_twice cX11_twice 4 (some .int) ({ frames := 1, cells := 0, slots := 0, locals := 20 } : Room) [.ref (q 0)] (zMI0, zMR0, zMJ0) (fun r _ => r = (-2)) := by
  intro sz
  refine z_body (by decide +kernel) (Nat.le_of_ble_eq_true rfl) (fun p e s m below meth c ls hx hb hml hr ht hown hlocks hsz hK hP hD hS hl => ?_)
  have hA : ∀ a, s.heap.size ≤ a → zA 25 q sz a := fun a h => Or.inr (hsz ▸ h)
  have hl : lv_has ls 4 [(0, .ref (q 0))] := hl
  refine lv_aload_n hx hb dX11_twice_0 rfl (lv_at hl 0 rfl) ?_
  refine z_callVi (k := 0) (As := []) (rest := []) hx hb hml hown ht (kX11_isCity l D q cA ) hw_7_75 hmX11_isCity ⟨rfl, rfl⟩ (na := 0) rfl (by decide +kernel) (by decide) (by decide) rfl rfl hK hP hD hS hA hl.1 rfl (Nat.le_of_ble_eq_true rfl) ⟨Nat.zero_le _, Nat.zero_le _⟩ dX11_twice_1 (fun r_1 I_1 R_1 J_1 H locs hp_1 hP hD hS _ _ => ?_)
  obtain ⟨rfl, hu_1⟩ := hp_1
  cases hu_1
  refine lv_if_ne (tgt := 10) hx hb dX11_twice_4 (by decide) (fun c_0 => absurd c_0 (by decide +kernel)) (fun _ => ?_)
  refine lv_bipush (v := (-2)) hx hb dX11_twice_7 (by decide +kernel) ?_
  exact z_iret (v := (-2)) hx hb hr hlocks hP hD hS dX11_twice_9 rfl
set_option maxHeartbeats 4000000 in
set_option maxRecDepth 100000 in
theorem kX11_strikes (l : Launch) (D : va_G) (q : Nat → Nat) (cA : Nat → ClassId)    : zMi l D vwCl (zMtys cA) 25 q (zMd q cA) yX11_strikes cX11_strikes 1 (some .int) ({ frames := 1, cells := 0, slots := 0, locals := 20 } : Room) [.ref (q 0)] (zMI0, zMR0, zMJ0) (fun r _ => r = (-2)) := by
  intro sz
  refine z_body (by decide +kernel) (Nat.le_of_ble_eq_true rfl) (fun p e s m below meth c ls hx hb hml hr ht hown hlocks hsz hK hP hD hS hl => ?_)
  have hA : ∀ a, s.heap.size ≤ a → zA 25 q sz a := fun a h => Or.inr (hsz ▸ h)
  have hl : lv_has ls 1 [(0, .ref (q 0))] := hl
  refine lv_aload_n hx hb dX11_strikes_0 rfl (lv_at hl 0 rfl) ?_
  refine z_callVi (k := 0) (As := []) (rest := []) hx hb hml hown ht (kX11_isCity l D q cA ) hw_7_75 hmX11_isCity ⟨rfl, rfl⟩ (na := 0) rfl (by decide +kernel) (by decide) (by decide) rfl rfl hK hP hD hS hA hl.1 rfl (Nat.le_of_ble_eq_true rfl) ⟨Nat.zero_le _, Nat.zero_le _⟩ dX11_strikes_1 (fun r_1 I_1 R_1 J_1 H locs hp_1 hP hD hS _ _ => ?_)
  obtain ⟨rfl, hu_1⟩ := hp_1
  cases hu_1
  refine lv_if_eq (tgt := 17) hx hb dX11_strikes_4 (by decide) (fun _ => ?_) (fun c_0 => absurd (by decide +kernel) c_0)
  refine lv_bipush (v := (-2)) hx hb dX11_strikes_17 (by decide +kernel) ?_
  exact z_iret (v := (-2)) hx hb hr hlocks hP hD hS dX11_strikes_19 rfl
set_option maxHeartbeats 4000000 in
set_option maxRecDepth 100000 in
theorem kX11_struck (l : Launch) (D : va_G) (q : Nat → Nat) (cA : Nat → ClassId)    : zMi l D vwCl (zMtys cA) 25 q (zMd q cA) yX11_struck cX11_struck 1 (some .int) ({ frames := 1, cells := 0, slots := 0, locals := 20 } : Room) [.ref (q 0)] (zMI0, zMR0, zMJ0) (fun r _ => r = (-2)) := by
  intro sz
  refine z_body (by decide +kernel) (Nat.le_of_ble_eq_true rfl) (fun p e s m below meth c ls hx hb hml hr ht hown hlocks hsz hK hP hD hS hl => ?_)
  have hA : ∀ a, s.heap.size ≤ a → zA 25 q sz a := fun a h => Or.inr (hsz ▸ h)
  have hl : lv_has ls 1 [(0, .ref (q 0))] := hl
  refine lv_aload_n hx hb dX11_struck_0 rfl (lv_at hl 0 rfl) ?_
  refine z_callVi (k := 0) (As := []) (rest := []) hx hb hml hown ht (kX11_isCity l D q cA ) hw_7_75 hmX11_isCity ⟨rfl, rfl⟩ (na := 0) rfl (by decide +kernel) (by decide) (by decide) rfl rfl hK hP hD hS hA hl.1 rfl (Nat.le_of_ble_eq_true rfl) ⟨Nat.zero_le _, Nat.zero_le _⟩ dX11_struck_1 (fun r_1 I_1 R_1 J_1 H locs hp_1 hP hD hS _ _ => ?_)
  obtain ⟨rfl, hu_1⟩ := hp_1
  cases hu_1
  refine lv_if_eq (tgt := 14) hx hb dX11_struck_4 (by decide) (fun _ => ?_) (fun c_0 => absurd (by decide +kernel) c_0)
  refine lv_bipush (v := (-2)) hx hb dX11_struck_14 (by decide +kernel) ?_
  exact z_iret (v := (-2)) hx hb hr hlocks hP hD hS dX11_struck_16 rfl
set_option maxHeartbeats 4000000 in
set_option maxRecDepth 100000 in
theorem kX11_trail (l : Launch) (D : va_G) (q : Nat → Nat) (cA : Nat → ClassId)  (t : Int32) (i : Int32)  : zMi l D vwCl (zMtys cA) 25 q (zMd q cA) yX11_trail cX11_trail 3 (some .int) ({ frames := 2, cells := 0, slots := 0, locals := 47 } : Room) [.ref (q 0), .int (t), .int (i)] (zMI0, zMR0, zMJ0) (fun r _ => r = (-2)) := by
  intro sz
  refine z_body (by decide +kernel) (Nat.le_of_ble_eq_true rfl) (fun p e s m below meth c ls hx hb hml hr ht hown hlocks hsz hK hP hD hS hl => ?_)
  have hA : ∀ a, s.heap.size ≤ a → zA 25 q sz a := fun a h => Or.inr (hsz ▸ h)
  have hl : lv_has ls 3 [(0, .ref (q 0)), (1, .int (t)), (2, .int (i))] := hl
  refine lv_aload_n hx hb dX11_trail_0 rfl (lv_at hl 0 rfl) ?_
  refine lv_iload_n hx hb dX11_trail_1 rfl (lv_at hl 1 rfl) ?_
  refine lv_i2l (v := (t).toInt64) hx hb dX11_trail_2 rfl ?_
  refine z_callVi (k := 0) (As := [.long ((t).toInt64)]) (rest := []) hx hb hml hown ht (kX11_isThing l D q cA ((t).toInt64)) hw_6_238 hmX11_isThing ⟨rfl, rfl⟩ (na := 1) rfl (by decide +kernel) (by decide) (by decide) rfl rfl hK hP hD hS hA hl.1 rfl (Nat.le_of_ble_eq_true rfl) ⟨Nat.zero_le _, Nat.zero_le _⟩ dX11_trail_3 (fun r_1 I_1 R_1 J_1 H locs hp_1 hP hD hS _ _ => ?_)
  obtain ⟨rfl, hu_1⟩ := hp_1
  cases hu_1
  refine lv_if_ne (tgt := 12) hx hb dX11_trail_6 (by decide) (fun c_0 => absurd c_0 (by decide +kernel)) (fun _ => ?_)
  refine lv_bipush (v := (-2)) hx hb dX11_trail_9 (by decide +kernel) ?_
  exact z_iret (v := (-2)) hx hb hr hlocks hP hD hS dX11_trail_11 rfl
set_option maxHeartbeats 4000000 in
set_option maxRecDepth 100000 in
theorem kX11_went (l : Launch) (D : va_G) (q : Nat → Nat) (cA : Nat → ClassId)  (t : Int32)  : zMi l D vwCl (zMtys cA) 25 q (zMd q cA) yX11_went cX11_went 2 (some .int) ({ frames := 2, cells := 0, slots := 0, locals := 47 } : Room) [.ref (q 0), .int (t)] (zMI0, zMR0, zMJ0) (fun r _ => r = (-2)) := by
  intro sz
  refine z_body (by decide +kernel) (Nat.le_of_ble_eq_true rfl) (fun p e s m below meth c ls hx hb hml hr ht hown hlocks hsz hK hP hD hS hl => ?_)
  have hA : ∀ a, s.heap.size ≤ a → zA 25 q sz a := fun a h => Or.inr (hsz ▸ h)
  have hl : lv_has ls 2 [(0, .ref (q 0)), (1, .int (t))] := hl
  refine lv_aload_n hx hb dX11_went_0 rfl (lv_at hl 0 rfl) ?_
  refine lv_iload_n hx hb dX11_went_1 rfl (lv_at hl 1 rfl) ?_
  refine lv_i2l (v := (t).toInt64) hx hb dX11_went_2 rfl ?_
  refine z_callVi (k := 0) (As := [.long ((t).toInt64)]) (rest := []) hx hb hml hown ht (kX11_isThing l D q cA ((t).toInt64)) hw_6_238 hmX11_isThing ⟨rfl, rfl⟩ (na := 1) rfl (by decide +kernel) (by decide) (by decide) rfl rfl hK hP hD hS hA hl.1 rfl (Nat.le_of_ble_eq_true rfl) ⟨Nat.zero_le _, Nat.zero_le _⟩ dX11_went_3 (fun r_1 I_1 R_1 J_1 H locs hp_1 hP hD hS _ _ => ?_)
  obtain ⟨rfl, hu_1⟩ := hp_1
  cases hu_1
  refine lv_if_ne (tgt := 12) hx hb dX11_went_6 (by decide) (fun c_0 => absurd c_0 (by decide +kernel)) (fun _ => ?_)
  refine lv_bipush (v := (-2)) hx hb dX11_went_9 (by decide +kernel) ?_
  exact z_iret (v := (-2)) hx hb hr hlocks hP hD hS dX11_went_11 rfl
set_option maxHeartbeats 4000000 in
set_option maxRecDepth 100000 in
theorem kX11_lies (l : Launch) (D : va_G) (q : Nat → Nat) (cA : Nat → ClassId)  (h : Int32)  : zMi l D vwCl (zMtys cA) 25 q (zMd q cA) yX11_lies cX11_lies 2 (some .int) ({ frames := 2, cells := 0, slots := 0, locals := 47 } : Room) [.ref (q 0), .int (h)] (zMI0, zMR0, zMJ0) (fun r _ => r = (-2)) := by
  intro sz
  refine z_body (by decide +kernel) (Nat.le_of_ble_eq_true rfl) (fun p e s m below meth c ls hx hb hml hr ht hown hlocks hsz hK hP hD hS hl => ?_)
  have hA : ∀ a, s.heap.size ≤ a → zA 25 q sz a := fun a h => Or.inr (hsz ▸ h)
  have hl : lv_has ls 2 [(0, .ref (q 0)), (1, .int (h))] := hl
  refine lv_aload_n hx hb dX11_lies_0 rfl (lv_at hl 0 rfl) ?_
  refine lv_iload_n hx hb dX11_lies_1 rfl (lv_at hl 1 rfl) ?_
  refine lv_i2l (v := (h).toInt64) hx hb dX11_lies_2 rfl ?_
  refine z_callVi (k := 0) (As := [.long ((h).toInt64)]) (rest := []) hx hb hml hown ht (kX11_isHouse l D q cA ((h).toInt64)) hw_6_176 hmX11_isHouse ⟨rfl, rfl⟩ (na := 1) rfl (by decide +kernel) (by decide) (by decide) rfl rfl hK hP hD hS hA hl.1 rfl (Nat.le_of_ble_eq_true rfl) ⟨Nat.zero_le _, Nat.zero_le _⟩ dX11_lies_3 (fun r_1 I_1 R_1 J_1 H locs hp_1 hP hD hS _ _ => ?_)
  obtain ⟨rfl, hu_1⟩ := hp_1
  cases hu_1
  refine lv_if_ne (tgt := 12) hx hb dX11_lies_6 (by decide) (fun c_0 => absurd c_0 (by decide +kernel)) (fun _ => ?_)
  refine lv_bipush (v := (-2)) hx hb dX11_lies_9 (by decide +kernel) ?_
  exact z_iret (v := (-2)) hx hb hr hlocks hP hD hS dX11_lies_11 rfl
set_option maxHeartbeats 4000000 in
set_option maxRecDepth 100000 in
theorem kX11_poorest (l : Launch) (D : va_G) (q : Nat → Nat) (cA : Nat → ClassId)    : zMi l D vwCl (zMtys cA) 25 q (zMd q cA) yX11_poorest cX11_poorest 3 (some .int) ({ frames := 1, cells := 0, slots := 0, locals := 20 } : Room) [.ref (q 0)] (zMI0, zMR0, zMJ0) (fun r _ => r = (-2)) := by
  intro sz
  refine z_body (by decide +kernel) (Nat.le_of_ble_eq_true rfl) (fun p e s m below meth c ls hx hb hml hr ht hown hlocks hsz hK hP hD hS hl => ?_)
  have hA : ∀ a, s.heap.size ≤ a → zA 25 q sz a := fun a h => Or.inr (hsz ▸ h)
  have hl : lv_has ls 3 [(0, .ref (q 0))] := hl
  refine lv_aload_n hx hb dX11_poorest_0 rfl (lv_at hl 0 rfl) ?_
  refine z_callVi (k := 0) (As := []) (rest := []) hx hb hml hown ht (kX11_isCity l D q cA ) hw_7_75 hmX11_isCity ⟨rfl, rfl⟩ (na := 0) rfl (by decide +kernel) (by decide) (by decide) rfl rfl hK hP hD hS hA hl.1 rfl (Nat.le_of_ble_eq_true rfl) ⟨Nat.zero_le _, Nat.zero_le _⟩ dX11_poorest_1 (fun r_1 I_1 R_1 J_1 H locs hp_1 hP hD hS _ _ => ?_)
  obtain ⟨rfl, hu_1⟩ := hp_1
  cases hu_1
  refine lv_if_ne (tgt := 10) hx hb dX11_poorest_4 (by decide) (fun c_0 => absurd c_0 (by decide +kernel)) (fun _ => ?_)
  refine lv_bipush (v := (-2)) hx hb dX11_poorest_7 (by decide +kernel) ?_
  exact z_iret (v := (-2)) hx hb hr hlocks hP hD hS dX11_poorest_9 rfl
set_option maxHeartbeats 4000000 in
set_option maxRecDepth 100000 in
theorem kX11_due (l : Launch) (D : va_G) (q : Nat → Nat) (cA : Nat → ClassId)  (d : Int32)  : zMi l D vwCl (zMtys cA) 25 q (zMd q cA) yX11_due cX11_due 2 (some .int) ({ frames := 1, cells := 0, slots := 0, locals := 20 } : Room) [.ref (q 0), .int (d)] (zMI0, zMR0, zMJ0) (fun r _ => r = (-2)) := by
  intro sz
  refine z_body (by decide +kernel) (Nat.le_of_ble_eq_true rfl) (fun p e s m below meth c ls hx hb hml hr ht hown hlocks hsz hK hP hD hS hl => ?_)
  have hA : ∀ a, s.heap.size ≤ a → zA 25 q sz a := fun a h => Or.inr (hsz ▸ h)
  have hl : lv_has ls 2 [(0, .ref (q 0)), (1, .int (d))] := hl
  refine lv_aload_n hx hb dX11_due_0 rfl (lv_at hl 0 rfl) ?_
  refine z_callVi (k := 0) (As := []) (rest := []) hx hb hml hown ht (kX11_isCity l D q cA ) hw_7_75 hmX11_isCity ⟨rfl, rfl⟩ (na := 0) rfl (by decide +kernel) (by decide) (by decide) rfl rfl hK hP hD hS hA hl.1 rfl (Nat.le_of_ble_eq_true rfl) ⟨Nat.zero_le _, Nat.zero_le _⟩ dX11_due_1 (fun r_1 I_1 R_1 J_1 H locs hp_1 hP hD hS _ _ => ?_)
  obtain ⟨rfl, hu_1⟩ := hp_1
  cases hu_1
  refine lv_if_eq (tgt := 19) hx hb dX11_due_4 (by decide) (fun _ => ?_) (fun c_0 => absurd (by decide +kernel) c_0)
  refine lv_bipush (v := (-2)) hx hb dX11_due_19 (by decide +kernel) ?_
  exact z_iret (v := (-2)) hx hb hr hlocks hP hD hS dX11_due_21 rfl
set_option maxHeartbeats 4000000 in
set_option maxRecDepth 100000 in
theorem kX11_monday (l : Launch) (D : va_G) (q : Nat → Nat) (cA : Nat → ClassId)    : zMi l D vwCl (zMtys cA) 25 q (zMd q cA) yX11_monday cX11_monday 4 (some .int) ({ frames := 1, cells := 0, slots := 0, locals := 20 } : Room) [.ref (q 0)] (zMI0, zMR0, zMJ0) (fun r _ => r = (-2)) := by
  intro sz
  refine z_body (by decide +kernel) (Nat.le_of_ble_eq_true rfl) (fun p e s m below meth c ls hx hb hml hr ht hown hlocks hsz hK hP hD hS hl => ?_)
  have hA : ∀ a, s.heap.size ≤ a → zA 25 q sz a := fun a h => Or.inr (hsz ▸ h)
  have hl : lv_has ls 4 [(0, .ref (q 0))] := hl
  refine lv_aload_n hx hb dX11_monday_0 rfl (lv_at hl 0 rfl) ?_
  refine z_callVi (k := 0) (As := []) (rest := []) hx hb hml hown ht (kX11_isCity l D q cA ) hw_7_75 hmX11_isCity ⟨rfl, rfl⟩ (na := 0) rfl (by decide +kernel) (by decide) (by decide) rfl rfl hK hP hD hS hA hl.1 rfl (Nat.le_of_ble_eq_true rfl) ⟨Nat.zero_le _, Nat.zero_le _⟩ dX11_monday_1 (fun r_1 I_1 R_1 J_1 H locs hp_1 hP hD hS _ _ => ?_)
  obtain ⟨rfl, hu_1⟩ := hp_1
  cases hu_1
  refine lv_if_ne (tgt := 10) hx hb dX11_monday_4 (by decide) (fun c_0 => absurd c_0 (by decide +kernel)) (fun _ => ?_)
  refine lv_bipush (v := (-2)) hx hb dX11_monday_7 (by decide +kernel) ?_
  exact z_iret (v := (-2)) hx hb hr hlocks hP hD hS dX11_monday_9 rfl
set_option maxHeartbeats 4000000 in
set_option maxRecDepth 100000 in
theorem kX11_lacks (l : Launch) (D : va_G) (q : Nat → Nat) (cA : Nat → ClassId)  (h : Int32)  : zMi l D vwCl (zMtys cA) 25 q (zMd q cA) yX11_lacks cX11_lacks 4 (some .int) ({ frames := 2, cells := 0, slots := 0, locals := 47 } : Room) [.ref (q 0), .int (h)] (zMI0, zMR0, zMJ0) (fun r _ => r = (-2)) := by
  intro sz
  refine z_body (by decide +kernel) (Nat.le_of_ble_eq_true rfl) (fun p e s m below meth c ls hx hb hml hr ht hown hlocks hsz hK hP hD hS hl => ?_)
  have hA : ∀ a, s.heap.size ≤ a → zA 25 q sz a := fun a h => Or.inr (hsz ▸ h)
  have hl : lv_has ls 4 [(0, .ref (q 0)), (1, .int (h))] := hl
  refine lv_aload_n hx hb dX11_lacks_0 rfl (lv_at hl 0 rfl) ?_
  refine lv_iload_n hx hb dX11_lacks_1 rfl (lv_at hl 1 rfl) ?_
  refine lv_i2l (v := (h).toInt64) hx hb dX11_lacks_2 rfl ?_
  refine z_callVi (k := 0) (As := [.long ((h).toInt64)]) (rest := []) hx hb hml hown ht (kX11_isHouse l D q cA ((h).toInt64)) hw_6_176 hmX11_isHouse ⟨rfl, rfl⟩ (na := 1) rfl (by decide +kernel) (by decide) (by decide) rfl rfl hK hP hD hS hA hl.1 rfl (Nat.le_of_ble_eq_true rfl) ⟨Nat.zero_le _, Nat.zero_le _⟩ dX11_lacks_3 (fun r_1 I_1 R_1 J_1 H locs hp_1 hP hD hS _ _ => ?_)
  obtain ⟨rfl, hu_1⟩ := hp_1
  cases hu_1
  refine lv_if_ne (tgt := 12) hx hb dX11_lacks_6 (by decide) (fun c_0 => absurd c_0 (by decide +kernel)) (fun _ => ?_)
  refine lv_bipush (v := (-2)) hx hb dX11_lacks_9 (by decide +kernel) ?_
  exact z_iret (v := (-2)) hx hb hr hlocks hP hD hS dX11_lacks_11 rfl
set_option maxHeartbeats 4000000 in
set_option maxRecDepth 100000 in
theorem kX11_needs_ (l : Launch) (D : va_G) (q : Nat → Nat) (cA : Nat → ClassId)  (h : Int32)  : zMi l D vwCl (zMtys cA) 25 q (zMd q cA) yX11_needs_ cX11_needs_ 3 (some .int) ({ frames := 2, cells := 0, slots := 0, locals := 47 } : Room) [.ref (q 0), .int (h)] (zMI0, zMR0, zMJ0) (fun r _ => r = (-2)) := by
  intro sz
  refine z_body (by decide +kernel) (Nat.le_of_ble_eq_true rfl) (fun p e s m below meth c ls hx hb hml hr ht hown hlocks hsz hK hP hD hS hl => ?_)
  have hA : ∀ a, s.heap.size ≤ a → zA 25 q sz a := fun a h => Or.inr (hsz ▸ h)
  have hl : lv_has ls 3 [(0, .ref (q 0)), (1, .int (h))] := hl
  refine lv_aload_n hx hb dX11_needs__0 rfl (lv_at hl 0 rfl) ?_
  refine lv_iload_n hx hb dX11_needs__1 rfl (lv_at hl 1 rfl) ?_
  refine lv_i2l (v := (h).toInt64) hx hb dX11_needs__2 rfl ?_
  refine z_callVi (k := 0) (As := [.long ((h).toInt64)]) (rest := []) hx hb hml hown ht (kX11_isHouse l D q cA ((h).toInt64)) hw_6_176 hmX11_isHouse ⟨rfl, rfl⟩ (na := 1) rfl (by decide +kernel) (by decide) (by decide) rfl rfl hK hP hD hS hA hl.1 rfl (Nat.le_of_ble_eq_true rfl) ⟨Nat.zero_le _, Nat.zero_le _⟩ dX11_needs__3 (fun r_1 I_1 R_1 J_1 H locs hp_1 hP hD hS _ _ => ?_)
  obtain ⟨rfl, hu_1⟩ := hp_1
  cases hu_1
  refine lv_if_ne (tgt := 12) hx hb dX11_needs__6 (by decide) (fun c_0 => absurd c_0 (by decide +kernel)) (fun _ => ?_)
  refine lv_bipush (v := (-2)) hx hb dX11_needs__9 (by decide +kernel) ?_
  exact z_iret (v := (-2)) hx hb hr hlocks hP hD hS dX11_needs__11 rfl
set_option maxHeartbeats 4000000 in
set_option maxRecDepth 100000 in
theorem kX11_fails (l : Launch) (D : va_G) (q : Nat → Nat) (cA : Nat → ClassId)  (n : Int32)  : zMi l D vwCl (zMtys cA) 25 q (zMd q cA) yX11_fails cX11_fails 2 (some .int) ({ frames := 1, cells := 0, slots := 0, locals := 20 } : Room) [.ref (q 0), .int (n)] (zMI0, zMR0, zMJ0) (fun r _ => r = (-2)) := by
  intro sz
  refine z_body (by decide +kernel) (Nat.le_of_ble_eq_true rfl) (fun p e s m below meth c ls hx hb hml hr ht hown hlocks hsz hK hP hD hS hl => ?_)
  have hA : ∀ a, s.heap.size ≤ a → zA 25 q sz a := fun a h => Or.inr (hsz ▸ h)
  have hl : lv_has ls 2 [(0, .ref (q 0)), (1, .int (n))] := hl
  refine lv_aload_n hx hb dX11_fails_0 rfl (lv_at hl 0 rfl) ?_
  refine z_callVi (k := 0) (As := []) (rest := []) hx hb hml hown ht (kX11_isCity l D q cA ) hw_7_75 hmX11_isCity ⟨rfl, rfl⟩ (na := 0) rfl (by decide +kernel) (by decide) (by decide) rfl rfl hK hP hD hS hA hl.1 rfl (Nat.le_of_ble_eq_true rfl) ⟨Nat.zero_le _, Nat.zero_le _⟩ dX11_fails_1 (fun r_1 I_1 R_1 J_1 H locs hp_1 hP hD hS _ _ => ?_)
  obtain ⟨rfl, hu_1⟩ := hp_1
  cases hu_1
  refine lv_if_eq (tgt := 22) hx hb dX11_fails_4 (by decide) (fun _ => ?_) (fun c_0 => absurd (by decide +kernel) c_0)
  refine lv_bipush (v := (-2)) hx hb dX11_fails_22 (by decide +kernel) ?_
  exact z_iret (v := (-2)) hx hb hr hlocks hP hD hS dX11_fails_24 rfl
set_option maxHeartbeats 4000000 in
set_option maxRecDepth 100000 in
theorem kX11_later (l : Launch) (D : va_G) (q : Nat → Nat) (cA : Nat → ClassId)  (t : Int32) (n : Int32)  : zMi l D vwCl (zMtys cA) 25 q (zMd q cA) yX11_later cX11_later 3 (some .int) ({ frames := 2, cells := 0, slots := 0, locals := 47 } : Room) [.ref (q 0), .int (t), .int (n)] (zMI0, zMR0, zMJ0) (fun r _ => r = (-2)) := by
  intro sz
  refine z_body (by decide +kernel) (Nat.le_of_ble_eq_true rfl) (fun p e s m below meth c ls hx hb hml hr ht hown hlocks hsz hK hP hD hS hl => ?_)
  have hA : ∀ a, s.heap.size ≤ a → zA 25 q sz a := fun a h => Or.inr (hsz ▸ h)
  have hl : lv_has ls 3 [(0, .ref (q 0)), (1, .int (t)), (2, .int (n))] := hl
  refine lv_aload_n hx hb dX11_later_0 rfl (lv_at hl 0 rfl) ?_
  refine lv_iload_n hx hb dX11_later_1 rfl (lv_at hl 1 rfl) ?_
  refine lv_i2l (v := (t).toInt64) hx hb dX11_later_2 rfl ?_
  refine z_callVi (k := 0) (As := [.long ((t).toInt64)]) (rest := []) hx hb hml hown ht (kX11_isThing l D q cA ((t).toInt64)) hw_6_238 hmX11_isThing ⟨rfl, rfl⟩ (na := 1) rfl (by decide +kernel) (by decide) (by decide) rfl rfl hK hP hD hS hA hl.1 rfl (Nat.le_of_ble_eq_true rfl) ⟨Nat.zero_le _, Nat.zero_le _⟩ dX11_later_3 (fun r_1 I_1 R_1 J_1 H locs hp_1 hP hD hS _ _ => ?_)
  obtain ⟨rfl, hu_1⟩ := hp_1
  cases hu_1
  refine lv_if_eq (tgt := 16) hx hb dX11_later_6 (by decide) (fun _ => ?_) (fun c_0 => absurd (by decide +kernel) c_0)
  refine lv_bipush (v := (-2)) hx hb dX11_later_16 (by decide +kernel) ?_
  exact z_iret (v := (-2)) hx hb hr hlocks hP hD hS dX11_later_18 rfl
set_option maxHeartbeats 4000000 in
set_option maxRecDepth 100000 in
theorem kX11_purse (l : Launch) (D : va_G) (q : Nat → Nat) (cA : Nat → ClassId)  (h : Int32) (n : Int32)  : zMi l D vwCl (zMtys cA) 25 q (zMd q cA) yX11_purse cX11_purse 3 (some .int) ({ frames := 2, cells := 0, slots := 0, locals := 47 } : Room) [.ref (q 0), .int (h), .int (n)] (zMI0, zMR0, zMJ0) (fun r _ => r = (-2)) := by
  intro sz
  refine z_body (by decide +kernel) (Nat.le_of_ble_eq_true rfl) (fun p e s m below meth c ls hx hb hml hr ht hown hlocks hsz hK hP hD hS hl => ?_)
  have hA : ∀ a, s.heap.size ≤ a → zA 25 q sz a := fun a h => Or.inr (hsz ▸ h)
  have hl : lv_has ls 3 [(0, .ref (q 0)), (1, .int (h)), (2, .int (n))] := hl
  refine lv_aload_n hx hb dX11_purse_0 rfl (lv_at hl 0 rfl) ?_
  refine lv_iload_n hx hb dX11_purse_1 rfl (lv_at hl 1 rfl) ?_
  refine lv_i2l (v := (h).toInt64) hx hb dX11_purse_2 rfl ?_
  refine z_callVi (k := 0) (As := [.long ((h).toInt64)]) (rest := []) hx hb hml hown ht (kX11_isHouse l D q cA ((h).toInt64)) hw_6_176 hmX11_isHouse ⟨rfl, rfl⟩ (na := 1) rfl (by decide +kernel) (by decide) (by decide) rfl rfl hK hP hD hS hA hl.1 rfl (Nat.le_of_ble_eq_true rfl) ⟨Nat.zero_le _, Nat.zero_le _⟩ dX11_purse_3 (fun r_1 I_1 R_1 J_1 H locs hp_1 hP hD hS _ _ => ?_)
  obtain ⟨rfl, hu_1⟩ := hp_1
  cases hu_1
  refine lv_if_eq (tgt := 16) hx hb dX11_purse_6 (by decide) (fun _ => ?_) (fun c_0 => absurd (by decide +kernel) c_0)
  refine lv_bipush (v := (-2)) hx hb dX11_purse_16 (by decide +kernel) ?_
  exact z_iret (v := (-2)) hx hb hr hlocks hP hD hS dX11_purse_18 rfl
set_option maxHeartbeats 4000000 in
set_option maxRecDepth 100000 in
theorem kX11_run (l : Launch) (D : va_G) (q : Nat → Nat) (cA : Nat → ClassId)    : zMi l D vwCl (zMtys cA) 25 q (zMd q cA) yX11_run cX11_run 4 (some .int) ({ frames := 1, cells := 0, slots := 0, locals := 20 } : Room) [.ref (q 0)] (zMI0, zMR0, zMJ0) (fun r _ => r = (-2)) := by
  intro sz
  refine z_body (by decide +kernel) (Nat.le_of_ble_eq_true rfl) (fun p e s m below meth c ls hx hb hml hr ht hown hlocks hsz hK hP hD hS hl => ?_)
  have hA : ∀ a, s.heap.size ≤ a → zA 25 q sz a := fun a h => Or.inr (hsz ▸ h)
  have hl : lv_has ls 4 [(0, .ref (q 0))] := hl
  refine lv_aload_n hx hb dX11_run_0 rfl (lv_at hl 0 rfl) ?_
  refine z_callVi (k := 0) (As := []) (rest := []) hx hb hml hown ht (kX11_isCity l D q cA ) hw_7_75 hmX11_isCity ⟨rfl, rfl⟩ (na := 0) rfl (by decide +kernel) (by decide) (by decide) rfl rfl hK hP hD hS hA hl.1 rfl (Nat.le_of_ble_eq_true rfl) ⟨Nat.zero_le _, Nat.zero_le _⟩ dX11_run_1 (fun r_1 I_1 R_1 J_1 H locs hp_1 hP hD hS _ _ => ?_)
  obtain ⟨rfl, hu_1⟩ := hp_1
  cases hu_1
  refine lv_if_ne (tgt := 10) hx hb dX11_run_4 (by decide) (fun c_0 => absurd c_0 (by decide +kernel)) (fun _ => ?_)
  refine lv_bipush (v := (-2)) hx hb dX11_run_7 (by decide +kernel) ?_
  exact z_iret (v := (-2)) hx hb hr hlocks hP hD hS dX11_run_9 rfl
set_option maxHeartbeats 4000000 in
set_option maxRecDepth 100000 in
theorem kX11_hit (l : Launch) (D : va_G) (q : Nat → Nat) (cA : Nat → ClassId)  (h : Int32)  : zMi l D vwCl (zMtys cA) 25 q (zMd q cA) yX11_hit cX11_hit 2 (some .int) ({ frames := 2, cells := 0, slots := 0, locals := 47 } : Room) [.ref (q 0), .int (h)] (zMI0, zMR0, zMJ0) (fun r _ => r = (-2)) := by
  intro sz
  refine z_body (by decide +kernel) (Nat.le_of_ble_eq_true rfl) (fun p e s m below meth c ls hx hb hml hr ht hown hlocks hsz hK hP hD hS hl => ?_)
  have hA : ∀ a, s.heap.size ≤ a → zA 25 q sz a := fun a h => Or.inr (hsz ▸ h)
  have hl : lv_has ls 2 [(0, .ref (q 0)), (1, .int (h))] := hl
  refine lv_aload_n hx hb dX11_hit_0 rfl (lv_at hl 0 rfl) ?_
  refine lv_iload_n hx hb dX11_hit_1 rfl (lv_at hl 1 rfl) ?_
  refine lv_i2l (v := (h).toInt64) hx hb dX11_hit_2 rfl ?_
  refine z_callVi (k := 0) (As := [.long ((h).toInt64)]) (rest := []) hx hb hml hown ht (kX11_isHouse l D q cA ((h).toInt64)) hw_6_176 hmX11_isHouse ⟨rfl, rfl⟩ (na := 1) rfl (by decide +kernel) (by decide) (by decide) rfl rfl hK hP hD hS hA hl.1 rfl (Nat.le_of_ble_eq_true rfl) ⟨Nat.zero_le _, Nat.zero_le _⟩ dX11_hit_3 (fun r_1 I_1 R_1 J_1 H locs hp_1 hP hD hS _ _ => ?_)
  obtain ⟨rfl, hu_1⟩ := hp_1
  cases hu_1
  refine lv_if_eq (tgt := 17) hx hb dX11_hit_6 (by decide) (fun _ => ?_) (fun c_0 => absurd (by decide +kernel) c_0)
  refine lv_bipush (v := (-2)) hx hb dX11_hit_17 (by decide +kernel) ?_
  exact z_iret (v := (-2)) hx hb hr hlocks hP hD hS dX11_hit_19 rfl
set_option maxHeartbeats 4000000 in
set_option maxRecDepth 100000 in
theorem kX11_hits (l : Launch) (D : va_G) (q : Nat → Nat) (cA : Nat → ClassId)  (h : Int32)  : zMi l D vwCl (zMtys cA) 25 q (zMd q cA) yX11_hits cX11_hits 2 (some .int) ({ frames := 2, cells := 0, slots := 0, locals := 47 } : Room) [.ref (q 0), .int (h)] (zMI0, zMR0, zMJ0) (fun r _ => r = (-2)) := by
  intro sz
  refine z_body (by decide +kernel) (Nat.le_of_ble_eq_true rfl) (fun p e s m below meth c ls hx hb hml hr ht hown hlocks hsz hK hP hD hS hl => ?_)
  have hA : ∀ a, s.heap.size ≤ a → zA 25 q sz a := fun a h => Or.inr (hsz ▸ h)
  have hl : lv_has ls 2 [(0, .ref (q 0)), (1, .int (h))] := hl
  refine lv_aload_n hx hb dX11_hits_0 rfl (lv_at hl 0 rfl) ?_
  refine lv_iload_n hx hb dX11_hits_1 rfl (lv_at hl 1 rfl) ?_
  refine lv_i2l (v := (h).toInt64) hx hb dX11_hits_2 rfl ?_
  refine z_callVi (k := 0) (As := [.long ((h).toInt64)]) (rest := []) hx hb hml hown ht (kX11_isHouse l D q cA ((h).toInt64)) hw_6_176 hmX11_isHouse ⟨rfl, rfl⟩ (na := 1) rfl (by decide +kernel) (by decide) (by decide) rfl rfl hK hP hD hS hA hl.1 rfl (Nat.le_of_ble_eq_true rfl) ⟨Nat.zero_le _, Nat.zero_le _⟩ dX11_hits_3 (fun r_1 I_1 R_1 J_1 H locs hp_1 hP hD hS _ _ => ?_)
  obtain ⟨rfl, hu_1⟩ := hp_1
  cases hu_1
  refine lv_if_ne (tgt := 12) hx hb dX11_hits_6 (by decide) (fun c_0 => absurd c_0 (by decide +kernel)) (fun _ => ?_)
  refine lv_bipush (v := (-2)) hx hb dX11_hits_9 (by decide +kernel) ?_
  exact z_iret (v := (-2)) hx hb hr hlocks hP hD hS dX11_hits_11 rfl
set_option maxHeartbeats 4000000 in
set_option maxRecDepth 100000 in
theorem kX11_plan (l : Launch) (D : va_G) (q : Nat → Nat) (cA : Nat → ClassId)  (h : Int32) (n : Int32)  : zMi l D vwCl (zMtys cA) 25 q (zMd q cA) yX11_plan cX11_plan 6 (some .int) ({ frames := 2, cells := 0, slots := 0, locals := 47 } : Room) [.ref (q 0), .int (h), .int (n)] (zMI0, zMR0, zMJ0) (fun r _ => r = (-2)) := by
  intro sz
  refine z_body (by decide +kernel) (Nat.le_of_ble_eq_true rfl) (fun p e s m below meth c ls hx hb hml hr ht hown hlocks hsz hK hP hD hS hl => ?_)
  have hA : ∀ a, s.heap.size ≤ a → zA 25 q sz a := fun a h => Or.inr (hsz ▸ h)
  have hl : lv_has ls 6 [(0, .ref (q 0)), (1, .int (h)), (2, .int (n))] := hl
  refine lv_aload_n hx hb dX11_plan_0 rfl (lv_at hl 0 rfl) ?_
  refine lv_iload_n hx hb dX11_plan_1 rfl (lv_at hl 1 rfl) ?_
  refine lv_i2l (v := (h).toInt64) hx hb dX11_plan_2 rfl ?_
  refine z_callVi (k := 0) (As := [.long ((h).toInt64)]) (rest := []) hx hb hml hown ht (kX11_isHouse l D q cA ((h).toInt64)) hw_6_176 hmX11_isHouse ⟨rfl, rfl⟩ (na := 1) rfl (by decide +kernel) (by decide) (by decide) rfl rfl hK hP hD hS hA hl.1 rfl (Nat.le_of_ble_eq_true rfl) ⟨Nat.zero_le _, Nat.zero_le _⟩ dX11_plan_3 (fun r_1 I_1 R_1 J_1 H locs hp_1 hP hD hS _ _ => ?_)
  obtain ⟨rfl, hu_1⟩ := hp_1
  cases hu_1
  refine lv_if_eq (tgt := 16) hx hb dX11_plan_6 (by decide) (fun _ => ?_) (fun c_0 => absurd (by decide +kernel) c_0)
  refine lv_bipush (v := (-2)) hx hb dX11_plan_16 (by decide +kernel) ?_
  exact z_iret (v := (-2)) hx hb hr hlocks hP hD hS dX11_plan_18 rfl
set_option maxHeartbeats 4000000 in
set_option maxRecDepth 100000 in
theorem kX11_plans (l : Launch) (D : va_G) (q : Nat → Nat) (cA : Nat → ClassId)  (h : Int32) (n : Int32) (i : Int32)  : zMi l D vwCl (zMtys cA) 25 q (zMd q cA) yX11_plans cX11_plans 6 (some .int) ({ frames := 2, cells := 0, slots := 0, locals := 47 } : Room) [.ref (q 0), .int (h), .int (n), .int (i)] (zMI0, zMR0, zMJ0) (fun r _ => r = (-2)) := by
  intro sz
  refine z_body (by decide +kernel) (Nat.le_of_ble_eq_true rfl) (fun p e s m below meth c ls hx hb hml hr ht hown hlocks hsz hK hP hD hS hl => ?_)
  have hA : ∀ a, s.heap.size ≤ a → zA 25 q sz a := fun a h => Or.inr (hsz ▸ h)
  have hl : lv_has ls 6 [(0, .ref (q 0)), (1, .int (h)), (2, .int (n)), (3, .int (i))] := hl
  refine lv_aload_n hx hb dX11_plans_0 rfl (lv_at hl 0 rfl) ?_
  refine lv_iload_n hx hb dX11_plans_1 rfl (lv_at hl 1 rfl) ?_
  refine lv_i2l (v := (h).toInt64) hx hb dX11_plans_2 rfl ?_
  refine z_callVi (k := 0) (As := [.long ((h).toInt64)]) (rest := []) hx hb hml hown ht (kX11_isHouse l D q cA ((h).toInt64)) hw_6_176 hmX11_isHouse ⟨rfl, rfl⟩ (na := 1) rfl (by decide +kernel) (by decide) (by decide) rfl rfl hK hP hD hS hA hl.1 rfl (Nat.le_of_ble_eq_true rfl) ⟨Nat.zero_le _, Nat.zero_le _⟩ dX11_plans_3 (fun r_1 I_1 R_1 J_1 H locs hp_1 hP hD hS _ _ => ?_)
  obtain ⟨rfl, hu_1⟩ := hp_1
  cases hu_1
  refine lv_if_eq (tgt := 16) hx hb dX11_plans_6 (by decide) (fun _ => ?_) (fun c_0 => absurd (by decide +kernel) c_0)
  refine lv_bipush (v := (-2)) hx hb dX11_plans_16 (by decide +kernel) ?_
  exact z_iret (v := (-2)) hx hb hr hlocks hP hD hS dX11_plans_18 rfl
set_option maxHeartbeats 4000000 in
set_option maxRecDepth 100000 in
theorem kX11_change (l : Launch) (D : va_G) (q : Nat → Nat) (cA : Nat → ClassId)  (h : Int32) (o : Int32)  : zMi l D vwCl (zMtys cA) 25 q (zMd q cA) yX11_change cX11_change 5 (some .int) ({ frames := 2, cells := 0, slots := 0, locals := 47 } : Room) [.ref (q 0), .int (h), .int (o)] (zMI0, zMR0, zMJ0) (fun r _ => r = (-2)) := by
  intro sz
  refine z_body (by decide +kernel) (Nat.le_of_ble_eq_true rfl) (fun p e s m below meth c ls hx hb hml hr ht hown hlocks hsz hK hP hD hS hl => ?_)
  have hA : ∀ a, s.heap.size ≤ a → zA 25 q sz a := fun a h => Or.inr (hsz ▸ h)
  have hl : lv_has ls 5 [(0, .ref (q 0)), (1, .int (h)), (2, .int (o))] := hl
  refine lv_aload_n hx hb dX11_change_0 rfl (lv_at hl 0 rfl) ?_
  refine lv_iload_n hx hb dX11_change_1 rfl (lv_at hl 1 rfl) ?_
  refine lv_i2l (v := (h).toInt64) hx hb dX11_change_2 rfl ?_
  refine z_callVi (k := 0) (As := [.long ((h).toInt64)]) (rest := []) hx hb hml hown ht (kX11_isHouse l D q cA ((h).toInt64)) hw_6_176 hmX11_isHouse ⟨rfl, rfl⟩ (na := 1) rfl (by decide +kernel) (by decide) (by decide) rfl rfl hK hP hD hS hA hl.1 rfl (Nat.le_of_ble_eq_true rfl) ⟨Nat.zero_le _, Nat.zero_le _⟩ dX11_change_3 (fun r_1 I_1 R_1 J_1 H locs hp_1 hP hD hS _ _ => ?_)
  obtain ⟨rfl, hu_1⟩ := hp_1
  cases hu_1
  refine lv_if_eq (tgt := 23) hx hb dX11_change_6 (by decide) (fun _ => ?_) (fun c_0 => absurd (by decide +kernel) c_0)
  refine lv_bipush (v := (-2)) hx hb dX11_change_23 (by decide +kernel) ?_
  exact z_iret (v := (-2)) hx hb hr hlocks hP hD hS dX11_change_25 rfl
set_option maxHeartbeats 4000000 in
set_option maxRecDepth 100000 in
theorem kX11_deal (l : Launch) (D : va_G) (q : Nat → Nat) (cA : Nat → ClassId)    : zMi l D vwCl (zMtys cA) 25 q (zMd q cA) yX11_deal cX11_deal 1 (some .int) ({ frames := 1, cells := 0, slots := 0, locals := 20 } : Room) [.ref (q 0)] (zMI0, zMR0, zMJ0) (fun r _ => r = (-2)) := by
  intro sz
  refine z_body (by decide +kernel) (Nat.le_of_ble_eq_true rfl) (fun p e s m below meth c ls hx hb hml hr ht hown hlocks hsz hK hP hD hS hl => ?_)
  have hA : ∀ a, s.heap.size ≤ a → zA 25 q sz a := fun a h => Or.inr (hsz ▸ h)
  have hl : lv_has ls 1 [(0, .ref (q 0))] := hl
  refine lv_aload_n hx hb dX11_deal_0 rfl (lv_at hl 0 rfl) ?_
  refine z_callVi (k := 0) (As := []) (rest := []) hx hb hml hown ht (kX11_isCity l D q cA ) hw_7_75 hmX11_isCity ⟨rfl, rfl⟩ (na := 0) rfl (by decide +kernel) (by decide) (by decide) rfl rfl hK hP hD hS hA hl.1 rfl (Nat.le_of_ble_eq_true rfl) ⟨Nat.zero_le _, Nat.zero_le _⟩ dX11_deal_1 (fun r_1 I_1 R_1 J_1 H locs hp_1 hP hD hS _ _ => ?_)
  obtain ⟨rfl, hu_1⟩ := hp_1
  cases hu_1
  refine lv_if_eq (tgt := 14) hx hb dX11_deal_4 (by decide) (fun _ => ?_) (fun c_0 => absurd (by decide +kernel) c_0)
  refine lv_bipush (v := (-2)) hx hb dX11_deal_14 (by decide +kernel) ?_
  exact z_iret (v := (-2)) hx hb hr hlocks hP hD hS dX11_deal_16 rfl
set_option maxHeartbeats 4000000 in
set_option maxRecDepth 100000 in
theorem kX11_deals (l : Launch) (D : va_G) (q : Nat → Nat) (cA : Nat → ClassId)  (t : Int32)  : zMi l D vwCl (zMtys cA) 25 q (zMd q cA) yX11_deals cX11_deals 6 (some .int) ({ frames := 2, cells := 0, slots := 0, locals := 47 } : Room) [.ref (q 0), .int (t)] (zMI0, zMR0, zMJ0) (fun r _ => r = (-2)) := by
  intro sz
  refine z_body (by decide +kernel) (Nat.le_of_ble_eq_true rfl) (fun p e s m below meth c ls hx hb hml hr ht hown hlocks hsz hK hP hD hS hl => ?_)
  have hA : ∀ a, s.heap.size ≤ a → zA 25 q sz a := fun a h => Or.inr (hsz ▸ h)
  have hl : lv_has ls 6 [(0, .ref (q 0)), (1, .int (t))] := hl
  refine lv_aload_n hx hb dX11_deals_0 rfl (lv_at hl 0 rfl) ?_
  refine lv_iload_n hx hb dX11_deals_1 rfl (lv_at hl 1 rfl) ?_
  refine lv_i2l (v := (t).toInt64) hx hb dX11_deals_2 rfl ?_
  refine z_callVi (k := 0) (As := [.long ((t).toInt64)]) (rest := []) hx hb hml hown ht (kX11_isThing l D q cA ((t).toInt64)) hw_6_238 hmX11_isThing ⟨rfl, rfl⟩ (na := 1) rfl (by decide +kernel) (by decide) (by decide) rfl rfl hK hP hD hS hA hl.1 rfl (Nat.le_of_ble_eq_true rfl) ⟨Nat.zero_le _, Nat.zero_le _⟩ dX11_deals_3 (fun r_1 I_1 R_1 J_1 H locs hp_1 hP hD hS _ _ => ?_)
  obtain ⟨rfl, hu_1⟩ := hp_1
  cases hu_1
  refine lv_if_ne (tgt := 12) hx hb dX11_deals_6 (by decide) (fun c_0 => absurd c_0 (by decide +kernel)) (fun _ => ?_)
  refine lv_bipush (v := (-2)) hx hb dX11_deals_9 (by decide +kernel) ?_
  exact z_iret (v := (-2)) hx hb hr hlocks hP hD hS dX11_deals_11 rfl
set_option maxHeartbeats 4000000 in
set_option maxRecDepth 100000 in
theorem kX11_dear (l : Launch) (D : va_G) (q : Nat → Nat) (cA : Nat → ClassId)    : zMi l D vwCl (zMtys cA) 25 q (zMd q cA) yX11_dear cX11_dear 2 (some .int) ({ frames := 1, cells := 0, slots := 0, locals := 20 } : Room) [.ref (q 0)] (zMI0, zMR0, zMJ0) (fun r _ => r = (-2)) := by
  intro sz
  refine z_body (by decide +kernel) (Nat.le_of_ble_eq_true rfl) (fun p e s m below meth c ls hx hb hml hr ht hown hlocks hsz hK hP hD hS hl => ?_)
  have hA : ∀ a, s.heap.size ≤ a → zA 25 q sz a := fun a h => Or.inr (hsz ▸ h)
  have hl : lv_has ls 2 [(0, .ref (q 0))] := hl
  refine lv_aload_n hx hb dX11_dear_0 rfl (lv_at hl 0 rfl) ?_
  refine z_callVi (k := 0) (As := []) (rest := []) hx hb hml hown ht (kX11_isCity l D q cA ) hw_7_75 hmX11_isCity ⟨rfl, rfl⟩ (na := 0) rfl (by decide +kernel) (by decide) (by decide) rfl rfl hK hP hD hS hA hl.1 rfl (Nat.le_of_ble_eq_true rfl) ⟨Nat.zero_le _, Nat.zero_le _⟩ dX11_dear_1 (fun r_1 I_1 R_1 J_1 H locs hp_1 hP hD hS _ _ => ?_)
  obtain ⟨rfl, hu_1⟩ := hp_1
  cases hu_1
  refine lv_if_ne (tgt := 10) hx hb dX11_dear_4 (by decide) (fun c_0 => absurd c_0 (by decide +kernel)) (fun _ => ?_)
  refine lv_bipush (v := (-2)) hx hb dX11_dear_7 (by decide +kernel) ?_
  exact z_iret (v := (-2)) hx hb hr hlocks hP hD hS dX11_dear_9 rfl
set_option maxHeartbeats 4000000 in
set_option maxRecDepth 100000 in
theorem kX11_rate (l : Launch) (D : va_G) (q : Nat → Nat) (cA : Nat → ClassId)  (t : Int32) (n : Int32)  : zMi l D vwCl (zMtys cA) 25 q (zMd q cA) yX11_rate cX11_rate 3 (some .int) ({ frames := 2, cells := 0, slots := 0, locals := 47 } : Room) [.ref (q 0), .int (t), .int (n)] (zMI0, zMR0, zMJ0) (fun r _ => r = (-2)) := by
  intro sz
  refine z_body (by decide +kernel) (Nat.le_of_ble_eq_true rfl) (fun p e s m below meth c ls hx hb hml hr ht hown hlocks hsz hK hP hD hS hl => ?_)
  have hA : ∀ a, s.heap.size ≤ a → zA 25 q sz a := fun a h => Or.inr (hsz ▸ h)
  have hl : lv_has ls 3 [(0, .ref (q 0)), (1, .int (t)), (2, .int (n))] := hl
  refine lv_aload_n hx hb dX11_rate_0 rfl (lv_at hl 0 rfl) ?_
  refine lv_iload_n hx hb dX11_rate_1 rfl (lv_at hl 1 rfl) ?_
  refine lv_i2l (v := (t).toInt64) hx hb dX11_rate_2 rfl ?_
  refine z_callVi (k := 0) (As := [.long ((t).toInt64)]) (rest := []) hx hb hml hown ht (kX11_isThing l D q cA ((t).toInt64)) hw_6_238 hmX11_isThing ⟨rfl, rfl⟩ (na := 1) rfl (by decide +kernel) (by decide) (by decide) rfl rfl hK hP hD hS hA hl.1 rfl (Nat.le_of_ble_eq_true rfl) ⟨Nat.zero_le _, Nat.zero_le _⟩ dX11_rate_3 (fun r_1 I_1 R_1 J_1 H locs hp_1 hP hD hS _ _ => ?_)
  obtain ⟨rfl, hu_1⟩ := hp_1
  cases hu_1
  refine lv_if_eq (tgt := 37) hx hb dX11_rate_6 (by decide) (fun _ => ?_) (fun c_0 => absurd (by decide +kernel) c_0)
  refine lv_bipush (v := (-2)) hx hb dX11_rate_37 (by decide +kernel) ?_
  exact z_iret (v := (-2)) hx hb hr hlocks hP hD hS dX11_rate_39 rfl
set_option maxHeartbeats 4000000 in
set_option maxRecDepth 100000 in
theorem kX11_want (l : Launch) (D : va_G) (q : Nat → Nat) (cA : Nat → ClassId)  (h : Int32) (t : Int32) (n : Int32)  : zMi l D vwCl (zMtys cA) 25 q (zMd q cA) yX11_want cX11_want 4 (some .int) ({ frames := 2, cells := 0, slots := 0, locals := 47 } : Room) [.ref (q 0), .int (h), .int (t), .int (n)] (zMI0, zMR0, zMJ0) (fun r _ => r = (-2)) := by
  intro sz
  refine z_body (by decide +kernel) (Nat.le_of_ble_eq_true rfl) (fun p e s m below meth c ls hx hb hml hr ht hown hlocks hsz hK hP hD hS hl => ?_)
  have hA : ∀ a, s.heap.size ≤ a → zA 25 q sz a := fun a h => Or.inr (hsz ▸ h)
  have hl : lv_has ls 4 [(0, .ref (q 0)), (1, .int (h)), (2, .int (t)), (3, .int (n))] := hl
  refine lv_aload_n hx hb dX11_want_0 rfl (lv_at hl 0 rfl) ?_
  refine lv_iload_n hx hb dX11_want_1 rfl (lv_at hl 1 rfl) ?_
  refine lv_i2l (v := (h).toInt64) hx hb dX11_want_2 rfl ?_
  refine z_callVi (k := 0) (As := [.long ((h).toInt64)]) (rest := []) hx hb hml hown ht (kX11_isHouse l D q cA ((h).toInt64)) hw_6_176 hmX11_isHouse ⟨rfl, rfl⟩ (na := 1) rfl (by decide +kernel) (by decide) (by decide) rfl rfl hK hP hD hS hA hl.1 rfl (Nat.le_of_ble_eq_true rfl) ⟨Nat.zero_le _, Nat.zero_le _⟩ dX11_want_3 (fun r_1 I_1 R_1 J_1 H locs hp_1 hP hD hS _ _ => ?_)
  obtain ⟨rfl, hu_1⟩ := hp_1
  cases hu_1
  refine lv_if_eq (tgt := 47) hx hb dX11_want_6 (by decide) (fun _ => ?_) (fun c_0 => absurd (by decide +kernel) c_0)
  refine lv_bipush (v := (-2)) hx hb dX11_want_47 (by decide +kernel) ?_
  exact z_iret (v := (-2)) hx hb hr hlocks hP hD hS dX11_want_49 rfl
set_option maxHeartbeats 4000000 in
set_option maxRecDepth 100000 in
theorem kX10_hasCity (l : Launch) (D : va_G) (q : Nat → Nat) (cA : Nat → ClassId)    : zMi l D vwCl (zXtys cA) 81 q (zXd q cA) yX10_hasCity cX10_hasCity 1 (some .boolean) ({ frames := 0, cells := 0, slots := 0, locals := 0 } : Room) [.ref (q 0)] (zXI0, zXR0, zXJ0) (fun r u => r = nI 0 ∧ u = (zXI0, zXR0, zXJ0)) := by
  intro sz
  refine z_body (by decide +kernel) (Nat.le_of_ble_eq_true rfl) (fun p e s m below meth c ls hx hb hml hr ht hown hlocks hsz hK hP hD hS hl => ?_)
  have hA : ∀ a, s.heap.size ≤ a → zA 81 q sz a := fun a h => Or.inr (hsz ▸ h)
  have hl : lv_has ls 1 [(0, .ref (q 0))] := hl
  refine lv_aload_n hx hb dX10_hasCity_0 rfl (lv_at hl 0 rfl) ?_
  refine z_get hx hb ht hown hK hP ziX10 rfl 0 (by decide) 1 (by decide) hw_2_94 rfl (v := .ref (q 3)) rfl dX10_hasCity_1 ?_
  refine z_get hx hb ht hown hK hP ziX2 rfl 3 (by decide) 0 (by decide) hw_1_68 rfl (v := .int (nI 0)) rfl dX10_hasCity_4 ?_
  refine lv_if_le (tgt := 14) hx hb dX10_hasCity_7 (by decide) (fun _ => ?_) (fun c_0 => absurd (by decide +kernel) c_0)
  refine lv_iconst (v := nI 0) hx hb dX10_hasCity_14 (by decide +kernel) ?_
  exact z_zret (v := nI 0) hx hb hr hlocks hP hD hS (by decide +kernel) dX10_hasCity_15 ⟨rfl, rfl⟩
set_option maxHeartbeats 4000000 in
set_option maxRecDepth 100000 in
theorem kX10_isHouse (l : Launch) (D : va_G) (q : Nat → Nat) (cA : Nat → ClassId)  (h : Int32)  : zMi l D vwCl (zXtys cA) 81 q (zXd q cA) yX10_isHouse cX10_isHouse 2 (some .boolean) ({ frames := 0, cells := 0, slots := 0, locals := 0 } : Room) [.ref (q 0), .int (h)] (zXI0, zXR0, zXJ0) (fun r u => r = nI 0 ∧ u = (zXI0, zXR0, zXJ0)) := by
  intro sz
  refine z_body (by decide +kernel) (Nat.le_of_ble_eq_true rfl) (fun p e s m below meth c ls hx hb hml hr ht hown hlocks hsz hK hP hD hS hl => ?_)
  have hA : ∀ a, s.heap.size ≤ a → zA 81 q sz a := fun a h => Or.inr (hsz ▸ h)
  have hl : lv_has ls 2 [(0, .ref (q 0)), (1, .int (h))] := hl
  refine lv_iload_n hx hb dX10_isHouse_0 rfl (lv_at hl 1 rfl) ?_
  refine lv_if_lt (tgt := 19) hx hb dX10_isHouse_1 (by decide) (fun c_1 => ?_) (fun c_1 => ?_)
  · have kc_1_1 : (nI 0 : Int32).toInt = 0 := by decide +kernel
    have kc_1_2 : (0 : Int32).toInt = 0 := by decide +kernel
    have t_c_1 := z_ltT c_1
    refine lv_iconst (v := nI 0) hx hb dX10_isHouse_19 (by decide +kernel) ?_
    exact z_zret (v := nI 0) hx hb hr hlocks hP hD hS (by decide +kernel) dX10_isHouse_20 ⟨rfl, rfl⟩
  · have kc_1_1 : (nI 0 : Int32).toInt = 0 := by decide +kernel
    have kc_1_2 : (0 : Int32).toInt = 0 := by decide +kernel
    have t_c_1 := z_ltF c_1
    refine lv_iload_n hx hb dX10_isHouse_4 rfl (lv_at hl 1 rfl) ?_
    refine lv_aload_n hx hb dX10_isHouse_5 rfl (lv_at hl 0 rfl) ?_
    refine z_get hx hb ht hown hK hP ziX10 rfl 0 (by decide) 1 (by decide) hw_2_94 rfl (v := .ref (q 3)) rfl dX10_isHouse_6 ?_
    refine z_get hx hb ht hown hK hP ziX2 rfl 3 (by decide) 4 (by decide) hw_1_85 rfl (v := .int (nI 0)) rfl dX10_isHouse_9 ?_
    refine lv_icmp_ge (tgt := 19) hx hb dX10_isHouse_12 (by decide) (fun c_2 => ?_) (fun c_2 => ?_)
    · have kc_2_1 : (nI 0 : Int32).toInt = 0 := by decide +kernel
      have kc_2_2 : (0 : Int32).toInt = 0 := by decide +kernel
      have t_c_2 := z_leT c_2
      refine lv_iconst (v := nI 0) hx hb dX10_isHouse_19 (by decide +kernel) ?_
      exact z_zret (v := nI 0) hx hb hr hlocks hP hD hS (by decide +kernel) dX10_isHouse_20 ⟨rfl, rfl⟩
    · have kc_2_1 : (nI 0 : Int32).toInt = 0 := by decide +kernel
      have kc_2_2 : (0 : Int32).toInt = 0 := by decide +kernel
      have t_c_2 := z_leF c_2
      refine lv_iconst (v := nI 1) hx hb dX10_isHouse_15 (by decide +kernel) ?_
      refine lv_goto (tgt := 20) hx hb dX10_isHouse_16 (by decide) ?_
      exact z_zret (v := nI 1) hx hb hr hlocks hP hD hS (by decide +kernel) dX10_isHouse_20 (by exfalso; omega)
