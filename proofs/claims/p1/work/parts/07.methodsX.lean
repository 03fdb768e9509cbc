set_option maxHeartbeats 4000000 in
set_option maxRecDepth 100000 in
theorem kX10_hasCity (l : Launch) (D : va_G) (q : Nat → Nat) (cA : Nat → ClassId)    : zMi l D vwCl (zXtys cA) 81 q (zXd q cA) yX10_hasCity cX10_hasCity 1 (some .boolean) ({ frames := 0, cells := 0, slots := 0, locals := 0 } : Room) [.ref (q 0)] (zXI0, zXR0, zXJ0) (fun r u => r = nI 0 ∧ u = (zXI0, zXR0, zXJ0)) := by
  intro sz
  refine z_body (by decide +kernel) (Nat.le_of_ble_eq_true rfl) (fun p e s m below meth c ls hx hb hml hr ht hown hlocks hsz hK hP hD hS hl => ?_)
  have hA : ∀ a, s.heap.size ≤ a → zA 81 q sz a := fun a h => Or.inr (hsz ▸ h)
  have hl : lv_has ls 1 [(0, .ref (q 0))] := hl
  refine lv_aload_n hx hb dX10_hasCity_0 rfl (lv_at hl 0 rfl) ?_
  refine z_get hx hb ht hown hK hP ziX10 rfl 0 (by decide) 1 (by decide) hw_2_94 rfl (v := .ref (q 3)) rfl dX10_hasCity_1 ?_
  refine z_get hx hb ht hown hK hP ziX2 rfl 3 (by decide) 0 (by decide) hw_1_68 rfl (v := .int (nI 0)) rfl dX10_hasCity_4 ?_
  refine lv_if_le (tgt := 14) hx hb dX10_hasCity_7 (by decide) (fun _ => ?_) (fun c_0 => absurd (by decide +kernel) c_0)
  refine lv_iconst (v := nI 0) hx hb dX10_hasCity_14 (by decide +kernel) ?_
  exact z_zret (v := nI 0) hx hb hr hlocks hP hD hS (by decide +kernel) dX10_hasCity_15 ⟨rfl, rfl⟩
set_option maxHeartbeats 4000000 in
set_option maxRecDepth 100000 in
theorem kX10_isHouse (l : Launch) (D : va_G) (q : Nat → Nat) (cA : Nat → ClassId)  (h : Int32)  : zMi l D vwCl (zXtys cA) 81 q (zXd q cA) yX10_isHouse cX10_isHouse 2 (some .boolean) ({ frames := 0, cells := 0, slots := 0, locals := 0 } : Room) [.ref (q 0), .int (h)] (zXI0, zXR0, zXJ0) (fun r u => r = nI 0 ∧ u = (zXI0, zXR0, zXJ0)) := by
  intro sz
  refine z_body (by decide +kernel) (Nat.le_of_ble_eq_true rfl) (fun p e s m below meth c ls hx hb hml hr ht hown hlocks hsz hK hP hD hS hl => ?_)
  have hA : ∀ a, s.heap.size ≤ a → zA 81 q sz a := fun a h => Or.inr (hsz ▸ h)
  have hl : lv_has ls 2 [(0, .ref (q 0)), (1, .int (h))] := hl
  refine lv_iload_n hx hb dX10_isHouse_0 rfl (lv_at hl 1 rfl) ?_
  refine lv_if_lt (tgt := 19) hx hb dX10_isHouse_1 (by decide) (fun c_1 => ?_) (fun c_1 => ?_)
  · have kc_1_1 : (nI 0 : Int32).toInt = 0 := by decide +kernel
    have kc_1_2 : (0 : Int32).toInt = 0 := by decide +kernel
    have t_c_1 := z_ltT c_1
    refine lv_iconst (v := nI 0) hx hb dX10_isHouse_19 (by decide +kernel) ?_
    exact z_zret (v := nI 0) hx hb hr hlocks hP hD hS (by decide +kernel) dX10_isHouse_20 ⟨rfl, rfl⟩
  · have kc_1_1 : (nI 0 : Int32).toInt = 0 := by decide +kernel
    have kc_1_2 : (0 : Int32).toInt = 0 := by decide +kernel
    have t_c_1 := z_ltF c_1
    refine lv_iload_n hx hb dX10_isHouse_4 rfl (lv_at hl 1 rfl) ?_
    refine lv_aload_n hx hb dX10_isHouse_5 rfl (lv_at hl 0 rfl) ?_
    refine z_get hx hb ht hown hK hP ziX10 rfl 0 (by decide) 1 (by decide) hw_2_94 rfl (v := .ref (q 3)) rfl dX10_isHouse_6 ?_
    refine z_get hx hb ht hown hK hP ziX2 rfl 3 (by decide) 4 (by decide) hw_1_85 rfl (v := .int (nI 0)) rfl dX10_isHouse_9 ?_
    refine lv_icmp_ge (tgt := 19) hx hb dX10_isHouse_12 (by decide) (fun c_2 => ?_) (fun c_2 => ?_)
    · have kc_2_1 : (nI 0 : Int32).toInt = 0 := by decide +kernel
      have kc_2_2 : (0 : Int32).toInt = 0 := by decide +kernel
      have t_c_2 := z_leT c_2
      refine lv_iconst (v := nI 0) hx hb dX10_isHouse_19 (by decide +kernel) ?_
      exact z_zret (v := nI 0) hx hb hr hlocks hP hD hS (by decide +kernel) dX10_isHouse_20 ⟨rfl, rfl⟩
    · have kc_2_1 : (nI 0 : Int32).toInt = 0 := by decide +kernel
      have kc_2_2 : (0 : Int32).toInt = 0 := by decide +kernel
      have t_c_2 := z_leF c_2
      refine lv_iconst (v := nI 1) hx hb dX10_isHouse_15 (by decide +kernel) ?_
      refine lv_goto (tgt := 20) hx hb dX10_isHouse_16 (by decide) ?_
      exact z_zret (v := nI 1) hx hb hr hlocks hP hD hS (by decide +kernel) dX10_isHouse_20 (by exfalso; omega)
set_option maxHeartbeats 4000000 in
set_option maxRecDepth 100000 in
theorem kX10_isThing (l : Launch) (D : va_G) (q : Nat → Nat) (cA : Nat → ClassId)  (h : Int32)  : zMi l D vwCl (zXtys cA) 81 q (zXd q cA) yX10_isThing cX10_isThing 2 (some .boolean) ({ frames := 0, cells := 0, slots := 0, locals := 0 } : Room) [.ref (q 0), .int (h)] (zXI0, zXR0, zXJ0) (fun r u => r = nI 0 ∧ u = (zXI0, zXR0, zXJ0)) := by
  intro sz
  refine z_body (by decide +kernel) (Nat.le_of_ble_eq_true rfl) (fun p e s m below meth c ls hx hb hml hr ht hown hlocks hsz hK hP hD hS hl => ?_)
  have hA : ∀ a, s.heap.size ≤ a → zA 81 q sz a := fun a h => Or.inr (hsz ▸ h)
  have hl : lv_has ls 2 [(0, .ref (q 0)), (1, .int (h))] := hl
  refine lv_iload_n hx hb dX10_isThing_0 rfl (lv_at hl 1 rfl) ?_
  refine lv_if_lt (tgt := 19) hx hb dX10_isThing_1 (by decide) (fun c_1 => ?_) (fun c_1 => ?_)
  · have kc_1_1 : (nI 0 : Int32).toInt = 0 := by decide +kernel
    have kc_1_2 : (0 : Int32).toInt = 0 := by decide +kernel
    have t_c_1 := z_ltT c_1
    refine lv_iconst (v := nI 0) hx hb dX10_isThing_19 (by decide +kernel) ?_
    exact z_zret (v := nI 0) hx hb hr hlocks hP hD hS (by decide +kernel) dX10_isThing_20 ⟨rfl, rfl⟩
  · have kc_1_1 : (nI 0 : Int32).toInt = 0 := by decide +kernel
    have kc_1_2 : (0 : Int32).toInt = 0 := by decide +kernel
    have t_c_1 := z_ltF c_1
    refine lv_iload_n hx hb dX10_isThing_4 rfl (lv_at hl 1 rfl) ?_
    refine lv_aload_n hx hb dX10_isThing_5 rfl (lv_at hl 0 rfl) ?_
    refine z_get hx hb ht hown hK hP ziX10 rfl 0 (by decide) 1 (by decide) hw_2_94 rfl (v := .ref (q 3)) rfl dX10_isThing_6 ?_
    refine z_get hx hb ht hown hK hP ziX2 rfl 3 (by decide) 5 (by decide) hw_1_93 rfl (v := .int (nI 0)) rfl dX10_isThing_9 ?_
    refine lv_icmp_ge (tgt := 19) hx hb dX10_isThing_12 (by decide) (fun c_2 => ?_) (fun c_2 => ?_)
    · have kc_2_1 : (nI 0 : Int32).toInt = 0 := by decide +kernel
      have kc_2_2 : (0 : Int32).toInt = 0 := by decide +kernel
      have t_c_2 := z_leT c_2
      refine lv_iconst (v := nI 0) hx hb dX10_isThing_19 (by decide +kernel) ?_
      exact z_zret (v := nI 0) hx hb hr hlocks hP hD hS (by decide +kernel) dX10_isThing_20 ⟨rfl, rfl⟩
    · have kc_2_1 : (nI 0 : Int32).toInt = 0 := by decide +kernel
      have kc_2_2 : (0 : Int32).toInt = 0 := by decide +kernel
      have t_c_2 := z_leF c_2
      refine lv_iconst (v := nI 1) hx hb dX10_isThing_15 (by decide +kernel) ?_
      refine lv_goto (tgt := 20) hx hb dX10_isThing_16 (by decide) ?_
      exact z_zret (v := nI 1) hx hb hr hlocks hP hD hS (by decide +kernel) dX10_isThing_20 (by exfalso; omega)
set_option maxHeartbeats 4000000 in
set_option maxRecDepth 100000 in
theorem kX10_isPaper (l : Launch) (D : va_G) (q : Nat → Nat) (cA : Nat → ClassId)  (h : Int32)  : zMi l D vwCl (zXtys cA) 81 q (zXd q cA) yX10_isPaper cX10_isPaper 2 (some .boolean) ({ frames := 0, cells := 0, slots := 0, locals := 0 } : Room) [.ref (q 0), .int (h)] (zXI0, zXR0, zXJ0) (fun r u => r = nI 0 ∧ u = (zXI0, zXR0, zXJ0)) := by
  intro sz
  refine z_body (by decide +kernel) (Nat.le_of_ble_eq_true rfl) (fun p e s m below meth c ls hx hb hml hr ht hown hlocks hsz hK hP hD hS hl => ?_)
  have hA : ∀ a, s.heap.size ≤ a → zA 81 q sz a := fun a h => Or.inr (hsz ▸ h)
  have hl : lv_has ls 2 [(0, .ref (q 0)), (1, .int (h))] := hl
  refine lv_iload_n hx hb dX10_isPaper_0 rfl (lv_at hl 1 rfl) ?_
  refine lv_if_lt (tgt := 19) hx hb dX10_isPaper_1 (by decide) (fun c_1 => ?_) (fun c_1 => ?_)
  · have kc_1_1 : (nI 0 : Int32).toInt = 0 := by decide +kernel
    have kc_1_2 : (0 : Int32).toInt = 0 := by decide +kernel
    have t_c_1 := z_ltT c_1
    refine lv_iconst (v := nI 0) hx hb dX10_isPaper_19 (by decide +kernel) ?_
    exact z_zret (v := nI 0) hx hb hr hlocks hP hD hS (by decide +kernel) dX10_isPaper_20 ⟨rfl, rfl⟩
  · have kc_1_1 : (nI 0 : Int32).toInt = 0 := by decide +kernel
    have kc_1_2 : (0 : Int32).toInt = 0 := by decide +kernel
    have t_c_1 := z_ltF c_1
    refine lv_iload_n hx hb dX10_isPaper_4 rfl (lv_at hl 1 rfl) ?_
    refine lv_aload_n hx hb dX10_isPaper_5 rfl (lv_at hl 0 rfl) ?_
    refine z_get hx hb ht hown hK hP ziX10 rfl 0 (by decide) 4 (by decide) hw_2_97 rfl (v := .ref (q 15)) rfl dX10_isPaper_6 ?_
    refine z_get hx hb ht hown hK hP ziX9 rfl 15 (by decide) 2 (by decide) hw_1_162 rfl (v := .int (nI 0)) rfl dX10_isPaper_9 ?_
    refine lv_icmp_ge (tgt := 19) hx hb dX10_isPaper_12 (by decide) (fun c_2 => ?_) (fun c_2 => ?_)
    · have kc_2_1 : (nI 0 : Int32).toInt = 0 := by decide +kernel
      have kc_2_2 : (0 : Int32).toInt = 0 := by decide +kernel
      have t_c_2 := z_leT c_2
      refine lv_iconst (v := nI 0) hx hb dX10_isPaper_19 (by decide +kernel) ?_
      exact z_zret (v := nI 0) hx hb hr hlocks hP hD hS (by decide +kernel) dX10_isPaper_20 ⟨rfl, rfl⟩
    · have kc_2_1 : (nI 0 : Int32).toInt = 0 := by decide +kernel
      have kc_2_2 : (0 : Int32).toInt = 0 := by decide +kernel
      have t_c_2 := z_leF c_2
      refine lv_iconst (v := nI 1) hx hb dX10_isPaper_15 (by decide +kernel) ?_
      refine lv_goto (tgt := 20) hx hb dX10_isPaper_16 (by decide) ?_
      exact z_zret (v := nI 1) hx hb hr hlocks hP hD hS (by decide +kernel) dX10_isPaper_20 (by exfalso; omega)
set_option maxHeartbeats 4000000 in
set_option maxRecDepth 100000 in
theorem kX10_isSlot (l : Launch) (D : va_G) (q : Nat → Nat) (cA : Nat → ClassId) (I R : Nat → Nat → Int32) (J : Nat → Nat → Int64) (x : Int32)  : zMi l D vwCl (zXtys cA) 81 q (zXd q cA) yX10_isSlot cX10_isSlot 1 (some .boolean) ({ frames := 0, cells := 0, slots := 0, locals := 0 } : Room) [.int (x)] (I, R, J) (fun r u => (r = nI 1 ∧ u = (I, R, J) ∧ 0 ≤ x.toInt ∧ x.toInt ≤ 3) ∨ (r = nI 0 ∧ u = (I, R, J) ∧ (x.toInt < 0 ∨ 3 < x.toInt))) := by
  intro sz
  refine z_body (by decide +kernel) (Nat.le_of_ble_eq_true rfl) (fun p e s m below meth c ls hx hb hml hr ht hown hlocks hsz hK hP hD hS hl => ?_)
  have hA : ∀ a, s.heap.size ≤ a → zA 81 q sz a := fun a h => Or.inr (hsz ▸ h)
  have hl : lv_has ls 1 [(0, .int (x))] := hl
  refine lv_iload_n hx hb dX10_isSlot_0 rfl (lv_at hl 0 rfl) ?_
  refine lv_if_lt (tgt := 13) hx hb dX10_isSlot_1 (by decide) (fun c_1 => ?_) (fun c_1 => ?_)
  · have kc_1_1 : (nI 0 : Int32).toInt = 0 := by decide +kernel
    have kc_1_2 : (0 : Int32).toInt = 0 := by decide +kernel
    have t_c_1 := z_ltT c_1
    refine lv_iconst (v := nI 0) hx hb dX10_isSlot_13 (by decide +kernel) ?_
    exact z_zret (v := nI 0) hx hb hr hlocks hP hD hS (by decide +kernel) dX10_isSlot_14 (Or.inr ⟨rfl, rfl, by omega⟩)
  · have kc_1_1 : (nI 0 : Int32).toInt = 0 := by decide +kernel
    have kc_1_2 : (0 : Int32).toInt = 0 := by decide +kernel
    have t_c_1 := z_ltF c_1
    refine lv_iload_n hx hb dX10_isSlot_4 rfl (lv_at hl 0 rfl) ?_
    refine lv_iconst (v := nI 4) hx hb dX10_isSlot_5 (by decide +kernel) ?_
    refine lv_icmp_ge (tgt := 13) hx hb dX10_isSlot_6 (by decide) (fun c_2 => ?_) (fun c_2 => ?_)
    · have kc_2_1 : (nI 4 : Int32).toInt = 4 := by decide +kernel
      have t_c_2 := z_leT c_2
      refine lv_iconst (v := nI 0) hx hb dX10_isSlot_13 (by decide +kernel) ?_
      exact z_zret (v := nI 0) hx hb hr hlocks hP hD hS (by decide +kernel) dX10_isSlot_14 (Or.inr ⟨rfl, rfl, by omega⟩)
    · have kc_2_1 : (nI 4 : Int32).toInt = 4 := by decide +kernel
      have t_c_2 := z_leF c_2
      refine lv_iconst (v := nI 1) hx hb dX10_isSlot_9 (by decide +kernel) ?_
      refine lv_goto (tgt := 14) hx hb dX10_isSlot_10 (by decide) ?_
      exact z_zret (v := nI 1) hx hb hr hlocks hP hD hS (by decide +kernel) dX10_isSlot_14 (Or.inl ⟨rfl, rfl, by omega, by omega⟩)
set_option maxHeartbeats 4000000 in
set_option maxRecDepth 100000 in
theorem kX10_look (l : Launch) (D : va_G) (q : Nat → Nat) (cA : Nat → ClassId)  (x : Int32)  : zMi l D vwCl (zXtys cA) 81 q (zXd q cA) yX10_look cX10_look 3 (some .int) ({ frames := 1, cells := 0, slots := 0, locals := 20 } : Room) [.ref (q 0), .int (x)] (zXI0, zXR0, zXJ0) (fun r u => r = (-2) ∧ u = (zXI0, zXR0, zXJ0)) := by
  intro sz
  refine z_body (by decide +kernel) (Nat.le_of_ble_eq_true rfl) (fun p e s m below meth c ls hx hb hml hr ht hown hlocks hsz hK hP hD hS hl => ?_)
  have hA : ∀ a, s.heap.size ≤ a → zA 81 q sz a := fun a h => Or.inr (hsz ▸ h)
  have hl : lv_has ls 3 [(0, .ref (q 0)), (1, .int (x))] := hl
  refine lv_iload_n hx hb dX10_look_0 rfl (lv_at hl 1 rfl) ?_
  refine z_callSi (As := [.int (x)]) (rest := []) hx hb hml hown ht (kX10_isSlot l D q cA _ _ _ (x)) hw_5_60 hmX10_isSlot ⟨rfl, rfl⟩ (na := 1) rfl (by decide +kernel) (by decide) hK hP hD hS hA hl.1 rfl (Nat.le_of_ble_eq_true rfl) ⟨Nat.zero_le _, Nat.zero_le _⟩ dX10_look_1 (fun r_1 I_1 R_1 J_1 H locs hp_1 hP hD hS _ _ => ?_)
  rcases hp_1 with ⟨rfl, hu_1, h1_1, h2_1⟩ | ⟨rfl, hu_1, h1_1⟩
  · cases hu_1
    refine lv_if_eq (tgt := 14) hx hb dX10_look_4 (by decide) (fun c_0 => absurd c_0 (by decide +kernel)) (fun _ => ?_)
    refine lv_aload_n hx hb dX10_look_7 rfl (lv_at hl 0 rfl) ?_
    refine z_callVi (k := 0) (As := []) (rest := []) hx hb hml hown ht (kX10_hasCity l D q cA ) hw_4_0 hmX10_hasCity ⟨rfl, rfl⟩ (na := 0) rfl (by decide +kernel) (by decide) (by decide) rfl rfl hK hP hD hS hA hl.1 rfl (Nat.le_of_ble_eq_true rfl) ⟨Nat.zero_le _, Nat.zero_le _⟩ dX10_look_8 (fun r_2 I_2 R_2 J_2 H locs hp_2 hP hD hS _ _ => ?_)
    obtain ⟨rfl, hu_2⟩ := hp_2
    cases hu_2
    refine lv_if_ne (tgt := 17) hx hb dX10_look_11 (by decide) (fun c_0 => absurd (by decide +kernel) c_0) (fun _ => ?_)
    refine lv_bipush (v := (-2)) hx hb dX10_look_14 (by decide +kernel) ?_
    exact z_iret (v := (-2)) hx hb hr hlocks hP hD hS dX10_look_16 ⟨rfl, rfl⟩
  · cases hu_1
    refine lv_if_eq (tgt := 14) hx hb dX10_look_4 (by decide) (fun _ => ?_) (fun c_0 => absurd (by decide +kernel) c_0)
    refine lv_bipush (v := (-2)) hx hb dX10_look_14 (by decide +kernel) ?_
    exact z_iret (v := (-2)) hx hb hr hlocks hP hD hS dX10_look_16 ⟨rfl, rfl⟩
set_option maxHeartbeats 4000000 in
set_option maxRecDepth 100000 in
theorem kX10_house (l : Launch) (D : va_G) (q : Nat → Nat) (cA : Nat → ClassId)  (h : Int32) (w : Int32)  : zMi l D vwCl (zXtys cA) 81 q (zXd q cA) yX10_house cX10_house 3 (some .int) ({ frames := 1, cells := 0, slots := 0, locals := 21 } : Room) [.ref (q 0), .int (h), .int (w)] (zXI0, zXR0, zXJ0) (fun r _ => r = (-2)) := by
  intro sz
  refine z_body (by decide +kernel) (Nat.le_of_ble_eq_true rfl) (fun p e s m below meth c ls hx hb hml hr ht hown hlocks hsz hK hP hD hS hl => ?_)
  have hA : ∀ a, s.heap.size ≤ a → zA 81 q sz a := fun a h => Or.inr (hsz ▸ h)
  have hl : lv_has ls 3 [(0, .ref (q 0)), (1, .int (h)), (2, .int (w))] := hl
  refine lv_aload_n hx hb dX10_house_0 rfl (lv_at hl 0 rfl) ?_
  refine lv_iload_n hx hb dX10_house_1 rfl (lv_at hl 1 rfl) ?_
  refine z_callVi (k := 0) (As := [.int (h)]) (rest := []) hx hb hml hown ht (kX10_isHouse l D q cA (h)) hw_3_59 hmX10_isHouse ⟨rfl, rfl⟩ (na := 1) rfl (by decide +kernel) (by decide) (by decide) rfl rfl hK hP hD hS hA hl.1 rfl (Nat.le_of_ble_eq_true rfl) ⟨Nat.zero_le _, Nat.zero_le _⟩ dX10_house_2 (fun r_1 I_1 R_1 J_1 H locs hp_1 hP hD hS _ _ => ?_)
  obtain ⟨rfl, hu_1⟩ := hp_1
  cases hu_1
  refine lv_if_ne (tgt := 11) hx hb dX10_house_5 (by decide) (fun c_0 => absurd (by decide +kernel) c_0) (fun _ => ?_)
  refine lv_bipush (v := (-2)) hx hb dX10_house_8 (by decide +kernel) ?_
  exact z_iret (v := (-2)) hx hb hr hlocks hP hD hS dX10_house_10 rfl
set_option maxHeartbeats 4000000 in
set_option maxRecDepth 100000 in
theorem kX10_thing (l : Launch) (D : va_G) (q : Nat → Nat) (cA : Nat → ClassId)  (h : Int32) (w : Int32)  : zMi l D vwCl (zXtys cA) 81 q (zXd q cA) yX10_thing cX10_thing 3 (some .int) ({ frames := 1, cells := 0, slots := 0, locals := 21 } : Room) [.ref (q 0), .int (h), .int (w)] (zXI0, zXR0, zXJ0) (fun r _ => r = (-2)) := by
  intro sz
  refine z_body (by decide +kernel) (Nat.le_of_ble_eq_true rfl) (fun p e s m below meth c ls hx hb hml hr ht hown hlocks hsz hK hP hD hS hl => ?_)
  have hA : ∀ a, s.heap.size ≤ a → zA 81 q sz a := fun a h => Or.inr (hsz ▸ h)
  have hl : lv_has ls 3 [(0, .ref (q 0)), (1, .int (h)), (2, .int (w))] := hl
  refine lv_aload_n hx hb dX10_thing_0 rfl (lv_at hl 0 rfl) ?_
  refine lv_iload_n hx hb dX10_thing_1 rfl (lv_at hl 1 rfl) ?_
  refine z_callVi (k := 0) (As := [.int (h)]) (rest := []) hx hb hml hown ht (kX10_isThing l D q cA (h)) hw_3_87 hmX10_isThing ⟨rfl, rfl⟩ (na := 1) rfl (by decide +kernel) (by decide) (by decide) rfl rfl hK hP hD hS hA hl.1 rfl (Nat.le_of_ble_eq_true rfl) ⟨Nat.zero_le _, Nat.zero_le _⟩ dX10_thing_2 (fun r_1 I_1 R_1 J_1 H locs hp_1 hP hD hS _ _ => ?_)
  obtain ⟨rfl, hu_1⟩ := hp_1
  cases hu_1
  refine lv_if_ne (tgt := 11) hx hb dX10_thing_5 (by decide) (fun c_0 => absurd (by decide +kernel) c_0) (fun _ => ?_)
  refine lv_bipush (v := (-2)) hx hb dX10_thing_8 (by decide +kernel) ?_
  exact z_iret (v := (-2)) hx hb hr hlocks hP hD hS dX10_thing_10 rfl
set_option maxHeartbeats 4000000 in
set_option maxRecDepth 100000 in
theorem kX10_value (l : Launch) (D : va_G) (q : Nat → Nat) (cA : Nat → ClassId)  (h : Int32) (w : Int32)  : zMi l D vwCl (zXtys cA) 81 q (zXd q cA) yX10_value cX10_value 3 (some .int) ({ frames := 1, cells := 0, slots := 0, locals := 21 } : Room) [.ref (q 0), .int (h), .int (w)] (zXI0, zXR0, zXJ0) (fun r _ => r = (-2)) := by
  intro sz
  refine z_body (by decide +kernel) (Nat.le_of_ble_eq_true rfl) (fun p e s m below meth c ls hx hb hml hr ht hown hlocks hsz hK hP hD hS hl => ?_)
  have hA : ∀ a, s.heap.size ≤ a → zA 81 q sz a := fun a h => Or.inr (hsz ▸ h)
  have hl : lv_has ls 3 [(0, .ref (q 0)), (1, .int (h)), (2, .int (w))] := hl
  refine lv_aload_n hx hb dX10_value_0 rfl (lv_at hl 0 rfl) ?_
  refine lv_iload_n hx hb dX10_value_1 rfl (lv_at hl 1 rfl) ?_
  refine z_callVi (k := 0) (As := [.int (h)]) (rest := []) hx hb hml hown ht (kX10_isHouse l D q cA (h)) hw_3_59 hmX10_isHouse ⟨rfl, rfl⟩ (na := 1) rfl (by decide +kernel) (by decide) (by decide) rfl rfl hK hP hD hS hA hl.1 rfl (Nat.le_of_ble_eq_true rfl) ⟨Nat.zero_le _, Nat.zero_le _⟩ dX10_value_2 (fun r_1 I_1 R_1 J_1 H locs hp_1 hP hD hS _ _ => ?_)
  obtain ⟨rfl, hu_1⟩ := hp_1
  cases hu_1
  refine lv_if_eq (tgt := 28) hx hb dX10_value_5 (by decide) (fun _ => ?_) (fun c_0 => absurd (by decide +kernel) c_0)
  refine lv_bipush (v := (-2)) hx hb dX10_value_28 (by decide +kernel) ?_
  exact z_iret (v := (-2)) hx hb hr hlocks hP hD hS dX10_value_30 rfl
set_option maxHeartbeats 4000000 in
set_option maxRecDepth 100000 in
theorem kX10_paper (l : Launch) (D : va_G) (q : Nat → Nat) (cA : Nat → ClassId)  (x : Int32) (w : Int32)  : zMi l D vwCl (zXtys cA) 81 q (zXd q cA) yX10_paper cX10_paper 3 (some .int) ({ frames := 1, cells := 0, slots := 0, locals := 21 } : Room) [.ref (q 0), .int (x), .int (w)] (zXI0, zXR0, zXJ0) (fun r _ => r = (-2)) := by
  intro sz
  refine z_body (by decide +kernel) (Nat.le_of_ble_eq_true rfl) (fun p e s m below meth c ls hx hb hml hr ht hown hlocks hsz hK hP hD hS hl => ?_)
  have hA : ∀ a, s.heap.size ≤ a → zA 81 q sz a := fun a h => Or.inr (hsz ▸ h)
  have hl : lv_has ls 3 [(0, .ref (q 0)), (1, .int (x)), (2, .int (w))] := hl
  refine lv_aload_n hx hb dX10_paper_0 rfl (lv_at hl 0 rfl) ?_
  refine lv_iload_n hx hb dX10_paper_1 rfl (lv_at hl 1 rfl) ?_
  refine z_callVi (k := 0) (As := [.int (x)]) (rest := []) hx hb hml hown ht (kX10_isPaper l D q cA (x)) hw_3_107 hmX10_isPaper ⟨rfl, rfl⟩ (na := 1) rfl (by decide +kernel) (by decide) (by decide) rfl rfl hK hP hD hS hA hl.1 rfl (Nat.le_of_ble_eq_true rfl) ⟨Nat.zero_le _, Nat.zero_le _⟩ dX10_paper_2 (fun r_1 I_1 R_1 J_1 H locs hp_1 hP hD hS _ _ => ?_)
  obtain ⟨rfl, hu_1⟩ := hp_1
  cases hu_1
  refine lv_if_ne (tgt := 11) hx hb dX10_paper_5 (by decide) (fun c_0 => absurd (by decide +kernel) c_0) (fun _ => ?_)
  refine lv_bipush (v := (-2)) hx hb dX10_paper_8 (by decide +kernel) ?_
  exact z_iret (v := (-2)) hx hb hr hlocks hP hD hS dX10_paper_10 rfl
set_option maxHeartbeats 4000000 in
set_option maxRecDepth 100000 in
theorem kX10_price (l : Launch) (D : va_G) (q : Nat → Nat) (cA : Nat → ClassId)  (x : Int32)  : zMi l D vwCl (zXtys cA) 81 q (zXd q cA) yX10_price cX10_price 2 (some .int) ({ frames := 1, cells := 0, slots := 0, locals := 21 } : Room) [.ref (q 0), .int (x)] (zXI0, zXR0, zXJ0) (fun r _ => r = (-2)) := by
  intro sz
  refine z_body (by decide +kernel) (Nat.le_of_ble_eq_true rfl) (fun p e s m below meth c ls hx hb hml hr ht hown hlocks hsz hK hP hD hS hl => ?_)
  have hA : ∀ a, s.heap.size ≤ a → zA 81 q sz a := fun a h => Or.inr (hsz ▸ h)
  have hl : lv_has ls 2 [(0, .ref (q 0)), (1, .int (x))] := hl
  refine lv_aload_n hx hb dX10_price_0 rfl (lv_at hl 0 rfl) ?_
  refine lv_iload_n hx hb dX10_price_1 rfl (lv_at hl 1 rfl) ?_
  refine z_callVi (k := 0) (As := [.int (x)]) (rest := []) hx hb hml hown ht (kX10_isPaper l D q cA (x)) hw_3_107 hmX10_isPaper ⟨rfl, rfl⟩ (na := 1) rfl (by decide +kernel) (by decide) (by decide) rfl rfl hK hP hD hS hA hl.1 rfl (Nat.le_of_ble_eq_true rfl) ⟨Nat.zero_le _, Nat.zero_le _⟩ dX10_price_2 (fun r_1 I_1 R_1 J_1 H locs hp_1 hP hD hS _ _ => ?_)
  obtain ⟨rfl, hu_1⟩ := hp_1
  cases hu_1
  refine lv_if_ne (tgt := 11) hx hb dX10_price_5 (by decide) (fun c_0 => absurd (by decide +kernel) c_0) (fun _ => ?_)
  refine lv_bipush (v := (-2)) hx hb dX10_price_8 (by decide +kernel) ?_
  exact z_iret (v := (-2)) hx hb hr hlocks hP hD hS dX10_price_10 rfl
set_option maxHeartbeats 4000000 in
set_option maxRecDepth 100000 in
theorem kX10_net (l : Launch) (D : va_G) (q : Nat → Nat) (cA : Nat → ClassId)  (h : Int32)  : zMi l D vwCl (zXtys cA) 81 q (zXd q cA) yX10_net cX10_net 2 (some .int) ({ frames := 1, cells := 0, slots := 0, locals := 21 } : Room) [.ref (q 0), .int (h)] (zXI0, zXR0, zXJ0) (fun r _ => r = (-100000)) := by
  intro sz
  refine z_body (by decide +kernel) (Nat.le_of_ble_eq_true rfl) (fun p e s m below meth c ls hx hb hml hr ht hown hlocks hsz hK hP hD hS hl => ?_)
  have hA : ∀ a, s.heap.size ≤ a → zA 81 q sz a := fun a h => Or.inr (hsz ▸ h)
  have hl : lv_has ls 2 [(0, .ref (q 0)), (1, .int (h))] := hl
  refine lv_aload_n hx hb dX10_net_0 rfl (lv_at hl 0 rfl) ?_
  refine lv_iload_n hx hb dX10_net_1 rfl (lv_at hl 1 rfl) ?_
  refine z_callVi (k := 0) (As := [.int (h)]) (rest := []) hx hb hml hown ht (kX10_isHouse l D q cA (h)) hw_3_59 hmX10_isHouse ⟨rfl, rfl⟩ (na := 1) rfl (by decide +kernel) (by decide) (by decide) rfl rfl hK hP hD hS hA hl.1 rfl (Nat.le_of_ble_eq_true rfl) ⟨Nat.zero_le _, Nat.zero_le _⟩ dX10_net_2 (fun r_1 I_1 R_1 J_1 H locs hp_1 hP hD hS _ _ => ?_)
  obtain ⟨rfl, hu_1⟩ := hp_1
  cases hu_1
  refine lv_if_eq (tgt := 19) hx hb dX10_net_5 (by decide) (fun _ => ?_) (fun c_0 => absurd (by decide +kernel) c_0)
  refine lv_ldc (v := (-100000)) hx hb hown (ht _ hw_3_139) dX10_net_19 ?_
  exact z_iret (v := (-100000)) hx hb hr hlocks hP hD hS dX10_net_21 rfl
set_option maxHeartbeats 4000000 in
set_option maxRecDepth 100000 in
theorem kX10_steal (l : Launch) (D : va_G) (q : Nat → Nat) (cA : Nat → ClassId)  (h : Int32) (t : Int32) (d : Int32)  : zMi l D vwCl (zXtys cA) 81 q (zXd q cA) yX10_steal cX10_steal 4 (some .int) ({ frames := 1, cells := 0, slots := 0, locals := 21 } : Room) [.ref (q 0), .int (h), .int (t), .int (d)] (zXI0, zXR0, zXJ0) (fun r _ => r = (-2)) := by
  intro sz
  refine z_body (by decide +kernel) (Nat.le_of_ble_eq_true rfl) (fun p e s m below meth c ls hx hb hml hr ht hown hlocks hsz hK hP hD hS hl => ?_)
  have hA : ∀ a, s.heap.size ≤ a → zA 81 q sz a := fun a h => Or.inr (hsz ▸ h)
  have hl : lv_has ls 4 [(0, .ref (q 0)), (1, .int (h)), (2, .int (t)), (3, .int (d))] := hl
  refine lv_aload_n hx hb dX10_steal_0 rfl (lv_at hl 0 rfl) ?_
  refine lv_iload_n hx hb dX10_steal_1 rfl (lv_at hl 1 rfl) ?_
  refine z_callVi (k := 0) (As := [.int (h)]) (rest := []) hx hb hml hown ht (kX10_isHouse l D q cA (h)) hw_3_59 hmX10_isHouse ⟨rfl, rfl⟩ (na := 1) rfl (by decide +kernel) (by decide) (by decide) rfl rfl hK hP hD hS hA hl.1 rfl (Nat.le_of_ble_eq_true rfl) ⟨Nat.zero_le _, Nat.zero_le _⟩ dX10_steal_2 (fun r_1 I_1 R_1 J_1 H locs hp_1 hP hD hS _ _ => ?_)
  obtain ⟨rfl, hu_1⟩ := hp_1
  cases hu_1
  refine lv_if_eq (tgt := 27) hx hb dX10_steal_5 (by decide) (fun _ => ?_) (fun c_0 => absurd (by decide +kernel) c_0)
  refine lv_bipush (v := (-2)) hx hb dX10_steal_27 (by decide +kernel) ?_
  exact z_iret (v := (-2)) hx hb hr hlocks hP hD hS dX10_steal_29 rfl
set_option maxHeartbeats 4000000 in
set_option maxRecDepth 100000 in
theorem kX10_sell (l : Launch) (D : va_G) (q : Nat → Nat) (cA : Nat → ClassId)  (x : Int32) (h : Int32)  : zMi l D vwCl (zXtys cA) 81 q (zXd q cA) yX10_sell cX10_sell 3 (some .int) ({ frames := 1, cells := 0, slots := 0, locals := 21 } : Room) [.ref (q 0), .int (x), .int (h)] (zXI0, zXR0, zXJ0) (fun r _ => r = (-2)) := by
  intro sz
  refine z_body (by decide +kernel) (Nat.le_of_ble_eq_true rfl) (fun p e s m below meth c ls hx hb hml hr ht hown hlocks hsz hK hP hD hS hl => ?_)
  have hA : ∀ a, s.heap.size ≤ a → zA 81 q sz a := fun a h => Or.inr (hsz ▸ h)
  have hl : lv_has ls 3 [(0, .ref (q 0)), (1, .int (x)), (2, .int (h))] := hl
  refine lv_aload_n hx hb dX10_sell_0 rfl (lv_at hl 0 rfl) ?_
  refine lv_iload_n hx hb dX10_sell_1 rfl (lv_at hl 1 rfl) ?_
  refine z_callVi (k := 0) (As := [.int (x)]) (rest := []) hx hb hml hown ht (kX10_isPaper l D q cA (x)) hw_3_107 hmX10_isPaper ⟨rfl, rfl⟩ (na := 1) rfl (by decide +kernel) (by decide) (by decide) rfl rfl hK hP hD hS hA hl.1 rfl (Nat.le_of_ble_eq_true rfl) ⟨Nat.zero_le _, Nat.zero_le _⟩ dX10_sell_2 (fun r_1 I_1 R_1 J_1 H locs hp_1 hP hD hS _ _ => ?_)
  obtain ⟨rfl, hu_1⟩ := hp_1
  cases hu_1
  refine lv_if_eq (tgt := 16) hx hb dX10_sell_5 (by decide) (fun _ => ?_) (fun c_0 => absurd (by decide +kernel) c_0)
  refine lv_bipush (v := (-2)) hx hb dX10_sell_16 (by decide +kernel) ?_
  exact z_iret (v := (-2)) hx hb hr hlocks hP hD hS dX10_sell_18 rfl
set_option maxHeartbeats 4000000 in
set_option maxRecDepth 100000 in
theorem kX10_brings (l : Launch) (D : va_G) (q : Nat → Nat) (cA : Nat → ClassId)  (x : Int32)  : zMi l D vwCl (zXtys cA) 81 q (zXd q cA) yX10_brings cX10_brings 2 (some .int) ({ frames := 1, cells := 0, slots := 0, locals := 21 } : Room) [.ref (q 0), .int (x)] (zXI0, zXR0, zXJ0) (fun r _ => r = (-2)) := by
  intro sz
  refine z_body (by decide +kernel) (Nat.le_of_ble_eq_true rfl) (fun p e s m below meth c ls hx hb hml hr ht hown hlocks hsz hK hP hD hS hl => ?_)
  have hA : ∀ a, s.heap.size ≤ a → zA 81 q sz a := fun a h => Or.inr (hsz ▸ h)
  have hl : lv_has ls 2 [(0, .ref (q 0)), (1, .int (x))] := hl
  refine lv_aload_n hx hb dX10_brings_0 rfl (lv_at hl 0 rfl) ?_
  refine lv_iload_n hx hb dX10_brings_1 rfl (lv_at hl 1 rfl) ?_
  refine z_callVi (k := 0) (As := [.int (x)]) (rest := []) hx hb hml hown ht (kX10_isPaper l D q cA (x)) hw_3_107 hmX10_isPaper ⟨rfl, rfl⟩ (na := 1) rfl (by decide +kernel) (by decide) (by decide) rfl rfl hK hP hD hS hA hl.1 rfl (Nat.le_of_ble_eq_true rfl) ⟨Nat.zero_le _, Nat.zero_le _⟩ dX10_brings_2 (fun r_1 I_1 R_1 J_1 H locs hp_1 hP hD hS _ _ => ?_)
  obtain ⟨rfl, hu_1⟩ := hp_1
  cases hu_1
  refine lv_if_ne (tgt := 11) hx hb dX10_brings_5 (by decide) (fun c_0 => absurd (by decide +kernel) c_0) (fun _ => ?_)
  refine lv_bipush (v := (-2)) hx hb dX10_brings_8 (by decide +kernel) ?_
  exact z_iret (v := (-2)) hx hb hr hlocks hP hD hS dX10_brings_10 rfl
set_option maxHeartbeats 4000000 in
set_option maxRecDepth 100000 in
theorem kX10_strike (l : Launch) (D : va_G) (q : Nat → Nat) (cA : Nat → ClassId)  (x : Int32)  : zMi l D vwCl (zXtys cA) 81 q (zXd q cA) yX10_strike cX10_strike 2 (some .int) ({ frames := 1, cells := 0, slots := 0, locals := 21 } : Room) [.ref (q 0), .int (x)] (zXI0, zXR0, zXJ0) (fun r _ => r = (-2)) := by
  intro sz
  refine z_body (by decide +kernel) (Nat.le_of_ble_eq_true rfl) (fun p e s m below meth c ls hx hb hml hr ht hown hlocks hsz hK hP hD hS hl => ?_)
  have hA : ∀ a, s.heap.size ≤ a → zA 81 q sz a := fun a h => Or.inr (hsz ▸ h)
  have hl : lv_has ls 2 [(0, .ref (q 0)), (1, .int (x))] := hl
  refine lv_aload_n hx hb dX10_strike_0 rfl (lv_at hl 0 rfl) ?_
  refine lv_iload_n hx hb dX10_strike_1 rfl (lv_at hl 1 rfl) ?_
  refine z_callVi (k := 0) (As := [.int (x)]) (rest := []) hx hb hml hown ht (kX10_isPaper l D q cA (x)) hw_3_107 hmX10_isPaper ⟨rfl, rfl⟩ (na := 1) rfl (by decide +kernel) (by decide) (by decide) rfl rfl hK hP hD hS hA hl.1 rfl (Nat.le_of_ble_eq_true rfl) ⟨Nat.zero_le _, Nat.zero_le _⟩ dX10_strike_2 (fun r_1 I_1 R_1 J_1 H locs hp_1 hP hD hS _ _ => ?_)
  obtain ⟨rfl, hu_1⟩ := hp_1
  cases hu_1
  refine lv_if_ne (tgt := 11) hx hb dX10_strike_5 (by decide) (fun c_0 => absurd (by decide +kernel) c_0) (fun _ => ?_)
  refine lv_bipush (v := (-2)) hx hb dX10_strike_8 (by decide +kernel) ?_
  exact z_iret (v := (-2)) hx hb hr hlocks hP hD hS dX10_strike_10 rfl
set_option maxHeartbeats 4000000 in
set_option maxRecDepth 100000 in
theorem kX10_lock (l : Launch) (D : va_G) (q : Nat → Nat) (cA : Nat → ClassId)  (h : Int32) (w : Int32)  : zMi l D vwCl (zXtys cA) 81 q (zXd q cA) yX10_lock cX10_lock 3 (some .int) ({ frames := 1, cells := 0, slots := 0, locals := 21 } : Room) [.ref (q 0), .int (h), .int (w)] (zXI0, zXR0, zXJ0) (fun r _ => r = (-2)) := by
  intro sz
  refine z_body (by decide +kernel) (Nat.le_of_ble_eq_true rfl) (fun p e s m below meth c ls hx hb hml hr ht hown hlocks hsz hK hP hD hS hl => ?_)
  have hA : ∀ a, s.heap.size ≤ a → zA 81 q sz a := fun a h => Or.inr (hsz ▸ h)
  have hl : lv_has ls 3 [(0, .ref (q 0)), (1, .int (h)), (2, .int (w))] := hl
  refine lv_aload_n hx hb dX10_lock_0 rfl (lv_at hl 0 rfl) ?_
  refine lv_iload_n hx hb dX10_lock_1 rfl (lv_at hl 1 rfl) ?_
  refine z_callVi (k := 0) (As := [.int (h)]) (rest := []) hx hb hml hown ht (kX10_isHouse l D q cA (h)) hw_3_59 hmX10_isHouse ⟨rfl, rfl⟩ (na := 1) rfl (by decide +kernel) (by decide) (by decide) rfl rfl hK hP hD hS hA hl.1 rfl (Nat.le_of_ble_eq_true rfl) ⟨Nat.zero_le _, Nat.zero_le _⟩ dX10_lock_2 (fun r_1 I_1 R_1 J_1 H locs hp_1 hP hD hS _ _ => ?_)
  obtain ⟨rfl, hu_1⟩ := hp_1
  cases hu_1
  refine lv_if_eq (tgt := 17) hx hb dX10_lock_5 (by decide) (fun _ => ?_) (fun c_0 => absurd (by decide +kernel) c_0)
  refine lv_bipush (v := (-2)) hx hb dX10_lock_17 (by decide +kernel) ?_
  exact z_iret (v := (-2)) hx hb hr hlocks hP hD hS dX10_lock_19 rfl
set_option maxHeartbeats 4000000 in
set_option maxRecDepth 100000 in
theorem kX10_night (l : Launch) (D : va_G) (q : Nat → Nat) (cA : Nat → ClassId)    : zMi l D vwCl (zXtys cA) 81 q (zXd q cA) yX10_night cX10_night 1 (some .int) ({ frames := 1, cells := 0, slots := 0, locals := 20 } : Room) [.ref (q 0)] (zXI0, zXR0, zXJ0) (fun r _ => r = (-2)) := by
  intro sz
  refine z_body (by decide +kernel) (Nat.le_of_ble_eq_true rfl) (fun p e s m below meth c ls hx hb hml hr ht hown hlocks hsz hK hP hD hS hl => ?_)
  have hA : ∀ a, s.heap.size ≤ a → zA 81 q sz a := fun a h => Or.inr (hsz ▸ h)
  have hl : lv_has ls 1 [(0, .ref (q 0))] := hl
  refine lv_aload_n hx hb dX10_night_0 rfl (lv_at hl 0 rfl) ?_
  refine z_callVi (k := 0) (As := []) (rest := []) hx hb hml hown ht (kX10_hasCity l D q cA ) hw_4_0 hmX10_hasCity ⟨rfl, rfl⟩ (na := 0) rfl (by decide +kernel) (by decide) (by decide) rfl rfl hK hP hD hS hA hl.1 rfl (Nat.le_of_ble_eq_true rfl) ⟨Nat.zero_le _, Nat.zero_le _⟩ dX10_night_1 (fun r_1 I_1 R_1 J_1 H locs hp_1 hP hD hS _ _ => ?_)
  obtain ⟨rfl, hu_1⟩ := hp_1
  cases hu_1
  refine lv_if_ne (tgt := 10) hx hb dX10_night_4 (by decide) (fun c_0 => absurd (by decide +kernel) c_0) (fun _ => ?_)
  refine lv_bipush (v := (-2)) hx hb dX10_night_7 (by decide +kernel) ?_
  exact z_iret (v := (-2)) hx hb hr hlocks hP hD hS dX10_night_9 rfl
set_option maxHeartbeats 4000000 in
set_option maxRecDepth 100000 in
theorem kX10_undo (l : Launch) (D : va_G) (q : Nat → Nat) (cA : Nat → ClassId)    : zMi l D vwCl (zXtys cA) 81 q (zXd q cA) yX10_undo cX10_undo 1 (some .int) ({ frames := 1, cells := 0, slots := 0, locals := 20 } : Room) [.ref (q 0)] (zXI0, zXR0, zXJ0) (fun r _ => r = (-2)) := by
  intro sz
  refine z_body (by decide +kernel) (Nat.le_of_ble_eq_true rfl) (fun p e s m below meth c ls hx hb hml hr ht hown hlocks hsz hK hP hD hS hl => ?_)
  have hA : ∀ a, s.heap.size ≤ a → zA 81 q sz a := fun a h => Or.inr (hsz ▸ h)
  have hl : lv_has ls 1 [(0, .ref (q 0))] := hl
  refine lv_aload_n hx hb dX10_undo_0 rfl (lv_at hl 0 rfl) ?_
  refine z_callVi (k := 0) (As := []) (rest := []) hx hb hml hown ht (kX10_hasCity l D q cA ) hw_4_0 hmX10_hasCity ⟨rfl, rfl⟩ (na := 0) rfl (by decide +kernel) (by decide) (by decide) rfl rfl hK hP hD hS hA hl.1 rfl (Nat.le_of_ble_eq_true rfl) ⟨Nat.zero_le _, Nat.zero_le _⟩ dX10_undo_1 (fun r_1 I_1 R_1 J_1 H locs hp_1 hP hD hS _ _ => ?_)
  obtain ⟨rfl, hu_1⟩ := hp_1
  cases hu_1
  refine lv_if_ne (tgt := 10) hx hb dX10_undo_4 (by decide) (fun c_0 => absurd (by decide +kernel) c_0) (fun _ => ?_)
  refine lv_bipush (v := (-2)) hx hb dX10_undo_7 (by decide +kernel) ?_
  exact z_iret (v := (-2)) hx hb hr hlocks hP hD hS dX10_undo_9 rfl
set_option maxHeartbeats 4000000 in
set_option maxRecDepth 100000 in
theorem kX10_anew (l : Launch) (D : va_G) (q : Nat → Nat) (cA : Nat → ClassId)    : zMi l D vwCl (zXtys cA) 81 q (zXd q cA) yX10_anew cX10_anew 2 (some .int) ({ frames := 1, cells := 0, slots := 0, locals := 20 } : Room) [.ref (q 0)] (zXI0, zXR0, zXJ0) (fun r _ => r = (-2)) := by
  intro sz
  refine z_body (by decide +kernel) (Nat.le_of_ble_eq_true rfl) (fun p e s m below meth c ls hx hb hml hr ht hown hlocks hsz hK hP hD hS hl => ?_)
  have hA : ∀ a, s.heap.size ≤ a → zA 81 q sz a := fun a h => Or.inr (hsz ▸ h)
  have hl : lv_has ls 2 [(0, .ref (q 0))] := hl
  refine lv_aload_n hx hb dX10_anew_0 rfl (lv_at hl 0 rfl) ?_
  refine z_callVi (k := 0) (As := []) (rest := []) hx hb hml hown ht (kX10_hasCity l D q cA ) hw_4_0 hmX10_hasCity ⟨rfl, rfl⟩ (na := 0) rfl (by decide +kernel) (by decide) (by decide) rfl rfl hK hP hD hS hA hl.1 rfl (Nat.le_of_ble_eq_true rfl) ⟨Nat.zero_le _, Nat.zero_le _⟩ dX10_anew_1 (fun r_1 I_1 R_1 J_1 H locs hp_1 hP hD hS _ _ => ?_)
  obtain ⟨rfl, hu_1⟩ := hp_1
  cases hu_1
  refine lv_if_ne (tgt := 10) hx hb dX10_anew_4 (by decide) (fun c_0 => absurd (by decide +kernel) c_0) (fun _ => ?_)
  refine lv_bipush (v := (-2)) hx hb dX10_anew_7 (by decide +kernel) ?_
  exact z_iret (v := (-2)) hx hb hr hlocks hP hD hS dX10_anew_9 rfl
set_option maxHeartbeats 4000000 in
set_option maxRecDepth 100000 in
theorem kX10_now (l : Launch) (D : va_G) (q : Nat → Nat) (cA : Nat → ClassId)  (w : Int32)  : zMi l D vwCl (zXtys cA) 81 q (zXd q cA) yX10_now cX10_now 2 (some .int) ({ frames := 1, cells := 0, slots := 0, locals := 20 } : Room) [.ref (q 0), .int (w)] (zXI0, zXR0, zXJ0) (fun r _ => r = (-2)) := by
  intro sz
  refine z_body (by decide +kernel) (Nat.le_of_ble_eq_true rfl) (fun p e s m below meth c ls hx hb hml hr ht hown hlocks hsz hK hP hD hS hl => ?_)
  have hA : ∀ a, s.heap.size ≤ a → zA 81 q sz a := fun a h => Or.inr (hsz ▸ h)
  have hl : lv_has ls 2 [(0, .ref (q 0)), (1, .int (w))] := hl
  refine lv_aload_n hx hb dX10_now_0 rfl (lv_at hl 0 rfl) ?_
  refine z_callVi (k := 0) (As := []) (rest := []) hx hb hml hown ht (kX10_hasCity l D q cA ) hw_4_0 hmX10_hasCity ⟨rfl, rfl⟩ (na := 0) rfl (by decide +kernel) (by decide) (by decide) rfl rfl hK hP hD hS hA hl.1 rfl (Nat.le_of_ble_eq_true rfl) ⟨Nat.zero_le _, Nat.zero_le _⟩ dX10_now_1 (fun r_1 I_1 R_1 J_1 H locs hp_1 hP hD hS _ _ => ?_)
  obtain ⟨rfl, hu_1⟩ := hp_1
  cases hu_1
  refine lv_if_ne (tgt := 10) hx hb dX10_now_4 (by decide) (fun c_0 => absurd (by decide +kernel) c_0) (fun _ => ?_)
  refine lv_bipush (v := (-2)) hx hb dX10_now_7 (by decide +kernel) ?_
  exact z_iret (v := (-2)) hx hb hr hlocks hP hD hS dX10_now_9 rfl
set_option maxHeartbeats 4000000 in
set_option maxRecDepth 100000 in
theorem kX10_owner (l : Launch) (D : va_G) (q : Nat → Nat) (cA : Nat → ClassId)  (t : Int32)  : zMi l D vwCl (zXtys cA) 81 q (zXd q cA) yX10_owner cX10_owner 2 (some .int) ({ frames := 1, cells := 0, slots := 0, locals := 21 } : Room) [.ref (q 0), .int (t)] (zXI0, zXR0, zXJ0) (fun r _ => r = (-2)) := by
  intro sz
  refine z_body (by decide +kernel) (Nat.le_of_ble_eq_true rfl) (fun p e s m below meth c ls hx hb hml hr ht hown hlocks hsz hK hP hD hS hl => ?_)
  have hA : ∀ a, s.heap.size ≤ a → zA 81 q sz a := fun a h => Or.inr (hsz ▸ h)
  have hl : lv_has ls 2 [(0, .ref (q 0)), (1, .int (t))] := hl
  refine lv_aload_n hx hb dX10_owner_0 rfl (lv_at hl 0 rfl) ?_
  refine lv_iload_n hx hb dX10_owner_1 rfl (lv_at hl 1 rfl) ?_
  refine z_callVi (k := 0) (As := [.int (t)]) (rest := []) hx hb hml hown ht (kX10_isThing l D q cA (t)) hw_3_87 hmX10_isThing ⟨rfl, rfl⟩ (na := 1) rfl (by decide +kernel) (by decide) (by decide) rfl rfl hK hP hD hS hA hl.1 rfl (Nat.le_of_ble_eq_true rfl) ⟨Nat.zero_le _, Nat.zero_le _⟩ dX10_owner_2 (fun r_1 I_1 R_1 J_1 H locs hp_1 hP hD hS _ _ => ?_)
  obtain ⟨rfl, hu_1⟩ := hp_1
  cases hu_1
  refine lv_if_ne (tgt := 11) hx hb dX10_owner_5 (by decide) (fun c_0 => absurd (by decide +kernel) c_0) (fun _ => ?_)
  refine lv_bipush (v := (-2)) hx hb dX10_owner_8 (by decide +kernel) ?_
  exact z_iret (v := (-2)) hx hb hr hlocks hP hD hS dX10_owner_10 rfl
set_option maxHeartbeats 4000000 in
set_option maxRecDepth 100000 in
theorem kX10_chain (l : Launch) (D : va_G) (q : Nat → Nat) (cA : Nat → ClassId)  (t : Int32) (i : Int32)  : zMi l D vwCl (zXtys cA) 81 q (zXd q cA) yX10_chain cX10_chain 3 (some .int) ({ frames := 1, cells := 0, slots := 0, locals := 21 } : Room) [.ref (q 0), .int (t), .int (i)] (zXI0, zXR0, zXJ0) (fun r _ => r = (-2)) := by
  intro sz
  refine z_body (by decide +kernel) (Nat.le_of_ble_eq_true rfl) (fun p e s m below meth c ls hx hb hml hr ht hown hlocks hsz hK hP hD hS hl => ?_)
  have hA : ∀ a, s.heap.size ≤ a → zA 81 q sz a := fun a h => Or.inr (hsz ▸ h)
  have hl : lv_has ls 3 [(0, .ref (q 0)), (1, .int (t)), (2, .int (i))] := hl
  refine lv_aload_n hx hb dX10_chain_0 rfl (lv_at hl 0 rfl) ?_
  refine lv_iload_n hx hb dX10_chain_1 rfl (lv_at hl 1 rfl) ?_
  refine z_callVi (k := 0) (As := [.int (t)]) (rest := []) hx hb hml hown ht (kX10_isThing l D q cA (t)) hw_3_87 hmX10_isThing ⟨rfl, rfl⟩ (na := 1) rfl (by decide +kernel) (by decide) (by decide) rfl rfl hK hP hD hS hA hl.1 rfl (Nat.le_of_ble_eq_true rfl) ⟨Nat.zero_le _, Nat.zero_le _⟩ dX10_chain_2 (fun r_1 I_1 R_1 J_1 H locs hp_1 hP hD hS _ _ => ?_)
  obtain ⟨rfl, hu_1⟩ := hp_1
  cases hu_1
  refine lv_if_ne (tgt := 11) hx hb dX10_chain_5 (by decide) (fun c_0 => absurd (by decide +kernel) c_0) (fun _ => ?_)
  refine lv_bipush (v := (-2)) hx hb dX10_chain_8 (by decide +kernel) ?_
  exact z_iret (v := (-2)) hx hb hr hlocks hP hD hS dX10_chain_10 rfl
set_option maxHeartbeats 4000000 in
set_option maxRecDepth 100000 in
theorem kX10_rings (l : Launch) (D : va_G) (q : Nat → Nat) (cA : Nat → ClassId)    : zMi l D vwCl (zXtys cA) 81 q (zXd q cA) yX10_rings cX10_rings 1 (some .int) ({ frames := 1, cells := 0, slots := 0, locals := 20 } : Room) [.ref (q 0)] (zXI0, zXR0, zXJ0) (fun r _ => r = (-2)) := by
  intro sz
  refine z_body (by decide +kernel) (Nat.le_of_ble_eq_true rfl) (fun p e s m below meth c ls hx hb hml hr ht hown hlocks hsz hK hP hD hS hl => ?_)
  have hA : ∀ a, s.heap.size ≤ a → zA 81 q sz a := fun a h => Or.inr (hsz ▸ h)
  have hl : lv_has ls 1 [(0, .ref (q 0))] := hl
  refine lv_aload_n hx hb dX10_rings_0 rfl (lv_at hl 0 rfl) ?_
  refine z_callVi (k := 0) (As := []) (rest := []) hx hb hml hown ht (kX10_hasCity l D q cA ) hw_4_0 hmX10_hasCity ⟨rfl, rfl⟩ (na := 0) rfl (by decide +kernel) (by decide) (by decide) rfl rfl hK hP hD hS hA hl.1 rfl (Nat.le_of_ble_eq_true rfl) ⟨Nat.zero_le _, Nat.zero_le _⟩ dX10_rings_1 (fun r_1 I_1 R_1 J_1 H locs hp_1 hP hD hS _ _ => ?_)
  obtain ⟨rfl, hu_1⟩ := hp_1
  cases hu_1
  refine lv_if_eq (tgt := 15) hx hb dX10_rings_4 (by decide) (fun _ => ?_) (fun c_0 => absurd (by decide +kernel) c_0)
  refine lv_bipush (v := (-2)) hx hb dX10_rings_15 (by decide +kernel) ?_
  exact z_iret (v := (-2)) hx hb hr hlocks hP hD hS dX10_rings_17 rfl
set_option maxHeartbeats 4000000 in
set_option maxRecDepth 100000 in
theorem kX10_owns (l : Launch) (D : va_G) (q : Nat → Nat) (cA : Nat → ClassId)  (h : Int32)  : zMi l D vwCl (zXtys cA) 81 q (zXd q cA) yX10_owns cX10_owns 2 (some .int) ({ frames := 1, cells := 0, slots := 0, locals := 21 } : Room) [.ref (q 0), .int (h)] (zXI0, zXR0, zXJ0) (fun r _ => r = (-2)) := by
  intro sz
  refine z_body (by decide +kernel) (Nat.le_of_ble_eq_true rfl) (fun p e s m below meth c ls hx hb hml hr ht hown hlocks hsz hK hP hD hS hl => ?_)
  have hA : ∀ a, s.heap.size ≤ a → zA 81 q sz a := fun a h => Or.inr (hsz ▸ h)
  have hl : lv_has ls 2 [(0, .ref (q 0)), (1, .int (h))] := hl
  refine lv_aload_n hx hb dX10_owns_0 rfl (lv_at hl 0 rfl) ?_
  refine lv_iload_n hx hb dX10_owns_1 rfl (lv_at hl 1 rfl) ?_
  refine z_callVi (k := 0) (As := [.int (h)]) (rest := []) hx hb hml hown ht (kX10_isHouse l D q cA (h)) hw_3_59 hmX10_isHouse ⟨rfl, rfl⟩ (na := 1) rfl (by decide +kernel) (by decide) (by decide) rfl rfl hK hP hD hS hA hl.1 rfl (Nat.le_of_ble_eq_true rfl) ⟨Nat.zero_le _, Nat.zero_le _⟩ dX10_owns_2 (fun r_1 I_1 R_1 J_1 H locs hp_1 hP hD hS _ _ => ?_)
  obtain ⟨rfl, hu_1⟩ := hp_1
  cases hu_1
  refine lv_if_eq (tgt := 16) hx hb dX10_owns_5 (by decide) (fun _ => ?_) (fun c_0 => absurd (by decide +kernel) c_0)
  refine lv_bipush (v := (-2)) hx hb dX10_owns_16 (by decide +kernel) ?_
  exact z_iret (v := (-2)) hx hb hr hlocks hP hD hS dX10_owns_18 rfl
set_option maxHeartbeats 4000000 in
set_option maxRecDepth 100000 in
theorem kX10_twice (l : Launch) (D : va_G) (q : Nat → Nat) (cA : Nat → ClassId)    : zMi l D vwCl (zXtys cA) 81 q (zXd q cA) yX10_twice cX10_twice 1 (some .int) ({ frames := 1, cells := 0, slots := 0, locals := 20 } : Room) [.ref (q 0)] (zXI0, zXR0, zXJ0) (fun r _ => r = (-2)) := by
  intro sz
  refine z_body (by decide +kernel) (Nat.le_of_ble_eq_true rfl) (fun p e s m below meth c ls hx hb hml hr ht hown hlocks hsz hK hP hD hS hl => ?_)
  have hA : ∀ a, s.heap.size ≤ a → zA 81 q sz a := fun a h => Or.inr (hsz ▸ h)
  have hl : lv_has ls 1 [(0, .ref (q 0))] := hl
  refine lv_aload_n hx hb dX10_twice_0 rfl (lv_at hl 0 rfl) ?_
  refine z_callVi (k := 0) (As := []) (rest := []) hx hb hml hown ht (kX10_hasCity l D q cA ) hw_4_0 hmX10_hasCity ⟨rfl, rfl⟩ (na := 0) rfl (by decide +kernel) (by decide) (by decide) rfl rfl hK hP hD hS hA hl.1 rfl (Nat.le_of_ble_eq_true rfl) ⟨Nat.zero_le _, Nat.zero_le _⟩ dX10_twice_1 (fun r_1 I_1 R_1 J_1 H locs hp_1 hP hD hS _ _ => ?_)
  obtain ⟨rfl, hu_1⟩ := hp_1
  cases hu_1
  refine lv_if_eq (tgt := 21) hx hb dX10_twice_4 (by decide) (fun _ => ?_) (fun c_0 => absurd (by decide +kernel) c_0)
  refine lv_bipush (v := (-2)) hx hb dX10_twice_21 (by decide +kernel) ?_
  exact z_iret (v := (-2)) hx hb hr hlocks hP hD hS dX10_twice_23 rfl
set_option maxHeartbeats 4000000 in
set_option maxRecDepth 100000 in
theorem kX10_strikes (l : Launch) (D : va_G) (q : Nat → Nat) (cA : Nat → ClassId)    : zMi l D vwCl (zXtys cA) 81 q (zXd q cA) yX10_strikes cX10_strikes 1 (some .int) ({ frames := 1, cells := 0, slots := 0, locals := 20 } : Room) [.ref (q 0)] (zXI0, zXR0, zXJ0) (fun r _ => r = (-2)) := by
  intro sz
  refine z_body (by decide +kernel) (Nat.le_of_ble_eq_true rfl) (fun p e s m below meth c ls hx hb hml hr ht hown hlocks hsz hK hP hD hS hl => ?_)
  have hA : ∀ a, s.heap.size ≤ a → zA 81 q sz a := fun a h => Or.inr (hsz ▸ h)
  have hl : lv_has ls 1 [(0, .ref (q 0))] := hl
  refine lv_aload_n hx hb dX10_strikes_0 rfl (lv_at hl 0 rfl) ?_
  refine z_callVi (k := 0) (As := []) (rest := []) hx hb hml hown ht (kX10_hasCity l D q cA ) hw_4_0 hmX10_hasCity ⟨rfl, rfl⟩ (na := 0) rfl (by decide +kernel) (by decide) (by decide) rfl rfl hK hP hD hS hA hl.1 rfl (Nat.le_of_ble_eq_true rfl) ⟨Nat.zero_le _, Nat.zero_le _⟩ dX10_strikes_1 (fun r_1 I_1 R_1 J_1 H locs hp_1 hP hD hS _ _ => ?_)
  obtain ⟨rfl, hu_1⟩ := hp_1
  cases hu_1
  refine lv_if_eq (tgt := 24) hx hb dX10_strikes_4 (by decide) (fun _ => ?_) (fun c_0 => absurd (by decide +kernel) c_0)
  refine lv_bipush (v := (-2)) hx hb dX10_strikes_24 (by decide +kernel) ?_
  exact z_iret (v := (-2)) hx hb hr hlocks hP hD hS dX10_strikes_26 rfl
set_option maxHeartbeats 4000000 in
set_option maxRecDepth 100000 in
theorem kX10_struck (l : Launch) (D : va_G) (q : Nat → Nat) (cA : Nat → ClassId)    : zMi l D vwCl (zXtys cA) 81 q (zXd q cA) yX10_struck cX10_struck 1 (some .int) ({ frames := 1, cells := 0, slots := 0, locals := 20 } : Room) [.ref (q 0)] (zXI0, zXR0, zXJ0) (fun r _ => r = (-2)) := by
  intro sz
  refine z_body (by decide +kernel) (Nat.le_of_ble_eq_true rfl) (fun p e s m below meth c ls hx hb hml hr ht hown hlocks hsz hK hP hD hS hl => ?_)
  have hA : ∀ a, s.heap.size ≤ a → zA 81 q sz a := fun a h => Or.inr (hsz ▸ h)
  have hl : lv_has ls 1 [(0, .ref (q 0))] := hl
  refine lv_aload_n hx hb dX10_struck_0 rfl (lv_at hl 0 rfl) ?_
  refine z_callVi (k := 0) (As := []) (rest := []) hx hb hml hown ht (kX10_hasCity l D q cA ) hw_4_0 hmX10_hasCity ⟨rfl, rfl⟩ (na := 0) rfl (by decide +kernel) (by decide) (by decide) rfl rfl hK hP hD hS hA hl.1 rfl (Nat.le_of_ble_eq_true rfl) ⟨Nat.zero_le _, Nat.zero_le _⟩ dX10_struck_1 (fun r_1 I_1 R_1 J_1 H locs hp_1 hP hD hS _ _ => ?_)
  obtain ⟨rfl, hu_1⟩ := hp_1
  cases hu_1
  refine lv_if_eq (tgt := 21) hx hb dX10_struck_4 (by decide) (fun _ => ?_) (fun c_0 => absurd (by decide +kernel) c_0)
  refine lv_bipush (v := (-2)) hx hb dX10_struck_21 (by decide +kernel) ?_
  exact z_iret (v := (-2)) hx hb hr hlocks hP hD hS dX10_struck_23 rfl
set_option maxHeartbeats 4000000 in
set_option maxRecDepth 100000 in
theorem kX10_trail (l : Launch) (D : va_G) (q : Nat → Nat) (cA : Nat → ClassId)  (t : Int32) (i : Int32)  : zMi l D vwCl (zXtys cA) 81 q (zXd q cA) yX10_trail cX10_trail 3 (some .int) ({ frames := 1, cells := 0, slots := 0, locals := 21 } : Room) [.ref (q 0), .int (t), .int (i)] (zXI0, zXR0, zXJ0) (fun r _ => r = (-2)) := by
  intro sz
  refine z_body (by decide +kernel) (Nat.le_of_ble_eq_true rfl) (fun p e s m below meth c ls hx hb hml hr ht hown hlocks hsz hK hP hD hS hl => ?_)
  have hA : ∀ a, s.heap.size ≤ a → zA 81 q sz a := fun a h => Or.inr (hsz ▸ h)
  have hl : lv_has ls 3 [(0, .ref (q 0)), (1, .int (t)), (2, .int (i))] := hl
  refine lv_aload_n hx hb dX10_trail_0 rfl (lv_at hl 0 rfl) ?_
  refine lv_iload_n hx hb dX10_trail_1 rfl (lv_at hl 1 rfl) ?_
  refine z_callVi (k := 0) (As := [.int (t)]) (rest := []) hx hb hml hown ht (kX10_isThing l D q cA (t)) hw_3_87 hmX10_isThing ⟨rfl, rfl⟩ (na := 1) rfl (by decide +kernel) (by decide) (by decide) rfl rfl hK hP hD hS hA hl.1 rfl (Nat.le_of_ble_eq_true rfl) ⟨Nat.zero_le _, Nat.zero_le _⟩ dX10_trail_2 (fun r_1 I_1 R_1 J_1 H locs hp_1 hP hD hS _ _ => ?_)
  obtain ⟨rfl, hu_1⟩ := hp_1
  cases hu_1
  refine lv_if_ne (tgt := 11) hx hb dX10_trail_5 (by decide) (fun c_0 => absurd (by decide +kernel) c_0) (fun _ => ?_)
  refine lv_bipush (v := (-2)) hx hb dX10_trail_8 (by decide +kernel) ?_
  exact z_iret (v := (-2)) hx hb hr hlocks hP hD hS dX10_trail_10 rfl
set_option maxHeartbeats 4000000 in
set_option maxRecDepth 100000 in
theorem kX10_went (l : Launch) (D : va_G) (q : Nat → Nat) (cA : Nat → ClassId)  (t : Int32)  : zMi l D vwCl (zXtys cA) 81 q (zXd q cA) yX10_went cX10_went 2 (some .int) ({ frames := 1, cells := 0, slots := 0, locals := 21 } : Room) [.ref (q 0), .int (t)] (zXI0, zXR0, zXJ0) (fun r _ => r = (-2)) := by
  intro sz
  refine z_body (by decide +kernel) (Nat.le_of_ble_eq_true rfl) (fun p e s m below meth c ls hx hb hml hr ht hown hlocks hsz hK hP hD hS hl => ?_)
  have hA : ∀ a, s.heap.size ≤ a → zA 81 q sz a := fun a h => Or.inr (hsz ▸ h)
  have hl : lv_has ls 2 [(0, .ref (q 0)), (1, .int (t))] := hl
  refine lv_aload_n hx hb dX10_went_0 rfl (lv_at hl 0 rfl) ?_
  refine lv_iload_n hx hb dX10_went_1 rfl (lv_at hl 1 rfl) ?_
  refine z_callVi (k := 0) (As := [.int (t)]) (rest := []) hx hb hml hown ht (kX10_isThing l D q cA (t)) hw_3_87 hmX10_isThing ⟨rfl, rfl⟩ (na := 1) rfl (by decide +kernel) (by decide) (by decide) rfl rfl hK hP hD hS hA hl.1 rfl (Nat.le_of_ble_eq_true rfl) ⟨Nat.zero_le _, Nat.zero_le _⟩ dX10_went_2 (fun r_1 I_1 R_1 J_1 H locs hp_1 hP hD hS _ _ => ?_)
  obtain ⟨rfl, hu_1⟩ := hp_1
  cases hu_1
  refine lv_if_eq (tgt := 20) hx hb dX10_went_5 (by decide) (fun _ => ?_) (fun c_0 => absurd (by decide +kernel) c_0)
  refine lv_bipush (v := (-2)) hx hb dX10_went_20 (by decide +kernel) ?_
  exact z_iret (v := (-2)) hx hb hr hlocks hP hD hS dX10_went_22 rfl
set_option maxHeartbeats 4000000 in
set_option maxRecDepth 100000 in
theorem kX10_lies (l : Launch) (D : va_G) (q : Nat → Nat) (cA : Nat → ClassId)  (h : Int32)  : zMi l D vwCl (zXtys cA) 81 q (zXd q cA) yX10_lies cX10_lies 2 (some .int) ({ frames := 1, cells := 0, slots := 0, locals := 21 } : Room) [.ref (q 0), .int (h)] (zXI0, zXR0, zXJ0) (fun r _ => r = (-2)) := by
  intro sz
  refine z_body (by decide +kernel) (Nat.le_of_ble_eq_true rfl) (fun p e s m below meth c ls hx hb hml hr ht hown hlocks hsz hK hP hD hS hl => ?_)
  have hA : ∀ a, s.heap.size ≤ a → zA 81 q sz a := fun a h => Or.inr (hsz ▸ h)
  have hl : lv_has ls 2 [(0, .ref (q 0)), (1, .int (h))] := hl
  refine lv_aload_n hx hb dX10_lies_0 rfl (lv_at hl 0 rfl) ?_
  refine lv_iload_n hx hb dX10_lies_1 rfl (lv_at hl 1 rfl) ?_
  refine z_callVi (k := 0) (As := [.int (h)]) (rest := []) hx hb hml hown ht (kX10_isHouse l D q cA (h)) hw_3_59 hmX10_isHouse ⟨rfl, rfl⟩ (na := 1) rfl (by decide +kernel) (by decide) (by decide) rfl rfl hK hP hD hS hA hl.1 rfl (Nat.le_of_ble_eq_true rfl) ⟨Nat.zero_le _, Nat.zero_le _⟩ dX10_lies_2 (fun r_1 I_1 R_1 J_1 H locs hp_1 hP hD hS _ _ => ?_)
  obtain ⟨rfl, hu_1⟩ := hp_1
  cases hu_1
  refine lv_if_eq (tgt := 19) hx hb dX10_lies_5 (by decide) (fun _ => ?_) (fun c_0 => absurd (by decide +kernel) c_0)
  refine lv_bipush (v := (-2)) hx hb dX10_lies_19 (by decide +kernel) ?_
  exact z_iret (v := (-2)) hx hb hr hlocks hP hD hS dX10_lies_21 rfl
set_option maxHeartbeats 4000000 in
set_option maxRecDepth 100000 in
theorem kX10_poorest (l : Launch) (D : va_G) (q : Nat → Nat) (cA : Nat → ClassId)    : zMi l D vwCl (zXtys cA) 81 q (zXd q cA) yX10_poorest cX10_poorest 5 (some .int) ({ frames := 1, cells := 0, slots := 0, locals := 20 } : Room) [.ref (q 0)] (zXI0, zXR0, zXJ0) (fun r _ => r = (-2)) := by
  intro sz
  refine z_body (by decide +kernel) (Nat.le_of_ble_eq_true rfl) (fun p e s m below meth c ls hx hb hml hr ht hown hlocks hsz hK hP hD hS hl => ?_)
  have hA : ∀ a, s.heap.size ≤ a → zA 81 q sz a := fun a h => Or.inr (hsz ▸ h)
  have hl : lv_has ls 5 [(0, .ref (q 0))] := hl
  refine lv_aload_n hx hb dX10_poorest_0 rfl (lv_at hl 0 rfl) ?_
  refine z_callVi (k := 0) (As := []) (rest := []) hx hb hml hown ht (kX10_hasCity l D q cA ) hw_4_0 hmX10_hasCity ⟨rfl, rfl⟩ (na := 0) rfl (by decide +kernel) (by decide) (by decide) rfl rfl hK hP hD hS hA hl.1 rfl (Nat.le_of_ble_eq_true rfl) ⟨Nat.zero_le _, Nat.zero_le _⟩ dX10_poorest_1 (fun r_1 I_1 R_1 J_1 H locs hp_1 hP hD hS _ _ => ?_)
  obtain ⟨rfl, hu_1⟩ := hp_1
  cases hu_1
  refine lv_if_ne (tgt := 10) hx hb dX10_poorest_4 (by decide) (fun c_0 => absurd (by decide +kernel) c_0) (fun _ => ?_)
  refine lv_bipush (v := (-2)) hx hb dX10_poorest_7 (by decide +kernel) ?_
  exact z_iret (v := (-2)) hx hb hr hlocks hP hD hS dX10_poorest_9 rfl
set_option maxHeartbeats 4000000 in
set_option maxRecDepth 100000 in
theorem kX10_due (l : Launch) (D : va_G) (q : Nat → Nat) (cA : Nat → ClassId)  (d : Int32)  : zMi l D vwCl (zXtys cA) 81 q (zXd q cA) yX10_due cX10_due 2 (some .int) ({ frames := 1, cells := 0, slots := 0, locals := 20 } : Room) [.ref (q 0), .int (d)] (zXI0, zXR0, zXJ0) (fun r _ => r = (-2)) := by
  intro sz
  refine z_body (by decide +kernel) (Nat.le_of_ble_eq_true rfl) (fun p e s m below meth c ls hx hb hml hr ht hown hlocks hsz hK hP hD hS hl => ?_)
  have hA : ∀ a, s.heap.size ≤ a → zA 81 q sz a := fun a h => Or.inr (hsz ▸ h)
  have hl : lv_has ls 2 [(0, .ref (q 0)), (1, .int (d))] := hl
  refine lv_aload_n hx hb dX10_due_0 rfl (lv_at hl 0 rfl) ?_
  refine z_callVi (k := 0) (As := []) (rest := []) hx hb hml hown ht (kX10_hasCity l D q cA ) hw_4_0 hmX10_hasCity ⟨rfl, rfl⟩ (na := 0) rfl (by decide +kernel) (by decide) (by decide) rfl rfl hK hP hD hS hA hl.1 rfl (Nat.le_of_ble_eq_true rfl) ⟨Nat.zero_le _, Nat.zero_le _⟩ dX10_due_1 (fun r_1 I_1 R_1 J_1 H locs hp_1 hP hD hS _ _ => ?_)
  obtain ⟨rfl, hu_1⟩ := hp_1
  cases hu_1
  refine lv_if_eq (tgt := 17) hx hb dX10_due_4 (by decide) (fun _ => ?_) (fun c_0 => absurd (by decide +kernel) c_0)
  refine lv_bipush (v := (-2)) hx hb dX10_due_17 (by decide +kernel) ?_
  exact z_iret (v := (-2)) hx hb hr hlocks hP hD hS dX10_due_19 rfl
set_option maxHeartbeats 4000000 in
set_option maxRecDepth 100000 in
theorem kX10_monday (l : Launch) (D : va_G) (q : Nat → Nat) (cA : Nat → ClassId)    : zMi l D vwCl (zXtys cA) 81 q (zXd q cA) yX10_monday cX10_monday 5 (some .int) ({ frames := 1, cells := 0, slots := 0, locals := 20 } : Room) [.ref (q 0)] (zXI0, zXR0, zXJ0) (fun r _ => r = (-2)) := by
  intro sz
  refine z_body (by decide +kernel) (Nat.le_of_ble_eq_true rfl) (fun p e s m below meth c ls hx hb hml hr ht hown hlocks hsz hK hP hD hS hl => ?_)
  have hA : ∀ a, s.heap.size ≤ a → zA 81 q sz a := fun a h => Or.inr (hsz ▸ h)
  have hl : lv_has ls 5 [(0, .ref (q 0))] := hl
  refine lv_aload_n hx hb dX10_monday_0 rfl (lv_at hl 0 rfl) ?_
  refine z_callVi (k := 0) (As := []) (rest := []) hx hb hml hown ht (kX10_hasCity l D q cA ) hw_4_0 hmX10_hasCity ⟨rfl, rfl⟩ (na := 0) rfl (by decide +kernel) (by decide) (by decide) rfl rfl hK hP hD hS hA hl.1 rfl (Nat.le_of_ble_eq_true rfl) ⟨Nat.zero_le _, Nat.zero_le _⟩ dX10_monday_1 (fun r_1 I_1 R_1 J_1 H locs hp_1 hP hD hS _ _ => ?_)
  obtain ⟨rfl, hu_1⟩ := hp_1
  cases hu_1
  refine lv_if_ne (tgt := 10) hx hb dX10_monday_4 (by decide) (fun c_0 => absurd (by decide +kernel) c_0) (fun _ => ?_)
  refine lv_bipush (v := (-2)) hx hb dX10_monday_7 (by decide +kernel) ?_
  exact z_iret (v := (-2)) hx hb hr hlocks hP hD hS dX10_monday_9 rfl
set_option maxHeartbeats 4000000 in
set_option maxRecDepth 100000 in
theorem kX10_lacks (l : Launch) (D : va_G) (q : Nat → Nat) (cA : Nat → ClassId)  (h : Int32)  : zMi l D vwCl (zXtys cA) 81 q (zXd q cA) yX10_lacks cX10_lacks 2 (some .int) ({ frames := 1, cells := 0, slots := 0, locals := 21 } : Room) [.ref (q 0), .int (h)] (zXI0, zXR0, zXJ0) (fun r _ => r = (-2)) := by
  intro sz
  refine z_body (by decide +kernel) (Nat.le_of_ble_eq_true rfl) (fun p e s m below meth c ls hx hb hml hr ht hown hlocks hsz hK hP hD hS hl => ?_)
  have hA : ∀ a, s.heap.size ≤ a → zA 81 q sz a := fun a h => Or.inr (hsz ▸ h)
  have hl : lv_has ls 2 [(0, .ref (q 0)), (1, .int (h))] := hl
  refine lv_aload_n hx hb dX10_lacks_0 rfl (lv_at hl 0 rfl) ?_
  refine lv_iload_n hx hb dX10_lacks_1 rfl (lv_at hl 1 rfl) ?_
  refine z_callVi (k := 0) (As := [.int (h)]) (rest := []) hx hb hml hown ht (kX10_isHouse l D q cA (h)) hw_3_59 hmX10_isHouse ⟨rfl, rfl⟩ (na := 1) rfl (by decide +kernel) (by decide) (by decide) rfl rfl hK hP hD hS hA hl.1 rfl (Nat.le_of_ble_eq_true rfl) ⟨Nat.zero_le _, Nat.zero_le _⟩ dX10_lacks_2 (fun r_1 I_1 R_1 J_1 H locs hp_1 hP hD hS _ _ => ?_)
  obtain ⟨rfl, hu_1⟩ := hp_1
  cases hu_1
  refine lv_if_eq (tgt := 19) hx hb dX10_lacks_5 (by decide) (fun _ => ?_) (fun c_0 => absurd (by decide +kernel) c_0)
  refine lv_bipush (v := (-2)) hx hb dX10_lacks_19 (by decide +kernel) ?_
  exact z_iret (v := (-2)) hx hb hr hlocks hP hD hS dX10_lacks_21 rfl
set_option maxHeartbeats 4000000 in
set_option maxRecDepth 100000 in
theorem kX10_needs (l : Launch) (D : va_G) (q : Nat → Nat) (cA : Nat → ClassId)  (h : Int32)  : zMi l D vwCl (zXtys cA) 81 q (zXd q cA) yX10_needs cX10_needs 2 (some .int) ({ frames := 1, cells := 0, slots := 0, locals := 21 } : Room) [.ref (q 0), .int (h)] (zXI0, zXR0, zXJ0) (fun r _ => r = (-2)) := by
  intro sz
  refine z_body (by decide +kernel) (Nat.le_of_ble_eq_true rfl) (fun p e s m below meth c ls hx hb hml hr ht hown hlocks hsz hK hP hD hS hl => ?_)
  have hA : ∀ a, s.heap.size ≤ a → zA 81 q sz a := fun a h => Or.inr (hsz ▸ h)
  have hl : lv_has ls 2 [(0, .ref (q 0)), (1, .int (h))] := hl
  refine lv_aload_n hx hb dX10_needs_0 rfl (lv_at hl 0 rfl) ?_
  refine lv_iload_n hx hb dX10_needs_1 rfl (lv_at hl 1 rfl) ?_
  refine z_callVi (k := 0) (As := [.int (h)]) (rest := []) hx hb hml hown ht (kX10_isHouse l D q cA (h)) hw_3_59 hmX10_isHouse ⟨rfl, rfl⟩ (na := 1) rfl (by decide +kernel) (by decide) (by decide) rfl rfl hK hP hD hS hA hl.1 rfl (Nat.le_of_ble_eq_true rfl) ⟨Nat.zero_le _, Nat.zero_le _⟩ dX10_needs_2 (fun r_1 I_1 R_1 J_1 H locs hp_1 hP hD hS _ _ => ?_)
  obtain ⟨rfl, hu_1⟩ := hp_1
  cases hu_1
  refine lv_if_ne (tgt := 11) hx hb dX10_needs_5 (by decide) (fun c_0 => absurd (by decide +kernel) c_0) (fun _ => ?_)
  refine lv_bipush (v := (-2)) hx hb dX10_needs_8 (by decide +kernel) ?_
  exact z_iret (v := (-2)) hx hb hr hlocks hP hD hS dX10_needs_10 rfl
set_option maxHeartbeats 4000000 in
set_option maxRecDepth 100000 in
theorem kX10_fails (l : Launch) (D : va_G) (q : Nat → Nat) (cA : Nat → ClassId)  (n : Int32)  : zMi l D vwCl (zXtys cA) 81 q (zXd q cA) yX10_fails cX10_fails 2 (some .int) ({ frames := 1, cells := 0, slots := 0, locals := 20 } : Room) [.ref (q 0), .int (n)] (zXI0, zXR0, zXJ0) (fun r _ => r = (-2)) := by
  intro sz
  refine z_body (by decide +kernel) (Nat.le_of_ble_eq_true rfl) (fun p e s m below meth c ls hx hb hml hr ht hown hlocks hsz hK hP hD hS hl => ?_)
  have hA : ∀ a, s.heap.size ≤ a → zA 81 q sz a := fun a h => Or.inr (hsz ▸ h)
  have hl : lv_has ls 2 [(0, .ref (q 0)), (1, .int (n))] := hl
  refine lv_aload_n hx hb dX10_fails_0 rfl (lv_at hl 0 rfl) ?_
  refine z_callVi (k := 0) (As := []) (rest := []) hx hb hml hown ht (kX10_hasCity l D q cA ) hw_4_0 hmX10_hasCity ⟨rfl, rfl⟩ (na := 0) rfl (by decide +kernel) (by decide) (by decide) rfl rfl hK hP hD hS hA hl.1 rfl (Nat.le_of_ble_eq_true rfl) ⟨Nat.zero_le _, Nat.zero_le _⟩ dX10_fails_1 (fun r_1 I_1 R_1 J_1 H locs hp_1 hP hD hS _ _ => ?_)
  obtain ⟨rfl, hu_1⟩ := hp_1
  cases hu_1
  refine lv_if_eq (tgt := 22) hx hb dX10_fails_4 (by decide) (fun _ => ?_) (fun c_0 => absurd (by decide +kernel) c_0)
  refine lv_bipush (v := (-2)) hx hb dX10_fails_22 (by decide +kernel) ?_
  exact z_iret (v := (-2)) hx hb hr hlocks hP hD hS dX10_fails_24 rfl
set_option maxHeartbeats 4000000 in
set_option maxRecDepth 100000 in
theorem kX10_later (l : Launch) (D : va_G) (q : Nat → Nat) (cA : Nat → ClassId)  (t : Int32) (n : Int32)  : zMi l D vwCl (zXtys cA) 81 q (zXd q cA) yX10_later cX10_later 3 (some .int) ({ frames := 1, cells := 0, slots := 0, locals := 21 } : Room) [.ref (q 0), .int (t), .int (n)] (zXI0, zXR0, zXJ0) (fun r _ => r = (-2)) := by
  intro sz
  refine z_body (by decide +kernel) (Nat.le_of_ble_eq_true rfl) (fun p e s m below meth c ls hx hb hml hr ht hown hlocks hsz hK hP hD hS hl => ?_)
  have hA : ∀ a, s.heap.size ≤ a → zA 81 q sz a := fun a h => Or.inr (hsz ▸ h)
  have hl : lv_has ls 3 [(0, .ref (q 0)), (1, .int (t)), (2, .int (n))] := hl
  refine lv_aload_n hx hb dX10_later_0 rfl (lv_at hl 0 rfl) ?_
  refine lv_iload_n hx hb dX10_later_1 rfl (lv_at hl 1 rfl) ?_
  refine z_callVi (k := 0) (As := [.int (t)]) (rest := []) hx hb hml hown ht (kX10_isThing l D q cA (t)) hw_3_87 hmX10_isThing ⟨rfl, rfl⟩ (na := 1) rfl (by decide +kernel) (by decide) (by decide) rfl rfl hK hP hD hS hA hl.1 rfl (Nat.le_of_ble_eq_true rfl) ⟨Nat.zero_le _, Nat.zero_le _⟩ dX10_later_2 (fun r_1 I_1 R_1 J_1 H locs hp_1 hP hD hS _ _ => ?_)
  obtain ⟨rfl, hu_1⟩ := hp_1
  cases hu_1
  refine lv_if_eq (tgt := 15) hx hb dX10_later_5 (by decide) (fun _ => ?_) (fun c_0 => absurd (by decide +kernel) c_0)
  refine lv_bipush (v := (-2)) hx hb dX10_later_15 (by decide +kernel) ?_
  exact z_iret (v := (-2)) hx hb hr hlocks hP hD hS dX10_later_17 rfl
set_option maxHeartbeats 4000000 in
set_option maxRecDepth 100000 in
theorem kX10_purse (l : Launch) (D : va_G) (q : Nat → Nat) (cA : Nat → ClassId)  (h : Int32) (n : Int32)  : zMi l D vwCl (zXtys cA) 81 q (zXd q cA) yX10_purse cX10_purse 3 (some .int) ({ frames := 1, cells := 0, slots := 0, locals := 21 } : Room) [.ref (q 0), .int (h), .int (n)] (zXI0, zXR0, zXJ0) (fun r _ => r = (-2)) := by
  intro sz
  refine z_body (by decide +kernel) (Nat.le_of_ble_eq_true rfl) (fun p e s m below meth c ls hx hb hml hr ht hown hlocks hsz hK hP hD hS hl => ?_)
  have hA : ∀ a, s.heap.size ≤ a → zA 81 q sz a := fun a h => Or.inr (hsz ▸ h)
  have hl : lv_has ls 3 [(0, .ref (q 0)), (1, .int (h)), (2, .int (n))] := hl
  refine lv_aload_n hx hb dX10_purse_0 rfl (lv_at hl 0 rfl) ?_
  refine lv_iload_n hx hb dX10_purse_1 rfl (lv_at hl 1 rfl) ?_
  refine z_callVi (k := 0) (As := [.int (h)]) (rest := []) hx hb hml hown ht (kX10_isHouse l D q cA (h)) hw_3_59 hmX10_isHouse ⟨rfl, rfl⟩ (na := 1) rfl (by decide +kernel) (by decide) (by decide) rfl rfl hK hP hD hS hA hl.1 rfl (Nat.le_of_ble_eq_true rfl) ⟨Nat.zero_le _, Nat.zero_le _⟩ dX10_purse_2 (fun r_1 I_1 R_1 J_1 H locs hp_1 hP hD hS _ _ => ?_)
  obtain ⟨rfl, hu_1⟩ := hp_1
  cases hu_1
  refine lv_if_eq (tgt := 15) hx hb dX10_purse_5 (by decide) (fun _ => ?_) (fun c_0 => absurd (by decide +kernel) c_0)
  refine lv_bipush (v := (-2)) hx hb dX10_purse_15 (by decide +kernel) ?_
  exact z_iret (v := (-2)) hx hb hr hlocks hP hD hS dX10_purse_17 rfl
set_option maxHeartbeats 4000000 in
set_option maxRecDepth 100000 in
theorem kX10_run (l : Launch) (D : va_G) (q : Nat → Nat) (cA : Nat → ClassId)    : zMi l D vwCl (zXtys cA) 81 q (zXd q cA) yX10_run cX10_run 1 (some .int) ({ frames := 1, cells := 0, slots := 0, locals := 20 } : Room) [.ref (q 0)] (zXI0, zXR0, zXJ0) (fun r _ => r = (-2)) := by
  intro sz
  refine z_body (by decide +kernel) (Nat.le_of_ble_eq_true rfl) (fun p e s m below meth c ls hx hb hml hr ht hown hlocks hsz hK hP hD hS hl => ?_)
  have hA : ∀ a, s.heap.size ≤ a → zA 81 q sz a := fun a h => Or.inr (hsz ▸ h)
  have hl : lv_has ls 1 [(0, .ref (q 0))] := hl
  refine lv_aload_n hx hb dX10_run_0 rfl (lv_at hl 0 rfl) ?_
  refine z_callVi (k := 0) (As := []) (rest := []) hx hb hml hown ht (kX10_hasCity l D q cA ) hw_4_0 hmX10_hasCity ⟨rfl, rfl⟩ (na := 0) rfl (by decide +kernel) (by decide) (by decide) rfl rfl hK hP hD hS hA hl.1 rfl (Nat.le_of_ble_eq_true rfl) ⟨Nat.zero_le _, Nat.zero_le _⟩ dX10_run_1 (fun r_1 I_1 R_1 J_1 H locs hp_1 hP hD hS _ _ => ?_)
  obtain ⟨rfl, hu_1⟩ := hp_1
  cases hu_1
  refine lv_if_ne (tgt := 10) hx hb dX10_run_4 (by decide) (fun c_0 => absurd (by decide +kernel) c_0) (fun _ => ?_)
  refine lv_bipush (v := (-2)) hx hb dX10_run_7 (by decide +kernel) ?_
  exact z_iret (v := (-2)) hx hb hr hlocks hP hD hS dX10_run_9 rfl
set_option maxHeartbeats 4000000 in
set_option maxRecDepth 100000 in
theorem kX10_hit (l : Launch) (D : va_G) (q : Nat → Nat) (cA : Nat → ClassId)  (h : Int32)  : zMi l D vwCl (zXtys cA) 81 q (zXd q cA) yX10_hit cX10_hit 3 (some .int) ({ frames := 1, cells := 0, slots := 0, locals := 21 } : Room) [.ref (q 0), .int (h)] (zXI0, zXR0, zXJ0) (fun r _ => r = (-2)) := by
  intro sz
  refine z_body (by decide +kernel) (Nat.le_of_ble_eq_true rfl) (fun p e s m below meth c ls hx hb hml hr ht hown hlocks hsz hK hP hD hS hl => ?_)
  have hA : ∀ a, s.heap.size ≤ a → zA 81 q sz a := fun a h => Or.inr (hsz ▸ h)
  have hl : lv_has ls 3 [(0, .ref (q 0)), (1, .int (h))] := hl
  refine lv_aload_n hx hb dX10_hit_0 rfl (lv_at hl 0 rfl) ?_
  refine lv_iload_n hx hb dX10_hit_1 rfl (lv_at hl 1 rfl) ?_
  refine z_callVi (k := 0) (As := [.int (h)]) (rest := []) hx hb hml hown ht (kX10_isHouse l D q cA (h)) hw_3_59 hmX10_isHouse ⟨rfl, rfl⟩ (na := 1) rfl (by decide +kernel) (by decide) (by decide) rfl rfl hK hP hD hS hA hl.1 rfl (Nat.le_of_ble_eq_true rfl) ⟨Nat.zero_le _, Nat.zero_le _⟩ dX10_hit_2 (fun r_1 I_1 R_1 J_1 H locs hp_1 hP hD hS _ _ => ?_)
  obtain ⟨rfl, hu_1⟩ := hp_1
  cases hu_1
  refine lv_if_ne (tgt := 11) hx hb dX10_hit_5 (by decide) (fun c_0 => absurd (by decide +kernel) c_0) (fun _ => ?_)
  refine lv_bipush (v := (-2)) hx hb dX10_hit_8 (by decide +kernel) ?_
  exact z_iret (v := (-2)) hx hb hr hlocks hP hD hS dX10_hit_10 rfl
set_option maxHeartbeats 4000000 in
set_option maxRecDepth 100000 in
theorem kX10_hits (l : Launch) (D : va_G) (q : Nat → Nat) (cA : Nat → ClassId)  (h : Int32)  : zMi l D vwCl (zXtys cA) 81 q (zXd q cA) yX10_hits cX10_hits 2 (some .int) ({ frames := 1, cells := 0, slots := 0, locals := 21 } : Room) [.ref (q 0), .int (h)] (zXI0, zXR0, zXJ0) (fun r _ => r = (-2)) := by
  intro sz
  refine z_body (by decide +kernel) (Nat.le_of_ble_eq_true rfl) (fun p e s m below meth c ls hx hb hml hr ht hown hlocks hsz hK hP hD hS hl => ?_)
  have hA : ∀ a, s.heap.size ≤ a → zA 81 q sz a := fun a h => Or.inr (hsz ▸ h)
  have hl : lv_has ls 2 [(0, .ref (q 0)), (1, .int (h))] := hl
  refine lv_aload_n hx hb dX10_hits_0 rfl (lv_at hl 0 rfl) ?_
  refine lv_iload_n hx hb dX10_hits_1 rfl (lv_at hl 1 rfl) ?_
  refine z_callVi (k := 0) (As := [.int (h)]) (rest := []) hx hb hml hown ht (kX10_isHouse l D q cA (h)) hw_3_59 hmX10_isHouse ⟨rfl, rfl⟩ (na := 1) rfl (by decide +kernel) (by decide) (by decide) rfl rfl hK hP hD hS hA hl.1 rfl (Nat.le_of_ble_eq_true rfl) ⟨Nat.zero_le _, Nat.zero_le _⟩ dX10_hits_2 (fun r_1 I_1 R_1 J_1 H locs hp_1 hP hD hS _ _ => ?_)
  obtain ⟨rfl, hu_1⟩ := hp_1
  cases hu_1
  refine lv_if_eq (tgt := 16) hx hb dX10_hits_5 (by decide) (fun _ => ?_) (fun c_0 => absurd (by decide +kernel) c_0)
  refine lv_bipush (v := (-2)) hx hb dX10_hits_16 (by decide +kernel) ?_
  exact z_iret (v := (-2)) hx hb hr hlocks hP hD hS dX10_hits_18 rfl
set_option maxHeartbeats 4000000 in
set_option maxRecDepth 100000 in
theorem kX10_plan (l : Launch) (D : va_G) (q : Nat → Nat) (cA : Nat → ClassId)  (h : Int32) (n : Int32)  : zMi l D vwCl (zXtys cA) 81 q (zXd q cA) yX10_plan cX10_plan 6 (some .int) ({ frames := 1, cells := 0, slots := 0, locals := 21 } : Room) [.ref (q 0), .int (h), .int (n)] (zXI0, zXR0, zXJ0) (fun r _ => r = (-2)) := by
  intro sz
  refine z_body (by decide +kernel) (Nat.le_of_ble_eq_true rfl) (fun p e s m below meth c ls hx hb hml hr ht hown hlocks hsz hK hP hD hS hl => ?_)
  have hA : ∀ a, s.heap.size ≤ a → zA 81 q sz a := fun a h => Or.inr (hsz ▸ h)
  have hl : lv_has ls 6 [(0, .ref (q 0)), (1, .int (h)), (2, .int (n))] := hl
  refine lv_aload_n hx hb dX10_plan_0 rfl (lv_at hl 0 rfl) ?_
  refine lv_iload_n hx hb dX10_plan_1 rfl (lv_at hl 1 rfl) ?_
  refine z_callVi (k := 0) (As := [.int (h)]) (rest := []) hx hb hml hown ht (kX10_isHouse l D q cA (h)) hw_3_59 hmX10_isHouse ⟨rfl, rfl⟩ (na := 1) rfl (by decide +kernel) (by decide) (by decide) rfl rfl hK hP hD hS hA hl.1 rfl (Nat.le_of_ble_eq_true rfl) ⟨Nat.zero_le _, Nat.zero_le _⟩ dX10_plan_2 (fun r_1 I_1 R_1 J_1 H locs hp_1 hP hD hS _ _ => ?_)
  obtain ⟨rfl, hu_1⟩ := hp_1
  cases hu_1
  refine lv_if_eq (tgt := 18) hx hb dX10_plan_5 (by decide) (fun _ => ?_) (fun c_0 => absurd (by decide +kernel) c_0)
  refine lv_bipush (v := (-2)) hx hb dX10_plan_18 (by decide +kernel) ?_
  exact z_iret (v := (-2)) hx hb hr hlocks hP hD hS dX10_plan_20 rfl
set_option maxHeartbeats 4000000 in
set_option maxRecDepth 100000 in
theorem kX10_plans (l : Launch) (D : va_G) (q : Nat → Nat) (cA : Nat → ClassId)  (h : Int32) (n : Int32) (i : Int32)  : zMi l D vwCl (zXtys cA) 81 q (zXd q cA) yX10_plans cX10_plans 4 (some .int) ({ frames := 1, cells := 0, slots := 0, locals := 21 } : Room) [.ref (q 0), .int (h), .int (n), .int (i)] (zXI0, zXR0, zXJ0) (fun r _ => r = (-2)) := by
  intro sz
  refine z_body (by decide +kernel) (Nat.le_of_ble_eq_true rfl) (fun p e s m below meth c ls hx hb hml hr ht hown hlocks hsz hK hP hD hS hl => ?_)
  have hA : ∀ a, s.heap.size ≤ a → zA 81 q sz a := fun a h => Or.inr (hsz ▸ h)
  have hl : lv_has ls 4 [(0, .ref (q 0)), (1, .int (h)), (2, .int (n)), (3, .int (i))] := hl
  refine lv_aload_n hx hb dX10_plans_0 rfl (lv_at hl 0 rfl) ?_
  refine lv_iload_n hx hb dX10_plans_1 rfl (lv_at hl 1 rfl) ?_
  refine z_callVi (k := 0) (As := [.int (h)]) (rest := []) hx hb hml hown ht (kX10_isHouse l D q cA (h)) hw_3_59 hmX10_isHouse ⟨rfl, rfl⟩ (na := 1) rfl (by decide +kernel) (by decide) (by decide) rfl rfl hK hP hD hS hA hl.1 rfl (Nat.le_of_ble_eq_true rfl) ⟨Nat.zero_le _, Nat.zero_le _⟩ dX10_plans_2 (fun r_1 I_1 R_1 J_1 H locs hp_1 hP hD hS _ _ => ?_)
  obtain ⟨rfl, hu_1⟩ := hp_1
  cases hu_1
  refine lv_if_eq (tgt := 18) hx hb dX10_plans_5 (by decide) (fun _ => ?_) (fun c_0 => absurd (by decide +kernel) c_0)
  refine lv_bipush (v := (-2)) hx hb dX10_plans_18 (by decide +kernel) ?_
  exact z_iret (v := (-2)) hx hb hr hlocks hP hD hS dX10_plans_20 rfl
set_option maxHeartbeats 4000000 in
set_option maxRecDepth 100000 in
theorem kX10_change (l : Launch) (D : va_G) (q : Nat → Nat) (cA : Nat → ClassId)  (h : Int32) (o : Int32)  : zMi l D vwCl (zXtys cA) 81 q (zXd q cA) yX10_change cX10_change 5 (some .int) ({ frames := 1, cells := 0, slots := 0, locals := 21 } : Room) [.ref (q 0), .int (h), .int (o)] (zXI0, zXR0, zXJ0) (fun r _ => r = (-2)) := by
  intro sz
  refine z_body (by decide +kernel) (Nat.le_of_ble_eq_true rfl) (fun p e s m below meth c ls hx hb hml hr ht hown hlocks hsz hK hP hD hS hl => ?_)
  have hA : ∀ a, s.heap.size ≤ a → zA 81 q sz a := fun a h => Or.inr (hsz ▸ h)
  have hl : lv_has ls 5 [(0, .ref (q 0)), (1, .int (h)), (2, .int (o))] := hl
  refine lv_aload_n hx hb dX10_change_0 rfl (lv_at hl 0 rfl) ?_
  refine lv_iload_n hx hb dX10_change_1 rfl (lv_at hl 1 rfl) ?_
  refine z_callVi (k := 0) (As := [.int (h)]) (rest := []) hx hb hml hown ht (kX10_isHouse l D q cA (h)) hw_3_59 hmX10_isHouse ⟨rfl, rfl⟩ (na := 1) rfl (by decide +kernel) (by decide) (by decide) rfl rfl hK hP hD hS hA hl.1 rfl (Nat.le_of_ble_eq_true rfl) ⟨Nat.zero_le _, Nat.zero_le _⟩ dX10_change_2 (fun r_1 I_1 R_1 J_1 H locs hp_1 hP hD hS _ _ => ?_)
  obtain ⟨rfl, hu_1⟩ := hp_1
  cases hu_1
  refine lv_if_eq (tgt := 21) hx hb dX10_change_5 (by decide) (fun _ => ?_) (fun c_0 => absurd (by decide +kernel) c_0)
  refine lv_bipush (v := (-2)) hx hb dX10_change_21 (by decide +kernel) ?_
  exact z_iret (v := (-2)) hx hb hr hlocks hP hD hS dX10_change_23 rfl
set_option maxHeartbeats 4000000 in
set_option maxRecDepth 100000 in
theorem kX10_deal (l : Launch) (D : va_G) (q : Nat → Nat) (cA : Nat → ClassId)    : zMi l D vwCl (zXtys cA) 81 q (zXd q cA) yX10_deal cX10_deal 1 (some .int) ({ frames := 1, cells := 0, slots := 0, locals := 20 } : Room) [.ref (q 0)] (zXI0, zXR0, zXJ0) (fun r _ => r = (-2)) := by
  intro sz
  refine z_body (by decide +kernel) (Nat.le_of_ble_eq_true rfl) (fun p e s m below meth c ls hx hb hml hr ht hown hlocks hsz hK hP hD hS hl => ?_)
  have hA : ∀ a, s.heap.size ≤ a → zA 81 q sz a := fun a h => Or.inr (hsz ▸ h)
  have hl : lv_has ls 1 [(0, .ref (q 0))] := hl
  refine lv_aload_n hx hb dX10_deal_0 rfl (lv_at hl 0 rfl) ?_
  refine z_callVi (k := 0) (As := []) (rest := []) hx hb hml hown ht (kX10_hasCity l D q cA ) hw_4_0 hmX10_hasCity ⟨rfl, rfl⟩ (na := 0) rfl (by decide +kernel) (by decide) (by decide) rfl rfl hK hP hD hS hA hl.1 rfl (Nat.le_of_ble_eq_true rfl) ⟨Nat.zero_le _, Nat.zero_le _⟩ dX10_deal_1 (fun r_1 I_1 R_1 J_1 H locs hp_1 hP hD hS _ _ => ?_)
  obtain ⟨rfl, hu_1⟩ := hp_1
  cases hu_1
  refine lv_if_eq (tgt := 21) hx hb dX10_deal_4 (by decide) (fun _ => ?_) (fun c_0 => absurd (by decide +kernel) c_0)
  refine lv_bipush (v := (-2)) hx hb dX10_deal_21 (by decide +kernel) ?_
  exact z_iret (v := (-2)) hx hb hr hlocks hP hD hS dX10_deal_23 rfl
set_option maxHeartbeats 4000000 in
set_option maxRecDepth 100000 in
theorem kX10_deals (l : Launch) (D : va_G) (q : Nat → Nat) (cA : Nat → ClassId)  (t : Int32)  : zMi l D vwCl (zXtys cA) 81 q (zXd q cA) yX10_deals cX10_deals 2 (some .int) ({ frames := 1, cells := 0, slots := 0, locals := 21 } : Room) [.ref (q 0), .int (t)] (zXI0, zXR0, zXJ0) (fun r _ => r = (-2)) := by
  intro sz
  refine z_body (by decide +kernel) (Nat.le_of_ble_eq_true rfl) (fun p e s m below meth c ls hx hb hml hr ht hown hlocks hsz hK hP hD hS hl => ?_)
  have hA : ∀ a, s.heap.size ≤ a → zA 81 q sz a := fun a h => Or.inr (hsz ▸ h)
  have hl : lv_has ls 2 [(0, .ref (q 0)), (1, .int (t))] := hl
  refine lv_aload_n hx hb dX10_deals_0 rfl (lv_at hl 0 rfl) ?_
  refine lv_iload_n hx hb dX10_deals_1 rfl (lv_at hl 1 rfl) ?_
  refine z_callVi (k := 0) (As := [.int (t)]) (rest := []) hx hb hml hown ht (kX10_isThing l D q cA (t)) hw_3_87 hmX10_isThing ⟨rfl, rfl⟩ (na := 1) rfl (by decide +kernel) (by decide) (by decide) rfl rfl hK hP hD hS hA hl.1 rfl (Nat.le_of_ble_eq_true rfl) ⟨Nat.zero_le _, Nat.zero_le _⟩ dX10_deals_2 (fun r_1 I_1 R_1 J_1 H locs hp_1 hP hD hS _ _ => ?_)
  obtain ⟨rfl, hu_1⟩ := hp_1
  cases hu_1
  refine lv_if_eq (tgt := 23) hx hb dX10_deals_5 (by decide) (fun _ => ?_) (fun c_0 => absurd (by decide +kernel) c_0)
  refine lv_bipush (v := (-2)) hx hb dX10_deals_23 (by decide +kernel) ?_
  exact z_iret (v := (-2)) hx hb hr hlocks hP hD hS dX10_deals_25 rfl
set_option maxHeartbeats 4000000 in
set_option maxRecDepth 100000 in
theorem kX10_rests (l : Launch) (D : va_G) (q : Nat → Nat) (cA : Nat → ClassId)  (x : Int32)  : zMi l D vwCl (zXtys cA) 81 q (zXd q cA) yX10_rests cX10_rests 4 (some .int) ({ frames := 1, cells := 0, slots := 0, locals := 20 } : Room) [.ref (q 0), .int (x)] (zXI0, zXR0, zXJ0) (fun r _ => r = (-2)) := by
  intro sz
  refine z_body (by decide +kernel) (Nat.le_of_ble_eq_true rfl) (fun p e s m below meth c ls hx hb hml hr ht hown hlocks hsz hK hP hD hS hl => ?_)
  have hA : ∀ a, s.heap.size ≤ a → zA 81 q sz a := fun a h => Or.inr (hsz ▸ h)
  have hl : lv_has ls 4 [(0, .ref (q 0)), (1, .int (x))] := hl
  refine lv_aload_n hx hb dX10_rests_0 rfl (lv_at hl 0 rfl) ?_
  refine z_callVi (k := 0) (As := []) (rest := []) hx hb hml hown ht (kX10_hasCity l D q cA ) hw_4_0 hmX10_hasCity ⟨rfl, rfl⟩ (na := 0) rfl (by decide +kernel) (by decide) (by decide) rfl rfl hK hP hD hS hA hl.1 rfl (Nat.le_of_ble_eq_true rfl) ⟨Nat.zero_le _, Nat.zero_le _⟩ dX10_rests_1 (fun r_1 I_1 R_1 J_1 H locs hp_1 hP hD hS _ _ => ?_)
  obtain ⟨rfl, hu_1⟩ := hp_1
  cases hu_1
  refine lv_if_eq (tgt := 14) hx hb dX10_rests_4 (by decide) (fun _ => ?_) (fun c_0 => absurd (by decide +kernel) c_0)
  refine lv_bipush (v := (-2)) hx hb dX10_rests_14 (by decide +kernel) ?_
  exact z_iret (v := (-2)) hx hb hr hlocks hP hD hS dX10_rests_16 rfl
set_option maxHeartbeats 4000000 in
set_option maxRecDepth 100000 in
theorem kX10_rest (l : Launch) (D : va_G) (q : Nat → Nat) (cA : Nat → ClassId)  (x : Int32)  : zMi l D vwCl (zXtys cA) 81 q (zXd q cA) yX10_rest cX10_rest 3 (some .int) ({ frames := 1, cells := 0, slots := 0, locals := 20 } : Room) [.ref (q 0), .int (x)] (zXI0, zXR0, zXJ0) (fun r _ => r = (-2)) := by
  intro sz
  refine z_body (by decide +kernel) (Nat.le_of_ble_eq_true rfl) (fun p e s m below meth c ls hx hb hml hr ht hown hlocks hsz hK hP hD hS hl => ?_)
  have hA : ∀ a, s.heap.size ≤ a → zA 81 q sz a := fun a h => Or.inr (hsz ▸ h)
  have hl : lv_has ls 3 [(0, .ref (q 0)), (1, .int (x))] := hl
  refine lv_aload_n hx hb dX10_rest_0 rfl (lv_at hl 0 rfl) ?_
  refine z_callVi (k := 0) (As := []) (rest := []) hx hb hml hown ht (kX10_hasCity l D q cA ) hw_4_0 hmX10_hasCity ⟨rfl, rfl⟩ (na := 0) rfl (by decide +kernel) (by decide) (by decide) rfl rfl hK hP hD hS hA hl.1 rfl (Nat.le_of_ble_eq_true rfl) ⟨Nat.zero_le _, Nat.zero_le _⟩ dX10_rest_1 (fun r_1 I_1 R_1 J_1 H locs hp_1 hP hD hS _ _ => ?_)
  obtain ⟨rfl, hu_1⟩ := hp_1
  cases hu_1
  refine lv_if_eq (tgt := 14) hx hb dX10_rest_4 (by decide) (fun _ => ?_) (fun c_0 => absurd (by decide +kernel) c_0)
  refine lv_bipush (v := (-2)) hx hb dX10_rest_14 (by decide +kernel) ?_
  exact z_iret (v := (-2)) hx hb hr hlocks hP hD hS dX10_rest_16 rfl
set_option maxHeartbeats 4000000 in
set_option maxRecDepth 100000 in
theorem kX10_dear (l : Launch) (D : va_G) (q : Nat → Nat) (cA : Nat → ClassId)    : zMi l D vwCl (zXtys cA) 81 q (zXd q cA) yX10_dear cX10_dear 3 (some .int) ({ frames := 1, cells := 0, slots := 0, locals := 20 } : Room) [.ref (q 0)] (zXI0, zXR0, zXJ0) (fun r _ => r = (-2)) := by
  intro sz
  refine z_body (by decide +kernel) (Nat.le_of_ble_eq_true rfl) (fun p e s m below meth c ls hx hb hml hr ht hown hlocks hsz hK hP hD hS hl => ?_)
  have hA : ∀ a, s.heap.size ≤ a → zA 81 q sz a := fun a h => Or.inr (hsz ▸ h)
  have hl : lv_has ls 3 [(0, .ref (q 0))] := hl
  refine lv_aload_n hx hb dX10_dear_0 rfl (lv_at hl 0 rfl) ?_
  refine z_callVi (k := 0) (As := []) (rest := []) hx hb hml hown ht (kX10_hasCity l D q cA ) hw_4_0 hmX10_hasCity ⟨rfl, rfl⟩ (na := 0) rfl (by decide +kernel) (by decide) (by decide) rfl rfl hK hP hD hS hA hl.1 rfl (Nat.le_of_ble_eq_true rfl) ⟨Nat.zero_le _, Nat.zero_le _⟩ dX10_dear_1 (fun r_1 I_1 R_1 J_1 H locs hp_1 hP hD hS _ _ => ?_)
  obtain ⟨rfl, hu_1⟩ := hp_1
  cases hu_1
  refine lv_if_ne (tgt := 10) hx hb dX10_dear_4 (by decide) (fun c_0 => absurd (by decide +kernel) c_0) (fun _ => ?_)
  refine lv_bipush (v := (-2)) hx hb dX10_dear_7 (by decide +kernel) ?_
  exact z_iret (v := (-2)) hx hb hr hlocks hP hD hS dX10_dear_9 rfl
set_option maxHeartbeats 4000000 in
set_option maxRecDepth 100000 in
theorem kX10_wrong (l : Launch) (D : va_G) (q : Nat → Nat) (cA : Nat → ClassId)  (x : Int32)  : zMi l D vwCl (zXtys cA) 81 q (zXd q cA) yX10_wrong cX10_wrong 3 (some .int) ({ frames := 2, cells := 0, slots := 0, locals := 42 } : Room) [.ref (q 0), .int (x)] (zXI0, zXR0, zXJ0) (fun r _ => r = (-2)) := by
  intro sz
  refine z_body (by decide +kernel) (Nat.le_of_ble_eq_true rfl) (fun p e s m below meth c ls hx hb hml hr ht hown hlocks hsz hK hP hD hS hl => ?_)
  have hA : ∀ a, s.heap.size ≤ a → zA 81 q sz a := fun a h => Or.inr (hsz ▸ h)
  have hl : lv_has ls 3 [(0, .ref (q 0)), (1, .int (x))] := hl
  refine lv_aload_n hx hb dX10_wrong_0 rfl (lv_at hl 0 rfl) ?_
  refine lv_iload_n hx hb dX10_wrong_1 rfl (lv_at hl 1 rfl) ?_
  refine z_callVi (k := 0) (As := [.int (x)]) (rest := []) hx hb hml hown ht (kX10_look l D q cA (x)) hw_5_56 hmX10_look ⟨rfl, rfl⟩ (na := 1) rfl (by decide +kernel) (by decide) (by decide) rfl rfl hK hP hD hS hA hl.1 rfl (Nat.le_of_ble_eq_true rfl) ⟨Nat.zero_le _, Nat.zero_le _⟩ dX10_wrong_2 (fun r_1 I_1 R_1 J_1 H locs hp_1 hP hD hS _ _ => ?_)
  obtain ⟨rfl, hu_1⟩ := hp_1
  cases hu_1
  refine lv_istore_n (lv' := [(2, .int ((-2))), (0, .ref (q 0)), (1, .int (x))]) hx hb dX10_wrong_5 rfl hl (by decide) rfl (fun ls hl => ?_)
  refine lv_iload_n hx hb dX10_wrong_6 rfl (lv_at hl 0 rfl) ?_
  refine lv_if_ne (tgt := 20) hx hb dX10_wrong_7 (by decide) (fun _ => ?_) (fun c_0 => absurd c_0 (by decide +kernel))
  refine lv_iload_n hx hb dX10_wrong_20 rfl (lv_at hl 0 rfl) ?_
  exact z_iret (v := (-2)) hx hb hr hlocks hP hD hS dX10_wrong_21 rfl
set_option maxHeartbeats 4000000 in
set_option maxRecDepth 100000 in
theorem kX10_forged (l : Launch) (D : va_G) (q : Nat → Nat) (cA : Nat → ClassId)  (x : Int32)  : zMi l D vwCl (zXtys cA) 81 q (zXd q cA) yX10_forged cX10_forged 3 (some .int) ({ frames := 2, cells := 0, slots := 0, locals := 42 } : Room) [.ref (q 0), .int (x)] (zXI0, zXR0, zXJ0) (fun r _ => r = (-2)) := by
  intro sz
  refine z_body (by decide +kernel) (Nat.le_of_ble_eq_true rfl) (fun p e s m below meth c ls hx hb hml hr ht hown hlocks hsz hK hP hD hS hl => ?_)
  have hA : ∀ a, s.heap.size ≤ a → zA 81 q sz a := fun a h => Or.inr (hsz ▸ h)
  have hl : lv_has ls 3 [(0, .ref (q 0)), (1, .int (x))] := hl
  refine lv_aload_n hx hb dX10_forged_0 rfl (lv_at hl 0 rfl) ?_
  refine lv_iload_n hx hb dX10_forged_1 rfl (lv_at hl 1 rfl) ?_
  refine z_callVi (k := 0) (As := [.int (x)]) (rest := []) hx hb hml hown ht (kX10_look l D q cA (x)) hw_5_56 hmX10_look ⟨rfl, rfl⟩ (na := 1) rfl (by decide +kernel) (by decide) (by decide) rfl rfl hK hP hD hS hA hl.1 rfl (Nat.le_of_ble_eq_true rfl) ⟨Nat.zero_le _, Nat.zero_le _⟩ dX10_forged_2 (fun r_1 I_1 R_1 J_1 H locs hp_1 hP hD hS _ _ => ?_)
  obtain ⟨rfl, hu_1⟩ := hp_1
  cases hu_1
  refine lv_istore_n (lv' := [(2, .int ((-2))), (0, .ref (q 0)), (1, .int (x))]) hx hb dX10_forged_5 rfl hl (by decide) rfl (fun ls hl => ?_)
  refine lv_iload_n hx hb dX10_forged_6 rfl (lv_at hl 0 rfl) ?_
  refine lv_if_ne (tgt := 20) hx hb dX10_forged_7 (by decide) (fun _ => ?_) (fun c_0 => absurd c_0 (by decide +kernel))
  refine lv_iload_n hx hb dX10_forged_20 rfl (lv_at hl 0 rfl) ?_
  exact z_iret (v := (-2)) hx hb hr hlocks hP hD hS dX10_forged_21 rfl
set_option maxHeartbeats 4000000 in
set_option maxRecDepth 100000 in
theorem kX10_argued (l : Launch) (D : va_G) (q : Nat → Nat) (cA : Nat → ClassId)  (x : Int32)  : zMi l D vwCl (zXtys cA) 81 q (zXd q cA) yX10_argued cX10_argued 3 (some .int) ({ frames := 2, cells := 0, slots := 0, locals := 42 } : Room) [.ref (q 0), .int (x)] (zXI0, zXR0, zXJ0) (fun r _ => r = (-2)) := by
  intro sz
  refine z_body (by decide +kernel) (Nat.le_of_ble_eq_true rfl) (fun p e s m below meth c ls hx hb hml hr ht hown hlocks hsz hK hP hD hS hl => ?_)
  have hA : ∀ a, s.heap.size ≤ a → zA 81 q sz a := fun a h => Or.inr (hsz ▸ h)
  have hl : lv_has ls 3 [(0, .ref (q 0)), (1, .int (x))] := hl
  refine lv_aload_n hx hb dX10_argued_0 rfl (lv_at hl 0 rfl) ?_
  refine lv_iload_n hx hb dX10_argued_1 rfl (lv_at hl 1 rfl) ?_
  refine z_callVi (k := 0) (As := [.int (x)]) (rest := []) hx hb hml hown ht (kX10_look l D q cA (x)) hw_5_56 hmX10_look ⟨rfl, rfl⟩ (na := 1) rfl (by decide +kernel) (by decide) (by decide) rfl rfl hK hP hD hS hA hl.1 rfl (Nat.le_of_ble_eq_true rfl) ⟨Nat.zero_le _, Nat.zero_le _⟩ dX10_argued_2 (fun r_1 I_1 R_1 J_1 H locs hp_1 hP hD hS _ _ => ?_)
  obtain ⟨rfl, hu_1⟩ := hp_1
  cases hu_1
  refine lv_istore_n (lv' := [(2, .int ((-2))), (0, .ref (q 0)), (1, .int (x))]) hx hb dX10_argued_5 rfl hl (by decide) rfl (fun ls hl => ?_)
  refine lv_iload_n hx hb dX10_argued_6 rfl (lv_at hl 0 rfl) ?_
  refine lv_if_ne (tgt := 20) hx hb dX10_argued_7 (by decide) (fun _ => ?_) (fun c_0 => absurd c_0 (by decide +kernel))
  refine lv_iload_n hx hb dX10_argued_20 rfl (lv_at hl 0 rfl) ?_
  exact z_iret (v := (-2)) hx hb hr hlocks hP hD hS dX10_argued_21 rfl
set_option maxHeartbeats 4000000 in
set_option maxRecDepth 100000 in
theorem kX10_drawn (l : Launch) (D : va_G) (q : Nat → Nat) (cA : Nat → ClassId)  (x : Int32) (n : Int32) (w : Int32)  : zMi l D vwCl (zXtys cA) 81 q (zXd q cA) yX10_drawn cX10_drawn 5 (some .int) ({ frames := 1, cells := 0, slots := 0, locals := 20 } : Room) [.ref (q 0), .int (x), .int (n), .int (w)] (zXI0, zXR0, zXJ0) (fun r _ => r = (-2)) := by
  intro sz
  refine z_body (by decide +kernel) (Nat.le_of_ble_eq_true rfl) (fun p e s m below meth c ls hx hb hml hr ht hown hlocks hsz hK hP hD hS hl => ?_)
  have hA : ∀ a, s.heap.size ≤ a → zA 81 q sz a := fun a h => Or.inr (hsz ▸ h)
  have hl : lv_has ls 5 [(0, .ref (q 0)), (1, .int (x)), (2, .int (n)), (3, .int (w))] := hl
  refine lv_aload_n hx hb dX10_drawn_0 rfl (lv_at hl 0 rfl) ?_
  refine z_callVi (k := 0) (As := []) (rest := []) hx hb hml hown ht (kX10_hasCity l D q cA ) hw_4_0 hmX10_hasCity ⟨rfl, rfl⟩ (na := 0) rfl (by decide +kernel) (by decide) (by decide) rfl rfl hK hP hD hS hA hl.1 rfl (Nat.le_of_ble_eq_true rfl) ⟨Nat.zero_le _, Nat.zero_le _⟩ dX10_drawn_1 (fun r_1 I_1 R_1 J_1 H locs hp_1 hP hD hS _ _ => ?_)
  obtain ⟨rfl, hu_1⟩ := hp_1
  cases hu_1
  refine lv_if_eq (tgt := 24) hx hb dX10_drawn_4 (by decide) (fun _ => ?_) (fun c_0 => absurd (by decide +kernel) c_0)
  refine lv_bipush (v := (-2)) hx hb dX10_drawn_24 (by decide +kernel) ?_
  exact z_iret (v := (-2)) hx hb hr hlocks hP hD hS dX10_drawn_26 rfl
set_option maxHeartbeats 4000000 in
set_option maxRecDepth 100000 in
theorem kX10_luck (l : Launch) (D : va_G) (q : Nat → Nat) (cA : Nat → ClassId)  (x : Int32) (k : Int32) (n : Int32) (t : Int32) (h : Int32)  : zMi l D vwCl (zXtys cA) 81 q (zXd q cA) yX10_luck cX10_luck 8 (some .int) ({ frames := 1, cells := 0, slots := 0, locals := 21 } : Room) [.ref (q 0), .int (x), .int (k), .int (n), .int (t), .int (h)] (zXI0, zXR0, zXJ0) (fun r _ => r = (-2)) := by
  intro sz
  refine z_body (by decide +kernel) (Nat.le_of_ble_eq_true rfl) (fun p e s m below meth c ls hx hb hml hr ht hown hlocks hsz hK hP hD hS hl => ?_)
  have hA : ∀ a, s.heap.size ≤ a → zA 81 q sz a := fun a h => Or.inr (hsz ▸ h)
  have hl : lv_has ls 8 [(0, .ref (q 0)), (1, .int (x)), (2, .int (k)), (3, .int (n)), (4, .int (t)), (5, .int (h))] := hl
  refine lv_aload_n hx hb dX10_luck_0 rfl (lv_at hl 0 rfl) ?_
  refine lv_iload hx hb dX10_luck_1 (lv_at hl 4 rfl) ?_
  refine z_callVi (k := 0) (As := [.int (t)]) (rest := []) hx hb hml hown ht (kX10_isThing l D q cA (t)) hw_3_87 hmX10_isThing ⟨rfl, rfl⟩ (na := 1) rfl (by decide +kernel) (by decide) (by decide) rfl rfl hK hP hD hS hA hl.1 rfl (Nat.le_of_ble_eq_true rfl) ⟨Nat.zero_le _, Nat.zero_le _⟩ dX10_luck_3 (fun r_1 I_1 R_1 J_1 H locs hp_1 hP hD hS _ _ => ?_)
  obtain ⟨rfl, hu_1⟩ := hp_1
  cases hu_1
  refine lv_if_eq (tgt := 37) hx hb dX10_luck_6 (by decide) (fun _ => ?_) (fun c_0 => absurd (by decide +kernel) c_0)
  refine lv_bipush (v := (-2)) hx hb dX10_luck_37 (by decide +kernel) ?_
  exact z_iret (v := (-2)) hx hb hr hlocks hP hD hS dX10_luck_39 rfl
set_option maxHeartbeats 4000000 in
set_option maxRecDepth 100000 in
theorem kX10_rate (l : Launch) (D : va_G) (q : Nat → Nat) (cA : Nat → ClassId)  (t : Int32) (n : Int32)  : zMi l D vwCl (zXtys cA) 81 q (zXd q cA) yX10_rate cX10_rate 4 (some .int) ({ frames := 1, cells := 0, slots := 0, locals := 21 } : Room) [.ref (q 0), .int (t), .int (n)] (zXI0, zXR0, zXJ0) (fun r _ => r = (-2)) := by
  intro sz
  refine z_body (by decide +kernel) (Nat.le_of_ble_eq_true rfl) (fun p e s m below meth c ls hx hb hml hr ht hown hlocks hsz hK hP hD hS hl => ?_)
  have hA : ∀ a, s.heap.size ≤ a → zA 81 q sz a := fun a h => Or.inr (hsz ▸ h)
  have hl : lv_has ls 4 [(0, .ref (q 0)), (1, .int (t)), (2, .int (n))] := hl
  refine lv_aload_n hx hb dX10_rate_0 rfl (lv_at hl 0 rfl) ?_
  refine lv_iload_n hx hb dX10_rate_1 rfl (lv_at hl 1 rfl) ?_
  refine z_callVi (k := 0) (As := [.int (t)]) (rest := []) hx hb hml hown ht (kX10_isThing l D q cA (t)) hw_3_87 hmX10_isThing ⟨rfl, rfl⟩ (na := 1) rfl (by decide +kernel) (by decide) (by decide) rfl rfl hK hP hD hS hA hl.1 rfl (Nat.le_of_ble_eq_true rfl) ⟨Nat.zero_le _, Nat.zero_le _⟩ dX10_rate_2 (fun r_1 I_1 R_1 J_1 H locs hp_1 hP hD hS _ _ => ?_)
  obtain ⟨rfl, hu_1⟩ := hp_1
  cases hu_1
  refine lv_if_eq (tgt := 20) hx hb dX10_rate_5 (by decide) (fun _ => ?_) (fun c_0 => absurd (by decide +kernel) c_0)
  refine lv_bipush (v := (-2)) hx hb dX10_rate_20 (by decide +kernel) ?_
  exact z_iret (v := (-2)) hx hb hr hlocks hP hD hS dX10_rate_22 rfl
set_option maxHeartbeats 4000000 in
set_option maxRecDepth 100000 in
theorem kX10_want (l : Launch) (D : va_G) (q : Nat → Nat) (cA : Nat → ClassId)  (h : Int32) (t : Int32) (n : Int32)  : zMi l D vwCl (zXtys cA) 81 q (zXd q cA) yX10_want cX10_want 5 (some .int) ({ frames := 1, cells := 0, slots := 0, locals := 21 } : Room) [.ref (q 0), .int (h), .int (t), .int (n)] (zXI0, zXR0, zXJ0) (fun r _ => r = (-2)) := by
  intro sz
  refine z_body (by decide +kernel) (Nat.le_of_ble_eq_true rfl) (fun p e s m below meth c ls hx hb hml hr ht hown hlocks hsz hK hP hD hS hl => ?_)
  have hA : ∀ a, s.heap.size ≤ a → zA 81 q sz a := fun a h => Or.inr (hsz ▸ h)
  have hl : lv_has ls 5 [(0, .ref (q 0)), (1, .int (h)), (2, .int (t)), (3, .int (n))] := hl
  refine lv_aload_n hx hb dX10_want_0 rfl (lv_at hl 0 rfl) ?_
  refine lv_iload_n hx hb dX10_want_1 rfl (lv_at hl 1 rfl) ?_
  refine z_callVi (k := 0) (As := [.int (h)]) (rest := []) hx hb hml hown ht (kX10_isHouse l D q cA (h)) hw_3_59 hmX10_isHouse ⟨rfl, rfl⟩ (na := 1) rfl (by decide +kernel) (by decide) (by decide) rfl rfl hK hP hD hS hA hl.1 rfl (Nat.le_of_ble_eq_true rfl) ⟨Nat.zero_le _, Nat.zero_le _⟩ dX10_want_2 (fun r_1 I_1 R_1 J_1 H locs hp_1 hP hD hS _ _ => ?_)
  obtain ⟨rfl, hu_1⟩ := hp_1
  cases hu_1
  refine lv_if_eq (tgt := 27) hx hb dX10_want_5 (by decide) (fun _ => ?_) (fun c_0 => absurd (by decide +kernel) c_0)
  refine lv_bipush (v := (-2)) hx hb dX10_want_27 (by decide +kernel) ?_
  exact z_iret (v := (-2)) hx hb hr hlocks hP hD hS dX10_want_29 rfl
set_option maxHeartbeats 4000000 in
set_option maxRecDepth 100000 in
theorem kX10_end (l : Launch) (D : va_G) (q : Nat → Nat) (cA : Nat → ClassId)  (x : Int32)  : zMi l D vwCl (zXtys cA) 81 q (zXd q cA) yX10_end cX10_end 2 (some .int) ({ frames := 0, cells := 0, slots := 0, locals := 0 } : Room) [.ref (q 0), .int (x)] (zXI0, zXR0, zXJ0) (fun r _ => (x.toInt = 0 ∧ r = nI 0) ∨ (x.toInt ≠ 0 ∧ r = (-1))) := by
  intro sz
  refine z_body (by decide +kernel) (Nat.le_of_ble_eq_true rfl) (fun p e s m below meth c ls hx hb hml hr ht hown hlocks hsz hK hP hD hS hl => ?_)
  have hA : ∀ a, s.heap.size ≤ a → zA 81 q sz a := fun a h => Or.inr (hsz ▸ h)
  have hl : lv_has ls 2 [(0, .ref (q 0)), (1, .int (x))] := hl
  refine lv_iload_n hx hb dX10_end_0 rfl (lv_at hl 1 rfl) ?_
  refine lv_if_lt (tgt := 15) hx hb dX10_end_1 (by decide) (fun c_1 => ?_) (fun c_1 => ?_)
  · have kc_1_1 : (nI 0 : Int32).toInt = 0 := by decide +kernel
    have kc_1_2 : (0 : Int32).toInt = 0 := by decide +kernel
    have t_c_1 := z_ltT c_1
    refine lv_iconst (v := (-1)) hx hb dX10_end_15 (by decide +kernel) ?_
    exact z_iret (v := (-1)) hx hb hr hlocks hP hD hS dX10_end_16 (Or.inr ⟨by omega, rfl⟩)
  · have kc_1_1 : (nI 0 : Int32).toInt = 0 := by decide +kernel
    have kc_1_2 : (0 : Int32).toInt = 0 := by decide +kernel
    have t_c_1 := z_ltF c_1
    refine lv_iload_n hx hb dX10_end_4 rfl (lv_at hl 1 rfl) ?_
    refine lv_aload_n hx hb dX10_end_5 rfl (lv_at hl 0 rfl) ?_
    refine z_get hx hb ht hown hK hP ziX10 rfl 0 (by decide) 0 (by decide) hw_2_93 rfl (v := .ref (q 1)) rfl dX10_end_6 ?_
    refine z_get hx hb ht hown hK hP ziX7 rfl 1 (by decide) 1 (by decide) hw_1_37 rfl (v := .int (nI 0)) rfl dX10_end_9 ?_
    refine lv_icmp_le (tgt := 17) hx hb dX10_end_12 (by decide) (fun c_2 => ?_) (fun c_2 => ?_)
    · have kc_2_1 : (nI 0 : Int32).toInt = 0 := by decide +kernel
      have kc_2_2 : (0 : Int32).toInt = 0 := by decide +kernel
      have t_c_2 := z_leT c_2
      refine lv_aload_n hx hb dX10_end_17 rfl (lv_at hl 0 rfl) ?_
      refine z_get hx hb ht hown hK hP ziX10 rfl 0 (by decide) 0 (by decide) hw_2_93 rfl (v := .ref (q 1)) rfl dX10_end_18 ?_
      refine lv_iload_n hx hb dX10_end_21 rfl (lv_at hl 1 rfl) ?_
      refine z_putI hx hb ht hown hK hP hD hS ziX7 tyX7 tyX7_ok nmX7 rfl 1 (by decide) 1 (by decide) hw_1_37 rfl (v := x) rfl rfl rfl (Nat.le_of_ble_eq_true rfl) rfl dX10_end_22 (fun H locs hP hD hS => ?_)
      refine lv_iload_n hx hb dX10_end_25 rfl (lv_at hl 1 rfl) ?_
      exact z_iret (v := x) hx hb hr hlocks hP hD hS dX10_end_26 (Or.inl ⟨by omega, z_of (by omega) (by omega)⟩)
    · have kc_2_1 : (nI 0 : Int32).toInt = 0 := by decide +kernel
      have kc_2_2 : (0 : Int32).toInt = 0 := by decide +kernel
      have t_c_2 := z_leF c_2
      refine lv_iconst (v := (-1)) hx hb dX10_end_15 (by decide +kernel) ?_
      exact z_iret (v := (-1)) hx hb hr hlocks hP hD hS dX10_end_16 (Or.inr ⟨by omega, rfl⟩)
set_option maxHeartbeats 4000000 in
set_option maxRecDepth 100000 in
theorem kX10_fault (l : Launch) (D : va_G) (q : Nat → Nat) (cA : Nat → ClassId)  (x : Int32)  : zMi l D vwCl (zXtys cA) 81 q (zXd q cA) yX10_fault cX10_fault 2 (some .int) ({ frames := 0, cells := 0, slots := 0, locals := 0 } : Room) [.ref (q 0), .int (x)] (zXI0, zXR0, zXJ0) (fun r _ => (x.toInt = 0 ∧ r = nI 0) ∨ (x.toInt ≠ 0 ∧ r = (-1))) := by
  intro sz
  refine z_body (by decide +kernel) (Nat.le_of_ble_eq_true rfl) (fun p e s m below meth c ls hx hb hml hr ht hown hlocks hsz hK hP hD hS hl => ?_)
  have hA : ∀ a, s.heap.size ≤ a → zA 81 q sz a := fun a h => Or.inr (hsz ▸ h)
  have hl : lv_has ls 2 [(0, .ref (q 0)), (1, .int (x))] := hl
  refine lv_iload_n hx hb dX10_fault_0 rfl (lv_at hl 1 rfl) ?_
  refine lv_if_ne (tgt := 12) hx hb dX10_fault_1 (by decide) (fun c_1 => ?_) (fun c_1 => ?_)
  · have kc_1_1 : (nI 0 : Int32).toInt = 0 := by decide +kernel
    have kc_1_2 : (0 : Int32).toInt = 0 := by decide +kernel
    have t_c_1 := z_eqF c_1
    refine lv_iload_n hx hb dX10_fault_12 rfl (lv_at hl 1 rfl) ?_
    refine lv_iconst (v := nI 1) hx hb dX10_fault_13 (by decide +kernel) ?_
    refine lv_icmp_ne (tgt := 27) hx hb dX10_fault_14 (by decide) (fun c_2 => ?_) (fun c_2 => ?_)
    · have kc_2_1 : (nI 1 : Int32).toInt = 1 := by decide +kernel
      have t_c_2 := z_eqF c_2
      refine lv_iconst (v := (-1)) hx hb dX10_fault_27 (by decide +kernel) ?_
      exact z_iret (v := (-1)) hx hb hr hlocks hP hD hS dX10_fault_28 (Or.inr ⟨by omega, rfl⟩)
    · have kc_2_1 : (nI 1 : Int32).toInt = 1 := by decide +kernel
      have t_c_2 := z_eqT c_2
      refine lv_aload_n hx hb dX10_fault_17 rfl (lv_at hl 0 rfl) ?_
      refine z_get hx hb ht hown hK hP ziX10 rfl 0 (by decide) 0 (by decide) hw_2_93 rfl (v := .ref (q 1)) rfl dX10_fault_18 ?_
      refine z_get hx hb ht hown hK hP ziX7 rfl 1 (by decide) 3 (by decide) hw_1_41 rfl (v := .int ((-1))) rfl dX10_fault_21 ?_
      refine lv_goto (tgt := 28) hx hb dX10_fault_24 (by decide) ?_
      exact z_iret (v := (-1)) hx hb hr hlocks hP hD hS dX10_fault_28 (Or.inr ⟨by omega, rfl⟩)
  · have kc_1_1 : (nI 0 : Int32).toInt = 0 := by decide +kernel
    have kc_1_2 : (0 : Int32).toInt = 0 := by decide +kernel
    have t_c_1 := z_eqT c_1
    refine lv_aload_n hx hb dX10_fault_4 rfl (lv_at hl 0 rfl) ?_
    refine z_get hx hb ht hown hK hP ziX10 rfl 0 (by decide) 0 (by decide) hw_2_93 rfl (v := .ref (q 1)) rfl dX10_fault_5 ?_
    refine z_get hx hb ht hown hK hP ziX7 rfl 1 (by decide) 2 (by decide) hw_1_39 rfl (v := .int (nI 0)) rfl dX10_fault_8 ?_
    exact z_iret (v := nI 0) hx hb hr hlocks hP hD hS dX10_fault_11 (Or.inl ⟨by omega, rfl⟩)
set_option maxHeartbeats 4000000 in
set_option maxRecDepth 100000 in
theorem kX6_isThere_73 (l : Launch) (D : va_G) (q : Nat → Nat) (cA : Nat → ClassId)    : zMi l D vwCl (zXtys cA) 81 q (zXd q cA) yX6_isThere cX6_isThere 1 (some .boolean) ({ frames := 0, cells := 0, slots := 0, locals := 0 } : Room) [.ref (q 73)] (zXI0, zXR0, zXJ0) (fun r u => r = nI 0 ∧ u = (zXI0, zXR0, zXJ0)) := by
  intro sz
  refine z_body (by decide +kernel) (Nat.le_of_ble_eq_true rfl) (fun p e s m below meth c ls hx hb hml hr ht hown hlocks hsz hK hP hD hS hl => ?_)
  have hA : ∀ a, s.heap.size ≤ a → zA 81 q sz a := fun a h => Or.inr (hsz ▸ h)
  have hl : lv_has ls 1 [(0, .ref (q 73))] := hl
  refine lv_aload_n hx hb dX6_isThere_0 rfl (lv_at hl 0 rfl) ?_
  refine z_get hx hb ht hown hK hP ziX6 rfl 73 (by decide) 1 (by decide) hw_2_79 rfl (v := .int ((-1))) rfl dX6_isThere_1 ?_
  refine lv_iconst (v := (-1)) hx hb dX6_isThere_4 (by decide +kernel) ?_
  refine lv_icmp_eq (tgt := 12) hx hb dX6_isThere_5 (by decide) (fun _ => ?_) (fun c_0 => absurd (by decide +kernel) c_0)
  refine lv_iconst (v := nI 0) hx hb dX6_isThere_12 (by decide +kernel) ?_
  exact z_zret (v := nI 0) hx hb hr hlocks hP hD hS (by decide +kernel) dX6_isThere_13 ⟨rfl, rfl⟩
set_option maxHeartbeats 4000000 in
set_option maxRecDepth 100000 in
theorem kX6_isThere_75 (l : Launch) (D : va_G) (q : Nat → Nat) (cA : Nat → ClassId)    : zMi l D vwCl (zXtys cA) 81 q (zXd q cA) yX6_isThere cX6_isThere 1 (some .boolean) ({ frames := 0, cells := 0, slots := 0, locals := 0 } : Room) [.ref (q 75)] (zXI0, zXR0, zXJ0) (fun r u => r = nI 0 ∧ u = (zXI0, zXR0, zXJ0)) := by
  intro sz
  refine z_body (by decide +kernel) (Nat.le_of_ble_eq_true rfl) (fun p e s m below meth c ls hx hb hml hr ht hown hlocks hsz hK hP hD hS hl => ?_)
  have hA : ∀ a, s.heap.size ≤ a → zA 81 q sz a := fun a h => Or.inr (hsz ▸ h)
  have hl : lv_has ls 1 [(0, .ref (q 75))] := hl
  refine lv_aload_n hx hb dX6_isThere_0 rfl (lv_at hl 0 rfl) ?_
  refine z_get hx hb ht hown hK hP ziX6 rfl 75 (by decide) 1 (by decide) hw_2_79 rfl (v := .int ((-1))) rfl dX6_isThere_1 ?_
  refine lv_iconst (v := (-1)) hx hb dX6_isThere_4 (by decide +kernel) ?_
  refine lv_icmp_eq (tgt := 12) hx hb dX6_isThere_5 (by decide) (fun _ => ?_) (fun c_0 => absurd (by decide +kernel) c_0)
  refine lv_iconst (v := nI 0) hx hb dX6_isThere_12 (by decide +kernel) ?_
  exact z_zret (v := nI 0) hx hb hr hlocks hP hD hS (by decide +kernel) dX6_isThere_13 ⟨rfl, rfl⟩
set_option maxHeartbeats 4000000 in
set_option maxRecDepth 100000 in
theorem kX6_isThere_77 (l : Launch) (D : va_G) (q : Nat → Nat) (cA : Nat → ClassId)    : zMi l D vwCl (zXtys cA) 81 q (zXd q cA) yX6_isThere cX6_isThere 1 (some .boolean) ({ frames := 0, cells := 0, slots := 0, locals := 0 } : Room) [.ref (q 77)] (zXI0, zXR0, zXJ0) (fun r u => r = nI 0 ∧ u = (zXI0, zXR0, zXJ0)) := by
  intro sz
  refine z_body (by decide +kernel) (Nat.le_of_ble_eq_true rfl) (fun p e s m below meth c ls hx hb hml hr ht hown hlocks hsz hK hP hD hS hl => ?_)
  have hA : ∀ a, s.heap.size ≤ a → zA 81 q sz a := fun a h => Or.inr (hsz ▸ h)
  have hl : lv_has ls 1 [(0, .ref (q 77))] := hl
  refine lv_aload_n hx hb dX6_isThere_0 rfl (lv_at hl 0 rfl) ?_
  refine z_get hx hb ht hown hK hP ziX6 rfl 77 (by decide) 1 (by decide) hw_2_79 rfl (v := .int ((-1))) rfl dX6_isThere_1 ?_
  refine lv_iconst (v := (-1)) hx hb dX6_isThere_4 (by decide +kernel) ?_
  refine lv_icmp_eq (tgt := 12) hx hb dX6_isThere_5 (by decide) (fun _ => ?_) (fun c_0 => absurd (by decide +kernel) c_0)
  refine lv_iconst (v := nI 0) hx hb dX6_isThere_12 (by decide +kernel) ?_
  exact z_zret (v := nI 0) hx hb hr hlocks hP hD hS (by decide +kernel) dX6_isThere_13 ⟨rfl, rfl⟩
set_option maxHeartbeats 4000000 in
set_option maxRecDepth 100000 in
theorem kX6_isThere_79 (l : Launch) (D : va_G) (q : Nat → Nat) (cA : Nat → ClassId)    : zMi l D vwCl (zXtys cA) 81 q (zXd q cA) yX6_isThere cX6_isThere 1 (some .boolean) ({ frames := 0, cells := 0, slots := 0, locals := 0 } : Room) [.ref (q 79)] (zXI0, zXR0, zXJ0) (fun r u => r = nI 0 ∧ u = (zXI0, zXR0, zXJ0)) := by
  intro sz
  refine z_body (by decide +kernel) (Nat.le_of_ble_eq_true rfl) (fun p e s m below meth c ls hx hb hml hr ht hown hlocks hsz hK hP hD hS hl => ?_)
  have hA : ∀ a, s.heap.size ≤ a → zA 81 q sz a := fun a h => Or.inr (hsz ▸ h)
  have hl : lv_has ls 1 [(0, .ref (q 79))] := hl
  refine lv_aload_n hx hb dX6_isThere_0 rfl (lv_at hl 0 rfl) ?_
  refine z_get hx hb ht hown hK hP ziX6 rfl 79 (by decide) 1 (by decide) hw_2_79 rfl (v := .int ((-1))) rfl dX6_isThere_1 ?_
  refine lv_iconst (v := (-1)) hx hb dX6_isThere_4 (by decide +kernel) ?_
  refine lv_icmp_eq (tgt := 12) hx hb dX6_isThere_5 (by decide) (fun _ => ?_) (fun c_0 => absurd (by decide +kernel) c_0)
  refine lv_iconst (v := nI 0) hx hb dX6_isThere_12 (by decide +kernel) ?_
  exact z_zret (v := nI 0) hx hb hr hlocks hP hD hS (by decide +kernel) dX6_isThere_13 ⟨rfl, rfl⟩
set_option maxHeartbeats 4000000 in
set_option maxRecDepth 100000 in
theorem kX10_filledSlots (l : Launch) (D : va_G) (q : Nat → Nat) (cA : Nat → ClassId)    : zMi l D vwCl (zXtys cA) 81 q (zXd q cA) yX10_filledSlots cX10_filledSlots 3 (some .int) ({ frames := 1, cells := 0, slots := 0, locals := 20 } : Room) [.ref (q 0)] (zXI0, zXR0, zXJ0) (fun r u => r = nI 0 ∧ u = (zXI0, zXR0, zXJ0)) := by
  intro sz
  refine z_body (by decide +kernel) (Nat.le_of_ble_eq_true rfl) (fun p e s m below meth c ls hx hb hml hr ht hown hlocks hsz hK hP hD hS hl => ?_)
  have hA : ∀ a, s.heap.size ≤ a → zA 81 q sz a := fun a h => Or.inr (hsz ▸ h)
  have hl : lv_has ls 3 [(0, .ref (q 0))] := hl
  refine lv_iconst (v := nI 0) hx hb dX10_filledSlots_0 (by decide +kernel) ?_
  refine lv_istore_n (lv' := [(1, .int (nI 0)), (0, .ref (q 0))]) hx hb dX10_filledSlots_1 rfl hl (by decide) rfl (fun ls hl => ?_)
  refine lv_iconst (v := nI 0) hx hb dX10_filledSlots_2 (by decide +kernel) ?_
  refine lv_istore_n (lv' := [(2, .int (nI 0)), (1, .int (nI 0)), (0, .ref (q 0))]) hx hb dX10_filledSlots_3 rfl hl (by decide) rfl (fun ls hl => ?_)
  refine lv_iload_n hx hb dX10_filledSlots_4 rfl (lv_at hl 0 rfl) ?_
  refine lv_iconst (v := nI 4) hx hb dX10_filledSlots_5 (by decide +kernel) ?_
  refine lv_icmp_ge (tgt := 35) hx hb dX10_filledSlots_6 (by decide) (fun c_0 => absurd c_0 (by decide +kernel)) (fun _ => ?_)
  refine lv_iload_n hx hb dX10_filledSlots_9 rfl (lv_at hl 1 rfl) ?_
  refine lv_aload_n hx hb dX10_filledSlots_10 rfl (lv_at hl 2 rfl) ?_
  refine z_get hx hb ht hown hK hP ziX10 rfl 0 (by decide) 11 (by decide) hw_2_104 rfl (v := .ref (q 72)) rfl dX10_filledSlots_11 ?_
  refine lv_iload_n hx hb dX10_filledSlots_14 rfl (lv_at hl 0 rfl) ?_
  refine va_aldq hx hb hK hP 72 52 (zw_at (by decide) rfl) rfl (vp_in_nI (by decide) (by decide)) dX10_filledSlots_15 ?_
  refine W.eq (g2 := F0 m 16 ls (.ref (q 73) :: [.int (nI 0)])) rfl ?_
  refine z_callVi (k := 73) (As := []) (rest := [.int (nI 0)]) hx hb hml hown ht (kX6_isThere_73 l D q cA ) hw_5_63 hmX6_isThere ⟨rfl, rfl⟩ (na := 0) rfl (by decide +kernel) (by decide) (by decide) rfl rfl hK hP hD hS hA hl.1 rfl (Nat.le_of_ble_eq_true rfl) ⟨Nat.zero_le _, Nat.zero_le _⟩ dX10_filledSlots_16 (fun r_1 I_1 R_1 J_1 H locs hp_1 hP hD hS _ _ => ?_)
  obtain ⟨rfl, hu_1⟩ := hp_1
  cases hu_1
  refine lv_if_eq (tgt := 26) hx hb dX10_filledSlots_19 (by decide) (fun _ => ?_) (fun c_0 => absurd (by decide +kernel) c_0)
  refine lv_iconst (v := nI 0) hx hb dX10_filledSlots_26 (by decide +kernel) ?_
  refine lv_iadd hx hb dX10_filledSlots_27 ?_
  refine z_eqi (y := nI 0) (by decide +kernel) ?_
  refine lv_istore_n (lv' := [(1, .int (nI 0)), (2, .int (nI 0)), (0, .ref (q 0))]) hx hb dX10_filledSlots_28 rfl hl (by decide) rfl (fun ls hl => ?_)
  refine lv_iinc (v := nI 1) (lv' := [(2, .int (nI 1)), (1, .int (nI 0)), (0, .ref (q 0))]) hx hb dX10_filledSlots_29 hl (k := 1) rfl (by decide +kernel) (by decide) rfl (fun ls hl => ?_)
  refine lv_goto (tgt := 4) hx hb dX10_filledSlots_32 (by decide) ?_
  refine lv_iload_n hx hb dX10_filledSlots_4 rfl (lv_at hl 0 rfl) ?_
  refine lv_iconst (v := nI 4) hx hb dX10_filledSlots_5 (by decide +kernel) ?_
  refine lv_icmp_ge (tgt := 35) hx hb dX10_filledSlots_6 (by decide) (fun c_0 => absurd c_0 (by decide +kernel)) (fun _ => ?_)
  refine lv_iload_n hx hb dX10_filledSlots_9 rfl (lv_at hl 1 rfl) ?_
  refine lv_aload_n hx hb dX10_filledSlots_10 rfl (lv_at hl 2 rfl) ?_
  refine z_get hx hb ht hown hK hP ziX10 rfl 0 (by decide) 11 (by decide) hw_2_104 rfl (v := .ref (q 72)) rfl dX10_filledSlots_11 ?_
  refine lv_iload_n hx hb dX10_filledSlots_14 rfl (lv_at hl 0 rfl) ?_
  refine va_aldq hx hb hK hP 72 52 (zw_at (by decide) rfl) rfl (vp_in_nI (by decide) (by decide)) dX10_filledSlots_15 ?_
  refine W.eq (g2 := F0 m 16 ls (.ref (q 75) :: [.int (nI 0)])) rfl ?_
  refine z_callVi (k := 75) (As := []) (rest := [.int (nI 0)]) hx hb hml hown ht (kX6_isThere_75 l D q cA ) hw_5_63 hmX6_isThere ⟨rfl, rfl⟩ (na := 0) rfl (by decide +kernel) (by decide) (by decide) rfl rfl hK hP hD hS hA hl.1 rfl (Nat.le_of_ble_eq_true rfl) ⟨Nat.zero_le _, Nat.zero_le _⟩ dX10_filledSlots_16 (fun r_2 I_2 R_2 J_2 H locs hp_2 hP hD hS _ _ => ?_)
  obtain ⟨rfl, hu_2⟩ := hp_2
  cases hu_2
  refine lv_if_eq (tgt := 26) hx hb dX10_filledSlots_19 (by decide) (fun _ => ?_) (fun c_0 => absurd (by decide +kernel) c_0)
  refine lv_iconst (v := nI 0) hx hb dX10_filledSlots_26 (by decide +kernel) ?_
  refine lv_iadd hx hb dX10_filledSlots_27 ?_
  refine z_eqi (y := nI 0) (by decide +kernel) ?_
  refine lv_istore_n (lv' := [(1, .int (nI 0)), (2, .int (nI 1)), (0, .ref (q 0))]) hx hb dX10_filledSlots_28 rfl hl (by decide) rfl (fun ls hl => ?_)
  refine lv_iinc (v := nI 2) (lv' := [(2, .int (nI 2)), (1, .int (nI 0)), (0, .ref (q 0))]) hx hb dX10_filledSlots_29 hl (k := 1) rfl (by decide +kernel) (by decide) rfl (fun ls hl => ?_)
  refine lv_goto (tgt := 4) hx hb dX10_filledSlots_32 (by decide) ?_
  refine lv_iload_n hx hb dX10_filledSlots_4 rfl (lv_at hl 0 rfl) ?_
  refine lv_iconst (v := nI 4) hx hb dX10_filledSlots_5 (by decide +kernel) ?_
  refine lv_icmp_ge (tgt := 35) hx hb dX10_filledSlots_6 (by decide) (fun c_0 => absurd c_0 (by decide +kernel)) (fun _ => ?_)
  refine lv_iload_n hx hb dX10_filledSlots_9 rfl (lv_at hl 1 rfl) ?_
  refine lv_aload_n hx hb dX10_filledSlots_10 rfl (lv_at hl 2 rfl) ?_
  refine z_get hx hb ht hown hK hP ziX10 rfl 0 (by decide) 11 (by decide) hw_2_104 rfl (v := .ref (q 72)) rfl dX10_filledSlots_11 ?_
  refine lv_iload_n hx hb dX10_filledSlots_14 rfl (lv_at hl 0 rfl) ?_
  refine va_aldq hx hb hK hP 72 52 (zw_at (by decide) rfl) rfl (vp_in_nI (by decide) (by decide)) dX10_filledSlots_15 ?_
  refine W.eq (g2 := F0 m 16 ls (.ref (q 77) :: [.int (nI 0)])) rfl ?_
  refine z_callVi (k := 77) (As := []) (rest := [.int (nI 0)]) hx hb hml hown ht (kX6_isThere_77 l D q cA ) hw_5_63 hmX6_isThere ⟨rfl, rfl⟩ (na := 0) rfl (by decide +kernel) (by decide) (by decide) rfl rfl hK hP hD hS hA hl.1 rfl (Nat.le_of_ble_eq_true rfl) ⟨Nat.zero_le _, Nat.zero_le _⟩ dX10_filledSlots_16 (fun r_3 I_3 R_3 J_3 H locs hp_3 hP hD hS _ _ => ?_)
  obtain ⟨rfl, hu_3⟩ := hp_3
  cases hu_3
  refine lv_if_eq (tgt := 26) hx hb dX10_filledSlots_19 (by decide) (fun _ => ?_) (fun c_0 => absurd (by decide +kernel) c_0)
  refine lv_iconst (v := nI 0) hx hb dX10_filledSlots_26 (by decide +kernel) ?_
  refine lv_iadd hx hb dX10_filledSlots_27 ?_
  refine z_eqi (y := nI 0) (by decide +kernel) ?_
  refine lv_istore_n (lv' := [(1, .int (nI 0)), (2, .int (nI 2)), (0, .ref (q 0))]) hx hb dX10_filledSlots_28 rfl hl (by decide) rfl (fun ls hl => ?_)
  refine lv_iinc (v := nI 3) (lv' := [(2, .int (nI 3)), (1, .int (nI 0)), (0, .ref (q 0))]) hx hb dX10_filledSlots_29 hl (k := 1) rfl (by decide +kernel) (by decide) rfl (fun ls hl => ?_)
  refine lv_goto (tgt := 4) hx hb dX10_filledSlots_32 (by decide) ?_
  refine lv_iload_n hx hb dX10_filledSlots_4 rfl (lv_at hl 0 rfl) ?_
  refine lv_iconst (v := nI 4) hx hb dX10_filledSlots_5 (by decide +kernel) ?_
  refine lv_icmp_ge (tgt := 35) hx hb dX10_filledSlots_6 (by decide) (fun c_0 => absurd c_0 (by decide +kernel)) (fun _ => ?_)
  refine lv_iload_n hx hb dX10_filledSlots_9 rfl (lv_at hl 1 rfl) ?_
  refine lv_aload_n hx hb dX10_filledSlots_10 rfl (lv_at hl 2 rfl) ?_
  refine z_get hx hb ht hown hK hP ziX10 rfl 0 (by decide) 11 (by decide) hw_2_104 rfl (v := .ref (q 72)) rfl dX10_filledSlots_11 ?_
  refine lv_iload_n hx hb dX10_filledSlots_14 rfl (lv_at hl 0 rfl) ?_
  refine va_aldq hx hb hK hP 72 52 (zw_at (by decide) rfl) rfl (vp_in_nI (by decide) (by decide)) dX10_filledSlots_15 ?_
  refine W.eq (g2 := F0 m 16 ls (.ref (q 79) :: [.int (nI 0)])) rfl ?_
  refine z_callVi (k := 79) (As := []) (rest := [.int (nI 0)]) hx hb hml hown ht (kX6_isThere_79 l D q cA ) hw_5_63 hmX6_isThere ⟨rfl, rfl⟩ (na := 0) rfl (by decide +kernel) (by decide) (by decide) rfl rfl hK hP hD hS hA hl.1 rfl (Nat.le_of_ble_eq_true rfl) ⟨Nat.zero_le _, Nat.zero_le _⟩ dX10_filledSlots_16 (fun r_4 I_4 R_4 J_4 H locs hp_4 hP hD hS _ _ => ?_)
  obtain ⟨rfl, hu_4⟩ := hp_4
  cases hu_4
  refine lv_if_eq (tgt := 26) hx hb dX10_filledSlots_19 (by decide) (fun _ => ?_) (fun c_0 => absurd (by decide +kernel) c_0)
  refine lv_iconst (v := nI 0) hx hb dX10_filledSlots_26 (by decide +kernel) ?_
  refine lv_iadd hx hb dX10_filledSlots_27 ?_
  refine z_eqi (y := nI 0) (by decide +kernel) ?_
  refine lv_istore_n (lv' := [(1, .int (nI 0)), (2, .int (nI 3)), (0, .ref (q 0))]) hx hb dX10_filledSlots_28 rfl hl (by decide) rfl (fun ls hl => ?_)
  refine lv_iinc (v := nI 4) (lv' := [(2, .int (nI 4)), (1, .int (nI 0)), (0, .ref (q 0))]) hx hb dX10_filledSlots_29 hl (k := 1) rfl (by decide +kernel) (by decide) rfl (fun ls hl => ?_)
  refine lv_goto (tgt := 4) hx hb dX10_filledSlots_32 (by decide) ?_
  refine lv_iload_n hx hb dX10_filledSlots_4 rfl (lv_at hl 0 rfl) ?_
  refine lv_iconst (v := nI 4) hx hb dX10_filledSlots_5 (by decide +kernel) ?_
  refine lv_icmp_ge (tgt := 35) hx hb dX10_filledSlots_6 (by decide) (fun _ => ?_) (fun c_0 => absurd (by decide +kernel) c_0)
  refine lv_iload_n hx hb dX10_filledSlots_35 rfl (lv_at hl 1 rfl) ?_
  exact z_iret (v := nI 0) hx hb hr hlocks hP hD hS dX10_filledSlots_36 ⟨rfl, rfl⟩
set_option maxHeartbeats 4000000 in
set_option maxRecDepth 100000 in
theorem kX10_count (l : Launch) (D : va_G) (q : Nat → Nat) (cA : Nat → ClassId)  (x : Int32)  : zMi l D vwCl (zXtys cA) 81 q (zXd q cA) yX10_count cX10_count 2 (some .int) ({ frames := 2, cells := 0, slots := 0, locals := 42 } : Room) [.ref (q 0), .int (x)] (zXI0, zXR0, zXJ0) (fun r _ => (0 ≤ x.toInt ∧ x.toInt ≤ 9 ∧ r = nI 0) ∨ ((x.toInt < 0 ∨ 9 < x.toInt) ∧ r = (-1))) := by
  intro sz
  refine z_body (by decide +kernel) (Nat.le_of_ble_eq_true rfl) (fun p e s m below meth c ls hx hb hml hr ht hown hlocks hsz hK hP hD hS hl => ?_)
  have hA : ∀ a, s.heap.size ≤ a → zA 81 q sz a := fun a h => Or.inr (hsz ▸ h)
  have hl : lv_has ls 2 [(0, .ref (q 0)), (1, .int (x))] := hl
  refine lv_iload_n hx hb dX10_count_0 rfl (lv_at hl 1 rfl) ?_
  by_cases c_1 : (x).toInt < 0 ∨ 9 < (x).toInt
  · refine lv_tableOut (tgt := 133) hx hb dX10_count_1 c_1 (by decide) ?_
    refine lv_iconst (v := (-1)) hx hb dX10_count_133 (by decide +kernel) ?_
    exact z_iret (v := (-1)) hx hb hr hlocks hP hD hS dX10_count_134 (Or.inr ⟨by omega, rfl⟩)
  · have hc_1 : (x).toInt = 0 ∨ (x).toInt = 1 ∨ (x).toInt = 2 ∨ (x).toInt = 3 ∨ (x).toInt = 4 ∨ (x).toInt = 5 ∨ (x).toInt = 6 ∨ (x).toInt = 7 ∨ (x).toInt = 8 ∨ (x).toInt = 9 := by omega
    rcases hc_1 with kc_1 | kc_1 | kc_1 | kc_1 | kc_1 | kc_1 | kc_1 | kc_1 | kc_1 | kc_1
    · refine lv_tableIn (off := 55) (tgt := 56) hx hb dX10_count_1 (by omega) (by omega) (by rw [kc_1]; decide +kernel) (by decide) ?_
      refine lv_aload_n hx hb dX10_count_56 rfl (lv_at hl 0 rfl) ?_
      refine z_get hx hb ht hown hK hP ziX10 rfl 0 (by decide) 1 (by decide) hw_2_94 rfl (v := .ref (q 3)) rfl dX10_count_57 ?_
      refine z_get hx hb ht hown hK hP ziX2 rfl 3 (by decide) 1 (by decide) hw_1_73 rfl (v := .int (nI 0)) rfl dX10_count_60 ?_
      exact z_iret (v := nI 0) hx hb hr hlocks hP hD hS dX10_count_63 (Or.inl ⟨by omega, by omega, rfl⟩)
    · refine lv_tableIn (off := 63) (tgt := 64) hx hb dX10_count_1 (by omega) (by omega) (by rw [kc_1]; decide +kernel) (by decide) ?_
      refine lv_aload_n hx hb dX10_count_64 rfl (lv_at hl 0 rfl) ?_
      refine z_get hx hb ht hown hK hP ziX10 rfl 0 (by decide) 1 (by decide) hw_2_94 rfl (v := .ref (q 3)) rfl dX10_count_65 ?_
      refine z_get hx hb ht hown hK hP ziX2 rfl 3 (by decide) 2 (by decide) hw_1_77 rfl (v := .int (nI 0)) rfl dX10_count_68 ?_
      exact z_iret (v := nI 0) hx hb hr hlocks hP hD hS dX10_count_71 (Or.inl ⟨by omega, by omega, rfl⟩)
    · refine lv_tableIn (off := 71) (tgt := 72) hx hb dX10_count_1 (by omega) (by omega) (by rw [kc_1]; decide +kernel) (by decide) ?_
      refine lv_aload_n hx hb dX10_count_72 rfl (lv_at hl 0 rfl) ?_
      refine z_get hx hb ht hown hK hP ziX10 rfl 0 (by decide) 1 (by decide) hw_2_94 rfl (v := .ref (q 3)) rfl dX10_count_73 ?_
      refine z_get hx hb ht hown hK hP ziX2 rfl 3 (by decide) 3 (by decide) hw_1_80 rfl (v := .int (nI 0)) rfl dX10_count_76 ?_
      exact z_iret (v := nI 0) hx hb hr hlocks hP hD hS dX10_count_79 (Or.inl ⟨by omega, by omega, rfl⟩)
    · refine lv_tableIn (off := 79) (tgt := 80) hx hb dX10_count_1 (by omega) (by omega) (by rw [kc_1]; decide +kernel) (by decide) ?_
      refine lv_aload_n hx hb dX10_count_80 rfl (lv_at hl 0 rfl) ?_
      refine z_get hx hb ht hown hK hP ziX10 rfl 0 (by decide) 1 (by decide) hw_2_94 rfl (v := .ref (q 3)) rfl dX10_count_81 ?_
      refine z_get hx hb ht hown hK hP ziX2 rfl 3 (by decide) 4 (by decide) hw_1_85 rfl (v := .int (nI 0)) rfl dX10_count_84 ?_
      exact z_iret (v := nI 0) hx hb hr hlocks hP hD hS dX10_count_87 (Or.inl ⟨by omega, by omega, rfl⟩)
    · refine lv_tableIn (off := 87) (tgt := 88) hx hb dX10_count_1 (by omega) (by omega) (by rw [kc_1]; decide +kernel) (by decide) ?_
      refine lv_aload_n hx hb dX10_count_88 rfl (lv_at hl 0 rfl) ?_
      refine z_get hx hb ht hown hK hP ziX10 rfl 0 (by decide) 1 (by decide) hw_2_94 rfl (v := .ref (q 3)) rfl dX10_count_89 ?_
      refine z_get hx hb ht hown hK hP ziX2 rfl 3 (by decide) 5 (by decide) hw_1_93 rfl (v := .int (nI 0)) rfl dX10_count_92 ?_
      exact z_iret (v := nI 0) hx hb hr hlocks hP hD hS dX10_count_95 (Or.inl ⟨by omega, by omega, rfl⟩)
    · refine lv_tableIn (off := 95) (tgt := 96) hx hb dX10_count_1 (by omega) (by omega) (by rw [kc_1]; decide +kernel) (by decide) ?_
      refine lv_aload_n hx hb dX10_count_96 rfl (lv_at hl 0 rfl) ?_
      refine z_get hx hb ht hown hK hP ziX10 rfl 0 (by decide) 4 (by decide) hw_2_97 rfl (v := .ref (q 15)) rfl dX10_count_97 ?_
      refine z_get hx hb ht hown hK hP ziX9 rfl 15 (by decide) 2 (by decide) hw_1_162 rfl (v := .int (nI 0)) rfl dX10_count_100 ?_
      exact z_iret (v := nI 0) hx hb hr hlocks hP hD hS dX10_count_103 (Or.inl ⟨by omega, by omega, rfl⟩)
    · refine lv_tableIn (off := 103) (tgt := 104) hx hb dX10_count_1 (by omega) (by omega) (by rw [kc_1]; decide +kernel) (by decide) ?_
      refine lv_aload_n hx hb dX10_count_104 rfl (lv_at hl 0 rfl) ?_
      refine z_get hx hb ht hown hK hP ziX10 rfl 0 (by decide) 3 (by decide) hw_2_96 rfl (v := .ref (q 13)) rfl dX10_count_105 ?_
      refine z_get hx hb ht hown hK hP ziX0 rfl 13 (by decide) 0 (by decide) hw_1_141 rfl (v := .int (nI 0)) rfl dX10_count_108 ?_
      exact z_iret (v := nI 0) hx hb hr hlocks hP hD hS dX10_count_111 (Or.inl ⟨by omega, by omega, rfl⟩)
    · refine lv_tableIn (off := 111) (tgt := 112) hx hb dX10_count_1 (by omega) (by omega) (by rw [kc_1]; decide +kernel) (by decide) ?_
      refine lv_aload_n hx hb dX10_count_112 rfl (lv_at hl 0 rfl) ?_
      refine z_get hx hb ht hown hK hP ziX10 rfl 0 (by decide) 1 (by decide) hw_2_94 rfl (v := .ref (q 3)) rfl dX10_count_113 ?_
      refine z_get hx hb ht hown hK hP ziX2 rfl 3 (by decide) 0 (by decide) hw_1_68 rfl (v := .int (nI 0)) rfl dX10_count_116 ?_
      exact z_iret (v := nI 0) hx hb hr hlocks hP hD hS dX10_count_119 (Or.inl ⟨by omega, by omega, rfl⟩)
    · refine lv_tableIn (off := 119) (tgt := 120) hx hb dX10_count_1 (by omega) (by omega) (by rw [kc_1]; decide +kernel) (by decide) ?_
      refine lv_aload_n hx hb dX10_count_120 rfl (lv_at hl 0 rfl) ?_
      refine z_get hx hb ht hown hK hP ziX10 rfl 0 (by decide) 0 (by decide) hw_2_93 rfl (v := .ref (q 1)) rfl dX10_count_121 ?_
      refine z_get hx hb ht hown hK hP ziX7 rfl 1 (by decide) 1 (by decide) hw_1_37 rfl (v := .int (nI 0)) rfl dX10_count_124 ?_
      exact z_iret (v := nI 0) hx hb hr hlocks hP hD hS dX10_count_127 (Or.inl ⟨by omega, by omega, rfl⟩)
    · refine lv_tableIn (off := 127) (tgt := 128) hx hb dX10_count_1 (by omega) (by omega) (by rw [kc_1]; decide +kernel) (by decide) ?_
      refine lv_aload_n hx hb dX10_count_128 rfl (lv_at hl 0 rfl) ?_
      refine z_callVi (k := 0) (As := []) (rest := []) hx hb hml hown ht (kX10_filledSlots l D q cA ) hw_5_137 hmX10_filledSlots ⟨rfl, rfl⟩ (na := 0) rfl (by decide +kernel) (by decide) (by decide) rfl rfl hK hP hD hS hA hl.1 rfl (Nat.le_of_ble_eq_true rfl) ⟨Nat.zero_le _, Nat.zero_le _⟩ dX10_count_129 (fun r_2 I_2 R_2 J_2 H locs hp_2 hP hD hS _ _ => ?_)
      obtain ⟨rfl, hu_2⟩ := hp_2
      cases hu_2
      exact z_iret (v := nI 0) hx hb hr hlocks hP hD hS dX10_count_132 (Or.inl ⟨by omega, by omega, rfl⟩)
set_option maxHeartbeats 4000000 in
set_option maxRecDepth 100000 in
theorem kX10_back (l : Launch) (D : va_G) (q : Nat → Nat) (cA : Nat → ClassId)  (x : Int32)  : zMi l D vwCl (zXtys cA) 81 q (zXd q cA) yX10_back cX10_back 3 (some .int) ({ frames := 0, cells := 0, slots := 0, locals := 0 } : Room) [.ref (q 0), .int (x)] (zXI0, zXR0, zXJ0) (fun r _ => (0 ≤ x.toInt ∧ x.toInt ≤ 2 ∧ r = (-6)) ∨ ((x.toInt < 0 ∨ 2 < x.toInt) ∧ r = (-2))) := by
  intro sz
  refine z_body (by decide +kernel) (Nat.le_of_ble_eq_true rfl) (fun p e s m below meth c ls hx hb hml hr ht hown hlocks hsz hK hP hD hS hl => ?_)
  have hA : ∀ a, s.heap.size ≤ a → zA 81 q sz a := fun a h => Or.inr (hsz ▸ h)
  have hl : lv_has ls 3 [(0, .ref (q 0)), (1, .int (x))] := hl
  refine lv_iload_n hx hb dX10_back_0 rfl (lv_at hl 1 rfl) ?_
  refine lv_if_lt (tgt := 9) hx hb dX10_back_1 (by decide) (fun c_1 => ?_) (fun c_1 => ?_)
  · have kc_1_1 : (nI 0 : Int32).toInt = 0 := by decide +kernel
    have kc_1_2 : (0 : Int32).toInt = 0 := by decide +kernel
    have t_c_1 := z_ltT c_1
    refine lv_bipush (v := (-2)) hx hb dX10_back_9 (by decide +kernel) ?_
    exact z_iret (v := (-2)) hx hb hr hlocks hP hD hS dX10_back_11 (Or.inr ⟨by omega, rfl⟩)
  · have kc_1_1 : (nI 0 : Int32).toInt = 0 := by decide +kernel
    have kc_1_2 : (0 : Int32).toInt = 0 := by decide +kernel
    have t_c_1 := z_ltF c_1
    refine lv_iload_n hx hb dX10_back_4 rfl (lv_at hl 1 rfl) ?_
    refine lv_iconst (v := nI 3) hx hb dX10_back_5 (by decide +kernel) ?_
    refine lv_icmp_lt (tgt := 12) hx hb dX10_back_6 (by decide) (fun c_2 => ?_) (fun c_2 => ?_)
    · have kc_2_1 : (nI 3 : Int32).toInt = 3 := by decide +kernel
      have t_c_2 := z_ltT c_2
      refine lv_aload_n hx hb dX10_back_12 rfl (lv_at hl 0 rfl) ?_
      refine z_get hx hb ht hown hK hP ziX10 rfl 0 (by decide) 10 (by decide) hw_2_103 rfl (v := .ref (q 47)) rfl dX10_back_13 ?_
      refine lv_iload_n hx hb dX10_back_16 rfl (lv_at hl 1 rfl) ?_
      obtain ⟨n_3, hn_3, rfl⟩ := z_ex (x := x) (N := 3) (by omega) (by omega)
      rcases (show n_3 = 0 ∨ n_3 = 1 ∨ n_3 = 2 by omega) with rfl | rfl | rfl
      · refine va_aldq hx hb hK hP 47 36 (zw_at (by decide) rfl) rfl (vp_in_nI (by decide) (by decide)) dX10_back_17 ?_
        refine W.eq (g2 := F0 m 18 ls (.ref (q 48) :: [])) rfl ?_
        refine lv_astore_n (lv' := [(2, .ref (q 48)), (0, .ref (q 0)), (1, .int (nI 0))]) hx hb dX10_back_18 rfl hl (by decide) rfl (fun ls hl => ?_)
        refine lv_aload_n hx hb dX10_back_19 rfl (lv_at hl 0 rfl) ?_
        refine z_get hx hb ht hown hK hP ziX5 rfl 48 (by decide) 0 (by decide) hw_2_60 rfl (v := .int (nI 0)) rfl dX10_back_20 ?_
        refine lv_if_ne (tgt := 29) hx hb dX10_back_23 (by decide) (fun c_0 => absurd (by decide +kernel) c_0) (fun _ => ?_)
        refine lv_bipush (v := (-6)) hx hb dX10_back_26 (by decide +kernel) ?_
        exact z_iret (v := (-6)) hx hb hr hlocks hP hD hS dX10_back_28 (Or.inl ⟨by omega, by omega, rfl⟩)
      · refine va_aldq hx hb hK hP 47 36 (zw_at (by decide) rfl) rfl (vp_in_nI (by decide) (by decide)) dX10_back_17 ?_
        refine W.eq (g2 := F0 m 18 ls (.ref (q 56) :: [])) rfl ?_
        refine lv_astore_n (lv' := [(2, .ref (q 56)), (0, .ref (q 0)), (1, .int (nI 1))]) hx hb dX10_back_18 rfl hl (by decide) rfl (fun ls hl => ?_)
        refine lv_aload_n hx hb dX10_back_19 rfl (lv_at hl 0 rfl) ?_
        refine z_get hx hb ht hown hK hP ziX5 rfl 56 (by decide) 0 (by decide) hw_2_60 rfl (v := .int (nI 0)) rfl dX10_back_20 ?_
        refine lv_if_ne (tgt := 29) hx hb dX10_back_23 (by decide) (fun c_0 => absurd (by decide +kernel) c_0) (fun _ => ?_)
        refine lv_bipush (v := (-6)) hx hb dX10_back_26 (by decide +kernel) ?_
        exact z_iret (v := (-6)) hx hb hr hlocks hP hD hS dX10_back_28 (Or.inl ⟨by omega, by omega, rfl⟩)
      · refine va_aldq hx hb hK hP 47 36 (zw_at (by decide) rfl) rfl (vp_in_nI (by decide) (by decide)) dX10_back_17 ?_
        refine W.eq (g2 := F0 m 18 ls (.ref (q 64) :: [])) rfl ?_
        refine lv_astore_n (lv' := [(2, .ref (q 64)), (0, .ref (q 0)), (1, .int (nI 2))]) hx hb dX10_back_18 rfl hl (by decide) rfl (fun ls hl => ?_)
        refine lv_aload_n hx hb dX10_back_19 rfl (lv_at hl 0 rfl) ?_
        refine z_get hx hb ht hown hK hP ziX5 rfl 64 (by decide) 0 (by decide) hw_2_60 rfl (v := .int (nI 0)) rfl dX10_back_20 ?_
        refine lv_if_ne (tgt := 29) hx hb dX10_back_23 (by decide) (fun c_0 => absurd (by decide +kernel) c_0) (fun _ => ?_)
        refine lv_bipush (v := (-6)) hx hb dX10_back_26 (by decide +kernel) ?_
        exact z_iret (v := (-6)) hx hb hr hlocks hP hD hS dX10_back_28 (Or.inl ⟨by omega, by omega, rfl⟩)
    · have kc_2_1 : (nI 3 : Int32).toInt = 3 := by decide +kernel
      have t_c_2 := z_ltF c_2
      refine lv_bipush (v := (-2)) hx hb dX10_back_9 (by decide +kernel) ?_
      exact z_iret (v := (-2)) hx hb hr hlocks hP hD hS dX10_back_11 (Or.inr ⟨by omega, rfl⟩)
set_option maxHeartbeats 4000000 in
set_option maxRecDepth 100000 in
theorem kX10_write (l : Launch) (D : va_G) (q : Nat → Nat) (cA : Nat → ClassId)  (x : Int32) (i : Int32) (v : Int64)  : zMi l D vwCl (zXtys cA) 81 q (zXd q cA) yX10_write cX10_write 6 (some .int) ({ frames := 1, cells := 0, slots := 0, locals := 20 } : Room) [.ref (q 0), .int (x), .int (i), .long (v)] (zXI0, zXR0, zXJ0) (fun r _ => (0 ≤ x.toInt ∧ x.toInt ≤ 3 ∧ r = (-6)) ∨ ((x.toInt < 0 ∨ 3 < x.toInt) ∧ r = (-2))) := by
  intro sz
  refine z_body (by decide +kernel) (Nat.le_of_ble_eq_true rfl) (fun p e s m below meth c ls hx hb hml hr ht hown hlocks hsz hK hP hD hS hl => ?_)
  have hA : ∀ a, s.heap.size ≤ a → zA 81 q sz a := fun a h => Or.inr (hsz ▸ h)
  have hl : lv_has ls 6 [(0, .ref (q 0)), (1, .int (x)), (2, .int (i)), (3, .long (v))] := hl
  refine lv_iload_n hx hb dX10_write_0 rfl (lv_at hl 1 rfl) ?_
  refine z_callSi (As := [.int (x)]) (rest := []) hx hb hml hown ht (kX10_isSlot l D q cA _ _ _ (x)) hw_5_60 hmX10_isSlot ⟨rfl, rfl⟩ (na := 1) rfl (by decide +kernel) (by decide) hK hP hD hS hA hl.1 rfl (Nat.le_of_ble_eq_true rfl) ⟨Nat.zero_le _, Nat.zero_le _⟩ dX10_write_1 (fun r_1 I_1 R_1 J_1 H locs hp_1 hP hD hS _ _ => ?_)
  rcases hp_1 with ⟨rfl, hu_1, h1_1, h2_1⟩ | ⟨rfl, hu_1, h1_1⟩
  · cases hu_1
    refine lv_if_ne (tgt := 10) hx hb dX10_write_4 (by decide) (fun _ => ?_) (fun c_0 => absurd c_0 (by decide +kernel))
    refine lv_aload_n hx hb dX10_write_10 rfl (lv_at hl 0 rfl) ?_
    refine z_get hx hb ht hown hK hP ziX10 rfl 0 (by decide) 11 (by decide) hw_2_104 rfl (v := .ref (q 72)) rfl dX10_write_11 ?_
    refine lv_iload_n hx hb dX10_write_14 rfl (lv_at hl 1 rfl) ?_
    obtain ⟨n_2, hn_2, rfl⟩ := z_ex (x := x) (N := 4) (by omega) (by omega)
    rcases (show n_2 = 0 ∨ n_2 = 1 ∨ n_2 = 2 ∨ n_2 = 3 by omega) with rfl | rfl | rfl | rfl
    · refine va_aldq hx hb hK hP 72 52 (zw_at (by decide) rfl) rfl (vp_in_nI (by decide) (by decide)) dX10_write_15 ?_
      refine W.eq (g2 := F0 m 16 ls (.ref (q 73) :: [])) rfl ?_
      refine lv_astore (lv' := [(5, .ref (q 73)), (0, .ref (q 0)), (1, .int (nI 0)), (2, .int (i)), (3, .long (v))]) hx hb dX10_write_16 hl (by decide) rfl (fun ls hl => ?_)
      refine lv_aload hx hb dX10_write_18 (lv_at hl 0 rfl) ?_
      refine z_callVi (k := 73) (As := []) (rest := []) hx hb hml hown ht (kX6_isThere_73 l D q cA ) hw_5_63 hmX6_isThere ⟨rfl, rfl⟩ (na := 0) rfl (by decide +kernel) (by decide) (by decide) rfl rfl hK hP hD hS hA hl.1 rfl (Nat.le_of_ble_eq_true rfl) ⟨Nat.zero_le _, Nat.zero_le _⟩ dX10_write_20 (fun r_3 I_3 R_3 J_3 H locs hp_3 hP hD hS _ _ => ?_)
      obtain ⟨rfl, hu_3⟩ := hp_3
      cases hu_3
      refine lv_if_ne (tgt := 29) hx hb dX10_write_23 (by decide) (fun c_0 => absurd (by decide +kernel) c_0) (fun _ => ?_)
      refine lv_bipush (v := (-6)) hx hb dX10_write_26 (by decide +kernel) ?_
      exact z_iret (v := (-6)) hx hb hr hlocks hP hD hS dX10_write_28 (Or.inl ⟨by omega, by omega, rfl⟩)
    · refine va_aldq hx hb hK hP 72 52 (zw_at (by decide) rfl) rfl (vp_in_nI (by decide) (by decide)) dX10_write_15 ?_
      refine W.eq (g2 := F0 m 16 ls (.ref (q 75) :: [])) rfl ?_
      refine lv_astore (lv' := [(5, .ref (q 75)), (0, .ref (q 0)), (1, .int (nI 1)), (2, .int (i)), (3, .long (v))]) hx hb dX10_write_16 hl (by decide) rfl (fun ls hl => ?_)
      refine lv_aload hx hb dX10_write_18 (lv_at hl 0 rfl) ?_
      refine z_callVi (k := 75) (As := []) (rest := []) hx hb hml hown ht (kX6_isThere_75 l D q cA ) hw_5_63 hmX6_isThere ⟨rfl, rfl⟩ (na := 0) rfl (by decide +kernel) (by decide) (by decide) rfl rfl hK hP hD hS hA hl.1 rfl (Nat.le_of_ble_eq_true rfl) ⟨Nat.zero_le _, Nat.zero_le _⟩ dX10_write_20 (fun r_4 I_4 R_4 J_4 H locs hp_4 hP hD hS _ _ => ?_)
      obtain ⟨rfl, hu_4⟩ := hp_4
      cases hu_4
      refine lv_if_ne (tgt := 29) hx hb dX10_write_23 (by decide) (fun c_0 => absurd (by decide +kernel) c_0) (fun _ => ?_)
      refine lv_bipush (v := (-6)) hx hb dX10_write_26 (by decide +kernel) ?_
      exact z_iret (v := (-6)) hx hb hr hlocks hP hD hS dX10_write_28 (Or.inl ⟨by omega, by omega, rfl⟩)
    · refine va_aldq hx hb hK hP 72 52 (zw_at (by decide) rfl) rfl (vp_in_nI (by decide) (by decide)) dX10_write_15 ?_
      refine W.eq (g2 := F0 m 16 ls (.ref (q 77) :: [])) rfl ?_
      refine lv_astore (lv' := [(5, .ref (q 77)), (0, .ref (q 0)), (1, .int (nI 2)), (2, .int (i)), (3, .long (v))]) hx hb dX10_write_16 hl (by decide) rfl (fun ls hl => ?_)
      refine lv_aload hx hb dX10_write_18 (lv_at hl 0 rfl) ?_
      refine z_callVi (k := 77) (As := []) (rest := []) hx hb hml hown ht (kX6_isThere_77 l D q cA ) hw_5_63 hmX6_isThere ⟨rfl, rfl⟩ (na := 0) rfl (by decide +kernel) (by decide) (by decide) rfl rfl hK hP hD hS hA hl.1 rfl (Nat.le_of_ble_eq_true rfl) ⟨Nat.zero_le _, Nat.zero_le _⟩ dX10_write_20 (fun r_5 I_5 R_5 J_5 H locs hp_5 hP hD hS _ _ => ?_)
      obtain ⟨rfl, hu_5⟩ := hp_5
      cases hu_5
      refine lv_if_ne (tgt := 29) hx hb dX10_write_23 (by decide) (fun c_0 => absurd (by decide +kernel) c_0) (fun _ => ?_)
      refine lv_bipush (v := (-6)) hx hb dX10_write_26 (by decide +kernel) ?_
      exact z_iret (v := (-6)) hx hb hr hlocks hP hD hS dX10_write_28 (Or.inl ⟨by omega, by omega, rfl⟩)
    · refine va_aldq hx hb hK hP 72 52 (zw_at (by decide) rfl) rfl (vp_in_nI (by decide) (by decide)) dX10_write_15 ?_
      refine W.eq (g2 := F0 m 16 ls (.ref (q 79) :: [])) rfl ?_
      refine lv_astore (lv' := [(5, .ref (q 79)), (0, .ref (q 0)), (1, .int (nI 3)), (2, .int (i)), (3, .long (v))]) hx hb dX10_write_16 hl (by decide) rfl (fun ls hl => ?_)
      refine lv_aload hx hb dX10_write_18 (lv_at hl 0 rfl) ?_
      refine z_callVi (k := 79) (As := []) (rest := []) hx hb hml hown ht (kX6_isThere_79 l D q cA ) hw_5_63 hmX6_isThere ⟨rfl, rfl⟩ (na := 0) rfl (by decide +kernel) (by decide) (by decide) rfl rfl hK hP hD hS hA hl.1 rfl (Nat.le_of_ble_eq_true rfl) ⟨Nat.zero_le _, Nat.zero_le _⟩ dX10_write_20 (fun r_6 I_6 R_6 J_6 H locs hp_6 hP hD hS _ _ => ?_)
      obtain ⟨rfl, hu_6⟩ := hp_6
      cases hu_6
      refine lv_if_ne (tgt := 29) hx hb dX10_write_23 (by decide) (fun c_0 => absurd (by decide +kernel) c_0) (fun _ => ?_)
      refine lv_bipush (v := (-6)) hx hb dX10_write_26 (by decide +kernel) ?_
      exact z_iret (v := (-6)) hx hb hr hlocks hP hD hS dX10_write_28 (Or.inl ⟨by omega, by omega, rfl⟩)
  · cases hu_1
    refine lv_if_ne (tgt := 10) hx hb dX10_write_4 (by decide) (fun c_0 => absurd (by decide +kernel) c_0) (fun _ => ?_)
    refine lv_bipush (v := (-2)) hx hb dX10_write_7 (by decide +kernel) ?_
    exact z_iret (v := (-2)) hx hb hr hlocks hP hD hS dX10_write_9 (Or.inr ⟨by omega, rfl⟩)
set_option maxHeartbeats 4000000 in
set_option maxRecDepth 100000 in
theorem kX10_paste (l : Launch) (D : va_G) (q : Nat → Nat) (cA : Nat → ClassId)  (x : Int32) (i : Int32) (t : Int32) (k : Int32) (n : Int32)  : zMi l D vwCl (zXtys cA) 81 q (zXd q cA) yX10_paste cX10_paste 8 (some .int) ({ frames := 1, cells := 0, slots := 0, locals := 20 } : Room) [.ref (q 0), .int (x), .int (i), .int (t), .int (k), .int (n)] (zXI0, zXR0, zXJ0) (fun r _ => (0 ≤ x.toInt ∧ x.toInt ≤ 3 ∧ 0 ≤ t.toInt ∧ t.toInt ≤ 3 ∧ r = (-6)) ∨ ((x.toInt < 0 ∨ 3 < x.toInt ∨ t.toInt < 0 ∨ 3 < t.toInt) ∧ r = (-2))) := by
  intro sz
  refine z_body (by decide +kernel) (Nat.le_of_ble_eq_true rfl) (fun p e s m below meth c ls hx hb hml hr ht hown hlocks hsz hK hP hD hS hl => ?_)
  have hA : ∀ a, s.heap.size ≤ a → zA 81 q sz a := fun a h => Or.inr (hsz ▸ h)
  have hl : lv_has ls 8 [(0, .ref (q 0)), (1, .int (x)), (2, .int (i)), (3, .int (t)), (4, .int (k)), (5, .int (n))] := hl
  refine lv_iload_n hx hb dX10_paste_0 rfl (lv_at hl 1 rfl) ?_
  refine z_callSi (As := [.int (x)]) (rest := []) hx hb hml hown ht (kX10_isSlot l D q cA _ _ _ (x)) hw_5_60 hmX10_isSlot ⟨rfl, rfl⟩ (na := 1) rfl (by decide +kernel) (by decide) hK hP hD hS hA hl.1 rfl (Nat.le_of_ble_eq_true rfl) ⟨Nat.zero_le _, Nat.zero_le _⟩ dX10_paste_1 (fun r_1 I_1 R_1 J_1 H locs hp_1 hP hD hS _ _ => ?_)
  rcases hp_1 with ⟨rfl, hu_1, h1_1, h2_1⟩ | ⟨rfl, hu_1, h1_1⟩
  · cases hu_1
    refine lv_if_eq (tgt := 14) hx hb dX10_paste_4 (by decide) (fun c_0 => absurd c_0 (by decide +kernel)) (fun _ => ?_)
    refine lv_iload_n hx hb dX10_paste_7 rfl (lv_at hl 3 rfl) ?_
    refine z_callSi (As := [.int (t)]) (rest := []) hx hb hml hown ht (kX10_isSlot l D q cA _ _ _ (t)) hw_5_60 hmX10_isSlot ⟨rfl, rfl⟩ (na := 1) rfl (by decide +kernel) (by decide) hK hP hD hS hA hl.1 rfl (Nat.le_of_ble_eq_true rfl) ⟨Nat.zero_le _, Nat.zero_le _⟩ dX10_paste_8 (fun r_2 I_2 R_2 J_2 H locs hp_2 hP hD hS _ _ => ?_)
    rcases hp_2 with ⟨rfl, hu_2, h1_2, h2_2⟩ | ⟨rfl, hu_2, h1_2⟩
    · cases hu_2
      refine lv_if_ne (tgt := 17) hx hb dX10_paste_11 (by decide) (fun _ => ?_) (fun c_0 => absurd c_0 (by decide +kernel))
      refine lv_aload_n hx hb dX10_paste_17 rfl (lv_at hl 0 rfl) ?_
      refine z_get hx hb ht hown hK hP ziX10 rfl 0 (by decide) 11 (by decide) hw_2_104 rfl (v := .ref (q 72)) rfl dX10_paste_18 ?_
      refine lv_iload_n hx hb dX10_paste_21 rfl (lv_at hl 1 rfl) ?_
      obtain ⟨n_3, hn_3, rfl⟩ := z_ex (x := x) (N := 4) (by omega) (by omega)
      rcases (show n_3 = 0 ∨ n_3 = 1 ∨ n_3 = 2 ∨ n_3 = 3 by omega) with rfl | rfl | rfl | rfl
      · refine va_aldq hx hb hK hP 72 52 (zw_at (by decide) rfl) rfl (vp_in_nI (by decide) (by decide)) dX10_paste_22 ?_
        refine W.eq (g2 := F0 m 23 ls (.ref (q 73) :: [])) rfl ?_
        refine lv_astore (lv' := [(6, .ref (q 73)), (0, .ref (q 0)), (1, .int (nI 0)), (2, .int (i)), (3, .int (t)), (4, .int (k)), (5, .int (n))]) hx hb dX10_paste_23 hl (by decide) rfl (fun ls hl => ?_)
        refine lv_aload_n hx hb dX10_paste_25 rfl (lv_at hl 1 rfl) ?_
        refine z_get hx hb ht hown hK hP ziX10 rfl 0 (by decide) 11 (by decide) hw_2_104 rfl (v := .ref (q 72)) rfl dX10_paste_26 ?_
        refine lv_iload_n hx hb dX10_paste_29 rfl (lv_at hl 4 rfl) ?_
        obtain ⟨n_4, hn_4, rfl⟩ := z_ex (x := t) (N := 4) (by omega) (by omega)
        rcases (show n_4 = 0 ∨ n_4 = 1 ∨ n_4 = 2 ∨ n_4 = 3 by omega) with rfl | rfl | rfl | rfl
        · refine va_aldq hx hb hK hP 72 52 (zw_at (by decide) rfl) rfl (vp_in_nI (by decide) (by decide)) dX10_paste_30 ?_
          refine W.eq (g2 := F0 m 31 ls (.ref (q 73) :: [])) rfl ?_
          refine lv_astore (lv' := [(7, .ref (q 73)), (6, .ref (q 73)), (0, .ref (q 0)), (1, .int (nI 0)), (2, .int (i)), (3, .int (nI 0)), (4, .int (k)), (5, .int (n))]) hx hb dX10_paste_31 hl (by decide) rfl (fun ls hl => ?_)
          refine lv_aload hx hb dX10_paste_33 (lv_at hl 1 rfl) ?_
          refine z_callVi (k := 73) (As := []) (rest := []) hx hb hml hown ht (kX6_isThere_73 l D q cA ) hw_5_63 hmX6_isThere ⟨rfl, rfl⟩ (na := 0) rfl (by decide +kernel) (by decide) (by decide) rfl rfl hK hP hD hS hA hl.1 rfl (Nat.le_of_ble_eq_true rfl) ⟨Nat.zero_le _, Nat.zero_le _⟩ dX10_paste_35 (fun r_5 I_5 R_5 J_5 H locs hp_5 hP hD hS _ _ => ?_)
          obtain ⟨rfl, hu_5⟩ := hp_5
          cases hu_5
          refine lv_if_eq (tgt := 49) hx hb dX10_paste_38 (by decide) (fun _ => ?_) (fun c_0 => absurd (by decide +kernel) c_0)
          refine lv_bipush (v := (-6)) hx hb dX10_paste_49 (by decide +kernel) ?_
          exact z_iret (v := (-6)) hx hb hr hlocks hP hD hS dX10_paste_51 (Or.inl ⟨by omega, by omega, by omega, by omega, rfl⟩)
        · refine va_aldq hx hb hK hP 72 52 (zw_at (by decide) rfl) rfl (vp_in_nI (by decide) (by decide)) dX10_paste_30 ?_
          refine W.eq (g2 := F0 m 31 ls (.ref (q 75) :: [])) rfl ?_
          refine lv_astore (lv' := [(7, .ref (q 75)), (6, .ref (q 73)), (0, .ref (q 0)), (1, .int (nI 0)), (2, .int (i)), (3, .int (nI 1)), (4, .int (k)), (5, .int (n))]) hx hb dX10_paste_31 hl (by decide) rfl (fun ls hl => ?_)
          refine lv_aload hx hb dX10_paste_33 (lv_at hl 1 rfl) ?_
          refine z_callVi (k := 73) (As := []) (rest := []) hx hb hml hown ht (kX6_isThere_73 l D q cA ) hw_5_63 hmX6_isThere ⟨rfl, rfl⟩ (na := 0) rfl (by decide +kernel) (by decide) (by decide) rfl rfl hK hP hD hS hA hl.1 rfl (Nat.le_of_ble_eq_true rfl) ⟨Nat.zero_le _, Nat.zero_le _⟩ dX10_paste_35 (fun r_6 I_6 R_6 J_6 H locs hp_6 hP hD hS _ _ => ?_)
          obtain ⟨rfl, hu_6⟩ := hp_6
          cases hu_6
          refine lv_if_eq (tgt := 49) hx hb dX10_paste_38 (by decide) (fun _ => ?_) (fun c_0 => absurd (by decide +kernel) c_0)
          refine lv_bipush (v := (-6)) hx hb dX10_paste_49 (by decide +kernel) ?_
          exact z_iret (v := (-6)) hx hb hr hlocks hP hD hS dX10_paste_51 (Or.inl ⟨by omega, by omega, by omega, by omega, rfl⟩)
        · refine va_aldq hx hb hK hP 72 52 (zw_at (by decide) rfl) rfl (vp_in_nI (by decide) (by decide)) dX10_paste_30 ?_
          refine W.eq (g2 := F0 m 31 ls (.ref (q 77) :: [])) rfl ?_
          refine lv_astore (lv' := [(7, .ref (q 77)), (6, .ref (q 73)), (0, .ref (q 0)), (1, .int (nI 0)), (2, .int (i)), (3, .int (nI 2)), (4, .int (k)), (5, .int (n))]) hx hb dX10_paste_31 hl (by decide) rfl (fun ls hl => ?_)
          refine lv_aload hx hb dX10_paste_33 (lv_at hl 1 rfl) ?_
          refine z_callVi (k := 73) (As := []) (rest := []) hx hb hml hown ht (kX6_isThere_73 l D q cA ) hw_5_63 hmX6_isThere ⟨rfl, rfl⟩ (na := 0) rfl (by decide +kernel) (by decide) (by decide) rfl rfl hK hP hD hS hA hl.1 rfl (Nat.le_of_ble_eq_true rfl) ⟨Nat.zero_le _, Nat.zero_le _⟩ dX10_paste_35 (fun r_7 I_7 R_7 J_7 H locs hp_7 hP hD hS _ _ => ?_)
          obtain ⟨rfl, hu_7⟩ := hp_7
          cases hu_7
          refine lv_if_eq (tgt := 49) hx hb dX10_paste_38 (by decide) (fun _ => ?_) (fun c_0 => absurd (by decide +kernel) c_0)
          refine lv_bipush (v := (-6)) hx hb dX10_paste_49 (by decide +kernel) ?_
          exact z_iret (v := (-6)) hx hb hr hlocks hP hD hS dX10_paste_51 (Or.inl ⟨by omega, by omega, by omega, by omega, rfl⟩)
        · refine va_aldq hx hb hK hP 72 52 (zw_at (by decide) rfl) rfl (vp_in_nI (by decide) (by decide)) dX10_paste_30 ?_
          refine W.eq (g2 := F0 m 31 ls (.ref (q 79) :: [])) rfl ?_
          refine lv_astore (lv' := [(7, .ref (q 79)), (6, .ref (q 73)), (0, .ref (q 0)), (1, .int (nI 0)), (2, .int (i)), (3, .int (nI 3)), (4, .int (k)), (5, .int (n))]) hx hb dX10_paste_31 hl (by decide) rfl (fun ls hl => ?_)
          refine lv_aload hx hb dX10_paste_33 (lv_at hl 1 rfl) ?_
          refine z_callVi (k := 73) (As := []) (rest := []) hx hb hml hown ht (kX6_isThere_73 l D q cA ) hw_5_63 hmX6_isThere ⟨rfl, rfl⟩ (na := 0) rfl (by decide +kernel) (by decide) (by decide) rfl rfl hK hP hD hS hA hl.1 rfl (Nat.le_of_ble_eq_true rfl) ⟨Nat.zero_le _, Nat.zero_le _⟩ dX10_paste_35 (fun r_8 I_8 R_8 J_8 H locs hp_8 hP hD hS _ _ => ?_)
          obtain ⟨rfl, hu_8⟩ := hp_8
          cases hu_8
          refine lv_if_eq (tgt := 49) hx hb dX10_paste_38 (by decide) (fun _ => ?_) (fun c_0 => absurd (by decide +kernel) c_0)
          refine lv_bipush (v := (-6)) hx hb dX10_paste_49 (by decide +kernel) ?_
          exact z_iret (v := (-6)) hx hb hr hlocks hP hD hS dX10_paste_51 (Or.inl ⟨by omega, by omega, by omega, by omega, rfl⟩)
      · refine va_aldq hx hb hK hP 72 52 (zw_at (by decide) rfl) rfl (vp_in_nI (by decide) (by decide)) dX10_paste_22 ?_
        refine W.eq (g2 := F0 m 23 ls (.ref (q 75) :: [])) rfl ?_
        refine lv_astore (lv' := [(6, .ref (q 75)), (0, .ref (q 0)), (1, .int (nI 1)), (2, .int (i)), (3, .int (t)), (4, .int (k)), (5, .int (n))]) hx hb dX10_paste_23 hl (by decide) rfl (fun ls hl => ?_)
        refine lv_aload_n hx hb dX10_paste_25 rfl (lv_at hl 1 rfl) ?_
        refine z_get hx hb ht hown hK hP ziX10 rfl 0 (by decide) 11 (by decide) hw_2_104 rfl (v := .ref (q 72)) rfl dX10_paste_26 ?_
        refine lv_iload_n hx hb dX10_paste_29 rfl (lv_at hl 4 rfl) ?_
        obtain ⟨n_9, hn_9, rfl⟩ := z_ex (x := t) (N := 4) (by omega) (by omega)
        rcases (show n_9 = 0 ∨ n_9 = 1 ∨ n_9 = 2 ∨ n_9 = 3 by omega) with rfl | rfl | rfl | rfl
        · refine va_aldq hx hb hK hP 72 52 (zw_at (by decide) rfl) rfl (vp_in_nI (by decide) (by decide)) dX10_paste_30 ?_
          refine W.eq (g2 := F0 m 31 ls (.ref (q 73) :: [])) rfl ?_
          refine lv_astore (lv' := [(7, .ref (q 73)), (6, .ref (q 75)), (0, .ref (q 0)), (1, .int (nI 1)), (2, .int (i)), (3, .int (nI 0)), (4, .int (k)), (5, .int (n))]) hx hb dX10_paste_31 hl (by decide) rfl (fun ls hl => ?_)
          refine lv_aload hx hb dX10_paste_33 (lv_at hl 1 rfl) ?_
          refine z_callVi (k := 75) (As := []) (rest := []) hx hb hml hown ht (kX6_isThere_75 l D q cA ) hw_5_63 hmX6_isThere ⟨rfl, rfl⟩ (na := 0) rfl (by decide +kernel) (by decide) (by decide) rfl rfl hK hP hD hS hA hl.1 rfl (Nat.le_of_ble_eq_true rfl) ⟨Nat.zero_le _, Nat.zero_le _⟩ dX10_paste_35 (fun r_10 I_10 R_10 J_10 H locs hp_10 hP hD hS _ _ => ?_)
          obtain ⟨rfl, hu_10⟩ := hp_10
          cases hu_10
          refine lv_if_eq (tgt := 49) hx hb dX10_paste_38 (by decide) (fun _ => ?_) (fun c_0 => absurd (by decide +kernel) c_0)
          refine lv_bipush (v := (-6)) hx hb dX10_paste_49 (by decide +kernel) ?_
          exact z_iret (v := (-6)) hx hb hr hlocks hP hD hS dX10_paste_51 (Or.inl ⟨by omega, by omega, by omega, by omega, rfl⟩)
        · refine va_aldq hx hb hK hP 72 52 (zw_at (by decide) rfl) rfl (vp_in_nI (by decide) (by decide)) dX10_paste_30 ?_
          refine W.eq (g2 := F0 m 31 ls (.ref (q 75) :: [])) rfl ?_
          refine lv_astore (lv' := [(7, .ref (q 75)), (6, .ref (q 75)), (0, .ref (q 0)), (1, .int (nI 1)), (2, .int (i)), (3, .int (nI 1)), (4, .int (k)), (5, .int (n))]) hx hb dX10_paste_31 hl (by decide) rfl (fun ls hl => ?_)
          refine lv_aload hx hb dX10_paste_33 (lv_at hl 1 rfl) ?_
          refine z_callVi (k := 75) (As := []) (rest := []) hx hb hml hown ht (kX6_isThere_75 l D q cA ) hw_5_63 hmX6_isThere ⟨rfl, rfl⟩ (na := 0) rfl (by decide +kernel) (by decide) (by decide) rfl rfl hK hP hD hS hA hl.1 rfl (Nat.le_of_ble_eq_true rfl) ⟨Nat.zero_le _, Nat.zero_le _⟩ dX10_paste_35 (fun r_11 I_11 R_11 J_11 H locs hp_11 hP hD hS _ _ => ?_)
          obtain ⟨rfl, hu_11⟩ := hp_11
          cases hu_11
          refine lv_if_eq (tgt := 49) hx hb dX10_paste_38 (by decide) (fun _ => ?_) (fun c_0 => absurd (by decide +kernel) c_0)
          refine lv_bipush (v := (-6)) hx hb dX10_paste_49 (by decide +kernel) ?_
          exact z_iret (v := (-6)) hx hb hr hlocks hP hD hS dX10_paste_51 (Or.inl ⟨by omega, by omega, by omega, by omega, rfl⟩)
        · refine va_aldq hx hb hK hP 72 52 (zw_at (by decide) rfl) rfl (vp_in_nI (by decide) (by decide)) dX10_paste_30 ?_
          refine W.eq (g2 := F0 m 31 ls (.ref (q 77) :: [])) rfl ?_
          refine lv_astore (lv' := [(7, .ref (q 77)), (6, .ref (q 75)), (0, .ref (q 0)), (1, .int (nI 1)), (2, .int (i)), (3, .int (nI 2)), (4, .int (k)), (5, .int (n))]) hx hb dX10_paste_31 hl (by decide) rfl (fun ls hl => ?_)
          refine lv_aload hx hb dX10_paste_33 (lv_at hl 1 rfl) ?_
          refine z_callVi (k := 75) (As := []) (rest := []) hx hb hml hown ht (kX6_isThere_75 l D q cA ) hw_5_63 hmX6_isThere ⟨rfl, rfl⟩ (na := 0) rfl (by decide +kernel) (by decide) (by decide) rfl rfl hK hP hD hS hA hl.1 rfl (Nat.le_of_ble_eq_true rfl) ⟨Nat.zero_le _, Nat.zero_le _⟩ dX10_paste_35 (fun r_12 I_12 R_12 J_12 H locs hp_12 hP hD hS _ _ => ?_)
          obtain ⟨rfl, hu_12⟩ := hp_12
          cases hu_12
          refine lv_if_eq (tgt := 49) hx hb dX10_paste_38 (by decide) (fun _ => ?_) (fun c_0 => absurd (by decide +kernel) c_0)
          refine lv_bipush (v := (-6)) hx hb dX10_paste_49 (by decide +kernel) ?_
          exact z_iret (v := (-6)) hx hb hr hlocks hP hD hS dX10_paste_51 (Or.inl ⟨by omega, by omega, by omega, by omega, rfl⟩)
        · refine va_aldq hx hb hK hP 72 52 (zw_at (by decide) rfl) rfl (vp_in_nI (by decide) (by decide)) dX10_paste_30 ?_
          refine W.eq (g2 := F0 m 31 ls (.ref (q 79) :: [])) rfl ?_
          refine lv_astore (lv' := [(7, .ref (q 79)), (6, .ref (q 75)), (0, .ref (q 0)), (1, .int (nI 1)), (2, .int (i)), (3, .int (nI 3)), (4, .int (k)), (5, .int (n))]) hx hb dX10_paste_31 hl (by decide) rfl (fun ls hl => ?_)
          refine lv_aload hx hb dX10_paste_33 (lv_at hl 1 rfl) ?_
          refine z_callVi (k := 75) (As := []) (rest := []) hx hb hml hown ht (kX6_isThere_75 l D q cA ) hw_5_63 hmX6_isThere ⟨rfl, rfl⟩ (na := 0) rfl (by decide +kernel) (by decide) (by decide) rfl rfl hK hP hD hS hA hl.1 rfl (Nat.le_of_ble_eq_true rfl) ⟨Nat.zero_le _, Nat.zero_le _⟩ dX10_paste_35 (fun r_13 I_13 R_13 J_13 H locs hp_13 hP hD hS _ _ => ?_)
          obtain ⟨rfl, hu_13⟩ := hp_13
          cases hu_13
          refine lv_if_eq (tgt := 49) hx hb dX10_paste_38 (by decide) (fun _ => ?_) (fun c_0 => absurd (by decide +kernel) c_0)
          refine lv_bipush (v := (-6)) hx hb dX10_paste_49 (by decide +kernel) ?_
          exact z_iret (v := (-6)) hx hb hr hlocks hP hD hS dX10_paste_51 (Or.inl ⟨by omega, by omega, by omega, by omega, rfl⟩)
      · refine va_aldq hx hb hK hP 72 52 (zw_at (by decide) rfl) rfl (vp_in_nI (by decide) (by decide)) dX10_paste_22 ?_
        refine W.eq (g2 := F0 m 23 ls (.ref (q 77) :: [])) rfl ?_
        refine lv_astore (lv' := [(6, .ref (q 77)), (0, .ref (q 0)), (1, .int (nI 2)), (2, .int (i)), (3, .int (t)), (4, .int (k)), (5, .int (n))]) hx hb dX10_paste_23 hl (by decide) rfl (fun ls hl => ?_)
        refine lv_aload_n hx hb dX10_paste_25 rfl (lv_at hl 1 rfl) ?_
        refine z_get hx hb ht hown hK hP ziX10 rfl 0 (by decide) 11 (by decide) hw_2_104 rfl (v := .ref (q 72)) rfl dX10_paste_26 ?_
        refine lv_iload_n hx hb dX10_paste_29 rfl (lv_at hl 4 rfl) ?_
        obtain ⟨n_14, hn_14, rfl⟩ := z_ex (x := t) (N := 4) (by omega) (by omega)
        rcases (show n_14 = 0 ∨ n_14 = 1 ∨ n_14 = 2 ∨ n_14 = 3 by omega) with rfl | rfl | rfl | rfl
        · refine va_aldq hx hb hK hP 72 52 (zw_at (by decide) rfl) rfl (vp_in_nI (by decide) (by decide)) dX10_paste_30 ?_
          refine W.eq (g2 := F0 m 31 ls (.ref (q 73) :: [])) rfl ?_
          refine lv_astore (lv' := [(7, .ref (q 73)), (6, .ref (q 77)), (0, .ref (q 0)), (1, .int (nI 2)), (2, .int (i)), (3, .int (nI 0)), (4, .int (k)), (5, .int (n))]) hx hb dX10_paste_31 hl (by decide) rfl (fun ls hl => ?_)
          refine lv_aload hx hb dX10_paste_33 (lv_at hl 1 rfl) ?_
          refine z_callVi (k := 77) (As := []) (rest := []) hx hb hml hown ht (kX6_isThere_77 l D q cA ) hw_5_63 hmX6_isThere ⟨rfl, rfl⟩ (na := 0) rfl (by decide +kernel) (by decide) (by decide) rfl rfl hK hP hD hS hA hl.1 rfl (Nat.le_of_ble_eq_true rfl) ⟨Nat.zero_le _, Nat.zero_le _⟩ dX10_paste_35 (fun r_15 I_15 R_15 J_15 H locs hp_15 hP hD hS _ _ => ?_)
          obtain ⟨rfl, hu_15⟩ := hp_15
          cases hu_15
          refine lv_if_eq (tgt := 49) hx hb dX10_paste_38 (by decide) (fun _ => ?_) (fun c_0 => absurd (by decide +kernel) c_0)
          refine lv_bipush (v := (-6)) hx hb dX10_paste_49 (by decide +kernel) ?_
          exact z_iret (v := (-6)) hx hb hr hlocks hP hD hS dX10_paste_51 (Or.inl ⟨by omega, by omega, by omega, by omega, rfl⟩)
        · refine va_aldq hx hb hK hP 72 52 (zw_at (by decide) rfl) rfl (vp_in_nI (by decide) (by decide)) dX10_paste_30 ?_
          refine W.eq (g2 := F0 m 31 ls (.ref (q 75) :: [])) rfl ?_
          refine lv_astore (lv' := [(7, .ref (q 75)), (6, .ref (q 77)), (0, .ref (q 0)), (1, .int (nI 2)), (2, .int (i)), (3, .int (nI 1)), (4, .int (k)), (5, .int (n))]) hx hb dX10_paste_31 hl (by decide) rfl (fun ls hl => ?_)
          refine lv_aload hx hb dX10_paste_33 (lv_at hl 1 rfl) ?_
          refine z_callVi (k := 77) (As := []) (rest := []) hx hb hml hown ht (kX6_isThere_77 l D q cA ) hw_5_63 hmX6_isThere ⟨rfl, rfl⟩ (na := 0) rfl (by decide +kernel) (by decide) (by decide) rfl rfl hK hP hD hS hA hl.1 rfl (Nat.le_of_ble_eq_true rfl) ⟨Nat.zero_le _, Nat.zero_le _⟩ dX10_paste_35 (fun r_16 I_16 R_16 J_16 H locs hp_16 hP hD hS _ _ => ?_)
          obtain ⟨rfl, hu_16⟩ := hp_16
          cases hu_16
          refine lv_if_eq (tgt := 49) hx hb dX10_paste_38 (by decide) (fun _ => ?_) (fun c_0 => absurd (by decide +kernel) c_0)
          refine lv_bipush (v := (-6)) hx hb dX10_paste_49 (by decide +kernel) ?_
          exact z_iret (v := (-6)) hx hb hr hlocks hP hD hS dX10_paste_51 (Or.inl ⟨by omega, by omega, by omega, by omega, rfl⟩)
        · refine va_aldq hx hb hK hP 72 52 (zw_at (by decide) rfl) rfl (vp_in_nI (by decide) (by decide)) dX10_paste_30 ?_
          refine W.eq (g2 := F0 m 31 ls (.ref (q 77) :: [])) rfl ?_
          refine lv_astore (lv' := [(7, .ref (q 77)), (6, .ref (q 77)), (0, .ref (q 0)), (1, .int (nI 2)), (2, .int (i)), (3, .int (nI 2)), (4, .int (k)), (5, .int (n))]) hx hb dX10_paste_31 hl (by decide) rfl (fun ls hl => ?_)
          refine lv_aload hx hb dX10_paste_33 (lv_at hl 1 rfl) ?_
          refine z_callVi (k := 77) (As := []) (rest := []) hx hb hml hown ht (kX6_isThere_77 l D q cA ) hw_5_63 hmX6_isThere ⟨rfl, rfl⟩ (na := 0) rfl (by decide +kernel) (by decide) (by decide) rfl rfl hK hP hD hS hA hl.1 rfl (Nat.le_of_ble_eq_true rfl) ⟨Nat.zero_le _, Nat.zero_le _⟩ dX10_paste_35 (fun r_17 I_17 R_17 J_17 H locs hp_17 hP hD hS _ _ => ?_)
          obtain ⟨rfl, hu_17⟩ := hp_17
          cases hu_17
          refine lv_if_eq (tgt := 49) hx hb dX10_paste_38 (by decide) (fun _ => ?_) (fun c_0 => absurd (by decide +kernel) c_0)
          refine lv_bipush (v := (-6)) hx hb dX10_paste_49 (by decide +kernel) ?_
          exact z_iret (v := (-6)) hx hb hr hlocks hP hD hS dX10_paste_51 (Or.inl ⟨by omega, by omega, by omega, by omega, rfl⟩)
        · refine va_aldq hx hb hK hP 72 52 (zw_at (by decide) rfl) rfl (vp_in_nI (by decide) (by decide)) dX10_paste_30 ?_
          refine W.eq (g2 := F0 m 31 ls (.ref (q 79) :: [])) rfl ?_
          refine lv_astore (lv' := [(7, .ref (q 79)), (6, .ref (q 77)), (0, .ref (q 0)), (1, .int (nI 2)), (2, .int (i)), (3, .int (nI 3)), (4, .int (k)), (5, .int (n))]) hx hb dX10_paste_31 hl (by decide) rfl (fun ls hl => ?_)
          refine lv_aload hx hb dX10_paste_33 (lv_at hl 1 rfl) ?_
          refine z_callVi (k := 77) (As := []) (rest := []) hx hb hml hown ht (kX6_isThere_77 l D q cA ) hw_5_63 hmX6_isThere ⟨rfl, rfl⟩ (na := 0) rfl (by decide +kernel) (by decide) (by decide) rfl rfl hK hP hD hS hA hl.1 rfl (Nat.le_of_ble_eq_true rfl) ⟨Nat.zero_le _, Nat.zero_le _⟩ dX10_paste_35 (fun r_18 I_18 R_18 J_18 H locs hp_18 hP hD hS _ _ => ?_)
          obtain ⟨rfl, hu_18⟩ := hp_18
          cases hu_18
          refine lv_if_eq (tgt := 49) hx hb dX10_paste_38 (by decide) (fun _ => ?_) (fun c_0 => absurd (by decide +kernel) c_0)
          refine lv_bipush (v := (-6)) hx hb dX10_paste_49 (by decide +kernel) ?_
          exact z_iret (v := (-6)) hx hb hr hlocks hP hD hS dX10_paste_51 (Or.inl ⟨by omega, by omega, by omega, by omega, rfl⟩)
      · refine va_aldq hx hb hK hP 72 52 (zw_at (by decide) rfl) rfl (vp_in_nI (by decide) (by decide)) dX10_paste_22 ?_
        refine W.eq (g2 := F0 m 23 ls (.ref (q 79) :: [])) rfl ?_
        refine lv_astore (lv' := [(6, .ref (q 79)), (0, .ref (q 0)), (1, .int (nI 3)), (2, .int (i)), (3, .int (t)), (4, .int (k)), (5, .int (n))]) hx hb dX10_paste_23 hl (by decide) rfl (fun ls hl => ?_)
        refine lv_aload_n hx hb dX10_paste_25 rfl (lv_at hl 1 rfl) ?_
        refine z_get hx hb ht hown hK hP ziX10 rfl 0 (by decide) 11 (by decide) hw_2_104 rfl (v := .ref (q 72)) rfl dX10_paste_26 ?_
        refine lv_iload_n hx hb dX10_paste_29 rfl (lv_at hl 4 rfl) ?_
        obtain ⟨n_19, hn_19, rfl⟩ := z_ex (x := t) (N := 4) (by omega) (by omega)
        rcases (show n_19 = 0 ∨ n_19 = 1 ∨ n_19 = 2 ∨ n_19 = 3 by omega) with rfl | rfl | rfl | rfl
        · refine va_aldq hx hb hK hP 72 52 (zw_at (by decide) rfl) rfl (vp_in_nI (by decide) (by decide)) dX10_paste_30 ?_
          refine W.eq (g2 := F0 m 31 ls (.ref (q 73) :: [])) rfl ?_
          refine lv_astore (lv' := [(7, .ref (q 73)), (6, .ref (q 79)), (0, .ref (q 0)), (1, .int (nI 3)), (2, .int (i)), (3, .int (nI 0)), (4, .int (k)), (5, .int (n))]) hx hb dX10_paste_31 hl (by decide) rfl (fun ls hl => ?_)
          refine lv_aload hx hb dX10_paste_33 (lv_at hl 1 rfl) ?_
          refine z_callVi (k := 79) (As := []) (rest := []) hx hb hml hown ht (kX6_isThere_79 l D q cA ) hw_5_63 hmX6_isThere ⟨rfl, rfl⟩ (na := 0) rfl (by decide +kernel) (by decide) (by decide) rfl rfl hK hP hD hS hA hl.1 rfl (Nat.le_of_ble_eq_true rfl) ⟨Nat.zero_le _, Nat.zero_le _⟩ dX10_paste_35 (fun r_20 I_20 R_20 J_20 H locs hp_20 hP hD hS _ _ => ?_)
          obtain ⟨rfl, hu_20⟩ := hp_20
          cases hu_20
          refine lv_if_eq (tgt := 49) hx hb dX10_paste_38 (by decide) (fun _ => ?_) (fun c_0 => absurd (by decide +kernel) c_0)
          refine lv_bipush (v := (-6)) hx hb dX10_paste_49 (by decide +kernel) ?_
          exact z_iret (v := (-6)) hx hb hr hlocks hP hD hS dX10_paste_51 (Or.inl ⟨by omega, by omega, by omega, by omega, rfl⟩)
        · refine va_aldq hx hb hK hP 72 52 (zw_at (by decide) rfl) rfl (vp_in_nI (by decide) (by decide)) dX10_paste_30 ?_
          refine W.eq (g2 := F0 m 31 ls (.ref (q 75) :: [])) rfl ?_
          refine lv_astore (lv' := [(7, .ref (q 75)), (6, .ref (q 79)), (0, .ref (q 0)), (1, .int (nI 3)), (2, .int (i)), (3, .int (nI 1)), (4, .int (k)), (5, .int (n))]) hx hb dX10_paste_31 hl (by decide) rfl (fun ls hl => ?_)
          refine lv_aload hx hb dX10_paste_33 (lv_at hl 1 rfl) ?_
          refine z_callVi (k := 79) (As := []) (rest := []) hx hb hml hown ht (kX6_isThere_79 l D q cA ) hw_5_63 hmX6_isThere ⟨rfl, rfl⟩ (na := 0) rfl (by decide +kernel) (by decide) (by decide) rfl rfl hK hP hD hS hA hl.1 rfl (Nat.le_of_ble_eq_true rfl) ⟨Nat.zero_le _, Nat.zero_le _⟩ dX10_paste_35 (fun r_21 I_21 R_21 J_21 H locs hp_21 hP hD hS _ _ => ?_)
          obtain ⟨rfl, hu_21⟩ := hp_21
          cases hu_21
          refine lv_if_eq (tgt := 49) hx hb dX10_paste_38 (by decide) (fun _ => ?_) (fun c_0 => absurd (by decide +kernel) c_0)
          refine lv_bipush (v := (-6)) hx hb dX10_paste_49 (by decide +kernel) ?_
          exact z_iret (v := (-6)) hx hb hr hlocks hP hD hS dX10_paste_51 (Or.inl ⟨by omega, by omega, by omega, by omega, rfl⟩)
        · refine va_aldq hx hb hK hP 72 52 (zw_at (by decide) rfl) rfl (vp_in_nI (by decide) (by decide)) dX10_paste_30 ?_
          refine W.eq (g2 := F0 m 31 ls (.ref (q 77) :: [])) rfl ?_
          refine lv_astore (lv' := [(7, .ref (q 77)), (6, .ref (q 79)), (0, .ref (q 0)), (1, .int (nI 3)), (2, .int (i)), (3, .int (nI 2)), (4, .int (k)), (5, .int (n))]) hx hb dX10_paste_31 hl (by decide) rfl (fun ls hl => ?_)
          refine lv_aload hx hb dX10_paste_33 (lv_at hl 1 rfl) ?_
          refine z_callVi (k := 79) (As := []) (rest := []) hx hb hml hown ht (kX6_isThere_79 l D q cA ) hw_5_63 hmX6_isThere ⟨rfl, rfl⟩ (na := 0) rfl (by decide +kernel) (by decide) (by decide) rfl rfl hK hP hD hS hA hl.1 rfl (Nat.le_of_ble_eq_true rfl) ⟨Nat.zero_le _, Nat.zero_le _⟩ dX10_paste_35 (fun r_22 I_22 R_22 J_22 H locs hp_22 hP hD hS _ _ => ?_)
          obtain ⟨rfl, hu_22⟩ := hp_22
          cases hu_22
          refine lv_if_eq (tgt := 49) hx hb dX10_paste_38 (by decide) (fun _ => ?_) (fun c_0 => absurd (by decide +kernel) c_0)
          refine lv_bipush (v := (-6)) hx hb dX10_paste_49 (by decide +kernel) ?_
          exact z_iret (v := (-6)) hx hb hr hlocks hP hD hS dX10_paste_51 (Or.inl ⟨by omega, by omega, by omega, by omega, rfl⟩)
        · refine va_aldq hx hb hK hP 72 52 (zw_at (by decide) rfl) rfl (vp_in_nI (by decide) (by decide)) dX10_paste_30 ?_
          refine W.eq (g2 := F0 m 31 ls (.ref (q 79) :: [])) rfl ?_
          refine lv_astore (lv' := [(7, .ref (q 79)), (6, .ref (q 79)), (0, .ref (q 0)), (1, .int (nI 3)), (2, .int (i)), (3, .int (nI 3)), (4, .int (k)), (5, .int (n))]) hx hb dX10_paste_31 hl (by decide) rfl (fun ls hl => ?_)
          refine lv_aload hx hb dX10_paste_33 (lv_at hl 1 rfl) ?_
          refine z_callVi (k := 79) (As := []) (rest := []) hx hb hml hown ht (kX6_isThere_79 l D q cA ) hw_5_63 hmX6_isThere ⟨rfl, rfl⟩ (na := 0) rfl (by decide +kernel) (by decide) (by decide) rfl rfl hK hP hD hS hA hl.1 rfl (Nat.le_of_ble_eq_true rfl) ⟨Nat.zero_le _, Nat.zero_le _⟩ dX10_paste_35 (fun r_23 I_23 R_23 J_23 H locs hp_23 hP hD hS _ _ => ?_)
          obtain ⟨rfl, hu_23⟩ := hp_23
          cases hu_23
          refine lv_if_eq (tgt := 49) hx hb dX10_paste_38 (by decide) (fun _ => ?_) (fun c_0 => absurd (by decide +kernel) c_0)
          refine lv_bipush (v := (-6)) hx hb dX10_paste_49 (by decide +kernel) ?_
          exact z_iret (v := (-6)) hx hb hr hlocks hP hD hS dX10_paste_51 (Or.inl ⟨by omega, by omega, by omega, by omega, rfl⟩)
    · cases hu_2
      refine lv_if_ne (tgt := 17) hx hb dX10_paste_11 (by decide) (fun c_0 => absurd (by decide +kernel) c_0) (fun _ => ?_)
      refine lv_bipush (v := (-2)) hx hb dX10_paste_14 (by decide +kernel) ?_
      exact z_iret (v := (-2)) hx hb hr hlocks hP hD hS dX10_paste_16 (Or.inr ⟨by omega, rfl⟩)
  · cases hu_1
    refine lv_if_eq (tgt := 14) hx hb dX10_paste_4 (by decide) (fun _ => ?_) (fun c_0 => absurd (by decide +kernel) c_0)
    refine lv_bipush (v := (-2)) hx hb dX10_paste_14 (by decide +kernel) ?_
    exact z_iret (v := (-2)) hx hb hr hlocks hP hD hS dX10_paste_16 (Or.inr ⟨by omega, rfl⟩)
set_option maxHeartbeats 4000000 in
set_option maxRecDepth 100000 in
theorem kX7_hasRoom (l : Launch) (D : va_G) (q : Nat → Nat) (cA : Nat → ClassId)    : zMi l D vwCl (zXtys cA) 81 q (zXd q cA) yX7_hasRoom cX7_hasRoom 1 (some .boolean) ({ frames := 0, cells := 0, slots := 0, locals := 0 } : Room) [.ref (q 1)] (zXI0, zXR0, zXJ0) (fun r u => r = nI 1 ∧ u = (zXI0, zXR0, zXJ0)) := by
  intro sz
  refine z_body (by decide +kernel) (Nat.le_of_ble_eq_true rfl) (fun p e s m below meth c ls hx hb hml hr ht hown hlocks hsz hK hP hD hS hl => ?_)
  have hA : ∀ a, s.heap.size ≤ a → zA 81 q sz a := fun a h => Or.inr (hsz ▸ h)
  have hl : lv_has ls 1 [(0, .ref (q 1))] := hl
  refine lv_aload_n hx hb dX7_hasRoom_0 rfl (lv_at hl 0 rfl) ?_
  refine z_get hx hb ht hown hK hP ziX7 rfl 1 (by decide) 1 (by decide) hw_1_36 rfl (v := .int (nI 0)) rfl dX7_hasRoom_1 ?_
  refine lv_bipush (v := nI 20) hx hb dX7_hasRoom_4 (by decide +kernel) ?_
  refine lv_iadd hx hb dX7_hasRoom_6 ?_
  refine z_eqi (y := nI 20) (by decide +kernel) ?_
  refine lv_sipush (v := nI 800) hx hb dX7_hasRoom_7 (by decide +kernel) ?_
  refine lv_icmp_gt (tgt := 17) hx hb dX7_hasRoom_10 (by decide) (fun c_0 => absurd c_0 (by decide +kernel)) (fun _ => ?_)
  refine lv_iconst (v := nI 1) hx hb dX7_hasRoom_13 (by decide +kernel) ?_
  refine lv_goto (tgt := 18) hx hb dX7_hasRoom_14 (by decide) ?_
  exact z_zret (v := nI 1) hx hb hr hlocks hP hD hS (by decide +kernel) dX7_hasRoom_18 ⟨rfl, rfl⟩
set_option maxHeartbeats 4000000 in
set_option maxRecDepth 100000 in
theorem kX7_add (l : Launch) (D : va_G) (q : Nat → Nat) (cA : Nat → ClassId) (I R : Nat → Nat → Int32) (J : Nat → Nat → Int64) (n : Nat) (x : Int32) (hI : I 1 1 = nI n) (hn : n + 4 ≤ 800) : zMv l D vwCl (zXtys cA) 81 q (zXd q cA) yX7_add cX7_add 3 none ({ frames := 0, cells := 0, slots := 0, locals := 0 } : Room) [.ref (q 1), .int (x)] (I, R, J) (fun u => u.1 1 1 = nI (n + 4)) := by
  intro sz
  refine z_body (by decide +kernel) (Nat.le_of_ble_eq_true rfl) (fun p e s m below meth c ls hx hb hml hr ht hown hlocks hsz hK hP hD hS hl => ?_)
  have hA : ∀ a, s.heap.size ≤ a → zA 81 q sz a := fun a h => Or.inr (hsz ▸ h)
  have hl : lv_has ls 3 [(0, .ref (q 1)), (1, .int (x))] := hl
  refine lv_bipush (v := nI 24) hx hb dX7_add_0 (by decide +kernel) ?_
  refine lv_istore_n (lv' := [(2, .int (nI 24)), (0, .ref (q 1)), (1, .int (x))]) hx hb dX7_add_2 rfl hl (by decide) rfl (fun ls hl => ?_)
  refine lv_iload_n hx hb dX7_add_3 rfl (lv_at hl 0 rfl) ?_
  refine lv_if_lt (tgt := 46) hx hb dX7_add_4 (by decide) (fun c_0 => absurd c_0 (by decide +kernel)) (fun _ => ?_)
  refine lv_aload_n hx hb dX7_add_7 rfl (lv_at hl 1 rfl) ?_
  refine z_get hx hb ht hown hK hP ziX7 rfl 1 (by decide) 1 (by decide) hw_1_36 rfl (v := .int (I 1 1)) rfl dX7_add_8 ?_
  refine z_eqi (y := nI n) hI ?_
  refine lv_sipush (v := nI 800) hx hb dX7_add_11 (by decide +kernel) ?_
  refine lv_icmp_ge (tgt := 46) hx hb dX7_add_14 (by decide) (fun c_0 => absurd c_0 (nI_ge (by omega) (by omega))) (fun _ => ?_)
  refine lv_aload_n hx hb dX7_add_17 rfl (lv_at hl 1 rfl) ?_
  refine z_get hx hb ht hown hK hP ziX7 rfl 1 (by decide) 0 (by decide) hw_1_35 rfl (v := .ref (q 2)) rfl dX7_add_18 ?_
  refine lv_aload_n hx hb dX7_add_21 rfl (lv_at hl 1 rfl) ?_
  refine z_get hx hb ht hown hK hP ziX7 rfl 1 (by decide) 1 (by decide) hw_1_36 rfl (v := .int (I 1 1)) rfl dX7_add_22 ?_
  refine z_eqi (y := nI n) hI ?_
  refine lv_iload_n hx hb dX7_add_25 rfl (lv_at hl 2 rfl) ?_
  refine lv_iload_n hx hb dX7_add_26 rfl (lv_at hl 0 rfl) ?_
  refine lv_ishr hx hb dX7_add_27 ?_
  refine lv_i2b (v := ((x) >>> ((nI 24) &&& 31)).toInt8.toInt32) hx hb dX7_add_28 rfl ?_
  refine z_bast hx hb hK hP hD hS 2 (by decide) 0 (fun _ => rfl) rfl (vp_in_nI (by omega) (by decide)) dX7_add_29 (fun H locs hP hD hS => ?_)
  refine lv_aload_n hx hb dX7_add_30 rfl (lv_at hl 1 rfl) ?_
  refine lv_dup hx hb dX7_add_31 rfl ?_
  refine z_get hx hb ht hown hK hP ziX7 rfl 1 (by decide) 1 (by decide) hw_1_36 rfl (v := .int (I 1 1)) rfl dX7_add_32 ?_
  refine z_eqi (y := nI n) hI ?_
  refine lv_iconst (v := nI 1) hx hb dX7_add_35 (by decide +kernel) ?_
  refine lv_iadd hx hb dX7_add_36 ?_
  refine z_eqi (y := nI (n + 1)) (nI_add n 1) ?_
  refine z_putI hx hb ht hown hK hP hD hS ziX7 tyX7 tyX7_ok nmX7 rfl 1 (by decide) 1 (by decide) hw_1_36 rfl (v := nI (n + 1)) rfl rfl rfl (Nat.le_of_ble_eq_true rfl) rfl dX7_add_37 (fun H locs hP hD hS => ?_)
  refine lv_iinc (v := nI 16) (lv' := [(2, .int (nI 16)), (0, .ref (q 1)), (1, .int (x))]) hx hb dX7_add_40 hl (k := 0) rfl (by decide +kernel) (by decide) rfl (fun ls hl => ?_)
  refine lv_goto (tgt := 3) hx hb dX7_add_43 (by decide) ?_
  refine lv_iload_n hx hb dX7_add_3 rfl (lv_at hl 0 rfl) ?_
  refine lv_if_lt (tgt := 46) hx hb dX7_add_4 (by decide) (fun c_0 => absurd c_0 (by decide +kernel)) (fun _ => ?_)
  refine lv_aload_n hx hb dX7_add_7 rfl (lv_at hl 1 rfl) ?_
  refine z_get hx hb ht hown hK hP ziX7 rfl 1 (by decide) 1 (by decide) hw_1_36 rfl (v := .int (nI (n + 1))) rfl dX7_add_8 ?_
  refine lv_sipush (v := nI 800) hx hb dX7_add_11 (by decide +kernel) ?_
  refine lv_icmp_ge (tgt := 46) hx hb dX7_add_14 (by decide) (fun c_0 => absurd c_0 (nI_ge (by omega) (by omega))) (fun _ => ?_)
  refine lv_aload_n hx hb dX7_add_17 rfl (lv_at hl 1 rfl) ?_
  refine z_get hx hb ht hown hK hP ziX7 rfl 1 (by decide) 0 (by decide) hw_1_35 rfl (v := .ref (q 2)) rfl dX7_add_18 ?_
  refine lv_aload_n hx hb dX7_add_21 rfl (lv_at hl 1 rfl) ?_
  refine z_get hx hb ht hown hK hP ziX7 rfl 1 (by decide) 1 (by decide) hw_1_36 rfl (v := .int (nI (n + 1))) rfl dX7_add_22 ?_
  refine lv_iload_n hx hb dX7_add_25 rfl (lv_at hl 2 rfl) ?_
  refine lv_iload_n hx hb dX7_add_26 rfl (lv_at hl 0 rfl) ?_
  refine lv_ishr hx hb dX7_add_27 ?_
  refine lv_i2b (v := ((x) >>> ((nI 16) &&& 31)).toInt8.toInt32) hx hb dX7_add_28 rfl ?_
  refine z_bast hx hb hK hP hD hS 2 (by decide) 0 (fun _ => rfl) rfl (vp_in_nI (by omega) (by decide)) dX7_add_29 (fun H locs hP hD hS => ?_)
  refine lv_aload_n hx hb dX7_add_30 rfl (lv_at hl 1 rfl) ?_
  refine lv_dup hx hb dX7_add_31 rfl ?_
  refine z_get hx hb ht hown hK hP ziX7 rfl 1 (by decide) 1 (by decide) hw_1_36 rfl (v := .int (nI (n + 1))) rfl dX7_add_32 ?_
  refine lv_iconst (v := nI 1) hx hb dX7_add_35 (by decide +kernel) ?_
  refine lv_iadd hx hb dX7_add_36 ?_
  refine z_eqi (y := nI ((n + 1) + 1)) (nI_add (n + 1) 1) ?_
  refine z_putI hx hb ht hown hK hP hD hS ziX7 tyX7 tyX7_ok nmX7 rfl 1 (by decide) 1 (by decide) hw_1_36 rfl (v := nI ((n + 1) + 1)) rfl rfl rfl (Nat.le_of_ble_eq_true rfl) rfl dX7_add_37 (fun H locs hP hD hS => ?_)
  refine lv_iinc (v := nI 8) (lv' := [(2, .int (nI 8)), (0, .ref (q 1)), (1, .int (x))]) hx hb dX7_add_40 hl (k := 0) rfl (by decide +kernel) (by decide) rfl (fun ls hl => ?_)
  refine lv_goto (tgt := 3) hx hb dX7_add_43 (by decide) ?_
  refine lv_iload_n hx hb dX7_add_3 rfl (lv_at hl 0 rfl) ?_
  refine lv_if_lt (tgt := 46) hx hb dX7_add_4 (by decide) (fun c_0 => absurd c_0 (by decide +kernel)) (fun _ => ?_)
  refine lv_aload_n hx hb dX7_add_7 rfl (lv_at hl 1 rfl) ?_
  refine z_get hx hb ht hown hK hP ziX7 rfl 1 (by decide) 1 (by decide) hw_1_36 rfl (v := .int (nI ((n + 1) + 1))) rfl dX7_add_8 ?_
  refine lv_sipush (v := nI 800) hx hb dX7_add_11 (by decide +kernel) ?_
  refine lv_icmp_ge (tgt := 46) hx hb dX7_add_14 (by decide) (fun c_0 => absurd c_0 (nI_ge (by omega) (by omega))) (fun _ => ?_)
  refine lv_aload_n hx hb dX7_add_17 rfl (lv_at hl 1 rfl) ?_
  refine z_get hx hb ht hown hK hP ziX7 rfl 1 (by decide) 0 (by decide) hw_1_35 rfl (v := .ref (q 2)) rfl dX7_add_18 ?_
  refine lv_aload_n hx hb dX7_add_21 rfl (lv_at hl 1 rfl) ?_
  refine z_get hx hb ht hown hK hP ziX7 rfl 1 (by decide) 1 (by decide) hw_1_36 rfl (v := .int (nI ((n + 1) + 1))) rfl dX7_add_22 ?_
  refine lv_iload_n hx hb dX7_add_25 rfl (lv_at hl 2 rfl) ?_
  refine lv_iload_n hx hb dX7_add_26 rfl (lv_at hl 0 rfl) ?_
  refine lv_ishr hx hb dX7_add_27 ?_
  refine lv_i2b (v := ((x) >>> ((nI 8) &&& 31)).toInt8.toInt32) hx hb dX7_add_28 rfl ?_
  refine z_bast hx hb hK hP hD hS 2 (by decide) 0 (fun _ => rfl) rfl (vp_in_nI (by omega) (by decide)) dX7_add_29 (fun H locs hP hD hS => ?_)
  refine lv_aload_n hx hb dX7_add_30 rfl (lv_at hl 1 rfl) ?_
  refine lv_dup hx hb dX7_add_31 rfl ?_
  refine z_get hx hb ht hown hK hP ziX7 rfl 1 (by decide) 1 (by decide) hw_1_36 rfl (v := .int (nI ((n + 1) + 1))) rfl dX7_add_32 ?_
  refine lv_iconst (v := nI 1) hx hb dX7_add_35 (by decide +kernel) ?_
  refine lv_iadd hx hb dX7_add_36 ?_
  refine z_eqi (y := nI (((n + 1) + 1) + 1)) (nI_add ((n + 1) + 1) 1) ?_
  refine z_putI hx hb ht hown hK hP hD hS ziX7 tyX7 tyX7_ok nmX7 rfl 1 (by decide) 1 (by decide) hw_1_36 rfl (v := nI (((n + 1) + 1) + 1)) rfl rfl rfl (Nat.le_of_ble_eq_true rfl) rfl dX7_add_37 (fun H locs hP hD hS => ?_)
  refine lv_iinc (v := nI 0) (lv' := [(2, .int (nI 0)), (0, .ref (q 1)), (1, .int (x))]) hx hb dX7_add_40 hl (k := 0) rfl (by decide +kernel) (by decide) rfl (fun ls hl => ?_)
  refine lv_goto (tgt := 3) hx hb dX7_add_43 (by decide) ?_
  refine lv_iload_n hx hb dX7_add_3 rfl (lv_at hl 0 rfl) ?_
  refine lv_if_lt (tgt := 46) hx hb dX7_add_4 (by decide) (fun c_0 => absurd c_0 (by decide +kernel)) (fun _ => ?_)
  refine lv_aload_n hx hb dX7_add_7 rfl (lv_at hl 1 rfl) ?_
  refine z_get hx hb ht hown hK hP ziX7 rfl 1 (by decide) 1 (by decide) hw_1_36 rfl (v := .int (nI (((n + 1) + 1) + 1))) rfl dX7_add_8 ?_
  refine lv_sipush (v := nI 800) hx hb dX7_add_11 (by decide +kernel) ?_
  refine lv_icmp_ge (tgt := 46) hx hb dX7_add_14 (by decide) (fun c_0 => absurd c_0 (nI_ge (by omega) (by omega))) (fun _ => ?_)
  refine lv_aload_n hx hb dX7_add_17 rfl (lv_at hl 1 rfl) ?_
  refine z_get hx hb ht hown hK hP ziX7 rfl 1 (by decide) 0 (by decide) hw_1_35 rfl (v := .ref (q 2)) rfl dX7_add_18 ?_
  refine lv_aload_n hx hb dX7_add_21 rfl (lv_at hl 1 rfl) ?_
  refine z_get hx hb ht hown hK hP ziX7 rfl 1 (by decide) 1 (by decide) hw_1_36 rfl (v := .int (nI (((n + 1) + 1) + 1))) rfl dX7_add_22 ?_
  refine lv_iload_n hx hb dX7_add_25 rfl (lv_at hl 2 rfl) ?_
  refine lv_iload_n hx hb dX7_add_26 rfl (lv_at hl 0 rfl) ?_
  refine lv_ishr hx hb dX7_add_27 ?_
  refine lv_i2b (v := ((x) >>> ((nI 0) &&& 31)).toInt8.toInt32) hx hb dX7_add_28 rfl ?_
  refine z_bast hx hb hK hP hD hS 2 (by decide) 0 (fun _ => rfl) rfl (vp_in_nI (by omega) (by decide)) dX7_add_29 (fun H locs hP hD hS => ?_)
  refine lv_aload_n hx hb dX7_add_30 rfl (lv_at hl 1 rfl) ?_
  refine lv_dup hx hb dX7_add_31 rfl ?_
  refine z_get hx hb ht hown hK hP ziX7 rfl 1 (by decide) 1 (by decide) hw_1_36 rfl (v := .int (nI (((n + 1) + 1) + 1))) rfl dX7_add_32 ?_
  refine lv_iconst (v := nI 1) hx hb dX7_add_35 (by decide +kernel) ?_
  refine lv_iadd hx hb dX7_add_36 ?_
  refine z_eqi (y := nI ((((n + 1) + 1) + 1) + 1)) (nI_add (((n + 1) + 1) + 1) 1) ?_
  refine z_putI hx hb ht hown hK hP hD hS ziX7 tyX7 tyX7_ok nmX7 rfl 1 (by decide) 1 (by decide) hw_1_36 rfl (v := nI ((((n + 1) + 1) + 1) + 1)) rfl rfl rfl (Nat.le_of_ble_eq_true rfl) rfl dX7_add_37 (fun H locs hP hD hS => ?_)
  refine lv_iinc (v := (-8)) (lv' := [(2, .int ((-8))), (0, .ref (q 1)), (1, .int (x))]) hx hb dX7_add_40 hl (k := 0) rfl (by decide +kernel) (by decide) rfl (fun ls hl => ?_)
  refine lv_goto (tgt := 3) hx hb dX7_add_43 (by decide) ?_
  refine lv_iload_n hx hb dX7_add_3 rfl (lv_at hl 0 rfl) ?_
  refine lv_if_lt (tgt := 46) hx hb dX7_add_4 (by decide) (fun _ => ?_) (fun c_0 => absurd (by decide +kernel) c_0)
  exact z_vret hx hb hr hlocks hP hD hS dX7_add_46 (congrArg nI (by omega))
set_option maxHeartbeats 4000000 in
set_option maxRecDepth 100000 in
theorem kX10_feed (l : Launch) (D : va_G) (q : Nat → Nat) (cA : Nat → ClassId)  (a : Int32) (b : Int32) (c_ : Int32) (d_ : Int32) (e_ : Int32)  : zMi l D vwCl (zXtys cA) 81 q (zXd q cA) yX10_feed cX10_feed 6 (some .int) ({ frames := 1, cells := 0, slots := 0, locals := 22 } : Room) [.ref (q 0), .int (a), .int (b), .int (c_), .int (d_), .int (e_)] (zXI0, zXR0, zXJ0) (fun r _ => r = nI 20) := by
  intro sz
  refine z_body (by decide +kernel) (Nat.le_of_ble_eq_true rfl) (fun p e s m below meth c ls hx hb hml hr ht hown hlocks hsz hK hP hD hS hl => ?_)
  have hA : ∀ a, s.heap.size ≤ a → zA 81 q sz a := fun a h => Or.inr (hsz ▸ h)
  have hl : lv_has ls 6 [(0, .ref (q 0)), (1, .int (a)), (2, .int (b)), (3, .int (c_)), (4, .int (d_)), (5, .int (e_))] := hl
  refine lv_aload_n hx hb dX10_feed_0 rfl (lv_at hl 0 rfl) ?_
  refine z_get hx hb ht hown hK hP ziX10 rfl 0 (by decide) 0 (by decide) hw_2_93 rfl (v := .ref (q 1)) rfl dX10_feed_1 ?_
  refine z_callVi (k := 1) (As := []) (rest := []) hx hb hml hown ht (kX7_hasRoom l D q cA ) hw_2_134 hmX7_hasRoom ⟨rfl, rfl⟩ (na := 0) rfl (by decide +kernel) (by decide) (by decide) rfl rfl hK hP hD hS hA hl.1 rfl (Nat.le_of_ble_eq_true rfl) ⟨Nat.zero_le _, Nat.zero_le _⟩ dX10_feed_4 (fun r_1 I_1 R_1 J_1 H locs hp_1 hP hD hS _ _ => ?_)
  obtain ⟨rfl, hu_1⟩ := hp_1
  cases hu_1
  refine lv_if_ne (tgt := 12) hx hb dX10_feed_7 (by decide) (fun _ => ?_) (fun c_0 => absurd c_0 (by decide +kernel))
  refine lv_aload_n hx hb dX10_feed_12 rfl (lv_at hl 0 rfl) ?_
  refine z_get hx hb ht hown hK hP ziX10 rfl 0 (by decide) 0 (by decide) hw_2_93 rfl (v := .ref (q 1)) rfl dX10_feed_13 ?_
  refine lv_iload_n hx hb dX10_feed_16 rfl (lv_at hl 1 rfl) ?_
  refine z_callVv (k := 1) (As := [.int (a)]) (rest := []) hx hb hml hown ht (kX7_add l D q cA zXI0 _ _ 0 (a) rfl (by decide)) hw_2_138 hmX7_add ⟨rfl, rfl⟩ (na := 1) rfl (by decide +kernel) (by decide) (by decide) rfl rfl hK hP hD hS hA hl.1 rfl (Nat.le_of_ble_eq_true rfl) ⟨Nat.zero_le _, Nat.zero_le _⟩ dX10_feed_17 (fun I_2 R_2 J_2 H locs hp_2 hP hD hS _ _ => ?_)
  dsimp only at hp_2
  refine lv_aload_n hx hb dX10_feed_20 rfl (lv_at hl 0 rfl) ?_
  refine z_get hx hb ht hown hK hP ziX10 rfl 0 (by decide) 0 (by decide) hw_2_93 rfl (v := .ref (q 1)) rfl dX10_feed_21 ?_
  refine lv_iload_n hx hb dX10_feed_24 rfl (lv_at hl 2 rfl) ?_
  refine z_callVv (k := 1) (As := [.int (b)]) (rest := []) hx hb hml hown ht (kX7_add l D q cA I_2 _ _ 4 (b) hp_2 (by decide)) hw_2_138 hmX7_add ⟨rfl, rfl⟩ (na := 1) rfl (by decide +kernel) (by decide) (by decide) rfl rfl hK hP hD hS hA hl.1 rfl (Nat.le_of_ble_eq_true rfl) ⟨Nat.zero_le _, Nat.zero_le _⟩ dX10_feed_25 (fun I_3 R_3 J_3 H locs hp_3 hP hD hS _ _ => ?_)
  dsimp only at hp_3
  refine lv_aload_n hx hb dX10_feed_28 rfl (lv_at hl 0 rfl) ?_
  refine z_get hx hb ht hown hK hP ziX10 rfl 0 (by decide) 0 (by decide) hw_2_93 rfl (v := .ref (q 1)) rfl dX10_feed_29 ?_
  refine lv_iload_n hx hb dX10_feed_32 rfl (lv_at hl 3 rfl) ?_
  refine z_callVv (k := 1) (As := [.int (c_)]) (rest := []) hx hb hml hown ht (kX7_add l D q cA I_3 _ _ 8 (c_) hp_3 (by decide)) hw_2_138 hmX7_add ⟨rfl, rfl⟩ (na := 1) rfl (by decide +kernel) (by decide) (by decide) rfl rfl hK hP hD hS hA hl.1 rfl (Nat.le_of_ble_eq_true rfl) ⟨Nat.zero_le _, Nat.zero_le _⟩ dX10_feed_33 (fun I_4 R_4 J_4 H locs hp_4 hP hD hS _ _ => ?_)
  dsimp only at hp_4
  refine lv_aload_n hx hb dX10_feed_36 rfl (lv_at hl 0 rfl) ?_
  refine z_get hx hb ht hown hK hP ziX10 rfl 0 (by decide) 0 (by decide) hw_2_93 rfl (v := .ref (q 1)) rfl dX10_feed_37 ?_
  refine lv_iload hx hb dX10_feed_40 (lv_at hl 4 rfl) ?_
  refine z_callVv (k := 1) (As := [.int (d_)]) (rest := []) hx hb hml hown ht (kX7_add l D q cA I_4 _ _ 12 (d_) hp_4 (by decide)) hw_2_138 hmX7_add ⟨rfl, rfl⟩ (na := 1) rfl (by decide +kernel) (by decide) (by decide) rfl rfl hK hP hD hS hA hl.1 rfl (Nat.le_of_ble_eq_true rfl) ⟨Nat.zero_le _, Nat.zero_le _⟩ dX10_feed_42 (fun I_5 R_5 J_5 H locs hp_5 hP hD hS _ _ => ?_)
  dsimp only at hp_5
  refine lv_aload_n hx hb dX10_feed_45 rfl (lv_at hl 0 rfl) ?_
  refine z_get hx hb ht hown hK hP ziX10 rfl 0 (by decide) 0 (by decide) hw_2_93 rfl (v := .ref (q 1)) rfl dX10_feed_46 ?_
  refine lv_iload hx hb dX10_feed_49 (lv_at hl 5 rfl) ?_
  refine z_callVv (k := 1) (As := [.int (e_)]) (rest := []) hx hb hml hown ht (kX7_add l D q cA I_5 _ _ 16 (e_) hp_5 (by decide)) hw_2_138 hmX7_add ⟨rfl, rfl⟩ (na := 1) rfl (by decide +kernel) (by decide) (by decide) rfl rfl hK hP hD hS hA hl.1 rfl (Nat.le_of_ble_eq_true rfl) ⟨Nat.zero_le _, Nat.zero_le _⟩ dX10_feed_51 (fun I_6 R_6 J_6 H locs hp_6 hP hD hS _ _ => ?_)
  dsimp only at hp_6
  refine lv_aload_n hx hb dX10_feed_54 rfl (lv_at hl 0 rfl) ?_
  refine z_get hx hb ht hown hK hP ziX10 rfl 0 (by decide) 0 (by decide) hw_2_93 rfl (v := .ref (q 1)) rfl dX10_feed_55 ?_
  refine z_get hx hb ht hown hK hP ziX7 rfl 1 (by decide) 1 (by decide) hw_1_37 rfl (v := .int (I_6 1 1)) rfl dX10_feed_58 ?_
  refine z_eqi (y := nI 20) hp_6 ?_
  exact z_iret (v := nI 20) hx hb hr hlocks hP hD hS dX10_feed_61 rfl
set_option maxHeartbeats 4000000 in
set_option maxRecDepth 100000 in
theorem kJ7_fill_53178_12 (l : Launch) (D : va_G) (q : Nat → Nat) (cA : Nat → ClassId) (I R : Nat → Nat → Int32) (J : Nat → Nat → Int64) (x : Int32)  : zMv l D vwCl (zXtys cA) 81 q (zXd q cA) yJ7_fill_53178 cJ7_fill_53178 4 none ({ frames := 0, cells := 0, slots := 0, locals := 0 } : Room) [.ref (q 12), .int (x)] (I, R, J) (fun u => ∃ g : Nat → Int32, u = (I, zr R 12 g, J)) := by
  intro sz
  refine z_body (by decide +kernel) (Nat.le_of_ble_eq_true rfl) (fun p e s m below meth c ls hx hb hml hr ht hown hlocks hsz hK hP hD hS hl => ?_)
  have hA : ∀ a, s.heap.size ≤ a → zA 81 q sz a := fun a h => Or.inr (hsz ▸ h)
  have hl : lv_has ls 4 [(0, .ref (q 12)), (1, .int (x))] := hl
  refine lv_iconst (v := nI 0) hx hb dJ7_fill_53178_0 (by decide +kernel) ?_
  refine lv_istore_n (lv' := [(2, .int (nI 0)), (0, .ref (q 12)), (1, .int (x))]) hx hb dJ7_fill_53178_1 rfl hl (by decide) rfl (fun ls hl => ?_)
  refine lv_aload_n hx hb dJ7_fill_53178_2 rfl (lv_at hl 1 rfl) ?_
  refine z_alen hx hb hK hP 12 (by decide) 8 rfl rfl dJ7_fill_53178_3 ?_
  refine lv_istore_n (lv' := [(3, .int (nI 30)), (2, .int (nI 0)), (0, .ref (q 12)), (1, .int (x))]) hx hb dJ7_fill_53178_4 rfl hl (by decide) rfl (fun ls hl => ?_)
  have loop_k_1 : ∀ (N k_1 : Nat) (gk_1_12 : Nat → Int32), k_1 ≤ 30 → 30 < k_1 + N → ∀ (H : Heap) (locs : List Loc), va_P D vwCl (zw 81 q (zXd q cA) I (zr R 12 gk_1_12) J) H → va_D (zA 81 q sz) (zw 81 q (zXd q cA) I (zr R 12 gk_1_12) J) → va_S (zA 81 q sz) s.heap H locs → ∀ ls : Array Slot, lv_has ls 4 [(0, .ref (q 12)), (1, .int (x)), (2, .int (nI k_1)), (3, .int (nI 30))] → W p l e ({ frames := 0, cells := 0, slots := 0, locals := 0 } : Room) s m ([.ref (q 12), .int (x)] : List Value).toArray below meth c H locs 0 0 (MQ below (va_Qv (fun u => ∃ g : Nat → Int32, u = (I, zr R 12 g, J)) (zB D vwCl 81 q (zXd q cA) sz) (zA 81 q sz)) ([.ref (q 12), .int (x)] : List Value).toArray s 0 0 (zA 81 q sz)) (F0 m 5 ls []) := by
    intro N
    induction N with
    | zero => intro k_1 gk_1_12 h1 h2; exact absurd h2 (by omega)
    | succ N ih =>
      intro k_1 gk_1_12 h1k_1 h2k_1  H locs hP hD hS ls hl
      rcases Nat.lt_or_ge k_1 30 with hkk_1 | hkk_1
      · refine lv_iload_n hx hb dJ7_fill_53178_5 rfl (lv_at hl 2 rfl) ?_
        refine lv_iload_n hx hb dJ7_fill_53178_6 rfl (lv_at hl 3 rfl) ?_
        refine lv_icmp_ge (tgt := 20) hx hb dJ7_fill_53178_7 (by decide) (fun c_0 => absurd c_0 (nI_ge (by omega) (by omega))) (fun _ => ?_)
        refine lv_aload_n hx hb dJ7_fill_53178_10 rfl (lv_at hl 0 rfl) ?_
        refine lv_iload_n hx hb dJ7_fill_53178_11 rfl (lv_at hl 2 rfl) ?_
        refine lv_iload_n hx hb dJ7_fill_53178_12 rfl (lv_at hl 1 rfl) ?_
        refine z_iast hx hb hK hP hD hS 12 (by decide) 8 (fun _ => rfl) rfl (vp_in_nI (by omega) (by decide)) dJ7_fill_53178_13 (fun H locs hP hD hS => ?_)
        refine lv_iinc (v := nI (k_1 + 1)) (lv' := [(2, .int (nI (k_1 + 1))), (0, .ref (q 12)), (1, .int (x)), (3, .int (nI 30))]) hx hb dJ7_fill_53178_14 hl (k := 2) rfl (nI_add k_1 1) (by decide) rfl (fun ls hl => ?_)
        refine lv_goto (tgt := 5) hx hb dJ7_fill_53178_17 (by decide) ?_
        rw [zp_zr] at hP hD
        exact ih ((k_1 + 1)) _ (by omega) (by omega)  _ _ hP hD hS _ (lv_sub hl [1, 2, 0, 3] rfl)
      · refine lv_iload_n hx hb dJ7_fill_53178_5 rfl (lv_at hl 2 rfl) ?_
        refine lv_iload_n hx hb dJ7_fill_53178_6 rfl (lv_at hl 3 rfl) ?_
        refine lv_icmp_ge (tgt := 20) hx hb dJ7_fill_53178_7 (by decide) (fun _ => ?_) (fun c_0 => absurd (nI_le (by omega) (by omega)) c_0)
        exact z_vret hx hb hr hlocks hP hD hS dJ7_fill_53178_20 ⟨_, rfl⟩
  exact loop_k_1 31 0 (R 12) (by omega) (by omega)  _ _ (by simp only [zr_self]; exact hP) (by simp only [zr_self]; exact hD) hS _ (lv_sub hl [2, 3, 1, 0] rfl)
set_option maxHeartbeats 4000000 in
set_option maxRecDepth 100000 in
theorem kJ7_fill_53178_18 (l : Launch) (D : va_G) (q : Nat → Nat) (cA : Nat → ClassId) (I R : Nat → Nat → Int32) (J : Nat → Nat → Int64) (x : Int32)  : zMv l D vwCl (zXtys cA) 81 q (zXd q cA) yJ7_fill_53178 cJ7_fill_53178 4 none ({ frames := 0, cells := 0, slots := 0, locals := 0 } : Room) [.ref (q 18), .int (x)] (I, R, J) (fun u => ∃ g : Nat → Int32, u = (I, zr R 18 g, J)) := by
  intro sz
  refine z_body (by decide +kernel) (Nat.le_of_ble_eq_true rfl) (fun p e s m below meth c ls hx hb hml hr ht hown hlocks hsz hK hP hD hS hl => ?_)
  have hA : ∀ a, s.heap.size ≤ a → zA 81 q sz a := fun a h => Or.inr (hsz ▸ h)
  have hl : lv_has ls 4 [(0, .ref (q 18)), (1, .int (x))] := hl
  refine lv_iconst (v := nI 0) hx hb dJ7_fill_53178_0 (by decide +kernel) ?_
  refine lv_istore_n (lv' := [(2, .int (nI 0)), (0, .ref (q 18)), (1, .int (x))]) hx hb dJ7_fill_53178_1 rfl hl (by decide) rfl (fun ls hl => ?_)
  refine lv_aload_n hx hb dJ7_fill_53178_2 rfl (lv_at hl 1 rfl) ?_
  refine z_alen hx hb hK hP 18 (by decide) 12 rfl rfl dJ7_fill_53178_3 ?_
  refine lv_istore_n (lv' := [(3, .int (nI 6)), (2, .int (nI 0)), (0, .ref (q 18)), (1, .int (x))]) hx hb dJ7_fill_53178_4 rfl hl (by decide) rfl (fun ls hl => ?_)
  have loop_k_1 : ∀ (N k_1 : Nat) (gk_1_18 : Nat → Int32), k_1 ≤ 6 → 6 < k_1 + N → ∀ (H : Heap) (locs : List Loc), va_P D vwCl (zw 81 q (zXd q cA) I (zr R 18 gk_1_18) J) H → va_D (zA 81 q sz) (zw 81 q (zXd q cA) I (zr R 18 gk_1_18) J) → va_S (zA 81 q sz) s.heap H locs → ∀ ls : Array Slot, lv_has ls 4 [(0, .ref (q 18)), (1, .int (x)), (2, .int (nI k_1)), (3, .int (nI 6))] → W p l e ({ frames := 0, cells := 0, slots := 0, locals := 0 } : Room) s m ([.ref (q 18), .int (x)] : List Value).toArray below meth c H locs 0 0 (MQ below (va_Qv (fun u => ∃ g : Nat → Int32, u = (I, zr R 18 g, J)) (zB D vwCl 81 q (zXd q cA) sz) (zA 81 q sz)) ([.ref (q 18), .int (x)] : List Value).toArray s 0 0 (zA 81 q sz)) (F0 m 5 ls []) := by
    intro N
    induction N with
    | zero => intro k_1 gk_1_18 h1 h2; exact absurd h2 (by omega)
    | succ N ih =>
      intro k_1 gk_1_18 h1k_1 h2k_1  H locs hP hD hS ls hl
      rcases Nat.lt_or_ge k_1 6 with hkk_1 | hkk_1
      · refine lv_iload_n hx hb dJ7_fill_53178_5 rfl (lv_at hl 2 rfl) ?_
        refine lv_iload_n hx hb dJ7_fill_53178_6 rfl (lv_at hl 3 rfl) ?_
        refine lv_icmp_ge (tgt := 20) hx hb dJ7_fill_53178_7 (by decide) (fun c_0 => absurd c_0 (nI_ge (by omega) (by omega))) (fun _ => ?_)
        refine lv_aload_n hx hb dJ7_fill_53178_10 rfl (lv_at hl 0 rfl) ?_
        refine lv_iload_n hx hb dJ7_fill_53178_11 rfl (lv_at hl 2 rfl) ?_
        refine lv_iload_n hx hb dJ7_fill_53178_12 rfl (lv_at hl 1 rfl) ?_
        refine z_iast hx hb hK hP hD hS 18 (by decide) 12 (fun _ => rfl) rfl (vp_in_nI (by omega) (by decide)) dJ7_fill_53178_13 (fun H locs hP hD hS => ?_)
        refine lv_iinc (v := nI (k_1 + 1)) (lv' := [(2, .int (nI (k_1 + 1))), (0, .ref (q 18)), (1, .int (x)), (3, .int (nI 6))]) hx hb dJ7_fill_53178_14 hl (k := 2) rfl (nI_add k_1 1) (by decide) rfl (fun ls hl => ?_)
        refine lv_goto (tgt := 5) hx hb dJ7_fill_53178_17 (by decide) ?_
        rw [zp_zr] at hP hD
        exact ih ((k_1 + 1)) _ (by omega) (by omega)  _ _ hP hD hS _ (lv_sub hl [1, 2, 0, 3] rfl)
      · refine lv_iload_n hx hb dJ7_fill_53178_5 rfl (lv_at hl 2 rfl) ?_
        refine lv_iload_n hx hb dJ7_fill_53178_6 rfl (lv_at hl 3 rfl) ?_
        refine lv_icmp_ge (tgt := 20) hx hb dJ7_fill_53178_7 (by decide) (fun _ => ?_) (fun c_0 => absurd (nI_le (by omega) (by omega)) c_0)
        exact z_vret hx hb hr hlocks hP hD hS dJ7_fill_53178_20 ⟨_, rfl⟩
  exact loop_k_1 7 0 (R 18) (by omega) (by omega)  _ _ (by simp only [zr_self]; exact hP) (by simp only [zr_self]; exact hD) hS _ (lv_sub hl [2, 3, 1, 0] rfl)
set_option maxHeartbeats 4000000 in
set_option maxRecDepth 100000 in
theorem kJ7_fill_d0a16_74 (l : Launch) (D : va_G) (q : Nat → Nat) (cA : Nat → ClassId) (I R : Nat → Nat → Int32) (J : Nat → Nat → Int64) (x : Int64)  : zMv l D vwCl (zXtys cA) 81 q (zXd q cA) yJ7_fill_d0a16 cJ7_fill_d0a16 5 none ({ frames := 0, cells := 0, slots := 0, locals := 0 } : Room) [.ref (q 74), .long (x)] (I, R, J) (fun u => ∃ g : Nat → Int64, u = (I, R, zr J 74 g)) := by
  intro sz
  refine z_body (by decide +kernel) (Nat.le_of_ble_eq_true rfl) (fun p e s m below meth c ls hx hb hml hr ht hown hlocks hsz hK hP hD hS hl => ?_)
  have hA : ∀ a, s.heap.size ≤ a → zA 81 q sz a := fun a h => Or.inr (hsz ▸ h)
  have hl : lv_has ls 5 [(0, .ref (q 74)), (1, .long (x))] := hl
  refine lv_iconst (v := nI 0) hx hb dJ7_fill_d0a16_0 (by decide +kernel) ?_
  refine lv_istore_n (lv' := [(3, .int (nI 0)), (0, .ref (q 74)), (1, .long (x))]) hx hb dJ7_fill_d0a16_1 rfl hl (by decide) rfl (fun ls hl => ?_)
  refine lv_aload_n hx hb dJ7_fill_d0a16_2 rfl (lv_at hl 1 rfl) ?_
  refine z_alen hx hb hK hP 74 (by decide) 53 rfl rfl dJ7_fill_d0a16_3 ?_
  refine lv_istore (lv' := [(4, .int (nI 60)), (3, .int (nI 0)), (0, .ref (q 74)), (1, .long (x))]) hx hb dJ7_fill_d0a16_4 hl (by decide) rfl (fun ls hl => ?_)
  have loop_k_1 : ∀ (N k_1 : Nat) (jk_1_74 : Nat → Int64), k_1 ≤ 60 → 60 < k_1 + N → ∀ (H : Heap) (locs : List Loc), va_P D vwCl (zw 81 q (zXd q cA) I R (zr J 74 jk_1_74)) H → va_D (zA 81 q sz) (zw 81 q (zXd q cA) I R (zr J 74 jk_1_74)) → va_S (zA 81 q sz) s.heap H locs → ∀ ls : Array Slot, lv_has ls 5 [(0, .ref (q 74)), (1, .long (x)), (3, .int (nI k_1)), (4, .int (nI 60))] → W p l e ({ frames := 0, cells := 0, slots := 0, locals := 0 } : Room) s m ([.ref (q 74), .long (x)] : List Value).toArray below meth c H locs 0 0 (MQ below (va_Qv (fun u => ∃ g : Nat → Int64, u = (I, R, zr J 74 g)) (zB D vwCl 81 q (zXd q cA) sz) (zA 81 q sz)) ([.ref (q 74), .long (x)] : List Value).toArray s 0 0 (zA 81 q sz)) (F0 m 6 ls []) := by
    intro N
    induction N with
    | zero => intro k_1 jk_1_74 h1 h2; exact absurd h2 (by omega)
    | succ N ih =>
      intro k_1 jk_1_74 h1k_1 h2k_1  H locs hP hD hS ls hl
      rcases Nat.lt_or_ge k_1 60 with hkk_1 | hkk_1
      · refine lv_iload_n hx hb dJ7_fill_d0a16_6 rfl (lv_at hl 2 rfl) ?_
        refine lv_iload hx hb dJ7_fill_d0a16_7 (lv_at hl 3 rfl) ?_
        refine lv_icmp_ge (tgt := 22) hx hb dJ7_fill_d0a16_9 (by decide) (fun c_0 => absurd c_0 (nI_ge (by omega) (by omega))) (fun _ => ?_)
        refine lv_aload_n hx hb dJ7_fill_d0a16_12 rfl (lv_at hl 0 rfl) ?_
        refine lv_iload_n hx hb dJ7_fill_d0a16_13 rfl (lv_at hl 2 rfl) ?_
        refine lv_lload_n hx hb dJ7_fill_d0a16_14 rfl (lv_at hl 1 rfl) ?_
        refine z_last hx hb hK hP hD hS 74 (by decide) 53 (fun _ => rfl) rfl (vp_in_nI (by omega) (by decide)) dJ7_fill_d0a16_15 (fun H locs hP hD hS => ?_)
        refine lv_iinc (v := nI (k_1 + 1)) (lv' := [(3, .int (nI (k_1 + 1))), (0, .ref (q 74)), (1, .long (x)), (4, .int (nI 60))]) hx hb dJ7_fill_d0a16_16 hl (k := 2) rfl (nI_add k_1 1) (by decide) rfl (fun ls hl => ?_)
        refine lv_goto (tgt := 6) hx hb dJ7_fill_d0a16_19 (by decide) ?_
        rw [zp_zr] at hP hD
        exact ih ((k_1 + 1)) _ (by omega) (by omega)  _ _ hP hD hS _ (lv_sub hl [1, 2, 0, 3] rfl)
      · refine lv_iload_n hx hb dJ7_fill_d0a16_6 rfl (lv_at hl 2 rfl) ?_
        refine lv_iload hx hb dJ7_fill_d0a16_7 (lv_at hl 3 rfl) ?_
        refine lv_icmp_ge (tgt := 22) hx hb dJ7_fill_d0a16_9 (by decide) (fun _ => ?_) (fun c_0 => absurd (nI_le (by omega) (by omega)) c_0)
        exact z_vret hx hb hr hlocks hP hD hS dJ7_fill_d0a16_22 ⟨_, rfl⟩
  exact loop_k_1 61 0 (J 74) (by omega) (by omega)  _ _ (by simp only [zr_self]; exact hP) (by simp only [zr_self]; exact hD) hS _ (lv_sub hl [2, 3, 1, 0] rfl)
set_option maxHeartbeats 4000000 in
set_option maxRecDepth 100000 in
theorem kJ7_fill_d0a16_76 (l : Launch) (D : va_G) (q : Nat → Nat) (cA : Nat → ClassId) (I R : Nat → Nat → Int32) (J : Nat → Nat → Int64) (x : Int64)  : zMv l D vwCl (zXtys cA) 81 q (zXd q cA) yJ7_fill_d0a16 cJ7_fill_d0a16 5 none ({ frames := 0, cells := 0, slots := 0, locals := 0 } : Room) [.ref (q 76), .long (x)] (I, R, J) (fun u => ∃ g : Nat → Int64, u = (I, R, zr J 76 g)) := by
  intro sz
  refine z_body (by decide +kernel) (Nat.le_of_ble_eq_true rfl) (fun p e s m below meth c ls hx hb hml hr ht hown hlocks hsz hK hP hD hS hl => ?_)
  have hA : ∀ a, s.heap.size ≤ a → zA 81 q sz a := fun a h => Or.inr (hsz ▸ h)
  have hl : lv_has ls 5 [(0, .ref (q 76)), (1, .long (x))] := hl
  refine lv_iconst (v := nI 0) hx hb dJ7_fill_d0a16_0 (by decide +kernel) ?_
  refine lv_istore_n (lv' := [(3, .int (nI 0)), (0, .ref (q 76)), (1, .long (x))]) hx hb dJ7_fill_d0a16_1 rfl hl (by decide) rfl (fun ls hl => ?_)
  refine lv_aload_n hx hb dJ7_fill_d0a16_2 rfl (lv_at hl 1 rfl) ?_
  refine z_alen hx hb hK hP 76 (by decide) 54 rfl rfl dJ7_fill_d0a16_3 ?_
  refine lv_istore (lv' := [(4, .int (nI 60)), (3, .int (nI 0)), (0, .ref (q 76)), (1, .long (x))]) hx hb dJ7_fill_d0a16_4 hl (by decide) rfl (fun ls hl => ?_)
  have loop_k_1 : ∀ (N k_1 : Nat) (jk_1_76 : Nat → Int64), k_1 ≤ 60 → 60 < k_1 + N → ∀ (H : Heap) (locs : List Loc), va_P D vwCl (zw 81 q (zXd q cA) I R (zr J 76 jk_1_76)) H → va_D (zA 81 q sz) (zw 81 q (zXd q cA) I R (zr J 76 jk_1_76)) → va_S (zA 81 q sz) s.heap H locs → ∀ ls : Array Slot, lv_has ls 5 [(0, .ref (q 76)), (1, .long (x)), (3, .int (nI k_1)), (4, .int (nI 60))] → W p l e ({ frames := 0, cells := 0, slots := 0, locals := 0 } : Room) s m ([.ref (q 76), .long (x)] : List Value).toArray below meth c H locs 0 0 (MQ below (va_Qv (fun u => ∃ g : Nat → Int64, u = (I, R, zr J 76 g)) (zB D vwCl 81 q (zXd q cA) sz) (zA 81 q sz)) ([.ref (q 76), .long (x)] : List Value).toArray s 0 0 (zA 81 q sz)) (F0 m 6 ls []) := by
    intro N
    induction N with
    | zero => intro k_1 jk_1_76 h1 h2; exact absurd h2 (by omega)
    | succ N ih =>
      intro k_1 jk_1_76 h1k_1 h2k_1  H locs hP hD hS ls hl
      rcases Nat.lt_or_ge k_1 60 with hkk_1 | hkk_1
      · refine lv_iload_n hx hb dJ7_fill_d0a16_6 rfl (lv_at hl 2 rfl) ?_
        refine lv_iload hx hb dJ7_fill_d0a16_7 (lv_at hl 3 rfl) ?_
        refine lv_icmp_ge (tgt := 22) hx hb dJ7_fill_d0a16_9 (by decide) (fun c_0 => absurd c_0 (nI_ge (by omega) (by omega))) (fun _ => ?_)
        refine lv_aload_n hx hb dJ7_fill_d0a16_12 rfl (lv_at hl 0 rfl) ?_
        refine lv_iload_n hx hb dJ7_fill_d0a16_13 rfl (lv_at hl 2 rfl) ?_
        refine lv_lload_n hx hb dJ7_fill_d0a16_14 rfl (lv_at hl 1 rfl) ?_
        refine z_last hx hb hK hP hD hS 76 (by decide) 54 (fun _ => rfl) rfl (vp_in_nI (by omega) (by decide)) dJ7_fill_d0a16_15 (fun H locs hP hD hS => ?_)
        refine lv_iinc (v := nI (k_1 + 1)) (lv' := [(3, .int (nI (k_1 + 1))), (0, .ref (q 76)), (1, .long (x)), (4, .int (nI 60))]) hx hb dJ7_fill_d0a16_16 hl (k := 2) rfl (nI_add k_1 1) (by decide) rfl (fun ls hl => ?_)
        refine lv_goto (tgt := 6) hx hb dJ7_fill_d0a16_19 (by decide) ?_
        rw [zp_zr] at hP hD
        exact ih ((k_1 + 1)) _ (by omega) (by omega)  _ _ hP hD hS _ (lv_sub hl [1, 2, 0, 3] rfl)
      · refine lv_iload_n hx hb dJ7_fill_d0a16_6 rfl (lv_at hl 2 rfl) ?_
        refine lv_iload hx hb dJ7_fill_d0a16_7 (lv_at hl 3 rfl) ?_
        refine lv_icmp_ge (tgt := 22) hx hb dJ7_fill_d0a16_9 (by decide) (fun _ => ?_) (fun c_0 => absurd (nI_le (by omega) (by omega)) c_0)
        exact z_vret hx hb hr hlocks hP hD hS dJ7_fill_d0a16_22 ⟨_, rfl⟩
  exact loop_k_1 61 0 (J 76) (by omega) (by omega)  _ _ (by simp only [zr_self]; exact hP) (by simp only [zr_self]; exact hD) hS _ (lv_sub hl [2, 3, 1, 0] rfl)
set_option maxHeartbeats 4000000 in
set_option maxRecDepth 100000 in
theorem kJ7_fill_d0a16_78 (l : Launch) (D : va_G) (q : Nat → Nat) (cA : Nat → ClassId) (I R : Nat → Nat → Int32) (J : Nat → Nat → Int64) (x : Int64)  : zMv l D vwCl (zXtys cA) 81 q (zXd q cA) yJ7_fill_d0a16 cJ7_fill_d0a16 5 none ({ frames := 0, cells := 0, slots := 0, locals := 0 } : Room) [.ref (q 78), .long (x)] (I, R, J) (fun u => ∃ g : Nat → Int64, u = (I, R, zr J 78 g)) := by
  intro sz
  refine z_body (by decide +kernel) (Nat.le_of_ble_eq_true rfl) (fun p e s m below meth c ls hx hb hml hr ht hown hlocks hsz hK hP hD hS hl => ?_)
  have hA : ∀ a, s.heap.size ≤ a → zA 81 q sz a := fun a h => Or.inr (hsz ▸ h)
  have hl : lv_has ls 5 [(0, .ref (q 78)), (1, .long (x))] := hl
  refine lv_iconst (v := nI 0) hx hb dJ7_fill_d0a16_0 (by decide +kernel) ?_
  refine lv_istore_n (lv' := [(3, .int (nI 0)), (0, .ref (q 78)), (1, .long (x))]) hx hb dJ7_fill_d0a16_1 rfl hl (by decide) rfl (fun ls hl => ?_)
  refine lv_aload_n hx hb dJ7_fill_d0a16_2 rfl (lv_at hl 1 rfl) ?_
  refine z_alen hx hb hK hP 78 (by decide) 55 rfl rfl dJ7_fill_d0a16_3 ?_
  refine lv_istore (lv' := [(4, .int (nI 60)), (3, .int (nI 0)), (0, .ref (q 78)), (1, .long (x))]) hx hb dJ7_fill_d0a16_4 hl (by decide) rfl (fun ls hl => ?_)
  have loop_k_1 : ∀ (N k_1 : Nat) (jk_1_78 : Nat → Int64), k_1 ≤ 60 → 60 < k_1 + N → ∀ (H : Heap) (locs : List Loc), va_P D vwCl (zw 81 q (zXd q cA) I R (zr J 78 jk_1_78)) H → va_D (zA 81 q sz) (zw 81 q (zXd q cA) I R (zr J 78 jk_1_78)) → va_S (zA 81 q sz) s.heap H locs → ∀ ls : Array Slot, lv_has ls 5 [(0, .ref (q 78)), (1, .long (x)), (3, .int (nI k_1)), (4, .int (nI 60))] → W p l e ({ frames := 0, cells := 0, slots := 0, locals := 0 } : Room) s m ([.ref (q 78), .long (x)] : List Value).toArray below meth c H locs 0 0 (MQ below (va_Qv (fun u => ∃ g : Nat → Int64, u = (I, R, zr J 78 g)) (zB D vwCl 81 q (zXd q cA) sz) (zA 81 q sz)) ([.ref (q 78), .long (x)] : List Value).toArray s 0 0 (zA 81 q sz)) (F0 m 6 ls []) := by
    intro N
    induction N with
    | zero => intro k_1 jk_1_78 h1 h2; exact absurd h2 (by omega)
    | succ N ih =>
      intro k_1 jk_1_78 h1k_1 h2k_1  H locs hP hD hS ls hl
      rcases Nat.lt_or_ge k_1 60 with hkk_1 | hkk_1
      · refine lv_iload_n hx hb dJ7_fill_d0a16_6 rfl (lv_at hl 2 rfl) ?_
        refine lv_iload hx hb dJ7_fill_d0a16_7 (lv_at hl 3 rfl) ?_
        refine lv_icmp_ge (tgt := 22) hx hb dJ7_fill_d0a16_9 (by decide) (fun c_0 => absurd c_0 (nI_ge (by omega) (by omega))) (fun _ => ?_)
        refine lv_aload_n hx hb dJ7_fill_d0a16_12 rfl (lv_at hl 0 rfl) ?_
        refine lv_iload_n hx hb dJ7_fill_d0a16_13 rfl (lv_at hl 2 rfl) ?_
        refine lv_lload_n hx hb dJ7_fill_d0a16_14 rfl (lv_at hl 1 rfl) ?_
        refine z_last hx hb hK hP hD hS 78 (by decide) 55 (fun _ => rfl) rfl (vp_in_nI (by omega) (by decide)) dJ7_fill_d0a16_15 (fun H locs hP hD hS => ?_)
        refine lv_iinc (v := nI (k_1 + 1)) (lv' := [(3, .int (nI (k_1 + 1))), (0, .ref (q 78)), (1, .long (x)), (4, .int (nI 60))]) hx hb dJ7_fill_d0a16_16 hl (k := 2) rfl (nI_add k_1 1) (by decide) rfl (fun ls hl => ?_)
        refine lv_goto (tgt := 6) hx hb dJ7_fill_d0a16_19 (by decide) ?_
        rw [zp_zr] at hP hD
        exact ih ((k_1 + 1)) _ (by omega) (by omega)  _ _ hP hD hS _ (lv_sub hl [1, 2, 0, 3] rfl)
      · refine lv_iload_n hx hb dJ7_fill_d0a16_6 rfl (lv_at hl 2 rfl) ?_
        refine lv_iload hx hb dJ7_fill_d0a16_7 (lv_at hl 3 rfl) ?_
        refine lv_icmp_ge (tgt := 22) hx hb dJ7_fill_d0a16_9 (by decide) (fun _ => ?_) (fun c_0 => absurd (nI_le (by omega) (by omega)) c_0)
        exact z_vret hx hb hr hlocks hP hD hS dJ7_fill_d0a16_22 ⟨_, rfl⟩
  exact loop_k_1 61 0 (J 78) (by omega) (by omega)  _ _ (by simp only [zr_self]; exact hP) (by simp only [zr_self]; exact hD) hS _ (lv_sub hl [2, 3, 1, 0] rfl)
set_option maxHeartbeats 4000000 in
set_option maxRecDepth 100000 in
theorem kJ7_fill_d0a16_80 (l : Launch) (D : va_G) (q : Nat → Nat) (cA : Nat → ClassId) (I R : Nat → Nat → Int32) (J : Nat → Nat → Int64) (x : Int64)  : zMv l D vwCl (zXtys cA) 81 q (zXd q cA) yJ7_fill_d0a16 cJ7_fill_d0a16 5 none ({ frames := 0, cells := 0, slots := 0, locals := 0 } : Room) [.ref (q 80), .long (x)] (I, R, J) (fun u => ∃ g : Nat → Int64, u = (I, R, zr J 80 g)) := by
  intro sz
  refine z_body (by decide +kernel) (Nat.le_of_ble_eq_true rfl) (fun p e s m below meth c ls hx hb hml hr ht hown hlocks hsz hK hP hD hS hl => ?_)
  have hA : ∀ a, s.heap.size ≤ a → zA 81 q sz a := fun a h => Or.inr (hsz ▸ h)
  have hl : lv_has ls 5 [(0, .ref (q 80)), (1, .long (x))] := hl
  refine lv_iconst (v := nI 0) hx hb dJ7_fill_d0a16_0 (by decide +kernel) ?_
  refine lv_istore_n (lv' := [(3, .int (nI 0)), (0, .ref (q 80)), (1, .long (x))]) hx hb dJ7_fill_d0a16_1 rfl hl (by decide) rfl (fun ls hl => ?_)
  refine lv_aload_n hx hb dJ7_fill_d0a16_2 rfl (lv_at hl 1 rfl) ?_
  refine z_alen hx hb hK hP 80 (by decide) 56 rfl rfl dJ7_fill_d0a16_3 ?_
  refine lv_istore (lv' := [(4, .int (nI 60)), (3, .int (nI 0)), (0, .ref (q 80)), (1, .long (x))]) hx hb dJ7_fill_d0a16_4 hl (by decide) rfl (fun ls hl => ?_)
  have loop_k_1 : ∀ (N k_1 : Nat) (jk_1_80 : Nat → Int64), k_1 ≤ 60 → 60 < k_1 + N → ∀ (H : Heap) (locs : List Loc), va_P D vwCl (zw 81 q (zXd q cA) I R (zr J 80 jk_1_80)) H → va_D (zA 81 q sz) (zw 81 q (zXd q cA) I R (zr J 80 jk_1_80)) → va_S (zA 81 q sz) s.heap H locs → ∀ ls : Array Slot, lv_has ls 5 [(0, .ref (q 80)), (1, .long (x)), (3, .int (nI k_1)), (4, .int (nI 60))] → W p l e ({ frames := 0, cells := 0, slots := 0, locals := 0 } : Room) s m ([.ref (q 80), .long (x)] : List Value).toArray below meth c H locs 0 0 (MQ below (va_Qv (fun u => ∃ g : Nat → Int64, u = (I, R, zr J 80 g)) (zB D vwCl 81 q (zXd q cA) sz) (zA 81 q sz)) ([.ref (q 80), .long (x)] : List Value).toArray s 0 0 (zA 81 q sz)) (F0 m 6 ls []) := by
    intro N
    induction N with
    | zero => intro k_1 jk_1_80 h1 h2; exact absurd h2 (by omega)
    | succ N ih =>
      intro k_1 jk_1_80 h1k_1 h2k_1  H locs hP hD hS ls hl
      rcases Nat.lt_or_ge k_1 60 with hkk_1 | hkk_1
      · refine lv_iload_n hx hb dJ7_fill_d0a16_6 rfl (lv_at hl 2 rfl) ?_
        refine lv_iload hx hb dJ7_fill_d0a16_7 (lv_at hl 3 rfl) ?_
        refine lv_icmp_ge (tgt := 22) hx hb dJ7_fill_d0a16_9 (by decide) (fun c_0 => absurd c_0 (nI_ge (by omega) (by omega))) (fun _ => ?_)
        refine lv_aload_n hx hb dJ7_fill_d0a16_12 rfl (lv_at hl 0 rfl) ?_
        refine lv_iload_n hx hb dJ7_fill_d0a16_13 rfl (lv_at hl 2 rfl) ?_
        refine lv_lload_n hx hb dJ7_fill_d0a16_14 rfl (lv_at hl 1 rfl) ?_
        refine z_last hx hb hK hP hD hS 80 (by decide) 56 (fun _ => rfl) rfl (vp_in_nI (by omega) (by decide)) dJ7_fill_d0a16_15 (fun H locs hP hD hS => ?_)
        refine lv_iinc (v := nI (k_1 + 1)) (lv' := [(3, .int (nI (k_1 + 1))), (0, .ref (q 80)), (1, .long (x)), (4, .int (nI 60))]) hx hb dJ7_fill_d0a16_16 hl (k := 2) rfl (nI_add k_1 1) (by decide) rfl (fun ls hl => ?_)
        refine lv_goto (tgt := 6) hx hb dJ7_fill_d0a16_19 (by decide) ?_
        rw [zp_zr] at hP hD
        exact ih ((k_1 + 1)) _ (by omega) (by omega)  _ _ hP hD hS _ (lv_sub hl [1, 2, 0, 3] rfl)
      · refine lv_iload_n hx hb dJ7_fill_d0a16_6 rfl (lv_at hl 2 rfl) ?_
        refine lv_iload hx hb dJ7_fill_d0a16_7 (lv_at hl 3 rfl) ?_
        refine lv_icmp_ge (tgt := 22) hx hb dJ7_fill_d0a16_9 (by decide) (fun _ => ?_) (fun c_0 => absurd (nI_le (by omega) (by omega)) c_0)
        exact z_vret hx hb hr hlocks hP hD hS dJ7_fill_d0a16_22 ⟨_, rfl⟩
  exact loop_k_1 61 0 (J 80) (by omega) (by omega)  _ _ (by simp only [zr_self]; exact hP) (by simp only [zr_self]; exact hD) hS _ (lv_sub hl [2, 3, 1, 0] rfl)
set_option maxHeartbeats 4000000 in
set_option maxRecDepth 100000 in
theorem kX6_begin_73 (l : Launch) (D : va_G) (q : Nat → Nat) (cA : Nat → ClassId)  (w : Int32) (n : Int32)  : zMv l D vwCl (zXtys cA) 81 q (zXd q cA) yX6_begin cX6_begin 3 none ({ frames := 1, cells := 0, slots := 0, locals := 24 } : Room) [.ref (q 73), .int (w), .int (n)] (zXI0, zXR0, zXJ0) (fun _ => True) := by
  intro sz
  refine z_body (by decide +kernel) (Nat.le_of_ble_eq_true rfl) (fun p e s m below meth c ls hx hb hml hr ht hown hlocks hsz hK hP hD hS hl => ?_)
  have hA : ∀ a, s.heap.size ≤ a → zA 81 q sz a := fun a h => Or.inr (hsz ▸ h)
  have hl : lv_has ls 3 [(0, .ref (q 73)), (1, .int (w)), (2, .int (n))] := hl
  refine lv_aload_n hx hb dX6_begin_0 rfl (lv_at hl 0 rfl) ?_
  refine lv_iload_n hx hb dX6_begin_1 rfl (lv_at hl 1 rfl) ?_
  refine z_putI hx hb ht hown hK hP hD hS ziX6 tyX6 tyX6_ok nmX6 rfl 73 (by decide) 0 (by decide) hw_2_77 rfl (v := w) rfl rfl rfl (Nat.le_of_ble_eq_true rfl) rfl dX6_begin_2 (fun H locs hP hD hS => ?_)
  refine lv_aload_n hx hb dX6_begin_5 rfl (lv_at hl 0 rfl) ?_
  refine lv_iload_n hx hb dX6_begin_6 rfl (lv_at hl 2 rfl) ?_
  refine z_putI hx hb ht hown hK hP hD hS ziX6 tyX6 tyX6_ok nmX6 rfl 73 (by decide) 1 (by decide) hw_2_79 rfl (v := n) rfl rfl rfl (Nat.le_of_ble_eq_true rfl) rfl dX6_begin_7 (fun H locs hP hD hS => ?_)
  refine lv_aload_n hx hb dX6_begin_10 rfl (lv_at hl 0 rfl) ?_
  refine z_get hx hb ht hown hK hP ziX6 rfl 73 (by decide) 2 (by decide) hw_2_82 rfl (v := .ref (q 74)) rfl dX6_begin_11 ?_
  refine lv_lconst (v := (0 : Int64)) hx hb dX6_begin_14 (by decide +kernel) ?_
  refine z_callSv (As := [.ref (q 74), .long ((0 : Int64))]) (rest := []) hx hb hml hown ht (kJ7_fill_d0a16_74 l D q cA _ _ _ ((0 : Int64))) hw_5_162 hmJ7_fill_d0a16 ⟨rfl, rfl⟩ (na := 2) rfl (by decide +kernel) (by decide) hK hP hD hS hA hl.1 rfl (Nat.le_of_ble_eq_true rfl) ⟨Nat.zero_le _, Nat.zero_le _⟩ dX6_begin_15 (fun I_1 R_1 J_1 H locs hp_1 hP hD hS _ _ => ?_)
  obtain ⟨g_1, hu_1⟩ := hp_1
  cases hu_1
  exact z_vret hx hb hr hlocks hP hD hS dX6_begin_18 trivial
set_option maxHeartbeats 4000000 in
set_option maxRecDepth 100000 in
theorem kX6_begin_75 (l : Launch) (D : va_G) (q : Nat → Nat) (cA : Nat → ClassId)  (w : Int32) (n : Int32)  : zMv l D vwCl (zXtys cA) 81 q (zXd q cA) yX6_begin cX6_begin 3 none ({ frames := 1, cells := 0, slots := 0, locals := 24 } : Room) [.ref (q 75), .int (w), .int (n)] (zXI0, zXR0, zXJ0) (fun _ => True) := by
  intro sz
  refine z_body (by decide +kernel) (Nat.le_of_ble_eq_true rfl) (fun p e s m below meth c ls hx hb hml hr ht hown hlocks hsz hK hP hD hS hl => ?_)
  have hA : ∀ a, s.heap.size ≤ a → zA 81 q sz a := fun a h => Or.inr (hsz ▸ h)
  have hl : lv_has ls 3 [(0, .ref (q 75)), (1, .int (w)), (2, .int (n))] := hl
  refine lv_aload_n hx hb dX6_begin_0 rfl (lv_at hl 0 rfl) ?_
  refine lv_iload_n hx hb dX6_begin_1 rfl (lv_at hl 1 rfl) ?_
  refine z_putI hx hb ht hown hK hP hD hS ziX6 tyX6 tyX6_ok nmX6 rfl 75 (by decide) 0 (by decide) hw_2_77 rfl (v := w) rfl rfl rfl (Nat.le_of_ble_eq_true rfl) rfl dX6_begin_2 (fun H locs hP hD hS => ?_)
  refine lv_aload_n hx hb dX6_begin_5 rfl (lv_at hl 0 rfl) ?_
  refine lv_iload_n hx hb dX6_begin_6 rfl (lv_at hl 2 rfl) ?_
  refine z_putI hx hb ht hown hK hP hD hS ziX6 tyX6 tyX6_ok nmX6 rfl 75 (by decide) 1 (by decide) hw_2_79 rfl (v := n) rfl rfl rfl (Nat.le_of_ble_eq_true rfl) rfl dX6_begin_7 (fun H locs hP hD hS => ?_)
  refine lv_aload_n hx hb dX6_begin_10 rfl (lv_at hl 0 rfl) ?_
  refine z_get hx hb ht hown hK hP ziX6 rfl 75 (by decide) 2 (by decide) hw_2_82 rfl (v := .ref (q 76)) rfl dX6_begin_11 ?_
  refine lv_lconst (v := (0 : Int64)) hx hb dX6_begin_14 (by decide +kernel) ?_
  refine z_callSv (As := [.ref (q 76), .long ((0 : Int64))]) (rest := []) hx hb hml hown ht (kJ7_fill_d0a16_76 l D q cA _ _ _ ((0 : Int64))) hw_5_162 hmJ7_fill_d0a16 ⟨rfl, rfl⟩ (na := 2) rfl (by decide +kernel) (by decide) hK hP hD hS hA hl.1 rfl (Nat.le_of_ble_eq_true rfl) ⟨Nat.zero_le _, Nat.zero_le _⟩ dX6_begin_15 (fun I_1 R_1 J_1 H locs hp_1 hP hD hS _ _ => ?_)
  obtain ⟨g_1, hu_1⟩ := hp_1
  cases hu_1
  exact z_vret hx hb hr hlocks hP hD hS dX6_begin_18 trivial
set_option maxHeartbeats 4000000 in
set_option maxRecDepth 100000 in
theorem kX6_begin_77 (l : Launch) (D : va_G) (q : Nat → Nat) (cA : Nat → ClassId)  (w : Int32) (n : Int32)  : zMv l D vwCl (zXtys cA) 81 q (zXd q cA) yX6_begin cX6_begin 3 none ({ frames := 1, cells := 0, slots := 0, locals := 24 } : Room) [.ref (q 77), .int (w), .int (n)] (zXI0, zXR0, zXJ0) (fun _ => True) := by
  intro sz
  refine z_body (by decide +kernel) (Nat.le_of_ble_eq_true rfl) (fun p e s m below meth c ls hx hb hml hr ht hown hlocks hsz hK hP hD hS hl => ?_)
  have hA : ∀ a, s.heap.size ≤ a → zA 81 q sz a := fun a h => Or.inr (hsz ▸ h)
  have hl : lv_has ls 3 [(0, .ref (q 77)), (1, .int (w)), (2, .int (n))] := hl
  refine lv_aload_n hx hb dX6_begin_0 rfl (lv_at hl 0 rfl) ?_
  refine lv_iload_n hx hb dX6_begin_1 rfl (lv_at hl 1 rfl) ?_
  refine z_putI hx hb ht hown hK hP hD hS ziX6 tyX6 tyX6_ok nmX6 rfl 77 (by decide) 0 (by decide) hw_2_77 rfl (v := w) rfl rfl rfl (Nat.le_of_ble_eq_true rfl) rfl dX6_begin_2 (fun H locs hP hD hS => ?_)
  refine lv_aload_n hx hb dX6_begin_5 rfl (lv_at hl 0 rfl) ?_
  refine lv_iload_n hx hb dX6_begin_6 rfl (lv_at hl 2 rfl) ?_
  refine z_putI hx hb ht hown hK hP hD hS ziX6 tyX6 tyX6_ok nmX6 rfl 77 (by decide) 1 (by decide) hw_2_79 rfl (v := n) rfl rfl rfl (Nat.le_of_ble_eq_true rfl) rfl dX6_begin_7 (fun H locs hP hD hS => ?_)
  refine lv_aload_n hx hb dX6_begin_10 rfl (lv_at hl 0 rfl) ?_
  refine z_get hx hb ht hown hK hP ziX6 rfl 77 (by decide) 2 (by decide) hw_2_82 rfl (v := .ref (q 78)) rfl dX6_begin_11 ?_
  refine lv_lconst (v := (0 : Int64)) hx hb dX6_begin_14 (by decide +kernel) ?_
  refine z_callSv (As := [.ref (q 78), .long ((0 : Int64))]) (rest := []) hx hb hml hown ht (kJ7_fill_d0a16_78 l D q cA _ _ _ ((0 : Int64))) hw_5_162 hmJ7_fill_d0a16 ⟨rfl, rfl⟩ (na := 2) rfl (by decide +kernel) (by decide) hK hP hD hS hA hl.1 rfl (Nat.le_of_ble_eq_true rfl) ⟨Nat.zero_le _, Nat.zero_le _⟩ dX6_begin_15 (fun I_1 R_1 J_1 H locs hp_1 hP hD hS _ _ => ?_)
  obtain ⟨g_1, hu_1⟩ := hp_1
  cases hu_1
  exact z_vret hx hb hr hlocks hP hD hS dX6_begin_18 trivial
set_option maxHeartbeats 4000000 in
set_option maxRecDepth 100000 in
theorem kX6_begin_79 (l : Launch) (D : va_G) (q : Nat → Nat) (cA : Nat → ClassId)  (w : Int32) (n : Int32)  : zMv l D vwCl (zXtys cA) 81 q (zXd q cA) yX6_begin cX6_begin 3 none ({ frames := 1, cells := 0, slots := 0, locals := 24 } : Room) [.ref (q 79), .int (w), .int (n)] (zXI0, zXR0, zXJ0) (fun _ => True) := by
  intro sz
  refine z_body (by decide +kernel) (Nat.le_of_ble_eq_true rfl) (fun p e s m below meth c ls hx hb hml hr ht hown hlocks hsz hK hP hD hS hl => ?_)
  have hA : ∀ a, s.heap.size ≤ a → zA 81 q sz a := fun a h => Or.inr (hsz ▸ h)
  have hl : lv_has ls 3 [(0, .ref (q 79)), (1, .int (w)), (2, .int (n))] := hl
  refine lv_aload_n hx hb dX6_begin_0 rfl (lv_at hl 0 rfl) ?_
  refine lv_iload_n hx hb dX6_begin_1 rfl (lv_at hl 1 rfl) ?_
  refine z_putI hx hb ht hown hK hP hD hS ziX6 tyX6 tyX6_ok nmX6 rfl 79 (by decide) 0 (by decide) hw_2_77 rfl (v := w) rfl rfl rfl (Nat.le_of_ble_eq_true rfl) rfl dX6_begin_2 (fun H locs hP hD hS => ?_)
  refine lv_aload_n hx hb dX6_begin_5 rfl (lv_at hl 0 rfl) ?_
  refine lv_iload_n hx hb dX6_begin_6 rfl (lv_at hl 2 rfl) ?_
  refine z_putI hx hb ht hown hK hP hD hS ziX6 tyX6 tyX6_ok nmX6 rfl 79 (by decide) 1 (by decide) hw_2_79 rfl (v := n) rfl rfl rfl (Nat.le_of_ble_eq_true rfl) rfl dX6_begin_7 (fun H locs hP hD hS => ?_)
  refine lv_aload_n hx hb dX6_begin_10 rfl (lv_at hl 0 rfl) ?_
  refine z_get hx hb ht hown hK hP ziX6 rfl 79 (by decide) 2 (by decide) hw_2_82 rfl (v := .ref (q 80)) rfl dX6_begin_11 ?_
  refine lv_lconst (v := (0 : Int64)) hx hb dX6_begin_14 (by decide +kernel) ?_
  refine z_callSv (As := [.ref (q 80), .long ((0 : Int64))]) (rest := []) hx hb hml hown ht (kJ7_fill_d0a16_80 l D q cA _ _ _ ((0 : Int64))) hw_5_162 hmJ7_fill_d0a16 ⟨rfl, rfl⟩ (na := 2) rfl (by decide +kernel) (by decide) hK hP hD hS hA hl.1 rfl (Nat.le_of_ble_eq_true rfl) ⟨Nat.zero_le _, Nat.zero_le _⟩ dX6_begin_15 (fun I_1 R_1 J_1 H locs hp_1 hP hD hS _ _ => ?_)
  obtain ⟨g_1, hu_1⟩ := hp_1
  cases hu_1
  exact z_vret hx hb hr hlocks hP hD hS dX6_begin_18 trivial
set_option maxHeartbeats 4000000 in
set_option maxRecDepth 100000 in
theorem kX10_row (l : Launch) (D : va_G) (q : Nat → Nat) (cA : Nat → ClassId)  (x : Int32) (w : Int32) (n : Int32)  : zMi l D vwCl (zXtys cA) 81 q (zXd q cA) yX10_row cX10_row 4 (some .int) ({ frames := 2, cells := 0, slots := 0, locals := 46 } : Room) [.ref (q 0), .int (x), .int (w), .int (n)] (zXI0, zXR0, zXJ0) (fun r _ => ((x.toInt < 0 ∨ 3 < x.toInt ∨ w.toInt < 0 ∨ 3 < w.toInt ∨ 60 < n.toInt) ∧ r = (-2)) ∨ (¬ (x.toInt < 0 ∨ 3 < x.toInt ∨ w.toInt < 0 ∨ 3 < w.toInt ∨ 60 < n.toInt) ∧ n.toInt < 0 ∧ r = (-3)) ∨ (¬ (x.toInt < 0 ∨ 3 < x.toInt ∨ w.toInt < 0 ∨ 3 < w.toInt ∨ 60 < n.toInt) ∧ 0 ≤ n.toInt ∧ r = nI 0)) := by
  intro sz
  refine z_body (by decide +kernel) (Nat.le_of_ble_eq_true rfl) (fun p e s m below meth c ls hx hb hml hr ht hown hlocks hsz hK hP hD hS hl => ?_)
  have hA : ∀ a, s.heap.size ≤ a → zA 81 q sz a := fun a h => Or.inr (hsz ▸ h)
  have hl : lv_has ls 4 [(0, .ref (q 0)), (1, .int (x)), (2, .int (w)), (3, .int (n))] := hl
  refine lv_iload_n hx hb dX10_row_0 rfl (lv_at hl 1 rfl) ?_
  refine z_callSi (As := [.int (x)]) (rest := []) hx hb hml hown ht (kX10_isSlot l D q cA _ _ _ (x)) hw_5_60 hmX10_isSlot ⟨rfl, rfl⟩ (na := 1) rfl (by decide +kernel) (by decide) hK hP hD hS hA hl.1 rfl (Nat.le_of_ble_eq_true rfl) ⟨Nat.zero_le _, Nat.zero_le _⟩ dX10_row_1 (fun r_1 I_1 R_1 J_1 H locs hp_1 hP hD hS _ _ => ?_)
  rcases hp_1 with ⟨rfl, hu_1, h1_1, h2_1⟩ | ⟨rfl, hu_1, h1_1⟩
  · cases hu_1
    refine lv_if_eq (tgt := 22) hx hb dX10_row_4 (by decide) (fun c_0 => absurd c_0 (by decide +kernel)) (fun _ => ?_)
    refine lv_iload_n hx hb dX10_row_7 rfl (lv_at hl 2 rfl) ?_
    refine lv_if_lt (tgt := 22) hx hb dX10_row_8 (by decide) (fun c_2 => ?_) (fun c_2 => ?_)
    · have kc_2_1 : (nI 0 : Int32).toInt = 0 := by decide +kernel
      have kc_2_2 : (0 : Int32).toInt = 0 := by decide +kernel
      have t_c_2 := z_ltT c_2
      refine lv_bipush (v := (-2)) hx hb dX10_row_22 (by decide +kernel) ?_
      exact z_iret (v := (-2)) hx hb hr hlocks hP hD hS dX10_row_24 (Or.inl ⟨by omega, rfl⟩)
    · have kc_2_1 : (nI 0 : Int32).toInt = 0 := by decide +kernel
      have kc_2_2 : (0 : Int32).toInt = 0 := by decide +kernel
      have t_c_2 := z_ltF c_2
      refine lv_iload_n hx hb dX10_row_11 rfl (lv_at hl 2 rfl) ?_
      refine lv_iconst (v := nI 3) hx hb dX10_row_12 (by decide +kernel) ?_
      refine lv_icmp_gt (tgt := 22) hx hb dX10_row_13 (by decide) (fun c_3 => ?_) (fun c_3 => ?_)
      · have kc_3_1 : (nI 3 : Int32).toInt = 3 := by decide +kernel
        have t_c_3 := z_ltT c_3
        refine lv_bipush (v := (-2)) hx hb dX10_row_22 (by decide +kernel) ?_
        exact z_iret (v := (-2)) hx hb hr hlocks hP hD hS dX10_row_24 (Or.inl ⟨by omega, rfl⟩)
      · have kc_3_1 : (nI 3 : Int32).toInt = 3 := by decide +kernel
        have t_c_3 := z_ltF c_3
        refine lv_iload_n hx hb dX10_row_16 rfl (lv_at hl 3 rfl) ?_
        refine lv_bipush (v := nI 60) hx hb dX10_row_17 (by decide +kernel) ?_
        refine lv_icmp_le (tgt := 25) hx hb dX10_row_19 (by decide) (fun c_4 => ?_) (fun c_4 => ?_)
        · have kc_4_1 : (nI 60 : Int32).toInt = 60 := by decide +kernel
          have t_c_4 := z_leT c_4
          refine lv_iload_n hx hb dX10_row_25 rfl (lv_at hl 3 rfl) ?_
          refine lv_if_ge (tgt := 32) hx hb dX10_row_26 (by decide) (fun c_5 => ?_) (fun c_5 => ?_)
          · have kc_5_1 : (nI 0 : Int32).toInt = 0 := by decide +kernel
            have kc_5_2 : (0 : Int32).toInt = 0 := by decide +kernel
            have t_c_5 := z_leT c_5
            refine lv_aload_n hx hb dX10_row_32 rfl (lv_at hl 0 rfl) ?_
            refine z_get hx hb ht hown hK hP ziX10 rfl 0 (by decide) 11 (by decide) hw_2_104 rfl (v := .ref (q 72)) rfl dX10_row_33 ?_
            refine lv_iload_n hx hb dX10_row_36 rfl (lv_at hl 1 rfl) ?_
            obtain ⟨n_6, hn_6, rfl⟩ := z_ex (x := x) (N := 4) (by omega) (by omega)
            rcases (show n_6 = 0 ∨ n_6 = 1 ∨ n_6 = 2 ∨ n_6 = 3 by omega) with rfl | rfl | rfl | rfl
            · refine va_aldq hx hb hK hP 72 52 (zw_at (by decide) rfl) rfl (vp_in_nI (by decide) (by decide)) dX10_row_37 ?_
              refine W.eq (g2 := F0 m 38 ls (.ref (q 73) :: [])) rfl ?_
              refine lv_iload_n hx hb dX10_row_38 rfl (lv_at hl 2 rfl) ?_
              refine lv_iload_n hx hb dX10_row_39 rfl (lv_at hl 3 rfl) ?_
              refine z_callVv (k := 73) (As := [.int (w), .int (n)]) (rest := []) hx hb hml hown ht (kX6_begin_73 l D q cA (w) (n)) hw_5_158 hmX6_begin ⟨rfl, rfl⟩ (na := 2) rfl (by decide +kernel) (by decide) (by decide) rfl rfl hK hP hD hS hA hl.1 rfl (Nat.le_of_ble_eq_true rfl) ⟨Nat.zero_le _, Nat.zero_le _⟩ dX10_row_40 (fun I_7 R_7 J_7 H locs hp_7 hP hD hS _ _ => ?_)
              refine lv_iconst (v := nI 0) hx hb dX10_row_43 (by decide +kernel) ?_
              exact z_iret (v := nI 0) hx hb hr hlocks hP hD hS dX10_row_44 (Or.inr (Or.inr ⟨by omega, by omega, rfl⟩))
            · refine va_aldq hx hb hK hP 72 52 (zw_at (by decide) rfl) rfl (vp_in_nI (by decide) (by decide)) dX10_row_37 ?_
              refine W.eq (g2 := F0 m 38 ls (.ref (q 75) :: [])) rfl ?_
              refine lv_iload_n hx hb dX10_row_38 rfl (lv_at hl 2 rfl) ?_
              refine lv_iload_n hx hb dX10_row_39 rfl (lv_at hl 3 rfl) ?_
              refine z_callVv (k := 75) (As := [.int (w), .int (n)]) (rest := []) hx hb hml hown ht (kX6_begin_75 l D q cA (w) (n)) hw_5_158 hmX6_begin ⟨rfl, rfl⟩ (na := 2) rfl (by decide +kernel) (by decide) (by decide) rfl rfl hK hP hD hS hA hl.1 rfl (Nat.le_of_ble_eq_true rfl) ⟨Nat.zero_le _, Nat.zero_le _⟩ dX10_row_40 (fun I_8 R_8 J_8 H locs hp_8 hP hD hS _ _ => ?_)
              refine lv_iconst (v := nI 0) hx hb dX10_row_43 (by decide +kernel) ?_
              exact z_iret (v := nI 0) hx hb hr hlocks hP hD hS dX10_row_44 (Or.inr (Or.inr ⟨by omega, by omega, rfl⟩))
            · refine va_aldq hx hb hK hP 72 52 (zw_at (by decide) rfl) rfl (vp_in_nI (by decide) (by decide)) dX10_row_37 ?_
              refine W.eq (g2 := F0 m 38 ls (.ref (q 77) :: [])) rfl ?_
              refine lv_iload_n hx hb dX10_row_38 rfl (lv_at hl 2 rfl) ?_
              refine lv_iload_n hx hb dX10_row_39 rfl (lv_at hl 3 rfl) ?_
              refine z_callVv (k := 77) (As := [.int (w), .int (n)]) (rest := []) hx hb hml hown ht (kX6_begin_77 l D q cA (w) (n)) hw_5_158 hmX6_begin ⟨rfl, rfl⟩ (na := 2) rfl (by decide +kernel) (by decide) (by decide) rfl rfl hK hP hD hS hA hl.1 rfl (Nat.le_of_ble_eq_true rfl) ⟨Nat.zero_le _, Nat.zero_le _⟩ dX10_row_40 (fun I_9 R_9 J_9 H locs hp_9 hP hD hS _ _ => ?_)
              refine lv_iconst (v := nI 0) hx hb dX10_row_43 (by decide +kernel) ?_
              exact z_iret (v := nI 0) hx hb hr hlocks hP hD hS dX10_row_44 (Or.inr (Or.inr ⟨by omega, by omega, rfl⟩))
            · refine va_aldq hx hb hK hP 72 52 (zw_at (by decide) rfl) rfl (vp_in_nI (by decide) (by decide)) dX10_row_37 ?_
              refine W.eq (g2 := F0 m 38 ls (.ref (q 79) :: [])) rfl ?_
              refine lv_iload_n hx hb dX10_row_38 rfl (lv_at hl 2 rfl) ?_
              refine lv_iload_n hx hb dX10_row_39 rfl (lv_at hl 3 rfl) ?_
              refine z_callVv (k := 79) (As := [.int (w), .int (n)]) (rest := []) hx hb hml hown ht (kX6_begin_79 l D q cA (w) (n)) hw_5_158 hmX6_begin ⟨rfl, rfl⟩ (na := 2) rfl (by decide +kernel) (by decide) (by decide) rfl rfl hK hP hD hS hA hl.1 rfl (Nat.le_of_ble_eq_true rfl) ⟨Nat.zero_le _, Nat.zero_le _⟩ dX10_row_40 (fun I_10 R_10 J_10 H locs hp_10 hP hD hS _ _ => ?_)
              refine lv_iconst (v := nI 0) hx hb dX10_row_43 (by decide +kernel) ?_
              exact z_iret (v := nI 0) hx hb hr hlocks hP hD hS dX10_row_44 (Or.inr (Or.inr ⟨by omega, by omega, rfl⟩))
          · have kc_5_1 : (nI 0 : Int32).toInt = 0 := by decide +kernel
            have kc_5_2 : (0 : Int32).toInt = 0 := by decide +kernel
            have t_c_5 := z_leF c_5
            refine lv_bipush (v := (-3)) hx hb dX10_row_29 (by decide +kernel) ?_
            exact z_iret (v := (-3)) hx hb hr hlocks hP hD hS dX10_row_31 (Or.inr (Or.inl ⟨by omega, by omega, rfl⟩))
        · have kc_4_1 : (nI 60 : Int32).toInt = 60 := by decide +kernel
          have t_c_4 := z_leF c_4
          refine lv_bipush (v := (-2)) hx hb dX10_row_22 (by decide +kernel) ?_
          exact z_iret (v := (-2)) hx hb hr hlocks hP hD hS dX10_row_24 (Or.inl ⟨by omega, rfl⟩)
  · cases hu_1
    refine lv_if_eq (tgt := 22) hx hb dX10_row_4 (by decide) (fun _ => ?_) (fun c_0 => absurd (by decide +kernel) c_0)
    refine lv_bipush (v := (-2)) hx hb dX10_row_22 (by decide +kernel) ?_
    exact z_iret (v := (-2)) hx hb hr hlocks hP hD hS dX10_row_24 (Or.inl ⟨by omega, rfl⟩)
set_option maxHeartbeats 4000000 in
set_option maxRecDepth 100000 in
theorem kX2_copyFrom_49_3 (l : Launch) (D : va_G) (q : Nat → Nat) (cA : Nat → ClassId) (I R : Nat → Nat → Int32) (J : Nat → Nat → Int64)   : zMv l D vwCl (zXtys cA) 81 q (zXd q cA) yX2_copyFrom cX2_copyFrom 2 none ({ frames := 1, cells := 0, slots := 0, locals := 64 } : Room) [.ref (q 49), .ref (q 3)] (I, R, J) (fun u => u.1 49 0 = I 3 0) := by
  intro sz
  refine z_body (by decide +kernel) (Nat.le_of_ble_eq_true rfl) (fun p e s m below meth c ls hx hb hml hr ht hown hlocks hsz hK hP hD hS hl => ?_)
  have hA : ∀ a, s.heap.size ≤ a → zA 81 q sz a := fun a h => Or.inr (hsz ▸ h)
  have hl : lv_has ls 2 [(0, .ref (q 49)), (1, .ref (q 3))] := hl
  refine lv_aload_n hx hb dX2_copyFrom_0 rfl (lv_at hl 0 rfl) ?_
  refine lv_aload_n hx hb dX2_copyFrom_1 rfl (lv_at hl 1 rfl) ?_
  refine z_get hx hb ht hown hK hP ziX2 rfl 3 (by decide) 0 (by decide) hw_1_67 rfl (v := .int (I 3 0)) rfl dX2_copyFrom_2 ?_
  refine z_putI hx hb ht hown hK hP hD hS ziX2 tyX2 tyX2_ok nmX2 rfl 49 (by decide) 0 (by decide) hw_1_67 rfl (v := I 3 0) rfl rfl rfl (Nat.le_of_ble_eq_true rfl) rfl dX2_copyFrom_5 (fun H locs hP hD hS => ?_)
  refine lv_aload_n hx hb dX2_copyFrom_8 rfl (lv_at hl 0 rfl) ?_
  refine lv_aload_n hx hb dX2_copyFrom_9 rfl (lv_at hl 1 rfl) ?_
  refine z_get hx hb ht hown hK hP ziX2 rfl 3 (by decide) 1 (by decide) hw_1_70 rfl (v := .int ((zp I 49 0 (I 3 0)) 3 1)) rfl dX2_copyFrom_10 ?_
  refine z_putI hx hb ht hown hK hP hD hS ziX2 tyX2 tyX2_ok nmX2 rfl 49 (by decide) 1 (by decide) hw_1_70 rfl (v := (zp I 49 0 (I 3 0)) 3 1) rfl rfl rfl (Nat.le_of_ble_eq_true rfl) rfl dX2_copyFrom_13 (fun H locs hP hD hS => ?_)
  refine lv_aload_n hx hb dX2_copyFrom_16 rfl (lv_at hl 0 rfl) ?_
  refine lv_aload_n hx hb dX2_copyFrom_17 rfl (lv_at hl 1 rfl) ?_
  refine z_get hx hb ht hown hK hP ziX2 rfl 3 (by decide) 2 (by decide) hw_1_74 rfl (v := .int ((zp (zp I 49 0 (I 3 0)) 49 1 ((zp I 49 0 (I 3 0)) 3 1)) 3 2)) rfl dX2_copyFrom_18 ?_
  refine z_putI hx hb ht hown hK hP hD hS ziX2 tyX2 tyX2_ok nmX2 rfl 49 (by decide) 2 (by decide) hw_1_74 rfl (v := (zp (zp I 49 0 (I 3 0)) 49 1 ((zp I 49 0 (I 3 0)) 3 1)) 3 2) rfl rfl rfl (Nat.le_of_ble_eq_true rfl) rfl dX2_copyFrom_21 (fun H locs hP hD hS => ?_)
  refine lv_aload_n hx hb dX2_copyFrom_24 rfl (lv_at hl 0 rfl) ?_
  refine lv_aload_n hx hb dX2_copyFrom_25 rfl (lv_at hl 1 rfl) ?_
  refine z_get hx hb ht hown hK hP ziX2 rfl 3 (by decide) 3 (by decide) hw_1_78 rfl (v := .int ((zp (zp (zp I 49 0 (I 3 0)) 49 1 ((zp I 49 0 (I 3 0)) 3 1)) 49 2 ((zp (zp I 49 0 (I 3 0)) 49 1 ((zp I 49 0 (I 3 0)) 3 1)) 3 2)) 3 3)) rfl dX2_copyFrom_26 ?_
  refine z_putI hx hb ht hown hK hP hD hS ziX2 tyX2 tyX2_ok nmX2 rfl 49 (by decide) 3 (by decide) hw_1_78 rfl (v := (zp (zp (zp I 49 0 (I 3 0)) 49 1 ((zp I 49 0 (I 3 0)) 3 1)) 49 2 ((zp (zp I 49 0 (I 3 0)) 49 1 ((zp I 49 0 (I 3 0)) 3 1)) 3 2)) 3 3) rfl rfl rfl (Nat.le_of_ble_eq_true rfl) rfl dX2_copyFrom_29 (fun H locs hP hD hS => ?_)
  refine lv_aload_n hx hb dX2_copyFrom_32 rfl (lv_at hl 0 rfl) ?_
  refine lv_aload_n hx hb dX2_copyFrom_33 rfl (lv_at hl 1 rfl) ?_
  refine z_get hx hb ht hown hK hP ziX2 rfl 3 (by decide) 4 (by decide) hw_1_81 rfl (v := .int ((zp (zp (zp (zp I 49 0 (I 3 0)) 49 1 ((zp I 49 0 (I 3 0)) 3 1)) 49 2 ((zp (zp I 49 0 (I 3 0)) 49 1 ((zp I 49 0 (I 3 0)) 3 1)) 3 2)) 49 3 ((zp (zp (zp I 49 0 (I 3 0)) 49 1 ((zp I 49 0 (I 3 0)) 3 1)) 49 2 ((zp (zp I 49 0 (I 3 0)) 49 1 ((zp I 49 0 (I 3 0)) 3 1)) 3 2)) 3 3)) 3 4)) rfl dX2_copyFrom_34 ?_
  refine z_putI hx hb ht hown hK hP hD hS ziX2 tyX2 tyX2_ok nmX2 rfl 49 (by decide) 4 (by decide) hw_1_81 rfl (v := (zp (zp (zp (zp I 49 0 (I 3 0)) 49 1 ((zp I 49 0 (I 3 0)) 3 1)) 49 2 ((zp (zp I 49 0 (I 3 0)) 49 1 ((zp I 49 0 (I 3 0)) 3 1)) 3 2)) 49 3 ((zp (zp (zp I 49 0 (I 3 0)) 49 1 ((zp I 49 0 (I 3 0)) 3 1)) 49 2 ((zp (zp I 49 0 (I 3 0)) 49 1 ((zp I 49 0 (I 3 0)) 3 1)) 3 2)) 3 3)) 3 4) rfl rfl rfl (Nat.le_of_ble_eq_true rfl) rfl dX2_copyFrom_37 (fun H locs hP hD hS => ?_)
  refine lv_aload_n hx hb dX2_copyFrom_40 rfl (lv_at hl 0 rfl) ?_
  refine lv_aload_n hx hb dX2_copyFrom_41 rfl (lv_at hl 1 rfl) ?_
  refine z_get hx hb ht hown hK hP ziX2 rfl 3 (by decide) 5 (by decide) hw_1_87 rfl (v := .int ((zp (zp (zp (zp (zp I 49 0 (I 3 0)) 49 1 ((zp I 49 0 (I 3 0)) 3 1)) 49 2 ((zp (zp I 49 0 (I 3 0)) 49 1 ((zp I 49 0 (I 3 0)) 3 1)) 3 2)) 49 3 ((zp (zp (zp I 49 0 (I 3 0)) 49 1 ((zp I 49 0 (I 3 0)) 3 1)) 49 2 ((zp (zp I 49 0 (I 3 0)) 49 1 ((zp I 49 0 (I 3 0)) 3 1)) 3 2)) 3 3)) 49 4 ((zp (zp (zp (zp I 49 0 (I 3 0)) 49 1 ((zp I 49 0 (I 3 0)) 3 1)) 49 2 ((zp (zp I 49 0 (I 3 0)) 49 1 ((zp I 49 0 (I 3 0)) 3 1)) 3 2)) 49 3 ((zp (zp (zp I 49 0 (I 3 0)) 49 1 ((zp I 49 0 (I 3 0)) 3 1)) 49 2 ((zp (zp I 49 0 (I 3 0)) 49 1 ((zp I 49 0 (I 3 0)) 3 1)) 3 2)) 3 3)) 3 4)) 3 5)) rfl dX2_copyFrom_42 ?_
  refine z_putI hx hb ht hown hK hP hD hS ziX2 tyX2 tyX2_ok nmX2 rfl 49 (by decide) 5 (by decide) hw_1_87 rfl (v := (zp (zp (zp (zp (zp I 49 0 (I 3 0)) 49 1 ((zp I 49 0 (I 3 0)) 3 1)) 49 2 ((zp (zp I 49 0 (I 3 0)) 49 1 ((zp I 49 0 (I 3 0)) 3 1)) 3 2)) 49 3 ((zp (zp (zp I 49 0 (I 3 0)) 49 1 ((zp I 49 0 (I 3 0)) 3 1)) 49 2 ((zp (zp I 49 0 (I 3 0)) 49 1 ((zp I 49 0 (I 3 0)) 3 1)) 3 2)) 3 3)) 49 4 ((zp (zp (zp (zp I 49 0 (I 3 0)) 49 1 ((zp I 49 0 (I 3 0)) 3 1)) 49 2 ((zp (zp I 49 0 (I 3 0)) 49 1 ((zp I 49 0 (I 3 0)) 3 1)) 3 2)) 49 3 ((zp (zp (zp I 49 0 (I 3 0)) 49 1 ((zp I 49 0 (I 3 0)) 3 1)) 49 2 ((zp (zp I 49 0 (I 3 0)) 49 1 ((zp I 49 0 (I 3 0)) 3 1)) 3 2)) 3 3)) 3 4)) 3 5) rfl rfl rfl (Nat.le_of_ble_eq_true rfl) rfl dX2_copyFrom_45 (fun H locs hP hD hS => ?_)
  refine lv_aload_n hx hb dX2_copyFrom_48 rfl (lv_at hl 0 rfl) ?_
  refine lv_aload_n hx hb dX2_copyFrom_49 rfl (lv_at hl 1 rfl) ?_
  refine z_get hx hb ht hown hK hP ziX2 rfl 3 (by decide) 6 (by decide) hw_1_95 rfl (v := .int ((zp (zp (zp (zp (zp (zp I 49 0 (I 3 0)) 49 1 ((zp I 49 0 (I 3 0)) 3 1)) 49 2 ((zp (zp I 49 0 (I 3 0)) 49 1 ((zp I 49 0 (I 3 0)) 3 1)) 3 2)) 49 3 ((zp (zp (zp I 49 0 (I 3 0)) 49 1 ((zp I 49 0 (I 3 0)) 3 1)) 49 2 ((zp (zp I 49 0 (I 3 0)) 49 1 ((zp I 49 0 (I 3 0)) 3 1)) 3 2)) 3 3)) 49 4 ((zp (zp (zp (zp I 49 0 (I 3 0)) 49 1 ((zp I 49 0 (I 3 0)) 3 1)) 49 2 ((zp (zp I 49 0 (I 3 0)) 49 1 ((zp I 49 0 (I 3 0)) 3 1)) 3 2)) 49 3 ((zp (zp (zp I 49 0 (I 3 0)) 49 1 ((zp I 49 0 (I 3 0)) 3 1)) 49 2 ((zp (zp I 49 0 (I 3 0)) 49 1 ((zp I 49 0 (I 3 0)) 3 1)) 3 2)) 3 3)) 3 4)) 49 5 ((zp (zp (zp (zp (zp I 49 0 (I 3 0)) 49 1 ((zp I 49 0 (I 3 0)) 3 1)) 49 2 ((zp (zp I 49 0 (I 3 0)) 49 1 ((zp I 49 0 (I 3 0)) 3 1)) 3 2)) 49 3 ((zp (zp (zp I 49 0 (I 3 0)) 49 1 ((zp I 49 0 (I 3 0)) 3 1)) 49 2 ((zp (zp I 49 0 (I 3 0)) 49 1 ((zp I 49 0 (I 3 0)) 3 1)) 3 2)) 3 3)) 49 4 ((zp (zp (zp (zp I 49 0 (I 3 0)) 49 1 ((zp I 49 0 (I 3 0)) 3 1)) 49 2 ((zp (zp I 49 0 (I 3 0)) 49 1 ((zp I 49 0 (I 3 0)) 3 1)) 3 2)) 49 3 ((zp (zp (zp I 49 0 (I 3 0)) 49 1 ((zp I 49 0 (I 3 0)) 3 1)) 49 2 ((zp (zp I 49 0 (I 3 0)) 49 1 ((zp I 49 0 (I 3 0)) 3 1)) 3 2)) 3 3)) 3 4)) 3 5)) 3 6)) rfl dX2_copyFrom_50 ?_
  refine z_putI hx hb ht hown hK hP hD hS ziX2 tyX2 tyX2_ok nmX2 rfl 49 (by decide) 6 (by decide) hw_1_95 rfl (v := (zp (zp (zp (zp (zp (zp I 49 0 (I 3 0)) 49 1 ((zp I 49 0 (I 3 0)) 3 1)) 49 2 ((zp (zp I 49 0 (I 3 0)) 49 1 ((zp I 49 0 (I 3 0)) 3 1)) 3 2)) 49 3 ((zp (zp (zp I 49 0 (I 3 0)) 49 1 ((zp I 49 0 (I 3 0)) 3 1)) 49 2 ((zp (zp I 49 0 (I 3 0)) 49 1 ((zp I 49 0 (I 3 0)) 3 1)) 3 2)) 3 3)) 49 4 ((zp (zp (zp (zp I 49 0 (I 3 0)) 49 1 ((zp I 49 0 (I 3 0)) 3 1)) 49 2 ((zp (zp I 49 0 (I 3 0)) 49 1 ((zp I 49 0 (I 3 0)) 3 1)) 3 2)) 49 3 ((zp (zp (zp I 49 0 (I 3 0)) 49 1 ((zp I 49 0 (I 3 0)) 3 1)) 49 2 ((zp (zp I 49 0 (I 3 0)) 49 1 ((zp I 49 0 (I 3 0)) 3 1)) 3 2)) 3 3)) 3 4)) 49 5 ((zp (zp (zp (zp (zp I 49 0 (I 3 0)) 49 1 ((zp I 49 0 (I 3 0)) 3 1)) 49 2 ((zp (zp I 49 0 (I 3 0)) 49 1 ((zp I 49 0 (I 3 0)) 3 1)) 3 2)) 49 3 ((zp (zp (zp I 49 0 (I 3 0)) 49 1 ((zp I 49 0 (I 3 0)) 3 1)) 49 2 ((zp (zp I 49 0 (I 3 0)) 49 1 ((zp I 49 0 (I 3 0)) 3 1)) 3 2)) 3 3)) 49 4 ((zp (zp (zp (zp I 49 0 (I 3 0)) 49 1 ((zp I 49 0 (I 3 0)) 3 1)) 49 2 ((zp (zp I 49 0 (I 3 0)) 49 1 ((zp I 49 0 (I 3 0)) 3 1)) 3 2)) 49 3 ((zp (zp (zp I 49 0 (I 3 0)) 49 1 ((zp I 49 0 (I 3 0)) 3 1)) 49 2 ((zp (zp I 49 0 (I 3 0)) 49 1 ((zp I 49 0 (I 3 0)) 3 1)) 3 2)) 3 3)) 3 4)) 3 5)) 3 6) rfl rfl rfl (Nat.le_of_ble_eq_true rfl) rfl dX2_copyFrom_53 (fun H locs hP hD hS => ?_)
  refine lv_aload_n hx hb dX2_copyFrom_56 rfl (lv_at hl 1 rfl) ?_
  refine z_get hx hb ht hown hK hP ziX2 rfl 3 (by decide) 7 (by decide) hw_1_97 rfl (v := .ref (q 4)) rfl dX2_copyFrom_57 ?_
  refine lv_iconst (v := nI 0) hx hb dX2_copyFrom_60 (by decide +kernel) ?_
  refine lv_aload_n hx hb dX2_copyFrom_61 rfl (lv_at hl 0 rfl) ?_
  refine z_get hx hb ht hown hK hP ziX2 rfl 49 (by decide) 7 (by decide) hw_1_97 rfl (v := .ref (q 50)) rfl dX2_copyFrom_62 ?_
  refine lv_iconst (v := nI 0) hx hb dX2_copyFrom_65 (by decide +kernel) ?_
  refine lv_iconst (v := nI 5) hx hb dX2_copyFrom_66 (by decide +kernel) ?_
  refine z_copyi hx hb (hml.trans hl.1.symm) ht hown hw_3_42 ⟨hw_3_44, hw_3_43, hw_1_18⟩ hK hP hD hS 4 50 (by decide) (by decide) 1 37 rfl (fun _ => rfl) rfl rfl (by decide +kernel) (by decide +kernel) (by decide +kernel) (by decide +kernel) (by decide +kernel) (by decide) (by decide +kernel) dX2_copyFrom_67 (fun g_1 H locs eg_1 hP hD hS => ?_)
  refine lv_aload_n hx hb dX2_copyFrom_70 rfl (lv_at hl 1 rfl) ?_
  refine z_get hx hb ht hown hK hP ziX2 rfl 3 (by decide) 8 (by decide) hw_1_100 rfl (v := .ref (q 5)) rfl dX2_copyFrom_71 ?_
  refine lv_iconst (v := nI 0) hx hb dX2_copyFrom_74 (by decide +kernel) ?_
  refine lv_aload_n hx hb dX2_copyFrom_75 rfl (lv_at hl 0 rfl) ?_
  refine z_get hx hb ht hown hK hP ziX2 rfl 49 (by decide) 8 (by decide) hw_1_100 rfl (v := .ref (q 51)) rfl dX2_copyFrom_76 ?_
  refine lv_iconst (v := nI 0) hx hb dX2_copyFrom_79 (by decide +kernel) ?_
  refine lv_bipush (v := nI 6) hx hb dX2_copyFrom_80 (by decide +kernel) ?_
  refine z_copyi hx hb (hml.trans hl.1.symm) ht hown hw_3_42 ⟨hw_3_44, hw_3_43, hw_1_18⟩ hK hP hD hS 5 51 (by decide) (by decide) 2 38 rfl (fun _ => rfl) rfl rfl (by decide +kernel) (by decide +kernel) (by decide +kernel) (by decide +kernel) (by decide +kernel) (by decide) (by decide +kernel) dX2_copyFrom_82 (fun g_2 H locs eg_2 hP hD hS => ?_)
  refine lv_aload_n hx hb dX2_copyFrom_85 rfl (lv_at hl 1 rfl) ?_
  refine z_get hx hb ht hown hK hP ziX2 rfl 3 (by decide) 9 (by decide) hw_1_104 rfl (v := .ref (q 6)) rfl dX2_copyFrom_86 ?_
  refine lv_iconst (v := nI 0) hx hb dX2_copyFrom_89 (by decide +kernel) ?_
  refine lv_aload_n hx hb dX2_copyFrom_90 rfl (lv_at hl 0 rfl) ?_
  refine z_get hx hb ht hown hK hP ziX2 rfl 49 (by decide) 9 (by decide) hw_1_104 rfl (v := .ref (q 52)) rfl dX2_copyFrom_91 ?_
  refine lv_iconst (v := nI 0) hx hb dX2_copyFrom_94 (by decide +kernel) ?_
  refine lv_bipush (v := nI 6) hx hb dX2_copyFrom_95 (by decide +kernel) ?_
  refine z_copyi hx hb (hml.trans hl.1.symm) ht hown hw_3_42 ⟨hw_3_44, hw_3_43, hw_1_18⟩ hK hP hD hS 6 52 (by decide) (by decide) 3 39 rfl (fun _ => rfl) rfl rfl (by decide +kernel) (by decide +kernel) (by decide +kernel) (by decide +kernel) (by decide +kernel) (by decide) (by decide +kernel) dX2_copyFrom_97 (fun g_3 H locs eg_3 hP hD hS => ?_)
  refine lv_aload_n hx hb dX2_copyFrom_100 rfl (lv_at hl 1 rfl) ?_
  refine z_get hx hb ht hown hK hP ziX2 rfl 3 (by decide) 10 (by decide) hw_1_109 rfl (v := .ref (q 7)) rfl dX2_copyFrom_101 ?_
  refine lv_iconst (v := nI 0) hx hb dX2_copyFrom_104 (by decide +kernel) ?_
  refine lv_aload_n hx hb dX2_copyFrom_105 rfl (lv_at hl 0 rfl) ?_
  refine z_get hx hb ht hown hK hP ziX2 rfl 49 (by decide) 10 (by decide) hw_1_109 rfl (v := .ref (q 53)) rfl dX2_copyFrom_106 ?_
  refine lv_iconst (v := nI 0) hx hb dX2_copyFrom_109 (by decide +kernel) ?_
  refine lv_bipush (v := nI 30) hx hb dX2_copyFrom_110 (by decide +kernel) ?_
  refine z_copyi hx hb (hml.trans hl.1.symm) ht hown hw_3_42 ⟨hw_3_44, hw_3_43, hw_1_18⟩ hK hP hD hS 7 53 (by decide) (by decide) 4 40 rfl (fun _ => rfl) rfl rfl (by decide +kernel) (by decide +kernel) (by decide +kernel) (by decide +kernel) (by decide +kernel) (by decide) (by decide +kernel) dX2_copyFrom_112 (fun g_4 H locs eg_4 hP hD hS => ?_)
  exact z_vret hx hb hr hlocks hP hD hS dX2_copyFrom_115 rfl
set_option maxHeartbeats 4000000 in
set_option maxRecDepth 100000 in
theorem kX2_copyFrom_57_3 (l : Launch) (D : va_G) (q : Nat → Nat) (cA : Nat → ClassId) (I R : Nat → Nat → Int32) (J : Nat → Nat → Int64)   : zMv l D vwCl (zXtys cA) 81 q (zXd q cA) yX2_copyFrom cX2_copyFrom 2 none ({ frames := 1, cells := 0, slots := 0, locals := 64 } : Room) [.ref (q 57), .ref (q 3)] (I, R, J) (fun u => u.1 57 0 = I 3 0) := by
  intro sz
  refine z_body (by decide +kernel) (Nat.le_of_ble_eq_true rfl) (fun p e s m below meth c ls hx hb hml hr ht hown hlocks hsz hK hP hD hS hl => ?_)
  have hA : ∀ a, s.heap.size ≤ a → zA 81 q sz a := fun a h => Or.inr (hsz ▸ h)
  have hl : lv_has ls 2 [(0, .ref (q 57)), (1, .ref (q 3))] := hl
  refine lv_aload_n hx hb dX2_copyFrom_0 rfl (lv_at hl 0 rfl) ?_
  refine lv_aload_n hx hb dX2_copyFrom_1 rfl (lv_at hl 1 rfl) ?_
  refine z_get hx hb ht hown hK hP ziX2 rfl 3 (by decide) 0 (by decide) hw_1_67 rfl (v := .int (I 3 0)) rfl dX2_copyFrom_2 ?_
  refine z_putI hx hb ht hown hK hP hD hS ziX2 tyX2 tyX2_ok nmX2 rfl 57 (by decide) 0 (by decide) hw_1_67 rfl (v := I 3 0) rfl rfl rfl (Nat.le_of_ble_eq_true rfl) rfl dX2_copyFrom_5 (fun H locs hP hD hS => ?_)
  refine lv_aload_n hx hb dX2_copyFrom_8 rfl (lv_at hl 0 rfl) ?_
  refine lv_aload_n hx hb dX2_copyFrom_9 rfl (lv_at hl 1 rfl) ?_
  refine z_get hx hb ht hown hK hP ziX2 rfl 3 (by decide) 1 (by decide) hw_1_70 rfl (v := .int ((zp I 57 0 (I 3 0)) 3 1)) rfl dX2_copyFrom_10 ?_
  refine z_putI hx hb ht hown hK hP hD hS ziX2 tyX2 tyX2_ok nmX2 rfl 57 (by decide) 1 (by decide) hw_1_70 rfl (v := (zp I 57 0 (I 3 0)) 3 1) rfl rfl rfl (Nat.le_of_ble_eq_true rfl) rfl dX2_copyFrom_13 (fun H locs hP hD hS => ?_)
  refine lv_aload_n hx hb dX2_copyFrom_16 rfl (lv_at hl 0 rfl) ?_
  refine lv_aload_n hx hb dX2_copyFrom_17 rfl (lv_at hl 1 rfl) ?_
  refine z_get hx hb ht hown hK hP ziX2 rfl 3 (by decide) 2 (by decide) hw_1_74 rfl (v := .int ((zp (zp I 57 0 (I 3 0)) 57 1 ((zp I 57 0 (I 3 0)) 3 1)) 3 2)) rfl dX2_copyFrom_18 ?_
  refine z_putI hx hb ht hown hK hP hD hS ziX2 tyX2 tyX2_ok nmX2 rfl 57 (by decide) 2 (by decide) hw_1_74 rfl (v := (zp (zp I 57 0 (I 3 0)) 57 1 ((zp I 57 0 (I 3 0)) 3 1)) 3 2) rfl rfl rfl (Nat.le_of_ble_eq_true rfl) rfl dX2_copyFrom_21 (fun H locs hP hD hS => ?_)
  refine lv_aload_n hx hb dX2_copyFrom_24 rfl (lv_at hl 0 rfl) ?_
  refine lv_aload_n hx hb dX2_copyFrom_25 rfl (lv_at hl 1 rfl) ?_
  refine z_get hx hb ht hown hK hP ziX2 rfl 3 (by decide) 3 (by decide) hw_1_78 rfl (v := .int ((zp (zp (zp I 57 0 (I 3 0)) 57 1 ((zp I 57 0 (I 3 0)) 3 1)) 57 2 ((zp (zp I 57 0 (I 3 0)) 57 1 ((zp I 57 0 (I 3 0)) 3 1)) 3 2)) 3 3)) rfl dX2_copyFrom_26 ?_
  refine z_putI hx hb ht hown hK hP hD hS ziX2 tyX2 tyX2_ok nmX2 rfl 57 (by decide) 3 (by decide) hw_1_78 rfl (v := (zp (zp (zp I 57 0 (I 3 0)) 57 1 ((zp I 57 0 (I 3 0)) 3 1)) 57 2 ((zp (zp I 57 0 (I 3 0)) 57 1 ((zp I 57 0 (I 3 0)) 3 1)) 3 2)) 3 3) rfl rfl rfl (Nat.le_of_ble_eq_true rfl) rfl dX2_copyFrom_29 (fun H locs hP hD hS => ?_)
  refine lv_aload_n hx hb dX2_copyFrom_32 rfl (lv_at hl 0 rfl) ?_
  refine lv_aload_n hx hb dX2_copyFrom_33 rfl (lv_at hl 1 rfl) ?_
  refine z_get hx hb ht hown hK hP ziX2 rfl 3 (by decide) 4 (by decide) hw_1_81 rfl (v := .int ((zp (zp (zp (zp I 57 0 (I 3 0)) 57 1 ((zp I 57 0 (I 3 0)) 3 1)) 57 2 ((zp (zp I 57 0 (I 3 0)) 57 1 ((zp I 57 0 (I 3 0)) 3 1)) 3 2)) 57 3 ((zp (zp (zp I 57 0 (I 3 0)) 57 1 ((zp I 57 0 (I 3 0)) 3 1)) 57 2 ((zp (zp I 57 0 (I 3 0)) 57 1 ((zp I 57 0 (I 3 0)) 3 1)) 3 2)) 3 3)) 3 4)) rfl dX2_copyFrom_34 ?_
  refine z_putI hx hb ht hown hK hP hD hS ziX2 tyX2 tyX2_ok nmX2 rfl 57 (by decide) 4 (by decide) hw_1_81 rfl (v := (zp (zp (zp (zp I 57 0 (I 3 0)) 57 1 ((zp I 57 0 (I 3 0)) 3 1)) 57 2 ((zp (zp I 57 0 (I 3 0)) 57 1 ((zp I 57 0 (I 3 0)) 3 1)) 3 2)) 57 3 ((zp (zp (zp I 57 0 (I 3 0)) 57 1 ((zp I 57 0 (I 3 0)) 3 1)) 57 2 ((zp (zp I 57 0 (I 3 0)) 57 1 ((zp I 57 0 (I 3 0)) 3 1)) 3 2)) 3 3)) 3 4) rfl rfl rfl (Nat.le_of_ble_eq_true rfl) rfl dX2_copyFrom_37 (fun H locs hP hD hS => ?_)
  refine lv_aload_n hx hb dX2_copyFrom_40 rfl (lv_at hl 0 rfl) ?_
  refine lv_aload_n hx hb dX2_copyFrom_41 rfl (lv_at hl 1 rfl) ?_
  refine z_get hx hb ht hown hK hP ziX2 rfl 3 (by decide) 5 (by decide) hw_1_87 rfl (v := .int ((zp (zp (zp (zp (zp I 57 0 (I 3 0)) 57 1 ((zp I 57 0 (I 3 0)) 3 1)) 57 2 ((zp (zp I 57 0 (I 3 0)) 57 1 ((zp I 57 0 (I 3 0)) 3 1)) 3 2)) 57 3 ((zp (zp (zp I 57 0 (I 3 0)) 57 1 ((zp I 57 0 (I 3 0)) 3 1)) 57 2 ((zp (zp I 57 0 (I 3 0)) 57 1 ((zp I 57 0 (I 3 0)) 3 1)) 3 2)) 3 3)) 57 4 ((zp (zp (zp (zp I 57 0 (I 3 0)) 57 1 ((zp I 57 0 (I 3 0)) 3 1)) 57 2 ((zp (zp I 57 0 (I 3 0)) 57 1 ((zp I 57 0 (I 3 0)) 3 1)) 3 2)) 57 3 ((zp (zp (zp I 57 0 (I 3 0)) 57 1 ((zp I 57 0 (I 3 0)) 3 1)) 57 2 ((zp (zp I 57 0 (I 3 0)) 57 1 ((zp I 57 0 (I 3 0)) 3 1)) 3 2)) 3 3)) 3 4)) 3 5)) rfl dX2_copyFrom_42 ?_
  refine z_putI hx hb ht hown hK hP hD hS ziX2 tyX2 tyX2_ok nmX2 rfl 57 (by decide) 5 (by decide) hw_1_87 rfl (v := (zp (zp (zp (zp (zp I 57 0 (I 3 0)) 57 1 ((zp I 57 0 (I 3 0)) 3 1)) 57 2 ((zp (zp I 57 0 (I 3 0)) 57 1 ((zp I 57 0 (I 3 0)) 3 1)) 3 2)) 57 3 ((zp (zp (zp I 57 0 (I 3 0)) 57 1 ((zp I 57 0 (I 3 0)) 3 1)) 57 2 ((zp (zp I 57 0 (I 3 0)) 57 1 ((zp I 57 0 (I 3 0)) 3 1)) 3 2)) 3 3)) 57 4 ((zp (zp (zp (zp I 57 0 (I 3 0)) 57 1 ((zp I 57 0 (I 3 0)) 3 1)) 57 2 ((zp (zp I 57 0 (I 3 0)) 57 1 ((zp I 57 0 (I 3 0)) 3 1)) 3 2)) 57 3 ((zp (zp (zp I 57 0 (I 3 0)) 57 1 ((zp I 57 0 (I 3 0)) 3 1)) 57 2 ((zp (zp I 57 0 (I 3 0)) 57 1 ((zp I 57 0 (I 3 0)) 3 1)) 3 2)) 3 3)) 3 4)) 3 5) rfl rfl rfl (Nat.le_of_ble_eq_true rfl) rfl dX2_copyFrom_45 (fun H locs hP hD hS => ?_)
  refine lv_aload_n hx hb dX2_copyFrom_48 rfl (lv_at hl 0 rfl) ?_
  refine lv_aload_n hx hb dX2_copyFrom_49 rfl (lv_at hl 1 rfl) ?_
  refine z_get hx hb ht hown hK hP ziX2 rfl 3 (by decide) 6 (by decide) hw_1_95 rfl (v := .int ((zp (zp (zp (zp (zp (zp I 57 0 (I 3 0)) 57 1 ((zp I 57 0 (I 3 0)) 3 1)) 57 2 ((zp (zp I 57 0 (I 3 0)) 57 1 ((zp I 57 0 (I 3 0)) 3 1)) 3 2)) 57 3 ((zp (zp (zp I 57 0 (I 3 0)) 57 1 ((zp I 57 0 (I 3 0)) 3 1)) 57 2 ((zp (zp I 57 0 (I 3 0)) 57 1 ((zp I 57 0 (I 3 0)) 3 1)) 3 2)) 3 3)) 57 4 ((zp (zp (zp (zp I 57 0 (I 3 0)) 57 1 ((zp I 57 0 (I 3 0)) 3 1)) 57 2 ((zp (zp I 57 0 (I 3 0)) 57 1 ((zp I 57 0 (I 3 0)) 3 1)) 3 2)) 57 3 ((zp (zp (zp I 57 0 (I 3 0)) 57 1 ((zp I 57 0 (I 3 0)) 3 1)) 57 2 ((zp (zp I 57 0 (I 3 0)) 57 1 ((zp I 57 0 (I 3 0)) 3 1)) 3 2)) 3 3)) 3 4)) 57 5 ((zp (zp (zp (zp (zp I 57 0 (I 3 0)) 57 1 ((zp I 57 0 (I 3 0)) 3 1)) 57 2 ((zp (zp I 57 0 (I 3 0)) 57 1 ((zp I 57 0 (I 3 0)) 3 1)) 3 2)) 57 3 ((zp (zp (zp I 57 0 (I 3 0)) 57 1 ((zp I 57 0 (I 3 0)) 3 1)) 57 2 ((zp (zp I 57 0 (I 3 0)) 57 1 ((zp I 57 0 (I 3 0)) 3 1)) 3 2)) 3 3)) 57 4 ((zp (zp (zp (zp I 57 0 (I 3 0)) 57 1 ((zp I 57 0 (I 3 0)) 3 1)) 57 2 ((zp (zp I 57 0 (I 3 0)) 57 1 ((zp I 57 0 (I 3 0)) 3 1)) 3 2)) 57 3 ((zp (zp (zp I 57 0 (I 3 0)) 57 1 ((zp I 57 0 (I 3 0)) 3 1)) 57 2 ((zp (zp I 57 0 (I 3 0)) 57 1 ((zp I 57 0 (I 3 0)) 3 1)) 3 2)) 3 3)) 3 4)) 3 5)) 3 6)) rfl dX2_copyFrom_50 ?_
  refine z_putI hx hb ht hown hK hP hD hS ziX2 tyX2 tyX2_ok nmX2 rfl 57 (by decide) 6 (by decide) hw_1_95 rfl (v := (zp (zp (zp (zp (zp (zp I 57 0 (I 3 0)) 57 1 ((zp I 57 0 (I 3 0)) 3 1)) 57 2 ((zp (zp I 57 0 (I 3 0)) 57 1 ((zp I 57 0 (I 3 0)) 3 1)) 3 2)) 57 3 ((zp (zp (zp I 57 0 (I 3 0)) 57 1 ((zp I 57 0 (I 3 0)) 3 1)) 57 2 ((zp (zp I 57 0 (I 3 0)) 57 1 ((zp I 57 0 (I 3 0)) 3 1)) 3 2)) 3 3)) 57 4 ((zp (zp (zp (zp I 57 0 (I 3 0)) 57 1 ((zp I 57 0 (I 3 0)) 3 1)) 57 2 ((zp (zp I 57 0 (I 3 0)) 57 1 ((zp I 57 0 (I 3 0)) 3 1)) 3 2)) 57 3 ((zp (zp (zp I 57 0 (I 3 0)) 57 1 ((zp I 57 0 (I 3 0)) 3 1)) 57 2 ((zp (zp I 57 0 (I 3 0)) 57 1 ((zp I 57 0 (I 3 0)) 3 1)) 3 2)) 3 3)) 3 4)) 57 5 ((zp (zp (zp (zp (zp I 57 0 (I 3 0)) 57 1 ((zp I 57 0 (I 3 0)) 3 1)) 57 2 ((zp (zp I 57 0 (I 3 0)) 57 1 ((zp I 57 0 (I 3 0)) 3 1)) 3 2)) 57 3 ((zp (zp (zp I 57 0 (I 3 0)) 57 1 ((zp I 57 0 (I 3 0)) 3 1)) 57 2 ((zp (zp I 57 0 (I 3 0)) 57 1 ((zp I 57 0 (I 3 0)) 3 1)) 3 2)) 3 3)) 57 4 ((zp (zp (zp (zp I 57 0 (I 3 0)) 57 1 ((zp I 57 0 (I 3 0)) 3 1)) 57 2 ((zp (zp I 57 0 (I 3 0)) 57 1 ((zp I 57 0 (I 3 0)) 3 1)) 3 2)) 57 3 ((zp (zp (zp I 57 0 (I 3 0)) 57 1 ((zp I 57 0 (I 3 0)) 3 1)) 57 2 ((zp (zp I 57 0 (I 3 0)) 57 1 ((zp I 57 0 (I 3 0)) 3 1)) 3 2)) 3 3)) 3 4)) 3 5)) 3 6) rfl rfl rfl (Nat.le_of_ble_eq_true rfl) rfl dX2_copyFrom_53 (fun H locs hP hD hS => ?_)
  refine lv_aload_n hx hb dX2_copyFrom_56 rfl (lv_at hl 1 rfl) ?_
  refine z_get hx hb ht hown hK hP ziX2 rfl 3 (by decide) 7 (by decide) hw_1_97 rfl (v := .ref (q 4)) rfl dX2_copyFrom_57 ?_
  refine lv_iconst (v := nI 0) hx hb dX2_copyFrom_60 (by decide +kernel) ?_
  refine lv_aload_n hx hb dX2_copyFrom_61 rfl (lv_at hl 0 rfl) ?_
  refine z_get hx hb ht hown hK hP ziX2 rfl 57 (by decide) 7 (by decide) hw_1_97 rfl (v := .ref (q 58)) rfl dX2_copyFrom_62 ?_
  refine lv_iconst (v := nI 0) hx hb dX2_copyFrom_65 (by decide +kernel) ?_
  refine lv_iconst (v := nI 5) hx hb dX2_copyFrom_66 (by decide +kernel) ?_
  refine z_copyi hx hb (hml.trans hl.1.symm) ht hown hw_3_42 ⟨hw_3_44, hw_3_43, hw_1_18⟩ hK hP hD hS 4 58 (by decide) (by decide) 1 42 rfl (fun _ => rfl) rfl rfl (by decide +kernel) (by decide +kernel) (by decide +kernel) (by decide +kernel) (by decide +kernel) (by decide) (by decide +kernel) dX2_copyFrom_67 (fun g_1 H locs eg_1 hP hD hS => ?_)
  refine lv_aload_n hx hb dX2_copyFrom_70 rfl (lv_at hl 1 rfl) ?_
  refine z_get hx hb ht hown hK hP ziX2 rfl 3 (by decide) 8 (by decide) hw_1_100 rfl (v := .ref (q 5)) rfl dX2_copyFrom_71 ?_
  refine lv_iconst (v := nI 0) hx hb dX2_copyFrom_74 (by decide +kernel) ?_
  refine lv_aload_n hx hb dX2_copyFrom_75 rfl (lv_at hl 0 rfl) ?_
  refine z_get hx hb ht hown hK hP ziX2 rfl 57 (by decide) 8 (by decide) hw_1_100 rfl (v := .ref (q 59)) rfl dX2_copyFrom_76 ?_
  refine lv_iconst (v := nI 0) hx hb dX2_copyFrom_79 (by decide +kernel) ?_
  refine lv_bipush (v := nI 6) hx hb dX2_copyFrom_80 (by decide +kernel) ?_
  refine z_copyi hx hb (hml.trans hl.1.symm) ht hown hw_3_42 ⟨hw_3_44, hw_3_43, hw_1_18⟩ hK hP hD hS 5 59 (by decide) (by decide) 2 43 rfl (fun _ => rfl) rfl rfl (by decide +kernel) (by decide +kernel) (by decide +kernel) (by decide +kernel) (by decide +kernel) (by decide) (by decide +kernel) dX2_copyFrom_82 (fun g_2 H locs eg_2 hP hD hS => ?_)
  refine lv_aload_n hx hb dX2_copyFrom_85 rfl (lv_at hl 1 rfl) ?_
  refine z_get hx hb ht hown hK hP ziX2 rfl 3 (by decide) 9 (by decide) hw_1_104 rfl (v := .ref (q 6)) rfl dX2_copyFrom_86 ?_
  refine lv_iconst (v := nI 0) hx hb dX2_copyFrom_89 (by decide +kernel) ?_
  refine lv_aload_n hx hb dX2_copyFrom_90 rfl (lv_at hl 0 rfl) ?_
  refine z_get hx hb ht hown hK hP ziX2 rfl 57 (by decide) 9 (by decide) hw_1_104 rfl (v := .ref (q 60)) rfl dX2_copyFrom_91 ?_
  refine lv_iconst (v := nI 0) hx hb dX2_copyFrom_94 (by decide +kernel) ?_
  refine lv_bipush (v := nI 6) hx hb dX2_copyFrom_95 (by decide +kernel) ?_
  refine z_copyi hx hb (hml.trans hl.1.symm) ht hown hw_3_42 ⟨hw_3_44, hw_3_43, hw_1_18⟩ hK hP hD hS 6 60 (by decide) (by decide) 3 44 rfl (fun _ => rfl) rfl rfl (by decide +kernel) (by decide +kernel) (by decide +kernel) (by decide +kernel) (by decide +kernel) (by decide) (by decide +kernel) dX2_copyFrom_97 (fun g_3 H locs eg_3 hP hD hS => ?_)
  refine lv_aload_n hx hb dX2_copyFrom_100 rfl (lv_at hl 1 rfl) ?_
  refine z_get hx hb ht hown hK hP ziX2 rfl 3 (by decide) 10 (by decide) hw_1_109 rfl (v := .ref (q 7)) rfl dX2_copyFrom_101 ?_
  refine lv_iconst (v := nI 0) hx hb dX2_copyFrom_104 (by decide +kernel) ?_
  refine lv_aload_n hx hb dX2_copyFrom_105 rfl (lv_at hl 0 rfl) ?_
  refine z_get hx hb ht hown hK hP ziX2 rfl 57 (by decide) 10 (by decide) hw_1_109 rfl (v := .ref (q 61)) rfl dX2_copyFrom_106 ?_
  refine lv_iconst (v := nI 0) hx hb dX2_copyFrom_109 (by decide +kernel) ?_
  refine lv_bipush (v := nI 30) hx hb dX2_copyFrom_110 (by decide +kernel) ?_
  refine z_copyi hx hb (hml.trans hl.1.symm) ht hown hw_3_42 ⟨hw_3_44, hw_3_43, hw_1_18⟩ hK hP hD hS 7 61 (by decide) (by decide) 4 45 rfl (fun _ => rfl) rfl rfl (by decide +kernel) (by decide +kernel) (by decide +kernel) (by decide +kernel) (by decide +kernel) (by decide) (by decide +kernel) dX2_copyFrom_112 (fun g_4 H locs eg_4 hP hD hS => ?_)
  exact z_vret hx hb hr hlocks hP hD hS dX2_copyFrom_115 rfl
set_option maxHeartbeats 4000000 in
set_option maxRecDepth 100000 in
theorem kX2_copyFrom_65_3 (l : Launch) (D : va_G) (q : Nat → Nat) (cA : Nat → ClassId) (I R : Nat → Nat → Int32) (J : Nat → Nat → Int64)   : zMv l D vwCl (zXtys cA) 81 q (zXd q cA) yX2_copyFrom cX2_copyFrom 2 none ({ frames := 1, cells := 0, slots := 0, locals := 64 } : Room) [.ref (q 65), .ref (q 3)] (I, R, J) (fun u => u.1 65 0 = I 3 0) := by
  intro sz
  refine z_body (by decide +kernel) (Nat.le_of_ble_eq_true rfl) (fun p e s m below meth c ls hx hb hml hr ht hown hlocks hsz hK hP hD hS hl => ?_)
  have hA : ∀ a, s.heap.size ≤ a → zA 81 q sz a := fun a h => Or.inr (hsz ▸ h)
  have hl : lv_has ls 2 [(0, .ref (q 65)), (1, .ref (q 3))] := hl
  refine lv_aload_n hx hb dX2_copyFrom_0 rfl (lv_at hl 0 rfl) ?_
  refine lv_aload_n hx hb dX2_copyFrom_1 rfl (lv_at hl 1 rfl) ?_
  refine z_get hx hb ht hown hK hP ziX2 rfl 3 (by decide) 0 (by decide) hw_1_67 rfl (v := .int (I 3 0)) rfl dX2_copyFrom_2 ?_
  refine z_putI hx hb ht hown hK hP hD hS ziX2 tyX2 tyX2_ok nmX2 rfl 65 (by decide) 0 (by decide) hw_1_67 rfl (v := I 3 0) rfl rfl rfl (Nat.le_of_ble_eq_true rfl) rfl dX2_copyFrom_5 (fun H locs hP hD hS => ?_)
  refine lv_aload_n hx hb dX2_copyFrom_8 rfl (lv_at hl 0 rfl) ?_
  refine lv_aload_n hx hb dX2_copyFrom_9 rfl (lv_at hl 1 rfl) ?_
  refine z_get hx hb ht hown hK hP ziX2 rfl 3 (by decide) 1 (by decide) hw_1_70 rfl (v := .int ((zp I 65 0 (I 3 0)) 3 1)) rfl dX2_copyFrom_10 ?_
  refine z_putI hx hb ht hown hK hP hD hS ziX2 tyX2 tyX2_ok nmX2 rfl 65 (by decide) 1 (by decide) hw_1_70 rfl (v := (zp I 65 0 (I 3 0)) 3 1) rfl rfl rfl (Nat.le_of_ble_eq_true rfl) rfl dX2_copyFrom_13 (fun H locs hP hD hS => ?_)
  refine lv_aload_n hx hb dX2_copyFrom_16 rfl (lv_at hl 0 rfl) ?_
  refine lv_aload_n hx hb dX2_copyFrom_17 rfl (lv_at hl 1 rfl) ?_
  refine z_get hx hb ht hown hK hP ziX2 rfl 3 (by decide) 2 (by decide) hw_1_74 rfl (v := .int ((zp (zp I 65 0 (I 3 0)) 65 1 ((zp I 65 0 (I 3 0)) 3 1)) 3 2)) rfl dX2_copyFrom_18 ?_
  refine z_putI hx hb ht hown hK hP hD hS ziX2 tyX2 tyX2_ok nmX2 rfl 65 (by decide) 2 (by decide) hw_1_74 rfl (v := (zp (zp I 65 0 (I 3 0)) 65 1 ((zp I 65 0 (I 3 0)) 3 1)) 3 2) rfl rfl rfl (Nat.le_of_ble_eq_true rfl) rfl dX2_copyFrom_21 (fun H locs hP hD hS => ?_)
  refine lv_aload_n hx hb dX2_copyFrom_24 rfl (lv_at hl 0 rfl) ?_
  refine lv_aload_n hx hb dX2_copyFrom_25 rfl (lv_at hl 1 rfl) ?_
  refine z_get hx hb ht hown hK hP ziX2 rfl 3 (by decide) 3 (by decide) hw_1_78 rfl (v := .int ((zp (zp (zp I 65 0 (I 3 0)) 65 1 ((zp I 65 0 (I 3 0)) 3 1)) 65 2 ((zp (zp I 65 0 (I 3 0)) 65 1 ((zp I 65 0 (I 3 0)) 3 1)) 3 2)) 3 3)) rfl dX2_copyFrom_26 ?_
  refine z_putI hx hb ht hown hK hP hD hS ziX2 tyX2 tyX2_ok nmX2 rfl 65 (by decide) 3 (by decide) hw_1_78 rfl (v := (zp (zp (zp I 65 0 (I 3 0)) 65 1 ((zp I 65 0 (I 3 0)) 3 1)) 65 2 ((zp (zp I 65 0 (I 3 0)) 65 1 ((zp I 65 0 (I 3 0)) 3 1)) 3 2)) 3 3) rfl rfl rfl (Nat.le_of_ble_eq_true rfl) rfl dX2_copyFrom_29 (fun H locs hP hD hS => ?_)
  refine lv_aload_n hx hb dX2_copyFrom_32 rfl (lv_at hl 0 rfl) ?_
  refine lv_aload_n hx hb dX2_copyFrom_33 rfl (lv_at hl 1 rfl) ?_
  refine z_get hx hb ht hown hK hP ziX2 rfl 3 (by decide) 4 (by decide) hw_1_81 rfl (v := .int ((zp (zp (zp (zp I 65 0 (I 3 0)) 65 1 ((zp I 65 0 (I 3 0)) 3 1)) 65 2 ((zp (zp I 65 0 (I 3 0)) 65 1 ((zp I 65 0 (I 3 0)) 3 1)) 3 2)) 65 3 ((zp (zp (zp I 65 0 (I 3 0)) 65 1 ((zp I 65 0 (I 3 0)) 3 1)) 65 2 ((zp (zp I 65 0 (I 3 0)) 65 1 ((zp I 65 0 (I 3 0)) 3 1)) 3 2)) 3 3)) 3 4)) rfl dX2_copyFrom_34 ?_
  refine z_putI hx hb ht hown hK hP hD hS ziX2 tyX2 tyX2_ok nmX2 rfl 65 (by decide) 4 (by decide) hw_1_81 rfl (v := (zp (zp (zp (zp I 65 0 (I 3 0)) 65 1 ((zp I 65 0 (I 3 0)) 3 1)) 65 2 ((zp (zp I 65 0 (I 3 0)) 65 1 ((zp I 65 0 (I 3 0)) 3 1)) 3 2)) 65 3 ((zp (zp (zp I 65 0 (I 3 0)) 65 1 ((zp I 65 0 (I 3 0)) 3 1)) 65 2 ((zp (zp I 65 0 (I 3 0)) 65 1 ((zp I 65 0 (I 3 0)) 3 1)) 3 2)) 3 3)) 3 4) rfl rfl rfl (Nat.le_of_ble_eq_true rfl) rfl dX2_copyFrom_37 (fun H locs hP hD hS => ?_)
  refine lv_aload_n hx hb dX2_copyFrom_40 rfl (lv_at hl 0 rfl) ?_
  refine lv_aload_n hx hb dX2_copyFrom_41 rfl (lv_at hl 1 rfl) ?_
  refine z_get hx hb ht hown hK hP ziX2 rfl 3 (by decide) 5 (by decide) hw_1_87 rfl (v := .int ((zp (zp (zp (zp (zp I 65 0 (I 3 0)) 65 1 ((zp I 65 0 (I 3 0)) 3 1)) 65 2 ((zp (zp I 65 0 (I 3 0)) 65 1 ((zp I 65 0 (I 3 0)) 3 1)) 3 2)) 65 3 ((zp (zp (zp I 65 0 (I 3 0)) 65 1 ((zp I 65 0 (I 3 0)) 3 1)) 65 2 ((zp (zp I 65 0 (I 3 0)) 65 1 ((zp I 65 0 (I 3 0)) 3 1)) 3 2)) 3 3)) 65 4 ((zp (zp (zp (zp I 65 0 (I 3 0)) 65 1 ((zp I 65 0 (I 3 0)) 3 1)) 65 2 ((zp (zp I 65 0 (I 3 0)) 65 1 ((zp I 65 0 (I 3 0)) 3 1)) 3 2)) 65 3 ((zp (zp (zp I 65 0 (I 3 0)) 65 1 ((zp I 65 0 (I 3 0)) 3 1)) 65 2 ((zp (zp I 65 0 (I 3 0)) 65 1 ((zp I 65 0 (I 3 0)) 3 1)) 3 2)) 3 3)) 3 4)) 3 5)) rfl dX2_copyFrom_42 ?_
  refine z_putI hx hb ht hown hK hP hD hS ziX2 tyX2 tyX2_ok nmX2 rfl 65 (by decide) 5 (by decide) hw_1_87 rfl (v := (zp (zp (zp (zp (zp I 65 0 (I 3 0)) 65 1 ((zp I 65 0 (I 3 0)) 3 1)) 65 2 ((zp (zp I 65 0 (I 3 0)) 65 1 ((zp I 65 0 (I 3 0)) 3 1)) 3 2)) 65 3 ((zp (zp (zp I 65 0 (I 3 0)) 65 1 ((zp I 65 0 (I 3 0)) 3 1)) 65 2 ((zp (zp I 65 0 (I 3 0)) 65 1 ((zp I 65 0 (I 3 0)) 3 1)) 3 2)) 3 3)) 65 4 ((zp (zp (zp (zp I 65 0 (I 3 0)) 65 1 ((zp I 65 0 (I 3 0)) 3 1)) 65 2 ((zp (zp I 65 0 (I 3 0)) 65 1 ((zp I 65 0 (I 3 0)) 3 1)) 3 2)) 65 3 ((zp (zp (zp I 65 0 (I 3 0)) 65 1 ((zp I 65 0 (I 3 0)) 3 1)) 65 2 ((zp (zp I 65 0 (I 3 0)) 65 1 ((zp I 65 0 (I 3 0)) 3 1)) 3 2)) 3 3)) 3 4)) 3 5) rfl rfl rfl (Nat.le_of_ble_eq_true rfl) rfl dX2_copyFrom_45 (fun H locs hP hD hS => ?_)
  refine lv_aload_n hx hb dX2_copyFrom_48 rfl (lv_at hl 0 rfl) ?_
  refine lv_aload_n hx hb dX2_copyFrom_49 rfl (lv_at hl 1 rfl) ?_
  refine z_get hx hb ht hown hK hP ziX2 rfl 3 (by decide) 6 (by decide) hw_1_95 rfl (v := .int ((zp (zp (zp (zp (zp (zp I 65 0 (I 3 0)) 65 1 ((zp I 65 0 (I 3 0)) 3 1)) 65 2 ((zp (zp I 65 0 (I 3 0)) 65 1 ((zp I 65 0 (I 3 0)) 3 1)) 3 2)) 65 3 ((zp (zp (zp I 65 0 (I 3 0)) 65 1 ((zp I 65 0 (I 3 0)) 3 1)) 65 2 ((zp (zp I 65 0 (I 3 0)) 65 1 ((zp I 65 0 (I 3 0)) 3 1)) 3 2)) 3 3)) 65 4 ((zp (zp (zp (zp I 65 0 (I 3 0)) 65 1 ((zp I 65 0 (I 3 0)) 3 1)) 65 2 ((zp (zp I 65 0 (I 3 0)) 65 1 ((zp I 65 0 (I 3 0)) 3 1)) 3 2)) 65 3 ((zp (zp (zp I 65 0 (I 3 0)) 65 1 ((zp I 65 0 (I 3 0)) 3 1)) 65 2 ((zp (zp I 65 0 (I 3 0)) 65 1 ((zp I 65 0 (I 3 0)) 3 1)) 3 2)) 3 3)) 3 4)) 65 5 ((zp (zp (zp (zp (zp I 65 0 (I 3 0)) 65 1 ((zp I 65 0 (I 3 0)) 3 1)) 65 2 ((zp (zp I 65 0 (I 3 0)) 65 1 ((zp I 65 0 (I 3 0)) 3 1)) 3 2)) 65 3 ((zp (zp (zp I 65 0 (I 3 0)) 65 1 ((zp I 65 0 (I 3 0)) 3 1)) 65 2 ((zp (zp I 65 0 (I 3 0)) 65 1 ((zp I 65 0 (I 3 0)) 3 1)) 3 2)) 3 3)) 65 4 ((zp (zp (zp (zp I 65 0 (I 3 0)) 65 1 ((zp I 65 0 (I 3 0)) 3 1)) 65 2 ((zp (zp I 65 0 (I 3 0)) 65 1 ((zp I 65 0 (I 3 0)) 3 1)) 3 2)) 65 3 ((zp (zp (zp I 65 0 (I 3 0)) 65 1 ((zp I 65 0 (I 3 0)) 3 1)) 65 2 ((zp (zp I 65 0 (I 3 0)) 65 1 ((zp I 65 0 (I 3 0)) 3 1)) 3 2)) 3 3)) 3 4)) 3 5)) 3 6)) rfl dX2_copyFrom_50 ?_
  refine z_putI hx hb ht hown hK hP hD hS ziX2 tyX2 tyX2_ok nmX2 rfl 65 (by decide) 6 (by decide) hw_1_95 rfl (v := (zp (zp (zp (zp (zp (zp I 65 0 (I 3 0)) 65 1 ((zp I 65 0 (I 3 0)) 3 1)) 65 2 ((zp (zp I 65 0 (I 3 0)) 65 1 ((zp I 65 0 (I 3 0)) 3 1)) 3 2)) 65 3 ((zp (zp (zp I 65 0 (I 3 0)) 65 1 ((zp I 65 0 (I 3 0)) 3 1)) 65 2 ((zp (zp I 65 0 (I 3 0)) 65 1 ((zp I 65 0 (I 3 0)) 3 1)) 3 2)) 3 3)) 65 4 ((zp (zp (zp (zp I 65 0 (I 3 0)) 65 1 ((zp I 65 0 (I 3 0)) 3 1)) 65 2 ((zp (zp I 65 0 (I 3 0)) 65 1 ((zp I 65 0 (I 3 0)) 3 1)) 3 2)) 65 3 ((zp (zp (zp I 65 0 (I 3 0)) 65 1 ((zp I 65 0 (I 3 0)) 3 1)) 65 2 ((zp (zp I 65 0 (I 3 0)) 65 1 ((zp I 65 0 (I 3 0)) 3 1)) 3 2)) 3 3)) 3 4)) 65 5 ((zp (zp (zp (zp (zp I 65 0 (I 3 0)) 65 1 ((zp I 65 0 (I 3 0)) 3 1)) 65 2 ((zp (zp I 65 0 (I 3 0)) 65 1 ((zp I 65 0 (I 3 0)) 3 1)) 3 2)) 65 3 ((zp (zp (zp I 65 0 (I 3 0)) 65 1 ((zp I 65 0 (I 3 0)) 3 1)) 65 2 ((zp (zp I 65 0 (I 3 0)) 65 1 ((zp I 65 0 (I 3 0)) 3 1)) 3 2)) 3 3)) 65 4 ((zp (zp (zp (zp I 65 0 (I 3 0)) 65 1 ((zp I 65 0 (I 3 0)) 3 1)) 65 2 ((zp (zp I 65 0 (I 3 0)) 65 1 ((zp I 65 0 (I 3 0)) 3 1)) 3 2)) 65 3 ((zp (zp (zp I 65 0 (I 3 0)) 65 1 ((zp I 65 0 (I 3 0)) 3 1)) 65 2 ((zp (zp I 65 0 (I 3 0)) 65 1 ((zp I 65 0 (I 3 0)) 3 1)) 3 2)) 3 3)) 3 4)) 3 5)) 3 6) rfl rfl rfl (Nat.le_of_ble_eq_true rfl) rfl dX2_copyFrom_53 (fun H locs hP hD hS => ?_)
  refine lv_aload_n hx hb dX2_copyFrom_56 rfl (lv_at hl 1 rfl) ?_
  refine z_get hx hb ht hown hK hP ziX2 rfl 3 (by decide) 7 (by decide) hw_1_97 rfl (v := .ref (q 4)) rfl dX2_copyFrom_57 ?_
  refine lv_iconst (v := nI 0) hx hb dX2_copyFrom_60 (by decide +kernel) ?_
  refine lv_aload_n hx hb dX2_copyFrom_61 rfl (lv_at hl 0 rfl) ?_
  refine z_get hx hb ht hown hK hP ziX2 rfl 65 (by decide) 7 (by decide) hw_1_97 rfl (v := .ref (q 66)) rfl dX2_copyFrom_62 ?_
  refine lv_iconst (v := nI 0) hx hb dX2_copyFrom_65 (by decide +kernel) ?_
  refine lv_iconst (v := nI 5) hx hb dX2_copyFrom_66 (by decide +kernel) ?_
  refine z_copyi hx hb (hml.trans hl.1.symm) ht hown hw_3_42 ⟨hw_3_44, hw_3_43, hw_1_18⟩ hK hP hD hS 4 66 (by decide) (by decide) 1 47 rfl (fun _ => rfl) rfl rfl (by decide +kernel) (by decide +kernel) (by decide +kernel) (by decide +kernel) (by decide +kernel) (by decide) (by decide +kernel) dX2_copyFrom_67 (fun g_1 H locs eg_1 hP hD hS => ?_)
  refine lv_aload_n hx hb dX2_copyFrom_70 rfl (lv_at hl 1 rfl) ?_
  refine z_get hx hb ht hown hK hP ziX2 rfl 3 (by decide) 8 (by decide) hw_1_100 rfl (v := .ref (q 5)) rfl dX2_copyFrom_71 ?_
  refine lv_iconst (v := nI 0) hx hb dX2_copyFrom_74 (by decide +kernel) ?_
  refine lv_aload_n hx hb dX2_copyFrom_75 rfl (lv_at hl 0 rfl) ?_
  refine z_get hx hb ht hown hK hP ziX2 rfl 65 (by decide) 8 (by decide) hw_1_100 rfl (v := .ref (q 67)) rfl dX2_copyFrom_76 ?_
  refine lv_iconst (v := nI 0) hx hb dX2_copyFrom_79 (by decide +kernel) ?_
  refine lv_bipush (v := nI 6) hx hb dX2_copyFrom_80 (by decide +kernel) ?_
  refine z_copyi hx hb (hml.trans hl.1.symm) ht hown hw_3_42 ⟨hw_3_44, hw_3_43, hw_1_18⟩ hK hP hD hS 5 67 (by decide) (by decide) 2 48 rfl (fun _ => rfl) rfl rfl (by decide +kernel) (by decide +kernel) (by decide +kernel) (by decide +kernel) (by decide +kernel) (by decide) (by decide +kernel) dX2_copyFrom_82 (fun g_2 H locs eg_2 hP hD hS => ?_)
  refine lv_aload_n hx hb dX2_copyFrom_85 rfl (lv_at hl 1 rfl) ?_
  refine z_get hx hb ht hown hK hP ziX2 rfl 3 (by decide) 9 (by decide) hw_1_104 rfl (v := .ref (q 6)) rfl dX2_copyFrom_86 ?_
  refine lv_iconst (v := nI 0) hx hb dX2_copyFrom_89 (by decide +kernel) ?_
  refine lv_aload_n hx hb dX2_copyFrom_90 rfl (lv_at hl 0 rfl) ?_
  refine z_get hx hb ht hown hK hP ziX2 rfl 65 (by decide) 9 (by decide) hw_1_104 rfl (v := .ref (q 68)) rfl dX2_copyFrom_91 ?_
  refine lv_iconst (v := nI 0) hx hb dX2_copyFrom_94 (by decide +kernel) ?_
  refine lv_bipush (v := nI 6) hx hb dX2_copyFrom_95 (by decide +kernel) ?_
  refine z_copyi hx hb (hml.trans hl.1.symm) ht hown hw_3_42 ⟨hw_3_44, hw_3_43, hw_1_18⟩ hK hP hD hS 6 68 (by decide) (by decide) 3 49 rfl (fun _ => rfl) rfl rfl (by decide +kernel) (by decide +kernel) (by decide +kernel) (by decide +kernel) (by decide +kernel) (by decide) (by decide +kernel) dX2_copyFrom_97 (fun g_3 H locs eg_3 hP hD hS => ?_)
  refine lv_aload_n hx hb dX2_copyFrom_100 rfl (lv_at hl 1 rfl) ?_
  refine z_get hx hb ht hown hK hP ziX2 rfl 3 (by decide) 10 (by decide) hw_1_109 rfl (v := .ref (q 7)) rfl dX2_copyFrom_101 ?_
  refine lv_iconst (v := nI 0) hx hb dX2_copyFrom_104 (by decide +kernel) ?_
  refine lv_aload_n hx hb dX2_copyFrom_105 rfl (lv_at hl 0 rfl) ?_
  refine z_get hx hb ht hown hK hP ziX2 rfl 65 (by decide) 10 (by decide) hw_1_109 rfl (v := .ref (q 69)) rfl dX2_copyFrom_106 ?_
  refine lv_iconst (v := nI 0) hx hb dX2_copyFrom_109 (by decide +kernel) ?_
  refine lv_bipush (v := nI 30) hx hb dX2_copyFrom_110 (by decide +kernel) ?_
  refine z_copyi hx hb (hml.trans hl.1.symm) ht hown hw_3_42 ⟨hw_3_44, hw_3_43, hw_1_18⟩ hK hP hD hS 7 69 (by decide) (by decide) 4 50 rfl (fun _ => rfl) rfl rfl (by decide +kernel) (by decide +kernel) (by decide +kernel) (by decide +kernel) (by decide +kernel) (by decide) (by decide +kernel) dX2_copyFrom_112 (fun g_4 H locs eg_4 hP hD hS => ?_)
  exact z_vret hx hb hr hlocks hP hD hS dX2_copyFrom_115 rfl
set_option maxHeartbeats 4000000 in
set_option maxRecDepth 100000 in
theorem kX2_copyFrom_3_8 (l : Launch) (D : va_G) (q : Nat → Nat) (cA : Nat → ClassId) (I R : Nat → Nat → Int32) (J : Nat → Nat → Int64)   : zMv l D vwCl (zXtys cA) 81 q (zXd q cA) yX2_copyFrom cX2_copyFrom 2 none ({ frames := 1, cells := 0, slots := 0, locals := 64 } : Room) [.ref (q 3), .ref (q 8)] (I, R, J) (fun u => u.1 3 0 = I 8 0) := by
  intro sz
  refine z_body (by decide +kernel) (Nat.le_of_ble_eq_true rfl) (fun p e s m below meth c ls hx hb hml hr ht hown hlocks hsz hK hP hD hS hl => ?_)
  have hA : ∀ a, s.heap.size ≤ a → zA 81 q sz a := fun a h => Or.inr (hsz ▸ h)
  have hl : lv_has ls 2 [(0, .ref (q 3)), (1, .ref (q 8))] := hl
  refine lv_aload_n hx hb dX2_copyFrom_0 rfl (lv_at hl 0 rfl) ?_
  refine lv_aload_n hx hb dX2_copyFrom_1 rfl (lv_at hl 1 rfl) ?_
  refine z_get hx hb ht hown hK hP ziX2 rfl 8 (by decide) 0 (by decide) hw_1_67 rfl (v := .int (I 8 0)) rfl dX2_copyFrom_2 ?_
  refine z_putI hx hb ht hown hK hP hD hS ziX2 tyX2 tyX2_ok nmX2 rfl 3 (by decide) 0 (by decide) hw_1_67 rfl (v := I 8 0) rfl rfl rfl (Nat.le_of_ble_eq_true rfl) rfl dX2_copyFrom_5 (fun H locs hP hD hS => ?_)
  refine lv_aload_n hx hb dX2_copyFrom_8 rfl (lv_at hl 0 rfl) ?_
  refine lv_aload_n hx hb dX2_copyFrom_9 rfl (lv_at hl 1 rfl) ?_
  refine z_get hx hb ht hown hK hP ziX2 rfl 8 (by decide) 1 (by decide) hw_1_70 rfl (v := .int ((zp I 3 0 (I 8 0)) 8 1)) rfl dX2_copyFrom_10 ?_
  refine z_putI hx hb ht hown hK hP hD hS ziX2 tyX2 tyX2_ok nmX2 rfl 3 (by decide) 1 (by decide) hw_1_70 rfl (v := (zp I 3 0 (I 8 0)) 8 1) rfl rfl rfl (Nat.le_of_ble_eq_true rfl) rfl dX2_copyFrom_13 (fun H locs hP hD hS => ?_)
  refine lv_aload_n hx hb dX2_copyFrom_16 rfl (lv_at hl 0 rfl) ?_
  refine lv_aload_n hx hb dX2_copyFrom_17 rfl (lv_at hl 1 rfl) ?_
  refine z_get hx hb ht hown hK hP ziX2 rfl 8 (by decide) 2 (by decide) hw_1_74 rfl (v := .int ((zp (zp I 3 0 (I 8 0)) 3 1 ((zp I 3 0 (I 8 0)) 8 1)) 8 2)) rfl dX2_copyFrom_18 ?_
  refine z_putI hx hb ht hown hK hP hD hS ziX2 tyX2 tyX2_ok nmX2 rfl 3 (by decide) 2 (by decide) hw_1_74 rfl (v := (zp (zp I 3 0 (I 8 0)) 3 1 ((zp I 3 0 (I 8 0)) 8 1)) 8 2) rfl rfl rfl (Nat.le_of_ble_eq_true rfl) rfl dX2_copyFrom_21 (fun H locs hP hD hS => ?_)
  refine lv_aload_n hx hb dX2_copyFrom_24 rfl (lv_at hl 0 rfl) ?_
  refine lv_aload_n hx hb dX2_copyFrom_25 rfl (lv_at hl 1 rfl) ?_
  refine z_get hx hb ht hown hK hP ziX2 rfl 8 (by decide) 3 (by decide) hw_1_78 rfl (v := .int ((zp (zp (zp I 3 0 (I 8 0)) 3 1 ((zp I 3 0 (I 8 0)) 8 1)) 3 2 ((zp (zp I 3 0 (I 8 0)) 3 1 ((zp I 3 0 (I 8 0)) 8 1)) 8 2)) 8 3)) rfl dX2_copyFrom_26 ?_
  refine z_putI hx hb ht hown hK hP hD hS ziX2 tyX2 tyX2_ok nmX2 rfl 3 (by decide) 3 (by decide) hw_1_78 rfl (v := (zp (zp (zp I 3 0 (I 8 0)) 3 1 ((zp I 3 0 (I 8 0)) 8 1)) 3 2 ((zp (zp I 3 0 (I 8 0)) 3 1 ((zp I 3 0 (I 8 0)) 8 1)) 8 2)) 8 3) rfl rfl rfl (Nat.le_of_ble_eq_true rfl) rfl dX2_copyFrom_29 (fun H locs hP hD hS => ?_)
  refine lv_aload_n hx hb dX2_copyFrom_32 rfl (lv_at hl 0 rfl) ?_
  refine lv_aload_n hx hb dX2_copyFrom_33 rfl (lv_at hl 1 rfl) ?_
  refine z_get hx hb ht hown hK hP ziX2 rfl 8 (by decide) 4 (by decide) hw_1_81 rfl (v := .int ((zp (zp (zp (zp I 3 0 (I 8 0)) 3 1 ((zp I 3 0 (I 8 0)) 8 1)) 3 2 ((zp (zp I 3 0 (I 8 0)) 3 1 ((zp I 3 0 (I 8 0)) 8 1)) 8 2)) 3 3 ((zp (zp (zp I 3 0 (I 8 0)) 3 1 ((zp I 3 0 (I 8 0)) 8 1)) 3 2 ((zp (zp I 3 0 (I 8 0)) 3 1 ((zp I 3 0 (I 8 0)) 8 1)) 8 2)) 8 3)) 8 4)) rfl dX2_copyFrom_34 ?_
  refine z_putI hx hb ht hown hK hP hD hS ziX2 tyX2 tyX2_ok nmX2 rfl 3 (by decide) 4 (by decide) hw_1_81 rfl (v := (zp (zp (zp (zp I 3 0 (I 8 0)) 3 1 ((zp I 3 0 (I 8 0)) 8 1)) 3 2 ((zp (zp I 3 0 (I 8 0)) 3 1 ((zp I 3 0 (I 8 0)) 8 1)) 8 2)) 3 3 ((zp (zp (zp I 3 0 (I 8 0)) 3 1 ((zp I 3 0 (I 8 0)) 8 1)) 3 2 ((zp (zp I 3 0 (I 8 0)) 3 1 ((zp I 3 0 (I 8 0)) 8 1)) 8 2)) 8 3)) 8 4) rfl rfl rfl (Nat.le_of_ble_eq_true rfl) rfl dX2_copyFrom_37 (fun H locs hP hD hS => ?_)
  refine lv_aload_n hx hb dX2_copyFrom_40 rfl (lv_at hl 0 rfl) ?_
  refine lv_aload_n hx hb dX2_copyFrom_41 rfl (lv_at hl 1 rfl) ?_
  refine z_get hx hb ht hown hK hP ziX2 rfl 8 (by decide) 5 (by decide) hw_1_87 rfl (v := .int ((zp (zp (zp (zp (zp I 3 0 (I 8 0)) 3 1 ((zp I 3 0 (I 8 0)) 8 1)) 3 2 ((zp (zp I 3 0 (I 8 0)) 3 1 ((zp I 3 0 (I 8 0)) 8 1)) 8 2)) 3 3 ((zp (zp (zp I 3 0 (I 8 0)) 3 1 ((zp I 3 0 (I 8 0)) 8 1)) 3 2 ((zp (zp I 3 0 (I 8 0)) 3 1 ((zp I 3 0 (I 8 0)) 8 1)) 8 2)) 8 3)) 3 4 ((zp (zp (zp (zp I 3 0 (I 8 0)) 3 1 ((zp I 3 0 (I 8 0)) 8 1)) 3 2 ((zp (zp I 3 0 (I 8 0)) 3 1 ((zp I 3 0 (I 8 0)) 8 1)) 8 2)) 3 3 ((zp (zp (zp I 3 0 (I 8 0)) 3 1 ((zp I 3 0 (I 8 0)) 8 1)) 3 2 ((zp (zp I 3 0 (I 8 0)) 3 1 ((zp I 3 0 (I 8 0)) 8 1)) 8 2)) 8 3)) 8 4)) 8 5)) rfl dX2_copyFrom_42 ?_
  refine z_putI hx hb ht hown hK hP hD hS ziX2 tyX2 tyX2_ok nmX2 rfl 3 (by decide) 5 (by decide) hw_1_87 rfl (v := (zp (zp (zp (zp (zp I 3 0 (I 8 0)) 3 1 ((zp I 3 0 (I 8 0)) 8 1)) 3 2 ((zp (zp I 3 0 (I 8 0)) 3 1 ((zp I 3 0 (I 8 0)) 8 1)) 8 2)) 3 3 ((zp (zp (zp I 3 0 (I 8 0)) 3 1 ((zp I 3 0 (I 8 0)) 8 1)) 3 2 ((zp (zp I 3 0 (I 8 0)) 3 1 ((zp I 3 0 (I 8 0)) 8 1)) 8 2)) 8 3)) 3 4 ((zp (zp (zp (zp I 3 0 (I 8 0)) 3 1 ((zp I 3 0 (I 8 0)) 8 1)) 3 2 ((zp (zp I 3 0 (I 8 0)) 3 1 ((zp I 3 0 (I 8 0)) 8 1)) 8 2)) 3 3 ((zp (zp (zp I 3 0 (I 8 0)) 3 1 ((zp I 3 0 (I 8 0)) 8 1)) 3 2 ((zp (zp I 3 0 (I 8 0)) 3 1 ((zp I 3 0 (I 8 0)) 8 1)) 8 2)) 8 3)) 8 4)) 8 5) rfl rfl rfl (Nat.le_of_ble_eq_true rfl) rfl dX2_copyFrom_45 (fun H locs hP hD hS => ?_)
  refine lv_aload_n hx hb dX2_copyFrom_48 rfl (lv_at hl 0 rfl) ?_
  refine lv_aload_n hx hb dX2_copyFrom_49 rfl (lv_at hl 1 rfl) ?_
  refine z_get hx hb ht hown hK hP ziX2 rfl 8 (by decide) 6 (by decide) hw_1_95 rfl (v := .int ((zp (zp (zp (zp (zp (zp I 3 0 (I 8 0)) 3 1 ((zp I 3 0 (I 8 0)) 8 1)) 3 2 ((zp (zp I 3 0 (I 8 0)) 3 1 ((zp I 3 0 (I 8 0)) 8 1)) 8 2)) 3 3 ((zp (zp (zp I 3 0 (I 8 0)) 3 1 ((zp I 3 0 (I 8 0)) 8 1)) 3 2 ((zp (zp I 3 0 (I 8 0)) 3 1 ((zp I 3 0 (I 8 0)) 8 1)) 8 2)) 8 3)) 3 4 ((zp (zp (zp (zp I 3 0 (I 8 0)) 3 1 ((zp I 3 0 (I 8 0)) 8 1)) 3 2 ((zp (zp I 3 0 (I 8 0)) 3 1 ((zp I 3 0 (I 8 0)) 8 1)) 8 2)) 3 3 ((zp (zp (zp I 3 0 (I 8 0)) 3 1 ((zp I 3 0 (I 8 0)) 8 1)) 3 2 ((zp (zp I 3 0 (I 8 0)) 3 1 ((zp I 3 0 (I 8 0)) 8 1)) 8 2)) 8 3)) 8 4)) 3 5 ((zp (zp (zp (zp (zp I 3 0 (I 8 0)) 3 1 ((zp I 3 0 (I 8 0)) 8 1)) 3 2 ((zp (zp I 3 0 (I 8 0)) 3 1 ((zp I 3 0 (I 8 0)) 8 1)) 8 2)) 3 3 ((zp (zp (zp I 3 0 (I 8 0)) 3 1 ((zp I 3 0 (I 8 0)) 8 1)) 3 2 ((zp (zp I 3 0 (I 8 0)) 3 1 ((zp I 3 0 (I 8 0)) 8 1)) 8 2)) 8 3)) 3 4 ((zp (zp (zp (zp I 3 0 (I 8 0)) 3 1 ((zp I 3 0 (I 8 0)) 8 1)) 3 2 ((zp (zp I 3 0 (I 8 0)) 3 1 ((zp I 3 0 (I 8 0)) 8 1)) 8 2)) 3 3 ((zp (zp (zp I 3 0 (I 8 0)) 3 1 ((zp I 3 0 (I 8 0)) 8 1)) 3 2 ((zp (zp I 3 0 (I 8 0)) 3 1 ((zp I 3 0 (I 8 0)) 8 1)) 8 2)) 8 3)) 8 4)) 8 5)) 8 6)) rfl dX2_copyFrom_50 ?_
  refine z_putI hx hb ht hown hK hP hD hS ziX2 tyX2 tyX2_ok nmX2 rfl 3 (by decide) 6 (by decide) hw_1_95 rfl (v := (zp (zp (zp (zp (zp (zp I 3 0 (I 8 0)) 3 1 ((zp I 3 0 (I 8 0)) 8 1)) 3 2 ((zp (zp I 3 0 (I 8 0)) 3 1 ((zp I 3 0 (I 8 0)) 8 1)) 8 2)) 3 3 ((zp (zp (zp I 3 0 (I 8 0)) 3 1 ((zp I 3 0 (I 8 0)) 8 1)) 3 2 ((zp (zp I 3 0 (I 8 0)) 3 1 ((zp I 3 0 (I 8 0)) 8 1)) 8 2)) 8 3)) 3 4 ((zp (zp (zp (zp I 3 0 (I 8 0)) 3 1 ((zp I 3 0 (I 8 0)) 8 1)) 3 2 ((zp (zp I 3 0 (I 8 0)) 3 1 ((zp I 3 0 (I 8 0)) 8 1)) 8 2)) 3 3 ((zp (zp (zp I 3 0 (I 8 0)) 3 1 ((zp I 3 0 (I 8 0)) 8 1)) 3 2 ((zp (zp I 3 0 (I 8 0)) 3 1 ((zp I 3 0 (I 8 0)) 8 1)) 8 2)) 8 3)) 8 4)) 3 5 ((zp (zp (zp (zp (zp I 3 0 (I 8 0)) 3 1 ((zp I 3 0 (I 8 0)) 8 1)) 3 2 ((zp (zp I 3 0 (I 8 0)) 3 1 ((zp I 3 0 (I 8 0)) 8 1)) 8 2)) 3 3 ((zp (zp (zp I 3 0 (I 8 0)) 3 1 ((zp I 3 0 (I 8 0)) 8 1)) 3 2 ((zp (zp I 3 0 (I 8 0)) 3 1 ((zp I 3 0 (I 8 0)) 8 1)) 8 2)) 8 3)) 3 4 ((zp (zp (zp (zp I 3 0 (I 8 0)) 3 1 ((zp I 3 0 (I 8 0)) 8 1)) 3 2 ((zp (zp I 3 0 (I 8 0)) 3 1 ((zp I 3 0 (I 8 0)) 8 1)) 8 2)) 3 3 ((zp (zp (zp I 3 0 (I 8 0)) 3 1 ((zp I 3 0 (I 8 0)) 8 1)) 3 2 ((zp (zp I 3 0 (I 8 0)) 3 1 ((zp I 3 0 (I 8 0)) 8 1)) 8 2)) 8 3)) 8 4)) 8 5)) 8 6) rfl rfl rfl (Nat.le_of_ble_eq_true rfl) rfl dX2_copyFrom_53 (fun H locs hP hD hS => ?_)
  refine lv_aload_n hx hb dX2_copyFrom_56 rfl (lv_at hl 1 rfl) ?_
  refine z_get hx hb ht hown hK hP ziX2 rfl 8 (by decide) 7 (by decide) hw_1_97 rfl (v := .ref (q 9)) rfl dX2_copyFrom_57 ?_
  refine lv_iconst (v := nI 0) hx hb dX2_copyFrom_60 (by decide +kernel) ?_
  refine lv_aload_n hx hb dX2_copyFrom_61 rfl (lv_at hl 0 rfl) ?_
  refine z_get hx hb ht hown hK hP ziX2 rfl 3 (by decide) 7 (by decide) hw_1_97 rfl (v := .ref (q 4)) rfl dX2_copyFrom_62 ?_
  refine lv_iconst (v := nI 0) hx hb dX2_copyFrom_65 (by decide +kernel) ?_
  refine lv_iconst (v := nI 5) hx hb dX2_copyFrom_66 (by decide +kernel) ?_
  refine z_copyi hx hb (hml.trans hl.1.symm) ht hown hw_3_42 ⟨hw_3_44, hw_3_43, hw_1_18⟩ hK hP hD hS 9 4 (by decide) (by decide) 5 1 rfl (fun _ => rfl) rfl rfl (by decide +kernel) (by decide +kernel) (by decide +kernel) (by decide +kernel) (by decide +kernel) (by decide) (by decide +kernel) dX2_copyFrom_67 (fun g_1 H locs eg_1 hP hD hS => ?_)
  refine lv_aload_n hx hb dX2_copyFrom_70 rfl (lv_at hl 1 rfl) ?_
  refine z_get hx hb ht hown hK hP ziX2 rfl 8 (by decide) 8 (by decide) hw_1_100 rfl (v := .ref (q 10)) rfl dX2_copyFrom_71 ?_
  refine lv_iconst (v := nI 0) hx hb dX2_copyFrom_74 (by decide +kernel) ?_
  refine lv_aload_n hx hb dX2_copyFrom_75 rfl (lv_at hl 0 rfl) ?_
  refine z_get hx hb ht hown hK hP ziX2 rfl 3 (by decide) 8 (by decide) hw_1_100 rfl (v := .ref (q 5)) rfl dX2_copyFrom_76 ?_
  refine lv_iconst (v := nI 0) hx hb dX2_copyFrom_79 (by decide +kernel) ?_
  refine lv_bipush (v := nI 6) hx hb dX2_copyFrom_80 (by decide +kernel) ?_
  refine z_copyi hx hb (hml.trans hl.1.symm) ht hown hw_3_42 ⟨hw_3_44, hw_3_43, hw_1_18⟩ hK hP hD hS 10 5 (by decide) (by decide) 6 2 rfl (fun _ => rfl) rfl rfl (by decide +kernel) (by decide +kernel) (by decide +kernel) (by decide +kernel) (by decide +kernel) (by decide) (by decide +kernel) dX2_copyFrom_82 (fun g_2 H locs eg_2 hP hD hS => ?_)
  refine lv_aload_n hx hb dX2_copyFrom_85 rfl (lv_at hl 1 rfl) ?_
  refine z_get hx hb ht hown hK hP ziX2 rfl 8 (by decide) 9 (by decide) hw_1_104 rfl (v := .ref (q 11)) rfl dX2_copyFrom_86 ?_
  refine lv_iconst (v := nI 0) hx hb dX2_copyFrom_89 (by decide +kernel) ?_
  refine lv_aload_n hx hb dX2_copyFrom_90 rfl (lv_at hl 0 rfl) ?_
  refine z_get hx hb ht hown hK hP ziX2 rfl 3 (by decide) 9 (by decide) hw_1_104 rfl (v := .ref (q 6)) rfl dX2_copyFrom_91 ?_
  refine lv_iconst (v := nI 0) hx hb dX2_copyFrom_94 (by decide +kernel) ?_
  refine lv_bipush (v := nI 6) hx hb dX2_copyFrom_95 (by decide +kernel) ?_
  refine z_copyi hx hb (hml.trans hl.1.symm) ht hown hw_3_42 ⟨hw_3_44, hw_3_43, hw_1_18⟩ hK hP hD hS 11 6 (by decide) (by decide) 7 3 rfl (fun _ => rfl) rfl rfl (by decide +kernel) (by decide +kernel) (by decide +kernel) (by decide +kernel) (by decide +kernel) (by decide) (by decide +kernel) dX2_copyFrom_97 (fun g_3 H locs eg_3 hP hD hS => ?_)
  refine lv_aload_n hx hb dX2_copyFrom_100 rfl (lv_at hl 1 rfl) ?_
  refine z_get hx hb ht hown hK hP ziX2 rfl 8 (by decide) 10 (by decide) hw_1_109 rfl (v := .ref (q 12)) rfl dX2_copyFrom_101 ?_
  refine lv_iconst (v := nI 0) hx hb dX2_copyFrom_104 (by decide +kernel) ?_
  refine lv_aload_n hx hb dX2_copyFrom_105 rfl (lv_at hl 0 rfl) ?_
  refine z_get hx hb ht hown hK hP ziX2 rfl 3 (by decide) 10 (by decide) hw_1_109 rfl (v := .ref (q 7)) rfl dX2_copyFrom_106 ?_
  refine lv_iconst (v := nI 0) hx hb dX2_copyFrom_109 (by decide +kernel) ?_
  refine lv_bipush (v := nI 30) hx hb dX2_copyFrom_110 (by decide +kernel) ?_
  refine z_copyi hx hb (hml.trans hl.1.symm) ht hown hw_3_42 ⟨hw_3_44, hw_3_43, hw_1_18⟩ hK hP hD hS 12 7 (by decide) (by decide) 8 4 rfl (fun _ => rfl) rfl rfl (by decide +kernel) (by decide +kernel) (by decide +kernel) (by decide +kernel) (by decide +kernel) (by decide) (by decide +kernel) dX2_copyFrom_112 (fun g_4 H locs eg_4 hP hD hS => ?_)
  exact z_vret hx hb hr hlocks hP hD hS dX2_copyFrom_115 rfl
set_option maxHeartbeats 4000000 in
set_option maxRecDepth 100000 in
theorem kX0_copyFrom_54_13 (l : Launch) (D : va_G) (q : Nat → Nat) (cA : Nat → ClassId) (I R : Nat → Nat → Int32) (J : Nat → Nat → Int64)   : zMv l D vwCl (zXtys cA) 81 q (zXd q cA) yX0_copyFrom cX0_copyFrom 2 none ({ frames := 1, cells := 0, slots := 0, locals := 64 } : Room) [.ref (q 54), .ref (q 13)] (I, R, J) (fun _ => True) := by
  intro sz
  refine z_body (by decide +kernel) (Nat.le_of_ble_eq_true rfl) (fun p e s m below meth c ls hx hb hml hr ht hown hlocks hsz hK hP hD hS hl => ?_)
  have hA : ∀ a, s.heap.size ≤ a → zA 81 q sz a := fun a h => Or.inr (hsz ▸ h)
  have hl : lv_has ls 2 [(0, .ref (q 54)), (1, .ref (q 13))] := hl
  refine lv_aload_n hx hb dX0_copyFrom_0 rfl (lv_at hl 0 rfl) ?_
  refine lv_aload_n hx hb dX0_copyFrom_1 rfl (lv_at hl 1 rfl) ?_
  refine z_get hx hb ht hown hK hP ziX0 rfl 13 (by decide) 0 (by decide) hw_1_140 rfl (v := .int (I 13 0)) rfl dX0_copyFrom_2 ?_
  refine z_putI hx hb ht hown hK hP hD hS ziX0 tyX0 tyX0_ok nmX0 rfl 54 (by decide) 0 (by decide) hw_1_140 rfl (v := I 13 0) rfl rfl rfl (Nat.le_of_ble_eq_true rfl) rfl dX0_copyFrom_5 (fun H locs hP hD hS => ?_)
  refine lv_aload_n hx hb dX0_copyFrom_8 rfl (lv_at hl 1 rfl) ?_
  refine z_get hx hb ht hown hK hP ziX0 rfl 13 (by decide) 1 (by decide) hw_1_142 rfl (v := .ref (q 14)) rfl dX0_copyFrom_9 ?_
  refine lv_iconst (v := nI 0) hx hb dX0_copyFrom_12 (by decide +kernel) ?_
  refine lv_aload_n hx hb dX0_copyFrom_13 rfl (lv_at hl 0 rfl) ?_
  refine z_get hx hb ht hown hK hP ziX0 rfl 54 (by decide) 1 (by decide) hw_1_142 rfl (v := .ref (q 55)) rfl dX0_copyFrom_14 ?_
  refine lv_iconst (v := nI 0) hx hb dX0_copyFrom_17 (by decide +kernel) ?_
  refine lv_sipush (v := nI 240) hx hb dX0_copyFrom_18 (by decide +kernel) ?_
  refine z_copyi hx hb (hml.trans hl.1.symm) ht hown hw_5_149 ⟨hw_3_44, hw_3_43, hw_1_18⟩ hK hP hD hS 14 55 (by decide) (by decide) 9 41 rfl (fun _ => rfl) rfl rfl (by decide +kernel) (by decide +kernel) (by decide +kernel) (by decide +kernel) (by decide +kernel) (by decide) (by decide +kernel) dX0_copyFrom_21 (fun g_1 H locs eg_1 hP hD hS => ?_)
  exact z_vret hx hb hr hlocks hP hD hS dX0_copyFrom_24 trivial
set_option maxHeartbeats 4000000 in
set_option maxRecDepth 100000 in
theorem kX0_copyFrom_62_13 (l : Launch) (D : va_G) (q : Nat → Nat) (cA : Nat → ClassId) (I R : Nat → Nat → Int32) (J : Nat → Nat → Int64)   : zMv l D vwCl (zXtys cA) 81 q (zXd q cA) yX0_copyFrom cX0_copyFrom 2 none ({ frames := 1, cells := 0, slots := 0, locals := 64 } : Room) [.ref (q 62), .ref (q 13)] (I, R, J) (fun _ => True) := by
  intro sz
  refine z_body (by decide +kernel) (Nat.le_of_ble_eq_true rfl) (fun p e s m below meth c ls hx hb hml hr ht hown hlocks hsz hK hP hD hS hl => ?_)
  have hA : ∀ a, s.heap.size ≤ a → zA 81 q sz a := fun a h => Or.inr (hsz ▸ h)
  have hl : lv_has ls 2 [(0, .ref (q 62)), (1, .ref (q 13))] := hl
  refine lv_aload_n hx hb dX0_copyFrom_0 rfl (lv_at hl 0 rfl) ?_
  refine lv_aload_n hx hb dX0_copyFrom_1 rfl (lv_at hl 1 rfl) ?_
  refine z_get hx hb ht hown hK hP ziX0 rfl 13 (by decide) 0 (by decide) hw_1_140 rfl (v := .int (I 13 0)) rfl dX0_copyFrom_2 ?_
  refine z_putI hx hb ht hown hK hP hD hS ziX0 tyX0 tyX0_ok nmX0 rfl 62 (by decide) 0 (by decide) hw_1_140 rfl (v := I 13 0) rfl rfl rfl (Nat.le_of_ble_eq_true rfl) rfl dX0_copyFrom_5 (fun H locs hP hD hS => ?_)
  refine lv_aload_n hx hb dX0_copyFrom_8 rfl (lv_at hl 1 rfl) ?_
  refine z_get hx hb ht hown hK hP ziX0 rfl 13 (by decide) 1 (by decide) hw_1_142 rfl (v := .ref (q 14)) rfl dX0_copyFrom_9 ?_
  refine lv_iconst (v := nI 0) hx hb dX0_copyFrom_12 (by decide +kernel) ?_
  refine lv_aload_n hx hb dX0_copyFrom_13 rfl (lv_at hl 0 rfl) ?_
  refine z_get hx hb ht hown hK hP ziX0 rfl 62 (by decide) 1 (by decide) hw_1_142 rfl (v := .ref (q 63)) rfl dX0_copyFrom_14 ?_
  refine lv_iconst (v := nI 0) hx hb dX0_copyFrom_17 (by decide +kernel) ?_
  refine lv_sipush (v := nI 240) hx hb dX0_copyFrom_18 (by decide +kernel) ?_
  refine z_copyi hx hb (hml.trans hl.1.symm) ht hown hw_5_149 ⟨hw_3_44, hw_3_43, hw_1_18⟩ hK hP hD hS 14 63 (by decide) (by decide) 9 46 rfl (fun _ => rfl) rfl rfl (by decide +kernel) (by decide +kernel) (by decide +kernel) (by decide +kernel) (by decide +kernel) (by decide) (by decide +kernel) dX0_copyFrom_21 (fun g_1 H locs eg_1 hP hD hS => ?_)
  exact z_vret hx hb hr hlocks hP hD hS dX0_copyFrom_24 trivial
set_option maxHeartbeats 4000000 in
set_option maxRecDepth 100000 in
theorem kX0_copyFrom_70_13 (l : Launch) (D : va_G) (q : Nat → Nat) (cA : Nat → ClassId) (I R : Nat → Nat → Int32) (J : Nat → Nat → Int64)   : zMv l D vwCl (zXtys cA) 81 q (zXd q cA) yX0_copyFrom cX0_copyFrom 2 none ({ frames := 1, cells := 0, slots := 0, locals := 64 } : Room) [.ref (q 70), .ref (q 13)] (I, R, J) (fun _ => True) := by
  intro sz
  refine z_body (by decide +kernel) (Nat.le_of_ble_eq_true rfl) (fun p e s m below meth c ls hx hb hml hr ht hown hlocks hsz hK hP hD hS hl => ?_)
  have hA : ∀ a, s.heap.size ≤ a → zA 81 q sz a := fun a h => Or.inr (hsz ▸ h)
  have hl : lv_has ls 2 [(0, .ref (q 70)), (1, .ref (q 13))] := hl
  refine lv_aload_n hx hb dX0_copyFrom_0 rfl (lv_at hl 0 rfl) ?_
  refine lv_aload_n hx hb dX0_copyFrom_1 rfl (lv_at hl 1 rfl) ?_
  refine z_get hx hb ht hown hK hP ziX0 rfl 13 (by decide) 0 (by decide) hw_1_140 rfl (v := .int (I 13 0)) rfl dX0_copyFrom_2 ?_
  refine z_putI hx hb ht hown hK hP hD hS ziX0 tyX0 tyX0_ok nmX0 rfl 70 (by decide) 0 (by decide) hw_1_140 rfl (v := I 13 0) rfl rfl rfl (Nat.le_of_ble_eq_true rfl) rfl dX0_copyFrom_5 (fun H locs hP hD hS => ?_)
  refine lv_aload_n hx hb dX0_copyFrom_8 rfl (lv_at hl 1 rfl) ?_
  refine z_get hx hb ht hown hK hP ziX0 rfl 13 (by decide) 1 (by decide) hw_1_142 rfl (v := .ref (q 14)) rfl dX0_copyFrom_9 ?_
  refine lv_iconst (v := nI 0) hx hb dX0_copyFrom_12 (by decide +kernel) ?_
  refine lv_aload_n hx hb dX0_copyFrom_13 rfl (lv_at hl 0 rfl) ?_
  refine z_get hx hb ht hown hK hP ziX0 rfl 70 (by decide) 1 (by decide) hw_1_142 rfl (v := .ref (q 71)) rfl dX0_copyFrom_14 ?_
  refine lv_iconst (v := nI 0) hx hb dX0_copyFrom_17 (by decide +kernel) ?_
  refine lv_sipush (v := nI 240) hx hb dX0_copyFrom_18 (by decide +kernel) ?_
  refine z_copyi hx hb (hml.trans hl.1.symm) ht hown hw_5_149 ⟨hw_3_44, hw_3_43, hw_1_18⟩ hK hP hD hS 14 71 (by decide) (by decide) 9 51 rfl (fun _ => rfl) rfl rfl (by decide +kernel) (by decide +kernel) (by decide +kernel) (by decide +kernel) (by decide +kernel) (by decide) (by decide +kernel) dX0_copyFrom_21 (fun g_1 H locs eg_1 hP hD hS => ?_)
  exact z_vret hx hb hr hlocks hP hD hS dX0_copyFrom_24 trivial
set_option maxHeartbeats 4000000 in
set_option maxRecDepth 100000 in
theorem kX10_image (l : Launch) (D : va_G) (q : Nat → Nat) (cA : Nat → ClassId)  (x : Int32)  : zMi l D vwCl (zXtys cA) 81 q (zXd q cA) yX10_image cX10_image 3 (some .int) ({ frames := 2, cells := 0, slots := 0, locals := 85 } : Room) [.ref (q 0), .int (x)] (zXI0, zXR0, zXJ0) (fun r _ => (0 ≤ x.toInt ∧ x.toInt ≤ 2 ∧ r = nI 0) ∨ ((x.toInt < 0 ∨ 2 < x.toInt) ∧ r = (-2))) := by
  intro sz
  refine z_body (by decide +kernel) (Nat.le_of_ble_eq_true rfl) (fun p e s m below meth c ls hx hb hml hr ht hown hlocks hsz hK hP hD hS hl => ?_)
  have hA : ∀ a, s.heap.size ≤ a → zA 81 q sz a := fun a h => Or.inr (hsz ▸ h)
  have hl : lv_has ls 3 [(0, .ref (q 0)), (1, .int (x))] := hl
  refine lv_iload_n hx hb dX10_image_0 rfl (lv_at hl 1 rfl) ?_
  refine lv_if_lt (tgt := 9) hx hb dX10_image_1 (by decide) (fun c_1 => ?_) (fun c_1 => ?_)
  · have kc_1_1 : (nI 0 : Int32).toInt = 0 := by decide +kernel
    have kc_1_2 : (0 : Int32).toInt = 0 := by decide +kernel
    have t_c_1 := z_ltT c_1
    refine lv_bipush (v := (-2)) hx hb dX10_image_9 (by decide +kernel) ?_
    exact z_iret (v := (-2)) hx hb hr hlocks hP hD hS dX10_image_11 (Or.inr ⟨by omega, rfl⟩)
  · have kc_1_1 : (nI 0 : Int32).toInt = 0 := by decide +kernel
    have kc_1_2 : (0 : Int32).toInt = 0 := by decide +kernel
    have t_c_1 := z_ltF c_1
    refine lv_iload_n hx hb dX10_image_4 rfl (lv_at hl 1 rfl) ?_
    refine lv_iconst (v := nI 3) hx hb dX10_image_5 (by decide +kernel) ?_
    refine lv_icmp_lt (tgt := 12) hx hb dX10_image_6 (by decide) (fun c_2 => ?_) (fun c_2 => ?_)
    · have kc_2_1 : (nI 3 : Int32).toInt = 3 := by decide +kernel
      have t_c_2 := z_ltT c_2
      refine lv_aload_n hx hb dX10_image_12 rfl (lv_at hl 0 rfl) ?_
      refine z_get hx hb ht hown hK hP ziX10 rfl 0 (by decide) 10 (by decide) hw_2_103 rfl (v := .ref (q 47)) rfl dX10_image_13 ?_
      refine lv_iload_n hx hb dX10_image_16 rfl (lv_at hl 1 rfl) ?_
      obtain ⟨n_3, hn_3, rfl⟩ := z_ex (x := x) (N := 3) (by omega) (by omega)
      rcases (show n_3 = 0 ∨ n_3 = 1 ∨ n_3 = 2 by omega) with rfl | rfl | rfl
      · refine va_aldq hx hb hK hP 47 36 (zw_at (by decide) rfl) rfl (vp_in_nI (by decide) (by decide)) dX10_image_17 ?_
        refine W.eq (g2 := F0 m 18 ls (.ref (q 48) :: [])) rfl ?_
        refine lv_astore_n (lv' := [(2, .ref (q 48)), (0, .ref (q 0)), (1, .int (nI 0))]) hx hb dX10_image_18 rfl hl (by decide) rfl (fun ls hl => ?_)
        refine lv_aload_n hx hb dX10_image_19 rfl (lv_at hl 0 rfl) ?_
        refine lv_iconst (v := nI 1) hx hb dX10_image_20 (by decide +kernel) ?_
        refine z_putI hx hb ht hown hK hP hD hS ziX5 tyX5 tyX5_ok nmX5 rfl 48 (by decide) 0 (by decide) hw_2_60 rfl (v := nI 1) (by decide +kernel) (by decide +kernel) rfl (Nat.le_of_ble_eq_true rfl) rfl dX10_image_21 (fun H locs hP hD hS => ?_)
        refine lv_aload_n hx hb dX10_image_24 rfl (lv_at hl 0 rfl) ?_
        refine z_get hx hb ht hown hK hP ziX5 rfl 48 (by decide) 1 (by decide) hw_2_62 rfl (v := .ref (q 49)) rfl dX10_image_25 ?_
        refine lv_aload_n hx hb dX10_image_28 rfl (lv_at hl 1 rfl) ?_
        refine z_get hx hb ht hown hK hP ziX10 rfl 0 (by decide) 1 (by decide) hw_2_94 rfl (v := .ref (q 3)) rfl dX10_image_29 ?_
        refine z_callVv (k := 49) (As := [.ref (q 3)]) (rest := []) hx hb hml hown ht (kX2_copyFrom_49_3 l D q cA (zp zXI0 48 0 (nI 1)) _ _ ) hw_3_38 hmX2_copyFrom ⟨rfl, rfl⟩ (na := 1) rfl (by decide +kernel) (by decide) (by decide) rfl rfl hK hP hD hS hA hl.1 rfl (Nat.le_of_ble_eq_true rfl) ⟨Nat.zero_le _, Nat.zero_le _⟩ dX10_image_32 (fun I_4 R_4 J_4 H locs hp_4 hP hD hS _ _ => ?_)
        refine lv_aload_n hx hb dX10_image_35 rfl (lv_at hl 0 rfl) ?_
        refine z_get hx hb ht hown hK hP ziX5 rfl 48 (by decide) 2 (by decide) hw_2_64 rfl (v := .ref (q 54)) rfl dX10_image_36 ?_
        refine lv_aload_n hx hb dX10_image_39 rfl (lv_at hl 1 rfl) ?_
        refine z_get hx hb ht hown hK hP ziX10 rfl 0 (by decide) 3 (by decide) hw_2_96 rfl (v := .ref (q 13)) rfl dX10_image_40 ?_
        refine z_callVv (k := 54) (As := [.ref (q 13)]) (rest := []) hx hb hml hown ht (kX0_copyFrom_54_13 l D q cA I_4 _ _ ) hw_5_145 hmX0_copyFrom ⟨rfl, rfl⟩ (na := 1) rfl (by decide +kernel) (by decide) (by decide) rfl rfl hK hP hD hS hA hl.1 rfl (Nat.le_of_ble_eq_true rfl) ⟨Nat.zero_le _, Nat.zero_le _⟩ dX10_image_43 (fun I_5 R_5 J_5 H locs hp_5 hP hD hS _ _ => ?_)
        refine lv_iconst (v := nI 0) hx hb dX10_image_46 (by decide +kernel) ?_
        exact z_iret (v := nI 0) hx hb hr hlocks hP hD hS dX10_image_47 (Or.inl ⟨by omega, by omega, rfl⟩)
      · refine va_aldq hx hb hK hP 47 36 (zw_at (by decide) rfl) rfl (vp_in_nI (by decide) (by decide)) dX10_image_17 ?_
        refine W.eq (g2 := F0 m 18 ls (.ref (q 56) :: [])) rfl ?_
        refine lv_astore_n (lv' := [(2, .ref (q 56)), (0, .ref (q 0)), (1, .int (nI 1))]) hx hb dX10_image_18 rfl hl (by decide) rfl (fun ls hl => ?_)
        refine lv_aload_n hx hb dX10_image_19 rfl (lv_at hl 0 rfl) ?_
        refine lv_iconst (v := nI 1) hx hb dX10_image_20 (by decide +kernel) ?_
        refine z_putI hx hb ht hown hK hP hD hS ziX5 tyX5 tyX5_ok nmX5 rfl 56 (by decide) 0 (by decide) hw_2_60 rfl (v := nI 1) (by decide +kernel) (by decide +kernel) rfl (Nat.le_of_ble_eq_true rfl) rfl dX10_image_21 (fun H locs hP hD hS => ?_)
        refine lv_aload_n hx hb dX10_image_24 rfl (lv_at hl 0 rfl) ?_
        refine z_get hx hb ht hown hK hP ziX5 rfl 56 (by decide) 1 (by decide) hw_2_62 rfl (v := .ref (q 57)) rfl dX10_image_25 ?_
        refine lv_aload_n hx hb dX10_image_28 rfl (lv_at hl 1 rfl) ?_
        refine z_get hx hb ht hown hK hP ziX10 rfl 0 (by decide) 1 (by decide) hw_2_94 rfl (v := .ref (q 3)) rfl dX10_image_29 ?_
        refine z_callVv (k := 57) (As := [.ref (q 3)]) (rest := []) hx hb hml hown ht (kX2_copyFrom_57_3 l D q cA (zp zXI0 56 0 (nI 1)) _ _ ) hw_3_38 hmX2_copyFrom ⟨rfl, rfl⟩ (na := 1) rfl (by decide +kernel) (by decide) (by decide) rfl rfl hK hP hD hS hA hl.1 rfl (Nat.le_of_ble_eq_true rfl) ⟨Nat.zero_le _, Nat.zero_le _⟩ dX10_image_32 (fun I_6 R_6 J_6 H locs hp_6 hP hD hS _ _ => ?_)
        refine lv_aload_n hx hb dX10_image_35 rfl (lv_at hl 0 rfl) ?_
        refine z_get hx hb ht hown hK hP ziX5 rfl 56 (by decide) 2 (by decide) hw_2_64 rfl (v := .ref (q 62)) rfl dX10_image_36 ?_
        refine lv_aload_n hx hb dX10_image_39 rfl (lv_at hl 1 rfl) ?_
        refine z_get hx hb ht hown hK hP ziX10 rfl 0 (by decide) 3 (by decide) hw_2_96 rfl (v := .ref (q 13)) rfl dX10_image_40 ?_
        refine z_callVv (k := 62) (As := [.ref (q 13)]) (rest := []) hx hb hml hown ht (kX0_copyFrom_62_13 l D q cA I_6 _ _ ) hw_5_145 hmX0_copyFrom ⟨rfl, rfl⟩ (na := 1) rfl (by decide +kernel) (by decide) (by decide) rfl rfl hK hP hD hS hA hl.1 rfl (Nat.le_of_ble_eq_true rfl) ⟨Nat.zero_le _, Nat.zero_le _⟩ dX10_image_43 (fun I_7 R_7 J_7 H locs hp_7 hP hD hS _ _ => ?_)
        refine lv_iconst (v := nI 0) hx hb dX10_image_46 (by decide +kernel) ?_
        exact z_iret (v := nI 0) hx hb hr hlocks hP hD hS dX10_image_47 (Or.inl ⟨by omega, by omega, rfl⟩)
      · refine va_aldq hx hb hK hP 47 36 (zw_at (by decide) rfl) rfl (vp_in_nI (by decide) (by decide)) dX10_image_17 ?_
        refine W.eq (g2 := F0 m 18 ls (.ref (q 64) :: [])) rfl ?_
        refine lv_astore_n (lv' := [(2, .ref (q 64)), (0, .ref (q 0)), (1, .int (nI 2))]) hx hb dX10_image_18 rfl hl (by decide) rfl (fun ls hl => ?_)
        refine lv_aload_n hx hb dX10_image_19 rfl (lv_at hl 0 rfl) ?_
        refine lv_iconst (v := nI 1) hx hb dX10_image_20 (by decide +kernel) ?_
        refine z_putI hx hb ht hown hK hP hD hS ziX5 tyX5 tyX5_ok nmX5 rfl 64 (by decide) 0 (by decide) hw_2_60 rfl (v := nI 1) (by decide +kernel) (by decide +kernel) rfl (Nat.le_of_ble_eq_true rfl) rfl dX10_image_21 (fun H locs hP hD hS => ?_)
        refine lv_aload_n hx hb dX10_image_24 rfl (lv_at hl 0 rfl) ?_
        refine z_get hx hb ht hown hK hP ziX5 rfl 64 (by decide) 1 (by decide) hw_2_62 rfl (v := .ref (q 65)) rfl dX10_image_25 ?_
        refine lv_aload_n hx hb dX10_image_28 rfl (lv_at hl 1 rfl) ?_
        refine z_get hx hb ht hown hK hP ziX10 rfl 0 (by decide) 1 (by decide) hw_2_94 rfl (v := .ref (q 3)) rfl dX10_image_29 ?_
        refine z_callVv (k := 65) (As := [.ref (q 3)]) (rest := []) hx hb hml hown ht (kX2_copyFrom_65_3 l D q cA (zp zXI0 64 0 (nI 1)) _ _ ) hw_3_38 hmX2_copyFrom ⟨rfl, rfl⟩ (na := 1) rfl (by decide +kernel) (by decide) (by decide) rfl rfl hK hP hD hS hA hl.1 rfl (Nat.le_of_ble_eq_true rfl) ⟨Nat.zero_le _, Nat.zero_le _⟩ dX10_image_32 (fun I_8 R_8 J_8 H locs hp_8 hP hD hS _ _ => ?_)
        refine lv_aload_n hx hb dX10_image_35 rfl (lv_at hl 0 rfl) ?_
        refine z_get hx hb ht hown hK hP ziX5 rfl 64 (by decide) 2 (by decide) hw_2_64 rfl (v := .ref (q 70)) rfl dX10_image_36 ?_
        refine lv_aload_n hx hb dX10_image_39 rfl (lv_at hl 1 rfl) ?_
        refine z_get hx hb ht hown hK hP ziX10 rfl 0 (by decide) 3 (by decide) hw_2_96 rfl (v := .ref (q 13)) rfl dX10_image_40 ?_
        refine z_callVv (k := 70) (As := [.ref (q 13)]) (rest := []) hx hb hml hown ht (kX0_copyFrom_70_13 l D q cA I_8 _ _ ) hw_5_145 hmX0_copyFrom ⟨rfl, rfl⟩ (na := 1) rfl (by decide +kernel) (by decide) (by decide) rfl rfl hK hP hD hS hA hl.1 rfl (Nat.le_of_ble_eq_true rfl) ⟨Nat.zero_le _, Nat.zero_le _⟩ dX10_image_43 (fun I_9 R_9 J_9 H locs hp_9 hP hD hS _ _ => ?_)
        refine lv_iconst (v := nI 0) hx hb dX10_image_46 (by decide +kernel) ?_
        exact z_iret (v := nI 0) hx hb hr hlocks hP hD hS dX10_image_47 (Or.inl ⟨by omega, by omega, rfl⟩)
    · have kc_2_1 : (nI 3 : Int32).toInt = 3 := by decide +kernel
      have t_c_2 := z_ltF c_2
      refine lv_bipush (v := (-2)) hx hb dX10_image_9 (by decide +kernel) ?_
      exact z_iret (v := (-2)) hx hb hr hlocks hP hD hS dX10_image_11 (Or.inr ⟨by omega, rfl⟩)
set_option maxHeartbeats 4000000 in
set_option maxRecDepth 100000 in
theorem kX2_clear (l : Launch) (D : va_G) (q : Nat → Nat) (cA : Nat → ClassId) (I R : Nat → Nat → Int32) (J : Nat → Nat → Int64)   : zMv l D vwCl (zXtys cA) 81 q (zXd q cA) yX2_clear cX2_clear 1 none ({ frames := 1, cells := 0, slots := 0, locals := 23 } : Room) [.ref (q 8)] (I, R, J) (fun u => u.1 8 0 = nI 0 ∧ u.1 1 = I 1) := by
  intro sz
  refine z_body (by decide +kernel) (Nat.le_of_ble_eq_true rfl) (fun p e s m below meth c ls hx hb hml hr ht hown hlocks hsz hK hP hD hS hl => ?_)
  have hA : ∀ a, s.heap.size ≤ a → zA 81 q sz a := fun a h => Or.inr (hsz ▸ h)
  have hl : lv_has ls 1 [(0, .ref (q 8))] := hl
  refine lv_aload_n hx hb dX2_clear_0 rfl (lv_at hl 0 rfl) ?_
  refine lv_iconst (v := nI 0) hx hb dX2_clear_1 (by decide +kernel) ?_
  refine z_putI hx hb ht hown hK hP hD hS ziX2 tyX2 tyX2_ok nmX2 rfl 8 (by decide) 0 (by decide) hw_1_67 rfl (v := nI 0) rfl rfl rfl (Nat.le_of_ble_eq_true rfl) rfl dX2_clear_2 (fun H locs hP hD hS => ?_)
  refine lv_aload_n hx hb dX2_clear_5 rfl (lv_at hl 0 rfl) ?_
  refine lv_iconst (v := nI 0) hx hb dX2_clear_6 (by decide +kernel) ?_
  refine z_putI hx hb ht hown hK hP hD hS ziX2 tyX2 tyX2_ok nmX2 rfl 8 (by decide) 1 (by decide) hw_1_70 rfl (v := nI 0) rfl rfl rfl (Nat.le_of_ble_eq_true rfl) rfl dX2_clear_7 (fun H locs hP hD hS => ?_)
  refine lv_aload_n hx hb dX2_clear_10 rfl (lv_at hl 0 rfl) ?_
  refine lv_iconst (v := nI 0) hx hb dX2_clear_11 (by decide +kernel) ?_
  refine z_putI hx hb ht hown hK hP hD hS ziX2 tyX2 tyX2_ok nmX2 rfl 8 (by decide) 2 (by decide) hw_1_74 rfl (v := nI 0) rfl rfl rfl (Nat.le_of_ble_eq_true rfl) rfl dX2_clear_12 (fun H locs hP hD hS => ?_)
  refine lv_aload_n hx hb dX2_clear_15 rfl (lv_at hl 0 rfl) ?_
  refine lv_iconst (v := nI 0) hx hb dX2_clear_16 (by decide +kernel) ?_
  refine z_putI hx hb ht hown hK hP hD hS ziX2 tyX2 tyX2_ok nmX2 rfl 8 (by decide) 3 (by decide) hw_1_78 rfl (v := nI 0) rfl rfl rfl (Nat.le_of_ble_eq_true rfl) rfl dX2_clear_17 (fun H locs hP hD hS => ?_)
  refine lv_aload_n hx hb dX2_clear_20 rfl (lv_at hl 0 rfl) ?_
  refine lv_iconst (v := nI 0) hx hb dX2_clear_21 (by decide +kernel) ?_
  refine z_putI hx hb ht hown hK hP hD hS ziX2 tyX2 tyX2_ok nmX2 rfl 8 (by decide) 4 (by decide) hw_1_81 rfl (v := nI 0) rfl rfl rfl (Nat.le_of_ble_eq_true rfl) rfl dX2_clear_22 (fun H locs hP hD hS => ?_)
  refine lv_aload_n hx hb dX2_clear_25 rfl (lv_at hl 0 rfl) ?_
  refine lv_iconst (v := nI 0) hx hb dX2_clear_26 (by decide +kernel) ?_
  refine z_putI hx hb ht hown hK hP hD hS ziX2 tyX2 tyX2_ok nmX2 rfl 8 (by decide) 5 (by decide) hw_1_87 rfl (v := nI 0) rfl rfl rfl (Nat.le_of_ble_eq_true rfl) rfl dX2_clear_27 (fun H locs hP hD hS => ?_)
  refine lv_aload_n hx hb dX2_clear_30 rfl (lv_at hl 0 rfl) ?_
  refine lv_iconst (v := nI 0) hx hb dX2_clear_31 (by decide +kernel) ?_
  refine z_putI hx hb ht hown hK hP hD hS ziX2 tyX2 tyX2_ok nmX2 rfl 8 (by decide) 6 (by decide) hw_1_95 rfl (v := nI 0) rfl rfl rfl (Nat.le_of_ble_eq_true rfl) rfl dX2_clear_32 (fun H locs hP hD hS => ?_)
  refine lv_aload_n hx hb dX2_clear_35 rfl (lv_at hl 0 rfl) ?_
  refine z_get hx hb ht hown hK hP ziX2 rfl 8 (by decide) 10 (by decide) hw_1_109 rfl (v := .ref (q 12)) rfl dX2_clear_36 ?_
  refine lv_iconst (v := nI 0) hx hb dX2_clear_39 (by decide +kernel) ?_
  refine z_callSv (As := [.ref (q 12), .int (nI 0)]) (rest := []) hx hb hml hown ht (kJ7_fill_53178_12 l D q cA _ _ _ (nI 0)) hw_2_158 hmJ7_fill_53178 ⟨rfl, rfl⟩ (na := 2) rfl (by decide +kernel) (by decide) hK hP hD hS hA hl.1 rfl (Nat.le_of_ble_eq_true rfl) ⟨Nat.zero_le _, Nat.zero_le _⟩ dX2_clear_40 (fun I_1 R_1 J_1 H locs hp_1 hP hD hS _ _ => ?_)
  obtain ⟨g_1, hu_1⟩ := hp_1
  cases hu_1
  exact z_vret hx hb hr hlocks hP hD hS dX2_clear_43 ⟨rfl, rfl⟩
set_option maxHeartbeats 4000000 in
set_option maxRecDepth 100000 in
theorem kX7_step (l : Launch) (D : va_G) (q : Nat → Nat) (cA : Nat → ClassId) (I R : Nat → Nat → Int32) (J : Nat → Nat → Int64)  (hl1 : I 1 1 = nI 0) (hb6 : I 1 6 = nI 0) : zMv l D vwCl (zXtys cA) 81 q (zXd q cA) yX7_step cX7_step 1 none ({ frames := 0, cells := 0, slots := 0, locals := 0 } : Room) [.ref (q 1)] (I, R, J) (fun u => u.1 1 4 = nI 0 ∧ u.1 1 2 = I 1 2 ∧ u.1 8 = I 8) := by
  intro sz
  refine z_body (by decide +kernel) (Nat.le_of_ble_eq_true rfl) (fun p e s m below meth c ls hx hb hml hr ht hown hlocks hsz hK hP hD hS hl => ?_)
  have hA : ∀ a, s.heap.size ≤ a → zA 81 q sz a := fun a h => Or.inr (hsz ▸ h)
  have hl : lv_has ls 1 [(0, .ref (q 1))] := hl
  refine lv_aload_n hx hb dX7_step_0 rfl (lv_at hl 0 rfl) ?_
  refine z_get hx hb ht hown hK hP ziX7 rfl 1 (by decide) 6 (by decide) hw_1_44 rfl (v := .int (I 1 6)) rfl dX7_step_1 ?_
  refine z_eqi (y := nI 0) hb6 ?_
  refine lv_aload_n hx hb dX7_step_4 rfl (lv_at hl 0 rfl) ?_
  refine z_get hx hb ht hown hK hP ziX7 rfl 1 (by decide) 1 (by decide) hw_1_36 rfl (v := .int (I 1 1)) rfl dX7_step_5 ?_
  refine z_eqi (y := nI 0) hl1 ?_
  refine lv_icmp_ge (tgt := 39) hx hb dX7_step_8 (by decide) (fun _ => ?_) (fun c_0 => absurd (by decide +kernel) c_0)
  refine lv_aload_n hx hb dX7_step_39 rfl (lv_at hl 0 rfl) ?_
  refine lv_aload_n hx hb dX7_step_40 rfl (lv_at hl 0 rfl) ?_
  refine z_get hx hb ht hown hK hP ziX7 rfl 1 (by decide) 6 (by decide) hw_1_44 rfl (v := .int (I 1 6)) rfl dX7_step_41 ?_
  refine z_eqi (y := nI 0) hb6 ?_
  refine z_putI hx hb ht hown hK hP hD hS ziX7 tyX7 tyX7_ok nmX7 rfl 1 (by decide) 5 (by decide) hw_1_43 rfl (v := nI 0) rfl rfl rfl (Nat.le_of_ble_eq_true rfl) rfl dX7_step_44 (fun H locs hP hD hS => ?_)
  refine lv_aload_n hx hb dX7_step_47 rfl (lv_at hl 0 rfl) ?_
  refine z_get hx hb ht hown hK hP ziX7 rfl 1 (by decide) 6 (by decide) hw_1_44 rfl (v := .int (I 1 6)) rfl dX7_step_48 ?_
  refine z_eqi (y := nI 0) hb6 ?_
  refine lv_aload_n hx hb dX7_step_51 rfl (lv_at hl 0 rfl) ?_
  refine z_get hx hb ht hown hK hP ziX7 rfl 1 (by decide) 1 (by decide) hw_1_36 rfl (v := .int (I 1 1)) rfl dX7_step_52 ?_
  refine z_eqi (y := nI 0) hl1 ?_
  refine lv_icmp_lt (tgt := 66) hx hb dX7_step_55 (by decide) (fun c_0 => absurd c_0 (by decide +kernel)) (fun _ => ?_)
  refine lv_aload_n hx hb dX7_step_58 rfl (lv_at hl 0 rfl) ?_
  refine lv_iconst (v := nI 0) hx hb dX7_step_59 (by decide +kernel) ?_
  refine z_putI hx hb ht hown hK hP hD hS ziX7 tyX7 tyX7_ok nmX7 rfl 1 (by decide) 4 (by decide) hw_1_42 rfl (v := nI 0) rfl rfl rfl (Nat.le_of_ble_eq_true rfl) rfl dX7_step_60 (fun H locs hP hD hS => ?_)
  refine lv_goto (tgt := 217) hx hb dX7_step_63 (by decide) ?_
  exact z_vret hx hb hr hlocks hP hD hS dX7_step_217 ⟨rfl, rfl, rfl⟩
set_option maxHeartbeats 4000000 in
set_option maxRecDepth 100000 in
theorem kX7_read (l : Launch) (D : va_G) (q : Nat → Nat) (cA : Nat → ClassId)    : zMi l D vwCl (zXtys cA) 81 q (zXd q cA) yX7_read cX7_read 3 (some .boolean) ({ frames := 2, cells := 0, slots := 0, locals := 43 } : Room) [.ref (q 1), .ref (q 8)] (zXI0, zXR0, zXJ0) (fun r u => r = nI 1 ∧ u.1 8 0 = nI 0) := by
  intro sz
  refine z_body (by decide +kernel) (Nat.le_of_ble_eq_true rfl) (fun p e s m below meth c ls hx hb hml hr ht hown hlocks hsz hK hP hD hS hl => ?_)
  have hA : ∀ a, s.heap.size ≤ a → zA 81 q sz a := fun a h => Or.inr (hsz ▸ h)
  have hl : lv_has ls 3 [(0, .ref (q 1)), (1, .ref (q 8))] := hl
  refine lv_aload_n hx hb dX7_read_0 rfl (lv_at hl 1 rfl) ?_
  refine z_callVv (k := 8) (As := []) (rest := []) hx hb hml hown ht (kX2_clear l D q cA _ _ _) hw_2_154 hmX2_clear ⟨rfl, rfl⟩ (na := 0) rfl (by decide +kernel) (by decide) (by decide) rfl rfl hK hP hD hS hA hl.1 rfl (Nat.le_of_ble_eq_true rfl) ⟨Nat.zero_le _, Nat.zero_le _⟩ dX7_read_1 (fun I_1 R_1 J_1 H locs hp_1 hP hD hS _ _ => ?_)
  obtain ⟨ha_1, hb_1⟩ := hp_1
  dsimp only at ha_1 hb_1
  refine lv_aload_n hx hb dX7_read_4 rfl (lv_at hl 0 rfl) ?_
  refine lv_iconst (v := nI 0) hx hb dX7_read_5 (by decide +kernel) ?_
  refine z_putI hx hb ht hown hK hP hD hS ziX7 tyX7 tyX7_ok nmX7 rfl 1 (by decide) 2 (by decide) hw_1_38 rfl (v := nI 0) rfl rfl rfl (Nat.le_of_ble_eq_true rfl) rfl dX7_read_6 (fun H locs hP hD hS => ?_)
  refine lv_aload_n hx hb dX7_read_9 rfl (lv_at hl 0 rfl) ?_
  refine lv_iconst (v := (-1)) hx hb dX7_read_10 (by decide +kernel) ?_
  refine z_putI hx hb ht hown hK hP hD hS ziX7 tyX7 tyX7_ok nmX7 rfl 1 (by decide) 3 (by decide) hw_1_40 rfl (v := (-1)) rfl rfl rfl (Nat.le_of_ble_eq_true rfl) rfl dX7_read_11 (fun H locs hP hD hS => ?_)
  refine lv_aload_n hx hb dX7_read_14 rfl (lv_at hl 0 rfl) ?_
  refine lv_iconst (v := nI 0) hx hb dX7_read_15 (by decide +kernel) ?_
  refine z_putI hx hb ht hown hK hP hD hS ziX7 tyX7 tyX7_ok nmX7 rfl 1 (by decide) 6 (by decide) hw_1_44 rfl (v := nI 0) rfl rfl rfl (Nat.le_of_ble_eq_true rfl) rfl dX7_read_16 (fun H locs hP hD hS => ?_)
  refine lv_aload_n hx hb dX7_read_19 rfl (lv_at hl 0 rfl) ?_
  refine z_callVv (k := 1) (As := []) (rest := []) hx hb hml hown ht (kX7_step l D q cA (zp (zp (zp I_1 1 2 (nI 0)) 1 3 ((-1))) 1 6 (nI 0)) _ _ (congrFun hb_1 1) rfl) hw_2_161 hmX7_step ⟨rfl, rfl⟩ (na := 0) rfl (by decide +kernel) (by decide) (by decide) rfl rfl hK hP hD hS hA hl.1 rfl (Nat.le_of_ble_eq_true rfl) ⟨Nat.zero_le _, Nat.zero_le _⟩ dX7_read_20 (fun I_2 R_2 J_2 H locs hp_2 hP hD hS _ _ => ?_)
  obtain ⟨ha_2, hb_2, hc_2⟩ := hp_2
  dsimp only at ha_2 hb_2 hc_2
  refine lv_iconst (v := nI 0) hx hb dX7_read_23 (by decide +kernel) ?_
  refine lv_istore_n (lv' := [(2, .int (nI 0)), (0, .ref (q 1)), (1, .ref (q 8))]) hx hb dX7_read_24 rfl hl (by decide) rfl (fun ls hl => ?_)
  refine lv_iload_n hx hb dX7_read_25 rfl (lv_at hl 0 rfl) ?_
  refine lv_sipush (v := nI 800) hx hb dX7_read_26 (by decide +kernel) ?_
  refine lv_icmp_ge (tgt := 57) hx hb dX7_read_29 (by decide) (fun c_0 => absurd c_0 (by decide +kernel)) (fun _ => ?_)
  refine lv_aload_n hx hb dX7_read_32 rfl (lv_at hl 1 rfl) ?_
  refine z_get hx hb ht hown hK hP ziX7 rfl 1 (by decide) 4 (by decide) hw_1_42 rfl (v := .int (I_2 1 4)) rfl dX7_read_33 ?_
  refine z_eqi (y := nI 0) ha_2 ?_
  refine lv_if_eq (tgt := 57) hx hb dX7_read_36 (by decide) (fun _ => ?_) (fun c_0 => absurd (by decide +kernel) c_0)
  refine lv_aload_n hx hb dX7_read_57 rfl (lv_at hl 1 rfl) ?_
  refine z_get hx hb ht hown hK hP ziX7 rfl 1 (by decide) 2 (by decide) hw_1_38 rfl (v := .int (I_2 1 2)) rfl dX7_read_58 ?_
  refine z_eqi (y := nI 0) hb_2 ?_
  refine lv_if_ne (tgt := 68) hx hb dX7_read_61 (by decide) (fun c_0 => absurd (by decide +kernel) c_0) (fun _ => ?_)
  refine lv_iconst (v := nI 1) hx hb dX7_read_64 (by decide +kernel) ?_
  refine lv_goto (tgt := 69) hx hb dX7_read_65 (by decide) ?_
  exact z_zret (v := nI 1) hx hb hr hlocks hP hD hS (by decide +kernel) dX7_read_69 ⟨rfl, ((congrFun hc_2 0).trans ha_1)⟩
set_option maxHeartbeats 4000000 in
set_option maxRecDepth 100000 in
theorem kX9_begin (l : Launch) (D : va_G) (q : Nat → Nat) (cA : Nat → ClassId) (I R : Nat → Nat → Int32) (J : Nat → Nat → Int64)   : zMv l D vwCl (zXtys cA) 81 q (zXd q cA) yX9_begin cX9_begin 2 none ({ frames := 1, cells := 0, slots := 0, locals := 64 } : Room) [.ref (q 15)] (I, R, J) (fun u => u.1 3 0 = I 3 0) := by
  intro sz
  refine z_body (by decide +kernel) (Nat.le_of_ble_eq_true rfl) (fun p e s m below meth c ls hx hb hml hr ht hown hlocks hsz hK hP hD hS hl => ?_)
  have hA : ∀ a, s.heap.size ≤ a → zA 81 q sz a := fun a h => Or.inr (hsz ▸ h)
  have hl : lv_has ls 2 [(0, .ref (q 15))] := hl
  refine lv_aload_n hx hb dX9_begin_0 rfl (lv_at hl 0 rfl) ?_
  refine lv_iconst (v := nI 0) hx hb dX9_begin_1 (by decide +kernel) ?_
  refine z_putI hx hb ht hown hK hP hD hS ziX9 tyX9 tyX9_ok nmX9 rfl 15 (by decide) 1 (by decide) hw_1_157 rfl (v := nI 0) rfl rfl rfl (Nat.le_of_ble_eq_true rfl) rfl dX9_begin_2 (fun H locs hP hD hS => ?_)
  refine lv_aload_n hx hb dX9_begin_5 rfl (lv_at hl 0 rfl) ?_
  refine lv_iconst (v := nI 0) hx hb dX9_begin_6 (by decide +kernel) ?_
  refine z_putI hx hb ht hown hK hP hD hS ziX9 tyX9 tyX9_ok nmX9 rfl 15 (by decide) 2 (by decide) hw_1_159 rfl (v := nI 0) rfl rfl rfl (Nat.le_of_ble_eq_true rfl) rfl dX9_begin_7 (fun H locs hP hD hS => ?_)
  refine lv_aload_n hx hb dX9_begin_10 rfl (lv_at hl 0 rfl) ?_
  refine lv_aload_n hx hb dX9_begin_11 rfl (lv_at hl 0 rfl) ?_
  refine z_get hx hb ht hown hK hP ziX9 rfl 15 (by decide) 0 (by decide) hw_1_154 rfl (v := .ref (q 3)) rfl dX9_begin_12 ?_
  refine z_get hx hb ht hown hK hP ziX2 rfl 3 (by decide) 6 (by decide) hw_1_94 rfl (v := .int ((zp (zp I 15 1 (nI 0)) 15 2 (nI 0)) 3 6)) rfl dX9_begin_15 ?_
  refine z_putI hx hb ht hown hK hP hD hS ziX9 tyX9 tyX9_ok nmX9 rfl 15 (by decide) 3 (by decide) hw_1_163 rfl (v := (zp (zp I 15 1 (nI 0)) 15 2 (nI 0)) 3 6) rfl rfl rfl (Nat.le_of_ble_eq_true rfl) rfl dX9_begin_18 (fun H locs hP hD hS => ?_)
  refine lv_aload_n hx hb dX9_begin_21 rfl (lv_at hl 0 rfl) ?_
  refine z_get hx hb ht hown hK hP ziX9 rfl 15 (by decide) 0 (by decide) hw_1_154 rfl (v := .ref (q 3)) rfl dX9_begin_22 ?_
  refine z_get hx hb ht hown hK hP ziX2 rfl 3 (by decide) 7 (by decide) hw_1_98 rfl (v := .ref (q 4)) rfl dX9_begin_25 ?_
  refine lv_iconst (v := nI 0) hx hb dX9_begin_28 (by decide +kernel) ?_
  refine lv_aload_n hx hb dX9_begin_29 rfl (lv_at hl 0 rfl) ?_
  refine z_get hx hb ht hown hK hP ziX9 rfl 15 (by decide) 4 (by decide) hw_1_164 rfl (v := .ref (q 16)) rfl dX9_begin_30 ?_
  refine lv_iconst (v := nI 0) hx hb dX9_begin_33 (by decide +kernel) ?_
  refine lv_iconst (v := nI 5) hx hb dX9_begin_34 (by decide +kernel) ?_
  refine z_copyi hx hb (hml.trans hl.1.symm) ht hown hw_3_49 ⟨hw_3_44, hw_3_43, hw_1_18⟩ hK hP hD hS 4 16 (by decide) (by decide) 1 10 rfl (fun _ => rfl) rfl rfl (by decide +kernel) (by decide +kernel) (by decide +kernel) (by decide +kernel) (by decide +kernel) (by decide) (by decide +kernel) dX9_begin_35 (fun g_1 H locs eg_1 hP hD hS => ?_)
  refine lv_aload_n hx hb dX9_begin_38 rfl (lv_at hl 0 rfl) ?_
  refine z_get hx hb ht hown hK hP ziX9 rfl 15 (by decide) 0 (by decide) hw_1_154 rfl (v := .ref (q 3)) rfl dX9_begin_39 ?_
  refine z_get hx hb ht hown hK hP ziX2 rfl 3 (by decide) 8 (by decide) hw_1_101 rfl (v := .ref (q 5)) rfl dX9_begin_42 ?_
  refine lv_iconst (v := nI 0) hx hb dX9_begin_45 (by decide +kernel) ?_
  refine lv_aload_n hx hb dX9_begin_46 rfl (lv_at hl 0 rfl) ?_
  refine z_get hx hb ht hown hK hP ziX9 rfl 15 (by decide) 5 (by decide) hw_1_166 rfl (v := .ref (q 17)) rfl dX9_begin_47 ?_
  refine lv_iconst (v := nI 0) hx hb dX9_begin_50 (by decide +kernel) ?_
  refine lv_bipush (v := nI 6) hx hb dX9_begin_51 (by decide +kernel) ?_
  refine z_copyi hx hb (hml.trans hl.1.symm) ht hown hw_3_49 ⟨hw_3_44, hw_3_43, hw_1_18⟩ hK hP hD hS 5 17 (by decide) (by decide) 2 11 rfl (fun _ => rfl) rfl rfl (by decide +kernel) (by decide +kernel) (by decide +kernel) (by decide +kernel) (by decide +kernel) (by decide) (by decide +kernel) dX9_begin_53 (fun g_2 H locs eg_2 hP hD hS => ?_)
  refine lv_aload_n hx hb dX9_begin_56 rfl (lv_at hl 0 rfl) ?_
  refine z_get hx hb ht hown hK hP ziX9 rfl 15 (by decide) 6 (by decide) hw_1_169 rfl (v := .ref (q 18)) rfl dX9_begin_57 ?_
  refine lv_iconst (v := nI 0) hx hb dX9_begin_60 (by decide +kernel) ?_
  refine z_callSv (As := [.ref (q 18), .int (nI 0)]) (rest := []) hx hb hml hown ht (kJ7_fill_53178_18 l D q cA _ _ _ (nI 0)) hw_3_50 hmJ7_fill_53178 ⟨rfl, rfl⟩ (na := 2) rfl (by decide +kernel) (by decide) hK hP hD hS hA hl.1 rfl (Nat.le_of_ble_eq_true rfl) ⟨Nat.zero_le _, Nat.zero_le _⟩ dX9_begin_61 (fun I_3 R_3 J_3 H locs hp_3 hP hD hS _ _ => ?_)
  obtain ⟨g_3, hu_3⟩ := hp_3
  cases hu_3
  refine lv_iconst (v := nI 0) hx hb dX9_begin_64 (by decide +kernel) ?_
  refine lv_istore_n (lv' := [(1, .int (nI 0)), (0, .ref (q 15))]) hx hb dX9_begin_65 rfl hl (by decide) rfl (fun ls hl => ?_)
  refine lv_iload_n hx hb dX9_begin_66 rfl (lv_at hl 0 rfl) ?_
  refine lv_bipush (v := nI 6) hx hb dX9_begin_67 (by decide +kernel) ?_
  refine lv_icmp_ge (tgt := 96) hx hb dX9_begin_69 (by decide) (fun c_0 => absurd c_0 (by decide +kernel)) (fun _ => ?_)
  refine lv_aload_n hx hb dX9_begin_72 rfl (lv_at hl 1 rfl) ?_
  refine z_get hx hb ht hown hK hP ziX9 rfl 15 (by decide) 12 (by decide) hw_1_187 rfl (v := .ref (q 24)) rfl dX9_begin_73 ?_
  refine lv_iload_n hx hb dX9_begin_76 rfl (lv_at hl 0 rfl) ?_
  refine lv_bipush (v := nI 49) hx hb dX9_begin_77 (by decide +kernel) ?_
  refine lv_imul hx hb dX9_begin_79 ?_
  refine z_eqi (y := nI 0) (by decide +kernel) ?_
  refine lv_aload_n hx hb dX9_begin_80 rfl (lv_at hl 1 rfl) ?_
  refine z_get hx hb ht hown hK hP ziX9 rfl 15 (by decide) 0 (by decide) hw_1_154 rfl (v := .ref (q 3)) rfl dX9_begin_81 ?_
  refine z_get hx hb ht hown hK hP ziX2 rfl 3 (by decide) 8 (by decide) hw_1_101 rfl (v := .ref (q 5)) rfl dX9_begin_84 ?_
  refine lv_iload_n hx hb dX9_begin_87 rfl (lv_at hl 0 rfl) ?_
  refine z_iald hx hb hK hP 5 (by decide) 2 rfl rfl (vp_in_nI (by omega) (by decide)) dX9_begin_88 ?_
  refine lv_topi (fun x_4 ex_4 => ?_)
  refine z_iast hx hb hK hP hD hS 24 (by decide) 18 (fun _ => rfl) rfl (vp_in_nI (by omega) (by decide)) dX9_begin_89 (fun H locs hP hD hS => ?_)
  refine lv_iinc (v := nI 1) (lv' := [(1, .int (nI 1)), (0, .ref (q 15))]) hx hb dX9_begin_90 hl (k := 0) rfl (by decide +kernel) (by decide) rfl (fun ls hl => ?_)
  refine lv_goto (tgt := 66) hx hb dX9_begin_93 (by decide) ?_
  refine lv_iload_n hx hb dX9_begin_66 rfl (lv_at hl 0 rfl) ?_
  refine lv_bipush (v := nI 6) hx hb dX9_begin_67 (by decide +kernel) ?_
  refine lv_icmp_ge (tgt := 96) hx hb dX9_begin_69 (by decide) (fun c_0 => absurd c_0 (by decide +kernel)) (fun _ => ?_)
  refine lv_aload_n hx hb dX9_begin_72 rfl (lv_at hl 1 rfl) ?_
  refine z_get hx hb ht hown hK hP ziX9 rfl 15 (by decide) 12 (by decide) hw_1_187 rfl (v := .ref (q 24)) rfl dX9_begin_73 ?_
  refine lv_iload_n hx hb dX9_begin_76 rfl (lv_at hl 0 rfl) ?_
  refine lv_bipush (v := nI 49) hx hb dX9_begin_77 (by decide +kernel) ?_
  refine lv_imul hx hb dX9_begin_79 ?_
  refine z_eqi (y := nI 49) (by decide +kernel) ?_
  refine lv_aload_n hx hb dX9_begin_80 rfl (lv_at hl 1 rfl) ?_
  refine z_get hx hb ht hown hK hP ziX9 rfl 15 (by decide) 0 (by decide) hw_1_154 rfl (v := .ref (q 3)) rfl dX9_begin_81 ?_
  refine z_get hx hb ht hown hK hP ziX2 rfl 3 (by decide) 8 (by decide) hw_1_101 rfl (v := .ref (q 5)) rfl dX9_begin_84 ?_
  refine lv_iload_n hx hb dX9_begin_87 rfl (lv_at hl 0 rfl) ?_
  refine z_iald hx hb hK hP 5 (by decide) 2 rfl rfl (vp_in_nI (by omega) (by decide)) dX9_begin_88 ?_
  refine lv_topi (fun x_5 ex_5 => ?_)
  refine z_iast hx hb hK hP hD hS 24 (by decide) 18 (fun _ => rfl) rfl (vp_in_nI (by omega) (by decide)) dX9_begin_89 (fun H locs hP hD hS => ?_)
  refine lv_iinc (v := nI 2) (lv' := [(1, .int (nI 2)), (0, .ref (q 15))]) hx hb dX9_begin_90 hl (k := 0) rfl (by decide +kernel) (by decide) rfl (fun ls hl => ?_)
  refine lv_goto (tgt := 66) hx hb dX9_begin_93 (by decide) ?_
  refine lv_iload_n hx hb dX9_begin_66 rfl (lv_at hl 0 rfl) ?_
  refine lv_bipush (v := nI 6) hx hb dX9_begin_67 (by decide +kernel) ?_
  refine lv_icmp_ge (tgt := 96) hx hb dX9_begin_69 (by decide) (fun c_0 => absurd c_0 (by decide +kernel)) (fun _ => ?_)
  refine lv_aload_n hx hb dX9_begin_72 rfl (lv_at hl 1 rfl) ?_
  refine z_get hx hb ht hown hK hP ziX9 rfl 15 (by decide) 12 (by decide) hw_1_187 rfl (v := .ref (q 24)) rfl dX9_begin_73 ?_
  refine lv_iload_n hx hb dX9_begin_76 rfl (lv_at hl 0 rfl) ?_
  refine lv_bipush (v := nI 49) hx hb dX9_begin_77 (by decide +kernel) ?_
  refine lv_imul hx hb dX9_begin_79 ?_
  refine z_eqi (y := nI 98) (by decide +kernel) ?_
  refine lv_aload_n hx hb dX9_begin_80 rfl (lv_at hl 1 rfl) ?_
  refine z_get hx hb ht hown hK hP ziX9 rfl 15 (by decide) 0 (by decide) hw_1_154 rfl (v := .ref (q 3)) rfl dX9_begin_81 ?_
  refine z_get hx hb ht hown hK hP ziX2 rfl 3 (by decide) 8 (by decide) hw_1_101 rfl (v := .ref (q 5)) rfl dX9_begin_84 ?_
  refine lv_iload_n hx hb dX9_begin_87 rfl (lv_at hl 0 rfl) ?_
  refine z_iald hx hb hK hP 5 (by decide) 2 rfl rfl (vp_in_nI (by omega) (by decide)) dX9_begin_88 ?_
  refine lv_topi (fun x_6 ex_6 => ?_)
  refine z_iast hx hb hK hP hD hS 24 (by decide) 18 (fun _ => rfl) rfl (vp_in_nI (by omega) (by decide)) dX9_begin_89 (fun H locs hP hD hS => ?_)
  refine lv_iinc (v := nI 3) (lv' := [(1, .int (nI 3)), (0, .ref (q 15))]) hx hb dX9_begin_90 hl (k := 0) rfl (by decide +kernel) (by decide) rfl (fun ls hl => ?_)
  refine lv_goto (tgt := 66) hx hb dX9_begin_93 (by decide) ?_
  refine lv_iload_n hx hb dX9_begin_66 rfl (lv_at hl 0 rfl) ?_
  refine lv_bipush (v := nI 6) hx hb dX9_begin_67 (by decide +kernel) ?_
  refine lv_icmp_ge (tgt := 96) hx hb dX9_begin_69 (by decide) (fun c_0 => absurd c_0 (by decide +kernel)) (fun _ => ?_)
  refine lv_aload_n hx hb dX9_begin_72 rfl (lv_at hl 1 rfl) ?_
  refine z_get hx hb ht hown hK hP ziX9 rfl 15 (by decide) 12 (by decide) hw_1_187 rfl (v := .ref (q 24)) rfl dX9_begin_73 ?_
  refine lv_iload_n hx hb dX9_begin_76 rfl (lv_at hl 0 rfl) ?_
  refine lv_bipush (v := nI 49) hx hb dX9_begin_77 (by decide +kernel) ?_
  refine lv_imul hx hb dX9_begin_79 ?_
  refine z_eqi (y := nI 147) (by decide +kernel) ?_
  refine lv_aload_n hx hb dX9_begin_80 rfl (lv_at hl 1 rfl) ?_
  refine z_get hx hb ht hown hK hP ziX9 rfl 15 (by decide) 0 (by decide) hw_1_154 rfl (v := .ref (q 3)) rfl dX9_begin_81 ?_
  refine z_get hx hb ht hown hK hP ziX2 rfl 3 (by decide) 8 (by decide) hw_1_101 rfl (v := .ref (q 5)) rfl dX9_begin_84 ?_
  refine lv_iload_n hx hb dX9_begin_87 rfl (lv_at hl 0 rfl) ?_
  refine z_iald hx hb hK hP 5 (by decide) 2 rfl rfl (vp_in_nI (by omega) (by decide)) dX9_begin_88 ?_
  refine lv_topi (fun x_7 ex_7 => ?_)
  refine z_iast hx hb hK hP hD hS 24 (by decide) 18 (fun _ => rfl) rfl (vp_in_nI (by omega) (by decide)) dX9_begin_89 (fun H locs hP hD hS => ?_)
  refine lv_iinc (v := nI 4) (lv' := [(1, .int (nI 4)), (0, .ref (q 15))]) hx hb dX9_begin_90 hl (k := 0) rfl (by decide +kernel) (by decide) rfl (fun ls hl => ?_)
  refine lv_goto (tgt := 66) hx hb dX9_begin_93 (by decide) ?_
  refine lv_iload_n hx hb dX9_begin_66 rfl (lv_at hl 0 rfl) ?_
  refine lv_bipush (v := nI 6) hx hb dX9_begin_67 (by decide +kernel) ?_
  refine lv_icmp_ge (tgt := 96) hx hb dX9_begin_69 (by decide) (fun c_0 => absurd c_0 (by decide +kernel)) (fun _ => ?_)
  refine lv_aload_n hx hb dX9_begin_72 rfl (lv_at hl 1 rfl) ?_
  refine z_get hx hb ht hown hK hP ziX9 rfl 15 (by decide) 12 (by decide) hw_1_187 rfl (v := .ref (q 24)) rfl dX9_begin_73 ?_
  refine lv_iload_n hx hb dX9_begin_76 rfl (lv_at hl 0 rfl) ?_
  refine lv_bipush (v := nI 49) hx hb dX9_begin_77 (by decide +kernel) ?_
  refine lv_imul hx hb dX9_begin_79 ?_
  refine z_eqi (y := nI 196) (by decide +kernel) ?_
  refine lv_aload_n hx hb dX9_begin_80 rfl (lv_at hl 1 rfl) ?_
  refine z_get hx hb ht hown hK hP ziX9 rfl 15 (by decide) 0 (by decide) hw_1_154 rfl (v := .ref (q 3)) rfl dX9_begin_81 ?_
  refine z_get hx hb ht hown hK hP ziX2 rfl 3 (by decide) 8 (by decide) hw_1_101 rfl (v := .ref (q 5)) rfl dX9_begin_84 ?_
  refine lv_iload_n hx hb dX9_begin_87 rfl (lv_at hl 0 rfl) ?_
  refine z_iald hx hb hK hP 5 (by decide) 2 rfl rfl (vp_in_nI (by omega) (by decide)) dX9_begin_88 ?_
  refine lv_topi (fun x_8 ex_8 => ?_)
  refine z_iast hx hb hK hP hD hS 24 (by decide) 18 (fun _ => rfl) rfl (vp_in_nI (by omega) (by decide)) dX9_begin_89 (fun H locs hP hD hS => ?_)
  refine lv_iinc (v := nI 5) (lv' := [(1, .int (nI 5)), (0, .ref (q 15))]) hx hb dX9_begin_90 hl (k := 0) rfl (by decide +kernel) (by decide) rfl (fun ls hl => ?_)
  refine lv_goto (tgt := 66) hx hb dX9_begin_93 (by decide) ?_
  refine lv_iload_n hx hb dX9_begin_66 rfl (lv_at hl 0 rfl) ?_
  refine lv_bipush (v := nI 6) hx hb dX9_begin_67 (by decide +kernel) ?_
  refine lv_icmp_ge (tgt := 96) hx hb dX9_begin_69 (by decide) (fun c_0 => absurd c_0 (by decide +kernel)) (fun _ => ?_)
  refine lv_aload_n hx hb dX9_begin_72 rfl (lv_at hl 1 rfl) ?_
  refine z_get hx hb ht hown hK hP ziX9 rfl 15 (by decide) 12 (by decide) hw_1_187 rfl (v := .ref (q 24)) rfl dX9_begin_73 ?_
  refine lv_iload_n hx hb dX9_begin_76 rfl (lv_at hl 0 rfl) ?_
  refine lv_bipush (v := nI 49) hx hb dX9_begin_77 (by decide +kernel) ?_
  refine lv_imul hx hb dX9_begin_79 ?_
  refine z_eqi (y := nI 245) (by decide +kernel) ?_
  refine lv_aload_n hx hb dX9_begin_80 rfl (lv_at hl 1 rfl) ?_
  refine z_get hx hb ht hown hK hP ziX9 rfl 15 (by decide) 0 (by decide) hw_1_154 rfl (v := .ref (q 3)) rfl dX9_begin_81 ?_
  refine z_get hx hb ht hown hK hP ziX2 rfl 3 (by decide) 8 (by decide) hw_1_101 rfl (v := .ref (q 5)) rfl dX9_begin_84 ?_
  refine lv_iload_n hx hb dX9_begin_87 rfl (lv_at hl 0 rfl) ?_
  refine z_iald hx hb hK hP 5 (by decide) 2 rfl rfl (vp_in_nI (by omega) (by decide)) dX9_begin_88 ?_
  refine lv_topi (fun x_9 ex_9 => ?_)
  refine z_iast hx hb hK hP hD hS 24 (by decide) 18 (fun _ => rfl) rfl (vp_in_nI (by omega) (by decide)) dX9_begin_89 (fun H locs hP hD hS => ?_)
  refine lv_iinc (v := nI 6) (lv' := [(1, .int (nI 6)), (0, .ref (q 15))]) hx hb dX9_begin_90 hl (k := 0) rfl (by decide +kernel) (by decide) rfl (fun ls hl => ?_)
  refine lv_goto (tgt := 66) hx hb dX9_begin_93 (by decide) ?_
  refine lv_iload_n hx hb dX9_begin_66 rfl (lv_at hl 0 rfl) ?_
  refine lv_bipush (v := nI 6) hx hb dX9_begin_67 (by decide +kernel) ?_
  refine lv_icmp_ge (tgt := 96) hx hb dX9_begin_69 (by decide) (fun _ => ?_) (fun c_0 => absurd (by decide +kernel) c_0)
  exact z_vret hx hb hr hlocks hP hD hS dX9_begin_96 rfl
set_option maxHeartbeats 4000000 in
set_option maxRecDepth 100000 in
theorem kX10_city (l : Launch) (D : va_G) (q : Nat → Nat) (cA : Nat → ClassId)    : zMi l D vwCl (zXtys cA) 81 q (zXd q cA) yX10_city cX10_city 1 (some .int) ({ frames := 3, cells := 0, slots := 0, locals := 85 } : Room) [.ref (q 0)] (zXI0, zXR0, zXJ0) (fun r _ => r = nI 0) := by
  intro sz
  refine z_body (by decide +kernel) (Nat.le_of_ble_eq_true rfl) (fun p e s m below meth c ls hx hb hml hr ht hown hlocks hsz hK hP hD hS hl => ?_)
  have hA : ∀ a, s.heap.size ≤ a → zA 81 q sz a := fun a h => Or.inr (hsz ▸ h)
  have hl : lv_has ls 1 [(0, .ref (q 0))] := hl
  refine lv_aload_n hx hb dX10_city_0 rfl (lv_at hl 0 rfl) ?_
  refine z_get hx hb ht hown hK hP ziX10 rfl 0 (by decide) 0 (by decide) hw_2_93 rfl (v := .ref (q 1)) rfl dX10_city_1 ?_
  refine lv_aload_n hx hb dX10_city_4 rfl (lv_at hl 0 rfl) ?_
  refine z_get hx hb ht hown hK hP ziX10 rfl 0 (by decide) 2 (by decide) hw_2_95 rfl (v := .ref (q 8)) rfl dX10_city_5 ?_
  refine z_callVi (k := 1) (As := [.ref (q 8)]) (rest := []) hx hb hml hown ht (kX7_read l D q cA) hw_2_150 hmX7_read ⟨rfl, rfl⟩ (na := 1) rfl (by decide +kernel) (by decide) (by decide) rfl rfl hK hP hD hS hA hl.1 rfl (Nat.le_of_ble_eq_true rfl) ⟨Nat.zero_le _, Nat.zero_le _⟩ dX10_city_8 (fun r_1 I_1 R_1 J_1 H locs hp_1 hP hD hS _ _ => ?_)
  obtain ⟨rfl, ha_1⟩ := hp_1
  dsimp only at ha_1
  refine lv_if_ne (tgt := 17) hx hb dX10_city_11 (by decide) (fun _ => ?_) (fun c_0 => absurd c_0 (by decide +kernel))
  refine lv_aload_n hx hb dX10_city_17 rfl (lv_at hl 0 rfl) ?_
  refine z_get hx hb ht hown hK hP ziX10 rfl 0 (by decide) 0 (by decide) hw_2_93 rfl (v := .ref (q 1)) rfl dX10_city_18 ?_
  refine lv_iconst (v := nI 0) hx hb dX10_city_21 (by decide +kernel) ?_
  refine z_putI hx hb ht hown hK hP hD hS ziX7 tyX7 tyX7_ok nmX7 rfl 1 (by decide) 1 (by decide) hw_1_37 rfl (v := nI 0) rfl rfl rfl (Nat.le_of_ble_eq_true rfl) rfl dX10_city_22 (fun H locs hP hD hS => ?_)
  refine lv_aload_n hx hb dX10_city_25 rfl (lv_at hl 0 rfl) ?_
  refine z_get hx hb ht hown hK hP ziX10 rfl 0 (by decide) 1 (by decide) hw_2_94 rfl (v := .ref (q 3)) rfl dX10_city_26 ?_
  refine lv_aload_n hx hb dX10_city_29 rfl (lv_at hl 0 rfl) ?_
  refine z_get hx hb ht hown hK hP ziX10 rfl 0 (by decide) 2 (by decide) hw_2_95 rfl (v := .ref (q 8)) rfl dX10_city_30 ?_
  refine z_callVv (k := 3) (As := [.ref (q 8)]) (rest := []) hx hb hml hown ht (kX2_copyFrom_3_8 l D q cA (zp I_1 1 1 (nI 0)) _ _ ) hw_3_38 hmX2_copyFrom ⟨rfl, rfl⟩ (na := 1) rfl (by decide +kernel) (by decide) (by decide) rfl rfl hK hP hD hS hA hl.1 rfl (Nat.le_of_ble_eq_true rfl) ⟨Nat.zero_le _, Nat.zero_le _⟩ dX10_city_33 (fun I_2 R_2 J_2 H locs hp_2 hP hD hS _ _ => ?_)
  dsimp only at hp_2
  refine lv_aload_n hx hb dX10_city_36 rfl (lv_at hl 0 rfl) ?_
  refine z_get hx hb ht hown hK hP ziX10 rfl 0 (by decide) 3 (by decide) hw_2_96 rfl (v := .ref (q 13)) rfl dX10_city_37 ?_
  refine lv_iconst (v := nI 0) hx hb dX10_city_40 (by decide +kernel) ?_
  refine z_putI hx hb ht hown hK hP hD hS ziX0 tyX0 tyX0_ok nmX0 rfl 13 (by decide) 0 (by decide) hw_1_141 rfl (v := nI 0) rfl rfl rfl (Nat.le_of_ble_eq_true rfl) rfl dX10_city_41 (fun H locs hP hD hS => ?_)
  refine lv_aload_n hx hb dX10_city_44 rfl (lv_at hl 0 rfl) ?_
  refine z_get hx hb ht hown hK hP ziX10 rfl 0 (by decide) 4 (by decide) hw_2_97 rfl (v := .ref (q 15)) rfl dX10_city_45 ?_
  refine z_callVv (k := 15) (As := []) (rest := []) hx hb hml hown ht (kX9_begin l D q cA (zp I_2 13 0 (nI 0)) _ _ ) hw_3_45 hmX9_begin ⟨rfl, rfl⟩ (na := 0) rfl (by decide +kernel) (by decide) (by decide) rfl rfl hK hP hD hS hA hl.1 rfl (Nat.le_of_ble_eq_true rfl) ⟨Nat.zero_le _, Nat.zero_le _⟩ dX10_city_48 (fun I_3 R_3 J_3 H locs hp_3 hP hD hS _ _ => ?_)
  dsimp only at hp_3
  refine lv_aload_n hx hb dX10_city_51 rfl (lv_at hl 0 rfl) ?_
  refine z_get hx hb ht hown hK hP ziX10 rfl 0 (by decide) 1 (by decide) hw_2_94 rfl (v := .ref (q 3)) rfl dX10_city_52 ?_
  refine z_get hx hb ht hown hK hP ziX2 rfl 3 (by decide) 0 (by decide) hw_1_68 rfl (v := .int (I_3 3 0)) rfl dX10_city_55 ?_
  refine z_eqi (y := nI 0) (hp_3.trans (hp_2.trans ha_1)) ?_
  exact z_iret (v := nI 0) hx hb hr hlocks hP hD hS dX10_city_58 rfl
