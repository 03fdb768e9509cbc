set_option maxHeartbeats 4000000 in
set_option maxRecDepth 100000 in
theorem xk_X2_copyFrom_4 (l : Launch) (D : va_G) (q : Nat → Nat) (cA : Nat → ClassId) (F : Nat → Nat → Int32) (I R : Nat → Nat → Int32) (J : Nat → Nat → Int64) (hI : xInv F (I, R, J))  : zMv l D vwCl (zXtys cA) 81 q (zXd q cA) yX2_copyFrom cX2_copyFrom 2 none ({ frames := 1, cells := 0, slots := 0, locals := 64 } : Room) [.ref (q 3), .ref (q 49)] (I, R, J) (fun u => xInv F u) := by
  intro sz
  refine z_body (by decide +kernel) (Nat.le_of_ble_eq_true rfl) (fun p e s m below meth c ls hx hb hml hr ht hown hlocks hsz hK hP hD hS hl => ?_)
  have hA : ∀ a, s.heap.size ≤ a → zA 81 q sz a := fun a h => Or.inr (hsz ▸ h)
  have hl : lv_has ls 2 [(0, .ref (q 3)), (1, .ref (q 49))] := hl
  refine lv_aload_n hx hb dX2_copyFrom_0 rfl (lv_at hl 0 rfl) ?_
  refine lv_aload_n hx hb dX2_copyFrom_1 rfl (lv_at hl 1 rfl) ?_
  refine z_get hx hb ht hown hK hP ziX2 rfl 49 (by decide) 0 (by decide) hw_1_67 rfl (v := .int (I 49 0)) rfl dX2_copyFrom_2 ?_
  refine z_putI hx hb ht hown hK hP hD hS ziX2 tyX2 tyX2_ok nmX2 rfl 3 (by decide) 0 (by decide) hw_1_67 rfl (v := I 49 0) rfl rfl rfl (Nat.le_of_ble_eq_true rfl) rfl dX2_copyFrom_5 (fun H locs hP hD hS => ?_)
  have hI_1 := xInv_I hI 3 0 (I 49 0) (zR_any (I 49 0)) rfl
  refine lv_aload_n hx hb dX2_copyFrom_8 rfl (lv_at hl 0 rfl) ?_
  refine lv_aload_n hx hb dX2_copyFrom_9 rfl (lv_at hl 1 rfl) ?_
  refine z_get hx hb ht hown hK hP ziX2 rfl 49 (by decide) 1 (by decide) hw_1_70 rfl (v := .int (I 49 1)) rfl dX2_copyFrom_10 ?_
  refine z_putI hx hb ht hown hK hP hD hS ziX2 tyX2 tyX2_ok nmX2 rfl 3 (by decide) 1 (by decide) hw_1_70 rfl (v := I 49 1) rfl rfl rfl (Nat.le_of_ble_eq_true rfl) rfl dX2_copyFrom_13 (fun H locs hP hD hS => ?_)
  have hI_2 := xInv_I hI_1 3 1 (I 49 1) (zR_any (I 49 1)) rfl
  refine lv_aload_n hx hb dX2_copyFrom_16 rfl (lv_at hl 0 rfl) ?_
  refine lv_aload_n hx hb dX2_copyFrom_17 rfl (lv_at hl 1 rfl) ?_
  refine z_get hx hb ht hown hK hP ziX2 rfl 49 (by decide) 2 (by decide) hw_1_74 rfl (v := .int (I 49 2)) rfl dX2_copyFrom_18 ?_
  refine z_putI hx hb ht hown hK hP hD hS ziX2 tyX2 tyX2_ok nmX2 rfl 3 (by decide) 2 (by decide) hw_1_74 rfl (v := I 49 2) rfl rfl rfl (Nat.le_of_ble_eq_true rfl) rfl dX2_copyFrom_21 (fun H locs hP hD hS => ?_)
  have hI_3 := xInv_I hI_2 3 2 (I 49 2) (zR_any (I 49 2)) rfl
  refine lv_aload_n hx hb dX2_copyFrom_24 rfl (lv_at hl 0 rfl) ?_
  refine lv_aload_n hx hb dX2_copyFrom_25 rfl (lv_at hl 1 rfl) ?_
  refine z_get hx hb ht hown hK hP ziX2 rfl 49 (by decide) 3 (by decide) hw_1_78 rfl (v := .int (I 49 3)) rfl dX2_copyFrom_26 ?_
  refine z_putI hx hb ht hown hK hP hD hS ziX2 tyX2 tyX2_ok nmX2 rfl 3 (by decide) 3 (by decide) hw_1_78 rfl (v := I 49 3) rfl rfl rfl (Nat.le_of_ble_eq_true rfl) rfl dX2_copyFrom_29 (fun H locs hP hD hS => ?_)
  have hI_4 := xInv_I hI_3 3 3 (I 49 3) (zR_any (I 49 3)) rfl
  refine lv_aload_n hx hb dX2_copyFrom_32 rfl (lv_at hl 0 rfl) ?_
  refine lv_aload_n hx hb dX2_copyFrom_33 rfl (lv_at hl 1 rfl) ?_
  refine z_get hx hb ht hown hK hP ziX2 rfl 49 (by decide) 4 (by decide) hw_1_81 rfl (v := .int (I 49 4)) rfl dX2_copyFrom_34 ?_
  have f_5 : zR 0 5 (I 49 4) := xI hI 49 4
  refine z_putI hx hb ht hown hK hP hD hS ziX2 tyX2 tyX2_ok nmX2 rfl 3 (by decide) 4 (by decide) hw_1_81 rfl (v := I 49 4) rfl rfl rfl (Nat.le_of_ble_eq_true rfl) rfl dX2_copyFrom_37 (fun H locs hP hD hS => ?_)
  have hI_6 := xInv_I hI_4 3 4 (I 49 4) f_5 rfl
  refine lv_aload_n hx hb dX2_copyFrom_40 rfl (lv_at hl 0 rfl) ?_
  refine lv_aload_n hx hb dX2_copyFrom_41 rfl (lv_at hl 1 rfl) ?_
  refine z_get hx hb ht hown hK hP ziX2 rfl 49 (by decide) 5 (by decide) hw_1_87 rfl (v := .int (I 49 5)) rfl dX2_copyFrom_42 ?_
  have f_7 : zR 0 6 (I 49 5) := xI hI 49 5
  refine z_putI hx hb ht hown hK hP hD hS ziX2 tyX2 tyX2_ok nmX2 rfl 3 (by decide) 5 (by decide) hw_1_87 rfl (v := I 49 5) rfl rfl rfl (Nat.le_of_ble_eq_true rfl) rfl dX2_copyFrom_45 (fun H locs hP hD hS => ?_)
  have hI_8 := xInv_I hI_6 3 5 (I 49 5) f_7 rfl
  refine lv_aload_n hx hb dX2_copyFrom_48 rfl (lv_at hl 0 rfl) ?_
  refine lv_aload_n hx hb dX2_copyFrom_49 rfl (lv_at hl 1 rfl) ?_
  refine z_get hx hb ht hown hK hP ziX2 rfl 49 (by decide) 6 (by decide) hw_1_95 rfl (v := .int (I 49 6)) rfl dX2_copyFrom_50 ?_
  refine z_putI hx hb ht hown hK hP hD hS ziX2 tyX2 tyX2_ok nmX2 rfl 3 (by decide) 6 (by decide) hw_1_95 rfl (v := I 49 6) rfl rfl rfl (Nat.le_of_ble_eq_true rfl) rfl dX2_copyFrom_53 (fun H locs hP hD hS => ?_)
  have hI_9 := xInv_I hI_8 3 6 (I 49 6) (zR_any (I 49 6)) rfl
  refine lv_aload_n hx hb dX2_copyFrom_56 rfl (lv_at hl 1 rfl) ?_
  refine z_get hx hb ht hown hK hP ziX2 rfl 49 (by decide) 7 (by decide) hw_1_97 rfl (v := .ref (q 50)) rfl dX2_copyFrom_57 ?_
  refine lv_iconst (v := nI 0) hx hb dX2_copyFrom_60 (by decide +kernel) ?_
  refine lv_aload_n hx hb dX2_copyFrom_61 rfl (lv_at hl 0 rfl) ?_
  refine z_get hx hb ht hown hK hP ziX2 rfl 3 (by decide) 7 (by decide) hw_1_97 rfl (v := .ref (q 4)) rfl dX2_copyFrom_62 ?_
  refine lv_iconst (v := nI 0) hx hb dX2_copyFrom_65 (by decide +kernel) ?_
  refine lv_iconst (v := nI 5) hx hb dX2_copyFrom_66 (by decide +kernel) ?_
  refine z_copyi hx hb (hml.trans hl.1.symm) ht hown hw_3_42 ⟨hw_3_44, hw_3_43, hw_1_18⟩ hK hP hD hS 50 4 (by decide) (by decide) 37 1 rfl (fun _ => rfl) rfl rfl (by decide +kernel) (by decide +kernel) (by decide +kernel) (by decide +kernel) (by decide +kernel) (by decide) (by decide +kernel) dX2_copyFrom_67 (fun g_10 H locs eg_10 hP hD hS => ?_)
  have hI_11 := xInv_cp hI_9 50 4 eg_10 (by decide) (by decide) rfl
  refine lv_aload_n hx hb dX2_copyFrom_70 rfl (lv_at hl 1 rfl) ?_
  refine z_get hx hb ht hown hK hP ziX2 rfl 49 (by decide) 8 (by decide) hw_1_100 rfl (v := .ref (q 51)) rfl dX2_copyFrom_71 ?_
  refine lv_iconst (v := nI 0) hx hb dX2_copyFrom_74 (by decide +kernel) ?_
  refine lv_aload_n hx hb dX2_copyFrom_75 rfl (lv_at hl 0 rfl) ?_
  refine z_get hx hb ht hown hK hP ziX2 rfl 3 (by decide) 8 (by decide) hw_1_100 rfl (v := .ref (q 5)) rfl dX2_copyFrom_76 ?_
  refine lv_iconst (v := nI 0) hx hb dX2_copyFrom_79 (by decide +kernel) ?_
  refine lv_bipush (v := nI 6) hx hb dX2_copyFrom_80 (by decide +kernel) ?_
  refine z_copyi hx hb (hml.trans hl.1.symm) ht hown hw_3_42 ⟨hw_3_44, hw_3_43, hw_1_18⟩ hK hP hD hS 51 5 (by decide) (by decide) 38 2 rfl (fun _ => rfl) rfl rfl (by decide +kernel) (by decide +kernel) (by decide +kernel) (by decide +kernel) (by decide +kernel) (by decide) (by decide +kernel) dX2_copyFrom_82 (fun g_12 H locs eg_12 hP hD hS => ?_)
  have hI_13 := xInv_cp hI_11 51 5 eg_12 (by decide) (by decide) rfl
  refine lv_aload_n hx hb dX2_copyFrom_85 rfl (lv_at hl 1 rfl) ?_
  refine z_get hx hb ht hown hK hP ziX2 rfl 49 (by decide) 9 (by decide) hw_1_104 rfl (v := .ref (q 52)) rfl dX2_copyFrom_86 ?_
  refine lv_iconst (v := nI 0) hx hb dX2_copyFrom_89 (by decide +kernel) ?_
  refine lv_aload_n hx hb dX2_copyFrom_90 rfl (lv_at hl 0 rfl) ?_
  refine z_get hx hb ht hown hK hP ziX2 rfl 3 (by decide) 9 (by decide) hw_1_104 rfl (v := .ref (q 6)) rfl dX2_copyFrom_91 ?_
  refine lv_iconst (v := nI 0) hx hb dX2_copyFrom_94 (by decide +kernel) ?_
  refine lv_bipush (v := nI 6) hx hb dX2_copyFrom_95 (by decide +kernel) ?_
  refine z_copyi hx hb (hml.trans hl.1.symm) ht hown hw_3_42 ⟨hw_3_44, hw_3_43, hw_1_18⟩ hK hP hD hS 52 6 (by decide) (by decide) 39 3 rfl (fun _ => rfl) rfl rfl (by decide +kernel) (by decide +kernel) (by decide +kernel) (by decide +kernel) (by decide +kernel) (by decide) (by decide +kernel) dX2_copyFrom_97 (fun g_14 H locs eg_14 hP hD hS => ?_)
  have hI_15 := xInv_cp hI_13 52 6 eg_14 (by decide) (by decide) rfl
  refine lv_aload_n hx hb dX2_copyFrom_100 rfl (lv_at hl 1 rfl) ?_
  refine z_get hx hb ht hown hK hP ziX2 rfl 49 (by decide) 10 (by decide) hw_1_109 rfl (v := .ref (q 53)) rfl dX2_copyFrom_101 ?_
  refine lv_iconst (v := nI 0) hx hb dX2_copyFrom_104 (by decide +kernel) ?_
  refine lv_aload_n hx hb dX2_copyFrom_105 rfl (lv_at hl 0 rfl) ?_
  refine z_get hx hb ht hown hK hP ziX2 rfl 3 (by decide) 10 (by decide) hw_1_109 rfl (v := .ref (q 7)) rfl dX2_copyFrom_106 ?_
  refine lv_iconst (v := nI 0) hx hb dX2_copyFrom_109 (by decide +kernel) ?_
  refine lv_bipush (v := nI 30) hx hb dX2_copyFrom_110 (by decide +kernel) ?_
  refine z_copyi hx hb (hml.trans hl.1.symm) ht hown hw_3_42 ⟨hw_3_44, hw_3_43, hw_1_18⟩ hK hP hD hS 53 7 (by decide) (by decide) 40 4 rfl (fun _ => rfl) rfl rfl (by decide +kernel) (by decide +kernel) (by decide +kernel) (by decide +kernel) (by decide +kernel) (by decide) (by decide +kernel) dX2_copyFrom_112 (fun g_16 H locs eg_16 hP hD hS => ?_)
  have hI_17 := xInv_cp hI_15 53 7 eg_16 (by decide) (by decide) rfl
  exact z_vret hx hb hr hlocks hP hD hS dX2_copyFrom_115 hI_17
set_option maxHeartbeats 4000000 in
set_option maxRecDepth 100000 in
theorem xk_X0_copyFrom_3 (l : Launch) (D : va_G) (q : Nat → Nat) (cA : Nat → ClassId) (F : Nat → Nat → Int32) (I R : Nat → Nat → Int32) (J : Nat → Nat → Int64) (hI : xInv F (I, R, J))  : zMv l D vwCl (zXtys cA) 81 q (zXd q cA) yX0_copyFrom cX0_copyFrom 2 none ({ frames := 1, cells := 0, slots := 0, locals := 64 } : Room) [.ref (q 13), .ref (q 54)] (I, R, J) (fun u => xInv F u) := by
  intro sz
  refine z_body (by decide +kernel) (Nat.le_of_ble_eq_true rfl) (fun p e s m below meth c ls hx hb hml hr ht hown hlocks hsz hK hP hD hS hl => ?_)
  have hA : ∀ a, s.heap.size ≤ a → zA 81 q sz a := fun a h => Or.inr (hsz ▸ h)
  have hl : lv_has ls 2 [(0, .ref (q 13)), (1, .ref (q 54))] := hl
  refine lv_aload_n hx hb dX0_copyFrom_0 rfl (lv_at hl 0 rfl) ?_
  refine lv_aload_n hx hb dX0_copyFrom_1 rfl (lv_at hl 1 rfl) ?_
  refine z_get hx hb ht hown hK hP ziX0 rfl 54 (by decide) 0 (by decide) hw_1_140 rfl (v := .int (I 54 0)) rfl dX0_copyFrom_2 ?_
  have f_1 : zR 0 60 (I 54 0) := xI hI 54 0
  refine z_putI hx hb ht hown hK hP hD hS ziX0 tyX0 tyX0_ok nmX0 rfl 13 (by decide) 0 (by decide) hw_1_140 rfl (v := I 54 0) rfl rfl rfl (Nat.le_of_ble_eq_true rfl) rfl dX0_copyFrom_5 (fun H locs hP hD hS => ?_)
  have hI_2 := xInv_I hI 13 0 (I 54 0) f_1 rfl
  refine lv_aload_n hx hb dX0_copyFrom_8 rfl (lv_at hl 1 rfl) ?_
  refine z_get hx hb ht hown hK hP ziX0 rfl 54 (by decide) 1 (by decide) hw_1_142 rfl (v := .ref (q 55)) rfl dX0_copyFrom_9 ?_
  refine lv_iconst (v := nI 0) hx hb dX0_copyFrom_12 (by decide +kernel) ?_
  refine lv_aload_n hx hb dX0_copyFrom_13 rfl (lv_at hl 0 rfl) ?_
  refine z_get hx hb ht hown hK hP ziX0 rfl 13 (by decide) 1 (by decide) hw_1_142 rfl (v := .ref (q 14)) rfl dX0_copyFrom_14 ?_
  refine lv_iconst (v := nI 0) hx hb dX0_copyFrom_17 (by decide +kernel) ?_
  refine lv_sipush (v := nI 240) hx hb dX0_copyFrom_18 (by decide +kernel) ?_
  refine z_copyi hx hb (hml.trans hl.1.symm) ht hown hw_5_149 ⟨hw_3_44, hw_3_43, hw_1_18⟩ hK hP hD hS 55 14 (by decide) (by decide) 41 9 rfl (fun _ => rfl) rfl rfl (by decide +kernel) (by decide +kernel) (by decide +kernel) (by decide +kernel) (by decide +kernel) (by decide) (by decide +kernel) dX0_copyFrom_21 (fun g_3 H locs eg_3 hP hD hS => ?_)
  have hI_4 := xInv_rec hI_2 55 14 eg_3 rfl rfl
  exact z_vret hx hb hr hlocks hP hD hS dX0_copyFrom_24 hI_4
set_option maxHeartbeats 4000000 in
set_option maxRecDepth 100000 in
theorem xk_X2_copyFrom_5 (l : Launch) (D : va_G) (q : Nat → Nat) (cA : Nat → ClassId) (F : Nat → Nat → Int32) (I R : Nat → Nat → Int32) (J : Nat → Nat → Int64) (hI : xInv F (I, R, J))  : zMv l D vwCl (zXtys cA) 81 q (zXd q cA) yX2_copyFrom cX2_copyFrom 2 none ({ frames := 1, cells := 0, slots := 0, locals := 64 } : Room) [.ref (q 3), .ref (q 57)] (I, R, J) (fun u => xInv F u) := by
  intro sz
  refine z_body (by decide +kernel) (Nat.le_of_ble_eq_true rfl) (fun p e s m below meth c ls hx hb hml hr ht hown hlocks hsz hK hP hD hS hl => ?_)
  have hA : ∀ a, s.heap.size ≤ a → zA 81 q sz a := fun a h => Or.inr (hsz ▸ h)
  have hl : lv_has ls 2 [(0, .ref (q 3)), (1, .ref (q 57))] := hl
  refine lv_aload_n hx hb dX2_copyFrom_0 rfl (lv_at hl 0 rfl) ?_
  refine lv_aload_n hx hb dX2_copyFrom_1 rfl (lv_at hl 1 rfl) ?_
  refine z_get hx hb ht hown hK hP ziX2 rfl 57 (by decide) 0 (by decide) hw_1_67 rfl (v := .int (I 57 0)) rfl dX2_copyFrom_2 ?_
  refine z_putI hx hb ht hown hK hP hD hS ziX2 tyX2 tyX2_ok nmX2 rfl 3 (by decide) 0 (by decide) hw_1_67 rfl (v := I 57 0) rfl rfl rfl (Nat.le_of_ble_eq_true rfl) rfl dX2_copyFrom_5 (fun H locs hP hD hS => ?_)
  have hI_1 := xInv_I hI 3 0 (I 57 0) (zR_any (I 57 0)) rfl
  refine lv_aload_n hx hb dX2_copyFrom_8 rfl (lv_at hl 0 rfl) ?_
  refine lv_aload_n hx hb dX2_copyFrom_9 rfl (lv_at hl 1 rfl) ?_
  refine z_get hx hb ht hown hK hP ziX2 rfl 57 (by decide) 1 (by decide) hw_1_70 rfl (v := .int (I 57 1)) rfl dX2_copyFrom_10 ?_
  refine z_putI hx hb ht hown hK hP hD hS ziX2 tyX2 tyX2_ok nmX2 rfl 3 (by decide) 1 (by decide) hw_1_70 rfl (v := I 57 1) rfl rfl rfl (Nat.le_of_ble_eq_true rfl) rfl dX2_copyFrom_13 (fun H locs hP hD hS => ?_)
  have hI_2 := xInv_I hI_1 3 1 (I 57 1) (zR_any (I 57 1)) rfl
  refine lv_aload_n hx hb dX2_copyFrom_16 rfl (lv_at hl 0 rfl) ?_
  refine lv_aload_n hx hb dX2_copyFrom_17 rfl (lv_at hl 1 rfl) ?_
  refine z_get hx hb ht hown hK hP ziX2 rfl 57 (by decide) 2 (by decide) hw_1_74 rfl (v := .int (I 57 2)) rfl dX2_copyFrom_18 ?_
  refine z_putI hx hb ht hown hK hP hD hS ziX2 tyX2 tyX2_ok nmX2 rfl 3 (by decide) 2 (by decide) hw_1_74 rfl (v := I 57 2) rfl rfl rfl (Nat.le_of_ble_eq_true rfl) rfl dX2_copyFrom_21 (fun H locs hP hD hS => ?_)
  have hI_3 := xInv_I hI_2 3 2 (I 57 2) (zR_any (I 57 2)) rfl
  refine lv_aload_n hx hb dX2_copyFrom_24 rfl (lv_at hl 0 rfl) ?_
  refine lv_aload_n hx hb dX2_copyFrom_25 rfl (lv_at hl 1 rfl) ?_
  refine z_get hx hb ht hown hK hP ziX2 rfl 57 (by decide) 3 (by decide) hw_1_78 rfl (v := .int (I 57 3)) rfl dX2_copyFrom_26 ?_
  refine z_putI hx hb ht hown hK hP hD hS ziX2 tyX2 tyX2_ok nmX2 rfl 3 (by decide) 3 (by decide) hw_1_78 rfl (v := I 57 3) rfl rfl rfl (Nat.le_of_ble_eq_true rfl) rfl dX2_copyFrom_29 (fun H locs hP hD hS => ?_)
  have hI_4 := xInv_I hI_3 3 3 (I 57 3) (zR_any (I 57 3)) rfl
  refine lv_aload_n hx hb dX2_copyFrom_32 rfl (lv_at hl 0 rfl) ?_
  refine lv_aload_n hx hb dX2_copyFrom_33 rfl (lv_at hl 1 rfl) ?_
  refine z_get hx hb ht hown hK hP ziX2 rfl 57 (by decide) 4 (by decide) hw_1_81 rfl (v := .int (I 57 4)) rfl dX2_copyFrom_34 ?_
  have f_5 : zR 0 5 (I 57 4) := xI hI 57 4
  refine z_putI hx hb ht hown hK hP hD hS ziX2 tyX2 tyX2_ok nmX2 rfl 3 (by decide) 4 (by decide) hw_1_81 rfl (v := I 57 4) rfl rfl rfl (Nat.le_of_ble_eq_true rfl) rfl dX2_copyFrom_37 (fun H locs hP hD hS => ?_)
  have hI_6 := xInv_I hI_4 3 4 (I 57 4) f_5 rfl
  refine lv_aload_n hx hb dX2_copyFrom_40 rfl (lv_at hl 0 rfl) ?_
  refine lv_aload_n hx hb dX2_copyFrom_41 rfl (lv_at hl 1 rfl) ?_
  refine z_get hx hb ht hown hK hP ziX2 rfl 57 (by decide) 5 (by decide) hw_1_87 rfl (v := .int (I 57 5)) rfl dX2_copyFrom_42 ?_
  have f_7 : zR 0 6 (I 57 5) := xI hI 57 5
  refine z_putI hx hb ht hown hK hP hD hS ziX2 tyX2 tyX2_ok nmX2 rfl 3 (by decide) 5 (by decide) hw_1_87 rfl (v := I 57 5) rfl rfl rfl (Nat.le_of_ble_eq_true rfl) rfl dX2_copyFrom_45 (fun H locs hP hD hS => ?_)
  have hI_8 := xInv_I hI_6 3 5 (I 57 5) f_7 rfl
  refine lv_aload_n hx hb dX2_copyFrom_48 rfl (lv_at hl 0 rfl) ?_
  refine lv_aload_n hx hb dX2_copyFrom_49 rfl (lv_at hl 1 rfl) ?_
  refine z_get hx hb ht hown hK hP ziX2 rfl 57 (by decide) 6 (by decide) hw_1_95 rfl (v := .int (I 57 6)) rfl dX2_copyFrom_50 ?_
  refine z_putI hx hb ht hown hK hP hD hS ziX2 tyX2 tyX2_ok nmX2 rfl 3 (by decide) 6 (by decide) hw_1_95 rfl (v := I 57 6) rfl rfl rfl (Nat.le_of_ble_eq_true rfl) rfl dX2_copyFrom_53 (fun H locs hP hD hS => ?_)
  have hI_9 := xInv_I hI_8 3 6 (I 57 6) (zR_any (I 57 6)) rfl
  refine lv_aload_n hx hb dX2_copyFrom_56 rfl (lv_at hl 1 rfl) ?_
  refine z_get hx hb ht hown hK hP ziX2 rfl 57 (by decide) 7 (by decide) hw_1_97 rfl (v := .ref (q 58)) rfl dX2_copyFrom_57 ?_
  refine lv_iconst (v := nI 0) hx hb dX2_copyFrom_60 (by decide +kernel) ?_
  refine lv_aload_n hx hb dX2_copyFrom_61 rfl (lv_at hl 0 rfl) ?_
  refine z_get hx hb ht hown hK hP ziX2 rfl 3 (by decide) 7 (by decide) hw_1_97 rfl (v := .ref (q 4)) rfl dX2_copyFrom_62 ?_
  refine lv_iconst (v := nI 0) hx hb dX2_copyFrom_65 (by decide +kernel) ?_
  refine lv_iconst (v := nI 5) hx hb dX2_copyFrom_66 (by decide +kernel) ?_
  refine z_copyi hx hb (hml.trans hl.1.symm) ht hown hw_3_42 ⟨hw_3_44, hw_3_43, hw_1_18⟩ hK hP hD hS 58 4 (by decide) (by decide) 42 1 rfl (fun _ => rfl) rfl rfl (by decide +kernel) (by decide +kernel) (by decide +kernel) (by decide +kernel) (by decide +kernel) (by decide) (by decide +kernel) dX2_copyFrom_67 (fun g_10 H locs eg_10 hP hD hS => ?_)
  have hI_11 := xInv_cp hI_9 58 4 eg_10 (by decide) (by decide) rfl
  refine lv_aload_n hx hb dX2_copyFrom_70 rfl (lv_at hl 1 rfl) ?_
  refine z_get hx hb ht hown hK hP ziX2 rfl 57 (by decide) 8 (by decide) hw_1_100 rfl (v := .ref (q 59)) rfl dX2_copyFrom_71 ?_
  refine lv_iconst (v := nI 0) hx hb dX2_copyFrom_74 (by decide +kernel) ?_
  refine lv_aload_n hx hb dX2_copyFrom_75 rfl (lv_at hl 0 rfl) ?_
  refine z_get hx hb ht hown hK hP ziX2 rfl 3 (by decide) 8 (by decide) hw_1_100 rfl (v := .ref (q 5)) rfl dX2_copyFrom_76 ?_
  refine lv_iconst (v := nI 0) hx hb dX2_copyFrom_79 (by decide +kernel) ?_
  refine lv_bipush (v := nI 6) hx hb dX2_copyFrom_80 (by decide +kernel) ?_
  refine z_copyi hx hb (hml.trans hl.1.symm) ht hown hw_3_42 ⟨hw_3_44, hw_3_43, hw_1_18⟩ hK hP hD hS 59 5 (by decide) (by decide) 43 2 rfl (fun _ => rfl) rfl rfl (by decide +kernel) (by decide +kernel) (by decide +kernel) (by decide +kernel) (by decide +kernel) (by decide) (by decide +kernel) dX2_copyFrom_82 (fun g_12 H locs eg_12 hP hD hS => ?_)
  have hI_13 := xInv_cp hI_11 59 5 eg_12 (by decide) (by decide) rfl
  refine lv_aload_n hx hb dX2_copyFrom_85 rfl (lv_at hl 1 rfl) ?_
  refine z_get hx hb ht hown hK hP ziX2 rfl 57 (by decide) 9 (by decide) hw_1_104 rfl (v := .ref (q 60)) rfl dX2_copyFrom_86 ?_
  refine lv_iconst (v := nI 0) hx hb dX2_copyFrom_89 (by decide +kernel) ?_
  refine lv_aload_n hx hb dX2_copyFrom_90 rfl (lv_at hl 0 rfl) ?_
  refine z_get hx hb ht hown hK hP ziX2 rfl 3 (by decide) 9 (by decide) hw_1_104 rfl (v := .ref (q 6)) rfl dX2_copyFrom_91 ?_
  refine lv_iconst (v := nI 0) hx hb dX2_copyFrom_94 (by decide +kernel) ?_
  refine lv_bipush (v := nI 6) hx hb dX2_copyFrom_95 (by decide +kernel) ?_
  refine z_copyi hx hb (hml.trans hl.1.symm) ht hown hw_3_42 ⟨hw_3_44, hw_3_43, hw_1_18⟩ hK hP hD hS 60 6 (by decide) (by decide) 44 3 rfl (fun _ => rfl) rfl rfl (by decide +kernel) (by decide +kernel) (by decide +kernel) (by decide +kernel) (by decide +kernel) (by decide) (by decide +kernel) dX2_copyFrom_97 (fun g_14 H locs eg_14 hP hD hS => ?_)
  have hI_15 := xInv_cp hI_13 60 6 eg_14 (by decide) (by decide) rfl
  refine lv_aload_n hx hb dX2_copyFrom_100 rfl (lv_at hl 1 rfl) ?_
  refine z_get hx hb ht hown hK hP ziX2 rfl 57 (by decide) 10 (by decide) hw_1_109 rfl (v := .ref (q 61)) rfl dX2_copyFrom_101 ?_
  refine lv_iconst (v := nI 0) hx hb dX2_copyFrom_104 (by decide +kernel) ?_
  refine lv_aload_n hx hb dX2_copyFrom_105 rfl (lv_at hl 0 rfl) ?_
  refine z_get hx hb ht hown hK hP ziX2 rfl 3 (by decide) 10 (by decide) hw_1_109 rfl (v := .ref (q 7)) rfl dX2_copyFrom_106 ?_
  refine lv_iconst (v := nI 0) hx hb dX2_copyFrom_109 (by decide +kernel) ?_
  refine lv_bipush (v := nI 30) hx hb dX2_copyFrom_110 (by decide +kernel) ?_
  refine z_copyi hx hb (hml.trans hl.1.symm) ht hown hw_3_42 ⟨hw_3_44, hw_3_43, hw_1_18⟩ hK hP hD hS 61 7 (by decide) (by decide) 45 4 rfl (fun _ => rfl) rfl rfl (by decide +kernel) (by decide +kernel) (by decide +kernel) (by decide +kernel) (by decide +kernel) (by decide) (by decide +kernel) dX2_copyFrom_112 (fun g_16 H locs eg_16 hP hD hS => ?_)
  have hI_17 := xInv_cp hI_15 61 7 eg_16 (by decide) (by decide) rfl
  exact z_vret hx hb hr hlocks hP hD hS dX2_copyFrom_115 hI_17
set_option maxHeartbeats 4000000 in
set_option maxRecDepth 100000 in
theorem xk_X0_copyFrom_4 (l : Launch) (D : va_G) (q : Nat → Nat) (cA : Nat → ClassId) (F : Nat → Nat → Int32) (I R : Nat → Nat → Int32) (J : Nat → Nat → Int64) (hI : xInv F (I, R, J))  : zMv l D vwCl (zXtys cA) 81 q (zXd q cA) yX0_copyFrom cX0_copyFrom 2 none ({ frames := 1, cells := 0, slots := 0, locals := 64 } : Room) [.ref (q 13), .ref (q 62)] (I, R, J) (fun u => xInv F u) := by
  intro sz
  refine z_body (by decide +kernel) (Nat.le_of_ble_eq_true rfl) (fun p e s m below meth c ls hx hb hml hr ht hown hlocks hsz hK hP hD hS hl => ?_)
  have hA : ∀ a, s.heap.size ≤ a → zA 81 q sz a := fun a h => Or.inr (hsz ▸ h)
  have hl : lv_has ls 2 [(0, .ref (q 13)), (1, .ref (q 62))] := hl
  refine lv_aload_n hx hb dX0_copyFrom_0 rfl (lv_at hl 0 rfl) ?_
  refine lv_aload_n hx hb dX0_copyFrom_1 rfl (lv_at hl 1 rfl) ?_
  refine z_get hx hb ht hown hK hP ziX0 rfl 62 (by decide) 0 (by decide) hw_1_140 rfl (v := .int (I 62 0)) rfl dX0_copyFrom_2 ?_
  have f_1 : zR 0 60 (I 62 0) := xI hI 62 0
  refine z_putI hx hb ht hown hK hP hD hS ziX0 tyX0 tyX0_ok nmX0 rfl 13 (by decide) 0 (by decide) hw_1_140 rfl (v := I 62 0) rfl rfl rfl (Nat.le_of_ble_eq_true rfl) rfl dX0_copyFrom_5 (fun H locs hP hD hS => ?_)
  have hI_2 := xInv_I hI 13 0 (I 62 0) f_1 rfl
  refine lv_aload_n hx hb dX0_copyFrom_8 rfl (lv_at hl 1 rfl) ?_
  refine z_get hx hb ht hown hK hP ziX0 rfl 62 (by decide) 1 (by decide) hw_1_142 rfl (v := .ref (q 63)) rfl dX0_copyFrom_9 ?_
  refine lv_iconst (v := nI 0) hx hb dX0_copyFrom_12 (by decide +kernel) ?_
  refine lv_aload_n hx hb dX0_copyFrom_13 rfl (lv_at hl 0 rfl) ?_
  refine z_get hx hb ht hown hK hP ziX0 rfl 13 (by decide) 1 (by decide) hw_1_142 rfl (v := .ref (q 14)) rfl dX0_copyFrom_14 ?_
  refine lv_iconst (v := nI 0) hx hb dX0_copyFrom_17 (by decide +kernel) ?_
  refine lv_sipush (v := nI 240) hx hb dX0_copyFrom_18 (by decide +kernel) ?_
  refine z_copyi hx hb (hml.trans hl.1.symm) ht hown hw_5_149 ⟨hw_3_44, hw_3_43, hw_1_18⟩ hK hP hD hS 63 14 (by decide) (by decide) 46 9 rfl (fun _ => rfl) rfl rfl (by decide +kernel) (by decide +kernel) (by decide +kernel) (by decide +kernel) (by decide +kernel) (by decide) (by decide +kernel) dX0_copyFrom_21 (fun g_3 H locs eg_3 hP hD hS => ?_)
  have hI_4 := xInv_rec hI_2 63 14 eg_3 rfl rfl
  exact z_vret hx hb hr hlocks hP hD hS dX0_copyFrom_24 hI_4
set_option maxHeartbeats 4000000 in
set_option maxRecDepth 100000 in
theorem xk_X2_copyFrom_6 (l : Launch) (D : va_G) (q : Nat → Nat) (cA : Nat → ClassId) (F : Nat → Nat → Int32) (I R : Nat → Nat → Int32) (J : Nat → Nat → Int64) (hI : xInv F (I, R, J))  : zMv l D vwCl (zXtys cA) 81 q (zXd q cA) yX2_copyFrom cX2_copyFrom 2 none ({ frames := 1, cells := 0, slots := 0, locals := 64 } : Room) [.ref (q 3), .ref (q 65)] (I, R, J) (fun u => xInv F u) := by
  intro sz
  refine z_body (by decide +kernel) (Nat.le_of_ble_eq_true rfl) (fun p e s m below meth c ls hx hb hml hr ht hown hlocks hsz hK hP hD hS hl => ?_)
  have hA : ∀ a, s.heap.size ≤ a → zA 81 q sz a := fun a h => Or.inr (hsz ▸ h)
  have hl : lv_has ls 2 [(0, .ref (q 3)), (1, .ref (q 65))] := hl
  refine lv_aload_n hx hb dX2_copyFrom_0 rfl (lv_at hl 0 rfl) ?_
  refine lv_aload_n hx hb dX2_copyFrom_1 rfl (lv_at hl 1 rfl) ?_
  refine z_get hx hb ht hown hK hP ziX2 rfl 65 (by decide) 0 (by decide) hw_1_67 rfl (v := .int (I 65 0)) rfl dX2_copyFrom_2 ?_
  refine z_putI hx hb ht hown hK hP hD hS ziX2 tyX2 tyX2_ok nmX2 rfl 3 (by decide) 0 (by decide) hw_1_67 rfl (v := I 65 0) rfl rfl rfl (Nat.le_of_ble_eq_true rfl) rfl dX2_copyFrom_5 (fun H locs hP hD hS => ?_)
  have hI_1 := xInv_I hI 3 0 (I 65 0) (zR_any (I 65 0)) rfl
  refine lv_aload_n hx hb dX2_copyFrom_8 rfl (lv_at hl 0 rfl) ?_
  refine lv_aload_n hx hb dX2_copyFrom_9 rfl (lv_at hl 1 rfl) ?_
  refine z_get hx hb ht hown hK hP ziX2 rfl 65 (by decide) 1 (by decide) hw_1_70 rfl (v := .int (I 65 1)) rfl dX2_copyFrom_10 ?_
  refine z_putI hx hb ht hown hK hP hD hS ziX2 tyX2 tyX2_ok nmX2 rfl 3 (by decide) 1 (by decide) hw_1_70 rfl (v := I 65 1) rfl rfl rfl (Nat.le_of_ble_eq_true rfl) rfl dX2_copyFrom_13 (fun H locs hP hD hS => ?_)
  have hI_2 := xInv_I hI_1 3 1 (I 65 1) (zR_any (I 65 1)) rfl
  refine lv_aload_n hx hb dX2_copyFrom_16 rfl (lv_at hl 0 rfl) ?_
  refine lv_aload_n hx hb dX2_copyFrom_17 rfl (lv_at hl 1 rfl) ?_
  refine z_get hx hb ht hown hK hP ziX2 rfl 65 (by decide) 2 (by decide) hw_1_74 rfl (v := .int (I 65 2)) rfl dX2_copyFrom_18 ?_
  refine z_putI hx hb ht hown hK hP hD hS ziX2 tyX2 tyX2_ok nmX2 rfl 3 (by decide) 2 (by decide) hw_1_74 rfl (v := I 65 2) rfl rfl rfl (Nat.le_of_ble_eq_true rfl) rfl dX2_copyFrom_21 (fun H locs hP hD hS => ?_)
  have hI_3 := xInv_I hI_2 3 2 (I 65 2) (zR_any (I 65 2)) rfl
  refine lv_aload_n hx hb dX2_copyFrom_24 rfl (lv_at hl 0 rfl) ?_
  refine lv_aload_n hx hb dX2_copyFrom_25 rfl (lv_at hl 1 rfl) ?_
  refine z_get hx hb ht hown hK hP ziX2 rfl 65 (by decide) 3 (by decide) hw_1_78 rfl (v := .int (I 65 3)) rfl dX2_copyFrom_26 ?_
  refine z_putI hx hb ht hown hK hP hD hS ziX2 tyX2 tyX2_ok nmX2 rfl 3 (by decide) 3 (by decide) hw_1_78 rfl (v := I 65 3) rfl rfl rfl (Nat.le_of_ble_eq_true rfl) rfl dX2_copyFrom_29 (fun H locs hP hD hS => ?_)
  have hI_4 := xInv_I hI_3 3 3 (I 65 3) (zR_any (I 65 3)) rfl
  refine lv_aload_n hx hb dX2_copyFrom_32 rfl (lv_at hl 0 rfl) ?_
  refine lv_aload_n hx hb dX2_copyFrom_33 rfl (lv_at hl 1 rfl) ?_
  refine z_get hx hb ht hown hK hP ziX2 rfl 65 (by decide) 4 (by decide) hw_1_81 rfl (v := .int (I 65 4)) rfl dX2_copyFrom_34 ?_
  have f_5 : zR 0 5 (I 65 4) := xI hI 65 4
  refine z_putI hx hb ht hown hK hP hD hS ziX2 tyX2 tyX2_ok nmX2 rfl 3 (by decide) 4 (by decide) hw_1_81 rfl (v := I 65 4) rfl rfl rfl (Nat.le_of_ble_eq_true rfl) rfl dX2_copyFrom_37 (fun H locs hP hD hS => ?_)
  have hI_6 := xInv_I hI_4 3 4 (I 65 4) f_5 rfl
  refine lv_aload_n hx hb dX2_copyFrom_40 rfl (lv_at hl 0 rfl) ?_
  refine lv_aload_n hx hb dX2_copyFrom_41 rfl (lv_at hl 1 rfl) ?_
  refine z_get hx hb ht hown hK hP ziX2 rfl 65 (by decide) 5 (by decide) hw_1_87 rfl (v := .int (I 65 5)) rfl dX2_copyFrom_42 ?_
  have f_7 : zR 0 6 (I 65 5) := xI hI 65 5
  refine z_putI hx hb ht hown hK hP hD hS ziX2 tyX2 tyX2_ok nmX2 rfl 3 (by decide) 5 (by decide) hw_1_87 rfl (v := I 65 5) rfl rfl rfl (Nat.le_of_ble_eq_true rfl) rfl dX2_copyFrom_45 (fun H locs hP hD hS => ?_)
  have hI_8 := xInv_I hI_6 3 5 (I 65 5) f_7 rfl
  refine lv_aload_n hx hb dX2_copyFrom_48 rfl (lv_at hl 0 rfl) ?_
  refine lv_aload_n hx hb dX2_copyFrom_49 rfl (lv_at hl 1 rfl) ?_
  refine z_get hx hb ht hown hK hP ziX2 rfl 65 (by decide) 6 (by decide) hw_1_95 rfl (v := .int (I 65 6)) rfl dX2_copyFrom_50 ?_
  refine z_putI hx hb ht hown hK hP hD hS ziX2 tyX2 tyX2_ok nmX2 rfl 3 (by decide) 6 (by decide) hw_1_95 rfl (v := I 65 6) rfl rfl rfl (Nat.le_of_ble_eq_true rfl) rfl dX2_copyFrom_53 (fun H locs hP hD hS => ?_)
  have hI_9 := xInv_I hI_8 3 6 (I 65 6) (zR_any (I 65 6)) rfl
  refine lv_aload_n hx hb dX2_copyFrom_56 rfl (lv_at hl 1 rfl) ?_
  refine z_get hx hb ht hown hK hP ziX2 rfl 65 (by decide) 7 (by decide) hw_1_97 rfl (v := .ref (q 66)) rfl dX2_copyFrom_57 ?_
  refine lv_iconst (v := nI 0) hx hb dX2_copyFrom_60 (by decide +kernel) ?_
  refine lv_aload_n hx hb dX2_copyFrom_61 rfl (lv_at hl 0 rfl) ?_
  refine z_get hx hb ht hown hK hP ziX2 rfl 3 (by decide) 7 (by decide) hw_1_97 rfl (v := .ref (q 4)) rfl dX2_copyFrom_62 ?_
  refine lv_iconst (v := nI 0) hx hb dX2_copyFrom_65 (by decide +kernel) ?_
  refine lv_iconst (v := nI 5) hx hb dX2_copyFrom_66 (by decide +kernel) ?_
  refine z_copyi hx hb (hml.trans hl.1.symm) ht hown hw_3_42 ⟨hw_3_44, hw_3_43, hw_1_18⟩ hK hP hD hS 66 4 (by decide) (by decide) 47 1 rfl (fun _ => rfl) rfl rfl (by decide +kernel) (by decide +kernel) (by decide +kernel) (by decide +kernel) (by decide +kernel) (by decide) (by decide +kernel) dX2_copyFrom_67 (fun g_10 H locs eg_10 hP hD hS => ?_)
  have hI_11 := xInv_cp hI_9 66 4 eg_10 (by decide) (by decide) rfl
  refine lv_aload_n hx hb dX2_copyFrom_70 rfl (lv_at hl 1 rfl) ?_
  refine z_get hx hb ht hown hK hP ziX2 rfl 65 (by decide) 8 (by decide) hw_1_100 rfl (v := .ref (q 67)) rfl dX2_copyFrom_71 ?_
  refine lv_iconst (v := nI 0) hx hb dX2_copyFrom_74 (by decide +kernel) ?_
  refine lv_aload_n hx hb dX2_copyFrom_75 rfl (lv_at hl 0 rfl) ?_
  refine z_get hx hb ht hown hK hP ziX2 rfl 3 (by decide) 8 (by decide) hw_1_100 rfl (v := .ref (q 5)) rfl dX2_copyFrom_76 ?_
  refine lv_iconst (v := nI 0) hx hb dX2_copyFrom_79 (by decide +kernel) ?_
  refine lv_bipush (v := nI 6) hx hb dX2_copyFrom_80 (by decide +kernel) ?_
  refine z_copyi hx hb (hml.trans hl.1.symm) ht hown hw_3_42 ⟨hw_3_44, hw_3_43, hw_1_18⟩ hK hP hD hS 67 5 (by decide) (by decide) 48 2 rfl (fun _ => rfl) rfl rfl (by decide +kernel) (by decide +kernel) (by decide +kernel) (by decide +kernel) (by decide +kernel) (by decide) (by decide +kernel) dX2_copyFrom_82 (fun g_12 H locs eg_12 hP hD hS => ?_)
  have hI_13 := xInv_cp hI_11 67 5 eg_12 (by decide) (by decide) rfl
  refine lv_aload_n hx hb dX2_copyFrom_85 rfl (lv_at hl 1 rfl) ?_
  refine z_get hx hb ht hown hK hP ziX2 rfl 65 (by decide) 9 (by decide) hw_1_104 rfl (v := .ref (q 68)) rfl dX2_copyFrom_86 ?_
  refine lv_iconst (v := nI 0) hx hb dX2_copyFrom_89 (by decide +kernel) ?_
  refine lv_aload_n hx hb dX2_copyFrom_90 rfl (lv_at hl 0 rfl) ?_
  refine z_get hx hb ht hown hK hP ziX2 rfl 3 (by decide) 9 (by decide) hw_1_104 rfl (v := .ref (q 6)) rfl dX2_copyFrom_91 ?_
  refine lv_iconst (v := nI 0) hx hb dX2_copyFrom_94 (by decide +kernel) ?_
  refine lv_bipush (v := nI 6) hx hb dX2_copyFrom_95 (by decide +kernel) ?_
  refine z_copyi hx hb (hml.trans hl.1.symm) ht hown hw_3_42 ⟨hw_3_44, hw_3_43, hw_1_18⟩ hK hP hD hS 68 6 (by decide) (by decide) 49 3 rfl (fun _ => rfl) rfl rfl (by decide +kernel) (by decide +kernel) (by decide +kernel) (by decide +kernel) (by decide +kernel) (by decide) (by decide +kernel) dX2_copyFrom_97 (fun g_14 H locs eg_14 hP hD hS => ?_)
  have hI_15 := xInv_cp hI_13 68 6 eg_14 (by decide) (by decide) rfl
  refine lv_aload_n hx hb dX2_copyFrom_100 rfl (lv_at hl 1 rfl) ?_
  refine z_get hx hb ht hown hK hP ziX2 rfl 65 (by decide) 10 (by decide) hw_1_109 rfl (v := .ref (q 69)) rfl dX2_copyFrom_101 ?_
  refine lv_iconst (v := nI 0) hx hb dX2_copyFrom_104 (by decide +kernel) ?_
  refine lv_aload_n hx hb dX2_copyFrom_105 rfl (lv_at hl 0 rfl) ?_
  refine z_get hx hb ht hown hK hP ziX2 rfl 3 (by decide) 10 (by decide) hw_1_109 rfl (v := .ref (q 7)) rfl dX2_copyFrom_106 ?_
  refine lv_iconst (v := nI 0) hx hb dX2_copyFrom_109 (by decide +kernel) ?_
  refine lv_bipush (v := nI 30) hx hb dX2_copyFrom_110 (by decide +kernel) ?_
  refine z_copyi hx hb (hml.trans hl.1.symm) ht hown hw_3_42 ⟨hw_3_44, hw_3_43, hw_1_18⟩ hK hP hD hS 69 7 (by decide) (by decide) 50 4 rfl (fun _ => rfl) rfl rfl (by decide +kernel) (by decide +kernel) (by decide +kernel) (by decide +kernel) (by decide +kernel) (by decide) (by decide +kernel) dX2_copyFrom_112 (fun g_16 H locs eg_16 hP hD hS => ?_)
  have hI_17 := xInv_cp hI_15 69 7 eg_16 (by decide) (by decide) rfl
  exact z_vret hx hb hr hlocks hP hD hS dX2_copyFrom_115 hI_17
set_option maxHeartbeats 4000000 in
set_option maxRecDepth 100000 in
theorem xk_X0_copyFrom_5 (l : Launch) (D : va_G) (q : Nat → Nat) (cA : Nat → ClassId) (F : Nat → Nat → Int32) (I R : Nat → Nat → Int32) (J : Nat → Nat → Int64) (hI : xInv F (I, R, J))  : zMv l D vwCl (zXtys cA) 81 q (zXd q cA) yX0_copyFrom cX0_copyFrom 2 none ({ frames := 1, cells := 0, slots := 0, locals := 64 } : Room) [.ref (q 13), .ref (q 70)] (I, R, J) (fun u => xInv F u) := by
  intro sz
  refine z_body (by decide +kernel) (Nat.le_of_ble_eq_true rfl) (fun p e s m below meth c ls hx hb hml hr ht hown hlocks hsz hK hP hD hS hl => ?_)
  have hA : ∀ a, s.heap.size ≤ a → zA 81 q sz a := fun a h => Or.inr (hsz ▸ h)
  have hl : lv_has ls 2 [(0, .ref (q 13)), (1, .ref (q 70))] := hl
  refine lv_aload_n hx hb dX0_copyFrom_0 rfl (lv_at hl 0 rfl) ?_
  refine lv_aload_n hx hb dX0_copyFrom_1 rfl (lv_at hl 1 rfl) ?_
  refine z_get hx hb ht hown hK hP ziX0 rfl 70 (by decide) 0 (by decide) hw_1_140 rfl (v := .int (I 70 0)) rfl dX0_copyFrom_2 ?_
  have f_1 : zR 0 60 (I 70 0) := xI hI 70 0
  refine z_putI hx hb ht hown hK hP hD hS ziX0 tyX0 tyX0_ok nmX0 rfl 13 (by decide) 0 (by decide) hw_1_140 rfl (v := I 70 0) rfl rfl rfl (Nat.le_of_ble_eq_true rfl) rfl dX0_copyFrom_5 (fun H locs hP hD hS => ?_)
  have hI_2 := xInv_I hI 13 0 (I 70 0) f_1 rfl
  refine lv_aload_n hx hb dX0_copyFrom_8 rfl (lv_at hl 1 rfl) ?_
  refine z_get hx hb ht hown hK hP ziX0 rfl 70 (by decide) 1 (by decide) hw_1_142 rfl (v := .ref (q 71)) rfl dX0_copyFrom_9 ?_
  refine lv_iconst (v := nI 0) hx hb dX0_copyFrom_12 (by decide +kernel) ?_
  refine lv_aload_n hx hb dX0_copyFrom_13 rfl (lv_at hl 0 rfl) ?_
  refine z_get hx hb ht hown hK hP ziX0 rfl 13 (by decide) 1 (by decide) hw_1_142 rfl (v := .ref (q 14)) rfl dX0_copyFrom_14 ?_
  refine lv_iconst (v := nI 0) hx hb dX0_copyFrom_17 (by decide +kernel) ?_
  refine lv_sipush (v := nI 240) hx hb dX0_copyFrom_18 (by decide +kernel) ?_
  refine z_copyi hx hb (hml.trans hl.1.symm) ht hown hw_5_149 ⟨hw_3_44, hw_3_43, hw_1_18⟩ hK hP hD hS 71 14 (by decide) (by decide) 51 9 rfl (fun _ => rfl) rfl rfl (by decide +kernel) (by decide +kernel) (by decide +kernel) (by decide +kernel) (by decide +kernel) (by decide) (by decide +kernel) dX0_copyFrom_21 (fun g_3 H locs eg_3 hP hD hS => ?_)
  have hI_4 := xInv_rec hI_2 71 14 eg_3 rfl rfl
  exact z_vret hx hb hr hlocks hP hD hS dX0_copyFrom_24 hI_4
set_option maxHeartbeats 4000000 in
set_option maxRecDepth 100000 in
theorem xk_X10_back (l : Launch) (D : va_G) (q : Nat → Nat) (cA : Nat → ClassId) (F : Nat → Nat → Int32) (I R : Nat → Nat → Int32) (J : Nat → Nat → Int64) (hI : xInv F (I, R, J)) (pa0 : Int32) : zMi l D vwCl (zXtys cA) 81 q (zXd q cA) yX10_back cX10_back 3 (some .int) ({ frames := 6, cells := 0, slots := 0, locals := 156 } : Room) [.ref (q 0), .int (pa0)] (I, R, J) (fun r u => ((pa0.toInt < 0 ∨ 2 < pa0.toInt) ∧ r = (-2) ∧ u = (I, R, J)) ∨ (¬ (pa0.toInt < 0 ∨ 2 < pa0.toInt) ∧ xkept F pa0 = nI 0 ∧ r = (-6) ∧ u = (I, R, J)) ∨ (¬ (pa0.toInt < 0 ∨ 2 < pa0.toInt) ∧ xkept F pa0 ≠ nI 0 ∧ r = nI 0 ∧ xInv F u)) := by
  intro sz
  refine z_body (by decide +kernel) (Nat.le_of_ble_eq_true rfl) (fun p e s m below meth c ls hx hb hml hr ht hown hlocks hsz hK hP hD hS hl => ?_)
  have hA : ∀ a, s.heap.size ≤ a → zA 81 q sz a := fun a h => Or.inr (hsz ▸ h)
  have hl : lv_has ls 3 [(0, .ref (q 0)), (1, .int (pa0))] := hl
  refine lv_iload_n hx hb dX10_back_0 rfl (lv_at hl 1 rfl) ?_
  refine lv_if_lt (tgt := 9) hx hb dX10_back_1 (by decide) (fun c_1 => ?_) (fun c_1 => ?_)
  · have t_c_1 := z_ltT c_1
    have f_2 : zR (-2147483648) (-1) (pa0) := zR_ltx t_c_1 (zR_any (pa0)) zk_z (by decide)
    refine lv_bipush (v := (-2)) hx hb dX10_back_9 (by decide +kernel) ?_
    exact z_iret (v := (-2)) hx hb hr hlocks hP hD hS dX10_back_11 (Or.inl ⟨(by obtain ⟨_, _⟩ := f_2; omega), rfl, rfl⟩)
  · have t_c_1 := z_ltF c_1
    have f_3 : zR 0 2147483647 (pa0) := zR_ley t_c_1 zk_z (zR_any (pa0)) (by decide)
    refine lv_iload_n hx hb dX10_back_4 rfl (lv_at hl 1 rfl) ?_
    refine lv_iconst (v := nI 3) hx hb dX10_back_5 (by decide +kernel) ?_
    refine lv_icmp_lt (tgt := 12) hx hb dX10_back_6 (by decide) (fun c_4 => ?_) (fun c_4 => ?_)
    · have t_c_4 := z_ltT c_4
      have f_5 : zR 0 2 (pa0) := zR_ltx t_c_4 f_3 zk_3 (by decide)
      refine lv_aload_n hx hb dX10_back_12 rfl (lv_at hl 0 rfl) ?_
      refine z_get hx hb ht hown hK hP ziX10 rfl 0 (by decide) 10 (by decide) hw_2_103 rfl (v := .ref (q 47)) rfl dX10_back_13 ?_
      refine lv_iload_n hx hb dX10_back_16 rfl (lv_at hl 1 rfl) ?_
      obtain ⟨n_6, hn_6, rfl⟩ := z_ex (x := pa0) (N := 3) (zR_w f_5 (a' := 0) (b' := 2) (by decide)).1 (Int.lt_of_le_of_lt (zR_w f_5 (a' := 0) (b' := 2) (by decide)).2 (by decide))
      rcases (show n_6 = 0 ∨ n_6 = 1 ∨ n_6 = 2 by omega) with rfl | rfl | rfl
      · refine va_aldq hx hb hK hP 47 36 (zw_at (by decide) rfl) rfl (vp_in_nI (by decide) (by decide)) dX10_back_17 ?_
        refine W.eq (g2 := F0 m 18 ls (.ref (q 48) :: [])) rfl ?_
        refine lv_astore_n (lv' := [(2, .ref (q 48)), (0, .ref (q 0)), (1, .int (nI 0))]) hx hb dX10_back_18 rfl hl (by decide) rfl (fun ls hl => ?_)
        refine lv_aload_n hx hb dX10_back_19 rfl (lv_at hl 0 rfl) ?_
        refine z_get hx hb ht hown hK hP ziX5 rfl 48 (by decide) 0 (by decide) hw_2_60 rfl (v := .int (I 48 0)) rfl dX10_back_20 ?_
        have f_7 : zR 0 1 (I 48 0) := xI hI 48 0
        refine lv_if_ne (tgt := 29) hx hb dX10_back_23 (by decide) (fun c_8 => ?_) (fun c_8 => ?_)
        · have t_c_8 := z_eqF c_8
          have f_9 : zR 1 1 (I 48 0) := zR_nex t_c_8 f_7 zk_z (by decide)
          refine lv_aload_n hx hb dX10_back_29 rfl (lv_at hl 1 rfl) ?_
          refine z_get hx hb ht hown hK hP ziX10 rfl 0 (by decide) 1 (by decide) hw_2_94 rfl (v := .ref (q 3)) rfl dX10_back_30 ?_
          refine lv_aload_n hx hb dX10_back_33 rfl (lv_at hl 0 rfl) ?_
          refine z_get hx hb ht hown hK hP ziX5 rfl 48 (by decide) 1 (by decide) hw_2_62 rfl (v := .ref (q 49)) rfl dX10_back_34 ?_
          refine z_callVv (k := 3) (As := [.ref (q 49)]) (rest := []) hx hb hml hown ht (xk_X2_copyFrom_4 l D q cA F _ _ _ hI ) hw_3_38 hmX2_copyFrom ⟨rfl, rfl⟩ (na := 1) rfl (by decide +kernel) (by decide) (by decide) rfl rfl hK hP hD hS hA hl.1 rfl (Nat.le_of_ble_eq_true rfl) ⟨Nat.zero_le _, Nat.zero_le _⟩ dX10_back_37 (fun I_10 R_10 J_10 H locs hp_10 hP hD hS _ _ => ?_)
          refine lv_aload_n hx hb dX10_back_40 rfl (lv_at hl 1 rfl) ?_
          refine z_get hx hb ht hown hK hP ziX10 rfl 0 (by decide) 3 (by decide) hw_2_96 rfl (v := .ref (q 13)) rfl dX10_back_41 ?_
          refine lv_aload_n hx hb dX10_back_44 rfl (lv_at hl 0 rfl) ?_
          refine z_get hx hb ht hown hK hP ziX5 rfl 48 (by decide) 2 (by decide) hw_2_64 rfl (v := .ref (q 54)) rfl dX10_back_45 ?_
          refine z_callVv (k := 13) (As := [.ref (q 54)]) (rest := []) hx hb hml hown ht (xk_X0_copyFrom_3 l D q cA F _ _ _ hp_10 ) hw_5_145 hmX0_copyFrom ⟨rfl, rfl⟩ (na := 1) rfl (by decide +kernel) (by decide) (by decide) rfl rfl hK hP hD hS hA hl.1 rfl (Nat.le_of_ble_eq_true rfl) ⟨Nat.zero_le _, Nat.zero_le _⟩ dX10_back_48 (fun I_11 R_11 J_11 H locs hp_11 hP hD hS _ _ => ?_)
          refine lv_aload_n hx hb dX10_back_51 rfl (lv_at hl 1 rfl) ?_
          refine z_get hx hb ht hown hK hP ziX10 rfl 0 (by decide) 3 (by decide) hw_2_96 rfl (v := .ref (q 13)) rfl dX10_back_52 ?_
          refine lv_aload_n hx hb dX10_back_55 rfl (lv_at hl 1 rfl) ?_
          refine z_get hx hb ht hown hK hP ziX10 rfl 0 (by decide) 4 (by decide) hw_2_97 rfl (v := .ref (q 15)) rfl dX10_back_56 ?_
          refine z_callVv (k := 13) (As := [.ref (q 15)]) (rest := []) hx hb hml hown ht (xk_X0_replay l D q cA F _ _ _ hp_11 ) hw_4_8 hmX0_replay ⟨rfl, rfl⟩ (na := 1) rfl (by decide +kernel) (by decide) (by decide) rfl rfl hK hP hD hS hA hl.1 rfl (Nat.le_of_ble_eq_true rfl) ⟨Nat.zero_le _, Nat.zero_le _⟩ dX10_back_59 (fun I_12 R_12 J_12 H locs hp_12 hP hD hS _ _ => ?_)
          refine lv_iconst (v := nI 0) hx hb dX10_back_62 (by decide +kernel) ?_
          exact z_iret (v := nI 0) hx hb hr hlocks hP hD hS dX10_back_63 (Or.inr (Or.inr ⟨(by obtain ⟨_, _⟩ := zk_0; omega), (fun h => t_c_8 (congrArg Int32.toInt ((xFr hI 48 0 rfl).trans h))), rfl, hp_12⟩))
        · have t_c_8 := z_eqT c_8
          have f_13 : zR 0 0 (I 48 0) := zR_eqx t_c_8 zk_z
          refine lv_bipush (v := (-6)) hx hb dX10_back_26 (by decide +kernel) ?_
          exact z_iret (v := (-6)) hx hb hr hlocks hP hD hS dX10_back_28 (Or.inr (Or.inl ⟨(by obtain ⟨_, _⟩ := zk_0; omega), (xFr hI 48 0 rfl).symm.trans (Int32.toInt_inj.mp t_c_8), rfl, rfl⟩))
      · refine va_aldq hx hb hK hP 47 36 (zw_at (by decide) rfl) rfl (vp_in_nI (by decide) (by decide)) dX10_back_17 ?_
        refine W.eq (g2 := F0 m 18 ls (.ref (q 56) :: [])) rfl ?_
        refine lv_astore_n (lv' := [(2, .ref (q 56)), (0, .ref (q 0)), (1, .int (nI 1))]) hx hb dX10_back_18 rfl hl (by decide) rfl (fun ls hl => ?_)
        refine lv_aload_n hx hb dX10_back_19 rfl (lv_at hl 0 rfl) ?_
        refine z_get hx hb ht hown hK hP ziX5 rfl 56 (by decide) 0 (by decide) hw_2_60 rfl (v := .int (I 56 0)) rfl dX10_back_20 ?_
        have f_14 : zR 0 1 (I 56 0) := xI hI 56 0
        refine lv_if_ne (tgt := 29) hx hb dX10_back_23 (by decide) (fun c_15 => ?_) (fun c_15 => ?_)
        · have t_c_15 := z_eqF c_15
          have f_16 : zR 1 1 (I 56 0) := zR_nex t_c_15 f_14 zk_z (by decide)
          refine lv_aload_n hx hb dX10_back_29 rfl (lv_at hl 1 rfl) ?_
          refine z_get hx hb ht hown hK hP ziX10 rfl 0 (by decide) 1 (by decide) hw_2_94 rfl (v := .ref (q 3)) rfl dX10_back_30 ?_
          refine lv_aload_n hx hb dX10_back_33 rfl (lv_at hl 0 rfl) ?_
          refine z_get hx hb ht hown hK hP ziX5 rfl 56 (by decide) 1 (by decide) hw_2_62 rfl (v := .ref (q 57)) rfl dX10_back_34 ?_
          refine z_callVv (k := 3) (As := [.ref (q 57)]) (rest := []) hx hb hml hown ht (xk_X2_copyFrom_5 l D q cA F _ _ _ hI ) hw_3_38 hmX2_copyFrom ⟨rfl, rfl⟩ (na := 1) rfl (by decide +kernel) (by decide) (by decide) rfl rfl hK hP hD hS hA hl.1 rfl (Nat.le_of_ble_eq_true rfl) ⟨Nat.zero_le _, Nat.zero_le _⟩ dX10_back_37 (fun I_17 R_17 J_17 H locs hp_17 hP hD hS _ _ => ?_)
          refine lv_aload_n hx hb dX10_back_40 rfl (lv_at hl 1 rfl) ?_
          refine z_get hx hb ht hown hK hP ziX10 rfl 0 (by decide) 3 (by decide) hw_2_96 rfl (v := .ref (q 13)) rfl dX10_back_41 ?_
          refine lv_aload_n hx hb dX10_back_44 rfl (lv_at hl 0 rfl) ?_
          refine z_get hx hb ht hown hK hP ziX5 rfl 56 (by decide) 2 (by decide) hw_2_64 rfl (v := .ref (q 62)) rfl dX10_back_45 ?_
          refine z_callVv (k := 13) (As := [.ref (q 62)]) (rest := []) hx hb hml hown ht (xk_X0_copyFrom_4 l D q cA F _ _ _ hp_17 ) hw_5_145 hmX0_copyFrom ⟨rfl, rfl⟩ (na := 1) rfl (by decide +kernel) (by decide) (by decide) rfl rfl hK hP hD hS hA hl.1 rfl (Nat.le_of_ble_eq_true rfl) ⟨Nat.zero_le _, Nat.zero_le _⟩ dX10_back_48 (fun I_18 R_18 J_18 H locs hp_18 hP hD hS _ _ => ?_)
          refine lv_aload_n hx hb dX10_back_51 rfl (lv_at hl 1 rfl) ?_
          refine z_get hx hb ht hown hK hP ziX10 rfl 0 (by decide) 3 (by decide) hw_2_96 rfl (v := .ref (q 13)) rfl dX10_back_52 ?_
          refine lv_aload_n hx hb dX10_back_55 rfl (lv_at hl 1 rfl) ?_
          refine z_get hx hb ht hown hK hP ziX10 rfl 0 (by decide) 4 (by decide) hw_2_97 rfl (v := .ref (q 15)) rfl dX10_back_56 ?_
          refine z_callVv (k := 13) (As := [.ref (q 15)]) (rest := []) hx hb hml hown ht (xk_X0_replay l D q cA F _ _ _ hp_18 ) hw_4_8 hmX0_replay ⟨rfl, rfl⟩ (na := 1) rfl (by decide +kernel) (by decide) (by decide) rfl rfl hK hP hD hS hA hl.1 rfl (Nat.le_of_ble_eq_true rfl) ⟨Nat.zero_le _, Nat.zero_le _⟩ dX10_back_59 (fun I_19 R_19 J_19 H locs hp_19 hP hD hS _ _ => ?_)
          refine lv_iconst (v := nI 0) hx hb dX10_back_62 (by decide +kernel) ?_
          exact z_iret (v := nI 0) hx hb hr hlocks hP hD hS dX10_back_63 (Or.inr (Or.inr ⟨(by obtain ⟨_, _⟩ := zk_1; omega), (fun h => t_c_15 (congrArg Int32.toInt ((xFr hI 56 0 rfl).trans h))), rfl, hp_19⟩))
        · have t_c_15 := z_eqT c_15
          have f_20 : zR 0 0 (I 56 0) := zR_eqx t_c_15 zk_z
          refine lv_bipush (v := (-6)) hx hb dX10_back_26 (by decide +kernel) ?_
          exact z_iret (v := (-6)) hx hb hr hlocks hP hD hS dX10_back_28 (Or.inr (Or.inl ⟨(by obtain ⟨_, _⟩ := zk_1; omega), (xFr hI 56 0 rfl).symm.trans (Int32.toInt_inj.mp t_c_15), rfl, rfl⟩))
      · refine va_aldq hx hb hK hP 47 36 (zw_at (by decide) rfl) rfl (vp_in_nI (by decide) (by decide)) dX10_back_17 ?_
        refine W.eq (g2 := F0 m 18 ls (.ref (q 64) :: [])) rfl ?_
        refine lv_astore_n (lv' := [(2, .ref (q 64)), (0, .ref (q 0)), (1, .int (nI 2))]) hx hb dX10_back_18 rfl hl (by decide) rfl (fun ls hl => ?_)
        refine lv_aload_n hx hb dX10_back_19 rfl (lv_at hl 0 rfl) ?_
        refine z_get hx hb ht hown hK hP ziX5 rfl 64 (by decide) 0 (by decide) hw_2_60 rfl (v := .int (I 64 0)) rfl dX10_back_20 ?_
        have f_21 : zR 0 1 (I 64 0) := xI hI 64 0
        refine lv_if_ne (tgt := 29) hx hb dX10_back_23 (by decide) (fun c_22 => ?_) (fun c_22 => ?_)
        · have t_c_22 := z_eqF c_22
          have f_23 : zR 1 1 (I 64 0) := zR_nex t_c_22 f_21 zk_z (by decide)
          refine lv_aload_n hx hb dX10_back_29 rfl (lv_at hl 1 rfl) ?_
          refine z_get hx hb ht hown hK hP ziX10 rfl 0 (by decide) 1 (by decide) hw_2_94 rfl (v := .ref (q 3)) rfl dX10_back_30 ?_
          refine lv_aload_n hx hb dX10_back_33 rfl (lv_at hl 0 rfl) ?_
          refine z_get hx hb ht hown hK hP ziX5 rfl 64 (by decide) 1 (by decide) hw_2_62 rfl (v := .ref (q 65)) rfl dX10_back_34 ?_
          refine z_callVv (k := 3) (As := [.ref (q 65)]) (rest := []) hx hb hml hown ht (xk_X2_copyFrom_6 l D q cA F _ _ _ hI ) hw_3_38 hmX2_copyFrom ⟨rfl, rfl⟩ (na := 1) rfl (by decide +kernel) (by decide) (by decide) rfl rfl hK hP hD hS hA hl.1 rfl (Nat.le_of_ble_eq_true rfl) ⟨Nat.zero_le _, Nat.zero_le _⟩ dX10_back_37 (fun I_24 R_24 J_24 H locs hp_24 hP hD hS _ _ => ?_)
          refine lv_aload_n hx hb dX10_back_40 rfl (lv_at hl 1 rfl) ?_
          refine z_get hx hb ht hown hK hP ziX10 rfl 0 (by decide) 3 (by decide) hw_2_96 rfl (v := .ref (q 13)) rfl dX10_back_41 ?_
          refine lv_aload_n hx hb dX10_back_44 rfl (lv_at hl 0 rfl) ?_
          refine z_get hx hb ht hown hK hP ziX5 rfl 64 (by decide) 2 (by decide) hw_2_64 rfl (v := .ref (q 70)) rfl dX10_back_45 ?_
          refine z_callVv (k := 13) (As := [.ref (q 70)]) (rest := []) hx hb hml hown ht (xk_X0_copyFrom_5 l D q cA F _ _ _ hp_24 ) hw_5_145 hmX0_copyFrom ⟨rfl, rfl⟩ (na := 1) rfl (by decide +kernel) (by decide) (by decide) rfl rfl hK hP hD hS hA hl.1 rfl (Nat.le_of_ble_eq_true rfl) ⟨Nat.zero_le _, Nat.zero_le _⟩ dX10_back_48 (fun I_25 R_25 J_25 H locs hp_25 hP hD hS _ _ => ?_)
          refine lv_aload_n hx hb dX10_back_51 rfl (lv_at hl 1 rfl) ?_
          refine z_get hx hb ht hown hK hP ziX10 rfl 0 (by decide) 3 (by decide) hw_2_96 rfl (v := .ref (q 13)) rfl dX10_back_52 ?_
          refine lv_aload_n hx hb dX10_back_55 rfl (lv_at hl 1 rfl) ?_
          refine z_get hx hb ht hown hK hP ziX10 rfl 0 (by decide) 4 (by decide) hw_2_97 rfl (v := .ref (q 15)) rfl dX10_back_56 ?_
          refine z_callVv (k := 13) (As := [.ref (q 15)]) (rest := []) hx hb hml hown ht (xk_X0_replay l D q cA F _ _ _ hp_25 ) hw_4_8 hmX0_replay ⟨rfl, rfl⟩ (na := 1) rfl (by decide +kernel) (by decide) (by decide) rfl rfl hK hP hD hS hA hl.1 rfl (Nat.le_of_ble_eq_true rfl) ⟨Nat.zero_le _, Nat.zero_le _⟩ dX10_back_59 (fun I_26 R_26 J_26 H locs hp_26 hP hD hS _ _ => ?_)
          refine lv_iconst (v := nI 0) hx hb dX10_back_62 (by decide +kernel) ?_
          exact z_iret (v := nI 0) hx hb hr hlocks hP hD hS dX10_back_63 (Or.inr (Or.inr ⟨(by obtain ⟨_, _⟩ := zk_2; omega), (fun h => t_c_22 (congrArg Int32.toInt ((xFr hI 64 0 rfl).trans h))), rfl, hp_26⟩))
        · have t_c_22 := z_eqT c_22
          have f_27 : zR 0 0 (I 64 0) := zR_eqx t_c_22 zk_z
          refine lv_bipush (v := (-6)) hx hb dX10_back_26 (by decide +kernel) ?_
          exact z_iret (v := (-6)) hx hb hr hlocks hP hD hS dX10_back_28 (Or.inr (Or.inl ⟨(by obtain ⟨_, _⟩ := zk_2; omega), (xFr hI 64 0 rfl).symm.trans (Int32.toInt_inj.mp t_c_22), rfl, rfl⟩))
    · have t_c_4 := z_ltF c_4
      have f_28 : zR 3 2147483647 (pa0) := zR_ley t_c_4 zk_3 f_3 (by decide)
      refine lv_bipush (v := (-2)) hx hb dX10_back_9 (by decide +kernel) ?_
      exact z_iret (v := (-2)) hx hb hr hlocks hP hD hS dX10_back_11 (Or.inl ⟨(by obtain ⟨_, _⟩ := f_28; omega), rfl, rfl⟩)
set_option maxHeartbeats 4000000 in
set_option maxRecDepth 100000 in
theorem xk_J7_fill_d0a16 (l : Launch) (D : va_G) (q : Nat → Nat) (cA : Nat → ClassId) (F : Nat → Nat → Int32) (I R : Nat → Nat → Int32) (J : Nat → Nat → Int64) (hI : xInv F (I, R, J)) (pa1 : Int64) : zMv l D vwCl (zXtys cA) 81 q (zXd q cA) yJ7_fill_d0a16 cJ7_fill_d0a16 5 none ({ frames := 0, cells := 0, slots := 0, locals := 0 } : Room) [.ref (q 74), .long (pa1)] (I, R, J) (fun u => xInv F u) := by
  intro sz
  refine z_body (by decide +kernel) (Nat.le_of_ble_eq_true rfl) (fun p e s m below meth c ls hx hb hml hr ht hown hlocks hsz hK hP hD hS hl => ?_)
  have hA : ∀ a, s.heap.size ≤ a → zA 81 q sz a := fun a h => Or.inr (hsz ▸ h)
  have hl : lv_has ls 5 [(0, .ref (q 74)), (1, .long (pa1))] := hl
  refine lv_iconst (v := nI 0) hx hb dJ7_fill_d0a16_0 (by decide +kernel) ?_
  refine lv_istore_n (lv' := [(3, .int (nI 0)), (0, .ref (q 74)), (1, .long (pa1))]) hx hb dJ7_fill_d0a16_1 rfl hl (by decide) rfl (fun ls hl => ?_)
  refine lv_aload_n hx hb dJ7_fill_d0a16_2 rfl (lv_at hl 1 rfl) ?_
  refine z_alen hx hb hK hP 74 (by decide) 53 rfl rfl dJ7_fill_d0a16_3 ?_
  refine lv_istore (lv' := [(4, .int (nI 60)), (3, .int (nI 0)), (0, .ref (q 74)), (1, .long (pa1))]) hx hb dJ7_fill_d0a16_4 hl (by decide) rfl (fun ls hl => ?_)
  have loop_22 : ∀ N : Nat, ∀ x_20 : Int32, zR 0 60 x_20 → ∀ J_21 : Nat → Nat → Int64, xInv F (I, R, J_21) → (2147483648 - (x_20).toInt).toNat < N → ∀ (H : Heap) (locs : List Loc), va_P D vwCl (zw 81 q (zXd q cA) I R J_21) H → va_D (zA 81 q sz) (zw 81 q (zXd q cA) I R J_21) → va_S (zA 81 q sz) s.heap H locs → ∀ ls : Array Slot, lv_has ls 5 [(0, .ref (q 74)), (1, .long (pa1)), (3, .int (x_20)), (4, .int (nI 60))] → W p l e ({ frames := 0, cells := 0, slots := 0, locals := 0 } : Room) s m ([.ref (q 74), .long (pa1)] : List Value).toArray below meth c H locs 0 0 (MQ below (va_Qv (fun u => xInv F u) (zB D vwCl 81 q (zXd q cA) sz) (zA 81 q sz)) ([.ref (q 74), .long (pa1)] : List Value).toArray s 0 0 (zA 81 q sz)) (F0 m 6 ls []) := by
    intro N
    induction N with
    | zero => intro x_20 hx_20 J_21 hI_21 hN; exact absurd hN (Nat.not_lt_zero _)
    | succ N ih_24 =>
      intro x_20 hx_20 J_21 hI_21 hN_23 H locs hP hD hS ls hl
      refine lv_iload_n hx hb dJ7_fill_d0a16_6 rfl (lv_at hl 2 rfl) ?_
      refine lv_iload hx hb dJ7_fill_d0a16_7 (lv_at hl 3 rfl) ?_
      refine lv_icmp_ge (tgt := 22) hx hb dJ7_fill_d0a16_9 (by decide) (fun c_25 => ?_) (fun c_25 => ?_)
      · have t_c_25 := z_leT c_25
        have f_26 : zR 60 60 (x_20) := zR_ley t_c_25 zk_60 hx_20 (by decide)
        exact z_vret hx hb hr hlocks hP hD hS dJ7_fill_d0a16_22 hI_21
      · have t_c_25 := z_leF c_25
        have f_27 : zR 0 59 (x_20) := zR_ltx t_c_25 hx_20 zk_60 (by decide)
        refine lv_aload_n hx hb dJ7_fill_d0a16_12 rfl (lv_at hl 0 rfl) ?_
        refine lv_iload_n hx hb dJ7_fill_d0a16_13 rfl (lv_at hl 2 rfl) ?_
        refine lv_lload_n hx hb dJ7_fill_d0a16_14 rfl (lv_at hl 1 rfl) ?_
        refine z_last hx hb hK hP hD hS 74 (by decide) 53 (fun _ => rfl) rfl (zR_vin f_27 (by decide)) dJ7_fill_d0a16_15 (fun H locs hP hD hS => ?_)
        have hI_28 := xInv_J (J2 := (zp J_21 74 (x_20).toNatClampNeg (pa1))) hI_21
        obtain ⟨v_29, ev_29⟩ : ∃ y : Int32, y = x_20 + nI 1 := ⟨_, rfl⟩
        have hv_29 : zR 1 60 v_29 := ev_29 ▸ zR_add f_27 zk_1 (by decide)
        have mv_29 : v_29.toInt = (x_20).toInt + 1 := by rw [ev_29, zR_addE f_27 zk_1 (by decide)]; rfl
        refine lv_iinc (v := v_29) (lv' := [(3, .int (v_29)), (0, .ref (q 74)), (1, .long (pa1)), (4, .int (nI 60))]) hx hb dJ7_fill_d0a16_16 hl (k := 2) rfl (ev_29 ▸ rfl) (by decide) rfl (fun ls hl => ?_)
        refine lv_goto (tgt := 6) hx hb dJ7_fill_d0a16_19 (by decide) ?_
        exact ih_24 (v_29) (zR_w hv_29 (by decide)) _ hI_28 (z2_up mv_29 (by decide) hN_23) _ _ hP hD hS _ (lv_sub hl [1, 2, 0, 3] rfl)
  exact loop_22 _ (nI 0) (zR_w zk_0 (by decide)) _ hI (Nat.lt_succ_self _) _ _ hP hD hS _ (lv_sub hl [2, 3, 1, 0] rfl)
set_option maxHeartbeats 4000000 in
set_option maxRecDepth 100000 in
theorem xk_X6_begin (l : Launch) (D : va_G) (q : Nat → Nat) (cA : Nat → ClassId) (F : Nat → Nat → Int32) (I R : Nat → Nat → Int32) (J : Nat → Nat → Int64) (hI : xInv F (I, R, J)) (pa0 : Int32) (hpa0 : zR 0 3 pa0) (pa1 : Int32) (hpa1 : zR 0 60 pa1) : zMv l D vwCl (zXtys cA) 81 q (zXd q cA) yX6_begin cX6_begin 3 none ({ frames := 1, cells := 0, slots := 0, locals := 24 } : Room) [.ref (q 73), .int (pa0), .int (pa1)] (I, R, J) (fun u => xInv (zp (zp F 73 0 (pa0)) 73 1 (pa1)) u) := by
  intro sz
  refine z_body (by decide +kernel) (Nat.le_of_ble_eq_true rfl) (fun p e s m below meth c ls hx hb hml hr ht hown hlocks hsz hK hP hD hS hl => ?_)
  have hA : ∀ a, s.heap.size ≤ a → zA 81 q sz a := fun a h => Or.inr (hsz ▸ h)
  have hl : lv_has ls 3 [(0, .ref (q 73)), (1, .int (pa0)), (2, .int (pa1))] := hl
  refine lv_aload_n hx hb dX6_begin_0 rfl (lv_at hl 0 rfl) ?_
  refine lv_iload_n hx hb dX6_begin_1 rfl (lv_at hl 1 rfl) ?_
  refine z_putI hx hb ht hown hK hP hD hS ziX6 tyX6 tyX6_ok nmX6 rfl 73 (by decide) 0 (by decide) hw_2_77 rfl (v := pa0) rfl rfl rfl (Nat.le_of_ble_eq_true rfl) rfl dX6_begin_2 (fun H locs hP hD hS => ?_)
  have hI_1 := xInv_F hI 73 0 (pa0) (zR_any (pa0))
  refine lv_aload_n hx hb dX6_begin_5 rfl (lv_at hl 0 rfl) ?_
  refine lv_iload_n hx hb dX6_begin_6 rfl (lv_at hl 2 rfl) ?_
  refine z_putI hx hb ht hown hK hP hD hS ziX6 tyX6 tyX6_ok nmX6 rfl 73 (by decide) 1 (by decide) hw_2_79 rfl (v := pa1) rfl rfl rfl (Nat.le_of_ble_eq_true rfl) rfl dX6_begin_7 (fun H locs hP hD hS => ?_)
  have hI_2 := xInv_F hI_1 73 1 (pa1) (zR_w hpa1 (by decide))
  refine lv_aload_n hx hb dX6_begin_10 rfl (lv_at hl 0 rfl) ?_
  refine z_get hx hb ht hown hK hP ziX6 rfl 73 (by decide) 2 (by decide) hw_2_82 rfl (v := .ref (q 74)) rfl dX6_begin_11 ?_
  refine lv_lconst (v := (0 : Int64)) hx hb dX6_begin_14 (by decide +kernel) ?_
  refine z_callSv (As := [.ref (q 74), .long ((0 : Int64))]) (rest := []) hx hb hml hown ht (xk_J7_fill_d0a16 l D q cA (zp (zp F 73 0 (pa0)) 73 1 (pa1)) _ _ _ hI_2 ((0 : Int64))) hw_5_162 hmJ7_fill_d0a16 ⟨rfl, rfl⟩ (na := 2) rfl (by decide +kernel) (by decide) hK hP hD hS hA hl.1 rfl (Nat.le_of_ble_eq_true rfl) ⟨Nat.zero_le _, Nat.zero_le _⟩ dX6_begin_15 (fun I_3 R_3 J_3 H locs hp_3 hP hD hS _ _ => ?_)
  exact z_vret hx hb hr hlocks hP hD hS dX6_begin_18 hp_3
set_option maxHeartbeats 4000000 in
set_option maxRecDepth 100000 in
theorem xk_J7_fill_d0a16_1 (l : Launch) (D : va_G) (q : Nat → Nat) (cA : Nat → ClassId) (F : Nat → Nat → Int32) (I R : Nat → Nat → Int32) (J : Nat → Nat → Int64) (hI : xInv F (I, R, J)) (pa1 : Int64) : zMv l D vwCl (zXtys cA) 81 q (zXd q cA) yJ7_fill_d0a16 cJ7_fill_d0a16 5 none ({ frames := 0, cells := 0, slots := 0, locals := 0 } : Room) [.ref (q 76), .long (pa1)] (I, R, J) (fun u => xInv F u) := by
  intro sz
  refine z_body (by decide +kernel) (Nat.le_of_ble_eq_true rfl) (fun p e s m below meth c ls hx hb hml hr ht hown hlocks hsz hK hP hD hS hl => ?_)
  have hA : ∀ a, s.heap.size ≤ a → zA 81 q sz a := fun a h => Or.inr (hsz ▸ h)
  have hl : lv_has ls 5 [(0, .ref (q 76)), (1, .long (pa1))] := hl
  refine lv_iconst (v := nI 0) hx hb dJ7_fill_d0a16_0 (by decide +kernel) ?_
  refine lv_istore_n (lv' := [(3, .int (nI 0)), (0, .ref (q 76)), (1, .long (pa1))]) hx hb dJ7_fill_d0a16_1 rfl hl (by decide) rfl (fun ls hl => ?_)
  refine lv_aload_n hx hb dJ7_fill_d0a16_2 rfl (lv_at hl 1 rfl) ?_
  refine z_alen hx hb hK hP 76 (by decide) 54 rfl rfl dJ7_fill_d0a16_3 ?_
  refine lv_istore (lv' := [(4, .int (nI 60)), (3, .int (nI 0)), (0, .ref (q 76)), (1, .long (pa1))]) hx hb dJ7_fill_d0a16_4 hl (by decide) rfl (fun ls hl => ?_)
  have loop_22 : ∀ N : Nat, ∀ x_20 : Int32, zR 0 60 x_20 → ∀ J_21 : Nat → Nat → Int64, xInv F (I, R, J_21) → (2147483648 - (x_20).toInt).toNat < N → ∀ (H : Heap) (locs : List Loc), va_P D vwCl (zw 81 q (zXd q cA) I R J_21) H → va_D (zA 81 q sz) (zw 81 q (zXd q cA) I R J_21) → va_S (zA 81 q sz) s.heap H locs → ∀ ls : Array Slot, lv_has ls 5 [(0, .ref (q 76)), (1, .long (pa1)), (3, .int (x_20)), (4, .int (nI 60))] → W p l e ({ frames := 0, cells := 0, slots := 0, locals := 0 } : Room) s m ([.ref (q 76), .long (pa1)] : List Value).toArray below meth c H locs 0 0 (MQ below (va_Qv (fun u => xInv F u) (zB D vwCl 81 q (zXd q cA) sz) (zA 81 q sz)) ([.ref (q 76), .long (pa1)] : List Value).toArray s 0 0 (zA 81 q sz)) (F0 m 6 ls []) := by
    intro N
    induction N with
    | zero => intro x_20 hx_20 J_21 hI_21 hN; exact absurd hN (Nat.not_lt_zero _)
    | succ N ih_24 =>
      intro x_20 hx_20 J_21 hI_21 hN_23 H locs hP hD hS ls hl
      refine lv_iload_n hx hb dJ7_fill_d0a16_6 rfl (lv_at hl 2 rfl) ?_
      refine lv_iload hx hb dJ7_fill_d0a16_7 (lv_at hl 3 rfl) ?_
      refine lv_icmp_ge (tgt := 22) hx hb dJ7_fill_d0a16_9 (by decide) (fun c_25 => ?_) (fun c_25 => ?_)
      · have t_c_25 := z_leT c_25
        have f_26 : zR 60 60 (x_20) := zR_ley t_c_25 zk_60 hx_20 (by decide)
        exact z_vret hx hb hr hlocks hP hD hS dJ7_fill_d0a16_22 hI_21
      · have t_c_25 := z_leF c_25
        have f_27 : zR 0 59 (x_20) := zR_ltx t_c_25 hx_20 zk_60 (by decide)
        refine lv_aload_n hx hb dJ7_fill_d0a16_12 rfl (lv_at hl 0 rfl) ?_
        refine lv_iload_n hx hb dJ7_fill_d0a16_13 rfl (lv_at hl 2 rfl) ?_
        refine lv_lload_n hx hb dJ7_fill_d0a16_14 rfl (lv_at hl 1 rfl) ?_
        refine z_last hx hb hK hP hD hS 76 (by decide) 54 (fun _ => rfl) rfl (zR_vin f_27 (by decide)) dJ7_fill_d0a16_15 (fun H locs hP hD hS => ?_)
        have hI_28 := xInv_J (J2 := (zp J_21 76 (x_20).toNatClampNeg (pa1))) hI_21
        obtain ⟨v_29, ev_29⟩ : ∃ y : Int32, y = x_20 + nI 1 := ⟨_, rfl⟩
        have hv_29 : zR 1 60 v_29 := ev_29 ▸ zR_add f_27 zk_1 (by decide)
        have mv_29 : v_29.toInt = (x_20).toInt + 1 := by rw [ev_29, zR_addE f_27 zk_1 (by decide)]; rfl
        refine lv_iinc (v := v_29) (lv' := [(3, .int (v_29)), (0, .ref (q 76)), (1, .long (pa1)), (4, .int (nI 60))]) hx hb dJ7_fill_d0a16_16 hl (k := 2) rfl (ev_29 ▸ rfl) (by decide) rfl (fun ls hl => ?_)
        refine lv_goto (tgt := 6) hx hb dJ7_fill_d0a16_19 (by decide) ?_
        exact ih_24 (v_29) (zR_w hv_29 (by decide)) _ hI_28 (z2_up mv_29 (by decide) hN_23) _ _ hP hD hS _ (lv_sub hl [1, 2, 0, 3] rfl)
  exact loop_22 _ (nI 0) (zR_w zk_0 (by decide)) _ hI (Nat.lt_succ_self _) _ _ hP hD hS _ (lv_sub hl [2, 3, 1, 0] rfl)
set_option maxHeartbeats 4000000 in
set_option maxRecDepth 100000 in
theorem xk_X6_begin_1 (l : Launch) (D : va_G) (q : Nat → Nat) (cA : Nat → ClassId) (F : Nat → Nat → Int32) (I R : Nat → Nat → Int32) (J : Nat → Nat → Int64) (hI : xInv F (I, R, J)) (pa0 : Int32) (hpa0 : zR 0 3 pa0) (pa1 : Int32) (hpa1 : zR 0 60 pa1) : zMv l D vwCl (zXtys cA) 81 q (zXd q cA) yX6_begin cX6_begin 3 none ({ frames := 1, cells := 0, slots := 0, locals := 24 } : Room) [.ref (q 75), .int (pa0), .int (pa1)] (I, R, J) (fun u => xInv (zp (zp F 75 0 (pa0)) 75 1 (pa1)) u) := by
  intro sz
  refine z_body (by decide +kernel) (Nat.le_of_ble_eq_true rfl) (fun p e s m below meth c ls hx hb hml hr ht hown hlocks hsz hK hP hD hS hl => ?_)
  have hA : ∀ a, s.heap.size ≤ a → zA 81 q sz a := fun a h => Or.inr (hsz ▸ h)
  have hl : lv_has ls 3 [(0, .ref (q 75)), (1, .int (pa0)), (2, .int (pa1))] := hl
  refine lv_aload_n hx hb dX6_begin_0 rfl (lv_at hl 0 rfl) ?_
  refine lv_iload_n hx hb dX6_begin_1 rfl (lv_at hl 1 rfl) ?_
  refine z_putI hx hb ht hown hK hP hD hS ziX6 tyX6 tyX6_ok nmX6 rfl 75 (by decide) 0 (by decide) hw_2_77 rfl (v := pa0) rfl rfl rfl (Nat.le_of_ble_eq_true rfl) rfl dX6_begin_2 (fun H locs hP hD hS => ?_)
  have hI_1 := xInv_F hI 75 0 (pa0) (zR_any (pa0))
  refine lv_aload_n hx hb dX6_begin_5 rfl (lv_at hl 0 rfl) ?_
  refine lv_iload_n hx hb dX6_begin_6 rfl (lv_at hl 2 rfl) ?_
  refine z_putI hx hb ht hown hK hP hD hS ziX6 tyX6 tyX6_ok nmX6 rfl 75 (by decide) 1 (by decide) hw_2_79 rfl (v := pa1) rfl rfl rfl (Nat.le_of_ble_eq_true rfl) rfl dX6_begin_7 (fun H locs hP hD hS => ?_)
  have hI_2 := xInv_F hI_1 75 1 (pa1) (zR_w hpa1 (by decide))
  refine lv_aload_n hx hb dX6_begin_10 rfl (lv_at hl 0 rfl) ?_
  refine z_get hx hb ht hown hK hP ziX6 rfl 75 (by decide) 2 (by decide) hw_2_82 rfl (v := .ref (q 76)) rfl dX6_begin_11 ?_
  refine lv_lconst (v := (0 : Int64)) hx hb dX6_begin_14 (by decide +kernel) ?_
  refine z_callSv (As := [.ref (q 76), .long ((0 : Int64))]) (rest := []) hx hb hml hown ht (xk_J7_fill_d0a16_1 l D q cA (zp (zp F 75 0 (pa0)) 75 1 (pa1)) _ _ _ hI_2 ((0 : Int64))) hw_5_162 hmJ7_fill_d0a16 ⟨rfl, rfl⟩ (na := 2) rfl (by decide +kernel) (by decide) hK hP hD hS hA hl.1 rfl (Nat.le_of_ble_eq_true rfl) ⟨Nat.zero_le _, Nat.zero_le _⟩ dX6_begin_15 (fun I_3 R_3 J_3 H locs hp_3 hP hD hS _ _ => ?_)
  exact z_vret hx hb hr hlocks hP hD hS dX6_begin_18 hp_3
set_option maxHeartbeats 4000000 in
set_option maxRecDepth 100000 in
theorem xk_J7_fill_d0a16_2 (l : Launch) (D : va_G) (q : Nat → Nat) (cA : Nat → ClassId) (F : Nat → Nat → Int32) (I R : Nat → Nat → Int32) (J : Nat → Nat → Int64) (hI : xInv F (I, R, J)) (pa1 : Int64) : zMv l D vwCl (zXtys cA) 81 q (zXd q cA) yJ7_fill_d0a16 cJ7_fill_d0a16 5 none ({ frames := 0, cells := 0, slots := 0, locals := 0 } : Room) [.ref (q 78), .long (pa1)] (I, R, J) (fun u => xInv F u) := by
  intro sz
  refine z_body (by decide +kernel) (Nat.le_of_ble_eq_true rfl) (fun p e s m below meth c ls hx hb hml hr ht hown hlocks hsz hK hP hD hS hl => ?_)
  have hA : ∀ a, s.heap.size ≤ a → zA 81 q sz a := fun a h => Or.inr (hsz ▸ h)
  have hl : lv_has ls 5 [(0, .ref (q 78)), (1, .long (pa1))] := hl
  refine lv_iconst (v := nI 0) hx hb dJ7_fill_d0a16_0 (by decide +kernel) ?_
  refine lv_istore_n (lv' := [(3, .int (nI 0)), (0, .ref (q 78)), (1, .long (pa1))]) hx hb dJ7_fill_d0a16_1 rfl hl (by decide) rfl (fun ls hl => ?_)
  refine lv_aload_n hx hb dJ7_fill_d0a16_2 rfl (lv_at hl 1 rfl) ?_
  refine z_alen hx hb hK hP 78 (by decide) 55 rfl rfl dJ7_fill_d0a16_3 ?_
  refine lv_istore (lv' := [(4, .int (nI 60)), (3, .int (nI 0)), (0, .ref (q 78)), (1, .long (pa1))]) hx hb dJ7_fill_d0a16_4 hl (by decide) rfl (fun ls hl => ?_)
  have loop_22 : ∀ N : Nat, ∀ x_20 : Int32, zR 0 60 x_20 → ∀ J_21 : Nat → Nat → Int64, xInv F (I, R, J_21) → (2147483648 - (x_20).toInt).toNat < N → ∀ (H : Heap) (locs : List Loc), va_P D vwCl (zw 81 q (zXd q cA) I R J_21) H → va_D (zA 81 q sz) (zw 81 q (zXd q cA) I R J_21) → va_S (zA 81 q sz) s.heap H locs → ∀ ls : Array Slot, lv_has ls 5 [(0, .ref (q 78)), (1, .long (pa1)), (3, .int (x_20)), (4, .int (nI 60))] → W p l e ({ frames := 0, cells := 0, slots := 0, locals := 0 } : Room) s m ([.ref (q 78), .long (pa1)] : List Value).toArray below meth c H locs 0 0 (MQ below (va_Qv (fun u => xInv F u) (zB D vwCl 81 q (zXd q cA) sz) (zA 81 q sz)) ([.ref (q 78), .long (pa1)] : List Value).toArray s 0 0 (zA 81 q sz)) (F0 m 6 ls []) := by
    intro N
    induction N with
    | zero => intro x_20 hx_20 J_21 hI_21 hN; exact absurd hN (Nat.not_lt_zero _)
    | succ N ih_24 =>
      intro x_20 hx_20 J_21 hI_21 hN_23 H locs hP hD hS ls hl
      refine lv_iload_n hx hb dJ7_fill_d0a16_6 rfl (lv_at hl 2 rfl) ?_
      refine lv_iload hx hb dJ7_fill_d0a16_7 (lv_at hl 3 rfl) ?_
      refine lv_icmp_ge (tgt := 22) hx hb dJ7_fill_d0a16_9 (by decide) (fun c_25 => ?_) (fun c_25 => ?_)
      · have t_c_25 := z_leT c_25
        have f_26 : zR 60 60 (x_20) := zR_ley t_c_25 zk_60 hx_20 (by decide)
        exact z_vret hx hb hr hlocks hP hD hS dJ7_fill_d0a16_22 hI_21
      · have t_c_25 := z_leF c_25
        have f_27 : zR 0 59 (x_20) := zR_ltx t_c_25 hx_20 zk_60 (by decide)
        refine lv_aload_n hx hb dJ7_fill_d0a16_12 rfl (lv_at hl 0 rfl) ?_
        refine lv_iload_n hx hb dJ7_fill_d0a16_13 rfl (lv_at hl 2 rfl) ?_
        refine lv_lload_n hx hb dJ7_fill_d0a16_14 rfl (lv_at hl 1 rfl) ?_
        refine z_last hx hb hK hP hD hS 78 (by decide) 55 (fun _ => rfl) rfl (zR_vin f_27 (by decide)) dJ7_fill_d0a16_15 (fun H locs hP hD hS => ?_)
        have hI_28 := xInv_J (J2 := (zp J_21 78 (x_20).toNatClampNeg (pa1))) hI_21
        obtain ⟨v_29, ev_29⟩ : ∃ y : Int32, y = x_20 + nI 1 := ⟨_, rfl⟩
        have hv_29 : zR 1 60 v_29 := ev_29 ▸ zR_add f_27 zk_1 (by decide)
        have mv_29 : v_29.toInt = (x_20).toInt + 1 := by rw [ev_29, zR_addE f_27 zk_1 (by decide)]; rfl
        refine lv_iinc (v := v_29) (lv' := [(3, .int (v_29)), (0, .ref (q 78)), (1, .long (pa1)), (4, .int (nI 60))]) hx hb dJ7_fill_d0a16_16 hl (k := 2) rfl (ev_29 ▸ rfl) (by decide) rfl (fun ls hl => ?_)
        refine lv_goto (tgt := 6) hx hb dJ7_fill_d0a16_19 (by decide) ?_
        exact ih_24 (v_29) (zR_w hv_29 (by decide)) _ hI_28 (z2_up mv_29 (by decide) hN_23) _ _ hP hD hS _ (lv_sub hl [1, 2, 0, 3] rfl)
  exact loop_22 _ (nI 0) (zR_w zk_0 (by decide)) _ hI (Nat.lt_succ_self _) _ _ hP hD hS _ (lv_sub hl [2, 3, 1, 0] rfl)
set_option maxHeartbeats 4000000 in
set_option maxRecDepth 100000 in
theorem xk_X6_begin_2 (l : Launch) (D : va_G) (q : Nat → Nat) (cA : Nat → ClassId) (F : Nat → Nat → Int32) (I R : Nat → Nat → Int32) (J : Nat → Nat → Int64) (hI : xInv F (I, R, J)) (pa0 : Int32) (hpa0 : zR 0 3 pa0) (pa1 : Int32) (hpa1 : zR 0 60 pa1) : zMv l D vwCl (zXtys cA) 81 q (zXd q cA) yX6_begin cX6_begin 3 none ({ frames := 1, cells := 0, slots := 0, locals := 24 } : Room) [.ref (q 77), .int (pa0), .int (pa1)] (I, R, J) (fun u => xInv (zp (zp F 77 0 (pa0)) 77 1 (pa1)) u) := by
  intro sz
  refine z_body (by decide +kernel) (Nat.le_of_ble_eq_true rfl) (fun p e s m below meth c ls hx hb hml hr ht hown hlocks hsz hK hP hD hS hl => ?_)
  have hA : ∀ a, s.heap.size ≤ a → zA 81 q sz a := fun a h => Or.inr (hsz ▸ h)
  have hl : lv_has ls 3 [(0, .ref (q 77)), (1, .int (pa0)), (2, .int (pa1))] := hl
  refine lv_aload_n hx hb dX6_begin_0 rfl (lv_at hl 0 rfl) ?_
  refine lv_iload_n hx hb dX6_begin_1 rfl (lv_at hl 1 rfl) ?_
  refine z_putI hx hb ht hown hK hP hD hS ziX6 tyX6 tyX6_ok nmX6 rfl 77 (by decide) 0 (by decide) hw_2_77 rfl (v := pa0) rfl rfl rfl (Nat.le_of_ble_eq_true rfl) rfl dX6_begin_2 (fun H locs hP hD hS => ?_)
  have hI_1 := xInv_F hI 77 0 (pa0) (zR_any (pa0))
  refine lv_aload_n hx hb dX6_begin_5 rfl (lv_at hl 0 rfl) ?_
  refine lv_iload_n hx hb dX6_begin_6 rfl (lv_at hl 2 rfl) ?_
  refine z_putI hx hb ht hown hK hP hD hS ziX6 tyX6 tyX6_ok nmX6 rfl 77 (by decide) 1 (by decide) hw_2_79 rfl (v := pa1) rfl rfl rfl (Nat.le_of_ble_eq_true rfl) rfl dX6_begin_7 (fun H locs hP hD hS => ?_)
  have hI_2 := xInv_F hI_1 77 1 (pa1) (zR_w hpa1 (by decide))
  refine lv_aload_n hx hb dX6_begin_10 rfl (lv_at hl 0 rfl) ?_
  refine z_get hx hb ht hown hK hP ziX6 rfl 77 (by decide) 2 (by decide) hw_2_82 rfl (v := .ref (q 78)) rfl dX6_begin_11 ?_
  refine lv_lconst (v := (0 : Int64)) hx hb dX6_begin_14 (by decide +kernel) ?_
  refine z_callSv (As := [.ref (q 78), .long ((0 : Int64))]) (rest := []) hx hb hml hown ht (xk_J7_fill_d0a16_2 l D q cA (zp (zp F 77 0 (pa0)) 77 1 (pa1)) _ _ _ hI_2 ((0 : Int64))) hw_5_162 hmJ7_fill_d0a16 ⟨rfl, rfl⟩ (na := 2) rfl (by decide +kernel) (by decide) hK hP hD hS hA hl.1 rfl (Nat.le_of_ble_eq_true rfl) ⟨Nat.zero_le _, Nat.zero_le _⟩ dX6_begin_15 (fun I_3 R_3 J_3 H locs hp_3 hP hD hS _ _ => ?_)
  exact z_vret hx hb hr hlocks hP hD hS dX6_begin_18 hp_3
set_option maxHeartbeats 4000000 in
set_option maxRecDepth 100000 in
theorem xk_J7_fill_d0a16_3 (l : Launch) (D : va_G) (q : Nat → Nat) (cA : Nat → ClassId) (F : Nat → Nat → Int32) (I R : Nat → Nat → Int32) (J : Nat → Nat → Int64) (hI : xInv F (I, R, J)) (pa1 : Int64) : zMv l D vwCl (zXtys cA) 81 q (zXd q cA) yJ7_fill_d0a16 cJ7_fill_d0a16 5 none ({ frames := 0, cells := 0, slots := 0, locals := 0 } : Room) [.ref (q 80), .long (pa1)] (I, R, J) (fun u => xInv F u) := by
  intro sz
  refine z_body (by decide +kernel) (Nat.le_of_ble_eq_true rfl) (fun p e s m below meth c ls hx hb hml hr ht hown hlocks hsz hK hP hD hS hl => ?_)
  have hA : ∀ a, s.heap.size ≤ a → zA 81 q sz a := fun a h => Or.inr (hsz ▸ h)
  have hl : lv_has ls 5 [(0, .ref (q 80)), (1, .long (pa1))] := hl
  refine lv_iconst (v := nI 0) hx hb dJ7_fill_d0a16_0 (by decide +kernel) ?_
  refine lv_istore_n (lv' := [(3, .int (nI 0)), (0, .ref (q 80)), (1, .long (pa1))]) hx hb dJ7_fill_d0a16_1 rfl hl (by decide) rfl (fun ls hl => ?_)
  refine lv_aload_n hx hb dJ7_fill_d0a16_2 rfl (lv_at hl 1 rfl) ?_
  refine z_alen hx hb hK hP 80 (by decide) 56 rfl rfl dJ7_fill_d0a16_3 ?_
  refine lv_istore (lv' := [(4, .int (nI 60)), (3, .int (nI 0)), (0, .ref (q 80)), (1, .long (pa1))]) hx hb dJ7_fill_d0a16_4 hl (by decide) rfl (fun ls hl => ?_)
  have loop_22 : ∀ N : Nat, ∀ x_20 : Int32, zR 0 60 x_20 → ∀ J_21 : Nat → Nat → Int64, xInv F (I, R, J_21) → (2147483648 - (x_20).toInt).toNat < N → ∀ (H : Heap) (locs : List Loc), va_P D vwCl (zw 81 q (zXd q cA) I R J_21) H → va_D (zA 81 q sz) (zw 81 q (zXd q cA) I R J_21) → va_S (zA 81 q sz) s.heap H locs → ∀ ls : Array Slot, lv_has ls 5 [(0, .ref (q 80)), (1, .long (pa1)), (3, .int (x_20)), (4, .int (nI 60))] → W p l e ({ frames := 0, cells := 0, slots := 0, locals := 0 } : Room) s m ([.ref (q 80), .long (pa1)] : List Value).toArray below meth c H locs 0 0 (MQ below (va_Qv (fun u => xInv F u) (zB D vwCl 81 q (zXd q cA) sz) (zA 81 q sz)) ([.ref (q 80), .long (pa1)] : List Value).toArray s 0 0 (zA 81 q sz)) (F0 m 6 ls []) := by
    intro N
    induction N with
    | zero => intro x_20 hx_20 J_21 hI_21 hN; exact absurd hN (Nat.not_lt_zero _)
    | succ N ih_24 =>
      intro x_20 hx_20 J_21 hI_21 hN_23 H locs hP hD hS ls hl
      refine lv_iload_n hx hb dJ7_fill_d0a16_6 rfl (lv_at hl 2 rfl) ?_
      refine lv_iload hx hb dJ7_fill_d0a16_7 (lv_at hl 3 rfl) ?_
      refine lv_icmp_ge (tgt := 22) hx hb dJ7_fill_d0a16_9 (by decide) (fun c_25 => ?_) (fun c_25 => ?_)
      · have t_c_25 := z_leT c_25
        have f_26 : zR 60 60 (x_20) := zR_ley t_c_25 zk_60 hx_20 (by decide)
        exact z_vret hx hb hr hlocks hP hD hS dJ7_fill_d0a16_22 hI_21
      · have t_c_25 := z_leF c_25
        have f_27 : zR 0 59 (x_20) := zR_ltx t_c_25 hx_20 zk_60 (by decide)
        refine lv_aload_n hx hb dJ7_fill_d0a16_12 rfl (lv_at hl 0 rfl) ?_
        refine lv_iload_n hx hb dJ7_fill_d0a16_13 rfl (lv_at hl 2 rfl) ?_
        refine lv_lload_n hx hb dJ7_fill_d0a16_14 rfl (lv_at hl 1 rfl) ?_
        refine z_last hx hb hK hP hD hS 80 (by decide) 56 (fun _ => rfl) rfl (zR_vin f_27 (by decide)) dJ7_fill_d0a16_15 (fun H locs hP hD hS => ?_)
        have hI_28 := xInv_J (J2 := (zp J_21 80 (x_20).toNatClampNeg (pa1))) hI_21
        obtain ⟨v_29, ev_29⟩ : ∃ y : Int32, y = x_20 + nI 1 := ⟨_, rfl⟩
        have hv_29 : zR 1 60 v_29 := ev_29 ▸ zR_add f_27 zk_1 (by decide)
        have mv_29 : v_29.toInt = (x_20).toInt + 1 := by rw [ev_29, zR_addE f_27 zk_1 (by decide)]; rfl
        refine lv_iinc (v := v_29) (lv' := [(3, .int (v_29)), (0, .ref (q 80)), (1, .long (pa1)), (4, .int (nI 60))]) hx hb dJ7_fill_d0a16_16 hl (k := 2) rfl (ev_29 ▸ rfl) (by decide) rfl (fun ls hl => ?_)
        refine lv_goto (tgt := 6) hx hb dJ7_fill_d0a16_19 (by decide) ?_
        exact ih_24 (v_29) (zR_w hv_29 (by decide)) _ hI_28 (z2_up mv_29 (by decide) hN_23) _ _ hP hD hS _ (lv_sub hl [1, 2, 0, 3] rfl)
  exact loop_22 _ (nI 0) (zR_w zk_0 (by decide)) _ hI (Nat.lt_succ_self _) _ _ hP hD hS _ (lv_sub hl [2, 3, 1, 0] rfl)
set_option maxHeartbeats 4000000 in
set_option maxRecDepth 100000 in
theorem xk_X6_begin_3 (l : Launch) (D : va_G) (q : Nat → Nat) (cA : Nat → ClassId) (F : Nat → Nat → Int32) (I R : Nat → Nat → Int32) (J : Nat → Nat → Int64) (hI : xInv F (I, R, J)) (pa0 : Int32) (hpa0 : zR 0 3 pa0) (pa1 : Int32) (hpa1 : zR 0 60 pa1) : zMv l D vwCl (zXtys cA) 81 q (zXd q cA) yX6_begin cX6_begin 3 none ({ frames := 1, cells := 0, slots := 0, locals := 24 } : Room) [.ref (q 79), .int (pa0), .int (pa1)] (I, R, J) (fun u => xInv (zp (zp F 79 0 (pa0)) 79 1 (pa1)) u) := by
  intro sz
  refine z_body (by decide +kernel) (Nat.le_of_ble_eq_true rfl) (fun p e s m below meth c ls hx hb hml hr ht hown hlocks hsz hK hP hD hS hl => ?_)
  have hA : ∀ a, s.heap.size ≤ a → zA 81 q sz a := fun a h => Or.inr (hsz ▸ h)
  have hl : lv_has ls 3 [(0, .ref (q 79)), (1, .int (pa0)), (2, .int (pa1))] := hl
  refine lv_aload_n hx hb dX6_begin_0 rfl (lv_at hl 0 rfl) ?_
  refine lv_iload_n hx hb dX6_begin_1 rfl (lv_at hl 1 rfl) ?_
  refine z_putI hx hb ht hown hK hP hD hS ziX6 tyX6 tyX6_ok nmX6 rfl 79 (by decide) 0 (by decide) hw_2_77 rfl (v := pa0) rfl rfl rfl (Nat.le_of_ble_eq_true rfl) rfl dX6_begin_2 (fun H locs hP hD hS => ?_)
  have hI_1 := xInv_F hI 79 0 (pa0) (zR_any (pa0))
  refine lv_aload_n hx hb dX6_begin_5 rfl (lv_at hl 0 rfl) ?_
  refine lv_iload_n hx hb dX6_begin_6 rfl (lv_at hl 2 rfl) ?_
  refine z_putI hx hb ht hown hK hP hD hS ziX6 tyX6 tyX6_ok nmX6 rfl 79 (by decide) 1 (by decide) hw_2_79 rfl (v := pa1) rfl rfl rfl (Nat.le_of_ble_eq_true rfl) rfl dX6_begin_7 (fun H locs hP hD hS => ?_)
  have hI_2 := xInv_F hI_1 79 1 (pa1) (zR_w hpa1 (by decide))
  refine lv_aload_n hx hb dX6_begin_10 rfl (lv_at hl 0 rfl) ?_
  refine z_get hx hb ht hown hK hP ziX6 rfl 79 (by decide) 2 (by decide) hw_2_82 rfl (v := .ref (q 80)) rfl dX6_begin_11 ?_
  refine lv_lconst (v := (0 : Int64)) hx hb dX6_begin_14 (by decide +kernel) ?_
  refine z_callSv (As := [.ref (q 80), .long ((0 : Int64))]) (rest := []) hx hb hml hown ht (xk_J7_fill_d0a16_3 l D q cA (zp (zp F 79 0 (pa0)) 79 1 (pa1)) _ _ _ hI_2 ((0 : Int64))) hw_5_162 hmJ7_fill_d0a16 ⟨rfl, rfl⟩ (na := 2) rfl (by decide +kernel) (by decide) hK hP hD hS hA hl.1 rfl (Nat.le_of_ble_eq_true rfl) ⟨Nat.zero_le _, Nat.zero_le _⟩ dX6_begin_15 (fun I_3 R_3 J_3 H locs hp_3 hP hD hS _ _ => ?_)
  exact z_vret hx hb hr hlocks hP hD hS dX6_begin_18 hp_3
set_option maxHeartbeats 4000000 in
set_option maxRecDepth 100000 in
theorem xk_X10_row (l : Launch) (D : va_G) (q : Nat → Nat) (cA : Nat → ClassId) (F : Nat → Nat → Int32) (I R : Nat → Nat → Int32) (J : Nat → Nat → Int64) (hI : xInv F (I, R, J)) (pa0 : Int32) (pa1 : Int32) (pa2 : Int32) : zMi l D vwCl (zXtys cA) 81 q (zXd q cA) yX10_row cX10_row 4 (some .int) ({ frames := 2, cells := 0, slots := 0, locals := 46 } : Room) [.ref (q 0), .int (pa0), .int (pa1), .int (pa2)] (I, R, J) (fun r u => ((pa0.toInt < 0 ∨ 3 < pa0.toInt ∨ pa1.toInt < 0 ∨ 3 < pa1.toInt ∨ 60 < pa2.toInt) ∧ r = (-2) ∧ u = (I, R, J)) ∨ (¬ (pa0.toInt < 0 ∨ 3 < pa0.toInt ∨ pa1.toInt < 0 ∨ 3 < pa1.toInt ∨ 60 < pa2.toInt) ∧ pa2.toInt < 0 ∧ r = (-3) ∧ u = (I, R, J)) ∨ (¬ (pa0.toInt < 0 ∨ 3 < pa0.toInt ∨ pa1.toInt < 0 ∨ 3 < pa1.toInt ∨ 60 < pa2.toInt) ∧ 0 ≤ pa2.toInt ∧ r = nI 0 ∧ xInv (xrow F pa0 pa1 pa2) u)) := by
  intro sz
  refine z_body (by decide +kernel) (Nat.le_of_ble_eq_true rfl) (fun p e s m below meth c ls hx hb hml hr ht hown hlocks hsz hK hP hD hS hl => ?_)
  have hA : ∀ a, s.heap.size ≤ a → zA 81 q sz a := fun a h => Or.inr (hsz ▸ h)
  have hl : lv_has ls 4 [(0, .ref (q 0)), (1, .int (pa0)), (2, .int (pa1)), (3, .int (pa2))] := hl
  refine lv_iload_n hx hb dX10_row_0 rfl (lv_at hl 1 rfl) ?_
  refine z_callSi (As := [.int (pa0)]) (rest := []) hx hb hml hown ht (xk_X10_isSlot l D q cA F _ _ _ hI (pa0)) hw_5_60 hmX10_isSlot ⟨rfl, rfl⟩ (na := 1) rfl (by decide +kernel) (by decide) hK hP hD hS hA hl.1 rfl (Nat.le_of_ble_eq_true rfl) ⟨Nat.zero_le _, Nat.zero_le _⟩ dX10_row_1 (fun r_1 I_1 R_1 J_1 H locs hp_1 hP hD hS _ _ => ?_)
  rcases hp_1 with ⟨rfl, hu_1, f0_1⟩ | ⟨rfl, hu_1, nn_1⟩
  · cases hu_1
    refine lv_if_eq (tgt := 22) hx hb dX10_row_4 (by decide) (fun c_0 => absurd c_0 (zD_ne zk_1 zk_z (by decide))) (fun _ => ?_)
    refine lv_iload_n hx hb dX10_row_7 rfl (lv_at hl 2 rfl) ?_
    refine lv_if_lt (tgt := 22) hx hb dX10_row_8 (by decide) (fun c_2 => ?_) (fun c_2 => ?_)
    · have t_c_2 := z_ltT c_2
      have f_3 : zR (-2147483648) (-1) (pa1) := zR_ltx t_c_2 (zR_any (pa1)) zk_z (by decide)
      refine lv_bipush (v := (-2)) hx hb dX10_row_22 (by decide +kernel) ?_
      exact z_iret (v := (-2)) hx hb hr hlocks hP hD hS dX10_row_24 (Or.inl ⟨(by obtain ⟨_, _⟩ := f0_1; obtain ⟨_, _⟩ := f_3; obtain ⟨_, _⟩ := (zR_any (pa2)); omega), rfl, rfl⟩)
    · have t_c_2 := z_ltF c_2
      have f_4 : zR 0 2147483647 (pa1) := zR_ley t_c_2 zk_z (zR_any (pa1)) (by decide)
      refine lv_iload_n hx hb dX10_row_11 rfl (lv_at hl 2 rfl) ?_
      refine lv_iconst (v := nI 3) hx hb dX10_row_12 (by decide +kernel) ?_
      refine lv_icmp_gt (tgt := 22) hx hb dX10_row_13 (by decide) (fun c_5 => ?_) (fun c_5 => ?_)
      · have t_c_5 := z_ltT c_5
        have f_6 : zR 4 2147483647 (pa1) := zR_lty t_c_5 zk_3 f_4 (by decide)
        refine lv_bipush (v := (-2)) hx hb dX10_row_22 (by decide +kernel) ?_
        exact z_iret (v := (-2)) hx hb hr hlocks hP hD hS dX10_row_24 (Or.inl ⟨(by obtain ⟨_, _⟩ := f0_1; obtain ⟨_, _⟩ := f_6; obtain ⟨_, _⟩ := (zR_any (pa2)); omega), rfl, rfl⟩)
      · have t_c_5 := z_ltF c_5
        have f_7 : zR 0 3 (pa1) := zR_lex t_c_5 f_4 zk_3 (by decide)
        refine lv_iload_n hx hb dX10_row_16 rfl (lv_at hl 3 rfl) ?_
        refine lv_bipush (v := nI 60) hx hb dX10_row_17 (by decide +kernel) ?_
        refine lv_icmp_le (tgt := 25) hx hb dX10_row_19 (by decide) (fun c_8 => ?_) (fun c_8 => ?_)
        · have t_c_8 := z_leT c_8
          have f_9 : zR (-2147483648) 60 (pa2) := zR_lex t_c_8 (zR_any (pa2)) zk_60 (by decide)
          refine lv_iload_n hx hb dX10_row_25 rfl (lv_at hl 3 rfl) ?_
          refine lv_if_ge (tgt := 32) hx hb dX10_row_26 (by decide) (fun c_10 => ?_) (fun c_10 => ?_)
          · have t_c_10 := z_leT c_10
            have f_11 : zR 0 60 (pa2) := zR_ley t_c_10 zk_z f_9 (by decide)
            refine lv_aload_n hx hb dX10_row_32 rfl (lv_at hl 0 rfl) ?_
            refine z_get hx hb ht hown hK hP ziX10 rfl 0 (by decide) 11 (by decide) hw_2_104 rfl (v := .ref (q 72)) rfl dX10_row_33 ?_
            refine lv_iload_n hx hb dX10_row_36 rfl (lv_at hl 1 rfl) ?_
            obtain ⟨n_12, hn_12, rfl⟩ := z_ex (x := pa0) (N := 4) (zR_w f0_1 (a' := 0) (b' := 3) (by decide)).1 (Int.lt_of_le_of_lt (zR_w f0_1 (a' := 0) (b' := 3) (by decide)).2 (by decide))
            rcases (show n_12 = 0 ∨ n_12 = 1 ∨ n_12 = 2 ∨ n_12 = 3 by omega) with rfl | rfl | rfl | rfl
            · refine va_aldq hx hb hK hP 72 52 (zw_at (by decide) rfl) rfl (vp_in_nI (by decide) (by decide)) dX10_row_37 ?_
              refine W.eq (g2 := F0 m 38 ls (.ref (q 73) :: [])) rfl ?_
              refine lv_iload_n hx hb dX10_row_38 rfl (lv_at hl 2 rfl) ?_
              refine lv_iload_n hx hb dX10_row_39 rfl (lv_at hl 3 rfl) ?_
              refine z_callVv (k := 73) (As := [.int (pa1), .int (pa2)]) (rest := []) hx hb hml hown ht (xk_X6_begin l D q cA F _ _ _ hI (pa1) f_7 (pa2) f_11) hw_5_158 hmX6_begin ⟨rfl, rfl⟩ (na := 2) rfl (by decide +kernel) (by decide) (by decide) rfl rfl hK hP hD hS hA hl.1 rfl (Nat.le_of_ble_eq_true rfl) ⟨Nat.zero_le _, Nat.zero_le _⟩ dX10_row_40 (fun I_13 R_13 J_13 H locs hp_13 hP hD hS _ _ => ?_)
              refine lv_iconst (v := nI 0) hx hb dX10_row_43 (by decide +kernel) ?_
              exact z_iret (v := nI 0) hx hb hr hlocks hP hD hS dX10_row_44 (Or.inr (Or.inr ⟨(by obtain ⟨_, _⟩ := zk_0; obtain ⟨_, _⟩ := f_7; obtain ⟨_, _⟩ := f_11; omega), (by obtain ⟨_, _⟩ := zk_0; obtain ⟨_, _⟩ := f_7; obtain ⟨_, _⟩ := f_11; omega), rfl, hp_13⟩))
            · refine va_aldq hx hb hK hP 72 52 (zw_at (by decide) rfl) rfl (vp_in_nI (by decide) (by decide)) dX10_row_37 ?_
              refine W.eq (g2 := F0 m 38 ls (.ref (q 75) :: [])) rfl ?_
              refine lv_iload_n hx hb dX10_row_38 rfl (lv_at hl 2 rfl) ?_
              refine lv_iload_n hx hb dX10_row_39 rfl (lv_at hl 3 rfl) ?_
              refine z_callVv (k := 75) (As := [.int (pa1), .int (pa2)]) (rest := []) hx hb hml hown ht (xk_X6_begin_1 l D q cA F _ _ _ hI (pa1) f_7 (pa2) f_11) hw_5_158 hmX6_begin ⟨rfl, rfl⟩ (na := 2) rfl (by decide +kernel) (by decide) (by decide) rfl rfl hK hP hD hS hA hl.1 rfl (Nat.le_of_ble_eq_true rfl) ⟨Nat.zero_le _, Nat.zero_le _⟩ dX10_row_40 (fun I_14 R_14 J_14 H locs hp_14 hP hD hS _ _ => ?_)
              refine lv_iconst (v := nI 0) hx hb dX10_row_43 (by decide +kernel) ?_
              exact z_iret (v := nI 0) hx hb hr hlocks hP hD hS dX10_row_44 (Or.inr (Or.inr ⟨(by obtain ⟨_, _⟩ := zk_1; obtain ⟨_, _⟩ := f_7; obtain ⟨_, _⟩ := f_11; omega), (by obtain ⟨_, _⟩ := zk_1; obtain ⟨_, _⟩ := f_7; obtain ⟨_, _⟩ := f_11; omega), rfl, hp_14⟩))
            · refine va_aldq hx hb hK hP 72 52 (zw_at (by decide) rfl) rfl (vp_in_nI (by decide) (by decide)) dX10_row_37 ?_
              refine W.eq (g2 := F0 m 38 ls (.ref (q 77) :: [])) rfl ?_
              refine lv_iload_n hx hb dX10_row_38 rfl (lv_at hl 2 rfl) ?_
              refine lv_iload_n hx hb dX10_row_39 rfl (lv_at hl 3 rfl) ?_
              refine z_callVv (k := 77) (As := [.int (pa1), .int (pa2)]) (rest := []) hx hb hml hown ht (xk_X6_begin_2 l D q cA F _ _ _ hI (pa1) f_7 (pa2) f_11) hw_5_158 hmX6_begin ⟨rfl, rfl⟩ (na := 2) rfl (by decide +kernel) (by decide) (by decide) rfl rfl hK hP hD hS hA hl.1 rfl (Nat.le_of_ble_eq_true rfl) ⟨Nat.zero_le _, Nat.zero_le _⟩ dX10_row_40 (fun I_15 R_15 J_15 H locs hp_15 hP hD hS _ _ => ?_)
              refine lv_iconst (v := nI 0) hx hb dX10_row_43 (by decide +kernel) ?_
              exact z_iret (v := nI 0) hx hb hr hlocks hP hD hS dX10_row_44 (Or.inr (Or.inr ⟨(by obtain ⟨_, _⟩ := zk_2; obtain ⟨_, _⟩ := f_7; obtain ⟨_, _⟩ := f_11; omega), (by obtain ⟨_, _⟩ := zk_2; obtain ⟨_, _⟩ := f_7; obtain ⟨_, _⟩ := f_11; omega), rfl, hp_15⟩))
            · refine va_aldq hx hb hK hP 72 52 (zw_at (by decide) rfl) rfl (vp_in_nI (by decide) (by decide)) dX10_row_37 ?_
              refine W.eq (g2 := F0 m 38 ls (.ref (q 79) :: [])) rfl ?_
              refine lv_iload_n hx hb dX10_row_38 rfl (lv_at hl 2 rfl) ?_
              refine lv_iload_n hx hb dX10_row_39 rfl (lv_at hl 3 rfl) ?_
              refine z_callVv (k := 79) (As := [.int (pa1), .int (pa2)]) (rest := []) hx hb hml hown ht (xk_X6_begin_3 l D q cA F _ _ _ hI (pa1) f_7 (pa2) f_11) hw_5_158 hmX6_begin ⟨rfl, rfl⟩ (na := 2) rfl (by decide +kernel) (by decide) (by decide) rfl rfl hK hP hD hS hA hl.1 rfl (Nat.le_of_ble_eq_true rfl) ⟨Nat.zero_le _, Nat.zero_le _⟩ dX10_row_40 (fun I_16 R_16 J_16 H locs hp_16 hP hD hS _ _ => ?_)
              refine lv_iconst (v := nI 0) hx hb dX10_row_43 (by decide +kernel) ?_
              exact z_iret (v := nI 0) hx hb hr hlocks hP hD hS dX10_row_44 (Or.inr (Or.inr ⟨(by obtain ⟨_, _⟩ := zk_3; obtain ⟨_, _⟩ := f_7; obtain ⟨_, _⟩ := f_11; omega), (by obtain ⟨_, _⟩ := zk_3; obtain ⟨_, _⟩ := f_7; obtain ⟨_, _⟩ := f_11; omega), rfl, hp_16⟩))
          · have t_c_10 := z_leF c_10
            have f_17 : zR (-2147483648) (-1) (pa2) := zR_ltx t_c_10 f_9 zk_z (by decide)
            refine lv_bipush (v := (-3)) hx hb dX10_row_29 (by decide +kernel) ?_
            exact z_iret (v := (-3)) hx hb hr hlocks hP hD hS dX10_row_31 (Or.inr (Or.inl ⟨(by obtain ⟨_, _⟩ := f0_1; obtain ⟨_, _⟩ := f_7; obtain ⟨_, _⟩ := f_17; omega), (by obtain ⟨_, _⟩ := f0_1; obtain ⟨_, _⟩ := f_7; obtain ⟨_, _⟩ := f_17; omega), rfl, rfl⟩))
        · have t_c_8 := z_leF c_8
          have f_18 : zR 61 2147483647 (pa2) := zR_lty t_c_8 zk_60 (zR_any (pa2)) (by decide)
          refine lv_bipush (v := (-2)) hx hb dX10_row_22 (by decide +kernel) ?_
          exact z_iret (v := (-2)) hx hb hr hlocks hP hD hS dX10_row_24 (Or.inl ⟨(by obtain ⟨_, _⟩ := f0_1; obtain ⟨_, _⟩ := f_7; obtain ⟨_, _⟩ := f_18; omega), rfl, rfl⟩)
  · cases hu_1
    refine lv_if_eq (tgt := 22) hx hb dX10_row_4 (by decide) (fun _ => ?_) (fun c_0 => absurd (zD_eq zk_0 zk_z) c_0)
    refine lv_bipush (v := (-2)) hx hb dX10_row_22 (by decide +kernel) ?_
    exact z_iret (v := (-2)) hx hb hr hlocks hP hD hS dX10_row_24 (Or.inl ⟨(by obtain ⟨_, _⟩ := (zR_any (pa0)); obtain ⟨_, _⟩ := (zR_any (pa1)); obtain ⟨_, _⟩ := (zR_any (pa2)); have _ := nn_1; omega), rfl, rfl⟩)
set_option maxHeartbeats 4000000 in
set_option maxRecDepth 100000 in
theorem xk_X6_put (l : Launch) (D : va_G) (q : Nat → Nat) (cA : Nat → ClassId) (F : Nat → Nat → Int32) (I R : Nat → Nat → Int32) (J : Nat → Nat → Int64) (hI : xInv F (I, R, J)) (pa0 : Int32) (hpa0 : zR 0 59 pa0) (pa1 : Int64) : zMv l D vwCl (zXtys cA) 81 q (zXd q cA) yX6_put cX6_put 4 none ({ frames := 0, cells := 0, slots := 0, locals := 0 } : Room) [.ref (q 73), .int (pa0), .long (pa1)] (I, R, J) (fun u => xInv F u) := by
  intro sz
  refine z_body (by decide +kernel) (Nat.le_of_ble_eq_true rfl) (fun p e s m below meth c ls hx hb hml hr ht hown hlocks hsz hK hP hD hS hl => ?_)
  have hA : ∀ a, s.heap.size ≤ a → zA 81 q sz a := fun a h => Or.inr (hsz ▸ h)
  have hl : lv_has ls 4 [(0, .ref (q 73)), (1, .int (pa0)), (2, .long (pa1))] := hl
  refine lv_aload_n hx hb dX6_put_0 rfl (lv_at hl 0 rfl) ?_
  refine z_get hx hb ht hown hK hP ziX6 rfl 73 (by decide) 0 (by decide) hw_2_77 rfl (v := .int (I 73 0)) rfl dX6_put_1 ?_
  rcases (show ((I 73 0).toInt < 0 ∨ 2 < (I 73 0).toInt) ∨ (I 73 0).toInt = 0 ∨ (I 73 0).toInt = 1 ∨ (I 73 0).toInt = 2 by omega) with c_1 | k_2 | k_2 | k_2
  · refine lv_tableOut (tgt := 70) hx hb dX6_put_4 c_1 (by decide) ?_
    refine lv_aload_n hx hb dX6_put_70 rfl (lv_at hl 0 rfl) ?_
    refine z_get hx hb ht hown hK hP ziX6 rfl 73 (by decide) 2 (by decide) hw_2_82 rfl (v := .ref (q 74)) rfl dX6_put_71 ?_
    refine lv_iload_n hx hb dX6_put_74 rfl (lv_at hl 1 rfl) ?_
    refine lv_lload_n hx hb dX6_put_75 rfl (lv_at hl 2 rfl) ?_
    refine z_last hx hb hK hP hD hS 74 (by decide) 53 (fun _ => rfl) rfl (zR_vin hpa0 (by decide)) dX6_put_76 (fun H locs hP hD hS => ?_)
    have hI_3 := xInv_J (J2 := (zp J 74 (pa0).toNatClampNeg (pa1))) hI
    exact z_vret hx hb hr hlocks hP hD hS dX6_put_77 hI_3
  · refine lv_tableIn (off := 28) (tgt := 32) hx hb dX6_put_4 (by omega) (by omega) (by rw [k_2]; decide +kernel) (by decide) ?_
    refine lv_aload_n hx hb dX6_put_32 rfl (lv_at hl 0 rfl) ?_
    refine z_get hx hb ht hown hK hP ziX6 rfl 73 (by decide) 2 (by decide) hw_2_82 rfl (v := .ref (q 74)) rfl dX6_put_33 ?_
    refine lv_iload_n hx hb dX6_put_36 rfl (lv_at hl 1 rfl) ?_
    refine lv_lload_n hx hb dX6_put_37 rfl (lv_at hl 2 rfl) ?_
    refine lv_l2i hx hb dX6_put_38 rfl ?_
    refine z_any (fun v_4 => ?_)
    refine lv_i2b hx hb dX6_put_39 rfl ?_
    refine z_any (fun v_5 => ?_)
    refine lv_i2l (v := (v_5).toInt64) hx hb dX6_put_40 rfl ?_
    refine z_last hx hb hK hP hD hS 74 (by decide) 53 (fun _ => rfl) rfl (zR_vin hpa0 (by decide)) dX6_put_41 (fun H locs hP hD hS => ?_)
    have hI_6 := xInv_J (J2 := (zp J 74 (pa0).toNatClampNeg ((v_5).toInt64))) hI
    refine lv_goto (tgt := 77) hx hb dX6_put_42 (by decide) ?_
    exact z_vret hx hb hr hlocks hP hD hS dX6_put_77 hI_6
  · refine lv_tableIn (off := 41) (tgt := 45) hx hb dX6_put_4 (by omega) (by omega) (by rw [k_2]; decide +kernel) (by decide) ?_
    refine lv_aload_n hx hb dX6_put_45 rfl (lv_at hl 0 rfl) ?_
    refine z_get hx hb ht hown hK hP ziX6 rfl 73 (by decide) 2 (by decide) hw_2_82 rfl (v := .ref (q 74)) rfl dX6_put_46 ?_
    refine lv_iload_n hx hb dX6_put_49 rfl (lv_at hl 1 rfl) ?_
    refine lv_lload_n hx hb dX6_put_50 rfl (lv_at hl 2 rfl) ?_
    refine lv_l2i hx hb dX6_put_51 rfl ?_
    refine z_any (fun v_7 => ?_)
    refine lv_i2s hx hb dX6_put_52 rfl ?_
    refine z_any (fun v_8 => ?_)
    refine lv_i2l (v := (v_8).toInt64) hx hb dX6_put_53 rfl ?_
    refine z_last hx hb hK hP hD hS 74 (by decide) 53 (fun _ => rfl) rfl (zR_vin hpa0 (by decide)) dX6_put_54 (fun H locs hP hD hS => ?_)
    have hI_9 := xInv_J (J2 := (zp J 74 (pa0).toNatClampNeg ((v_8).toInt64))) hI
    refine lv_goto (tgt := 77) hx hb dX6_put_55 (by decide) ?_
    exact z_vret hx hb hr hlocks hP hD hS dX6_put_77 hI_9
  · refine lv_tableIn (off := 54) (tgt := 58) hx hb dX6_put_4 (by omega) (by omega) (by rw [k_2]; decide +kernel) (by decide) ?_
    refine lv_aload_n hx hb dX6_put_58 rfl (lv_at hl 0 rfl) ?_
    refine z_get hx hb ht hown hK hP ziX6 rfl 73 (by decide) 2 (by decide) hw_2_82 rfl (v := .ref (q 74)) rfl dX6_put_59 ?_
    refine lv_iload_n hx hb dX6_put_62 rfl (lv_at hl 1 rfl) ?_
    refine lv_lload_n hx hb dX6_put_63 rfl (lv_at hl 2 rfl) ?_
    refine lv_l2i hx hb dX6_put_64 rfl ?_
    refine z_any (fun v_10 => ?_)
    refine lv_i2l (v := (v_10).toInt64) hx hb dX6_put_65 rfl ?_
    refine z_last hx hb hK hP hD hS 74 (by decide) 53 (fun _ => rfl) rfl (zR_vin hpa0 (by decide)) dX6_put_66 (fun H locs hP hD hS => ?_)
    have hI_11 := xInv_J (J2 := (zp J 74 (pa0).toNatClampNeg ((v_10).toInt64))) hI
    refine lv_goto (tgt := 77) hx hb dX6_put_67 (by decide) ?_
    exact z_vret hx hb hr hlocks hP hD hS dX6_put_77 hI_11
set_option maxHeartbeats 4000000 in
set_option maxRecDepth 100000 in
theorem xk_X6_put_1 (l : Launch) (D : va_G) (q : Nat → Nat) (cA : Nat → ClassId) (F : Nat → Nat → Int32) (I R : Nat → Nat → Int32) (J : Nat → Nat → Int64) (hI : xInv F (I, R, J)) (pa0 : Int32) (hpa0 : zR 0 59 pa0) (pa1 : Int64) : zMv l D vwCl (zXtys cA) 81 q (zXd q cA) yX6_put cX6_put 4 none ({ frames := 0, cells := 0, slots := 0, locals := 0 } : Room) [.ref (q 75), .int (pa0), .long (pa1)] (I, R, J) (fun u => xInv F u) := by
  intro sz
  refine z_body (by decide +kernel) (Nat.le_of_ble_eq_true rfl) (fun p e s m below meth c ls hx hb hml hr ht hown hlocks hsz hK hP hD hS hl => ?_)
  have hA : ∀ a, s.heap.size ≤ a → zA 81 q sz a := fun a h => Or.inr (hsz ▸ h)
  have hl : lv_has ls 4 [(0, .ref (q 75)), (1, .int (pa0)), (2, .long (pa1))] := hl
  refine lv_aload_n hx hb dX6_put_0 rfl (lv_at hl 0 rfl) ?_
  refine z_get hx hb ht hown hK hP ziX6 rfl 75 (by decide) 0 (by decide) hw_2_77 rfl (v := .int (I 75 0)) rfl dX6_put_1 ?_
  rcases (show ((I 75 0).toInt < 0 ∨ 2 < (I 75 0).toInt) ∨ (I 75 0).toInt = 0 ∨ (I 75 0).toInt = 1 ∨ (I 75 0).toInt = 2 by omega) with c_1 | k_2 | k_2 | k_2
  · refine lv_tableOut (tgt := 70) hx hb dX6_put_4 c_1 (by decide) ?_
    refine lv_aload_n hx hb dX6_put_70 rfl (lv_at hl 0 rfl) ?_
    refine z_get hx hb ht hown hK hP ziX6 rfl 75 (by decide) 2 (by decide) hw_2_82 rfl (v := .ref (q 76)) rfl dX6_put_71 ?_
    refine lv_iload_n hx hb dX6_put_74 rfl (lv_at hl 1 rfl) ?_
    refine lv_lload_n hx hb dX6_put_75 rfl (lv_at hl 2 rfl) ?_
    refine z_last hx hb hK hP hD hS 76 (by decide) 54 (fun _ => rfl) rfl (zR_vin hpa0 (by decide)) dX6_put_76 (fun H locs hP hD hS => ?_)
    have hI_3 := xInv_J (J2 := (zp J 76 (pa0).toNatClampNeg (pa1))) hI
    exact z_vret hx hb hr hlocks hP hD hS dX6_put_77 hI_3
  · refine lv_tableIn (off := 28) (tgt := 32) hx hb dX6_put_4 (by omega) (by omega) (by rw [k_2]; decide +kernel) (by decide) ?_
    refine lv_aload_n hx hb dX6_put_32 rfl (lv_at hl 0 rfl) ?_
    refine z_get hx hb ht hown hK hP ziX6 rfl 75 (by decide) 2 (by decide) hw_2_82 rfl (v := .ref (q 76)) rfl dX6_put_33 ?_
    refine lv_iload_n hx hb dX6_put_36 rfl (lv_at hl 1 rfl) ?_
    refine lv_lload_n hx hb dX6_put_37 rfl (lv_at hl 2 rfl) ?_
    refine lv_l2i hx hb dX6_put_38 rfl ?_
    refine z_any (fun v_4 => ?_)
    refine lv_i2b hx hb dX6_put_39 rfl ?_
    refine z_any (fun v_5 => ?_)
    refine lv_i2l (v := (v_5).toInt64) hx hb dX6_put_40 rfl ?_
    refine z_last hx hb hK hP hD hS 76 (by decide) 54 (fun _ => rfl) rfl (zR_vin hpa0 (by decide)) dX6_put_41 (fun H locs hP hD hS => ?_)
    have hI_6 := xInv_J (J2 := (zp J 76 (pa0).toNatClampNeg ((v_5).toInt64))) hI
    refine lv_goto (tgt := 77) hx hb dX6_put_42 (by decide) ?_
    exact z_vret hx hb hr hlocks hP hD hS dX6_put_77 hI_6
  · refine lv_tableIn (off := 41) (tgt := 45) hx hb dX6_put_4 (by omega) (by omega) (by rw [k_2]; decide +kernel) (by decide) ?_
    refine lv_aload_n hx hb dX6_put_45 rfl (lv_at hl 0 rfl) ?_
    refine z_get hx hb ht hown hK hP ziX6 rfl 75 (by decide) 2 (by decide) hw_2_82 rfl (v := .ref (q 76)) rfl dX6_put_46 ?_
    refine lv_iload_n hx hb dX6_put_49 rfl (lv_at hl 1 rfl) ?_
    refine lv_lload_n hx hb dX6_put_50 rfl (lv_at hl 2 rfl) ?_
    refine lv_l2i hx hb dX6_put_51 rfl ?_
    refine z_any (fun v_7 => ?_)
    refine lv_i2s hx hb dX6_put_52 rfl ?_
    refine z_any (fun v_8 => ?_)
    refine lv_i2l (v := (v_8).toInt64) hx hb dX6_put_53 rfl ?_
    refine z_last hx hb hK hP hD hS 76 (by decide) 54 (fun _ => rfl) rfl (zR_vin hpa0 (by decide)) dX6_put_54 (fun H locs hP hD hS => ?_)
    have hI_9 := xInv_J (J2 := (zp J 76 (pa0).toNatClampNeg ((v_8).toInt64))) hI
    refine lv_goto (tgt := 77) hx hb dX6_put_55 (by decide) ?_
    exact z_vret hx hb hr hlocks hP hD hS dX6_put_77 hI_9
  · refine lv_tableIn (off := 54) (tgt := 58) hx hb dX6_put_4 (by omega) (by omega) (by rw [k_2]; decide +kernel) (by decide) ?_
    refine lv_aload_n hx hb dX6_put_58 rfl (lv_at hl 0 rfl) ?_
    refine z_get hx hb ht hown hK hP ziX6 rfl 75 (by decide) 2 (by decide) hw_2_82 rfl (v := .ref (q 76)) rfl dX6_put_59 ?_
    refine lv_iload_n hx hb dX6_put_62 rfl (lv_at hl 1 rfl) ?_
    refine lv_lload_n hx hb dX6_put_63 rfl (lv_at hl 2 rfl) ?_
    refine lv_l2i hx hb dX6_put_64 rfl ?_
    refine z_any (fun v_10 => ?_)
    refine lv_i2l (v := (v_10).toInt64) hx hb dX6_put_65 rfl ?_
    refine z_last hx hb hK hP hD hS 76 (by decide) 54 (fun _ => rfl) rfl (zR_vin hpa0 (by decide)) dX6_put_66 (fun H locs hP hD hS => ?_)
    have hI_11 := xInv_J (J2 := (zp J 76 (pa0).toNatClampNeg ((v_10).toInt64))) hI
    refine lv_goto (tgt := 77) hx hb dX6_put_67 (by decide) ?_
    exact z_vret hx hb hr hlocks hP hD hS dX6_put_77 hI_11
set_option maxHeartbeats 4000000 in
set_option maxRecDepth 100000 in
theorem xk_X6_put_2 (l : Launch) (D : va_G) (q : Nat → Nat) (cA : Nat → ClassId) (F : Nat → Nat → Int32) (I R : Nat → Nat → Int32) (J : Nat → Nat → Int64) (hI : xInv F (I, R, J)) (pa0 : Int32) (hpa0 : zR 0 59 pa0) (pa1 : Int64) : zMv l D vwCl (zXtys cA) 81 q (zXd q cA) yX6_put cX6_put 4 none ({ frames := 0, cells := 0, slots := 0, locals := 0 } : Room) [.ref (q 77), .int (pa0), .long (pa1)] (I, R, J) (fun u => xInv F u) := by
  intro sz
  refine z_body (by decide +kernel) (Nat.le_of_ble_eq_true rfl) (fun p e s m below meth c ls hx hb hml hr ht hown hlocks hsz hK hP hD hS hl => ?_)
  have hA : ∀ a, s.heap.size ≤ a → zA 81 q sz a := fun a h => Or.inr (hsz ▸ h)
  have hl : lv_has ls 4 [(0, .ref (q 77)), (1, .int (pa0)), (2, .long (pa1))] := hl
  refine lv_aload_n hx hb dX6_put_0 rfl (lv_at hl 0 rfl) ?_
  refine z_get hx hb ht hown hK hP ziX6 rfl 77 (by decide) 0 (by decide) hw_2_77 rfl (v := .int (I 77 0)) rfl dX6_put_1 ?_
  rcases (show ((I 77 0).toInt < 0 ∨ 2 < (I 77 0).toInt) ∨ (I 77 0).toInt = 0 ∨ (I 77 0).toInt = 1 ∨ (I 77 0).toInt = 2 by omega) with c_1 | k_2 | k_2 | k_2
  · refine lv_tableOut (tgt := 70) hx hb dX6_put_4 c_1 (by decide) ?_
    refine lv_aload_n hx hb dX6_put_70 rfl (lv_at hl 0 rfl) ?_
    refine z_get hx hb ht hown hK hP ziX6 rfl 77 (by decide) 2 (by decide) hw_2_82 rfl (v := .ref (q 78)) rfl dX6_put_71 ?_
    refine lv_iload_n hx hb dX6_put_74 rfl (lv_at hl 1 rfl) ?_
    refine lv_lload_n hx hb dX6_put_75 rfl (lv_at hl 2 rfl) ?_
    refine z_last hx hb hK hP hD hS 78 (by decide) 55 (fun _ => rfl) rfl (zR_vin hpa0 (by decide)) dX6_put_76 (fun H locs hP hD hS => ?_)
    have hI_3 := xInv_J (J2 := (zp J 78 (pa0).toNatClampNeg (pa1))) hI
    exact z_vret hx hb hr hlocks hP hD hS dX6_put_77 hI_3
  · refine lv_tableIn (off := 28) (tgt := 32) hx hb dX6_put_4 (by omega) (by omega) (by rw [k_2]; decide +kernel) (by decide) ?_
    refine lv_aload_n hx hb dX6_put_32 rfl (lv_at hl 0 rfl) ?_
    refine z_get hx hb ht hown hK hP ziX6 rfl 77 (by decide) 2 (by decide) hw_2_82 rfl (v := .ref (q 78)) rfl dX6_put_33 ?_
    refine lv_iload_n hx hb dX6_put_36 rfl (lv_at hl 1 rfl) ?_
    refine lv_lload_n hx hb dX6_put_37 rfl (lv_at hl 2 rfl) ?_
    refine lv_l2i hx hb dX6_put_38 rfl ?_
    refine z_any (fun v_4 => ?_)
    refine lv_i2b hx hb dX6_put_39 rfl ?_
    refine z_any (fun v_5 => ?_)
    refine lv_i2l (v := (v_5).toInt64) hx hb dX6_put_40 rfl ?_
    refine z_last hx hb hK hP hD hS 78 (by decide) 55 (fun _ => rfl) rfl (zR_vin hpa0 (by decide)) dX6_put_41 (fun H locs hP hD hS => ?_)
    have hI_6 := xInv_J (J2 := (zp J 78 (pa0).toNatClampNeg ((v_5).toInt64))) hI
    refine lv_goto (tgt := 77) hx hb dX6_put_42 (by decide) ?_
    exact z_vret hx hb hr hlocks hP hD hS dX6_put_77 hI_6
  · refine lv_tableIn (off := 41) (tgt := 45) hx hb dX6_put_4 (by omega) (by omega) (by rw [k_2]; decide +kernel) (by decide) ?_
    refine lv_aload_n hx hb dX6_put_45 rfl (lv_at hl 0 rfl) ?_
    refine z_get hx hb ht hown hK hP ziX6 rfl 77 (by decide) 2 (by decide) hw_2_82 rfl (v := .ref (q 78)) rfl dX6_put_46 ?_
    refine lv_iload_n hx hb dX6_put_49 rfl (lv_at hl 1 rfl) ?_
    refine lv_lload_n hx hb dX6_put_50 rfl (lv_at hl 2 rfl) ?_
    refine lv_l2i hx hb dX6_put_51 rfl ?_
    refine z_any (fun v_7 => ?_)
    refine lv_i2s hx hb dX6_put_52 rfl ?_
    refine z_any (fun v_8 => ?_)
    refine lv_i2l (v := (v_8).toInt64) hx hb dX6_put_53 rfl ?_
    refine z_last hx hb hK hP hD hS 78 (by decide) 55 (fun _ => rfl) rfl (zR_vin hpa0 (by decide)) dX6_put_54 (fun H locs hP hD hS => ?_)
    have hI_9 := xInv_J (J2 := (zp J 78 (pa0).toNatClampNeg ((v_8).toInt64))) hI
    refine lv_goto (tgt := 77) hx hb dX6_put_55 (by decide) ?_
    exact z_vret hx hb hr hlocks hP hD hS dX6_put_77 hI_9
  · refine lv_tableIn (off := 54) (tgt := 58) hx hb dX6_put_4 (by omega) (by omega) (by rw [k_2]; decide +kernel) (by decide) ?_
    refine lv_aload_n hx hb dX6_put_58 rfl (lv_at hl 0 rfl) ?_
    refine z_get hx hb ht hown hK hP ziX6 rfl 77 (by decide) 2 (by decide) hw_2_82 rfl (v := .ref (q 78)) rfl dX6_put_59 ?_
    refine lv_iload_n hx hb dX6_put_62 rfl (lv_at hl 1 rfl) ?_
    refine lv_lload_n hx hb dX6_put_63 rfl (lv_at hl 2 rfl) ?_
    refine lv_l2i hx hb dX6_put_64 rfl ?_
    refine z_any (fun v_10 => ?_)
    refine lv_i2l (v := (v_10).toInt64) hx hb dX6_put_65 rfl ?_
    refine z_last hx hb hK hP hD hS 78 (by decide) 55 (fun _ => rfl) rfl (zR_vin hpa0 (by decide)) dX6_put_66 (fun H locs hP hD hS => ?_)
    have hI_11 := xInv_J (J2 := (zp J 78 (pa0).toNatClampNeg ((v_10).toInt64))) hI
    refine lv_goto (tgt := 77) hx hb dX6_put_67 (by decide) ?_
    exact z_vret hx hb hr hlocks hP hD hS dX6_put_77 hI_11
set_option maxHeartbeats 4000000 in
set_option maxRecDepth 100000 in
theorem xk_X6_put_3 (l : Launch) (D : va_G) (q : Nat → Nat) (cA : Nat → ClassId) (F : Nat → Nat → Int32) (I R : Nat → Nat → Int32) (J : Nat → Nat → Int64) (hI : xInv F (I, R, J)) (pa0 : Int32) (hpa0 : zR 0 59 pa0) (pa1 : Int64) : zMv l D vwCl (zXtys cA) 81 q (zXd q cA) yX6_put cX6_put 4 none ({ frames := 0, cells := 0, slots := 0, locals := 0 } : Room) [.ref (q 79), .int (pa0), .long (pa1)] (I, R, J) (fun u => xInv F u) := by
  intro sz
  refine z_body (by decide +kernel) (Nat.le_of_ble_eq_true rfl) (fun p e s m below meth c ls hx hb hml hr ht hown hlocks hsz hK hP hD hS hl => ?_)
  have hA : ∀ a, s.heap.size ≤ a → zA 81 q sz a := fun a h => Or.inr (hsz ▸ h)
  have hl : lv_has ls 4 [(0, .ref (q 79)), (1, .int (pa0)), (2, .long (pa1))] := hl
  refine lv_aload_n hx hb dX6_put_0 rfl (lv_at hl 0 rfl) ?_
  refine z_get hx hb ht hown hK hP ziX6 rfl 79 (by decide) 0 (by decide) hw_2_77 rfl (v := .int (I 79 0)) rfl dX6_put_1 ?_
  rcases (show ((I 79 0).toInt < 0 ∨ 2 < (I 79 0).toInt) ∨ (I 79 0).toInt = 0 ∨ (I 79 0).toInt = 1 ∨ (I 79 0).toInt = 2 by omega) with c_1 | k_2 | k_2 | k_2
  · refine lv_tableOut (tgt := 70) hx hb dX6_put_4 c_1 (by decide) ?_
    refine lv_aload_n hx hb dX6_put_70 rfl (lv_at hl 0 rfl) ?_
    refine z_get hx hb ht hown hK hP ziX6 rfl 79 (by decide) 2 (by decide) hw_2_82 rfl (v := .ref (q 80)) rfl dX6_put_71 ?_
    refine lv_iload_n hx hb dX6_put_74 rfl (lv_at hl 1 rfl) ?_
    refine lv_lload_n hx hb dX6_put_75 rfl (lv_at hl 2 rfl) ?_
    refine z_last hx hb hK hP hD hS 80 (by decide) 56 (fun _ => rfl) rfl (zR_vin hpa0 (by decide)) dX6_put_76 (fun H locs hP hD hS => ?_)
    have hI_3 := xInv_J (J2 := (zp J 80 (pa0).toNatClampNeg (pa1))) hI
    exact z_vret hx hb hr hlocks hP hD hS dX6_put_77 hI_3
  · refine lv_tableIn (off := 28) (tgt := 32) hx hb dX6_put_4 (by omega) (by omega) (by rw [k_2]; decide +kernel) (by decide) ?_
    refine lv_aload_n hx hb dX6_put_32 rfl (lv_at hl 0 rfl) ?_
    refine z_get hx hb ht hown hK hP ziX6 rfl 79 (by decide) 2 (by decide) hw_2_82 rfl (v := .ref (q 80)) rfl dX6_put_33 ?_
    refine lv_iload_n hx hb dX6_put_36 rfl (lv_at hl 1 rfl) ?_
    refine lv_lload_n hx hb dX6_put_37 rfl (lv_at hl 2 rfl) ?_
    refine lv_l2i hx hb dX6_put_38 rfl ?_
    refine z_any (fun v_4 => ?_)
    refine lv_i2b hx hb dX6_put_39 rfl ?_
    refine z_any (fun v_5 => ?_)
    refine lv_i2l (v := (v_5).toInt64) hx hb dX6_put_40 rfl ?_
    refine z_last hx hb hK hP hD hS 80 (by decide) 56 (fun _ => rfl) rfl (zR_vin hpa0 (by decide)) dX6_put_41 (fun H locs hP hD hS => ?_)
    have hI_6 := xInv_J (J2 := (zp J 80 (pa0).toNatClampNeg ((v_5).toInt64))) hI
    refine lv_goto (tgt := 77) hx hb dX6_put_42 (by decide) ?_
    exact z_vret hx hb hr hlocks hP hD hS dX6_put_77 hI_6
  · refine lv_tableIn (off := 41) (tgt := 45) hx hb dX6_put_4 (by omega) (by omega) (by rw [k_2]; decide +kernel) (by decide) ?_
    refine lv_aload_n hx hb dX6_put_45 rfl (lv_at hl 0 rfl) ?_
    refine z_get hx hb ht hown hK hP ziX6 rfl 79 (by decide) 2 (by decide) hw_2_82 rfl (v := .ref (q 80)) rfl dX6_put_46 ?_
    refine lv_iload_n hx hb dX6_put_49 rfl (lv_at hl 1 rfl) ?_
    refine lv_lload_n hx hb dX6_put_50 rfl (lv_at hl 2 rfl) ?_
    refine lv_l2i hx hb dX6_put_51 rfl ?_
    refine z_any (fun v_7 => ?_)
    refine lv_i2s hx hb dX6_put_52 rfl ?_
    refine z_any (fun v_8 => ?_)
    refine lv_i2l (v := (v_8).toInt64) hx hb dX6_put_53 rfl ?_
    refine z_last hx hb hK hP hD hS 80 (by decide) 56 (fun _ => rfl) rfl (zR_vin hpa0 (by decide)) dX6_put_54 (fun H locs hP hD hS => ?_)
    have hI_9 := xInv_J (J2 := (zp J 80 (pa0).toNatClampNeg ((v_8).toInt64))) hI
    refine lv_goto (tgt := 77) hx hb dX6_put_55 (by decide) ?_
    exact z_vret hx hb hr hlocks hP hD hS dX6_put_77 hI_9
  · refine lv_tableIn (off := 54) (tgt := 58) hx hb dX6_put_4 (by omega) (by omega) (by rw [k_2]; decide +kernel) (by decide) ?_
    refine lv_aload_n hx hb dX6_put_58 rfl (lv_at hl 0 rfl) ?_
    refine z_get hx hb ht hown hK hP ziX6 rfl 79 (by decide) 2 (by decide) hw_2_82 rfl (v := .ref (q 80)) rfl dX6_put_59 ?_
    refine lv_iload_n hx hb dX6_put_62 rfl (lv_at hl 1 rfl) ?_
    refine lv_lload_n hx hb dX6_put_63 rfl (lv_at hl 2 rfl) ?_
    refine lv_l2i hx hb dX6_put_64 rfl ?_
    refine z_any (fun v_10 => ?_)
    refine lv_i2l (v := (v_10).toInt64) hx hb dX6_put_65 rfl ?_
    refine z_last hx hb hK hP hD hS 80 (by decide) 56 (fun _ => rfl) rfl (zR_vin hpa0 (by decide)) dX6_put_66 (fun H locs hP hD hS => ?_)
    have hI_11 := xInv_J (J2 := (zp J 80 (pa0).toNatClampNeg ((v_10).toInt64))) hI
    refine lv_goto (tgt := 77) hx hb dX6_put_67 (by decide) ?_
    exact z_vret hx hb hr hlocks hP hD hS dX6_put_77 hI_11
set_option maxHeartbeats 4000000 in
set_option maxRecDepth 100000 in
theorem xk_X10_write (l : Launch) (D : va_G) (q : Nat → Nat) (cA : Nat → ClassId) (F : Nat → Nat → Int32) (I R : Nat → Nat → Int32) (J : Nat → Nat → Int64) (hI : xInv F (I, R, J)) (pa0 : Int32) (pa1 : Int32) (pa2 : Int64) : zMi l D vwCl (zXtys cA) 81 q (zXd q cA) yX10_write cX10_write 6 (some .int) ({ frames := 1, cells := 0, slots := 0, locals := 23 } : Room) [.ref (q 0), .int (pa0), .int (pa1), .long (pa2)] (I, R, J) (fun r u => ((pa0.toInt < 0 ∨ 3 < pa0.toInt) ∧ r = (-2) ∧ xInv F u) ∨ (¬ (pa0.toInt < 0 ∨ 3 < pa0.toInt) ∧ (xlen F pa0).toInt = -1 ∧ r = (-6) ∧ xInv F u) ∨ (¬ (pa0.toInt < 0 ∨ 3 < pa0.toInt) ∧ (xlen F pa0).toInt ≠ -1 ∧ (pa1.toInt < 0 ∨ (xlen F pa0).toInt ≤ pa1.toInt) ∧ r = (-7) ∧ xInv F u) ∨ (¬ (pa0.toInt < 0 ∨ 3 < pa0.toInt) ∧ (xlen F pa0).toInt ≠ -1 ∧ 0 ≤ pa1.toInt ∧ pa1.toInt < (xlen F pa0).toInt ∧ r = nI 0 ∧ xInv F u)) := by
  intro sz
  refine z_body (by decide +kernel) (Nat.le_of_ble_eq_true rfl) (fun p e s m below meth c ls hx hb hml hr ht hown hlocks hsz hK hP hD hS hl => ?_)
  have hA : ∀ a, s.heap.size ≤ a → zA 81 q sz a := fun a h => Or.inr (hsz ▸ h)
  have hl : lv_has ls 6 [(0, .ref (q 0)), (1, .int (pa0)), (2, .int (pa1)), (3, .long (pa2))] := hl
  refine lv_iload_n hx hb dX10_write_0 rfl (lv_at hl 1 rfl) ?_
  refine z_callSi (As := [.int (pa0)]) (rest := []) hx hb hml hown ht (xk_X10_isSlot l D q cA F _ _ _ hI (pa0)) hw_5_60 hmX10_isSlot ⟨rfl, rfl⟩ (na := 1) rfl (by decide +kernel) (by decide) hK hP hD hS hA hl.1 rfl (Nat.le_of_ble_eq_true rfl) ⟨Nat.zero_le _, Nat.zero_le _⟩ dX10_write_1 (fun r_1 I_1 R_1 J_1 H locs hp_1 hP hD hS _ _ => ?_)
  rcases hp_1 with ⟨rfl, hu_1, f0_1⟩ | ⟨rfl, hu_1, nn_1⟩
  · cases hu_1
    refine lv_if_ne (tgt := 10) hx hb dX10_write_4 (by decide) (fun _ => ?_) (fun c_0 => absurd c_0 (zD_ne zk_1 zk_z (by decide)))
    refine lv_aload_n hx hb dX10_write_10 rfl (lv_at hl 0 rfl) ?_
    refine z_get hx hb ht hown hK hP ziX10 rfl 0 (by decide) 11 (by decide) hw_2_104 rfl (v := .ref (q 72)) rfl dX10_write_11 ?_
    refine lv_iload_n hx hb dX10_write_14 rfl (lv_at hl 1 rfl) ?_
    obtain ⟨n_2, hn_2, rfl⟩ := z_ex (x := pa0) (N := 4) (zR_w f0_1 (a' := 0) (b' := 3) (by decide)).1 (Int.lt_of_le_of_lt (zR_w f0_1 (a' := 0) (b' := 3) (by decide)).2 (by decide))
    rcases (show n_2 = 0 ∨ n_2 = 1 ∨ n_2 = 2 ∨ n_2 = 3 by omega) with rfl | rfl | rfl | rfl
    · refine va_aldq hx hb hK hP 72 52 (zw_at (by decide) rfl) rfl (vp_in_nI (by decide) (by decide)) dX10_write_15 ?_
      refine W.eq (g2 := F0 m 16 ls (.ref (q 73) :: [])) rfl ?_
      refine lv_astore (lv' := [(5, .ref (q 73)), (0, .ref (q 0)), (1, .int (nI 0)), (2, .int (pa1)), (3, .long (pa2))]) hx hb dX10_write_16 hl (by decide) rfl (fun ls hl => ?_)
      refine lv_aload hx hb dX10_write_18 (lv_at hl 0 rfl) ?_
      refine z_callVi (k := 73) (As := []) (rest := []) hx hb hml hown ht (xk_X6_isThere l D q cA F _ _ _ hI ) hw_5_63 hmX6_isThere ⟨rfl, rfl⟩ (na := 0) rfl (by decide +kernel) (by decide) (by decide) rfl rfl hK hP hD hS hA hl.1 rfl (Nat.le_of_ble_eq_true rfl) ⟨Nat.zero_le _, Nat.zero_le _⟩ dX10_write_20 (fun r_3 I_3 R_3 J_3 H locs hp_3 hP hD hS _ _ => ?_)
      rcases hp_3 with ⟨rfl, hu_3, nn_3⟩ | ⟨rfl, hu_3, nn_3⟩
      · cases hu_3
        have f_4 : zR 0 60 (I 73 1) := x_there (xI hI 73 1) nn_3
        refine lv_if_ne (tgt := 29) hx hb dX10_write_23 (by decide) (fun _ => ?_) (fun c_0 => absurd c_0 (zD_ne zk_1 zk_z (by decide)))
        refine lv_iload_n hx hb dX10_write_29 rfl (lv_at hl 3 rfl) ?_
        refine lv_if_lt (tgt := 42) hx hb dX10_write_30 (by decide) (fun c_5 => ?_) (fun c_5 => ?_)
        · have t_c_5 := z_ltT c_5
          have f_6 : zR (-2147483648) (-1) (pa1) := zR_ltx t_c_5 (zR_any (pa1)) zk_z (by decide)
          refine lv_bipush (v := (-7)) hx hb dX10_write_42 (by decide +kernel) ?_
          exact z_iret (v := (-7)) hx hb hr hlocks hP hD hS dX10_write_44 (Or.inr (Or.inr (Or.inl ⟨(by obtain ⟨_, _⟩ := zk_0; omega), (show (F 73 1).toInt ≠ -1 from fun h => nn_3 ((congrArg Int32.toInt (xFr hI 73 1 rfl)).trans h)), (by show pa1.toInt < 0 ∨ (F 73 1).toInt ≤ pa1.toInt; have e9 : (I 73 1).toInt = (F 73 1).toInt := congrArg Int32.toInt (xFr hI 73 1 rfl); have z0 : (0 : Int32).toInt = 0 := (by decide +kernel); have _ := t_c_5; omega), rfl, hI⟩)))
        · have t_c_5 := z_ltF c_5
          have f_7 : zR 0 2147483647 (pa1) := zR_ley t_c_5 zk_z (zR_any (pa1)) (by decide)
          refine lv_iload_n hx hb dX10_write_33 rfl (lv_at hl 3 rfl) ?_
          refine lv_aload hx hb dX10_write_34 (lv_at hl 0 rfl) ?_
          refine z_get hx hb ht hown hK hP ziX6 rfl 73 (by decide) 1 (by decide) hw_2_81 rfl (v := .int (I 73 1)) rfl dX10_write_36 ?_
          refine lv_icmp_lt (tgt := 45) hx hb dX10_write_39 (by decide) (fun c_8 => ?_) (fun c_8 => ?_)
          · have t_c_8 := z_ltT c_8
            have f_9 : zR 0 59 (pa1) := zR_ltx t_c_8 f_7 f_4 (by decide)
            have f_10 : zR 1 60 (I 73 1) := zR_lty t_c_8 f_7 f_4 (by decide)
            refine lv_aload hx hb dX10_write_45 (lv_at hl 0 rfl) ?_
            refine lv_iload_n hx hb dX10_write_47 rfl (lv_at hl 3 rfl) ?_
            refine lv_lload_n hx hb dX10_write_48 rfl (lv_at hl 4 rfl) ?_
            refine z_callVv (k := 73) (As := [.int (pa1), .long (pa2)]) (rest := []) hx hb hml hown ht (xk_X6_put l D q cA F _ _ _ hI (pa1) f_9 (pa2)) hw_5_169 hmX6_put ⟨rfl, rfl⟩ (na := 2) rfl (by decide +kernel) (by decide) (by decide) rfl rfl hK hP hD hS hA hl.1 rfl (Nat.le_of_ble_eq_true rfl) ⟨Nat.zero_le _, Nat.zero_le _⟩ dX10_write_49 (fun I_11 R_11 J_11 H locs hp_11 hP hD hS _ _ => ?_)
            refine lv_iconst (v := nI 0) hx hb dX10_write_52 (by decide +kernel) ?_
            exact z_iret (v := nI 0) hx hb hr hlocks hP hD hS dX10_write_53 (Or.inr (Or.inr (Or.inr ⟨(by obtain ⟨_, _⟩ := zk_0; omega), (show (F 73 1).toInt ≠ -1 from fun h => nn_3 ((congrArg Int32.toInt (xFr hI 73 1 rfl)).trans h)), (by have e9 : (I 73 1).toInt = (F 73 1).toInt := congrArg Int32.toInt (xFr hI 73 1 rfl); have z0 : (0 : Int32).toInt = 0 := (by decide +kernel); have _ := t_c_5; have _ := t_c_8; omega), (by show pa1.toInt < (F 73 1).toInt; have e9 : (I 73 1).toInt = (F 73 1).toInt := congrArg Int32.toInt (xFr hI 73 1 rfl); have z0 : (0 : Int32).toInt = 0 := (by decide +kernel); have _ := t_c_5; have _ := t_c_8; omega), rfl, hp_11⟩)))
          · have t_c_8 := z_ltF c_8
            refine lv_bipush (v := (-7)) hx hb dX10_write_42 (by decide +kernel) ?_
            exact z_iret (v := (-7)) hx hb hr hlocks hP hD hS dX10_write_44 (Or.inr (Or.inr (Or.inl ⟨(by obtain ⟨_, _⟩ := zk_0; omega), (show (F 73 1).toInt ≠ -1 from fun h => nn_3 ((congrArg Int32.toInt (xFr hI 73 1 rfl)).trans h)), (by show pa1.toInt < 0 ∨ (F 73 1).toInt ≤ pa1.toInt; have e9 : (I 73 1).toInt = (F 73 1).toInt := congrArg Int32.toInt (xFr hI 73 1 rfl); have z0 : (0 : Int32).toInt = 0 := (by decide +kernel); have _ := t_c_5; have _ := t_c_8; omega), rfl, hI⟩)))
      · cases hu_3
        refine lv_if_ne (tgt := 29) hx hb dX10_write_23 (by decide) (fun c_0 => absurd (zD_eq zk_0 zk_z) c_0) (fun _ => ?_)
        refine lv_bipush (v := (-6)) hx hb dX10_write_26 (by decide +kernel) ?_
        exact z_iret (v := (-6)) hx hb hr hlocks hP hD hS dX10_write_28 (Or.inr (Or.inl ⟨(by obtain ⟨_, _⟩ := zk_0; omega), (show (F 73 1).toInt = -1 from (congrArg Int32.toInt (xFr hI 73 1 rfl)).symm.trans nn_3), rfl, hI⟩))
    · refine va_aldq hx hb hK hP 72 52 (zw_at (by decide) rfl) rfl (vp_in_nI (by decide) (by decide)) dX10_write_15 ?_
      refine W.eq (g2 := F0 m 16 ls (.ref (q 75) :: [])) rfl ?_
      refine lv_astore (lv' := [(5, .ref (q 75)), (0, .ref (q 0)), (1, .int (nI 1)), (2, .int (pa1)), (3, .long (pa2))]) hx hb dX10_write_16 hl (by decide) rfl (fun ls hl => ?_)
      refine lv_aload hx hb dX10_write_18 (lv_at hl 0 rfl) ?_
      refine z_callVi (k := 75) (As := []) (rest := []) hx hb hml hown ht (xk_X6_isThere_1 l D q cA F _ _ _ hI ) hw_5_63 hmX6_isThere ⟨rfl, rfl⟩ (na := 0) rfl (by decide +kernel) (by decide) (by decide) rfl rfl hK hP hD hS hA hl.1 rfl (Nat.le_of_ble_eq_true rfl) ⟨Nat.zero_le _, Nat.zero_le _⟩ dX10_write_20 (fun r_12 I_12 R_12 J_12 H locs hp_12 hP hD hS _ _ => ?_)
      rcases hp_12 with ⟨rfl, hu_12, nn_12⟩ | ⟨rfl, hu_12, nn_12⟩
      · cases hu_12
        have f_13 : zR 0 60 (I 75 1) := x_there (xI hI 75 1) nn_12
        refine lv_if_ne (tgt := 29) hx hb dX10_write_23 (by decide) (fun _ => ?_) (fun c_0 => absurd c_0 (zD_ne zk_1 zk_z (by decide)))
        refine lv_iload_n hx hb dX10_write_29 rfl (lv_at hl 3 rfl) ?_
        refine lv_if_lt (tgt := 42) hx hb dX10_write_30 (by decide) (fun c_14 => ?_) (fun c_14 => ?_)
        · have t_c_14 := z_ltT c_14
          have f_15 : zR (-2147483648) (-1) (pa1) := zR_ltx t_c_14 (zR_any (pa1)) zk_z (by decide)
          refine lv_bipush (v := (-7)) hx hb dX10_write_42 (by decide +kernel) ?_
          exact z_iret (v := (-7)) hx hb hr hlocks hP hD hS dX10_write_44 (Or.inr (Or.inr (Or.inl ⟨(by obtain ⟨_, _⟩ := zk_1; omega), (show (F 75 1).toInt ≠ -1 from fun h => nn_12 ((congrArg Int32.toInt (xFr hI 75 1 rfl)).trans h)), (by show pa1.toInt < 0 ∨ (F 75 1).toInt ≤ pa1.toInt; have e9 : (I 75 1).toInt = (F 75 1).toInt := congrArg Int32.toInt (xFr hI 75 1 rfl); have z0 : (0 : Int32).toInt = 0 := (by decide +kernel); have _ := t_c_14; omega), rfl, hI⟩)))
        · have t_c_14 := z_ltF c_14
          have f_16 : zR 0 2147483647 (pa1) := zR_ley t_c_14 zk_z (zR_any (pa1)) (by decide)
          refine lv_iload_n hx hb dX10_write_33 rfl (lv_at hl 3 rfl) ?_
          refine lv_aload hx hb dX10_write_34 (lv_at hl 0 rfl) ?_
          refine z_get hx hb ht hown hK hP ziX6 rfl 75 (by decide) 1 (by decide) hw_2_81 rfl (v := .int (I 75 1)) rfl dX10_write_36 ?_
          refine lv_icmp_lt (tgt := 45) hx hb dX10_write_39 (by decide) (fun c_17 => ?_) (fun c_17 => ?_)
          · have t_c_17 := z_ltT c_17
            have f_18 : zR 0 59 (pa1) := zR_ltx t_c_17 f_16 f_13 (by decide)
            have f_19 : zR 1 60 (I 75 1) := zR_lty t_c_17 f_16 f_13 (by decide)
            refine lv_aload hx hb dX10_write_45 (lv_at hl 0 rfl) ?_
            refine lv_iload_n hx hb dX10_write_47 rfl (lv_at hl 3 rfl) ?_
            refine lv_lload_n hx hb dX10_write_48 rfl (lv_at hl 4 rfl) ?_
            refine z_callVv (k := 75) (As := [.int (pa1), .long (pa2)]) (rest := []) hx hb hml hown ht (xk_X6_put_1 l D q cA F _ _ _ hI (pa1) f_18 (pa2)) hw_5_169 hmX6_put ⟨rfl, rfl⟩ (na := 2) rfl (by decide +kernel) (by decide) (by decide) rfl rfl hK hP hD hS hA hl.1 rfl (Nat.le_of_ble_eq_true rfl) ⟨Nat.zero_le _, Nat.zero_le _⟩ dX10_write_49 (fun I_20 R_20 J_20 H locs hp_20 hP hD hS _ _ => ?_)
            refine lv_iconst (v := nI 0) hx hb dX10_write_52 (by decide +kernel) ?_
            exact z_iret (v := nI 0) hx hb hr hlocks hP hD hS dX10_write_53 (Or.inr (Or.inr (Or.inr ⟨(by obtain ⟨_, _⟩ := zk_1; omega), (show (F 75 1).toInt ≠ -1 from fun h => nn_12 ((congrArg Int32.toInt (xFr hI 75 1 rfl)).trans h)), (by have e9 : (I 75 1).toInt = (F 75 1).toInt := congrArg Int32.toInt (xFr hI 75 1 rfl); have z0 : (0 : Int32).toInt = 0 := (by decide +kernel); have _ := t_c_14; have _ := t_c_17; omega), (by show pa1.toInt < (F 75 1).toInt; have e9 : (I 75 1).toInt = (F 75 1).toInt := congrArg Int32.toInt (xFr hI 75 1 rfl); have z0 : (0 : Int32).toInt = 0 := (by decide +kernel); have _ := t_c_14; have _ := t_c_17; omega), rfl, hp_20⟩)))
          · have t_c_17 := z_ltF c_17
            refine lv_bipush (v := (-7)) hx hb dX10_write_42 (by decide +kernel) ?_
            exact z_iret (v := (-7)) hx hb hr hlocks hP hD hS dX10_write_44 (Or.inr (Or.inr (Or.inl ⟨(by obtain ⟨_, _⟩ := zk_1; omega), (show (F 75 1).toInt ≠ -1 from fun h => nn_12 ((congrArg Int32.toInt (xFr hI 75 1 rfl)).trans h)), (by show pa1.toInt < 0 ∨ (F 75 1).toInt ≤ pa1.toInt; have e9 : (I 75 1).toInt = (F 75 1).toInt := congrArg Int32.toInt (xFr hI 75 1 rfl); have z0 : (0 : Int32).toInt = 0 := (by decide +kernel); have _ := t_c_14; have _ := t_c_17; omega), rfl, hI⟩)))
      · cases hu_12
        refine lv_if_ne (tgt := 29) hx hb dX10_write_23 (by decide) (fun c_0 => absurd (zD_eq zk_0 zk_z) c_0) (fun _ => ?_)
        refine lv_bipush (v := (-6)) hx hb dX10_write_26 (by decide +kernel) ?_
        exact z_iret (v := (-6)) hx hb hr hlocks hP hD hS dX10_write_28 (Or.inr (Or.inl ⟨(by obtain ⟨_, _⟩ := zk_1; omega), (show (F 75 1).toInt = -1 from (congrArg Int32.toInt (xFr hI 75 1 rfl)).symm.trans nn_12), rfl, hI⟩))
    · refine va_aldq hx hb hK hP 72 52 (zw_at (by decide) rfl) rfl (vp_in_nI (by decide) (by decide)) dX10_write_15 ?_
      refine W.eq (g2 := F0 m 16 ls (.ref (q 77) :: [])) rfl ?_
      refine lv_astore (lv' := [(5, .ref (q 77)), (0, .ref (q 0)), (1, .int (nI 2)), (2, .int (pa1)), (3, .long (pa2))]) hx hb dX10_write_16 hl (by decide) rfl (fun ls hl => ?_)
      refine lv_aload hx hb dX10_write_18 (lv_at hl 0 rfl) ?_
      refine z_callVi (k := 77) (As := []) (rest := []) hx hb hml hown ht (xk_X6_isThere_2 l D q cA F _ _ _ hI ) hw_5_63 hmX6_isThere ⟨rfl, rfl⟩ (na := 0) rfl (by decide +kernel) (by decide) (by decide) rfl rfl hK hP hD hS hA hl.1 rfl (Nat.le_of_ble_eq_true rfl) ⟨Nat.zero_le _, Nat.zero_le _⟩ dX10_write_20 (fun r_21 I_21 R_21 J_21 H locs hp_21 hP hD hS _ _ => ?_)
      rcases hp_21 with ⟨rfl, hu_21, nn_21⟩ | ⟨rfl, hu_21, nn_21⟩
      · cases hu_21
        have f_22 : zR 0 60 (I 77 1) := x_there (xI hI 77 1) nn_21
        refine lv_if_ne (tgt := 29) hx hb dX10_write_23 (by decide) (fun _ => ?_) (fun c_0 => absurd c_0 (zD_ne zk_1 zk_z (by decide)))
        refine lv_iload_n hx hb dX10_write_29 rfl (lv_at hl 3 rfl) ?_
        refine lv_if_lt (tgt := 42) hx hb dX10_write_30 (by decide) (fun c_23 => ?_) (fun c_23 => ?_)
        · have t_c_23 := z_ltT c_23
          have f_24 : zR (-2147483648) (-1) (pa1) := zR_ltx t_c_23 (zR_any (pa1)) zk_z (by decide)
          refine lv_bipush (v := (-7)) hx hb dX10_write_42 (by decide +kernel) ?_
          exact z_iret (v := (-7)) hx hb hr hlocks hP hD hS dX10_write_44 (Or.inr (Or.inr (Or.inl ⟨(by obtain ⟨_, _⟩ := zk_2; omega), (show (F 77 1).toInt ≠ -1 from fun h => nn_21 ((congrArg Int32.toInt (xFr hI 77 1 rfl)).trans h)), (by show pa1.toInt < 0 ∨ (F 77 1).toInt ≤ pa1.toInt; have e9 : (I 77 1).toInt = (F 77 1).toInt := congrArg Int32.toInt (xFr hI 77 1 rfl); have z0 : (0 : Int32).toInt = 0 := (by decide +kernel); have _ := t_c_23; omega), rfl, hI⟩)))
        · have t_c_23 := z_ltF c_23
          have f_25 : zR 0 2147483647 (pa1) := zR_ley t_c_23 zk_z (zR_any (pa1)) (by decide)
          refine lv_iload_n hx hb dX10_write_33 rfl (lv_at hl 3 rfl) ?_
          refine lv_aload hx hb dX10_write_34 (lv_at hl 0 rfl) ?_
          refine z_get hx hb ht hown hK hP ziX6 rfl 77 (by decide) 1 (by decide) hw_2_81 rfl (v := .int (I 77 1)) rfl dX10_write_36 ?_
          refine lv_icmp_lt (tgt := 45) hx hb dX10_write_39 (by decide) (fun c_26 => ?_) (fun c_26 => ?_)
          · have t_c_26 := z_ltT c_26
            have f_27 : zR 0 59 (pa1) := zR_ltx t_c_26 f_25 f_22 (by decide)
            have f_28 : zR 1 60 (I 77 1) := zR_lty t_c_26 f_25 f_22 (by decide)
            refine lv_aload hx hb dX10_write_45 (lv_at hl 0 rfl) ?_
            refine lv_iload_n hx hb dX10_write_47 rfl (lv_at hl 3 rfl) ?_
            refine lv_lload_n hx hb dX10_write_48 rfl (lv_at hl 4 rfl) ?_
            refine z_callVv (k := 77) (As := [.int (pa1), .long (pa2)]) (rest := []) hx hb hml hown ht (xk_X6_put_2 l D q cA F _ _ _ hI (pa1) f_27 (pa2)) hw_5_169 hmX6_put ⟨rfl, rfl⟩ (na := 2) rfl (by decide +kernel) (by decide) (by decide) rfl rfl hK hP hD hS hA hl.1 rfl (Nat.le_of_ble_eq_true rfl) ⟨Nat.zero_le _, Nat.zero_le _⟩ dX10_write_49 (fun I_29 R_29 J_29 H locs hp_29 hP hD hS _ _ => ?_)
            refine lv_iconst (v := nI 0) hx hb dX10_write_52 (by decide +kernel) ?_
            exact z_iret (v := nI 0) hx hb hr hlocks hP hD hS dX10_write_53 (Or.inr (Or.inr (Or.inr ⟨(by obtain ⟨_, _⟩ := zk_2; omega), (show (F 77 1).toInt ≠ -1 from fun h => nn_21 ((congrArg Int32.toInt (xFr hI 77 1 rfl)).trans h)), (by have e9 : (I 77 1).toInt = (F 77 1).toInt := congrArg Int32.toInt (xFr hI 77 1 rfl); have z0 : (0 : Int32).toInt = 0 := (by decide +kernel); have _ := t_c_23; have _ := t_c_26; omega), (by show pa1.toInt < (F 77 1).toInt; have e9 : (I 77 1).toInt = (F 77 1).toInt := congrArg Int32.toInt (xFr hI 77 1 rfl); have z0 : (0 : Int32).toInt = 0 := (by decide +kernel); have _ := t_c_23; have _ := t_c_26; omega), rfl, hp_29⟩)))
          · have t_c_26 := z_ltF c_26
            refine lv_bipush (v := (-7)) hx hb dX10_write_42 (by decide +kernel) ?_
            exact z_iret (v := (-7)) hx hb hr hlocks hP hD hS dX10_write_44 (Or.inr (Or.inr (Or.inl ⟨(by obtain ⟨_, _⟩ := zk_2; omega), (show (F 77 1).toInt ≠ -1 from fun h => nn_21 ((congrArg Int32.toInt (xFr hI 77 1 rfl)).trans h)), (by show pa1.toInt < 0 ∨ (F 77 1).toInt ≤ pa1.toInt; have e9 : (I 77 1).toInt = (F 77 1).toInt := congrArg Int32.toInt (xFr hI 77 1 rfl); have z0 : (0 : Int32).toInt = 0 := (by decide +kernel); have _ := t_c_23; have _ := t_c_26; omega), rfl, hI⟩)))
      · cases hu_21
        refine lv_if_ne (tgt := 29) hx hb dX10_write_23 (by decide) (fun c_0 => absurd (zD_eq zk_0 zk_z) c_0) (fun _ => ?_)
        refine lv_bipush (v := (-6)) hx hb dX10_write_26 (by decide +kernel) ?_
        exact z_iret (v := (-6)) hx hb hr hlocks hP hD hS dX10_write_28 (Or.inr (Or.inl ⟨(by obtain ⟨_, _⟩ := zk_2; omega), (show (F 77 1).toInt = -1 from (congrArg Int32.toInt (xFr hI 77 1 rfl)).symm.trans nn_21), rfl, hI⟩))
    · refine va_aldq hx hb hK hP 72 52 (zw_at (by decide) rfl) rfl (vp_in_nI (by decide) (by decide)) dX10_write_15 ?_
      refine W.eq (g2 := F0 m 16 ls (.ref (q 79) :: [])) rfl ?_
      refine lv_astore (lv' := [(5, .ref (q 79)), (0, .ref (q 0)), (1, .int (nI 3)), (2, .int (pa1)), (3, .long (pa2))]) hx hb dX10_write_16 hl (by decide) rfl (fun ls hl => ?_)
      refine lv_aload hx hb dX10_write_18 (lv_at hl 0 rfl) ?_
      refine z_callVi (k := 79) (As := []) (rest := []) hx hb hml hown ht (xk_X6_isThere_3 l D q cA F _ _ _ hI ) hw_5_63 hmX6_isThere ⟨rfl, rfl⟩ (na := 0) rfl (by decide +kernel) (by decide) (by decide) rfl rfl hK hP hD hS hA hl.1 rfl (Nat.le_of_ble_eq_true rfl) ⟨Nat.zero_le _, Nat.zero_le _⟩ dX10_write_20 (fun r_30 I_30 R_30 J_30 H locs hp_30 hP hD hS _ _ => ?_)
      rcases hp_30 with ⟨rfl, hu_30, nn_30⟩ | ⟨rfl, hu_30, nn_30⟩
      · cases hu_30
        have f_31 : zR 0 60 (I 79 1) := x_there (xI hI 79 1) nn_30
        refine lv_if_ne (tgt := 29) hx hb dX10_write_23 (by decide) (fun _ => ?_) (fun c_0 => absurd c_0 (zD_ne zk_1 zk_z (by decide)))
        refine lv_iload_n hx hb dX10_write_29 rfl (lv_at hl 3 rfl) ?_
        refine lv_if_lt (tgt := 42) hx hb dX10_write_30 (by decide) (fun c_32 => ?_) (fun c_32 => ?_)
        · have t_c_32 := z_ltT c_32
          have f_33 : zR (-2147483648) (-1) (pa1) := zR_ltx t_c_32 (zR_any (pa1)) zk_z (by decide)
          refine lv_bipush (v := (-7)) hx hb dX10_write_42 (by decide +kernel) ?_
          exact z_iret (v := (-7)) hx hb hr hlocks hP hD hS dX10_write_44 (Or.inr (Or.inr (Or.inl ⟨(by obtain ⟨_, _⟩ := zk_3; omega), (show (F 79 1).toInt ≠ -1 from fun h => nn_30 ((congrArg Int32.toInt (xFr hI 79 1 rfl)).trans h)), (by show pa1.toInt < 0 ∨ (F 79 1).toInt ≤ pa1.toInt; have e9 : (I 79 1).toInt = (F 79 1).toInt := congrArg Int32.toInt (xFr hI 79 1 rfl); have z0 : (0 : Int32).toInt = 0 := (by decide +kernel); have _ := t_c_32; omega), rfl, hI⟩)))
        · have t_c_32 := z_ltF c_32
          have f_34 : zR 0 2147483647 (pa1) := zR_ley t_c_32 zk_z (zR_any (pa1)) (by decide)
          refine lv_iload_n hx hb dX10_write_33 rfl (lv_at hl 3 rfl) ?_
          refine lv_aload hx hb dX10_write_34 (lv_at hl 0 rfl) ?_
          refine z_get hx hb ht hown hK hP ziX6 rfl 79 (by decide) 1 (by decide) hw_2_81 rfl (v := .int (I 79 1)) rfl dX10_write_36 ?_
          refine lv_icmp_lt (tgt := 45) hx hb dX10_write_39 (by decide) (fun c_35 => ?_) (fun c_35 => ?_)
          · have t_c_35 := z_ltT c_35
            have f_36 : zR 0 59 (pa1) := zR_ltx t_c_35 f_34 f_31 (by decide)
            have f_37 : zR 1 60 (I 79 1) := zR_lty t_c_35 f_34 f_31 (by decide)
            refine lv_aload hx hb dX10_write_45 (lv_at hl 0 rfl) ?_
            refine lv_iload_n hx hb dX10_write_47 rfl (lv_at hl 3 rfl) ?_
            refine lv_lload_n hx hb dX10_write_48 rfl (lv_at hl 4 rfl) ?_
            refine z_callVv (k := 79) (As := [.int (pa1), .long (pa2)]) (rest := []) hx hb hml hown ht (xk_X6_put_3 l D q cA F _ _ _ hI (pa1) f_36 (pa2)) hw_5_169 hmX6_put ⟨rfl, rfl⟩ (na := 2) rfl (by decide +kernel) (by decide) (by decide) rfl rfl hK hP hD hS hA hl.1 rfl (Nat.le_of_ble_eq_true rfl) ⟨Nat.zero_le _, Nat.zero_le _⟩ dX10_write_49 (fun I_38 R_38 J_38 H locs hp_38 hP hD hS _ _ => ?_)
            refine lv_iconst (v := nI 0) hx hb dX10_write_52 (by decide +kernel) ?_
            exact z_iret (v := nI 0) hx hb hr hlocks hP hD hS dX10_write_53 (Or.inr (Or.inr (Or.inr ⟨(by obtain ⟨_, _⟩ := zk_3; omega), (show (F 79 1).toInt ≠ -1 from fun h => nn_30 ((congrArg Int32.toInt (xFr hI 79 1 rfl)).trans h)), (by have e9 : (I 79 1).toInt = (F 79 1).toInt := congrArg Int32.toInt (xFr hI 79 1 rfl); have z0 : (0 : Int32).toInt = 0 := (by decide +kernel); have _ := t_c_32; have _ := t_c_35; omega), (by show pa1.toInt < (F 79 1).toInt; have e9 : (I 79 1).toInt = (F 79 1).toInt := congrArg Int32.toInt (xFr hI 79 1 rfl); have z0 : (0 : Int32).toInt = 0 := (by decide +kernel); have _ := t_c_32; have _ := t_c_35; omega), rfl, hp_38⟩)))
          · have t_c_35 := z_ltF c_35
            refine lv_bipush (v := (-7)) hx hb dX10_write_42 (by decide +kernel) ?_
            exact z_iret (v := (-7)) hx hb hr hlocks hP hD hS dX10_write_44 (Or.inr (Or.inr (Or.inl ⟨(by obtain ⟨_, _⟩ := zk_3; omega), (show (F 79 1).toInt ≠ -1 from fun h => nn_30 ((congrArg Int32.toInt (xFr hI 79 1 rfl)).trans h)), (by show pa1.toInt < 0 ∨ (F 79 1).toInt ≤ pa1.toInt; have e9 : (I 79 1).toInt = (F 79 1).toInt := congrArg Int32.toInt (xFr hI 79 1 rfl); have z0 : (0 : Int32).toInt = 0 := (by decide +kernel); have _ := t_c_32; have _ := t_c_35; omega), rfl, hI⟩)))
      · cases hu_30
        refine lv_if_ne (tgt := 29) hx hb dX10_write_23 (by decide) (fun c_0 => absurd (zD_eq zk_0 zk_z) c_0) (fun _ => ?_)
        refine lv_bipush (v := (-6)) hx hb dX10_write_26 (by decide +kernel) ?_
        exact z_iret (v := (-6)) hx hb hr hlocks hP hD hS dX10_write_28 (Or.inr (Or.inl ⟨(by obtain ⟨_, _⟩ := zk_3; omega), (show (F 79 1).toInt = -1 from (congrArg Int32.toInt (xFr hI 79 1 rfl)).symm.trans nn_30), rfl, hI⟩))
  · cases hu_1
    refine lv_if_ne (tgt := 10) hx hb dX10_write_4 (by decide) (fun c_0 => absurd (zD_eq zk_0 zk_z) c_0) (fun _ => ?_)
    refine lv_bipush (v := (-2)) hx hb dX10_write_7 (by decide +kernel) ?_
    exact z_iret (v := (-2)) hx hb hr hlocks hP hD hS dX10_write_9 (Or.inl ⟨(by obtain ⟨_, _⟩ := (zR_any (pa0)); have _ := nn_1; omega), rfl, hI⟩)
set_option maxHeartbeats 4000000 in
set_option maxRecDepth 100000 in
theorem xk_X6_spans (l : Launch) (D : va_G) (q : Nat → Nat) (cA : Nat → ClassId) (F : Nat → Nat → Int32) (I R : Nat → Nat → Int32) (J : Nat → Nat → Int64) (hI : xInv F (I, R, J)) (pa0 : Int32) (pa1 : Int32) : zMi l D vwCl (zXtys cA) 81 q (zXd q cA) yX6_spans cX6_spans 3 (some .boolean) ({ frames := 0, cells := 0, slots := 0, locals := 0 } : Room) [.ref (q 73), .int (pa0), .int (pa1)] (I, R, J) (fun r u => (r = nI 1 ∧ u = (I, R, J) ∧ 0 ≤ pa0.toInt ∧ 0 ≤ pa1.toInt ∧ pa0.toInt + pa1.toInt ≤ (I 73 1).toInt) ∨ (r = nI 0 ∧ u = (I, R, J) ∧ (pa0.toInt < 0 ∨ pa1.toInt < 0 ∨ (I 73 1).toInt < pa0.toInt + pa1.toInt))) := by
  intro sz
  refine z_body (by decide +kernel) (Nat.le_of_ble_eq_true rfl) (fun p e s m below meth c ls hx hb hml hr ht hown hlocks hsz hK hP hD hS hl => ?_)
  have hA : ∀ a, s.heap.size ≤ a → zA 81 q sz a := fun a h => Or.inr (hsz ▸ h)
  have hl : lv_has ls 3 [(0, .ref (q 73)), (1, .int (pa0)), (2, .int (pa1))] := hl
  refine lv_iload_n hx hb dX6_spans_0 rfl (lv_at hl 1 rfl) ?_
  refine lv_if_lt (tgt := 30) hx hb dX6_spans_1 (by decide) (fun c_1 => ?_) (fun c_1 => ?_)
  · have t_c_1 := z_ltT c_1
    have f_2 : zR (-2147483648) (-1) (pa0) := zR_ltx t_c_1 (zR_any (pa0)) zk_z (by decide)
    refine lv_iconst (v := nI 0) hx hb dX6_spans_30 (by decide +kernel) ?_
    exact z_zret (v := nI 0) hx hb hr hlocks hP hD hS (by decide +kernel) dX6_spans_31 (Or.inr ⟨rfl, rfl, (by have z0 : (0 : Int32).toInt = 0 := (by decide +kernel); have _ := t_c_1; obtain ⟨_, _⟩ := (show zR (-1) 60 (I 73 1) from xI hI 73 1); omega)⟩)
  · have t_c_1 := z_ltF c_1
    have f_3 : zR 0 2147483647 (pa0) := zR_ley t_c_1 zk_z (zR_any (pa0)) (by decide)
    refine lv_iload_n hx hb dX6_spans_4 rfl (lv_at hl 2 rfl) ?_
    refine lv_if_lt (tgt := 30) hx hb dX6_spans_5 (by decide) (fun c_4 => ?_) (fun c_4 => ?_)
    · have t_c_4 := z_ltT c_4
      have f_5 : zR (-2147483648) (-1) (pa1) := zR_ltx t_c_4 (zR_any (pa1)) zk_z (by decide)
      refine lv_iconst (v := nI 0) hx hb dX6_spans_30 (by decide +kernel) ?_
      exact z_zret (v := nI 0) hx hb hr hlocks hP hD hS (by decide +kernel) dX6_spans_31 (Or.inr ⟨rfl, rfl, (by have z0 : (0 : Int32).toInt = 0 := (by decide +kernel); have _ := t_c_1; have _ := t_c_4; obtain ⟨_, _⟩ := (show zR (-1) 60 (I 73 1) from xI hI 73 1); omega)⟩)
    · have t_c_4 := z_ltF c_4
      have f_6 : zR 0 2147483647 (pa1) := zR_ley t_c_4 zk_z (zR_any (pa1)) (by decide)
      refine lv_iload_n hx hb dX6_spans_8 rfl (lv_at hl 2 rfl) ?_
      refine lv_aload_n hx hb dX6_spans_9 rfl (lv_at hl 0 rfl) ?_
      refine z_get hx hb ht hown hK hP ziX6 rfl 73 (by decide) 1 (by decide) hw_2_79 rfl (v := .int (I 73 1)) rfl dX6_spans_10 ?_
      have f_7 : zR (-1) 60 (I 73 1) := xI hI 73 1
      refine lv_icmp_gt (tgt := 30) hx hb dX6_spans_13 (by decide) (fun c_8 => ?_) (fun c_8 => ?_)
      · have t_c_8 := z_ltT c_8
        refine lv_iconst (v := nI 0) hx hb dX6_spans_30 (by decide +kernel) ?_
        exact z_zret (v := nI 0) hx hb hr hlocks hP hD hS (by decide +kernel) dX6_spans_31 (Or.inr ⟨rfl, rfl, (by have z0 : (0 : Int32).toInt = 0 := (by decide +kernel); have _ := t_c_1; have _ := t_c_4; have _ := t_c_8; obtain ⟨_, _⟩ := (show zR (-1) 60 (I 73 1) from xI hI 73 1); omega)⟩)
      · have t_c_8 := z_ltF c_8
        have f_9 : zR 0 60 (pa1) := zR_lex t_c_8 f_6 f_7 (by decide)
        have f_10 : zR 0 60 (I 73 1) := zR_ley t_c_8 f_6 f_7 (by decide)
        refine lv_iload_n hx hb dX6_spans_16 rfl (lv_at hl 1 rfl) ?_
        refine lv_aload_n hx hb dX6_spans_17 rfl (lv_at hl 0 rfl) ?_
        refine z_get hx hb ht hown hK hP ziX6 rfl 73 (by decide) 1 (by decide) hw_2_79 rfl (v := .int (I 73 1)) rfl dX6_spans_18 ?_
        refine lv_iload_n hx hb dX6_spans_21 rfl (lv_at hl 2 rfl) ?_
        refine lv_isub hx hb dX6_spans_22 ?_
        refine lv_topi (fun v_11 ev_11 => ?_)
        have hv_11 : zR (-60) 60 v_11 := ev_11 ▸ zR_sub f_10 f_9 (by decide)
        refine lv_icmp_gt (tgt := 30) hx hb dX6_spans_23 (by decide) (fun c_12 => ?_) (fun c_12 => ?_)
        · have t_c_12 := z_ltT c_12
          refine lv_iconst (v := nI 0) hx hb dX6_spans_30 (by decide +kernel) ?_
          exact z_zret (v := nI 0) hx hb hr hlocks hP hD hS (by decide +kernel) dX6_spans_31 (Or.inr ⟨rfl, rfl, (by have z0 : (0 : Int32).toInt = 0 := (by decide +kernel); have _ := t_c_1; have _ := t_c_4; have _ := t_c_8; have _ := t_c_12; obtain ⟨_, _⟩ := (show zR (-1) 60 (I 73 1) from xI hI 73 1); have e1 := z2_sub (x := I 73 1) (y := pa1) (by omega) (by omega); have e2 := congrArg Int32.toInt ev_11; omega)⟩)
        · have t_c_12 := z_ltF c_12
          have f_13 : zR 0 60 (pa0) := zR_lex t_c_12 f_3 hv_11 (by decide)
          have f_14 : zR 0 60 (v_11) := zR_ley t_c_12 f_3 hv_11 (by decide)
          refine lv_iconst (v := nI 1) hx hb dX6_spans_26 (by decide +kernel) ?_
          refine lv_goto (tgt := 31) hx hb dX6_spans_27 (by decide) ?_
          exact z_zret (v := nI 1) hx hb hr hlocks hP hD hS (by decide +kernel) dX6_spans_31 (Or.inl ⟨rfl, rfl, (by have z0 : (0 : Int32).toInt = 0 := (by decide +kernel); have _ := t_c_1; have _ := t_c_4; have _ := t_c_8; have _ := t_c_12; obtain ⟨_, _⟩ := (show zR (-1) 60 (I 73 1) from xI hI 73 1); have e1 := z2_sub (x := I 73 1) (y := pa1) (by omega) (by omega); have e2 := congrArg Int32.toInt ev_11; omega), (by have z0 : (0 : Int32).toInt = 0 := (by decide +kernel); have _ := t_c_1; have _ := t_c_4; have _ := t_c_8; have _ := t_c_12; obtain ⟨_, _⟩ := (show zR (-1) 60 (I 73 1) from xI hI 73 1); have e1 := z2_sub (x := I 73 1) (y := pa1) (by omega) (by omega); have e2 := congrArg Int32.toInt ev_11; omega), (by have z0 : (0 : Int32).toInt = 0 := (by decide +kernel); have _ := t_c_1; have _ := t_c_4; have _ := t_c_8; have _ := t_c_12; obtain ⟨_, _⟩ := (show zR (-1) 60 (I 73 1) from xI hI 73 1); have e1 := z2_sub (x := I 73 1) (y := pa1) (by omega) (by omega); have e2 := congrArg Int32.toInt ev_11; omega)⟩)
set_option maxHeartbeats 4000000 in
set_option maxRecDepth 100000 in
theorem xk_X6_spans_1 (l : Launch) (D : va_G) (q : Nat → Nat) (cA : Nat → ClassId) (F : Nat → Nat → Int32) (I R : Nat → Nat → Int32) (J : Nat → Nat → Int64) (hI : xInv F (I, R, J)) (pa0 : Int32) (pa1 : Int32) : zMi l D vwCl (zXtys cA) 81 q (zXd q cA) yX6_spans cX6_spans 3 (some .boolean) ({ frames := 0, cells := 0, slots := 0, locals := 0 } : Room) [.ref (q 75), .int (pa0), .int (pa1)] (I, R, J) (fun r u => (r = nI 1 ∧ u = (I, R, J) ∧ 0 ≤ pa0.toInt ∧ 0 ≤ pa1.toInt ∧ pa0.toInt + pa1.toInt ≤ (I 75 1).toInt) ∨ (r = nI 0 ∧ u = (I, R, J) ∧ (pa0.toInt < 0 ∨ pa1.toInt < 0 ∨ (I 75 1).toInt < pa0.toInt + pa1.toInt))) := by
  intro sz
  refine z_body (by decide +kernel) (Nat.le_of_ble_eq_true rfl) (fun p e s m below meth c ls hx hb hml hr ht hown hlocks hsz hK hP hD hS hl => ?_)
  have hA : ∀ a, s.heap.size ≤ a → zA 81 q sz a := fun a h => Or.inr (hsz ▸ h)
  have hl : lv_has ls 3 [(0, .ref (q 75)), (1, .int (pa0)), (2, .int (pa1))] := hl
  refine lv_iload_n hx hb dX6_spans_0 rfl (lv_at hl 1 rfl) ?_
  refine lv_if_lt (tgt := 30) hx hb dX6_spans_1 (by decide) (fun c_1 => ?_) (fun c_1 => ?_)
  · have t_c_1 := z_ltT c_1
    have f_2 : zR (-2147483648) (-1) (pa0) := zR_ltx t_c_1 (zR_any (pa0)) zk_z (by decide)
    refine lv_iconst (v := nI 0) hx hb dX6_spans_30 (by decide +kernel) ?_
    exact z_zret (v := nI 0) hx hb hr hlocks hP hD hS (by decide +kernel) dX6_spans_31 (Or.inr ⟨rfl, rfl, (by have z0 : (0 : Int32).toInt = 0 := (by decide +kernel); have _ := t_c_1; obtain ⟨_, _⟩ := (show zR (-1) 60 (I 75 1) from xI hI 75 1); omega)⟩)
  · have t_c_1 := z_ltF c_1
    have f_3 : zR 0 2147483647 (pa0) := zR_ley t_c_1 zk_z (zR_any (pa0)) (by decide)
    refine lv_iload_n hx hb dX6_spans_4 rfl (lv_at hl 2 rfl) ?_
    refine lv_if_lt (tgt := 30) hx hb dX6_spans_5 (by decide) (fun c_4 => ?_) (fun c_4 => ?_)
    · have t_c_4 := z_ltT c_4
      have f_5 : zR (-2147483648) (-1) (pa1) := zR_ltx t_c_4 (zR_any (pa1)) zk_z (by decide)
      refine lv_iconst (v := nI 0) hx hb dX6_spans_30 (by decide +kernel) ?_
      exact z_zret (v := nI 0) hx hb hr hlocks hP hD hS (by decide +kernel) dX6_spans_31 (Or.inr ⟨rfl, rfl, (by have z0 : (0 : Int32).toInt = 0 := (by decide +kernel); have _ := t_c_1; have _ := t_c_4; obtain ⟨_, _⟩ := (show zR (-1) 60 (I 75 1) from xI hI 75 1); omega)⟩)
    · have t_c_4 := z_ltF c_4
      have f_6 : zR 0 2147483647 (pa1) := zR_ley t_c_4 zk_z (zR_any (pa1)) (by decide)
      refine lv_iload_n hx hb dX6_spans_8 rfl (lv_at hl 2 rfl) ?_
      refine lv_aload_n hx hb dX6_spans_9 rfl (lv_at hl 0 rfl) ?_
      refine z_get hx hb ht hown hK hP ziX6 rfl 75 (by decide) 1 (by decide) hw_2_79 rfl (v := .int (I 75 1)) rfl dX6_spans_10 ?_
      have f_7 : zR (-1) 60 (I 75 1) := xI hI 75 1
      refine lv_icmp_gt (tgt := 30) hx hb dX6_spans_13 (by decide) (fun c_8 => ?_) (fun c_8 => ?_)
      · have t_c_8 := z_ltT c_8
        refine lv_iconst (v := nI 0) hx hb dX6_spans_30 (by decide +kernel) ?_
        exact z_zret (v := nI 0) hx hb hr hlocks hP hD hS (by decide +kernel) dX6_spans_31 (Or.inr ⟨rfl, rfl, (by have z0 : (0 : Int32).toInt = 0 := (by decide +kernel); have _ := t_c_1; have _ := t_c_4; have _ := t_c_8; obtain ⟨_, _⟩ := (show zR (-1) 60 (I 75 1) from xI hI 75 1); omega)⟩)
      · have t_c_8 := z_ltF c_8
        have f_9 : zR 0 60 (pa1) := zR_lex t_c_8 f_6 f_7 (by decide)
        have f_10 : zR 0 60 (I 75 1) := zR_ley t_c_8 f_6 f_7 (by decide)
        refine lv_iload_n hx hb dX6_spans_16 rfl (lv_at hl 1 rfl) ?_
        refine lv_aload_n hx hb dX6_spans_17 rfl (lv_at hl 0 rfl) ?_
        refine z_get hx hb ht hown hK hP ziX6 rfl 75 (by decide) 1 (by decide) hw_2_79 rfl (v := .int (I 75 1)) rfl dX6_spans_18 ?_
        refine lv_iload_n hx hb dX6_spans_21 rfl (lv_at hl 2 rfl) ?_
        refine lv_isub hx hb dX6_spans_22 ?_
        refine lv_topi (fun v_11 ev_11 => ?_)
        have hv_11 : zR (-60) 60 v_11 := ev_11 ▸ zR_sub f_10 f_9 (by decide)
        refine lv_icmp_gt (tgt := 30) hx hb dX6_spans_23 (by decide) (fun c_12 => ?_) (fun c_12 => ?_)
        · have t_c_12 := z_ltT c_12
          refine lv_iconst (v := nI 0) hx hb dX6_spans_30 (by decide +kernel) ?_
          exact z_zret (v := nI 0) hx hb hr hlocks hP hD hS (by decide +kernel) dX6_spans_31 (Or.inr ⟨rfl, rfl, (by have z0 : (0 : Int32).toInt = 0 := (by decide +kernel); have _ := t_c_1; have _ := t_c_4; have _ := t_c_8; have _ := t_c_12; obtain ⟨_, _⟩ := (show zR (-1) 60 (I 75 1) from xI hI 75 1); have e1 := z2_sub (x := I 75 1) (y := pa1) (by omega) (by omega); have e2 := congrArg Int32.toInt ev_11; omega)⟩)
        · have t_c_12 := z_ltF c_12
          have f_13 : zR 0 60 (pa0) := zR_lex t_c_12 f_3 hv_11 (by decide)
          have f_14 : zR 0 60 (v_11) := zR_ley t_c_12 f_3 hv_11 (by decide)
          refine lv_iconst (v := nI 1) hx hb dX6_spans_26 (by decide +kernel) ?_
          refine lv_goto (tgt := 31) hx hb dX6_spans_27 (by decide) ?_
          exact z_zret (v := nI 1) hx hb hr hlocks hP hD hS (by decide +kernel) dX6_spans_31 (Or.inl ⟨rfl, rfl, (by have z0 : (0 : Int32).toInt = 0 := (by decide +kernel); have _ := t_c_1; have _ := t_c_4; have _ := t_c_8; have _ := t_c_12; obtain ⟨_, _⟩ := (show zR (-1) 60 (I 75 1) from xI hI 75 1); have e1 := z2_sub (x := I 75 1) (y := pa1) (by omega) (by omega); have e2 := congrArg Int32.toInt ev_11; omega), (by have z0 : (0 : Int32).toInt = 0 := (by decide +kernel); have _ := t_c_1; have _ := t_c_4; have _ := t_c_8; have _ := t_c_12; obtain ⟨_, _⟩ := (show zR (-1) 60 (I 75 1) from xI hI 75 1); have e1 := z2_sub (x := I 75 1) (y := pa1) (by omega) (by omega); have e2 := congrArg Int32.toInt ev_11; omega), (by have z0 : (0 : Int32).toInt = 0 := (by decide +kernel); have _ := t_c_1; have _ := t_c_4; have _ := t_c_8; have _ := t_c_12; obtain ⟨_, _⟩ := (show zR (-1) 60 (I 75 1) from xI hI 75 1); have e1 := z2_sub (x := I 75 1) (y := pa1) (by omega) (by omega); have e2 := congrArg Int32.toInt ev_11; omega)⟩)
set_option maxHeartbeats 4000000 in
set_option maxRecDepth 100000 in
theorem xk_X6_spans_2 (l : Launch) (D : va_G) (q : Nat → Nat) (cA : Nat → ClassId) (F : Nat → Nat → Int32) (I R : Nat → Nat → Int32) (J : Nat → Nat → Int64) (hI : xInv F (I, R, J)) (pa0 : Int32) (pa1 : Int32) : zMi l D vwCl (zXtys cA) 81 q (zXd q cA) yX6_spans cX6_spans 3 (some .boolean) ({ frames := 0, cells := 0, slots := 0, locals := 0 } : Room) [.ref (q 77), .int (pa0), .int (pa1)] (I, R, J) (fun r u => (r = nI 1 ∧ u = (I, R, J) ∧ 0 ≤ pa0.toInt ∧ 0 ≤ pa1.toInt ∧ pa0.toInt + pa1.toInt ≤ (I 77 1).toInt) ∨ (r = nI 0 ∧ u = (I, R, J) ∧ (pa0.toInt < 0 ∨ pa1.toInt < 0 ∨ (I 77 1).toInt < pa0.toInt + pa1.toInt))) := by
  intro sz
  refine z_body (by decide +kernel) (Nat.le_of_ble_eq_true rfl) (fun p e s m below meth c ls hx hb hml hr ht hown hlocks hsz hK hP hD hS hl => ?_)
  have hA : ∀ a, s.heap.size ≤ a → zA 81 q sz a := fun a h => Or.inr (hsz ▸ h)
  have hl : lv_has ls 3 [(0, .ref (q 77)), (1, .int (pa0)), (2, .int (pa1))] := hl
  refine lv_iload_n hx hb dX6_spans_0 rfl (lv_at hl 1 rfl) ?_
  refine lv_if_lt (tgt := 30) hx hb dX6_spans_1 (by decide) (fun c_1 => ?_) (fun c_1 => ?_)
  · have t_c_1 := z_ltT c_1
    have f_2 : zR (-2147483648) (-1) (pa0) := zR_ltx t_c_1 (zR_any (pa0)) zk_z (by decide)
    refine lv_iconst (v := nI 0) hx hb dX6_spans_30 (by decide +kernel) ?_
    exact z_zret (v := nI 0) hx hb hr hlocks hP hD hS (by decide +kernel) dX6_spans_31 (Or.inr ⟨rfl, rfl, (by have z0 : (0 : Int32).toInt = 0 := (by decide +kernel); have _ := t_c_1; obtain ⟨_, _⟩ := (show zR (-1) 60 (I 77 1) from xI hI 77 1); omega)⟩)
  · have t_c_1 := z_ltF c_1
    have f_3 : zR 0 2147483647 (pa0) := zR_ley t_c_1 zk_z (zR_any (pa0)) (by decide)
    refine lv_iload_n hx hb dX6_spans_4 rfl (lv_at hl 2 rfl) ?_
    refine lv_if_lt (tgt := 30) hx hb dX6_spans_5 (by decide) (fun c_4 => ?_) (fun c_4 => ?_)
    · have t_c_4 := z_ltT c_4
      have f_5 : zR (-2147483648) (-1) (pa1) := zR_ltx t_c_4 (zR_any (pa1)) zk_z (by decide)
      refine lv_iconst (v := nI 0) hx hb dX6_spans_30 (by decide +kernel) ?_
      exact z_zret (v := nI 0) hx hb hr hlocks hP hD hS (by decide +kernel) dX6_spans_31 (Or.inr ⟨rfl, rfl, (by have z0 : (0 : Int32).toInt = 0 := (by decide +kernel); have _ := t_c_1; have _ := t_c_4; obtain ⟨_, _⟩ := (show zR (-1) 60 (I 77 1) from xI hI 77 1); omega)⟩)
    · have t_c_4 := z_ltF c_4
      have f_6 : zR 0 2147483647 (pa1) := zR_ley t_c_4 zk_z (zR_any (pa1)) (by decide)
      refine lv_iload_n hx hb dX6_spans_8 rfl (lv_at hl 2 rfl) ?_
      refine lv_aload_n hx hb dX6_spans_9 rfl (lv_at hl 0 rfl) ?_
      refine z_get hx hb ht hown hK hP ziX6 rfl 77 (by decide) 1 (by decide) hw_2_79 rfl (v := .int (I 77 1)) rfl dX6_spans_10 ?_
      have f_7 : zR (-1) 60 (I 77 1) := xI hI 77 1
      refine lv_icmp_gt (tgt := 30) hx hb dX6_spans_13 (by decide) (fun c_8 => ?_) (fun c_8 => ?_)
      · have t_c_8 := z_ltT c_8
        refine lv_iconst (v := nI 0) hx hb dX6_spans_30 (by decide +kernel) ?_
        exact z_zret (v := nI 0) hx hb hr hlocks hP hD hS (by decide +kernel) dX6_spans_31 (Or.inr ⟨rfl, rfl, (by have z0 : (0 : Int32).toInt = 0 := (by decide +kernel); have _ := t_c_1; have _ := t_c_4; have _ := t_c_8; obtain ⟨_, _⟩ := (show zR (-1) 60 (I 77 1) from xI hI 77 1); omega)⟩)
      · have t_c_8 := z_ltF c_8
        have f_9 : zR 0 60 (pa1) := zR_lex t_c_8 f_6 f_7 (by decide)
        have f_10 : zR 0 60 (I 77 1) := zR_ley t_c_8 f_6 f_7 (by decide)
        refine lv_iload_n hx hb dX6_spans_16 rfl (lv_at hl 1 rfl) ?_
        refine lv_aload_n hx hb dX6_spans_17 rfl (lv_at hl 0 rfl) ?_
        refine z_get hx hb ht hown hK hP ziX6 rfl 77 (by decide) 1 (by decide) hw_2_79 rfl (v := .int (I 77 1)) rfl dX6_spans_18 ?_
        refine lv_iload_n hx hb dX6_spans_21 rfl (lv_at hl 2 rfl) ?_
        refine lv_isub hx hb dX6_spans_22 ?_
        refine lv_topi (fun v_11 ev_11 => ?_)
        have hv_11 : zR (-60) 60 v_11 := ev_11 ▸ zR_sub f_10 f_9 (by decide)
        refine lv_icmp_gt (tgt := 30) hx hb dX6_spans_23 (by decide) (fun c_12 => ?_) (fun c_12 => ?_)
        · have t_c_12 := z_ltT c_12
          refine lv_iconst (v := nI 0) hx hb dX6_spans_30 (by decide +kernel) ?_
          exact z_zret (v := nI 0) hx hb hr hlocks hP hD hS (by decide +kernel) dX6_spans_31 (Or.inr ⟨rfl, rfl, (by have z0 : (0 : Int32).toInt = 0 := (by decide +kernel); have _ := t_c_1; have _ := t_c_4; have _ := t_c_8; have _ := t_c_12; obtain ⟨_, _⟩ := (show zR (-1) 60 (I 77 1) from xI hI 77 1); have e1 := z2_sub (x := I 77 1) (y := pa1) (by omega) (by omega); have e2 := congrArg Int32.toInt ev_11; omega)⟩)
        · have t_c_12 := z_ltF c_12
          have f_13 : zR 0 60 (pa0) := zR_lex t_c_12 f_3 hv_11 (by decide)
          have f_14 : zR 0 60 (v_11) := zR_ley t_c_12 f_3 hv_11 (by decide)
          refine lv_iconst (v := nI 1) hx hb dX6_spans_26 (by decide +kernel) ?_
          refine lv_goto (tgt := 31) hx hb dX6_spans_27 (by decide) ?_
          exact z_zret (v := nI 1) hx hb hr hlocks hP hD hS (by decide +kernel) dX6_spans_31 (Or.inl ⟨rfl, rfl, (by have z0 : (0 : Int32).toInt = 0 := (by decide +kernel); have _ := t_c_1; have _ := t_c_4; have _ := t_c_8; have _ := t_c_12; obtain ⟨_, _⟩ := (show zR (-1) 60 (I 77 1) from xI hI 77 1); have e1 := z2_sub (x := I 77 1) (y := pa1) (by omega) (by omega); have e2 := congrArg Int32.toInt ev_11; omega), (by have z0 : (0 : Int32).toInt = 0 := (by decide +kernel); have _ := t_c_1; have _ := t_c_4; have _ := t_c_8; have _ := t_c_12; obtain ⟨_, _⟩ := (show zR (-1) 60 (I 77 1) from xI hI 77 1); have e1 := z2_sub (x := I 77 1) (y := pa1) (by omega) (by omega); have e2 := congrArg Int32.toInt ev_11; omega), (by have z0 : (0 : Int32).toInt = 0 := (by decide +kernel); have _ := t_c_1; have _ := t_c_4; have _ := t_c_8; have _ := t_c_12; obtain ⟨_, _⟩ := (show zR (-1) 60 (I 77 1) from xI hI 77 1); have e1 := z2_sub (x := I 77 1) (y := pa1) (by omega) (by omega); have e2 := congrArg Int32.toInt ev_11; omega)⟩)
set_option maxHeartbeats 4000000 in
set_option maxRecDepth 100000 in
theorem xk_X6_spans_3 (l : Launch) (D : va_G) (q : Nat → Nat) (cA : Nat → ClassId) (F : Nat → Nat → Int32) (I R : Nat → Nat → Int32) (J : Nat → Nat → Int64) (hI : xInv F (I, R, J)) (pa0 : Int32) (pa1 : Int32) : zMi l D vwCl (zXtys cA) 81 q (zXd q cA) yX6_spans cX6_spans 3 (some .boolean) ({ frames := 0, cells := 0, slots := 0, locals := 0 } : Room) [.ref (q 79), .int (pa0), .int (pa1)] (I, R, J) (fun r u => (r = nI 1 ∧ u = (I, R, J) ∧ 0 ≤ pa0.toInt ∧ 0 ≤ pa1.toInt ∧ pa0.toInt + pa1.toInt ≤ (I 79 1).toInt) ∨ (r = nI 0 ∧ u = (I, R, J) ∧ (pa0.toInt < 0 ∨ pa1.toInt < 0 ∨ (I 79 1).toInt < pa0.toInt + pa1.toInt))) := by
  intro sz
  refine z_body (by decide +kernel) (Nat.le_of_ble_eq_true rfl) (fun p e s m below meth c ls hx hb hml hr ht hown hlocks hsz hK hP hD hS hl => ?_)
  have hA : ∀ a, s.heap.size ≤ a → zA 81 q sz a := fun a h => Or.inr (hsz ▸ h)
  have hl : lv_has ls 3 [(0, .ref (q 79)), (1, .int (pa0)), (2, .int (pa1))] := hl
  refine lv_iload_n hx hb dX6_spans_0 rfl (lv_at hl 1 rfl) ?_
  refine lv_if_lt (tgt := 30) hx hb dX6_spans_1 (by decide) (fun c_1 => ?_) (fun c_1 => ?_)
  · have t_c_1 := z_ltT c_1
    have f_2 : zR (-2147483648) (-1) (pa0) := zR_ltx t_c_1 (zR_any (pa0)) zk_z (by decide)
    refine lv_iconst (v := nI 0) hx hb dX6_spans_30 (by decide +kernel) ?_
    exact z_zret (v := nI 0) hx hb hr hlocks hP hD hS (by decide +kernel) dX6_spans_31 (Or.inr ⟨rfl, rfl, (by have z0 : (0 : Int32).toInt = 0 := (by decide +kernel); have _ := t_c_1; obtain ⟨_, _⟩ := (show zR (-1) 60 (I 79 1) from xI hI 79 1); omega)⟩)
  · have t_c_1 := z_ltF c_1
    have f_3 : zR 0 2147483647 (pa0) := zR_ley t_c_1 zk_z (zR_any (pa0)) (by decide)
    refine lv_iload_n hx hb dX6_spans_4 rfl (lv_at hl 2 rfl) ?_
    refine lv_if_lt (tgt := 30) hx hb dX6_spans_5 (by decide) (fun c_4 => ?_) (fun c_4 => ?_)
    · have t_c_4 := z_ltT c_4
      have f_5 : zR (-2147483648) (-1) (pa1) := zR_ltx t_c_4 (zR_any (pa1)) zk_z (by decide)
      refine lv_iconst (v := nI 0) hx hb dX6_spans_30 (by decide +kernel) ?_
      exact z_zret (v := nI 0) hx hb hr hlocks hP hD hS (by decide +kernel) dX6_spans_31 (Or.inr ⟨rfl, rfl, (by have z0 : (0 : Int32).toInt = 0 := (by decide +kernel); have _ := t_c_1; have _ := t_c_4; obtain ⟨_, _⟩ := (show zR (-1) 60 (I 79 1) from xI hI 79 1); omega)⟩)
    · have t_c_4 := z_ltF c_4
      have f_6 : zR 0 2147483647 (pa1) := zR_ley t_c_4 zk_z (zR_any (pa1)) (by decide)
      refine lv_iload_n hx hb dX6_spans_8 rfl (lv_at hl 2 rfl) ?_
      refine lv_aload_n hx hb dX6_spans_9 rfl (lv_at hl 0 rfl) ?_
      refine z_get hx hb ht hown hK hP ziX6 rfl 79 (by decide) 1 (by decide) hw_2_79 rfl (v := .int (I 79 1)) rfl dX6_spans_10 ?_
      have f_7 : zR (-1) 60 (I 79 1) := xI hI 79 1
      refine lv_icmp_gt (tgt := 30) hx hb dX6_spans_13 (by decide) (fun c_8 => ?_) (fun c_8 => ?_)
      · have t_c_8 := z_ltT c_8
        refine lv_iconst (v := nI 0) hx hb dX6_spans_30 (by decide +kernel) ?_
        exact z_zret (v := nI 0) hx hb hr hlocks hP hD hS (by decide +kernel) dX6_spans_31 (Or.inr ⟨rfl, rfl, (by have z0 : (0 : Int32).toInt = 0 := (by decide +kernel); have _ := t_c_1; have _ := t_c_4; have _ := t_c_8; obtain ⟨_, _⟩ := (show zR (-1) 60 (I 79 1) from xI hI 79 1); omega)⟩)
      · have t_c_8 := z_ltF c_8
        have f_9 : zR 0 60 (pa1) := zR_lex t_c_8 f_6 f_7 (by decide)
        have f_10 : zR 0 60 (I 79 1) := zR_ley t_c_8 f_6 f_7 (by decide)
        refine lv_iload_n hx hb dX6_spans_16 rfl (lv_at hl 1 rfl) ?_
        refine lv_aload_n hx hb dX6_spans_17 rfl (lv_at hl 0 rfl) ?_
        refine z_get hx hb ht hown hK hP ziX6 rfl 79 (by decide) 1 (by decide) hw_2_79 rfl (v := .int (I 79 1)) rfl dX6_spans_18 ?_
        refine lv_iload_n hx hb dX6_spans_21 rfl (lv_at hl 2 rfl) ?_
        refine lv_isub hx hb dX6_spans_22 ?_
        refine lv_topi (fun v_11 ev_11 => ?_)
        have hv_11 : zR (-60) 60 v_11 := ev_11 ▸ zR_sub f_10 f_9 (by decide)
        refine lv_icmp_gt (tgt := 30) hx hb dX6_spans_23 (by decide) (fun c_12 => ?_) (fun c_12 => ?_)
        · have t_c_12 := z_ltT c_12
          refine lv_iconst (v := nI 0) hx hb dX6_spans_30 (by decide +kernel) ?_
          exact z_zret (v := nI 0) hx hb hr hlocks hP hD hS (by decide +kernel) dX6_spans_31 (Or.inr ⟨rfl, rfl, (by have z0 : (0 : Int32).toInt = 0 := (by decide +kernel); have _ := t_c_1; have _ := t_c_4; have _ := t_c_8; have _ := t_c_12; obtain ⟨_, _⟩ := (show zR (-1) 60 (I 79 1) from xI hI 79 1); have e1 := z2_sub (x := I 79 1) (y := pa1) (by omega) (by omega); have e2 := congrArg Int32.toInt ev_11; omega)⟩)
        · have t_c_12 := z_ltF c_12
          have f_13 : zR 0 60 (pa0) := zR_lex t_c_12 f_3 hv_11 (by decide)
          have f_14 : zR 0 60 (v_11) := zR_ley t_c_12 f_3 hv_11 (by decide)
          refine lv_iconst (v := nI 1) hx hb dX6_spans_26 (by decide +kernel) ?_
          refine lv_goto (tgt := 31) hx hb dX6_spans_27 (by decide) ?_
          exact z_zret (v := nI 1) hx hb hr hlocks hP hD hS (by decide +kernel) dX6_spans_31 (Or.inl ⟨rfl, rfl, (by have z0 : (0 : Int32).toInt = 0 := (by decide +kernel); have _ := t_c_1; have _ := t_c_4; have _ := t_c_8; have _ := t_c_12; obtain ⟨_, _⟩ := (show zR (-1) 60 (I 79 1) from xI hI 79 1); have e1 := z2_sub (x := I 79 1) (y := pa1) (by omega) (by omega); have e2 := congrArg Int32.toInt ev_11; omega), (by have z0 : (0 : Int32).toInt = 0 := (by decide +kernel); have _ := t_c_1; have _ := t_c_4; have _ := t_c_8; have _ := t_c_12; obtain ⟨_, _⟩ := (show zR (-1) 60 (I 79 1) from xI hI 79 1); have e1 := z2_sub (x := I 79 1) (y := pa1) (by omega) (by omega); have e2 := congrArg Int32.toInt ev_11; omega), (by have z0 : (0 : Int32).toInt = 0 := (by decide +kernel); have _ := t_c_1; have _ := t_c_4; have _ := t_c_8; have _ := t_c_12; obtain ⟨_, _⟩ := (show zR (-1) 60 (I 79 1) from xI hI 79 1); have e1 := z2_sub (x := I 79 1) (y := pa1) (by omega) (by omega); have e2 := congrArg Int32.toInt ev_11; omega)⟩)
set_option maxHeartbeats 4000000 in
set_option maxRecDepth 100000 in
theorem xk_X10_paste (l : Launch) (D : va_G) (q : Nat → Nat) (cA : Nat → ClassId) (F : Nat → Nat → Int32) (I R : Nat → Nat → Int32) (J : Nat → Nat → Int64) (hI : xInv F (I, R, J)) (pa0 : Int32) (pa1 : Int32) (pa2 : Int32) (pa3 : Int32) (pa4 : Int32) : zMi l D vwCl (zXtys cA) 81 q (zXd q cA) yX10_paste cX10_paste 8 (some .int) ({ frames := 1, cells := 0, slots := 0, locals := 64 } : Room) [.ref (q 0), .int (pa0), .int (pa1), .int (pa2), .int (pa3), .int (pa4)] (I, R, J) (fun r u => ((pa0.toInt < 0 ∨ 3 < pa0.toInt ∨ pa2.toInt < 0 ∨ 3 < pa2.toInt) ∧ r = (-2) ∧ xInv F u) ∨ (¬ (pa0.toInt < 0 ∨ 3 < pa0.toInt ∨ pa2.toInt < 0 ∨ 3 < pa2.toInt) ∧ ((xlen F pa0).toInt = -1 ∨ (xlen F pa2).toInt = -1) ∧ r = (-6) ∧ xInv F u) ∨ (¬ (pa0.toInt < 0 ∨ 3 < pa0.toInt ∨ pa2.toInt < 0 ∨ 3 < pa2.toInt) ∧ ((xlen F pa0).toInt ≠ -1 ∧ (xlen F pa2).toInt ≠ -1) ∧ (xwid F pa0).toInt ≠ (xwid F pa2).toInt ∧ r = (-8) ∧ xInv F u) ∨ (¬ (pa0.toInt < 0 ∨ 3 < pa0.toInt ∨ pa2.toInt < 0 ∨ 3 < pa2.toInt) ∧ ((xlen F pa0).toInt ≠ -1 ∧ (xlen F pa2).toInt ≠ -1) ∧ (xwid F pa0).toInt = (xwid F pa2).toInt ∧ ¬ (0 ≤ pa1.toInt ∧ 0 ≤ pa3.toInt ∧ 0 ≤ pa4.toInt ∧ pa1.toInt + pa4.toInt ≤ (xlen F pa0).toInt ∧ pa3.toInt + pa4.toInt ≤ (xlen F pa2).toInt) ∧ r = (-7) ∧ xInv F u) ∨ (¬ (pa0.toInt < 0 ∨ 3 < pa0.toInt ∨ pa2.toInt < 0 ∨ 3 < pa2.toInt) ∧ ((xlen F pa0).toInt ≠ -1 ∧ (xlen F pa2).toInt ≠ -1) ∧ (xwid F pa0).toInt = (xwid F pa2).toInt ∧ (0 ≤ pa1.toInt ∧ 0 ≤ pa3.toInt ∧ 0 ≤ pa4.toInt ∧ pa1.toInt + pa4.toInt ≤ (xlen F pa0).toInt ∧ pa3.toInt + pa4.toInt ≤ (xlen F pa2).toInt) ∧ r = nI 0 ∧ xInv F u)) := by
  intro sz
  refine z_body (by decide +kernel) (Nat.le_of_ble_eq_true rfl) (fun p e s m below meth c ls hx hb hml hr ht hown hlocks hsz hK hP hD hS hl => ?_)
  have hA : ∀ a, s.heap.size ≤ a → zA 81 q sz a := fun a h => Or.inr (hsz ▸ h)
  have hl : lv_has ls 8 [(0, .ref (q 0)), (1, .int (pa0)), (2, .int (pa1)), (3, .int (pa2)), (4, .int (pa3)), (5, .int (pa4))] := hl
  refine lv_iload_n hx hb dX10_paste_0 rfl (lv_at hl 1 rfl) ?_
  refine z_callSi (As := [.int (pa0)]) (rest := []) hx hb hml hown ht (xk_X10_isSlot l D q cA F _ _ _ hI (pa0)) hw_5_60 hmX10_isSlot ⟨rfl, rfl⟩ (na := 1) rfl (by decide +kernel) (by decide) hK hP hD hS hA hl.1 rfl (Nat.le_of_ble_eq_true rfl) ⟨Nat.zero_le _, Nat.zero_le _⟩ dX10_paste_1 (fun r_1 I_1 R_1 J_1 H locs hp_1 hP hD hS _ _ => ?_)
  rcases hp_1 with ⟨rfl, hu_1, f0_1⟩ | ⟨rfl, hu_1, nn_1⟩
  · cases hu_1
    refine lv_if_eq (tgt := 14) hx hb dX10_paste_4 (by decide) (fun c_0 => absurd c_0 (zD_ne zk_1 zk_z (by decide))) (fun _ => ?_)
    refine lv_iload_n hx hb dX10_paste_7 rfl (lv_at hl 3 rfl) ?_
    refine z_callSi (As := [.int (pa2)]) (rest := []) hx hb hml hown ht (xk_X10_isSlot l D q cA F _ _ _ hI (pa2)) hw_5_60 hmX10_isSlot ⟨rfl, rfl⟩ (na := 1) rfl (by decide +kernel) (by decide) hK hP hD hS hA hl.1 rfl (Nat.le_of_ble_eq_true rfl) ⟨Nat.zero_le _, Nat.zero_le _⟩ dX10_paste_8 (fun r_2 I_2 R_2 J_2 H locs hp_2 hP hD hS _ _ => ?_)
    rcases hp_2 with ⟨rfl, hu_2, f0_2⟩ | ⟨rfl, hu_2, nn_2⟩
    · cases hu_2
      refine lv_if_ne (tgt := 17) hx hb dX10_paste_11 (by decide) (fun _ => ?_) (fun c_0 => absurd c_0 (zD_ne zk_1 zk_z (by decide)))
      refine lv_aload_n hx hb dX10_paste_17 rfl (lv_at hl 0 rfl) ?_
      refine z_get hx hb ht hown hK hP ziX10 rfl 0 (by decide) 11 (by decide) hw_2_104 rfl (v := .ref (q 72)) rfl dX10_paste_18 ?_
      refine lv_iload_n hx hb dX10_paste_21 rfl (lv_at hl 1 rfl) ?_
      obtain ⟨n_3, hn_3, rfl⟩ := z_ex (x := pa0) (N := 4) (zR_w f0_1 (a' := 0) (b' := 3) (by decide)).1 (Int.lt_of_le_of_lt (zR_w f0_1 (a' := 0) (b' := 3) (by decide)).2 (by decide))
      rcases (show n_3 = 0 ∨ n_3 = 1 ∨ n_3 = 2 ∨ n_3 = 3 by omega) with rfl | rfl | rfl | rfl
      · refine va_aldq hx hb hK hP 72 52 (zw_at (by decide) rfl) rfl (vp_in_nI (by decide) (by decide)) dX10_paste_22 ?_
        refine W.eq (g2 := F0 m 23 ls (.ref (q 73) :: [])) rfl ?_
        refine lv_astore (lv' := [(6, .ref (q 73)), (0, .ref (q 0)), (1, .int (nI 0)), (2, .int (pa1)), (3, .int (pa2)), (4, .int (pa3)), (5, .int (pa4))]) hx hb dX10_paste_23 hl (by decide) rfl (fun ls hl => ?_)
        refine lv_aload_n hx hb dX10_paste_25 rfl (lv_at hl 1 rfl) ?_
        refine z_get hx hb ht hown hK hP ziX10 rfl 0 (by decide) 11 (by decide) hw_2_104 rfl (v := .ref (q 72)) rfl dX10_paste_26 ?_
        refine lv_iload_n hx hb dX10_paste_29 rfl (lv_at hl 4 rfl) ?_
        obtain ⟨n_4, hn_4, rfl⟩ := z_ex (x := pa2) (N := 4) (zR_w f0_2 (a' := 0) (b' := 3) (by decide)).1 (Int.lt_of_le_of_lt (zR_w f0_2 (a' := 0) (b' := 3) (by decide)).2 (by decide))
        rcases (show n_4 = 0 ∨ n_4 = 1 ∨ n_4 = 2 ∨ n_4 = 3 by omega) with rfl | rfl | rfl | rfl
        · refine va_aldq hx hb hK hP 72 52 (zw_at (by decide) rfl) rfl (vp_in_nI (by decide) (by decide)) dX10_paste_30 ?_
          refine W.eq (g2 := F0 m 31 ls (.ref (q 73) :: [])) rfl ?_
          refine lv_astore (lv' := [(7, .ref (q 73)), (6, .ref (q 73)), (0, .ref (q 0)), (1, .int (nI 0)), (2, .int (pa1)), (3, .int (nI 0)), (4, .int (pa3)), (5, .int (pa4))]) hx hb dX10_paste_31 hl (by decide) rfl (fun ls hl => ?_)
          refine lv_aload hx hb dX10_paste_33 (lv_at hl 1 rfl) ?_
          refine z_callVi (k := 73) (As := []) (rest := []) hx hb hml hown ht (xk_X6_isThere l D q cA F _ _ _ hI ) hw_5_63 hmX6_isThere ⟨rfl, rfl⟩ (na := 0) rfl (by decide +kernel) (by decide) (by decide) rfl rfl hK hP hD hS hA hl.1 rfl (Nat.le_of_ble_eq_true rfl) ⟨Nat.zero_le _, Nat.zero_le _⟩ dX10_paste_35 (fun r_5 I_5 R_5 J_5 H locs hp_5 hP hD hS _ _ => ?_)
          rcases hp_5 with ⟨rfl, hu_5, nn_5⟩ | ⟨rfl, hu_5, nn_5⟩
          · cases hu_5
            have f_6 : zR 0 60 (I 73 1) := x_there (xI hI 73 1) nn_5
            refine lv_if_eq (tgt := 49) hx hb dX10_paste_38 (by decide) (fun c_0 => absurd c_0 (zD_ne zk_1 zk_z (by decide))) (fun _ => ?_)
            refine lv_aload hx hb dX10_paste_41 (lv_at hl 0 rfl) ?_
            refine z_callVi (k := 73) (As := []) (rest := []) hx hb hml hown ht (xk_X6_isThere l D q cA F _ _ _ hI ) hw_5_63 hmX6_isThere ⟨rfl, rfl⟩ (na := 0) rfl (by decide +kernel) (by decide) (by decide) rfl rfl hK hP hD hS hA hl.1 rfl (Nat.le_of_ble_eq_true rfl) ⟨Nat.zero_le _, Nat.zero_le _⟩ dX10_paste_43 (fun r_7 I_7 R_7 J_7 H locs hp_7 hP hD hS _ _ => ?_)
            rcases hp_7 with ⟨rfl, hu_7, nn_7⟩ | ⟨rfl, hu_7, nn_7⟩
            · cases hu_7
              have f_8 : zR 0 60 (I 73 1) := x_there (xI hI 73 1) nn_7
              refine lv_if_ne (tgt := 52) hx hb dX10_paste_46 (by decide) (fun _ => ?_) (fun c_0 => absurd c_0 (zD_ne zk_1 zk_z (by decide)))
              refine lv_aload hx hb dX10_paste_52 (lv_at hl 1 rfl) ?_
              refine z_get hx hb ht hown hK hP ziX6 rfl 73 (by decide) 0 (by decide) hw_2_78 rfl (v := .int (I 73 0)) rfl dX10_paste_54 ?_
              refine lv_aload hx hb dX10_paste_57 (lv_at hl 0 rfl) ?_
              refine z_get hx hb ht hown hK hP ziX6 rfl 73 (by decide) 0 (by decide) hw_2_78 rfl (v := .int (I 73 0)) rfl dX10_paste_59 ?_
              refine lv_icmp_eq (tgt := 68) hx hb dX10_paste_62 (by decide) (fun c_9 => ?_) (fun c_9 => ?_)
              · have t_c_9 := z_eqT c_9
                refine lv_aload hx hb dX10_paste_68 (lv_at hl 1 rfl) ?_
                refine lv_iload_n hx hb dX10_paste_70 rfl (lv_at hl 4 rfl) ?_
                refine lv_iload hx hb dX10_paste_71 (lv_at hl 7 rfl) ?_
                refine z_callVi (k := 73) (As := [.int (pa1), .int (pa4)]) (rest := []) hx hb hml hown ht (xk_X6_spans l D q cA F _ _ _ hI (pa1) (pa4)) hw_5_177 hmX6_spans ⟨rfl, rfl⟩ (na := 2) rfl (by decide +kernel) (by decide) (by decide) rfl rfl hK hP hD hS hA hl.1 rfl (Nat.le_of_ble_eq_true rfl) ⟨Nat.zero_le _, Nat.zero_le _⟩ dX10_paste_73 (fun r_10 I_10 R_10 J_10 H locs hp_10 hP hD hS _ _ => ?_)
                rcases hp_10 with ⟨rfl, hu_10, nn_10⟩ | ⟨rfl, hu_10, nn_10⟩
                · cases hu_10
                  refine lv_if_eq (tgt := 91) hx hb dX10_paste_76 (by decide) (fun c_0 => absurd c_0 (zD_ne zk_1 zk_z (by decide))) (fun _ => ?_)
                  refine lv_aload hx hb dX10_paste_79 (lv_at hl 0 rfl) ?_
                  refine lv_iload hx hb dX10_paste_81 (lv_at hl 6 rfl) ?_
                  refine lv_iload hx hb dX10_paste_83 (lv_at hl 7 rfl) ?_
                  refine z_callVi (k := 73) (As := [.int (pa3), .int (pa4)]) (rest := []) hx hb hml hown ht (xk_X6_spans l D q cA F _ _ _ hI (pa3) (pa4)) hw_5_177 hmX6_spans ⟨rfl, rfl⟩ (na := 2) rfl (by decide +kernel) (by decide) (by decide) rfl rfl hK hP hD hS hA hl.1 rfl (Nat.le_of_ble_eq_true rfl) ⟨Nat.zero_le _, Nat.zero_le _⟩ dX10_paste_85 (fun r_11 I_11 R_11 J_11 H locs hp_11 hP hD hS _ _ => ?_)
                  rcases hp_11 with ⟨rfl, hu_11, nn_11⟩ | ⟨rfl, hu_11, nn_11⟩
                  · cases hu_11
                    refine lv_if_ne (tgt := 94) hx hb dX10_paste_88 (by decide) (fun _ => ?_) (fun c_0 => absurd c_0 (zD_ne zk_1 zk_z (by decide)))
                    refine lv_aload hx hb dX10_paste_94 (lv_at hl 1 rfl) ?_
                    refine z_get hx hb ht hown hK hP ziX6 rfl 73 (by decide) 2 (by decide) hw_2_84 rfl (v := .ref (q 74)) rfl dX10_paste_96 ?_
                    refine lv_iload_n hx hb dX10_paste_99 rfl (lv_at hl 4 rfl) ?_
                    refine lv_aload hx hb dX10_paste_100 (lv_at hl 0 rfl) ?_
                    refine z_get hx hb ht hown hK hP ziX6 rfl 73 (by decide) 2 (by decide) hw_2_84 rfl (v := .ref (q 74)) rfl dX10_paste_102 ?_
                    refine lv_iload hx hb dX10_paste_105 (lv_at hl 6 rfl) ?_
                    refine lv_iload hx hb dX10_paste_107 (lv_at hl 7 rfl) ?_
                    refine z_copyl hx hb (hml.trans hl.1.symm) ht hown hw_5_181 ⟨hw_3_44, hw_3_43, hw_1_18⟩ hK hP hD hS 74 74 (by decide) (by decide) 53 53 rfl (fun _ => rfl) rfl rfl (x_nn nn_10.1) (x_nn nn_11.1) (x_nn nn_10.2.1) (x_cp nn_10 (xI hI 73 1).2) (x_cp nn_11 (xI hI 73 1).2) (by decide) (by decide +kernel) dX10_paste_109 (fun g_12 H locs eg_12 hP hD hS => ?_)
                    have hI_13 := xInv_J (J2 := (zr J 74 g_12)) hI
                    refine lv_iconst (v := nI 0) hx hb dX10_paste_112 (by decide +kernel) ?_
                    exact z_iret (v := nI 0) hx hb hr hlocks hP hD hS dX10_paste_113 (Or.inr (Or.inr (Or.inr (Or.inr ⟨(by obtain ⟨_, _⟩ := zk_0; obtain ⟨_, _⟩ := zk_0; omega), (show (F 73 1).toInt ≠ -1 ∧ (F 73 1).toInt ≠ -1 from (by have e0 : (I 73 1).toInt = (F 73 1).toInt := congrArg Int32.toInt (xFr hI 73 1 rfl); have e1 : (I 73 1).toInt = (F 73 1).toInt := congrArg Int32.toInt (xFr hI 73 1 rfl); have e2 : (I 73 0).toInt = (F 73 0).toInt := congrArg Int32.toInt (xFr hI 73 0 rfl); have e3 : (I 73 0).toInt = (F 73 0).toInt := congrArg Int32.toInt (xFr hI 73 0 rfl); have _ := nn_7; have _ := nn_7; omega)), (show (F 73 0).toInt = (F 73 0).toInt from (by have e0 : (I 73 1).toInt = (F 73 1).toInt := congrArg Int32.toInt (xFr hI 73 1 rfl); have e1 : (I 73 1).toInt = (F 73 1).toInt := congrArg Int32.toInt (xFr hI 73 1 rfl); have e2 : (I 73 0).toInt = (F 73 0).toInt := congrArg Int32.toInt (xFr hI 73 0 rfl); have e3 : (I 73 0).toInt = (F 73 0).toInt := congrArg Int32.toInt (xFr hI 73 0 rfl); have _ := t_c_9; omega)), (show 0 ≤ pa1.toInt ∧ 0 ≤ pa3.toInt ∧ 0 ≤ pa4.toInt ∧ pa1.toInt + pa4.toInt ≤ (F 73 1).toInt ∧ pa3.toInt + pa4.toInt ≤ (F 73 1).toInt from (by have e0 : (I 73 1).toInt = (F 73 1).toInt := congrArg Int32.toInt (xFr hI 73 1 rfl); have e1 : (I 73 1).toInt = (F 73 1).toInt := congrArg Int32.toInt (xFr hI 73 1 rfl); have e2 : (I 73 0).toInt = (F 73 0).toInt := congrArg Int32.toInt (xFr hI 73 0 rfl); have e3 : (I 73 0).toInt = (F 73 0).toInt := congrArg Int32.toInt (xFr hI 73 0 rfl); have _ := nn_10; have _ := nn_11; omega)), rfl, hI_13⟩))))
                  · cases hu_11
                    refine lv_if_ne (tgt := 94) hx hb dX10_paste_88 (by decide) (fun c_0 => absurd (zD_eq zk_0 zk_z) c_0) (fun _ => ?_)
                    refine lv_bipush (v := (-7)) hx hb dX10_paste_91 (by decide +kernel) ?_
                    exact z_iret (v := (-7)) hx hb hr hlocks hP hD hS dX10_paste_93 (Or.inr (Or.inr (Or.inr (Or.inl ⟨(by obtain ⟨_, _⟩ := zk_0; obtain ⟨_, _⟩ := zk_0; omega), (show (F 73 1).toInt ≠ -1 ∧ (F 73 1).toInt ≠ -1 from (by have e0 : (I 73 1).toInt = (F 73 1).toInt := congrArg Int32.toInt (xFr hI 73 1 rfl); have e1 : (I 73 1).toInt = (F 73 1).toInt := congrArg Int32.toInt (xFr hI 73 1 rfl); have e2 : (I 73 0).toInt = (F 73 0).toInt := congrArg Int32.toInt (xFr hI 73 0 rfl); have e3 : (I 73 0).toInt = (F 73 0).toInt := congrArg Int32.toInt (xFr hI 73 0 rfl); have _ := nn_7; have _ := nn_7; omega)), (show (F 73 0).toInt = (F 73 0).toInt from (by have e0 : (I 73 1).toInt = (F 73 1).toInt := congrArg Int32.toInt (xFr hI 73 1 rfl); have e1 : (I 73 1).toInt = (F 73 1).toInt := congrArg Int32.toInt (xFr hI 73 1 rfl); have e2 : (I 73 0).toInt = (F 73 0).toInt := congrArg Int32.toInt (xFr hI 73 0 rfl); have e3 : (I 73 0).toInt = (F 73 0).toInt := congrArg Int32.toInt (xFr hI 73 0 rfl); have _ := t_c_9; omega)), (show ¬ (0 ≤ pa1.toInt ∧ 0 ≤ pa3.toInt ∧ 0 ≤ pa4.toInt ∧ pa1.toInt + pa4.toInt ≤ (F 73 1).toInt ∧ pa3.toInt + pa4.toInt ≤ (F 73 1).toInt) from (by have e0 : (I 73 1).toInt = (F 73 1).toInt := congrArg Int32.toInt (xFr hI 73 1 rfl); have e1 : (I 73 1).toInt = (F 73 1).toInt := congrArg Int32.toInt (xFr hI 73 1 rfl); have e2 : (I 73 0).toInt = (F 73 0).toInt := congrArg Int32.toInt (xFr hI 73 0 rfl); have e3 : (I 73 0).toInt = (F 73 0).toInt := congrArg Int32.toInt (xFr hI 73 0 rfl); have _ := nn_10; have _ := nn_11; omega)), rfl, hI⟩))))
                · cases hu_10
                  refine lv_if_eq (tgt := 91) hx hb dX10_paste_76 (by decide) (fun _ => ?_) (fun c_0 => absurd (zD_eq zk_0 zk_z) c_0)
                  refine lv_bipush (v := (-7)) hx hb dX10_paste_91 (by decide +kernel) ?_
                  exact z_iret (v := (-7)) hx hb hr hlocks hP hD hS dX10_paste_93 (Or.inr (Or.inr (Or.inr (Or.inl ⟨(by obtain ⟨_, _⟩ := zk_0; obtain ⟨_, _⟩ := zk_0; omega), (show (F 73 1).toInt ≠ -1 ∧ (F 73 1).toInt ≠ -1 from (by have e0 : (I 73 1).toInt = (F 73 1).toInt := congrArg Int32.toInt (xFr hI 73 1 rfl); have e1 : (I 73 1).toInt = (F 73 1).toInt := congrArg Int32.toInt (xFr hI 73 1 rfl); have e2 : (I 73 0).toInt = (F 73 0).toInt := congrArg Int32.toInt (xFr hI 73 0 rfl); have e3 : (I 73 0).toInt = (F 73 0).toInt := congrArg Int32.toInt (xFr hI 73 0 rfl); have _ := nn_7; have _ := nn_7; omega)), (show (F 73 0).toInt = (F 73 0).toInt from (by have e0 : (I 73 1).toInt = (F 73 1).toInt := congrArg Int32.toInt (xFr hI 73 1 rfl); have e1 : (I 73 1).toInt = (F 73 1).toInt := congrArg Int32.toInt (xFr hI 73 1 rfl); have e2 : (I 73 0).toInt = (F 73 0).toInt := congrArg Int32.toInt (xFr hI 73 0 rfl); have e3 : (I 73 0).toInt = (F 73 0).toInt := congrArg Int32.toInt (xFr hI 73 0 rfl); have _ := t_c_9; omega)), (show ¬ (0 ≤ pa1.toInt ∧ 0 ≤ pa3.toInt ∧ 0 ≤ pa4.toInt ∧ pa1.toInt + pa4.toInt ≤ (F 73 1).toInt ∧ pa3.toInt + pa4.toInt ≤ (F 73 1).toInt) from (by have e0 : (I 73 1).toInt = (F 73 1).toInt := congrArg Int32.toInt (xFr hI 73 1 rfl); have e1 : (I 73 1).toInt = (F 73 1).toInt := congrArg Int32.toInt (xFr hI 73 1 rfl); have e2 : (I 73 0).toInt = (F 73 0).toInt := congrArg Int32.toInt (xFr hI 73 0 rfl); have e3 : (I 73 0).toInt = (F 73 0).toInt := congrArg Int32.toInt (xFr hI 73 0 rfl); have _ := nn_10; omega)), rfl, hI⟩))))
              · have t_c_9 := z_eqF c_9
                exact absurd rfl t_c_9
            · cases hu_7
              refine lv_if_ne (tgt := 52) hx hb dX10_paste_46 (by decide) (fun c_0 => absurd (zD_eq zk_0 zk_z) c_0) (fun _ => ?_)
              refine lv_bipush (v := (-6)) hx hb dX10_paste_49 (by decide +kernel) ?_
              exact z_iret (v := (-6)) hx hb hr hlocks hP hD hS dX10_paste_51 (Or.inr (Or.inl ⟨(by obtain ⟨_, _⟩ := zk_0; obtain ⟨_, _⟩ := zk_0; omega), (show (F 73 1).toInt = -1 ∨ (F 73 1).toInt = -1 from (by have e0 : (I 73 1).toInt = (F 73 1).toInt := congrArg Int32.toInt (xFr hI 73 1 rfl); have e1 : (I 73 1).toInt = (F 73 1).toInt := congrArg Int32.toInt (xFr hI 73 1 rfl); have e2 : (I 73 0).toInt = (F 73 0).toInt := congrArg Int32.toInt (xFr hI 73 0 rfl); have e3 : (I 73 0).toInt = (F 73 0).toInt := congrArg Int32.toInt (xFr hI 73 0 rfl); have _ := nn_7; have _ := nn_7; omega)), rfl, hI⟩))
          · cases hu_5
            refine lv_if_eq (tgt := 49) hx hb dX10_paste_38 (by decide) (fun _ => ?_) (fun c_0 => absurd (zD_eq zk_0 zk_z) c_0)
            refine lv_bipush (v := (-6)) hx hb dX10_paste_49 (by decide +kernel) ?_
            exact z_iret (v := (-6)) hx hb hr hlocks hP hD hS dX10_paste_51 (Or.inr (Or.inl ⟨(by obtain ⟨_, _⟩ := zk_0; obtain ⟨_, _⟩ := zk_0; omega), (show (F 73 1).toInt = -1 ∨ (F 73 1).toInt = -1 from (by have e0 : (I 73 1).toInt = (F 73 1).toInt := congrArg Int32.toInt (xFr hI 73 1 rfl); have e1 : (I 73 1).toInt = (F 73 1).toInt := congrArg Int32.toInt (xFr hI 73 1 rfl); have e2 : (I 73 0).toInt = (F 73 0).toInt := congrArg Int32.toInt (xFr hI 73 0 rfl); have e3 : (I 73 0).toInt = (F 73 0).toInt := congrArg Int32.toInt (xFr hI 73 0 rfl); have _ := nn_5; have _ := nn_5; omega)), rfl, hI⟩))
        · refine va_aldq hx hb hK hP 72 52 (zw_at (by decide) rfl) rfl (vp_in_nI (by decide) (by decide)) dX10_paste_30 ?_
          refine W.eq (g2 := F0 m 31 ls (.ref (q 75) :: [])) rfl ?_
          refine lv_astore (lv' := [(7, .ref (q 75)), (6, .ref (q 73)), (0, .ref (q 0)), (1, .int (nI 0)), (2, .int (pa1)), (3, .int (nI 1)), (4, .int (pa3)), (5, .int (pa4))]) hx hb dX10_paste_31 hl (by decide) rfl (fun ls hl => ?_)
          refine lv_aload hx hb dX10_paste_33 (lv_at hl 1 rfl) ?_
          refine z_callVi (k := 73) (As := []) (rest := []) hx hb hml hown ht (xk_X6_isThere l D q cA F _ _ _ hI ) hw_5_63 hmX6_isThere ⟨rfl, rfl⟩ (na := 0) rfl (by decide +kernel) (by decide) (by decide) rfl rfl hK hP hD hS hA hl.1 rfl (Nat.le_of_ble_eq_true rfl) ⟨Nat.zero_le _, Nat.zero_le _⟩ dX10_paste_35 (fun r_14 I_14 R_14 J_14 H locs hp_14 hP hD hS _ _ => ?_)
          rcases hp_14 with ⟨rfl, hu_14, nn_14⟩ | ⟨rfl, hu_14, nn_14⟩
          · cases hu_14
            have f_15 : zR 0 60 (I 73 1) := x_there (xI hI 73 1) nn_14
            refine lv_if_eq (tgt := 49) hx hb dX10_paste_38 (by decide) (fun c_0 => absurd c_0 (zD_ne zk_1 zk_z (by decide))) (fun _ => ?_)
            refine lv_aload hx hb dX10_paste_41 (lv_at hl 0 rfl) ?_
            refine z_callVi (k := 75) (As := []) (rest := []) hx hb hml hown ht (xk_X6_isThere_1 l D q cA F _ _ _ hI ) hw_5_63 hmX6_isThere ⟨rfl, rfl⟩ (na := 0) rfl (by decide +kernel) (by decide) (by decide) rfl rfl hK hP hD hS hA hl.1 rfl (Nat.le_of_ble_eq_true rfl) ⟨Nat.zero_le _, Nat.zero_le _⟩ dX10_paste_43 (fun r_16 I_16 R_16 J_16 H locs hp_16 hP hD hS _ _ => ?_)
            rcases hp_16 with ⟨rfl, hu_16, nn_16⟩ | ⟨rfl, hu_16, nn_16⟩
            · cases hu_16
              have f_17 : zR 0 60 (I 75 1) := x_there (xI hI 75 1) nn_16
              refine lv_if_ne (tgt := 52) hx hb dX10_paste_46 (by decide) (fun _ => ?_) (fun c_0 => absurd c_0 (zD_ne zk_1 zk_z (by decide)))
              refine lv_aload hx hb dX10_paste_52 (lv_at hl 1 rfl) ?_
              refine z_get hx hb ht hown hK hP ziX6 rfl 73 (by decide) 0 (by decide) hw_2_78 rfl (v := .int (I 73 0)) rfl dX10_paste_54 ?_
              refine lv_aload hx hb dX10_paste_57 (lv_at hl 0 rfl) ?_
              refine z_get hx hb ht hown hK hP ziX6 rfl 75 (by decide) 0 (by decide) hw_2_78 rfl (v := .int (I 75 0)) rfl dX10_paste_59 ?_
              refine lv_icmp_eq (tgt := 68) hx hb dX10_paste_62 (by decide) (fun c_18 => ?_) (fun c_18 => ?_)
              · have t_c_18 := z_eqT c_18
                refine lv_aload hx hb dX10_paste_68 (lv_at hl 1 rfl) ?_
                refine lv_iload_n hx hb dX10_paste_70 rfl (lv_at hl 4 rfl) ?_
                refine lv_iload hx hb dX10_paste_71 (lv_at hl 7 rfl) ?_
                refine z_callVi (k := 73) (As := [.int (pa1), .int (pa4)]) (rest := []) hx hb hml hown ht (xk_X6_spans l D q cA F _ _ _ hI (pa1) (pa4)) hw_5_177 hmX6_spans ⟨rfl, rfl⟩ (na := 2) rfl (by decide +kernel) (by decide) (by decide) rfl rfl hK hP hD hS hA hl.1 rfl (Nat.le_of_ble_eq_true rfl) ⟨Nat.zero_le _, Nat.zero_le _⟩ dX10_paste_73 (fun r_19 I_19 R_19 J_19 H locs hp_19 hP hD hS _ _ => ?_)
                rcases hp_19 with ⟨rfl, hu_19, nn_19⟩ | ⟨rfl, hu_19, nn_19⟩
                · cases hu_19
                  refine lv_if_eq (tgt := 91) hx hb dX10_paste_76 (by decide) (fun c_0 => absurd c_0 (zD_ne zk_1 zk_z (by decide))) (fun _ => ?_)
                  refine lv_aload hx hb dX10_paste_79 (lv_at hl 0 rfl) ?_
                  refine lv_iload hx hb dX10_paste_81 (lv_at hl 6 rfl) ?_
                  refine lv_iload hx hb dX10_paste_83 (lv_at hl 7 rfl) ?_
                  refine z_callVi (k := 75) (As := [.int (pa3), .int (pa4)]) (rest := []) hx hb hml hown ht (xk_X6_spans_1 l D q cA F _ _ _ hI (pa3) (pa4)) hw_5_177 hmX6_spans ⟨rfl, rfl⟩ (na := 2) rfl (by decide +kernel) (by decide) (by decide) rfl rfl hK hP hD hS hA hl.1 rfl (Nat.le_of_ble_eq_true rfl) ⟨Nat.zero_le _, Nat.zero_le _⟩ dX10_paste_85 (fun r_20 I_20 R_20 J_20 H locs hp_20 hP hD hS _ _ => ?_)
                  rcases hp_20 with ⟨rfl, hu_20, nn_20⟩ | ⟨rfl, hu_20, nn_20⟩
                  · cases hu_20
                    refine lv_if_ne (tgt := 94) hx hb dX10_paste_88 (by decide) (fun _ => ?_) (fun c_0 => absurd c_0 (zD_ne zk_1 zk_z (by decide)))
                    refine lv_aload hx hb dX10_paste_94 (lv_at hl 1 rfl) ?_
                    refine z_get hx hb ht hown hK hP ziX6 rfl 73 (by decide) 2 (by decide) hw_2_84 rfl (v := .ref (q 74)) rfl dX10_paste_96 ?_
                    refine lv_iload_n hx hb dX10_paste_99 rfl (lv_at hl 4 rfl) ?_
                    refine lv_aload hx hb dX10_paste_100 (lv_at hl 0 rfl) ?_
                    refine z_get hx hb ht hown hK hP ziX6 rfl 75 (by decide) 2 (by decide) hw_2_84 rfl (v := .ref (q 76)) rfl dX10_paste_102 ?_
                    refine lv_iload hx hb dX10_paste_105 (lv_at hl 6 rfl) ?_
                    refine lv_iload hx hb dX10_paste_107 (lv_at hl 7 rfl) ?_
                    refine z_copyl hx hb (hml.trans hl.1.symm) ht hown hw_5_181 ⟨hw_3_44, hw_3_43, hw_1_18⟩ hK hP hD hS 74 76 (by decide) (by decide) 53 54 rfl (fun _ => rfl) rfl rfl (x_nn nn_19.1) (x_nn nn_20.1) (x_nn nn_19.2.1) (x_cp nn_19 (xI hI 73 1).2) (x_cp nn_20 (xI hI 75 1).2) (by decide) (by decide +kernel) dX10_paste_109 (fun g_21 H locs eg_21 hP hD hS => ?_)
                    have hI_22 := xInv_J (J2 := (zr J 76 g_21)) hI
                    refine lv_iconst (v := nI 0) hx hb dX10_paste_112 (by decide +kernel) ?_
                    exact z_iret (v := nI 0) hx hb hr hlocks hP hD hS dX10_paste_113 (Or.inr (Or.inr (Or.inr (Or.inr ⟨(by obtain ⟨_, _⟩ := zk_0; obtain ⟨_, _⟩ := zk_1; omega), (show (F 73 1).toInt ≠ -1 ∧ (F 75 1).toInt ≠ -1 from (by have e0 : (I 73 1).toInt = (F 73 1).toInt := congrArg Int32.toInt (xFr hI 73 1 rfl); have e1 : (I 75 1).toInt = (F 75 1).toInt := congrArg Int32.toInt (xFr hI 75 1 rfl); have e2 : (I 73 0).toInt = (F 73 0).toInt := congrArg Int32.toInt (xFr hI 73 0 rfl); have e3 : (I 75 0).toInt = (F 75 0).toInt := congrArg Int32.toInt (xFr hI 75 0 rfl); have _ := nn_14; have _ := nn_16; omega)), (show (F 73 0).toInt = (F 75 0).toInt from (by have e0 : (I 73 1).toInt = (F 73 1).toInt := congrArg Int32.toInt (xFr hI 73 1 rfl); have e1 : (I 75 1).toInt = (F 75 1).toInt := congrArg Int32.toInt (xFr hI 75 1 rfl); have e2 : (I 73 0).toInt = (F 73 0).toInt := congrArg Int32.toInt (xFr hI 73 0 rfl); have e3 : (I 75 0).toInt = (F 75 0).toInt := congrArg Int32.toInt (xFr hI 75 0 rfl); have _ := t_c_18; omega)), (show 0 ≤ pa1.toInt ∧ 0 ≤ pa3.toInt ∧ 0 ≤ pa4.toInt ∧ pa1.toInt + pa4.toInt ≤ (F 73 1).toInt ∧ pa3.toInt + pa4.toInt ≤ (F 75 1).toInt from (by have e0 : (I 73 1).toInt = (F 73 1).toInt := congrArg Int32.toInt (xFr hI 73 1 rfl); have e1 : (I 75 1).toInt = (F 75 1).toInt := congrArg Int32.toInt (xFr hI 75 1 rfl); have e2 : (I 73 0).toInt = (F 73 0).toInt := congrArg Int32.toInt (xFr hI 73 0 rfl); have e3 : (I 75 0).toInt = (F 75 0).toInt := congrArg Int32.toInt (xFr hI 75 0 rfl); have _ := nn_19; have _ := nn_20; omega)), rfl, hI_22⟩))))
                  · cases hu_20
                    refine lv_if_ne (tgt := 94) hx hb dX10_paste_88 (by decide) (fun c_0 => absurd (zD_eq zk_0 zk_z) c_0) (fun _ => ?_)
                    refine lv_bipush (v := (-7)) hx hb dX10_paste_91 (by decide +kernel) ?_
                    exact z_iret (v := (-7)) hx hb hr hlocks hP hD hS dX10_paste_93 (Or.inr (Or.inr (Or.inr (Or.inl ⟨(by obtain ⟨_, _⟩ := zk_0; obtain ⟨_, _⟩ := zk_1; omega), (show (F 73 1).toInt ≠ -1 ∧ (F 75 1).toInt ≠ -1 from (by have e0 : (I 73 1).toInt = (F 73 1).toInt := congrArg Int32.toInt (xFr hI 73 1 rfl); have e1 : (I 75 1).toInt = (F 75 1).toInt := congrArg Int32.toInt (xFr hI 75 1 rfl); have e2 : (I 73 0).toInt = (F 73 0).toInt := congrArg Int32.toInt (xFr hI 73 0 rfl); have e3 : (I 75 0).toInt = (F 75 0).toInt := congrArg Int32.toInt (xFr hI 75 0 rfl); have _ := nn_14; have _ := nn_16; omega)), (show (F 73 0).toInt = (F 75 0).toInt from (by have e0 : (I 73 1).toInt = (F 73 1).toInt := congrArg Int32.toInt (xFr hI 73 1 rfl); have e1 : (I 75 1).toInt = (F 75 1).toInt := congrArg Int32.toInt (xFr hI 75 1 rfl); have e2 : (I 73 0).toInt = (F 73 0).toInt := congrArg Int32.toInt (xFr hI 73 0 rfl); have e3 : (I 75 0).toInt = (F 75 0).toInt := congrArg Int32.toInt (xFr hI 75 0 rfl); have _ := t_c_18; omega)), (show ¬ (0 ≤ pa1.toInt ∧ 0 ≤ pa3.toInt ∧ 0 ≤ pa4.toInt ∧ pa1.toInt + pa4.toInt ≤ (F 73 1).toInt ∧ pa3.toInt + pa4.toInt ≤ (F 75 1).toInt) from (by have e0 : (I 73 1).toInt = (F 73 1).toInt := congrArg Int32.toInt (xFr hI 73 1 rfl); have e1 : (I 75 1).toInt = (F 75 1).toInt := congrArg Int32.toInt (xFr hI 75 1 rfl); have e2 : (I 73 0).toInt = (F 73 0).toInt := congrArg Int32.toInt (xFr hI 73 0 rfl); have e3 : (I 75 0).toInt = (F 75 0).toInt := congrArg Int32.toInt (xFr hI 75 0 rfl); have _ := nn_19; have _ := nn_20; omega)), rfl, hI⟩))))
                · cases hu_19
                  refine lv_if_eq (tgt := 91) hx hb dX10_paste_76 (by decide) (fun _ => ?_) (fun c_0 => absurd (zD_eq zk_0 zk_z) c_0)
                  refine lv_bipush (v := (-7)) hx hb dX10_paste_91 (by decide +kernel) ?_
                  exact z_iret (v := (-7)) hx hb hr hlocks hP hD hS dX10_paste_93 (Or.inr (Or.inr (Or.inr (Or.inl ⟨(by obtain ⟨_, _⟩ := zk_0; obtain ⟨_, _⟩ := zk_1; omega), (show (F 73 1).toInt ≠ -1 ∧ (F 75 1).toInt ≠ -1 from (by have e0 : (I 73 1).toInt = (F 73 1).toInt := congrArg Int32.toInt (xFr hI 73 1 rfl); have e1 : (I 75 1).toInt = (F 75 1).toInt := congrArg Int32.toInt (xFr hI 75 1 rfl); have e2 : (I 73 0).toInt = (F 73 0).toInt := congrArg Int32.toInt (xFr hI 73 0 rfl); have e3 : (I 75 0).toInt = (F 75 0).toInt := congrArg Int32.toInt (xFr hI 75 0 rfl); have _ := nn_14; have _ := nn_16; omega)), (show (F 73 0).toInt = (F 75 0).toInt from (by have e0 : (I 73 1).toInt = (F 73 1).toInt := congrArg Int32.toInt (xFr hI 73 1 rfl); have e1 : (I 75 1).toInt = (F 75 1).toInt := congrArg Int32.toInt (xFr hI 75 1 rfl); have e2 : (I 73 0).toInt = (F 73 0).toInt := congrArg Int32.toInt (xFr hI 73 0 rfl); have e3 : (I 75 0).toInt = (F 75 0).toInt := congrArg Int32.toInt (xFr hI 75 0 rfl); have _ := t_c_18; omega)), (show ¬ (0 ≤ pa1.toInt ∧ 0 ≤ pa3.toInt ∧ 0 ≤ pa4.toInt ∧ pa1.toInt + pa4.toInt ≤ (F 73 1).toInt ∧ pa3.toInt + pa4.toInt ≤ (F 75 1).toInt) from (by have e0 : (I 73 1).toInt = (F 73 1).toInt := congrArg Int32.toInt (xFr hI 73 1 rfl); have e1 : (I 75 1).toInt = (F 75 1).toInt := congrArg Int32.toInt (xFr hI 75 1 rfl); have e2 : (I 73 0).toInt = (F 73 0).toInt := congrArg Int32.toInt (xFr hI 73 0 rfl); have e3 : (I 75 0).toInt = (F 75 0).toInt := congrArg Int32.toInt (xFr hI 75 0 rfl); have _ := nn_19; omega)), rfl, hI⟩))))
              · have t_c_18 := z_eqF c_18
                refine lv_bipush (v := (-8)) hx hb dX10_paste_65 (by decide +kernel) ?_
                exact z_iret (v := (-8)) hx hb hr hlocks hP hD hS dX10_paste_67 (Or.inr (Or.inr (Or.inl ⟨(by obtain ⟨_, _⟩ := zk_0; obtain ⟨_, _⟩ := zk_1; omega), (show (F 73 1).toInt ≠ -1 ∧ (F 75 1).toInt ≠ -1 from (by have e0 : (I 73 1).toInt = (F 73 1).toInt := congrArg Int32.toInt (xFr hI 73 1 rfl); have e1 : (I 75 1).toInt = (F 75 1).toInt := congrArg Int32.toInt (xFr hI 75 1 rfl); have e2 : (I 73 0).toInt = (F 73 0).toInt := congrArg Int32.toInt (xFr hI 73 0 rfl); have e3 : (I 75 0).toInt = (F 75 0).toInt := congrArg Int32.toInt (xFr hI 75 0 rfl); have _ := nn_14; have _ := nn_16; omega)), (show (F 73 0).toInt ≠ (F 75 0).toInt from (by have e0 : (I 73 1).toInt = (F 73 1).toInt := congrArg Int32.toInt (xFr hI 73 1 rfl); have e1 : (I 75 1).toInt = (F 75 1).toInt := congrArg Int32.toInt (xFr hI 75 1 rfl); have e2 : (I 73 0).toInt = (F 73 0).toInt := congrArg Int32.toInt (xFr hI 73 0 rfl); have e3 : (I 75 0).toInt = (F 75 0).toInt := congrArg Int32.toInt (xFr hI 75 0 rfl); have _ := t_c_18; omega)), rfl, hI⟩)))
            · cases hu_16
              refine lv_if_ne (tgt := 52) hx hb dX10_paste_46 (by decide) (fun c_0 => absurd (zD_eq zk_0 zk_z) c_0) (fun _ => ?_)
              refine lv_bipush (v := (-6)) hx hb dX10_paste_49 (by decide +kernel) ?_
              exact z_iret (v := (-6)) hx hb hr hlocks hP hD hS dX10_paste_51 (Or.inr (Or.inl ⟨(by obtain ⟨_, _⟩ := zk_0; obtain ⟨_, _⟩ := zk_1; omega), (show (F 73 1).toInt = -1 ∨ (F 75 1).toInt = -1 from (by have e0 : (I 73 1).toInt = (F 73 1).toInt := congrArg Int32.toInt (xFr hI 73 1 rfl); have e1 : (I 75 1).toInt = (F 75 1).toInt := congrArg Int32.toInt (xFr hI 75 1 rfl); have e2 : (I 73 0).toInt = (F 73 0).toInt := congrArg Int32.toInt (xFr hI 73 0 rfl); have e3 : (I 75 0).toInt = (F 75 0).toInt := congrArg Int32.toInt (xFr hI 75 0 rfl); have _ := nn_14; have _ := nn_16; omega)), rfl, hI⟩))
          · cases hu_14
            refine lv_if_eq (tgt := 49) hx hb dX10_paste_38 (by decide) (fun _ => ?_) (fun c_0 => absurd (zD_eq zk_0 zk_z) c_0)
            refine lv_bipush (v := (-6)) hx hb dX10_paste_49 (by decide +kernel) ?_
            exact z_iret (v := (-6)) hx hb hr hlocks hP hD hS dX10_paste_51 (Or.inr (Or.inl ⟨(by obtain ⟨_, _⟩ := zk_0; obtain ⟨_, _⟩ := zk_1; omega), (show (F 73 1).toInt = -1 ∨ (F 75 1).toInt = -1 from (by have e0 : (I 73 1).toInt = (F 73 1).toInt := congrArg Int32.toInt (xFr hI 73 1 rfl); have e1 : (I 75 1).toInt = (F 75 1).toInt := congrArg Int32.toInt (xFr hI 75 1 rfl); have e2 : (I 73 0).toInt = (F 73 0).toInt := congrArg Int32.toInt (xFr hI 73 0 rfl); have e3 : (I 75 0).toInt = (F 75 0).toInt := congrArg Int32.toInt (xFr hI 75 0 rfl); have _ := nn_14; omega)), rfl, hI⟩))
        · refine va_aldq hx hb hK hP 72 52 (zw_at (by decide) rfl) rfl (vp_in_nI (by decide) (by decide)) dX10_paste_30 ?_
          refine W.eq (g2 := F0 m 31 ls (.ref (q 77) :: [])) rfl ?_
          refine lv_astore (lv' := [(7, .ref (q 77)), (6, .ref (q 73)), (0, .ref (q 0)), (1, .int (nI 0)), (2, .int (pa1)), (3, .int (nI 2)), (4, .int (pa3)), (5, .int (pa4))]) hx hb dX10_paste_31 hl (by decide) rfl (fun ls hl => ?_)
          refine lv_aload hx hb dX10_paste_33 (lv_at hl 1 rfl) ?_
          refine z_callVi (k := 73) (As := []) (rest := []) hx hb hml hown ht (xk_X6_isThere l D q cA F _ _ _ hI ) hw_5_63 hmX6_isThere ⟨rfl, rfl⟩ (na := 0) rfl (by decide +kernel) (by decide) (by decide) rfl rfl hK hP hD hS hA hl.1 rfl (Nat.le_of_ble_eq_true rfl) ⟨Nat.zero_le _, Nat.zero_le _⟩ dX10_paste_35 (fun r_23 I_23 R_23 J_23 H locs hp_23 hP hD hS _ _ => ?_)
          rcases hp_23 with ⟨rfl, hu_23, nn_23⟩ | ⟨rfl, hu_23, nn_23⟩
          · cases hu_23
            have f_24 : zR 0 60 (I 73 1) := x_there (xI hI 73 1) nn_23
            refine lv_if_eq (tgt := 49) hx hb dX10_paste_38 (by decide) (fun c_0 => absurd c_0 (zD_ne zk_1 zk_z (by decide))) (fun _ => ?_)
            refine lv_aload hx hb dX10_paste_41 (lv_at hl 0 rfl) ?_
            refine z_callVi (k := 77) (As := []) (rest := []) hx hb hml hown ht (xk_X6_isThere_2 l D q cA F _ _ _ hI ) hw_5_63 hmX6_isThere ⟨rfl, rfl⟩ (na := 0) rfl (by decide +kernel) (by decide) (by decide) rfl rfl hK hP hD hS hA hl.1 rfl (Nat.le_of_ble_eq_true rfl) ⟨Nat.zero_le _, Nat.zero_le _⟩ dX10_paste_43 (fun r_25 I_25 R_25 J_25 H locs hp_25 hP hD hS _ _ => ?_)
            rcases hp_25 with ⟨rfl, hu_25, nn_25⟩ | ⟨rfl, hu_25, nn_25⟩
            · cases hu_25
              have f_26 : zR 0 60 (I 77 1) := x_there (xI hI 77 1) nn_25
              refine lv_if_ne (tgt := 52) hx hb dX10_paste_46 (by decide) (fun _ => ?_) (fun c_0 => absurd c_0 (zD_ne zk_1 zk_z (by decide)))
              refine lv_aload hx hb dX10_paste_52 (lv_at hl 1 rfl) ?_
              refine z_get hx hb ht hown hK hP ziX6 rfl 73 (by decide) 0 (by decide) hw_2_78 rfl (v := .int (I 73 0)) rfl dX10_paste_54 ?_
              refine lv_aload hx hb dX10_paste_57 (lv_at hl 0 rfl) ?_
              refine z_get hx hb ht hown hK hP ziX6 rfl 77 (by decide) 0 (by decide) hw_2_78 rfl (v := .int (I 77 0)) rfl dX10_paste_59 ?_
              refine lv_icmp_eq (tgt := 68) hx hb dX10_paste_62 (by decide) (fun c_27 => ?_) (fun c_27 => ?_)
              · have t_c_27 := z_eqT c_27
                refine lv_aload hx hb dX10_paste_68 (lv_at hl 1 rfl) ?_
                refine lv_iload_n hx hb dX10_paste_70 rfl (lv_at hl 4 rfl) ?_
                refine lv_iload hx hb dX10_paste_71 (lv_at hl 7 rfl) ?_
                refine z_callVi (k := 73) (As := [.int (pa1), .int (pa4)]) (rest := []) hx hb hml hown ht (xk_X6_spans l D q cA F _ _ _ hI (pa1) (pa4)) hw_5_177 hmX6_spans ⟨rfl, rfl⟩ (na := 2) rfl (by decide +kernel) (by decide) (by decide) rfl rfl hK hP hD hS hA hl.1 rfl (Nat.le_of_ble_eq_true rfl) ⟨Nat.zero_le _, Nat.zero_le _⟩ dX10_paste_73 (fun r_28 I_28 R_28 J_28 H locs hp_28 hP hD hS _ _ => ?_)
                rcases hp_28 with ⟨rfl, hu_28, nn_28⟩ | ⟨rfl, hu_28, nn_28⟩
                · cases hu_28
                  refine lv_if_eq (tgt := 91) hx hb dX10_paste_76 (by decide) (fun c_0 => absurd c_0 (zD_ne zk_1 zk_z (by decide))) (fun _ => ?_)
                  refine lv_aload hx hb dX10_paste_79 (lv_at hl 0 rfl) ?_
                  refine lv_iload hx hb dX10_paste_81 (lv_at hl 6 rfl) ?_
                  refine lv_iload hx hb dX10_paste_83 (lv_at hl 7 rfl) ?_
                  refine z_callVi (k := 77) (As := [.int (pa3), .int (pa4)]) (rest := []) hx hb hml hown ht (xk_X6_spans_2 l D q cA F _ _ _ hI (pa3) (pa4)) hw_5_177 hmX6_spans ⟨rfl, rfl⟩ (na := 2) rfl (by decide +kernel) (by decide) (by decide) rfl rfl hK hP hD hS hA hl.1 rfl (Nat.le_of_ble_eq_true rfl) ⟨Nat.zero_le _, Nat.zero_le _⟩ dX10_paste_85 (fun r_29 I_29 R_29 J_29 H locs hp_29 hP hD hS _ _ => ?_)
                  rcases hp_29 with ⟨rfl, hu_29, nn_29⟩ | ⟨rfl, hu_29, nn_29⟩
                  · cases hu_29
                    refine lv_if_ne (tgt := 94) hx hb dX10_paste_88 (by decide) (fun _ => ?_) (fun c_0 => absurd c_0 (zD_ne zk_1 zk_z (by decide)))
                    refine lv_aload hx hb dX10_paste_94 (lv_at hl 1 rfl) ?_
                    refine z_get hx hb ht hown hK hP ziX6 rfl 73 (by decide) 2 (by decide) hw_2_84 rfl (v := .ref (q 74)) rfl dX10_paste_96 ?_
                    refine lv_iload_n hx hb dX10_paste_99 rfl (lv_at hl 4 rfl) ?_
                    refine lv_aload hx hb dX10_paste_100 (lv_at hl 0 rfl) ?_
                    refine z_get hx hb ht hown hK hP ziX6 rfl 77 (by decide) 2 (by decide) hw_2_84 rfl (v := .ref (q 78)) rfl dX10_paste_102 ?_
                    refine lv_iload hx hb dX10_paste_105 (lv_at hl 6 rfl) ?_
                    refine lv_iload hx hb dX10_paste_107 (lv_at hl 7 rfl) ?_
                    refine z_copyl hx hb (hml.trans hl.1.symm) ht hown hw_5_181 ⟨hw_3_44, hw_3_43, hw_1_18⟩ hK hP hD hS 74 78 (by decide) (by decide) 53 55 rfl (fun _ => rfl) rfl rfl (x_nn nn_28.1) (x_nn nn_29.1) (x_nn nn_28.2.1) (x_cp nn_28 (xI hI 73 1).2) (x_cp nn_29 (xI hI 77 1).2) (by decide) (by decide +kernel) dX10_paste_109 (fun g_30 H locs eg_30 hP hD hS => ?_)
                    have hI_31 := xInv_J (J2 := (zr J 78 g_30)) hI
                    refine lv_iconst (v := nI 0) hx hb dX10_paste_112 (by decide +kernel) ?_
                    exact z_iret (v := nI 0) hx hb hr hlocks hP hD hS dX10_paste_113 (Or.inr (Or.inr (Or.inr (Or.inr ⟨(by obtain ⟨_, _⟩ := zk_0; obtain ⟨_, _⟩ := zk_2; omega), (show (F 73 1).toInt ≠ -1 ∧ (F 77 1).toInt ≠ -1 from (by have e0 : (I 73 1).toInt = (F 73 1).toInt := congrArg Int32.toInt (xFr hI 73 1 rfl); have e1 : (I 77 1).toInt = (F 77 1).toInt := congrArg Int32.toInt (xFr hI 77 1 rfl); have e2 : (I 73 0).toInt = (F 73 0).toInt := congrArg Int32.toInt (xFr hI 73 0 rfl); have e3 : (I 77 0).toInt = (F 77 0).toInt := congrArg Int32.toInt (xFr hI 77 0 rfl); have _ := nn_23; have _ := nn_25; omega)), (show (F 73 0).toInt = (F 77 0).toInt from (by have e0 : (I 73 1).toInt = (F 73 1).toInt := congrArg Int32.toInt (xFr hI 73 1 rfl); have e1 : (I 77 1).toInt = (F 77 1).toInt := congrArg Int32.toInt (xFr hI 77 1 rfl); have e2 : (I 73 0).toInt = (F 73 0).toInt := congrArg Int32.toInt (xFr hI 73 0 rfl); have e3 : (I 77 0).toInt = (F 77 0).toInt := congrArg Int32.toInt (xFr hI 77 0 rfl); have _ := t_c_27; omega)), (show 0 ≤ pa1.toInt ∧ 0 ≤ pa3.toInt ∧ 0 ≤ pa4.toInt ∧ pa1.toInt + pa4.toInt ≤ (F 73 1).toInt ∧ pa3.toInt + pa4.toInt ≤ (F 77 1).toInt from (by have e0 : (I 73 1).toInt = (F 73 1).toInt := congrArg Int32.toInt (xFr hI 73 1 rfl); have e1 : (I 77 1).toInt = (F 77 1).toInt := congrArg Int32.toInt (xFr hI 77 1 rfl); have e2 : (I 73 0).toInt = (F 73 0).toInt := congrArg Int32.toInt (xFr hI 73 0 rfl); have e3 : (I 77 0).toInt = (F 77 0).toInt := congrArg Int32.toInt (xFr hI 77 0 rfl); have _ := nn_28; have _ := nn_29; omega)), rfl, hI_31⟩))))
                  · cases hu_29
                    refine lv_if_ne (tgt := 94) hx hb dX10_paste_88 (by decide) (fun c_0 => absurd (zD_eq zk_0 zk_z) c_0) (fun _ => ?_)
                    refine lv_bipush (v := (-7)) hx hb dX10_paste_91 (by decide +kernel) ?_
                    exact z_iret (v := (-7)) hx hb hr hlocks hP hD hS dX10_paste_93 (Or.inr (Or.inr (Or.inr (Or.inl ⟨(by obtain ⟨_, _⟩ := zk_0; obtain ⟨_, _⟩ := zk_2; omega), (show (F 73 1).toInt ≠ -1 ∧ (F 77 1).toInt ≠ -1 from (by have e0 : (I 73 1).toInt = (F 73 1).toInt := congrArg Int32.toInt (xFr hI 73 1 rfl); have e1 : (I 77 1).toInt = (F 77 1).toInt := congrArg Int32.toInt (xFr hI 77 1 rfl); have e2 : (I 73 0).toInt = (F 73 0).toInt := congrArg Int32.toInt (xFr hI 73 0 rfl); have e3 : (I 77 0).toInt = (F 77 0).toInt := congrArg Int32.toInt (xFr hI 77 0 rfl); have _ := nn_23; have _ := nn_25; omega)), (show (F 73 0).toInt = (F 77 0).toInt from (by have e0 : (I 73 1).toInt = (F 73 1).toInt := congrArg Int32.toInt (xFr hI 73 1 rfl); have e1 : (I 77 1).toInt = (F 77 1).toInt := congrArg Int32.toInt (xFr hI 77 1 rfl); have e2 : (I 73 0).toInt = (F 73 0).toInt := congrArg Int32.toInt (xFr hI 73 0 rfl); have e3 : (I 77 0).toInt = (F 77 0).toInt := congrArg Int32.toInt (xFr hI 77 0 rfl); have _ := t_c_27; omega)), (show ¬ (0 ≤ pa1.toInt ∧ 0 ≤ pa3.toInt ∧ 0 ≤ pa4.toInt ∧ pa1.toInt + pa4.toInt ≤ (F 73 1).toInt ∧ pa3.toInt + pa4.toInt ≤ (F 77 1).toInt) from (by have e0 : (I 73 1).toInt = (F 73 1).toInt := congrArg Int32.toInt (xFr hI 73 1 rfl); have e1 : (I 77 1).toInt = (F 77 1).toInt := congrArg Int32.toInt (xFr hI 77 1 rfl); have e2 : (I 73 0).toInt = (F 73 0).toInt := congrArg Int32.toInt (xFr hI 73 0 rfl); have e3 : (I 77 0).toInt = (F 77 0).toInt := congrArg Int32.toInt (xFr hI 77 0 rfl); have _ := nn_28; have _ := nn_29; omega)), rfl, hI⟩))))
                · cases hu_28
                  refine lv_if_eq (tgt := 91) hx hb dX10_paste_76 (by decide) (fun _ => ?_) (fun c_0 => absurd (zD_eq zk_0 zk_z) c_0)
                  refine lv_bipush (v := (-7)) hx hb dX10_paste_91 (by decide +kernel) ?_
                  exact z_iret (v := (-7)) hx hb hr hlocks hP hD hS dX10_paste_93 (Or.inr (Or.inr (Or.inr (Or.inl ⟨(by obtain ⟨_, _⟩ := zk_0; obtain ⟨_, _⟩ := zk_2; omega), (show (F 73 1).toInt ≠ -1 ∧ (F 77 1).toInt ≠ -1 from (by have e0 : (I 73 1).toInt = (F 73 1).toInt := congrArg Int32.toInt (xFr hI 73 1 rfl); have e1 : (I 77 1).toInt = (F 77 1).toInt := congrArg Int32.toInt (xFr hI 77 1 rfl); have e2 : (I 73 0).toInt = (F 73 0).toInt := congrArg Int32.toInt (xFr hI 73 0 rfl); have e3 : (I 77 0).toInt = (F 77 0).toInt := congrArg Int32.toInt (xFr hI 77 0 rfl); have _ := nn_23; have _ := nn_25; omega)), (show (F 73 0).toInt = (F 77 0).toInt from (by have e0 : (I 73 1).toInt = (F 73 1).toInt := congrArg Int32.toInt (xFr hI 73 1 rfl); have e1 : (I 77 1).toInt = (F 77 1).toInt := congrArg Int32.toInt (xFr hI 77 1 rfl); have e2 : (I 73 0).toInt = (F 73 0).toInt := congrArg Int32.toInt (xFr hI 73 0 rfl); have e3 : (I 77 0).toInt = (F 77 0).toInt := congrArg Int32.toInt (xFr hI 77 0 rfl); have _ := t_c_27; omega)), (show ¬ (0 ≤ pa1.toInt ∧ 0 ≤ pa3.toInt ∧ 0 ≤ pa4.toInt ∧ pa1.toInt + pa4.toInt ≤ (F 73 1).toInt ∧ pa3.toInt + pa4.toInt ≤ (F 77 1).toInt) from (by have e0 : (I 73 1).toInt = (F 73 1).toInt := congrArg Int32.toInt (xFr hI 73 1 rfl); have e1 : (I 77 1).toInt = (F 77 1).toInt := congrArg Int32.toInt (xFr hI 77 1 rfl); have e2 : (I 73 0).toInt = (F 73 0).toInt := congrArg Int32.toInt (xFr hI 73 0 rfl); have e3 : (I 77 0).toInt = (F 77 0).toInt := congrArg Int32.toInt (xFr hI 77 0 rfl); have _ := nn_28; omega)), rfl, hI⟩))))
              · have t_c_27 := z_eqF c_27
                refine lv_bipush (v := (-8)) hx hb dX10_paste_65 (by decide +kernel) ?_
                exact z_iret (v := (-8)) hx hb hr hlocks hP hD hS dX10_paste_67 (Or.inr (Or.inr (Or.inl ⟨(by obtain ⟨_, _⟩ := zk_0; obtain ⟨_, _⟩ := zk_2; omega), (show (F 73 1).toInt ≠ -1 ∧ (F 77 1).toInt ≠ -1 from (by have e0 : (I 73 1).toInt = (F 73 1).toInt := congrArg Int32.toInt (xFr hI 73 1 rfl); have e1 : (I 77 1).toInt = (F 77 1).toInt := congrArg Int32.toInt (xFr hI 77 1 rfl); have e2 : (I 73 0).toInt = (F 73 0).toInt := congrArg Int32.toInt (xFr hI 73 0 rfl); have e3 : (I 77 0).toInt = (F 77 0).toInt := congrArg Int32.toInt (xFr hI 77 0 rfl); have _ := nn_23; have _ := nn_25; omega)), (show (F 73 0).toInt ≠ (F 77 0).toInt from (by have e0 : (I 73 1).toInt = (F 73 1).toInt := congrArg Int32.toInt (xFr hI 73 1 rfl); have e1 : (I 77 1).toInt = (F 77 1).toInt := congrArg Int32.toInt (xFr hI 77 1 rfl); have e2 : (I 73 0).toInt = (F 73 0).toInt := congrArg Int32.toInt (xFr hI 73 0 rfl); have e3 : (I 77 0).toInt = (F 77 0).toInt := congrArg Int32.toInt (xFr hI 77 0 rfl); have _ := t_c_27; omega)), rfl, hI⟩)))
            · cases hu_25
              refine lv_if_ne (tgt := 52) hx hb dX10_paste_46 (by decide) (fun c_0 => absurd (zD_eq zk_0 zk_z) c_0) (fun _ => ?_)
              refine lv_bipush (v := (-6)) hx hb dX10_paste_49 (by decide +kernel) ?_
              exact z_iret (v := (-6)) hx hb hr hlocks hP hD hS dX10_paste_51 (Or.inr (Or.inl ⟨(by obtain ⟨_, _⟩ := zk_0; obtain ⟨_, _⟩ := zk_2; omega), (show (F 73 1).toInt = -1 ∨ (F 77 1).toInt = -1 from (by have e0 : (I 73 1).toInt = (F 73 1).toInt := congrArg Int32.toInt (xFr hI 73 1 rfl); have e1 : (I 77 1).toInt = (F 77 1).toInt := congrArg Int32.toInt (xFr hI 77 1 rfl); have e2 : (I 73 0).toInt = (F 73 0).toInt := congrArg Int32.toInt (xFr hI 73 0 rfl); have e3 : (I 77 0).toInt = (F 77 0).toInt := congrArg Int32.toInt (xFr hI 77 0 rfl); have _ := nn_23; have _ := nn_25; omega)), rfl, hI⟩))
          · cases hu_23
            refine lv_if_eq (tgt := 49) hx hb dX10_paste_38 (by decide) (fun _ => ?_) (fun c_0 => absurd (zD_eq zk_0 zk_z) c_0)
            refine lv_bipush (v := (-6)) hx hb dX10_paste_49 (by decide +kernel) ?_
            exact z_iret (v := (-6)) hx hb hr hlocks hP hD hS dX10_paste_51 (Or.inr (Or.inl ⟨(by obtain ⟨_, _⟩ := zk_0; obtain ⟨_, _⟩ := zk_2; omega), (show (F 73 1).toInt = -1 ∨ (F 77 1).toInt = -1 from (by have e0 : (I 73 1).toInt = (F 73 1).toInt := congrArg Int32.toInt (xFr hI 73 1 rfl); have e1 : (I 77 1).toInt = (F 77 1).toInt := congrArg Int32.toInt (xFr hI 77 1 rfl); have e2 : (I 73 0).toInt = (F 73 0).toInt := congrArg Int32.toInt (xFr hI 73 0 rfl); have e3 : (I 77 0).toInt = (F 77 0).toInt := congrArg Int32.toInt (xFr hI 77 0 rfl); have _ := nn_23; omega)), rfl, hI⟩))
        · refine va_aldq hx hb hK hP 72 52 (zw_at (by decide) rfl) rfl (vp_in_nI (by decide) (by decide)) dX10_paste_30 ?_
          refine W.eq (g2 := F0 m 31 ls (.ref (q 79) :: [])) rfl ?_
          refine lv_astore (lv' := [(7, .ref (q 79)), (6, .ref (q 73)), (0, .ref (q 0)), (1, .int (nI 0)), (2, .int (pa1)), (3, .int (nI 3)), (4, .int (pa3)), (5, .int (pa4))]) hx hb dX10_paste_31 hl (by decide) rfl (fun ls hl => ?_)
          refine lv_aload hx hb dX10_paste_33 (lv_at hl 1 rfl) ?_
          refine z_callVi (k := 73) (As := []) (rest := []) hx hb hml hown ht (xk_X6_isThere l D q cA F _ _ _ hI ) hw_5_63 hmX6_isThere ⟨rfl, rfl⟩ (na := 0) rfl (by decide +kernel) (by decide) (by decide) rfl rfl hK hP hD hS hA hl.1 rfl (Nat.le_of_ble_eq_true rfl) ⟨Nat.zero_le _, Nat.zero_le _⟩ dX10_paste_35 (fun r_32 I_32 R_32 J_32 H locs hp_32 hP hD hS _ _ => ?_)
          rcases hp_32 with ⟨rfl, hu_32, nn_32⟩ | ⟨rfl, hu_32, nn_32⟩
          · cases hu_32
            have f_33 : zR 0 60 (I 73 1) := x_there (xI hI 73 1) nn_32
            refine lv_if_eq (tgt := 49) hx hb dX10_paste_38 (by decide) (fun c_0 => absurd c_0 (zD_ne zk_1 zk_z (by decide))) (fun _ => ?_)
            refine lv_aload hx hb dX10_paste_41 (lv_at hl 0 rfl) ?_
            refine z_callVi (k := 79) (As := []) (rest := []) hx hb hml hown ht (xk_X6_isThere_3 l D q cA F _ _ _ hI ) hw_5_63 hmX6_isThere ⟨rfl, rfl⟩ (na := 0) rfl (by decide +kernel) (by decide) (by decide) rfl rfl hK hP hD hS hA hl.1 rfl (Nat.le_of_ble_eq_true rfl) ⟨Nat.zero_le _, Nat.zero_le _⟩ dX10_paste_43 (fun r_34 I_34 R_34 J_34 H locs hp_34 hP hD hS _ _ => ?_)
            rcases hp_34 with ⟨rfl, hu_34, nn_34⟩ | ⟨rfl, hu_34, nn_34⟩
            · cases hu_34
              have f_35 : zR 0 60 (I 79 1) := x_there (xI hI 79 1) nn_34
              refine lv_if_ne (tgt := 52) hx hb dX10_paste_46 (by decide) (fun _ => ?_) (fun c_0 => absurd c_0 (zD_ne zk_1 zk_z (by decide)))
              refine lv_aload hx hb dX10_paste_52 (lv_at hl 1 rfl) ?_
              refine z_get hx hb ht hown hK hP ziX6 rfl 73 (by decide) 0 (by decide) hw_2_78 rfl (v := .int (I 73 0)) rfl dX10_paste_54 ?_
              refine lv_aload hx hb dX10_paste_57 (lv_at hl 0 rfl) ?_
              refine z_get hx hb ht hown hK hP ziX6 rfl 79 (by decide) 0 (by decide) hw_2_78 rfl (v := .int (I 79 0)) rfl dX10_paste_59 ?_
              refine lv_icmp_eq (tgt := 68) hx hb dX10_paste_62 (by decide) (fun c_36 => ?_) (fun c_36 => ?_)
              · have t_c_36 := z_eqT c_36
                refine lv_aload hx hb dX10_paste_68 (lv_at hl 1 rfl) ?_
                refine lv_iload_n hx hb dX10_paste_70 rfl (lv_at hl 4 rfl) ?_
                refine lv_iload hx hb dX10_paste_71 (lv_at hl 7 rfl) ?_
                refine z_callVi (k := 73) (As := [.int (pa1), .int (pa4)]) (rest := []) hx hb hml hown ht (xk_X6_spans l D q cA F _ _ _ hI (pa1) (pa4)) hw_5_177 hmX6_spans ⟨rfl, rfl⟩ (na := 2) rfl (by decide +kernel) (by decide) (by decide) rfl rfl hK hP hD hS hA hl.1 rfl (Nat.le_of_ble_eq_true rfl) ⟨Nat.zero_le _, Nat.zero_le _⟩ dX10_paste_73 (fun r_37 I_37 R_37 J_37 H locs hp_37 hP hD hS _ _ => ?_)
                rcases hp_37 with ⟨rfl, hu_37, nn_37⟩ | ⟨rfl, hu_37, nn_37⟩
                · cases hu_37
                  refine lv_if_eq (tgt := 91) hx hb dX10_paste_76 (by decide) (fun c_0 => absurd c_0 (zD_ne zk_1 zk_z (by decide))) (fun _ => ?_)
                  refine lv_aload hx hb dX10_paste_79 (lv_at hl 0 rfl) ?_
                  refine lv_iload hx hb dX10_paste_81 (lv_at hl 6 rfl) ?_
                  refine lv_iload hx hb dX10_paste_83 (lv_at hl 7 rfl) ?_
                  refine z_callVi (k := 79) (As := [.int (pa3), .int (pa4)]) (rest := []) hx hb hml hown ht (xk_X6_spans_3 l D q cA F _ _ _ hI (pa3) (pa4)) hw_5_177 hmX6_spans ⟨rfl, rfl⟩ (na := 2) rfl (by decide +kernel) (by decide) (by decide) rfl rfl hK hP hD hS hA hl.1 rfl (Nat.le_of_ble_eq_true rfl) ⟨Nat.zero_le _, Nat.zero_le _⟩ dX10_paste_85 (fun r_38 I_38 R_38 J_38 H locs hp_38 hP hD hS _ _ => ?_)
                  rcases hp_38 with ⟨rfl, hu_38, nn_38⟩ | ⟨rfl, hu_38, nn_38⟩
                  · cases hu_38
                    refine lv_if_ne (tgt := 94) hx hb dX10_paste_88 (by decide) (fun _ => ?_) (fun c_0 => absurd c_0 (zD_ne zk_1 zk_z (by decide)))
                    refine lv_aload hx hb dX10_paste_94 (lv_at hl 1 rfl) ?_
                    refine z_get hx hb ht hown hK hP ziX6 rfl 73 (by decide) 2 (by decide) hw_2_84 rfl (v := .ref (q 74)) rfl dX10_paste_96 ?_
                    refine lv_iload_n hx hb dX10_paste_99 rfl (lv_at hl 4 rfl) ?_
                    refine lv_aload hx hb dX10_paste_100 (lv_at hl 0 rfl) ?_
                    refine z_get hx hb ht hown hK hP ziX6 rfl 79 (by decide) 2 (by decide) hw_2_84 rfl (v := .ref (q 80)) rfl dX10_paste_102 ?_
                    refine lv_iload hx hb dX10_paste_105 (lv_at hl 6 rfl) ?_
                    refine lv_iload hx hb dX10_paste_107 (lv_at hl 7 rfl) ?_
                    refine z_copyl hx hb (hml.trans hl.1.symm) ht hown hw_5_181 ⟨hw_3_44, hw_3_43, hw_1_18⟩ hK hP hD hS 74 80 (by decide) (by decide) 53 56 rfl (fun _ => rfl) rfl rfl (x_nn nn_37.1) (x_nn nn_38.1) (x_nn nn_37.2.1) (x_cp nn_37 (xI hI 73 1).2) (x_cp nn_38 (xI hI 79 1).2) (by decide) (by decide +kernel) dX10_paste_109 (fun g_39 H locs eg_39 hP hD hS => ?_)
                    have hI_40 := xInv_J (J2 := (zr J 80 g_39)) hI
                    refine lv_iconst (v := nI 0) hx hb dX10_paste_112 (by decide +kernel) ?_
                    exact z_iret (v := nI 0) hx hb hr hlocks hP hD hS dX10_paste_113 (Or.inr (Or.inr (Or.inr (Or.inr ⟨(by obtain ⟨_, _⟩ := zk_0; obtain ⟨_, _⟩ := zk_3; omega), (show (F 73 1).toInt ≠ -1 ∧ (F 79 1).toInt ≠ -1 from (by have e0 : (I 73 1).toInt = (F 73 1).toInt := congrArg Int32.toInt (xFr hI 73 1 rfl); have e1 : (I 79 1).toInt = (F 79 1).toInt := congrArg Int32.toInt (xFr hI 79 1 rfl); have e2 : (I 73 0).toInt = (F 73 0).toInt := congrArg Int32.toInt (xFr hI 73 0 rfl); have e3 : (I 79 0).toInt = (F 79 0).toInt := congrArg Int32.toInt (xFr hI 79 0 rfl); have _ := nn_32; have _ := nn_34; omega)), (show (F 73 0).toInt = (F 79 0).toInt from (by have e0 : (I 73 1).toInt = (F 73 1).toInt := congrArg Int32.toInt (xFr hI 73 1 rfl); have e1 : (I 79 1).toInt = (F 79 1).toInt := congrArg Int32.toInt (xFr hI 79 1 rfl); have e2 : (I 73 0).toInt = (F 73 0).toInt := congrArg Int32.toInt (xFr hI 73 0 rfl); have e3 : (I 79 0).toInt = (F 79 0).toInt := congrArg Int32.toInt (xFr hI 79 0 rfl); have _ := t_c_36; omega)), (show 0 ≤ pa1.toInt ∧ 0 ≤ pa3.toInt ∧ 0 ≤ pa4.toInt ∧ pa1.toInt + pa4.toInt ≤ (F 73 1).toInt ∧ pa3.toInt + pa4.toInt ≤ (F 79 1).toInt from (by have e0 : (I 73 1).toInt = (F 73 1).toInt := congrArg Int32.toInt (xFr hI 73 1 rfl); have e1 : (I 79 1).toInt = (F 79 1).toInt := congrArg Int32.toInt (xFr hI 79 1 rfl); have e2 : (I 73 0).toInt = (F 73 0).toInt := congrArg Int32.toInt (xFr hI 73 0 rfl); have e3 : (I 79 0).toInt = (F 79 0).toInt := congrArg Int32.toInt (xFr hI 79 0 rfl); have _ := nn_37; have _ := nn_38; omega)), rfl, hI_40⟩))))
                  · cases hu_38
                    refine lv_if_ne (tgt := 94) hx hb dX10_paste_88 (by decide) (fun c_0 => absurd (zD_eq zk_0 zk_z) c_0) (fun _ => ?_)
                    refine lv_bipush (v := (-7)) hx hb dX10_paste_91 (by decide +kernel) ?_
                    exact z_iret (v := (-7)) hx hb hr hlocks hP hD hS dX10_paste_93 (Or.inr (Or.inr (Or.inr (Or.inl ⟨(by obtain ⟨_, _⟩ := zk_0; obtain ⟨_, _⟩ := zk_3; omega), (show (F 73 1).toInt ≠ -1 ∧ (F 79 1).toInt ≠ -1 from (by have e0 : (I 73 1).toInt = (F 73 1).toInt := congrArg Int32.toInt (xFr hI 73 1 rfl); have e1 : (I 79 1).toInt = (F 79 1).toInt := congrArg Int32.toInt (xFr hI 79 1 rfl); have e2 : (I 73 0).toInt = (F 73 0).toInt := congrArg Int32.toInt (xFr hI 73 0 rfl); have e3 : (I 79 0).toInt = (F 79 0).toInt := congrArg Int32.toInt (xFr hI 79 0 rfl); have _ := nn_32; have _ := nn_34; omega)), (show (F 73 0).toInt = (F 79 0).toInt from (by have e0 : (I 73 1).toInt = (F 73 1).toInt := congrArg Int32.toInt (xFr hI 73 1 rfl); have e1 : (I 79 1).toInt = (F 79 1).toInt := congrArg Int32.toInt (xFr hI 79 1 rfl); have e2 : (I 73 0).toInt = (F 73 0).toInt := congrArg Int32.toInt (xFr hI 73 0 rfl); have e3 : (I 79 0).toInt = (F 79 0).toInt := congrArg Int32.toInt (xFr hI 79 0 rfl); have _ := t_c_36; omega)), (show ¬ (0 ≤ pa1.toInt ∧ 0 ≤ pa3.toInt ∧ 0 ≤ pa4.toInt ∧ pa1.toInt + pa4.toInt ≤ (F 73 1).toInt ∧ pa3.toInt + pa4.toInt ≤ (F 79 1).toInt) from (by have e0 : (I 73 1).toInt = (F 73 1).toInt := congrArg Int32.toInt (xFr hI 73 1 rfl); have e1 : (I 79 1).toInt = (F 79 1).toInt := congrArg Int32.toInt (xFr hI 79 1 rfl); have e2 : (I 73 0).toInt = (F 73 0).toInt := congrArg Int32.toInt (xFr hI 73 0 rfl); have e3 : (I 79 0).toInt = (F 79 0).toInt := congrArg Int32.toInt (xFr hI 79 0 rfl); have _ := nn_37; have _ := nn_38; omega)), rfl, hI⟩))))
                · cases hu_37
                  refine lv_if_eq (tgt := 91) hx hb dX10_paste_76 (by decide) (fun _ => ?_) (fun c_0 => absurd (zD_eq zk_0 zk_z) c_0)
                  refine lv_bipush (v := (-7)) hx hb dX10_paste_91 (by decide +kernel) ?_
                  exact z_iret (v := (-7)) hx hb hr hlocks hP hD hS dX10_paste_93 (Or.inr (Or.inr (Or.inr (Or.inl ⟨(by obtain ⟨_, _⟩ := zk_0; obtain ⟨_, _⟩ := zk_3; omega), (show (F 73 1).toInt ≠ -1 ∧ (F 79 1).toInt ≠ -1 from (by have e0 : (I 73 1).toInt = (F 73 1).toInt := congrArg Int32.toInt (xFr hI 73 1 rfl); have e1 : (I 79 1).toInt = (F 79 1).toInt := congrArg Int32.toInt (xFr hI 79 1 rfl); have e2 : (I 73 0).toInt = (F 73 0).toInt := congrArg Int32.toInt (xFr hI 73 0 rfl); have e3 : (I 79 0).toInt = (F 79 0).toInt := congrArg Int32.toInt (xFr hI 79 0 rfl); have _ := nn_32; have _ := nn_34; omega)), (show (F 73 0).toInt = (F 79 0).toInt from (by have e0 : (I 73 1).toInt = (F 73 1).toInt := congrArg Int32.toInt (xFr hI 73 1 rfl); have e1 : (I 79 1).toInt = (F 79 1).toInt := congrArg Int32.toInt (xFr hI 79 1 rfl); have e2 : (I 73 0).toInt = (F 73 0).toInt := congrArg Int32.toInt (xFr hI 73 0 rfl); have e3 : (I 79 0).toInt = (F 79 0).toInt := congrArg Int32.toInt (xFr hI 79 0 rfl); have _ := t_c_36; omega)), (show ¬ (0 ≤ pa1.toInt ∧ 0 ≤ pa3.toInt ∧ 0 ≤ pa4.toInt ∧ pa1.toInt + pa4.toInt ≤ (F 73 1).toInt ∧ pa3.toInt + pa4.toInt ≤ (F 79 1).toInt) from (by have e0 : (I 73 1).toInt = (F 73 1).toInt := congrArg Int32.toInt (xFr hI 73 1 rfl); have e1 : (I 79 1).toInt = (F 79 1).toInt := congrArg Int32.toInt (xFr hI 79 1 rfl); have e2 : (I 73 0).toInt = (F 73 0).toInt := congrArg Int32.toInt (xFr hI 73 0 rfl); have e3 : (I 79 0).toInt = (F 79 0).toInt := congrArg Int32.toInt (xFr hI 79 0 rfl); have _ := nn_37; omega)), rfl, hI⟩))))
              · have t_c_36 := z_eqF c_36
                refine lv_bipush (v := (-8)) hx hb dX10_paste_65 (by decide +kernel) ?_
                exact z_iret (v := (-8)) hx hb hr hlocks hP hD hS dX10_paste_67 (Or.inr (Or.inr (Or.inl ⟨(by obtain ⟨_, _⟩ := zk_0; obtain ⟨_, _⟩ := zk_3; omega), (show (F 73 1).toInt ≠ -1 ∧ (F 79 1).toInt ≠ -1 from (by have e0 : (I 73 1).toInt = (F 73 1).toInt := congrArg Int32.toInt (xFr hI 73 1 rfl); have e1 : (I 79 1).toInt = (F 79 1).toInt := congrArg Int32.toInt (xFr hI 79 1 rfl); have e2 : (I 73 0).toInt = (F 73 0).toInt := congrArg Int32.toInt (xFr hI 73 0 rfl); have e3 : (I 79 0).toInt = (F 79 0).toInt := congrArg Int32.toInt (xFr hI 79 0 rfl); have _ := nn_32; have _ := nn_34; omega)), (show (F 73 0).toInt ≠ (F 79 0).toInt from (by have e0 : (I 73 1).toInt = (F 73 1).toInt := congrArg Int32.toInt (xFr hI 73 1 rfl); have e1 : (I 79 1).toInt = (F 79 1).toInt := congrArg Int32.toInt (xFr hI 79 1 rfl); have e2 : (I 73 0).toInt = (F 73 0).toInt := congrArg Int32.toInt (xFr hI 73 0 rfl); have e3 : (I 79 0).toInt = (F 79 0).toInt := congrArg Int32.toInt (xFr hI 79 0 rfl); have _ := t_c_36; omega)), rfl, hI⟩)))
            · cases hu_34
              refine lv_if_ne (tgt := 52) hx hb dX10_paste_46 (by decide) (fun c_0 => absurd (zD_eq zk_0 zk_z) c_0) (fun _ => ?_)
              refine lv_bipush (v := (-6)) hx hb dX10_paste_49 (by decide +kernel) ?_
              exact z_iret (v := (-6)) hx hb hr hlocks hP hD hS dX10_paste_51 (Or.inr (Or.inl ⟨(by obtain ⟨_, _⟩ := zk_0; obtain ⟨_, _⟩ := zk_3; omega), (show (F 73 1).toInt = -1 ∨ (F 79 1).toInt = -1 from (by have e0 : (I 73 1).toInt = (F 73 1).toInt := congrArg Int32.toInt (xFr hI 73 1 rfl); have e1 : (I 79 1).toInt = (F 79 1).toInt := congrArg Int32.toInt (xFr hI 79 1 rfl); have e2 : (I 73 0).toInt = (F 73 0).toInt := congrArg Int32.toInt (xFr hI 73 0 rfl); have e3 : (I 79 0).toInt = (F 79 0).toInt := congrArg Int32.toInt (xFr hI 79 0 rfl); have _ := nn_32; have _ := nn_34; omega)), rfl, hI⟩))
          · cases hu_32
            refine lv_if_eq (tgt := 49) hx hb dX10_paste_38 (by decide) (fun _ => ?_) (fun c_0 => absurd (zD_eq zk_0 zk_z) c_0)
            refine lv_bipush (v := (-6)) hx hb dX10_paste_49 (by decide +kernel) ?_
            exact z_iret (v := (-6)) hx hb hr hlocks hP hD hS dX10_paste_51 (Or.inr (Or.inl ⟨(by obtain ⟨_, _⟩ := zk_0; obtain ⟨_, _⟩ := zk_3; omega), (show (F 73 1).toInt = -1 ∨ (F 79 1).toInt = -1 from (by have e0 : (I 73 1).toInt = (F 73 1).toInt := congrArg Int32.toInt (xFr hI 73 1 rfl); have e1 : (I 79 1).toInt = (F 79 1).toInt := congrArg Int32.toInt (xFr hI 79 1 rfl); have e2 : (I 73 0).toInt = (F 73 0).toInt := congrArg Int32.toInt (xFr hI 73 0 rfl); have e3 : (I 79 0).toInt = (F 79 0).toInt := congrArg Int32.toInt (xFr hI 79 0 rfl); have _ := nn_32; omega)), rfl, hI⟩))
      · refine va_aldq hx hb hK hP 72 52 (zw_at (by decide) rfl) rfl (vp_in_nI (by decide) (by decide)) dX10_paste_22 ?_
        refine W.eq (g2 := F0 m 23 ls (.ref (q 75) :: [])) rfl ?_
        refine lv_astore (lv' := [(6, .ref (q 75)), (0, .ref (q 0)), (1, .int (nI 1)), (2, .int (pa1)), (3, .int (pa2)), (4, .int (pa3)), (5, .int (pa4))]) hx hb dX10_paste_23 hl (by decide) rfl (fun ls hl => ?_)
        refine lv_aload_n hx hb dX10_paste_25 rfl (lv_at hl 1 rfl) ?_
        refine z_get hx hb ht hown hK hP ziX10 rfl 0 (by decide) 11 (by decide) hw_2_104 rfl (v := .ref (q 72)) rfl dX10_paste_26 ?_
        refine lv_iload_n hx hb dX10_paste_29 rfl (lv_at hl 4 rfl) ?_
        obtain ⟨n_41, hn_41, rfl⟩ := z_ex (x := pa2) (N := 4) (zR_w f0_2 (a' := 0) (b' := 3) (by decide)).1 (Int.lt_of_le_of_lt (zR_w f0_2 (a' := 0) (b' := 3) (by decide)).2 (by decide))
        rcases (show n_41 = 0 ∨ n_41 = 1 ∨ n_41 = 2 ∨ n_41 = 3 by omega) with rfl | rfl | rfl | rfl
        · refine va_aldq hx hb hK hP 72 52 (zw_at (by decide) rfl) rfl (vp_in_nI (by decide) (by decide)) dX10_paste_30 ?_
          refine W.eq (g2 := F0 m 31 ls (.ref (q 73) :: [])) rfl ?_
          refine lv_astore (lv' := [(7, .ref (q 73)), (6, .ref (q 75)), (0, .ref (q 0)), (1, .int (nI 1)), (2, .int (pa1)), (3, .int (nI 0)), (4, .int (pa3)), (5, .int (pa4))]) hx hb dX10_paste_31 hl (by decide) rfl (fun ls hl => ?_)
          refine lv_aload hx hb dX10_paste_33 (lv_at hl 1 rfl) ?_
          refine z_callVi (k := 75) (As := []) (rest := []) hx hb hml hown ht (xk_X6_isThere_1 l D q cA F _ _ _ hI ) hw_5_63 hmX6_isThere ⟨rfl, rfl⟩ (na := 0) rfl (by decide +kernel) (by decide) (by decide) rfl rfl hK hP hD hS hA hl.1 rfl (Nat.le_of_ble_eq_true rfl) ⟨Nat.zero_le _, Nat.zero_le _⟩ dX10_paste_35 (fun r_42 I_42 R_42 J_42 H locs hp_42 hP hD hS _ _ => ?_)
          rcases hp_42 with ⟨rfl, hu_42, nn_42⟩ | ⟨rfl, hu_42, nn_42⟩
          · cases hu_42
            have f_43 : zR 0 60 (I 75 1) := x_there (xI hI 75 1) nn_42
            refine lv_if_eq (tgt := 49) hx hb dX10_paste_38 (by decide) (fun c_0 => absurd c_0 (zD_ne zk_1 zk_z (by decide))) (fun _ => ?_)
            refine lv_aload hx hb dX10_paste_41 (lv_at hl 0 rfl) ?_
            refine z_callVi (k := 73) (As := []) (rest := []) hx hb hml hown ht (xk_X6_isThere l D q cA F _ _ _ hI ) hw_5_63 hmX6_isThere ⟨rfl, rfl⟩ (na := 0) rfl (by decide +kernel) (by decide) (by decide) rfl rfl hK hP hD hS hA hl.1 rfl (Nat.le_of_ble_eq_true rfl) ⟨Nat.zero_le _, Nat.zero_le _⟩ dX10_paste_43 (fun r_44 I_44 R_44 J_44 H locs hp_44 hP hD hS _ _ => ?_)
            rcases hp_44 with ⟨rfl, hu_44, nn_44⟩ | ⟨rfl, hu_44, nn_44⟩
            · cases hu_44
              have f_45 : zR 0 60 (I 73 1) := x_there (xI hI 73 1) nn_44
              refine lv_if_ne (tgt := 52) hx hb dX10_paste_46 (by decide) (fun _ => ?_) (fun c_0 => absurd c_0 (zD_ne zk_1 zk_z (by decide)))
              refine lv_aload hx hb dX10_paste_52 (lv_at hl 1 rfl) ?_
              refine z_get hx hb ht hown hK hP ziX6 rfl 75 (by decide) 0 (by decide) hw_2_78 rfl (v := .int (I 75 0)) rfl dX10_paste_54 ?_
              refine lv_aload hx hb dX10_paste_57 (lv_at hl 0 rfl) ?_
              refine z_get hx hb ht hown hK hP ziX6 rfl 73 (by decide) 0 (by decide) hw_2_78 rfl (v := .int (I 73 0)) rfl dX10_paste_59 ?_
              refine lv_icmp_eq (tgt := 68) hx hb dX10_paste_62 (by decide) (fun c_46 => ?_) (fun c_46 => ?_)
              · have t_c_46 := z_eqT c_46
                refine lv_aload hx hb dX10_paste_68 (lv_at hl 1 rfl) ?_
                refine lv_iload_n hx hb dX10_paste_70 rfl (lv_at hl 4 rfl) ?_
                refine lv_iload hx hb dX10_paste_71 (lv_at hl 7 rfl) ?_
                refine z_callVi (k := 75) (As := [.int (pa1), .int (pa4)]) (rest := []) hx hb hml hown ht (xk_X6_spans_1 l D q cA F _ _ _ hI (pa1) (pa4)) hw_5_177 hmX6_spans ⟨rfl, rfl⟩ (na := 2) rfl (by decide +kernel) (by decide) (by decide) rfl rfl hK hP hD hS hA hl.1 rfl (Nat.le_of_ble_eq_true rfl) ⟨Nat.zero_le _, Nat.zero_le _⟩ dX10_paste_73 (fun r_47 I_47 R_47 J_47 H locs hp_47 hP hD hS _ _ => ?_)
                rcases hp_47 with ⟨rfl, hu_47, nn_47⟩ | ⟨rfl, hu_47, nn_47⟩
                · cases hu_47
                  refine lv_if_eq (tgt := 91) hx hb dX10_paste_76 (by decide) (fun c_0 => absurd c_0 (zD_ne zk_1 zk_z (by decide))) (fun _ => ?_)
                  refine lv_aload hx hb dX10_paste_79 (lv_at hl 0 rfl) ?_
                  refine lv_iload hx hb dX10_paste_81 (lv_at hl 6 rfl) ?_
                  refine lv_iload hx hb dX10_paste_83 (lv_at hl 7 rfl) ?_
                  refine z_callVi (k := 73) (As := [.int (pa3), .int (pa4)]) (rest := []) hx hb hml hown ht (xk_X6_spans l D q cA F _ _ _ hI (pa3) (pa4)) hw_5_177 hmX6_spans ⟨rfl, rfl⟩ (na := 2) rfl (by decide +kernel) (by decide) (by decide) rfl rfl hK hP hD hS hA hl.1 rfl (Nat.le_of_ble_eq_true rfl) ⟨Nat.zero_le _, Nat.zero_le _⟩ dX10_paste_85 (fun r_48 I_48 R_48 J_48 H locs hp_48 hP hD hS _ _ => ?_)
                  rcases hp_48 with ⟨rfl, hu_48, nn_48⟩ | ⟨rfl, hu_48, nn_48⟩
                  · cases hu_48
                    refine lv_if_ne (tgt := 94) hx hb dX10_paste_88 (by decide) (fun _ => ?_) (fun c_0 => absurd c_0 (zD_ne zk_1 zk_z (by decide)))
                    refine lv_aload hx hb dX10_paste_94 (lv_at hl 1 rfl) ?_
                    refine z_get hx hb ht hown hK hP ziX6 rfl 75 (by decide) 2 (by decide) hw_2_84 rfl (v := .ref (q 76)) rfl dX10_paste_96 ?_
                    refine lv_iload_n hx hb dX10_paste_99 rfl (lv_at hl 4 rfl) ?_
                    refine lv_aload hx hb dX10_paste_100 (lv_at hl 0 rfl) ?_
                    refine z_get hx hb ht hown hK hP ziX6 rfl 73 (by decide) 2 (by decide) hw_2_84 rfl (v := .ref (q 74)) rfl dX10_paste_102 ?_
                    refine lv_iload hx hb dX10_paste_105 (lv_at hl 6 rfl) ?_
                    refine lv_iload hx hb dX10_paste_107 (lv_at hl 7 rfl) ?_
                    refine z_copyl hx hb (hml.trans hl.1.symm) ht hown hw_5_181 ⟨hw_3_44, hw_3_43, hw_1_18⟩ hK hP hD hS 76 74 (by decide) (by decide) 54 53 rfl (fun _ => rfl) rfl rfl (x_nn nn_47.1) (x_nn nn_48.1) (x_nn nn_47.2.1) (x_cp nn_47 (xI hI 75 1).2) (x_cp nn_48 (xI hI 73 1).2) (by decide) (by decide +kernel) dX10_paste_109 (fun g_49 H locs eg_49 hP hD hS => ?_)
                    have hI_50 := xInv_J (J2 := (zr J 74 g_49)) hI
                    refine lv_iconst (v := nI 0) hx hb dX10_paste_112 (by decide +kernel) ?_
                    exact z_iret (v := nI 0) hx hb hr hlocks hP hD hS dX10_paste_113 (Or.inr (Or.inr (Or.inr (Or.inr ⟨(by obtain ⟨_, _⟩ := zk_1; obtain ⟨_, _⟩ := zk_0; omega), (show (F 75 1).toInt ≠ -1 ∧ (F 73 1).toInt ≠ -1 from (by have e0 : (I 75 1).toInt = (F 75 1).toInt := congrArg Int32.toInt (xFr hI 75 1 rfl); have e1 : (I 73 1).toInt = (F 73 1).toInt := congrArg Int32.toInt (xFr hI 73 1 rfl); have e2 : (I 75 0).toInt = (F 75 0).toInt := congrArg Int32.toInt (xFr hI 75 0 rfl); have e3 : (I 73 0).toInt = (F 73 0).toInt := congrArg Int32.toInt (xFr hI 73 0 rfl); have _ := nn_42; have _ := nn_44; omega)), (show (F 75 0).toInt = (F 73 0).toInt from (by have e0 : (I 75 1).toInt = (F 75 1).toInt := congrArg Int32.toInt (xFr hI 75 1 rfl); have e1 : (I 73 1).toInt = (F 73 1).toInt := congrArg Int32.toInt (xFr hI 73 1 rfl); have e2 : (I 75 0).toInt = (F 75 0).toInt := congrArg Int32.toInt (xFr hI 75 0 rfl); have e3 : (I 73 0).toInt = (F 73 0).toInt := congrArg Int32.toInt (xFr hI 73 0 rfl); have _ := t_c_46; omega)), (show 0 ≤ pa1.toInt ∧ 0 ≤ pa3.toInt ∧ 0 ≤ pa4.toInt ∧ pa1.toInt + pa4.toInt ≤ (F 75 1).toInt ∧ pa3.toInt + pa4.toInt ≤ (F 73 1).toInt from (by have e0 : (I 75 1).toInt = (F 75 1).toInt := congrArg Int32.toInt (xFr hI 75 1 rfl); have e1 : (I 73 1).toInt = (F 73 1).toInt := congrArg Int32.toInt (xFr hI 73 1 rfl); have e2 : (I 75 0).toInt = (F 75 0).toInt := congrArg Int32.toInt (xFr hI 75 0 rfl); have e3 : (I 73 0).toInt = (F 73 0).toInt := congrArg Int32.toInt (xFr hI 73 0 rfl); have _ := nn_47; have _ := nn_48; omega)), rfl, hI_50⟩))))
                  · cases hu_48
                    refine lv_if_ne (tgt := 94) hx hb dX10_paste_88 (by decide) (fun c_0 => absurd (zD_eq zk_0 zk_z) c_0) (fun _ => ?_)
                    refine lv_bipush (v := (-7)) hx hb dX10_paste_91 (by decide +kernel) ?_
                    exact z_iret (v := (-7)) hx hb hr hlocks hP hD hS dX10_paste_93 (Or.inr (Or.inr (Or.inr (Or.inl ⟨(by obtain ⟨_, _⟩ := zk_1; obtain ⟨_, _⟩ := zk_0; omega), (show (F 75 1).toInt ≠ -1 ∧ (F 73 1).toInt ≠ -1 from (by have e0 : (I 75 1).toInt = (F 75 1).toInt := congrArg Int32.toInt (xFr hI 75 1 rfl); have e1 : (I 73 1).toInt = (F 73 1).toInt := congrArg Int32.toInt (xFr hI 73 1 rfl); have e2 : (I 75 0).toInt = (F 75 0).toInt := congrArg Int32.toInt (xFr hI 75 0 rfl); have e3 : (I 73 0).toInt = (F 73 0).toInt := congrArg Int32.toInt (xFr hI 73 0 rfl); have _ := nn_42; have _ := nn_44; omega)), (show (F 75 0).toInt = (F 73 0).toInt from (by have e0 : (I 75 1).toInt = (F 75 1).toInt := congrArg Int32.toInt (xFr hI 75 1 rfl); have e1 : (I 73 1).toInt = (F 73 1).toInt := congrArg Int32.toInt (xFr hI 73 1 rfl); have e2 : (I 75 0).toInt = (F 75 0).toInt := congrArg Int32.toInt (xFr hI 75 0 rfl); have e3 : (I 73 0).toInt = (F 73 0).toInt := congrArg Int32.toInt (xFr hI 73 0 rfl); have _ := t_c_46; omega)), (show ¬ (0 ≤ pa1.toInt ∧ 0 ≤ pa3.toInt ∧ 0 ≤ pa4.toInt ∧ pa1.toInt + pa4.toInt ≤ (F 75 1).toInt ∧ pa3.toInt + pa4.toInt ≤ (F 73 1).toInt) from (by have e0 : (I 75 1).toInt = (F 75 1).toInt := congrArg Int32.toInt (xFr hI 75 1 rfl); have e1 : (I 73 1).toInt = (F 73 1).toInt := congrArg Int32.toInt (xFr hI 73 1 rfl); have e2 : (I 75 0).toInt = (F 75 0).toInt := congrArg Int32.toInt (xFr hI 75 0 rfl); have e3 : (I 73 0).toInt = (F 73 0).toInt := congrArg Int32.toInt (xFr hI 73 0 rfl); have _ := nn_47; have _ := nn_48; omega)), rfl, hI⟩))))
                · cases hu_47
                  refine lv_if_eq (tgt := 91) hx hb dX10_paste_76 (by decide) (fun _ => ?_) (fun c_0 => absurd (zD_eq zk_0 zk_z) c_0)
                  refine lv_bipush (v := (-7)) hx hb dX10_paste_91 (by decide +kernel) ?_
                  exact z_iret (v := (-7)) hx hb hr hlocks hP hD hS dX10_paste_93 (Or.inr (Or.inr (Or.inr (Or.inl ⟨(by obtain ⟨_, _⟩ := zk_1; obtain ⟨_, _⟩ := zk_0; omega), (show (F 75 1).toInt ≠ -1 ∧ (F 73 1).toInt ≠ -1 from (by have e0 : (I 75 1).toInt = (F 75 1).toInt := congrArg Int32.toInt (xFr hI 75 1 rfl); have e1 : (I 73 1).toInt = (F 73 1).toInt := congrArg Int32.toInt (xFr hI 73 1 rfl); have e2 : (I 75 0).toInt = (F 75 0).toInt := congrArg Int32.toInt (xFr hI 75 0 rfl); have e3 : (I 73 0).toInt = (F 73 0).toInt := congrArg Int32.toInt (xFr hI 73 0 rfl); have _ := nn_42; have _ := nn_44; omega)), (show (F 75 0).toInt = (F 73 0).toInt from (by have e0 : (I 75 1).toInt = (F 75 1).toInt := congrArg Int32.toInt (xFr hI 75 1 rfl); have e1 : (I 73 1).toInt = (F 73 1).toInt := congrArg Int32.toInt (xFr hI 73 1 rfl); have e2 : (I 75 0).toInt = (F 75 0).toInt := congrArg Int32.toInt (xFr hI 75 0 rfl); have e3 : (I 73 0).toInt = (F 73 0).toInt := congrArg Int32.toInt (xFr hI 73 0 rfl); have _ := t_c_46; omega)), (show ¬ (0 ≤ pa1.toInt ∧ 0 ≤ pa3.toInt ∧ 0 ≤ pa4.toInt ∧ pa1.toInt + pa4.toInt ≤ (F 75 1).toInt ∧ pa3.toInt + pa4.toInt ≤ (F 73 1).toInt) from (by have e0 : (I 75 1).toInt = (F 75 1).toInt := congrArg Int32.toInt (xFr hI 75 1 rfl); have e1 : (I 73 1).toInt = (F 73 1).toInt := congrArg Int32.toInt (xFr hI 73 1 rfl); have e2 : (I 75 0).toInt = (F 75 0).toInt := congrArg Int32.toInt (xFr hI 75 0 rfl); have e3 : (I 73 0).toInt = (F 73 0).toInt := congrArg Int32.toInt (xFr hI 73 0 rfl); have _ := nn_47; omega)), rfl, hI⟩))))
              · have t_c_46 := z_eqF c_46
                refine lv_bipush (v := (-8)) hx hb dX10_paste_65 (by decide +kernel) ?_
                exact z_iret (v := (-8)) hx hb hr hlocks hP hD hS dX10_paste_67 (Or.inr (Or.inr (Or.inl ⟨(by obtain ⟨_, _⟩ := zk_1; obtain ⟨_, _⟩ := zk_0; omega), (show (F 75 1).toInt ≠ -1 ∧ (F 73 1).toInt ≠ -1 from (by have e0 : (I 75 1).toInt = (F 75 1).toInt := congrArg Int32.toInt (xFr hI 75 1 rfl); have e1 : (I 73 1).toInt = (F 73 1).toInt := congrArg Int32.toInt (xFr hI 73 1 rfl); have e2 : (I 75 0).toInt = (F 75 0).toInt := congrArg Int32.toInt (xFr hI 75 0 rfl); have e3 : (I 73 0).toInt = (F 73 0).toInt := congrArg Int32.toInt (xFr hI 73 0 rfl); have _ := nn_42; have _ := nn_44; omega)), (show (F 75 0).toInt ≠ (F 73 0).toInt from (by have e0 : (I 75 1).toInt = (F 75 1).toInt := congrArg Int32.toInt (xFr hI 75 1 rfl); have e1 : (I 73 1).toInt = (F 73 1).toInt := congrArg Int32.toInt (xFr hI 73 1 rfl); have e2 : (I 75 0).toInt = (F 75 0).toInt := congrArg Int32.toInt (xFr hI 75 0 rfl); have e3 : (I 73 0).toInt = (F 73 0).toInt := congrArg Int32.toInt (xFr hI 73 0 rfl); have _ := t_c_46; omega)), rfl, hI⟩)))
            · cases hu_44
              refine lv_if_ne (tgt := 52) hx hb dX10_paste_46 (by decide) (fun c_0 => absurd (zD_eq zk_0 zk_z) c_0) (fun _ => ?_)
              refine lv_bipush (v := (-6)) hx hb dX10_paste_49 (by decide +kernel) ?_
              exact z_iret (v := (-6)) hx hb hr hlocks hP hD hS dX10_paste_51 (Or.inr (Or.inl ⟨(by obtain ⟨_, _⟩ := zk_1; obtain ⟨_, _⟩ := zk_0; omega), (show (F 75 1).toInt = -1 ∨ (F 73 1).toInt = -1 from (by have e0 : (I 75 1).toInt = (F 75 1).toInt := congrArg Int32.toInt (xFr hI 75 1 rfl); have e1 : (I 73 1).toInt = (F 73 1).toInt := congrArg Int32.toInt (xFr hI 73 1 rfl); have e2 : (I 75 0).toInt = (F 75 0).toInt := congrArg Int32.toInt (xFr hI 75 0 rfl); have e3 : (I 73 0).toInt = (F 73 0).toInt := congrArg Int32.toInt (xFr hI 73 0 rfl); have _ := nn_42; have _ := nn_44; omega)), rfl, hI⟩))
          · cases hu_42
            refine lv_if_eq (tgt := 49) hx hb dX10_paste_38 (by decide) (fun _ => ?_) (fun c_0 => absurd (zD_eq zk_0 zk_z) c_0)
            refine lv_bipush (v := (-6)) hx hb dX10_paste_49 (by decide +kernel) ?_
            exact z_iret (v := (-6)) hx hb hr hlocks hP hD hS dX10_paste_51 (Or.inr (Or.inl ⟨(by obtain ⟨_, _⟩ := zk_1; obtain ⟨_, _⟩ := zk_0; omega), (show (F 75 1).toInt = -1 ∨ (F 73 1).toInt = -1 from (by have e0 : (I 75 1).toInt = (F 75 1).toInt := congrArg Int32.toInt (xFr hI 75 1 rfl); have e1 : (I 73 1).toInt = (F 73 1).toInt := congrArg Int32.toInt (xFr hI 73 1 rfl); have e2 : (I 75 0).toInt = (F 75 0).toInt := congrArg Int32.toInt (xFr hI 75 0 rfl); have e3 : (I 73 0).toInt = (F 73 0).toInt := congrArg Int32.toInt (xFr hI 73 0 rfl); have _ := nn_42; omega)), rfl, hI⟩))
        · refine va_aldq hx hb hK hP 72 52 (zw_at (by decide) rfl) rfl (vp_in_nI (by decide) (by decide)) dX10_paste_30 ?_
          refine W.eq (g2 := F0 m 31 ls (.ref (q 75) :: [])) rfl ?_
          refine lv_astore (lv' := [(7, .ref (q 75)), (6, .ref (q 75)), (0, .ref (q 0)), (1, .int (nI 1)), (2, .int (pa1)), (3, .int (nI 1)), (4, .int (pa3)), (5, .int (pa4))]) hx hb dX10_paste_31 hl (by decide) rfl (fun ls hl => ?_)
          refine lv_aload hx hb dX10_paste_33 (lv_at hl 1 rfl) ?_
          refine z_callVi (k := 75) (As := []) (rest := []) hx hb hml hown ht (xk_X6_isThere_1 l D q cA F _ _ _ hI ) hw_5_63 hmX6_isThere ⟨rfl, rfl⟩ (na := 0) rfl (by decide +kernel) (by decide) (by decide) rfl rfl hK hP hD hS hA hl.1 rfl (Nat.le_of_ble_eq_true rfl) ⟨Nat.zero_le _, Nat.zero_le _⟩ dX10_paste_35 (fun r_51 I_51 R_51 J_51 H locs hp_51 hP hD hS _ _ => ?_)
          rcases hp_51 with ⟨rfl, hu_51, nn_51⟩ | ⟨rfl, hu_51, nn_51⟩
          · cases hu_51
            have f_52 : zR 0 60 (I 75 1) := x_there (xI hI 75 1) nn_51
            refine lv_if_eq (tgt := 49) hx hb dX10_paste_38 (by decide) (fun c_0 => absurd c_0 (zD_ne zk_1 zk_z (by decide))) (fun _ => ?_)
            refine lv_aload hx hb dX10_paste_41 (lv_at hl 0 rfl) ?_
            refine z_callVi (k := 75) (As := []) (rest := []) hx hb hml hown ht (xk_X6_isThere_1 l D q cA F _ _ _ hI ) hw_5_63 hmX6_isThere ⟨rfl, rfl⟩ (na := 0) rfl (by decide +kernel) (by decide) (by decide) rfl rfl hK hP hD hS hA hl.1 rfl (Nat.le_of_ble_eq_true rfl) ⟨Nat.zero_le _, Nat.zero_le _⟩ dX10_paste_43 (fun r_53 I_53 R_53 J_53 H locs hp_53 hP hD hS _ _ => ?_)
            rcases hp_53 with ⟨rfl, hu_53, nn_53⟩ | ⟨rfl, hu_53, nn_53⟩
            · cases hu_53
              have f_54 : zR 0 60 (I 75 1) := x_there (xI hI 75 1) nn_53
              refine lv_if_ne (tgt := 52) hx hb dX10_paste_46 (by decide) (fun _ => ?_) (fun c_0 => absurd c_0 (zD_ne zk_1 zk_z (by decide)))
              refine lv_aload hx hb dX10_paste_52 (lv_at hl 1 rfl) ?_
              refine z_get hx hb ht hown hK hP ziX6 rfl 75 (by decide) 0 (by decide) hw_2_78 rfl (v := .int (I 75 0)) rfl dX10_paste_54 ?_
              refine lv_aload hx hb dX10_paste_57 (lv_at hl 0 rfl) ?_
              refine z_get hx hb ht hown hK hP ziX6 rfl 75 (by decide) 0 (by decide) hw_2_78 rfl (v := .int (I 75 0)) rfl dX10_paste_59 ?_
              refine lv_icmp_eq (tgt := 68) hx hb dX10_paste_62 (by decide) (fun c_55 => ?_) (fun c_55 => ?_)
              · have t_c_55 := z_eqT c_55
                refine lv_aload hx hb dX10_paste_68 (lv_at hl 1 rfl) ?_
                refine lv_iload_n hx hb dX10_paste_70 rfl (lv_at hl 4 rfl) ?_
                refine lv_iload hx hb dX10_paste_71 (lv_at hl 7 rfl) ?_
                refine z_callVi (k := 75) (As := [.int (pa1), .int (pa4)]) (rest := []) hx hb hml hown ht (xk_X6_spans_1 l D q cA F _ _ _ hI (pa1) (pa4)) hw_5_177 hmX6_spans ⟨rfl, rfl⟩ (na := 2) rfl (by decide +kernel) (by decide) (by decide) rfl rfl hK hP hD hS hA hl.1 rfl (Nat.le_of_ble_eq_true rfl) ⟨Nat.zero_le _, Nat.zero_le _⟩ dX10_paste_73 (fun r_56 I_56 R_56 J_56 H locs hp_56 hP hD hS _ _ => ?_)
                rcases hp_56 with ⟨rfl, hu_56, nn_56⟩ | ⟨rfl, hu_56, nn_56⟩
                · cases hu_56
                  refine lv_if_eq (tgt := 91) hx hb dX10_paste_76 (by decide) (fun c_0 => absurd c_0 (zD_ne zk_1 zk_z (by decide))) (fun _ => ?_)
                  refine lv_aload hx hb dX10_paste_79 (lv_at hl 0 rfl) ?_
                  refine lv_iload hx hb dX10_paste_81 (lv_at hl 6 rfl) ?_
                  refine lv_iload hx hb dX10_paste_83 (lv_at hl 7 rfl) ?_
                  refine z_callVi (k := 75) (As := [.int (pa3), .int (pa4)]) (rest := []) hx hb hml hown ht (xk_X6_spans_1 l D q cA F _ _ _ hI (pa3) (pa4)) hw_5_177 hmX6_spans ⟨rfl, rfl⟩ (na := 2) rfl (by decide +kernel) (by decide) (by decide) rfl rfl hK hP hD hS hA hl.1 rfl (Nat.le_of_ble_eq_true rfl) ⟨Nat.zero_le _, Nat.zero_le _⟩ dX10_paste_85 (fun r_57 I_57 R_57 J_57 H locs hp_57 hP hD hS _ _ => ?_)
                  rcases hp_57 with ⟨rfl, hu_57, nn_57⟩ | ⟨rfl, hu_57, nn_57⟩
                  · cases hu_57
                    refine lv_if_ne (tgt := 94) hx hb dX10_paste_88 (by decide) (fun _ => ?_) (fun c_0 => absurd c_0 (zD_ne zk_1 zk_z (by decide)))
                    refine lv_aload hx hb dX10_paste_94 (lv_at hl 1 rfl) ?_
                    refine z_get hx hb ht hown hK hP ziX6 rfl 75 (by decide) 2 (by decide) hw_2_84 rfl (v := .ref (q 76)) rfl dX10_paste_96 ?_
                    refine lv_iload_n hx hb dX10_paste_99 rfl (lv_at hl 4 rfl) ?_
                    refine lv_aload hx hb dX10_paste_100 (lv_at hl 0 rfl) ?_
                    refine z_get hx hb ht hown hK hP ziX6 rfl 75 (by decide) 2 (by decide) hw_2_84 rfl (v := .ref (q 76)) rfl dX10_paste_102 ?_
                    refine lv_iload hx hb dX10_paste_105 (lv_at hl 6 rfl) ?_
                    refine lv_iload hx hb dX10_paste_107 (lv_at hl 7 rfl) ?_
                    refine z_copyl hx hb (hml.trans hl.1.symm) ht hown hw_5_181 ⟨hw_3_44, hw_3_43, hw_1_18⟩ hK hP hD hS 76 76 (by decide) (by decide) 54 54 rfl (fun _ => rfl) rfl rfl (x_nn nn_56.1) (x_nn nn_57.1) (x_nn nn_56.2.1) (x_cp nn_56 (xI hI 75 1).2) (x_cp nn_57 (xI hI 75 1).2) (by decide) (by decide +kernel) dX10_paste_109 (fun g_58 H locs eg_58 hP hD hS => ?_)
                    have hI_59 := xInv_J (J2 := (zr J 76 g_58)) hI
                    refine lv_iconst (v := nI 0) hx hb dX10_paste_112 (by decide +kernel) ?_
                    exact z_iret (v := nI 0) hx hb hr hlocks hP hD hS dX10_paste_113 (Or.inr (Or.inr (Or.inr (Or.inr ⟨(by obtain ⟨_, _⟩ := zk_1; obtain ⟨_, _⟩ := zk_1; omega), (show (F 75 1).toInt ≠ -1 ∧ (F 75 1).toInt ≠ -1 from (by have e0 : (I 75 1).toInt = (F 75 1).toInt := congrArg Int32.toInt (xFr hI 75 1 rfl); have e1 : (I 75 1).toInt = (F 75 1).toInt := congrArg Int32.toInt (xFr hI 75 1 rfl); have e2 : (I 75 0).toInt = (F 75 0).toInt := congrArg Int32.toInt (xFr hI 75 0 rfl); have e3 : (I 75 0).toInt = (F 75 0).toInt := congrArg Int32.toInt (xFr hI 75 0 rfl); have _ := nn_53; have _ := nn_53; omega)), (show (F 75 0).toInt = (F 75 0).toInt from (by have e0 : (I 75 1).toInt = (F 75 1).toInt := congrArg Int32.toInt (xFr hI 75 1 rfl); have e1 : (I 75 1).toInt = (F 75 1).toInt := congrArg Int32.toInt (xFr hI 75 1 rfl); have e2 : (I 75 0).toInt = (F 75 0).toInt := congrArg Int32.toInt (xFr hI 75 0 rfl); have e3 : (I 75 0).toInt = (F 75 0).toInt := congrArg Int32.toInt (xFr hI 75 0 rfl); have _ := t_c_55; omega)), (show 0 ≤ pa1.toInt ∧ 0 ≤ pa3.toInt ∧ 0 ≤ pa4.toInt ∧ pa1.toInt + pa4.toInt ≤ (F 75 1).toInt ∧ pa3.toInt + pa4.toInt ≤ (F 75 1).toInt from (by have e0 : (I 75 1).toInt = (F 75 1).toInt := congrArg Int32.toInt (xFr hI 75 1 rfl); have e1 : (I 75 1).toInt = (F 75 1).toInt := congrArg Int32.toInt (xFr hI 75 1 rfl); have e2 : (I 75 0).toInt = (F 75 0).toInt := congrArg Int32.toInt (xFr hI 75 0 rfl); have e3 : (I 75 0).toInt = (F 75 0).toInt := congrArg Int32.toInt (xFr hI 75 0 rfl); have _ := nn_56; have _ := nn_57; omega)), rfl, hI_59⟩))))
                  · cases hu_57
                    refine lv_if_ne (tgt := 94) hx hb dX10_paste_88 (by decide) (fun c_0 => absurd (zD_eq zk_0 zk_z) c_0) (fun _ => ?_)
                    refine lv_bipush (v := (-7)) hx hb dX10_paste_91 (by decide +kernel) ?_
                    exact z_iret (v := (-7)) hx hb hr hlocks hP hD hS dX10_paste_93 (Or.inr (Or.inr (Or.inr (Or.inl ⟨(by obtain ⟨_, _⟩ := zk_1; obtain ⟨_, _⟩ := zk_1; omega), (show (F 75 1).toInt ≠ -1 ∧ (F 75 1).toInt ≠ -1 from (by have e0 : (I 75 1).toInt = (F 75 1).toInt := congrArg Int32.toInt (xFr hI 75 1 rfl); have e1 : (I 75 1).toInt = (F 75 1).toInt := congrArg Int32.toInt (xFr hI 75 1 rfl); have e2 : (I 75 0).toInt = (F 75 0).toInt := congrArg Int32.toInt (xFr hI 75 0 rfl); have e3 : (I 75 0).toInt = (F 75 0).toInt := congrArg Int32.toInt (xFr hI 75 0 rfl); have _ := nn_53; have _ := nn_53; omega)), (show (F 75 0).toInt = (F 75 0).toInt from (by have e0 : (I 75 1).toInt = (F 75 1).toInt := congrArg Int32.toInt (xFr hI 75 1 rfl); have e1 : (I 75 1).toInt = (F 75 1).toInt := congrArg Int32.toInt (xFr hI 75 1 rfl); have e2 : (I 75 0).toInt = (F 75 0).toInt := congrArg Int32.toInt (xFr hI 75 0 rfl); have e3 : (I 75 0).toInt = (F 75 0).toInt := congrArg Int32.toInt (xFr hI 75 0 rfl); have _ := t_c_55; omega)), (show ¬ (0 ≤ pa1.toInt ∧ 0 ≤ pa3.toInt ∧ 0 ≤ pa4.toInt ∧ pa1.toInt + pa4.toInt ≤ (F 75 1).toInt ∧ pa3.toInt + pa4.toInt ≤ (F 75 1).toInt) from (by have e0 : (I 75 1).toInt = (F 75 1).toInt := congrArg Int32.toInt (xFr hI 75 1 rfl); have e1 : (I 75 1).toInt = (F 75 1).toInt := congrArg Int32.toInt (xFr hI 75 1 rfl); have e2 : (I 75 0).toInt = (F 75 0).toInt := congrArg Int32.toInt (xFr hI 75 0 rfl); have e3 : (I 75 0).toInt = (F 75 0).toInt := congrArg Int32.toInt (xFr hI 75 0 rfl); have _ := nn_56; have _ := nn_57; omega)), rfl, hI⟩))))
                · cases hu_56
                  refine lv_if_eq (tgt := 91) hx hb dX10_paste_76 (by decide) (fun _ => ?_) (fun c_0 => absurd (zD_eq zk_0 zk_z) c_0)
                  refine lv_bipush (v := (-7)) hx hb dX10_paste_91 (by decide +kernel) ?_
                  exact z_iret (v := (-7)) hx hb hr hlocks hP hD hS dX10_paste_93 (Or.inr (Or.inr (Or.inr (Or.inl ⟨(by obtain ⟨_, _⟩ := zk_1; obtain ⟨_, _⟩ := zk_1; omega), (show (F 75 1).toInt ≠ -1 ∧ (F 75 1).toInt ≠ -1 from (by have e0 : (I 75 1).toInt = (F 75 1).toInt := congrArg Int32.toInt (xFr hI 75 1 rfl); have e1 : (I 75 1).toInt = (F 75 1).toInt := congrArg Int32.toInt (xFr hI 75 1 rfl); have e2 : (I 75 0).toInt = (F 75 0).toInt := congrArg Int32.toInt (xFr hI 75 0 rfl); have e3 : (I 75 0).toInt = (F 75 0).toInt := congrArg Int32.toInt (xFr hI 75 0 rfl); have _ := nn_53; have _ := nn_53; omega)), (show (F 75 0).toInt = (F 75 0).toInt from (by have e0 : (I 75 1).toInt = (F 75 1).toInt := congrArg Int32.toInt (xFr hI 75 1 rfl); have e1 : (I 75 1).toInt = (F 75 1).toInt := congrArg Int32.toInt (xFr hI 75 1 rfl); have e2 : (I 75 0).toInt = (F 75 0).toInt := congrArg Int32.toInt (xFr hI 75 0 rfl); have e3 : (I 75 0).toInt = (F 75 0).toInt := congrArg Int32.toInt (xFr hI 75 0 rfl); have _ := t_c_55; omega)), (show ¬ (0 ≤ pa1.toInt ∧ 0 ≤ pa3.toInt ∧ 0 ≤ pa4.toInt ∧ pa1.toInt + pa4.toInt ≤ (F 75 1).toInt ∧ pa3.toInt + pa4.toInt ≤ (F 75 1).toInt) from (by have e0 : (I 75 1).toInt = (F 75 1).toInt := congrArg Int32.toInt (xFr hI 75 1 rfl); have e1 : (I 75 1).toInt = (F 75 1).toInt := congrArg Int32.toInt (xFr hI 75 1 rfl); have e2 : (I 75 0).toInt = (F 75 0).toInt := congrArg Int32.toInt (xFr hI 75 0 rfl); have e3 : (I 75 0).toInt = (F 75 0).toInt := congrArg Int32.toInt (xFr hI 75 0 rfl); have _ := nn_56; omega)), rfl, hI⟩))))
              · have t_c_55 := z_eqF c_55
                exact absurd rfl t_c_55
            · cases hu_53
              refine lv_if_ne (tgt := 52) hx hb dX10_paste_46 (by decide) (fun c_0 => absurd (zD_eq zk_0 zk_z) c_0) (fun _ => ?_)
              refine lv_bipush (v := (-6)) hx hb dX10_paste_49 (by decide +kernel) ?_
              exact z_iret (v := (-6)) hx hb hr hlocks hP hD hS dX10_paste_51 (Or.inr (Or.inl ⟨(by obtain ⟨_, _⟩ := zk_1; obtain ⟨_, _⟩ := zk_1; omega), (show (F 75 1).toInt = -1 ∨ (F 75 1).toInt = -1 from (by have e0 : (I 75 1).toInt = (F 75 1).toInt := congrArg Int32.toInt (xFr hI 75 1 rfl); have e1 : (I 75 1).toInt = (F 75 1).toInt := congrArg Int32.toInt (xFr hI 75 1 rfl); have e2 : (I 75 0).toInt = (F 75 0).toInt := congrArg Int32.toInt (xFr hI 75 0 rfl); have e3 : (I 75 0).toInt = (F 75 0).toInt := congrArg Int32.toInt (xFr hI 75 0 rfl); have _ := nn_53; have _ := nn_53; omega)), rfl, hI⟩))
          · cases hu_51
            refine lv_if_eq (tgt := 49) hx hb dX10_paste_38 (by decide) (fun _ => ?_) (fun c_0 => absurd (zD_eq zk_0 zk_z) c_0)
            refine lv_bipush (v := (-6)) hx hb dX10_paste_49 (by decide +kernel) ?_
            exact z_iret (v := (-6)) hx hb hr hlocks hP hD hS dX10_paste_51 (Or.inr (Or.inl ⟨(by obtain ⟨_, _⟩ := zk_1; obtain ⟨_, _⟩ := zk_1; omega), (show (F 75 1).toInt = -1 ∨ (F 75 1).toInt = -1 from (by have e0 : (I 75 1).toInt = (F 75 1).toInt := congrArg Int32.toInt (xFr hI 75 1 rfl); have e1 : (I 75 1).toInt = (F 75 1).toInt := congrArg Int32.toInt (xFr hI 75 1 rfl); have e2 : (I 75 0).toInt = (F 75 0).toInt := congrArg Int32.toInt (xFr hI 75 0 rfl); have e3 : (I 75 0).toInt = (F 75 0).toInt := congrArg Int32.toInt (xFr hI 75 0 rfl); have _ := nn_51; have _ := nn_51; omega)), rfl, hI⟩))
        · refine va_aldq hx hb hK hP 72 52 (zw_at (by decide) rfl) rfl (vp_in_nI (by decide) (by decide)) dX10_paste_30 ?_
          refine W.eq (g2 := F0 m 31 ls (.ref (q 77) :: [])) rfl ?_
          refine lv_astore (lv' := [(7, .ref (q 77)), (6, .ref (q 75)), (0, .ref (q 0)), (1, .int (nI 1)), (2, .int (pa1)), (3, .int (nI 2)), (4, .int (pa3)), (5, .int (pa4))]) hx hb dX10_paste_31 hl (by decide) rfl (fun ls hl => ?_)
          refine lv_aload hx hb dX10_paste_33 (lv_at hl 1 rfl) ?_
          refine z_callVi (k := 75) (As := []) (rest := []) hx hb hml hown ht (xk_X6_isThere_1 l D q cA F _ _ _ hI ) hw_5_63 hmX6_isThere ⟨rfl, rfl⟩ (na := 0) rfl (by decide +kernel) (by decide) (by decide) rfl rfl hK hP hD hS hA hl.1 rfl (Nat.le_of_ble_eq_true rfl) ⟨Nat.zero_le _, Nat.zero_le _⟩ dX10_paste_35 (fun r_60 I_60 R_60 J_60 H locs hp_60 hP hD hS _ _ => ?_)
          rcases hp_60 with ⟨rfl, hu_60, nn_60⟩ | ⟨rfl, hu_60, nn_60⟩
          · cases hu_60
            have f_61 : zR 0 60 (I 75 1) := x_there (xI hI 75 1) nn_60
            refine lv_if_eq (tgt := 49) hx hb dX10_paste_38 (by decide) (fun c_0 => absurd c_0 (zD_ne zk_1 zk_z (by decide))) (fun _ => ?_)
            refine lv_aload hx hb dX10_paste_41 (lv_at hl 0 rfl) ?_
            refine z_callVi (k := 77) (As := []) (rest := []) hx hb hml hown ht (xk_X6_isThere_2 l D q cA F _ _ _ hI ) hw_5_63 hmX6_isThere ⟨rfl, rfl⟩ (na := 0) rfl (by decide +kernel) (by decide) (by decide) rfl rfl hK hP hD hS hA hl.1 rfl (Nat.le_of_ble_eq_true rfl) ⟨Nat.zero_le _, Nat.zero_le _⟩ dX10_paste_43 (fun r_62 I_62 R_62 J_62 H locs hp_62 hP hD hS _ _ => ?_)
            rcases hp_62 with ⟨rfl, hu_62, nn_62⟩ | ⟨rfl, hu_62, nn_62⟩
            · cases hu_62
              have f_63 : zR 0 60 (I 77 1) := x_there (xI hI 77 1) nn_62
              refine lv_if_ne (tgt := 52) hx hb dX10_paste_46 (by decide) (fun _ => ?_) (fun c_0 => absurd c_0 (zD_ne zk_1 zk_z (by decide)))
              refine lv_aload hx hb dX10_paste_52 (lv_at hl 1 rfl) ?_
              refine z_get hx hb ht hown hK hP ziX6 rfl 75 (by decide) 0 (by decide) hw_2_78 rfl (v := .int (I 75 0)) rfl dX10_paste_54 ?_
              refine lv_aload hx hb dX10_paste_57 (lv_at hl 0 rfl) ?_
              refine z_get hx hb ht hown hK hP ziX6 rfl 77 (by decide) 0 (by decide) hw_2_78 rfl (v := .int (I 77 0)) rfl dX10_paste_59 ?_
              refine lv_icmp_eq (tgt := 68) hx hb dX10_paste_62 (by decide) (fun c_64 => ?_) (fun c_64 => ?_)
              · have t_c_64 := z_eqT c_64
                refine lv_aload hx hb dX10_paste_68 (lv_at hl 1 rfl) ?_
                refine lv_iload_n hx hb dX10_paste_70 rfl (lv_at hl 4 rfl) ?_
                refine lv_iload hx hb dX10_paste_71 (lv_at hl 7 rfl) ?_
                refine z_callVi (k := 75) (As := [.int (pa1), .int (pa4)]) (rest := []) hx hb hml hown ht (xk_X6_spans_1 l D q cA F _ _ _ hI (pa1) (pa4)) hw_5_177 hmX6_spans ⟨rfl, rfl⟩ (na := 2) rfl (by decide +kernel) (by decide) (by decide) rfl rfl hK hP hD hS hA hl.1 rfl (Nat.le_of_ble_eq_true rfl) ⟨Nat.zero_le _, Nat.zero_le _⟩ dX10_paste_73 (fun r_65 I_65 R_65 J_65 H locs hp_65 hP hD hS _ _ => ?_)
                rcases hp_65 with ⟨rfl, hu_65, nn_65⟩ | ⟨rfl, hu_65, nn_65⟩
                · cases hu_65
                  refine lv_if_eq (tgt := 91) hx hb dX10_paste_76 (by decide) (fun c_0 => absurd c_0 (zD_ne zk_1 zk_z (by decide))) (fun _ => ?_)
                  refine lv_aload hx hb dX10_paste_79 (lv_at hl 0 rfl) ?_
                  refine lv_iload hx hb dX10_paste_81 (lv_at hl 6 rfl) ?_
                  refine lv_iload hx hb dX10_paste_83 (lv_at hl 7 rfl) ?_
                  refine z_callVi (k := 77) (As := [.int (pa3), .int (pa4)]) (rest := []) hx hb hml hown ht (xk_X6_spans_2 l D q cA F _ _ _ hI (pa3) (pa4)) hw_5_177 hmX6_spans ⟨rfl, rfl⟩ (na := 2) rfl (by decide +kernel) (by decide) (by decide) rfl rfl hK hP hD hS hA hl.1 rfl (Nat.le_of_ble_eq_true rfl) ⟨Nat.zero_le _, Nat.zero_le _⟩ dX10_paste_85 (fun r_66 I_66 R_66 J_66 H locs hp_66 hP hD hS _ _ => ?_)
                  rcases hp_66 with ⟨rfl, hu_66, nn_66⟩ | ⟨rfl, hu_66, nn_66⟩
                  · cases hu_66
                    refine lv_if_ne (tgt := 94) hx hb dX10_paste_88 (by decide) (fun _ => ?_) (fun c_0 => absurd c_0 (zD_ne zk_1 zk_z (by decide)))
                    refine lv_aload hx hb dX10_paste_94 (lv_at hl 1 rfl) ?_
                    refine z_get hx hb ht hown hK hP ziX6 rfl 75 (by decide) 2 (by decide) hw_2_84 rfl (v := .ref (q 76)) rfl dX10_paste_96 ?_
                    refine lv_iload_n hx hb dX10_paste_99 rfl (lv_at hl 4 rfl) ?_
                    refine lv_aload hx hb dX10_paste_100 (lv_at hl 0 rfl) ?_
                    refine z_get hx hb ht hown hK hP ziX6 rfl 77 (by decide) 2 (by decide) hw_2_84 rfl (v := .ref (q 78)) rfl dX10_paste_102 ?_
                    refine lv_iload hx hb dX10_paste_105 (lv_at hl 6 rfl) ?_
                    refine lv_iload hx hb dX10_paste_107 (lv_at hl 7 rfl) ?_
                    refine z_copyl hx hb (hml.trans hl.1.symm) ht hown hw_5_181 ⟨hw_3_44, hw_3_43, hw_1_18⟩ hK hP hD hS 76 78 (by decide) (by decide) 54 55 rfl (fun _ => rfl) rfl rfl (x_nn nn_65.1) (x_nn nn_66.1) (x_nn nn_65.2.1) (x_cp nn_65 (xI hI 75 1).2) (x_cp nn_66 (xI hI 77 1).2) (by decide) (by decide +kernel) dX10_paste_109 (fun g_67 H locs eg_67 hP hD hS => ?_)
                    have hI_68 := xInv_J (J2 := (zr J 78 g_67)) hI
                    refine lv_iconst (v := nI 0) hx hb dX10_paste_112 (by decide +kernel) ?_
                    exact z_iret (v := nI 0) hx hb hr hlocks hP hD hS dX10_paste_113 (Or.inr (Or.inr (Or.inr (Or.inr ⟨(by obtain ⟨_, _⟩ := zk_1; obtain ⟨_, _⟩ := zk_2; omega), (show (F 75 1).toInt ≠ -1 ∧ (F 77 1).toInt ≠ -1 from (by have e0 : (I 75 1).toInt = (F 75 1).toInt := congrArg Int32.toInt (xFr hI 75 1 rfl); have e1 : (I 77 1).toInt = (F 77 1).toInt := congrArg Int32.toInt (xFr hI 77 1 rfl); have e2 : (I 75 0).toInt = (F 75 0).toInt := congrArg Int32.toInt (xFr hI 75 0 rfl); have e3 : (I 77 0).toInt = (F 77 0).toInt := congrArg Int32.toInt (xFr hI 77 0 rfl); have _ := nn_60; have _ := nn_62; omega)), (show (F 75 0).toInt = (F 77 0).toInt from (by have e0 : (I 75 1).toInt = (F 75 1).toInt := congrArg Int32.toInt (xFr hI 75 1 rfl); have e1 : (I 77 1).toInt = (F 77 1).toInt := congrArg Int32.toInt (xFr hI 77 1 rfl); have e2 : (I 75 0).toInt = (F 75 0).toInt := congrArg Int32.toInt (xFr hI 75 0 rfl); have e3 : (I 77 0).toInt = (F 77 0).toInt := congrArg Int32.toInt (xFr hI 77 0 rfl); have _ := t_c_64; omega)), (show 0 ≤ pa1.toInt ∧ 0 ≤ pa3.toInt ∧ 0 ≤ pa4.toInt ∧ pa1.toInt + pa4.toInt ≤ (F 75 1).toInt ∧ pa3.toInt + pa4.toInt ≤ (F 77 1).toInt from (by have e0 : (I 75 1).toInt = (F 75 1).toInt := congrArg Int32.toInt (xFr hI 75 1 rfl); have e1 : (I 77 1).toInt = (F 77 1).toInt := congrArg Int32.toInt (xFr hI 77 1 rfl); have e2 : (I 75 0).toInt = (F 75 0).toInt := congrArg Int32.toInt (xFr hI 75 0 rfl); have e3 : (I 77 0).toInt = (F 77 0).toInt := congrArg Int32.toInt (xFr hI 77 0 rfl); have _ := nn_65; have _ := nn_66; omega)), rfl, hI_68⟩))))
                  · cases hu_66
                    refine lv_if_ne (tgt := 94) hx hb dX10_paste_88 (by decide) (fun c_0 => absurd (zD_eq zk_0 zk_z) c_0) (fun _ => ?_)
                    refine lv_bipush (v := (-7)) hx hb dX10_paste_91 (by decide +kernel) ?_
                    exact z_iret (v := (-7)) hx hb hr hlocks hP hD hS dX10_paste_93 (Or.inr (Or.inr (Or.inr (Or.inl ⟨(by obtain ⟨_, _⟩ := zk_1; obtain ⟨_, _⟩ := zk_2; omega), (show (F 75 1).toInt ≠ -1 ∧ (F 77 1).toInt ≠ -1 from (by have e0 : (I 75 1).toInt = (F 75 1).toInt := congrArg Int32.toInt (xFr hI 75 1 rfl); have e1 : (I 77 1).toInt = (F 77 1).toInt := congrArg Int32.toInt (xFr hI 77 1 rfl); have e2 : (I 75 0).toInt = (F 75 0).toInt := congrArg Int32.toInt (xFr hI 75 0 rfl); have e3 : (I 77 0).toInt = (F 77 0).toInt := congrArg Int32.toInt (xFr hI 77 0 rfl); have _ := nn_60; have _ := nn_62; omega)), (show (F 75 0).toInt = (F 77 0).toInt from (by have e0 : (I 75 1).toInt = (F 75 1).toInt := congrArg Int32.toInt (xFr hI 75 1 rfl); have e1 : (I 77 1).toInt = (F 77 1).toInt := congrArg Int32.toInt (xFr hI 77 1 rfl); have e2 : (I 75 0).toInt = (F 75 0).toInt := congrArg Int32.toInt (xFr hI 75 0 rfl); have e3 : (I 77 0).toInt = (F 77 0).toInt := congrArg Int32.toInt (xFr hI 77 0 rfl); have _ := t_c_64; omega)), (show ¬ (0 ≤ pa1.toInt ∧ 0 ≤ pa3.toInt ∧ 0 ≤ pa4.toInt ∧ pa1.toInt + pa4.toInt ≤ (F 75 1).toInt ∧ pa3.toInt + pa4.toInt ≤ (F 77 1).toInt) from (by have e0 : (I 75 1).toInt = (F 75 1).toInt := congrArg Int32.toInt (xFr hI 75 1 rfl); have e1 : (I 77 1).toInt = (F 77 1).toInt := congrArg Int32.toInt (xFr hI 77 1 rfl); have e2 : (I 75 0).toInt = (F 75 0).toInt := congrArg Int32.toInt (xFr hI 75 0 rfl); have e3 : (I 77 0).toInt = (F 77 0).toInt := congrArg Int32.toInt (xFr hI 77 0 rfl); have _ := nn_65; have _ := nn_66; omega)), rfl, hI⟩))))
                · cases hu_65
                  refine lv_if_eq (tgt := 91) hx hb dX10_paste_76 (by decide) (fun _ => ?_) (fun c_0 => absurd (zD_eq zk_0 zk_z) c_0)
                  refine lv_bipush (v := (-7)) hx hb dX10_paste_91 (by decide +kernel) ?_
                  exact z_iret (v := (-7)) hx hb hr hlocks hP hD hS dX10_paste_93 (Or.inr (Or.inr (Or.inr (Or.inl ⟨(by obtain ⟨_, _⟩ := zk_1; obtain ⟨_, _⟩ := zk_2; omega), (show (F 75 1).toInt ≠ -1 ∧ (F 77 1).toInt ≠ -1 from (by have e0 : (I 75 1).toInt = (F 75 1).toInt := congrArg Int32.toInt (xFr hI 75 1 rfl); have e1 : (I 77 1).toInt = (F 77 1).toInt := congrArg Int32.toInt (xFr hI 77 1 rfl); have e2 : (I 75 0).toInt = (F 75 0).toInt := congrArg Int32.toInt (xFr hI 75 0 rfl); have e3 : (I 77 0).toInt = (F 77 0).toInt := congrArg Int32.toInt (xFr hI 77 0 rfl); have _ := nn_60; have _ := nn_62; omega)), (show (F 75 0).toInt = (F 77 0).toInt from (by have e0 : (I 75 1).toInt = (F 75 1).toInt := congrArg Int32.toInt (xFr hI 75 1 rfl); have e1 : (I 77 1).toInt = (F 77 1).toInt := congrArg Int32.toInt (xFr hI 77 1 rfl); have e2 : (I 75 0).toInt = (F 75 0).toInt := congrArg Int32.toInt (xFr hI 75 0 rfl); have e3 : (I 77 0).toInt = (F 77 0).toInt := congrArg Int32.toInt (xFr hI 77 0 rfl); have _ := t_c_64; omega)), (show ¬ (0 ≤ pa1.toInt ∧ 0 ≤ pa3.toInt ∧ 0 ≤ pa4.toInt ∧ pa1.toInt + pa4.toInt ≤ (F 75 1).toInt ∧ pa3.toInt + pa4.toInt ≤ (F 77 1).toInt) from (by have e0 : (I 75 1).toInt = (F 75 1).toInt := congrArg Int32.toInt (xFr hI 75 1 rfl); have e1 : (I 77 1).toInt = (F 77 1).toInt := congrArg Int32.toInt (xFr hI 77 1 rfl); have e2 : (I 75 0).toInt = (F 75 0).toInt := congrArg Int32.toInt (xFr hI 75 0 rfl); have e3 : (I 77 0).toInt = (F 77 0).toInt := congrArg Int32.toInt (xFr hI 77 0 rfl); have _ := nn_65; omega)), rfl, hI⟩))))
              · have t_c_64 := z_eqF c_64
                refine lv_bipush (v := (-8)) hx hb dX10_paste_65 (by decide +kernel) ?_
                exact z_iret (v := (-8)) hx hb hr hlocks hP hD hS dX10_paste_67 (Or.inr (Or.inr (Or.inl ⟨(by obtain ⟨_, _⟩ := zk_1; obtain ⟨_, _⟩ := zk_2; omega), (show (F 75 1).toInt ≠ -1 ∧ (F 77 1).toInt ≠ -1 from (by have e0 : (I 75 1).toInt = (F 75 1).toInt := congrArg Int32.toInt (xFr hI 75 1 rfl); have e1 : (I 77 1).toInt = (F 77 1).toInt := congrArg Int32.toInt (xFr hI 77 1 rfl); have e2 : (I 75 0).toInt = (F 75 0).toInt := congrArg Int32.toInt (xFr hI 75 0 rfl); have e3 : (I 77 0).toInt = (F 77 0).toInt := congrArg Int32.toInt (xFr hI 77 0 rfl); have _ := nn_60; have _ := nn_62; omega)), (show (F 75 0).toInt ≠ (F 77 0).toInt from (by have e0 : (I 75 1).toInt = (F 75 1).toInt := congrArg Int32.toInt (xFr hI 75 1 rfl); have e1 : (I 77 1).toInt = (F 77 1).toInt := congrArg Int32.toInt (xFr hI 77 1 rfl); have e2 : (I 75 0).toInt = (F 75 0).toInt := congrArg Int32.toInt (xFr hI 75 0 rfl); have e3 : (I 77 0).toInt = (F 77 0).toInt := congrArg Int32.toInt (xFr hI 77 0 rfl); have _ := t_c_64; omega)), rfl, hI⟩)))
            · cases hu_62
              refine lv_if_ne (tgt := 52) hx hb dX10_paste_46 (by decide) (fun c_0 => absurd (zD_eq zk_0 zk_z) c_0) (fun _ => ?_)
              refine lv_bipush (v := (-6)) hx hb dX10_paste_49 (by decide +kernel) ?_
              exact z_iret (v := (-6)) hx hb hr hlocks hP hD hS dX10_paste_51 (Or.inr (Or.inl ⟨(by obtain ⟨_, _⟩ := zk_1; obtain ⟨_, _⟩ := zk_2; omega), (show (F 75 1).toInt = -1 ∨ (F 77 1).toInt = -1 from (by have e0 : (I 75 1).toInt = (F 75 1).toInt := congrArg Int32.toInt (xFr hI 75 1 rfl); have e1 : (I 77 1).toInt = (F 77 1).toInt := congrArg Int32.toInt (xFr hI 77 1 rfl); have e2 : (I 75 0).toInt = (F 75 0).toInt := congrArg Int32.toInt (xFr hI 75 0 rfl); have e3 : (I 77 0).toInt = (F 77 0).toInt := congrArg Int32.toInt (xFr hI 77 0 rfl); have _ := nn_60; have _ := nn_62; omega)), rfl, hI⟩))
          · cases hu_60
            refine lv_if_eq (tgt := 49) hx hb dX10_paste_38 (by decide) (fun _ => ?_) (fun c_0 => absurd (zD_eq zk_0 zk_z) c_0)
            refine lv_bipush (v := (-6)) hx hb dX10_paste_49 (by decide +kernel) ?_
            exact z_iret (v := (-6)) hx hb hr hlocks hP hD hS dX10_paste_51 (Or.inr (Or.inl ⟨(by obtain ⟨_, _⟩ := zk_1; obtain ⟨_, _⟩ := zk_2; omega), (show (F 75 1).toInt = -1 ∨ (F 77 1).toInt = -1 from (by have e0 : (I 75 1).toInt = (F 75 1).toInt := congrArg Int32.toInt (xFr hI 75 1 rfl); have e1 : (I 77 1).toInt = (F 77 1).toInt := congrArg Int32.toInt (xFr hI 77 1 rfl); have e2 : (I 75 0).toInt = (F 75 0).toInt := congrArg Int32.toInt (xFr hI 75 0 rfl); have e3 : (I 77 0).toInt = (F 77 0).toInt := congrArg Int32.toInt (xFr hI 77 0 rfl); have _ := nn_60; omega)), rfl, hI⟩))
        · refine va_aldq hx hb hK hP 72 52 (zw_at (by decide) rfl) rfl (vp_in_nI (by decide) (by decide)) dX10_paste_30 ?_
          refine W.eq (g2 := F0 m 31 ls (.ref (q 79) :: [])) rfl ?_
          refine lv_astore (lv' := [(7, .ref (q 79)), (6, .ref (q 75)), (0, .ref (q 0)), (1, .int (nI 1)), (2, .int (pa1)), (3, .int (nI 3)), (4, .int (pa3)), (5, .int (pa4))]) hx hb dX10_paste_31 hl (by decide) rfl (fun ls hl => ?_)
          refine lv_aload hx hb dX10_paste_33 (lv_at hl 1 rfl) ?_
          refine z_callVi (k := 75) (As := []) (rest := []) hx hb hml hown ht (xk_X6_isThere_1 l D q cA F _ _ _ hI ) hw_5_63 hmX6_isThere ⟨rfl, rfl⟩ (na := 0) rfl (by decide +kernel) (by decide) (by decide) rfl rfl hK hP hD hS hA hl.1 rfl (Nat.le_of_ble_eq_true rfl) ⟨Nat.zero_le _, Nat.zero_le _⟩ dX10_paste_35 (fun r_69 I_69 R_69 J_69 H locs hp_69 hP hD hS _ _ => ?_)
          rcases hp_69 with ⟨rfl, hu_69, nn_69⟩ | ⟨rfl, hu_69, nn_69⟩
          · cases hu_69
            have f_70 : zR 0 60 (I 75 1) := x_there (xI hI 75 1) nn_69
            refine lv_if_eq (tgt := 49) hx hb dX10_paste_38 (by decide) (fun c_0 => absurd c_0 (zD_ne zk_1 zk_z (by decide))) (fun _ => ?_)
            refine lv_aload hx hb dX10_paste_41 (lv_at hl 0 rfl) ?_
            refine z_callVi (k := 79) (As := []) (rest := []) hx hb hml hown ht (xk_X6_isThere_3 l D q cA F _ _ _ hI ) hw_5_63 hmX6_isThere ⟨rfl, rfl⟩ (na := 0) rfl (by decide +kernel) (by decide) (by decide) rfl rfl hK hP hD hS hA hl.1 rfl (Nat.le_of_ble_eq_true rfl) ⟨Nat.zero_le _, Nat.zero_le _⟩ dX10_paste_43 (fun r_71 I_71 R_71 J_71 H locs hp_71 hP hD hS _ _ => ?_)
            rcases hp_71 with ⟨rfl, hu_71, nn_71⟩ | ⟨rfl, hu_71, nn_71⟩
            · cases hu_71
              have f_72 : zR 0 60 (I 79 1) := x_there (xI hI 79 1) nn_71
              refine lv_if_ne (tgt := 52) hx hb dX10_paste_46 (by decide) (fun _ => ?_) (fun c_0 => absurd c_0 (zD_ne zk_1 zk_z (by decide)))
              refine lv_aload hx hb dX10_paste_52 (lv_at hl 1 rfl) ?_
              refine z_get hx hb ht hown hK hP ziX6 rfl 75 (by decide) 0 (by decide) hw_2_78 rfl (v := .int (I 75 0)) rfl dX10_paste_54 ?_
              refine lv_aload hx hb dX10_paste_57 (lv_at hl 0 rfl) ?_
              refine z_get hx hb ht hown hK hP ziX6 rfl 79 (by decide) 0 (by decide) hw_2_78 rfl (v := .int (I 79 0)) rfl dX10_paste_59 ?_
              refine lv_icmp_eq (tgt := 68) hx hb dX10_paste_62 (by decide) (fun c_73 => ?_) (fun c_73 => ?_)
              · have t_c_73 := z_eqT c_73
                refine lv_aload hx hb dX10_paste_68 (lv_at hl 1 rfl) ?_
                refine lv_iload_n hx hb dX10_paste_70 rfl (lv_at hl 4 rfl) ?_
                refine lv_iload hx hb dX10_paste_71 (lv_at hl 7 rfl) ?_
                refine z_callVi (k := 75) (As := [.int (pa1), .int (pa4)]) (rest := []) hx hb hml hown ht (xk_X6_spans_1 l D q cA F _ _ _ hI (pa1) (pa4)) hw_5_177 hmX6_spans ⟨rfl, rfl⟩ (na := 2) rfl (by decide +kernel) (by decide) (by decide) rfl rfl hK hP hD hS hA hl.1 rfl (Nat.le_of_ble_eq_true rfl) ⟨Nat.zero_le _, Nat.zero_le _⟩ dX10_paste_73 (fun r_74 I_74 R_74 J_74 H locs hp_74 hP hD hS _ _ => ?_)
                rcases hp_74 with ⟨rfl, hu_74, nn_74⟩ | ⟨rfl, hu_74, nn_74⟩
                · cases hu_74
                  refine lv_if_eq (tgt := 91) hx hb dX10_paste_76 (by decide) (fun c_0 => absurd c_0 (zD_ne zk_1 zk_z (by decide))) (fun _ => ?_)
                  refine lv_aload hx hb dX10_paste_79 (lv_at hl 0 rfl) ?_
                  refine lv_iload hx hb dX10_paste_81 (lv_at hl 6 rfl) ?_
                  refine lv_iload hx hb dX10_paste_83 (lv_at hl 7 rfl) ?_
                  refine z_callVi (k := 79) (As := [.int (pa3), .int (pa4)]) (rest := []) hx hb hml hown ht (xk_X6_spans_3 l D q cA F _ _ _ hI (pa3) (pa4)) hw_5_177 hmX6_spans ⟨rfl, rfl⟩ (na := 2) rfl (by decide +kernel) (by decide) (by decide) rfl rfl hK hP hD hS hA hl.1 rfl (Nat.le_of_ble_eq_true rfl) ⟨Nat.zero_le _, Nat.zero_le _⟩ dX10_paste_85 (fun r_75 I_75 R_75 J_75 H locs hp_75 hP hD hS _ _ => ?_)
                  rcases hp_75 with ⟨rfl, hu_75, nn_75⟩ | ⟨rfl, hu_75, nn_75⟩
                  · cases hu_75
                    refine lv_if_ne (tgt := 94) hx hb dX10_paste_88 (by decide) (fun _ => ?_) (fun c_0 => absurd c_0 (zD_ne zk_1 zk_z (by decide)))
                    refine lv_aload hx hb dX10_paste_94 (lv_at hl 1 rfl) ?_
                    refine z_get hx hb ht hown hK hP ziX6 rfl 75 (by decide) 2 (by decide) hw_2_84 rfl (v := .ref (q 76)) rfl dX10_paste_96 ?_
                    refine lv_iload_n hx hb dX10_paste_99 rfl (lv_at hl 4 rfl) ?_
                    refine lv_aload hx hb dX10_paste_100 (lv_at hl 0 rfl) ?_
                    refine z_get hx hb ht hown hK hP ziX6 rfl 79 (by decide) 2 (by decide) hw_2_84 rfl (v := .ref (q 80)) rfl dX10_paste_102 ?_
                    refine lv_iload hx hb dX10_paste_105 (lv_at hl 6 rfl) ?_
                    refine lv_iload hx hb dX10_paste_107 (lv_at hl 7 rfl) ?_
                    refine z_copyl hx hb (hml.trans hl.1.symm) ht hown hw_5_181 ⟨hw_3_44, hw_3_43, hw_1_18⟩ hK hP hD hS 76 80 (by decide) (by decide) 54 56 rfl (fun _ => rfl) rfl rfl (x_nn nn_74.1) (x_nn nn_75.1) (x_nn nn_74.2.1) (x_cp nn_74 (xI hI 75 1).2) (x_cp nn_75 (xI hI 79 1).2) (by decide) (by decide +kernel) dX10_paste_109 (fun g_76 H locs eg_76 hP hD hS => ?_)
                    have hI_77 := xInv_J (J2 := (zr J 80 g_76)) hI
                    refine lv_iconst (v := nI 0) hx hb dX10_paste_112 (by decide +kernel) ?_
                    exact z_iret (v := nI 0) hx hb hr hlocks hP hD hS dX10_paste_113 (Or.inr (Or.inr (Or.inr (Or.inr ⟨(by obtain ⟨_, _⟩ := zk_1; obtain ⟨_, _⟩ := zk_3; omega), (show (F 75 1).toInt ≠ -1 ∧ (F 79 1).toInt ≠ -1 from (by have e0 : (I 75 1).toInt = (F 75 1).toInt := congrArg Int32.toInt (xFr hI 75 1 rfl); have e1 : (I 79 1).toInt = (F 79 1).toInt := congrArg Int32.toInt (xFr hI 79 1 rfl); have e2 : (I 75 0).toInt = (F 75 0).toInt := congrArg Int32.toInt (xFr hI 75 0 rfl); have e3 : (I 79 0).toInt = (F 79 0).toInt := congrArg Int32.toInt (xFr hI 79 0 rfl); have _ := nn_69; have _ := nn_71; omega)), (show (F 75 0).toInt = (F 79 0).toInt from (by have e0 : (I 75 1).toInt = (F 75 1).toInt := congrArg Int32.toInt (xFr hI 75 1 rfl); have e1 : (I 79 1).toInt = (F 79 1).toInt := congrArg Int32.toInt (xFr hI 79 1 rfl); have e2 : (I 75 0).toInt = (F 75 0).toInt := congrArg Int32.toInt (xFr hI 75 0 rfl); have e3 : (I 79 0).toInt = (F 79 0).toInt := congrArg Int32.toInt (xFr hI 79 0 rfl); have _ := t_c_73; omega)), (show 0 ≤ pa1.toInt ∧ 0 ≤ pa3.toInt ∧ 0 ≤ pa4.toInt ∧ pa1.toInt + pa4.toInt ≤ (F 75 1).toInt ∧ pa3.toInt + pa4.toInt ≤ (F 79 1).toInt from (by have e0 : (I 75 1).toInt = (F 75 1).toInt := congrArg Int32.toInt (xFr hI 75 1 rfl); have e1 : (I 79 1).toInt = (F 79 1).toInt := congrArg Int32.toInt (xFr hI 79 1 rfl); have e2 : (I 75 0).toInt = (F 75 0).toInt := congrArg Int32.toInt (xFr hI 75 0 rfl); have e3 : (I 79 0).toInt = (F 79 0).toInt := congrArg Int32.toInt (xFr hI 79 0 rfl); have _ := nn_74; have _ := nn_75; omega)), rfl, hI_77⟩))))
                  · cases hu_75
                    refine lv_if_ne (tgt := 94) hx hb dX10_paste_88 (by decide) (fun c_0 => absurd (zD_eq zk_0 zk_z) c_0) (fun _ => ?_)
                    refine lv_bipush (v := (-7)) hx hb dX10_paste_91 (by decide +kernel) ?_
                    exact z_iret (v := (-7)) hx hb hr hlocks hP hD hS dX10_paste_93 (Or.inr (Or.inr (Or.inr (Or.inl ⟨(by obtain ⟨_, _⟩ := zk_1; obtain ⟨_, _⟩ := zk_3; omega), (show (F 75 1).toInt ≠ -1 ∧ (F 79 1).toInt ≠ -1 from (by have e0 : (I 75 1).toInt = (F 75 1).toInt := congrArg Int32.toInt (xFr hI 75 1 rfl); have e1 : (I 79 1).toInt = (F 79 1).toInt := congrArg Int32.toInt (xFr hI 79 1 rfl); have e2 : (I 75 0).toInt = (F 75 0).toInt := congrArg Int32.toInt (xFr hI 75 0 rfl); have e3 : (I 79 0).toInt = (F 79 0).toInt := congrArg Int32.toInt (xFr hI 79 0 rfl); have _ := nn_69; have _ := nn_71; omega)), (show (F 75 0).toInt = (F 79 0).toInt from (by have e0 : (I 75 1).toInt = (F 75 1).toInt := congrArg Int32.toInt (xFr hI 75 1 rfl); have e1 : (I 79 1).toInt = (F 79 1).toInt := congrArg Int32.toInt (xFr hI 79 1 rfl); have e2 : (I 75 0).toInt = (F 75 0).toInt := congrArg Int32.toInt (xFr hI 75 0 rfl); have e3 : (I 79 0).toInt = (F 79 0).toInt := congrArg Int32.toInt (xFr hI 79 0 rfl); have _ := t_c_73; omega)), (show ¬ (0 ≤ pa1.toInt ∧ 0 ≤ pa3.toInt ∧ 0 ≤ pa4.toInt ∧ pa1.toInt + pa4.toInt ≤ (F 75 1).toInt ∧ pa3.toInt + pa4.toInt ≤ (F 79 1).toInt) from (by have e0 : (I 75 1).toInt = (F 75 1).toInt := congrArg Int32.toInt (xFr hI 75 1 rfl); have e1 : (I 79 1).toInt = (F 79 1).toInt := congrArg Int32.toInt (xFr hI 79 1 rfl); have e2 : (I 75 0).toInt = (F 75 0).toInt := congrArg Int32.toInt (xFr hI 75 0 rfl); have e3 : (I 79 0).toInt = (F 79 0).toInt := congrArg Int32.toInt (xFr hI 79 0 rfl); have _ := nn_74; have _ := nn_75; omega)), rfl, hI⟩))))
                · cases hu_74
                  refine lv_if_eq (tgt := 91) hx hb dX10_paste_76 (by decide) (fun _ => ?_) (fun c_0 => absurd (zD_eq zk_0 zk_z) c_0)
                  refine lv_bipush (v := (-7)) hx hb dX10_paste_91 (by decide +kernel) ?_
                  exact z_iret (v := (-7)) hx hb hr hlocks hP hD hS dX10_paste_93 (Or.inr (Or.inr (Or.inr (Or.inl ⟨(by obtain ⟨_, _⟩ := zk_1; obtain ⟨_, _⟩ := zk_3; omega), (show (F 75 1).toInt ≠ -1 ∧ (F 79 1).toInt ≠ -1 from (by have e0 : (I 75 1).toInt = (F 75 1).toInt := congrArg Int32.toInt (xFr hI 75 1 rfl); have e1 : (I 79 1).toInt = (F 79 1).toInt := congrArg Int32.toInt (xFr hI 79 1 rfl); have e2 : (I 75 0).toInt = (F 75 0).toInt := congrArg Int32.toInt (xFr hI 75 0 rfl); have e3 : (I 79 0).toInt = (F 79 0).toInt := congrArg Int32.toInt (xFr hI 79 0 rfl); have _ := nn_69; have _ := nn_71; omega)), (show (F 75 0).toInt = (F 79 0).toInt from (by have e0 : (I 75 1).toInt = (F 75 1).toInt := congrArg Int32.toInt (xFr hI 75 1 rfl); have e1 : (I 79 1).toInt = (F 79 1).toInt := congrArg Int32.toInt (xFr hI 79 1 rfl); have e2 : (I 75 0).toInt = (F 75 0).toInt := congrArg Int32.toInt (xFr hI 75 0 rfl); have e3 : (I 79 0).toInt = (F 79 0).toInt := congrArg Int32.toInt (xFr hI 79 0 rfl); have _ := t_c_73; omega)), (show ¬ (0 ≤ pa1.toInt ∧ 0 ≤ pa3.toInt ∧ 0 ≤ pa4.toInt ∧ pa1.toInt + pa4.toInt ≤ (F 75 1).toInt ∧ pa3.toInt + pa4.toInt ≤ (F 79 1).toInt) from (by have e0 : (I 75 1).toInt = (F 75 1).toInt := congrArg Int32.toInt (xFr hI 75 1 rfl); have e1 : (I 79 1).toInt = (F 79 1).toInt := congrArg Int32.toInt (xFr hI 79 1 rfl); have e2 : (I 75 0).toInt = (F 75 0).toInt := congrArg Int32.toInt (xFr hI 75 0 rfl); have e3 : (I 79 0).toInt = (F 79 0).toInt := congrArg Int32.toInt (xFr hI 79 0 rfl); have _ := nn_74; omega)), rfl, hI⟩))))
              · have t_c_73 := z_eqF c_73
                refine lv_bipush (v := (-8)) hx hb dX10_paste_65 (by decide +kernel) ?_
                exact z_iret (v := (-8)) hx hb hr hlocks hP hD hS dX10_paste_67 (Or.inr (Or.inr (Or.inl ⟨(by obtain ⟨_, _⟩ := zk_1; obtain ⟨_, _⟩ := zk_3; omega), (show (F 75 1).toInt ≠ -1 ∧ (F 79 1).toInt ≠ -1 from (by have e0 : (I 75 1).toInt = (F 75 1).toInt := congrArg Int32.toInt (xFr hI 75 1 rfl); have e1 : (I 79 1).toInt = (F 79 1).toInt := congrArg Int32.toInt (xFr hI 79 1 rfl); have e2 : (I 75 0).toInt = (F 75 0).toInt := congrArg Int32.toInt (xFr hI 75 0 rfl); have e3 : (I 79 0).toInt = (F 79 0).toInt := congrArg Int32.toInt (xFr hI 79 0 rfl); have _ := nn_69; have _ := nn_71; omega)), (show (F 75 0).toInt ≠ (F 79 0).toInt from (by have e0 : (I 75 1).toInt = (F 75 1).toInt := congrArg Int32.toInt (xFr hI 75 1 rfl); have e1 : (I 79 1).toInt = (F 79 1).toInt := congrArg Int32.toInt (xFr hI 79 1 rfl); have e2 : (I 75 0).toInt = (F 75 0).toInt := congrArg Int32.toInt (xFr hI 75 0 rfl); have e3 : (I 79 0).toInt = (F 79 0).toInt := congrArg Int32.toInt (xFr hI 79 0 rfl); have _ := t_c_73; omega)), rfl, hI⟩)))
            · cases hu_71
              refine lv_if_ne (tgt := 52) hx hb dX10_paste_46 (by decide) (fun c_0 => absurd (zD_eq zk_0 zk_z) c_0) (fun _ => ?_)
              refine lv_bipush (v := (-6)) hx hb dX10_paste_49 (by decide +kernel) ?_
              exact z_iret (v := (-6)) hx hb hr hlocks hP hD hS dX10_paste_51 (Or.inr (Or.inl ⟨(by obtain ⟨_, _⟩ := zk_1; obtain ⟨_, _⟩ := zk_3; omega), (show (F 75 1).toInt = -1 ∨ (F 79 1).toInt = -1 from (by have e0 : (I 75 1).toInt = (F 75 1).toInt := congrArg Int32.toInt (xFr hI 75 1 rfl); have e1 : (I 79 1).toInt = (F 79 1).toInt := congrArg Int32.toInt (xFr hI 79 1 rfl); have e2 : (I 75 0).toInt = (F 75 0).toInt := congrArg Int32.toInt (xFr hI 75 0 rfl); have e3 : (I 79 0).toInt = (F 79 0).toInt := congrArg Int32.toInt (xFr hI 79 0 rfl); have _ := nn_69; have _ := nn_71; omega)), rfl, hI⟩))
          · cases hu_69
            refine lv_if_eq (tgt := 49) hx hb dX10_paste_38 (by decide) (fun _ => ?_) (fun c_0 => absurd (zD_eq zk_0 zk_z) c_0)
            refine lv_bipush (v := (-6)) hx hb dX10_paste_49 (by decide +kernel) ?_
            exact z_iret (v := (-6)) hx hb hr hlocks hP hD hS dX10_paste_51 (Or.inr (Or.inl ⟨(by obtain ⟨_, _⟩ := zk_1; obtain ⟨_, _⟩ := zk_3; omega), (show (F 75 1).toInt = -1 ∨ (F 79 1).toInt = -1 from (by have e0 : (I 75 1).toInt = (F 75 1).toInt := congrArg Int32.toInt (xFr hI 75 1 rfl); have e1 : (I 79 1).toInt = (F 79 1).toInt := congrArg Int32.toInt (xFr hI 79 1 rfl); have e2 : (I 75 0).toInt = (F 75 0).toInt := congrArg Int32.toInt (xFr hI 75 0 rfl); have e3 : (I 79 0).toInt = (F 79 0).toInt := congrArg Int32.toInt (xFr hI 79 0 rfl); have _ := nn_69; omega)), rfl, hI⟩))
      · refine va_aldq hx hb hK hP 72 52 (zw_at (by decide) rfl) rfl (vp_in_nI (by decide) (by decide)) dX10_paste_22 ?_
        refine W.eq (g2 := F0 m 23 ls (.ref (q 77) :: [])) rfl ?_
        refine lv_astore (lv' := [(6, .ref (q 77)), (0, .ref (q 0)), (1, .int (nI 2)), (2, .int (pa1)), (3, .int (pa2)), (4, .int (pa3)), (5, .int (pa4))]) hx hb dX10_paste_23 hl (by decide) rfl (fun ls hl => ?_)
        refine lv_aload_n hx hb dX10_paste_25 rfl (lv_at hl 1 rfl) ?_
        refine z_get hx hb ht hown hK hP ziX10 rfl 0 (by decide) 11 (by decide) hw_2_104 rfl (v := .ref (q 72)) rfl dX10_paste_26 ?_
        refine lv_iload_n hx hb dX10_paste_29 rfl (lv_at hl 4 rfl) ?_
        obtain ⟨n_78, hn_78, rfl⟩ := z_ex (x := pa2) (N := 4) (zR_w f0_2 (a' := 0) (b' := 3) (by decide)).1 (Int.lt_of_le_of_lt (zR_w f0_2 (a' := 0) (b' := 3) (by decide)).2 (by decide))
        rcases (show n_78 = 0 ∨ n_78 = 1 ∨ n_78 = 2 ∨ n_78 = 3 by omega) with rfl | rfl | rfl | rfl
        · refine va_aldq hx hb hK hP 72 52 (zw_at (by decide) rfl) rfl (vp_in_nI (by decide) (by decide)) dX10_paste_30 ?_
          refine W.eq (g2 := F0 m 31 ls (.ref (q 73) :: [])) rfl ?_
          refine lv_astore (lv' := [(7, .ref (q 73)), (6, .ref (q 77)), (0, .ref (q 0)), (1, .int (nI 2)), (2, .int (pa1)), (3, .int (nI 0)), (4, .int (pa3)), (5, .int (pa4))]) hx hb dX10_paste_31 hl (by decide) rfl (fun ls hl => ?_)
          refine lv_aload hx hb dX10_paste_33 (lv_at hl 1 rfl) ?_
          refine z_callVi (k := 77) (As := []) (rest := []) hx hb hml hown ht (xk_X6_isThere_2 l D q cA F _ _ _ hI ) hw_5_63 hmX6_isThere ⟨rfl, rfl⟩ (na := 0) rfl (by decide +kernel) (by decide) (by decide) rfl rfl hK hP hD hS hA hl.1 rfl (Nat.le_of_ble_eq_true rfl) ⟨Nat.zero_le _, Nat.zero_le _⟩ dX10_paste_35 (fun r_79 I_79 R_79 J_79 H locs hp_79 hP hD hS _ _ => ?_)
          rcases hp_79 with ⟨rfl, hu_79, nn_79⟩ | ⟨rfl, hu_79, nn_79⟩
          · cases hu_79
            have f_80 : zR 0 60 (I 77 1) := x_there (xI hI 77 1) nn_79
            refine lv_if_eq (tgt := 49) hx hb dX10_paste_38 (by decide) (fun c_0 => absurd c_0 (zD_ne zk_1 zk_z (by decide))) (fun _ => ?_)
            refine lv_aload hx hb dX10_paste_41 (lv_at hl 0 rfl) ?_
            refine z_callVi (k := 73) (As := []) (rest := []) hx hb hml hown ht (xk_X6_isThere l D q cA F _ _ _ hI ) hw_5_63 hmX6_isThere ⟨rfl, rfl⟩ (na := 0) rfl (by decide +kernel) (by decide) (by decide) rfl rfl hK hP hD hS hA hl.1 rfl (Nat.le_of_ble_eq_true rfl) ⟨Nat.zero_le _, Nat.zero_le _⟩ dX10_paste_43 (fun r_81 I_81 R_81 J_81 H locs hp_81 hP hD hS _ _ => ?_)
            rcases hp_81 with ⟨rfl, hu_81, nn_81⟩ | ⟨rfl, hu_81, nn_81⟩
            · cases hu_81
              have f_82 : zR 0 60 (I 73 1) := x_there (xI hI 73 1) nn_81
              refine lv_if_ne (tgt := 52) hx hb dX10_paste_46 (by decide) (fun _ => ?_) (fun c_0 => absurd c_0 (zD_ne zk_1 zk_z (by decide)))
              refine lv_aload hx hb dX10_paste_52 (lv_at hl 1 rfl) ?_
              refine z_get hx hb ht hown hK hP ziX6 rfl 77 (by decide) 0 (by decide) hw_2_78 rfl (v := .int (I 77 0)) rfl dX10_paste_54 ?_
              refine lv_aload hx hb dX10_paste_57 (lv_at hl 0 rfl) ?_
              refine z_get hx hb ht hown hK hP ziX6 rfl 73 (by decide) 0 (by decide) hw_2_78 rfl (v := .int (I 73 0)) rfl dX10_paste_59 ?_
              refine lv_icmp_eq (tgt := 68) hx hb dX10_paste_62 (by decide) (fun c_83 => ?_) (fun c_83 => ?_)
              · have t_c_83 := z_eqT c_83
                refine lv_aload hx hb dX10_paste_68 (lv_at hl 1 rfl) ?_
                refine lv_iload_n hx hb dX10_paste_70 rfl (lv_at hl 4 rfl) ?_
                refine lv_iload hx hb dX10_paste_71 (lv_at hl 7 rfl) ?_
                refine z_callVi (k := 77) (As := [.int (pa1), .int (pa4)]) (rest := []) hx hb hml hown ht (xk_X6_spans_2 l D q cA F _ _ _ hI (pa1) (pa4)) hw_5_177 hmX6_spans ⟨rfl, rfl⟩ (na := 2) rfl (by decide +kernel) (by decide) (by decide) rfl rfl hK hP hD hS hA hl.1 rfl (Nat.le_of_ble_eq_true rfl) ⟨Nat.zero_le _, Nat.zero_le _⟩ dX10_paste_73 (fun r_84 I_84 R_84 J_84 H locs hp_84 hP hD hS _ _ => ?_)
                rcases hp_84 with ⟨rfl, hu_84, nn_84⟩ | ⟨rfl, hu_84, nn_84⟩
                · cases hu_84
                  refine lv_if_eq (tgt := 91) hx hb dX10_paste_76 (by decide) (fun c_0 => absurd c_0 (zD_ne zk_1 zk_z (by decide))) (fun _ => ?_)
                  refine lv_aload hx hb dX10_paste_79 (lv_at hl 0 rfl) ?_
                  refine lv_iload hx hb dX10_paste_81 (lv_at hl 6 rfl) ?_
                  refine lv_iload hx hb dX10_paste_83 (lv_at hl 7 rfl) ?_
                  refine z_callVi (k := 73) (As := [.int (pa3), .int (pa4)]) (rest := []) hx hb hml hown ht (xk_X6_spans l D q cA F _ _ _ hI (pa3) (pa4)) hw_5_177 hmX6_spans ⟨rfl, rfl⟩ (na := 2) rfl (by decide +kernel) (by decide) (by decide) rfl rfl hK hP hD hS hA hl.1 rfl (Nat.le_of_ble_eq_true rfl) ⟨Nat.zero_le _, Nat.zero_le _⟩ dX10_paste_85 (fun r_85 I_85 R_85 J_85 H locs hp_85 hP hD hS _ _ => ?_)
                  rcases hp_85 with ⟨rfl, hu_85, nn_85⟩ | ⟨rfl, hu_85, nn_85⟩
                  · cases hu_85
                    refine lv_if_ne (tgt := 94) hx hb dX10_paste_88 (by decide) (fun _ => ?_) (fun c_0 => absurd c_0 (zD_ne zk_1 zk_z (by decide)))
                    refine lv_aload hx hb dX10_paste_94 (lv_at hl 1 rfl) ?_
                    refine z_get hx hb ht hown hK hP ziX6 rfl 77 (by decide) 2 (by decide) hw_2_84 rfl (v := .ref (q 78)) rfl dX10_paste_96 ?_
                    refine lv_iload_n hx hb dX10_paste_99 rfl (lv_at hl 4 rfl) ?_
                    refine lv_aload hx hb dX10_paste_100 (lv_at hl 0 rfl) ?_
                    refine z_get hx hb ht hown hK hP ziX6 rfl 73 (by decide) 2 (by decide) hw_2_84 rfl (v := .ref (q 74)) rfl dX10_paste_102 ?_
                    refine lv_iload hx hb dX10_paste_105 (lv_at hl 6 rfl) ?_
                    refine lv_iload hx hb dX10_paste_107 (lv_at hl 7 rfl) ?_
                    refine z_copyl hx hb (hml.trans hl.1.symm) ht hown hw_5_181 ⟨hw_3_44, hw_3_43, hw_1_18⟩ hK hP hD hS 78 74 (by decide) (by decide) 55 53 rfl (fun _ => rfl) rfl rfl (x_nn nn_84.1) (x_nn nn_85.1) (x_nn nn_84.2.1) (x_cp nn_84 (xI hI 77 1).2) (x_cp nn_85 (xI hI 73 1).2) (by decide) (by decide +kernel) dX10_paste_109 (fun g_86 H locs eg_86 hP hD hS => ?_)
                    have hI_87 := xInv_J (J2 := (zr J 74 g_86)) hI
                    refine lv_iconst (v := nI 0) hx hb dX10_paste_112 (by decide +kernel) ?_
                    exact z_iret (v := nI 0) hx hb hr hlocks hP hD hS dX10_paste_113 (Or.inr (Or.inr (Or.inr (Or.inr ⟨(by obtain ⟨_, _⟩ := zk_2; obtain ⟨_, _⟩ := zk_0; omega), (show (F 77 1).toInt ≠ -1 ∧ (F 73 1).toInt ≠ -1 from (by have e0 : (I 77 1).toInt = (F 77 1).toInt := congrArg Int32.toInt (xFr hI 77 1 rfl); have e1 : (I 73 1).toInt = (F 73 1).toInt := congrArg Int32.toInt (xFr hI 73 1 rfl); have e2 : (I 77 0).toInt = (F 77 0).toInt := congrArg Int32.toInt (xFr hI 77 0 rfl); have e3 : (I 73 0).toInt = (F 73 0).toInt := congrArg Int32.toInt (xFr hI 73 0 rfl); have _ := nn_79; have _ := nn_81; omega)), (show (F 77 0).toInt = (F 73 0).toInt from (by have e0 : (I 77 1).toInt = (F 77 1).toInt := congrArg Int32.toInt (xFr hI 77 1 rfl); have e1 : (I 73 1).toInt = (F 73 1).toInt := congrArg Int32.toInt (xFr hI 73 1 rfl); have e2 : (I 77 0).toInt = (F 77 0).toInt := congrArg Int32.toInt (xFr hI 77 0 rfl); have e3 : (I 73 0).toInt = (F 73 0).toInt := congrArg Int32.toInt (xFr hI 73 0 rfl); have _ := t_c_83; omega)), (show 0 ≤ pa1.toInt ∧ 0 ≤ pa3.toInt ∧ 0 ≤ pa4.toInt ∧ pa1.toInt + pa4.toInt ≤ (F 77 1).toInt ∧ pa3.toInt + pa4.toInt ≤ (F 73 1).toInt from (by have e0 : (I 77 1).toInt = (F 77 1).toInt := congrArg Int32.toInt (xFr hI 77 1 rfl); have e1 : (I 73 1).toInt = (F 73 1).toInt := congrArg Int32.toInt (xFr hI 73 1 rfl); have e2 : (I 77 0).toInt = (F 77 0).toInt := congrArg Int32.toInt (xFr hI 77 0 rfl); have e3 : (I 73 0).toInt = (F 73 0).toInt := congrArg Int32.toInt (xFr hI 73 0 rfl); have _ := nn_84; have _ := nn_85; omega)), rfl, hI_87⟩))))
                  · cases hu_85
                    refine lv_if_ne (tgt := 94) hx hb dX10_paste_88 (by decide) (fun c_0 => absurd (zD_eq zk_0 zk_z) c_0) (fun _ => ?_)
                    refine lv_bipush (v := (-7)) hx hb dX10_paste_91 (by decide +kernel) ?_
                    exact z_iret (v := (-7)) hx hb hr hlocks hP hD hS dX10_paste_93 (Or.inr (Or.inr (Or.inr (Or.inl ⟨(by obtain ⟨_, _⟩ := zk_2; obtain ⟨_, _⟩ := zk_0; omega), (show (F 77 1).toInt ≠ -1 ∧ (F 73 1).toInt ≠ -1 from (by have e0 : (I 77 1).toInt = (F 77 1).toInt := congrArg Int32.toInt (xFr hI 77 1 rfl); have e1 : (I 73 1).toInt = (F 73 1).toInt := congrArg Int32.toInt (xFr hI 73 1 rfl); have e2 : (I 77 0).toInt = (F 77 0).toInt := congrArg Int32.toInt (xFr hI 77 0 rfl); have e3 : (I 73 0).toInt = (F 73 0).toInt := congrArg Int32.toInt (xFr hI 73 0 rfl); have _ := nn_79; have _ := nn_81; omega)), (show (F 77 0).toInt = (F 73 0).toInt from (by have e0 : (I 77 1).toInt = (F 77 1).toInt := congrArg Int32.toInt (xFr hI 77 1 rfl); have e1 : (I 73 1).toInt = (F 73 1).toInt := congrArg Int32.toInt (xFr hI 73 1 rfl); have e2 : (I 77 0).toInt = (F 77 0).toInt := congrArg Int32.toInt (xFr hI 77 0 rfl); have e3 : (I 73 0).toInt = (F 73 0).toInt := congrArg Int32.toInt (xFr hI 73 0 rfl); have _ := t_c_83; omega)), (show ¬ (0 ≤ pa1.toInt ∧ 0 ≤ pa3.toInt ∧ 0 ≤ pa4.toInt ∧ pa1.toInt + pa4.toInt ≤ (F 77 1).toInt ∧ pa3.toInt + pa4.toInt ≤ (F 73 1).toInt) from (by have e0 : (I 77 1).toInt = (F 77 1).toInt := congrArg Int32.toInt (xFr hI 77 1 rfl); have e1 : (I 73 1).toInt = (F 73 1).toInt := congrArg Int32.toInt (xFr hI 73 1 rfl); have e2 : (I 77 0).toInt = (F 77 0).toInt := congrArg Int32.toInt (xFr hI 77 0 rfl); have e3 : (I 73 0).toInt = (F 73 0).toInt := congrArg Int32.toInt (xFr hI 73 0 rfl); have _ := nn_84; have _ := nn_85; omega)), rfl, hI⟩))))
                · cases hu_84
                  refine lv_if_eq (tgt := 91) hx hb dX10_paste_76 (by decide) (fun _ => ?_) (fun c_0 => absurd (zD_eq zk_0 zk_z) c_0)
                  refine lv_bipush (v := (-7)) hx hb dX10_paste_91 (by decide +kernel) ?_
                  exact z_iret (v := (-7)) hx hb hr hlocks hP hD hS dX10_paste_93 (Or.inr (Or.inr (Or.inr (Or.inl ⟨(by obtain ⟨_, _⟩ := zk_2; obtain ⟨_, _⟩ := zk_0; omega), (show (F 77 1).toInt ≠ -1 ∧ (F 73 1).toInt ≠ -1 from (by have e0 : (I 77 1).toInt = (F 77 1).toInt := congrArg Int32.toInt (xFr hI 77 1 rfl); have e1 : (I 73 1).toInt = (F 73 1).toInt := congrArg Int32.toInt (xFr hI 73 1 rfl); have e2 : (I 77 0).toInt = (F 77 0).toInt := congrArg Int32.toInt (xFr hI 77 0 rfl); have e3 : (I 73 0).toInt = (F 73 0).toInt := congrArg Int32.toInt (xFr hI 73 0 rfl); have _ := nn_79; have _ := nn_81; omega)), (show (F 77 0).toInt = (F 73 0).toInt from (by have e0 : (I 77 1).toInt = (F 77 1).toInt := congrArg Int32.toInt (xFr hI 77 1 rfl); have e1 : (I 73 1).toInt = (F 73 1).toInt := congrArg Int32.toInt (xFr hI 73 1 rfl); have e2 : (I 77 0).toInt = (F 77 0).toInt := congrArg Int32.toInt (xFr hI 77 0 rfl); have e3 : (I 73 0).toInt = (F 73 0).toInt := congrArg Int32.toInt (xFr hI 73 0 rfl); have _ := t_c_83; omega)), (show ¬ (0 ≤ pa1.toInt ∧ 0 ≤ pa3.toInt ∧ 0 ≤ pa4.toInt ∧ pa1.toInt + pa4.toInt ≤ (F 77 1).toInt ∧ pa3.toInt + pa4.toInt ≤ (F 73 1).toInt) from (by have e0 : (I 77 1).toInt = (F 77 1).toInt := congrArg Int32.toInt (xFr hI 77 1 rfl); have e1 : (I 73 1).toInt = (F 73 1).toInt := congrArg Int32.toInt (xFr hI 73 1 rfl); have e2 : (I 77 0).toInt = (F 77 0).toInt := congrArg Int32.toInt (xFr hI 77 0 rfl); have e3 : (I 73 0).toInt = (F 73 0).toInt := congrArg Int32.toInt (xFr hI 73 0 rfl); have _ := nn_84; omega)), rfl, hI⟩))))
              · have t_c_83 := z_eqF c_83
                refine lv_bipush (v := (-8)) hx hb dX10_paste_65 (by decide +kernel) ?_
                exact z_iret (v := (-8)) hx hb hr hlocks hP hD hS dX10_paste_67 (Or.inr (Or.inr (Or.inl ⟨(by obtain ⟨_, _⟩ := zk_2; obtain ⟨_, _⟩ := zk_0; omega), (show (F 77 1).toInt ≠ -1 ∧ (F 73 1).toInt ≠ -1 from (by have e0 : (I 77 1).toInt = (F 77 1).toInt := congrArg Int32.toInt (xFr hI 77 1 rfl); have e1 : (I 73 1).toInt = (F 73 1).toInt := congrArg Int32.toInt (xFr hI 73 1 rfl); have e2 : (I 77 0).toInt = (F 77 0).toInt := congrArg Int32.toInt (xFr hI 77 0 rfl); have e3 : (I 73 0).toInt = (F 73 0).toInt := congrArg Int32.toInt (xFr hI 73 0 rfl); have _ := nn_79; have _ := nn_81; omega)), (show (F 77 0).toInt ≠ (F 73 0).toInt from (by have e0 : (I 77 1).toInt = (F 77 1).toInt := congrArg Int32.toInt (xFr hI 77 1 rfl); have e1 : (I 73 1).toInt = (F 73 1).toInt := congrArg Int32.toInt (xFr hI 73 1 rfl); have e2 : (I 77 0).toInt = (F 77 0).toInt := congrArg Int32.toInt (xFr hI 77 0 rfl); have e3 : (I 73 0).toInt = (F 73 0).toInt := congrArg Int32.toInt (xFr hI 73 0 rfl); have _ := t_c_83; omega)), rfl, hI⟩)))
            · cases hu_81
              refine lv_if_ne (tgt := 52) hx hb dX10_paste_46 (by decide) (fun c_0 => absurd (zD_eq zk_0 zk_z) c_0) (fun _ => ?_)
              refine lv_bipush (v := (-6)) hx hb dX10_paste_49 (by decide +kernel) ?_
              exact z_iret (v := (-6)) hx hb hr hlocks hP hD hS dX10_paste_51 (Or.inr (Or.inl ⟨(by obtain ⟨_, _⟩ := zk_2; obtain ⟨_, _⟩ := zk_0; omega), (show (F 77 1).toInt = -1 ∨ (F 73 1).toInt = -1 from (by have e0 : (I 77 1).toInt = (F 77 1).toInt := congrArg Int32.toInt (xFr hI 77 1 rfl); have e1 : (I 73 1).toInt = (F 73 1).toInt := congrArg Int32.toInt (xFr hI 73 1 rfl); have e2 : (I 77 0).toInt = (F 77 0).toInt := congrArg Int32.toInt (xFr hI 77 0 rfl); have e3 : (I 73 0).toInt = (F 73 0).toInt := congrArg Int32.toInt (xFr hI 73 0 rfl); have _ := nn_79; have _ := nn_81; omega)), rfl, hI⟩))
          · cases hu_79
            refine lv_if_eq (tgt := 49) hx hb dX10_paste_38 (by decide) (fun _ => ?_) (fun c_0 => absurd (zD_eq zk_0 zk_z) c_0)
            refine lv_bipush (v := (-6)) hx hb dX10_paste_49 (by decide +kernel) ?_
            exact z_iret (v := (-6)) hx hb hr hlocks hP hD hS dX10_paste_51 (Or.inr (Or.inl ⟨(by obtain ⟨_, _⟩ := zk_2; obtain ⟨_, _⟩ := zk_0; omega), (show (F 77 1).toInt = -1 ∨ (F 73 1).toInt = -1 from (by have e0 : (I 77 1).toInt = (F 77 1).toInt := congrArg Int32.toInt (xFr hI 77 1 rfl); have e1 : (I 73 1).toInt = (F 73 1).toInt := congrArg Int32.toInt (xFr hI 73 1 rfl); have e2 : (I 77 0).toInt = (F 77 0).toInt := congrArg Int32.toInt (xFr hI 77 0 rfl); have e3 : (I 73 0).toInt = (F 73 0).toInt := congrArg Int32.toInt (xFr hI 73 0 rfl); have _ := nn_79; omega)), rfl, hI⟩))
        · refine va_aldq hx hb hK hP 72 52 (zw_at (by decide) rfl) rfl (vp_in_nI (by decide) (by decide)) dX10_paste_30 ?_
          refine W.eq (g2 := F0 m 31 ls (.ref (q 75) :: [])) rfl ?_
          refine lv_astore (lv' := [(7, .ref (q 75)), (6, .ref (q 77)), (0, .ref (q 0)), (1, .int (nI 2)), (2, .int (pa1)), (3, .int (nI 1)), (4, .int (pa3)), (5, .int (pa4))]) hx hb dX10_paste_31 hl (by decide) rfl (fun ls hl => ?_)
          refine lv_aload hx hb dX10_paste_33 (lv_at hl 1 rfl) ?_
          refine z_callVi (k := 77) (As := []) (rest := []) hx hb hml hown ht (xk_X6_isThere_2 l D q cA F _ _ _ hI ) hw_5_63 hmX6_isThere ⟨rfl, rfl⟩ (na := 0) rfl (by decide +kernel) (by decide) (by decide) rfl rfl hK hP hD hS hA hl.1 rfl (Nat.le_of_ble_eq_true rfl) ⟨Nat.zero_le _, Nat.zero_le _⟩ dX10_paste_35 (fun r_88 I_88 R_88 J_88 H locs hp_88 hP hD hS _ _ => ?_)
          rcases hp_88 with ⟨rfl, hu_88, nn_88⟩ | ⟨rfl, hu_88, nn_88⟩
          · cases hu_88
            have f_89 : zR 0 60 (I 77 1) := x_there (xI hI 77 1) nn_88
            refine lv_if_eq (tgt := 49) hx hb dX10_paste_38 (by decide) (fun c_0 => absurd c_0 (zD_ne zk_1 zk_z (by decide))) (fun _ => ?_)
            refine lv_aload hx hb dX10_paste_41 (lv_at hl 0 rfl) ?_
            refine z_callVi (k := 75) (As := []) (rest := []) hx hb hml hown ht (xk_X6_isThere_1 l D q cA F _ _ _ hI ) hw_5_63 hmX6_isThere ⟨rfl, rfl⟩ (na := 0) rfl (by decide +kernel) (by decide) (by decide) rfl rfl hK hP hD hS hA hl.1 rfl (Nat.le_of_ble_eq_true rfl) ⟨Nat.zero_le _, Nat.zero_le _⟩ dX10_paste_43 (fun r_90 I_90 R_90 J_90 H locs hp_90 hP hD hS _ _ => ?_)
            rcases hp_90 with ⟨rfl, hu_90, nn_90⟩ | ⟨rfl, hu_90, nn_90⟩
            · cases hu_90
              have f_91 : zR 0 60 (I 75 1) := x_there (xI hI 75 1) nn_90
              refine lv_if_ne (tgt := 52) hx hb dX10_paste_46 (by decide) (fun _ => ?_) (fun c_0 => absurd c_0 (zD_ne zk_1 zk_z (by decide)))
              refine lv_aload hx hb dX10_paste_52 (lv_at hl 1 rfl) ?_
              refine z_get hx hb ht hown hK hP ziX6 rfl 77 (by decide) 0 (by decide) hw_2_78 rfl (v := .int (I 77 0)) rfl dX10_paste_54 ?_
              refine lv_aload hx hb dX10_paste_57 (lv_at hl 0 rfl) ?_
              refine z_get hx hb ht hown hK hP ziX6 rfl 75 (by decide) 0 (by decide) hw_2_78 rfl (v := .int (I 75 0)) rfl dX10_paste_59 ?_
              refine lv_icmp_eq (tgt := 68) hx hb dX10_paste_62 (by decide) (fun c_92 => ?_) (fun c_92 => ?_)
              · have t_c_92 := z_eqT c_92
                refine lv_aload hx hb dX10_paste_68 (lv_at hl 1 rfl) ?_
                refine lv_iload_n hx hb dX10_paste_70 rfl (lv_at hl 4 rfl) ?_
                refine lv_iload hx hb dX10_paste_71 (lv_at hl 7 rfl) ?_
                refine z_callVi (k := 77) (As := [.int (pa1), .int (pa4)]) (rest := []) hx hb hml hown ht (xk_X6_spans_2 l D q cA F _ _ _ hI (pa1) (pa4)) hw_5_177 hmX6_spans ⟨rfl, rfl⟩ (na := 2) rfl (by decide +kernel) (by decide) (by decide) rfl rfl hK hP hD hS hA hl.1 rfl (Nat.le_of_ble_eq_true rfl) ⟨Nat.zero_le _, Nat.zero_le _⟩ dX10_paste_73 (fun r_93 I_93 R_93 J_93 H locs hp_93 hP hD hS _ _ => ?_)
                rcases hp_93 with ⟨rfl, hu_93, nn_93⟩ | ⟨rfl, hu_93, nn_93⟩
                · cases hu_93
                  refine lv_if_eq (tgt := 91) hx hb dX10_paste_76 (by decide) (fun c_0 => absurd c_0 (zD_ne zk_1 zk_z (by decide))) (fun _ => ?_)
                  refine lv_aload hx hb dX10_paste_79 (lv_at hl 0 rfl) ?_
                  refine lv_iload hx hb dX10_paste_81 (lv_at hl 6 rfl) ?_
                  refine lv_iload hx hb dX10_paste_83 (lv_at hl 7 rfl) ?_
                  refine z_callVi (k := 75) (As := [.int (pa3), .int (pa4)]) (rest := []) hx hb hml hown ht (xk_X6_spans_1 l D q cA F _ _ _ hI (pa3) (pa4)) hw_5_177 hmX6_spans ⟨rfl, rfl⟩ (na := 2) rfl (by decide +kernel) (by decide) (by decide) rfl rfl hK hP hD hS hA hl.1 rfl (Nat.le_of_ble_eq_true rfl) ⟨Nat.zero_le _, Nat.zero_le _⟩ dX10_paste_85 (fun r_94 I_94 R_94 J_94 H locs hp_94 hP hD hS _ _ => ?_)
                  rcases hp_94 with ⟨rfl, hu_94, nn_94⟩ | ⟨rfl, hu_94, nn_94⟩
                  · cases hu_94
                    refine lv_if_ne (tgt := 94) hx hb dX10_paste_88 (by decide) (fun _ => ?_) (fun c_0 => absurd c_0 (zD_ne zk_1 zk_z (by decide)))
                    refine lv_aload hx hb dX10_paste_94 (lv_at hl 1 rfl) ?_
                    refine z_get hx hb ht hown hK hP ziX6 rfl 77 (by decide) 2 (by decide) hw_2_84 rfl (v := .ref (q 78)) rfl dX10_paste_96 ?_
                    refine lv_iload_n hx hb dX10_paste_99 rfl (lv_at hl 4 rfl) ?_
                    refine lv_aload hx hb dX10_paste_100 (lv_at hl 0 rfl) ?_
                    refine z_get hx hb ht hown hK hP ziX6 rfl 75 (by decide) 2 (by decide) hw_2_84 rfl (v := .ref (q 76)) rfl dX10_paste_102 ?_
                    refine lv_iload hx hb dX10_paste_105 (lv_at hl 6 rfl) ?_
                    refine lv_iload hx hb dX10_paste_107 (lv_at hl 7 rfl) ?_
                    refine z_copyl hx hb (hml.trans hl.1.symm) ht hown hw_5_181 ⟨hw_3_44, hw_3_43, hw_1_18⟩ hK hP hD hS 78 76 (by decide) (by decide) 55 54 rfl (fun _ => rfl) rfl rfl (x_nn nn_93.1) (x_nn nn_94.1) (x_nn nn_93.2.1) (x_cp nn_93 (xI hI 77 1).2) (x_cp nn_94 (xI hI 75 1).2) (by decide) (by decide +kernel) dX10_paste_109 (fun g_95 H locs eg_95 hP hD hS => ?_)
                    have hI_96 := xInv_J (J2 := (zr J 76 g_95)) hI
                    refine lv_iconst (v := nI 0) hx hb dX10_paste_112 (by decide +kernel) ?_
                    exact z_iret (v := nI 0) hx hb hr hlocks hP hD hS dX10_paste_113 (Or.inr (Or.inr (Or.inr (Or.inr ⟨(by obtain ⟨_, _⟩ := zk_2; obtain ⟨_, _⟩ := zk_1; omega), (show (F 77 1).toInt ≠ -1 ∧ (F 75 1).toInt ≠ -1 from (by have e0 : (I 77 1).toInt = (F 77 1).toInt := congrArg Int32.toInt (xFr hI 77 1 rfl); have e1 : (I 75 1).toInt = (F 75 1).toInt := congrArg Int32.toInt (xFr hI 75 1 rfl); have e2 : (I 77 0).toInt = (F 77 0).toInt := congrArg Int32.toInt (xFr hI 77 0 rfl); have e3 : (I 75 0).toInt = (F 75 0).toInt := congrArg Int32.toInt (xFr hI 75 0 rfl); have _ := nn_88; have _ := nn_90; omega)), (show (F 77 0).toInt = (F 75 0).toInt from (by have e0 : (I 77 1).toInt = (F 77 1).toInt := congrArg Int32.toInt (xFr hI 77 1 rfl); have e1 : (I 75 1).toInt = (F 75 1).toInt := congrArg Int32.toInt (xFr hI 75 1 rfl); have e2 : (I 77 0).toInt = (F 77 0).toInt := congrArg Int32.toInt (xFr hI 77 0 rfl); have e3 : (I 75 0).toInt = (F 75 0).toInt := congrArg Int32.toInt (xFr hI 75 0 rfl); have _ := t_c_92; omega)), (show 0 ≤ pa1.toInt ∧ 0 ≤ pa3.toInt ∧ 0 ≤ pa4.toInt ∧ pa1.toInt + pa4.toInt ≤ (F 77 1).toInt ∧ pa3.toInt + pa4.toInt ≤ (F 75 1).toInt from (by have e0 : (I 77 1).toInt = (F 77 1).toInt := congrArg Int32.toInt (xFr hI 77 1 rfl); have e1 : (I 75 1).toInt = (F 75 1).toInt := congrArg Int32.toInt (xFr hI 75 1 rfl); have e2 : (I 77 0).toInt = (F 77 0).toInt := congrArg Int32.toInt (xFr hI 77 0 rfl); have e3 : (I 75 0).toInt = (F 75 0).toInt := congrArg Int32.toInt (xFr hI 75 0 rfl); have _ := nn_93; have _ := nn_94; omega)), rfl, hI_96⟩))))
                  · cases hu_94
                    refine lv_if_ne (tgt := 94) hx hb dX10_paste_88 (by decide) (fun c_0 => absurd (zD_eq zk_0 zk_z) c_0) (fun _ => ?_)
                    refine lv_bipush (v := (-7)) hx hb dX10_paste_91 (by decide +kernel) ?_
                    exact z_iret (v := (-7)) hx hb hr hlocks hP hD hS dX10_paste_93 (Or.inr (Or.inr (Or.inr (Or.inl ⟨(by obtain ⟨_, _⟩ := zk_2; obtain ⟨_, _⟩ := zk_1; omega), (show (F 77 1).toInt ≠ -1 ∧ (F 75 1).toInt ≠ -1 from (by have e0 : (I 77 1).toInt = (F 77 1).toInt := congrArg Int32.toInt (xFr hI 77 1 rfl); have e1 : (I 75 1).toInt = (F 75 1).toInt := congrArg Int32.toInt (xFr hI 75 1 rfl); have e2 : (I 77 0).toInt = (F 77 0).toInt := congrArg Int32.toInt (xFr hI 77 0 rfl); have e3 : (I 75 0).toInt = (F 75 0).toInt := congrArg Int32.toInt (xFr hI 75 0 rfl); have _ := nn_88; have _ := nn_90; omega)), (show (F 77 0).toInt = (F 75 0).toInt from (by have e0 : (I 77 1).toInt = (F 77 1).toInt := congrArg Int32.toInt (xFr hI 77 1 rfl); have e1 : (I 75 1).toInt = (F 75 1).toInt := congrArg Int32.toInt (xFr hI 75 1 rfl); have e2 : (I 77 0).toInt = (F 77 0).toInt := congrArg Int32.toInt (xFr hI 77 0 rfl); have e3 : (I 75 0).toInt = (F 75 0).toInt := congrArg Int32.toInt (xFr hI 75 0 rfl); have _ := t_c_92; omega)), (show ¬ (0 ≤ pa1.toInt ∧ 0 ≤ pa3.toInt ∧ 0 ≤ pa4.toInt ∧ pa1.toInt + pa4.toInt ≤ (F 77 1).toInt ∧ pa3.toInt + pa4.toInt ≤ (F 75 1).toInt) from (by have e0 : (I 77 1).toInt = (F 77 1).toInt := congrArg Int32.toInt (xFr hI 77 1 rfl); have e1 : (I 75 1).toInt = (F 75 1).toInt := congrArg Int32.toInt (xFr hI 75 1 rfl); have e2 : (I 77 0).toInt = (F 77 0).toInt := congrArg Int32.toInt (xFr hI 77 0 rfl); have e3 : (I 75 0).toInt = (F 75 0).toInt := congrArg Int32.toInt (xFr hI 75 0 rfl); have _ := nn_93; have _ := nn_94; omega)), rfl, hI⟩))))
                · cases hu_93
                  refine lv_if_eq (tgt := 91) hx hb dX10_paste_76 (by decide) (fun _ => ?_) (fun c_0 => absurd (zD_eq zk_0 zk_z) c_0)
                  refine lv_bipush (v := (-7)) hx hb dX10_paste_91 (by decide +kernel) ?_
                  exact z_iret (v := (-7)) hx hb hr hlocks hP hD hS dX10_paste_93 (Or.inr (Or.inr (Or.inr (Or.inl ⟨(by obtain ⟨_, _⟩ := zk_2; obtain ⟨_, _⟩ := zk_1; omega), (show (F 77 1).toInt ≠ -1 ∧ (F 75 1).toInt ≠ -1 from (by have e0 : (I 77 1).toInt = (F 77 1).toInt := congrArg Int32.toInt (xFr hI 77 1 rfl); have e1 : (I 75 1).toInt = (F 75 1).toInt := congrArg Int32.toInt (xFr hI 75 1 rfl); have e2 : (I 77 0).toInt = (F 77 0).toInt := congrArg Int32.toInt (xFr hI 77 0 rfl); have e3 : (I 75 0).toInt = (F 75 0).toInt := congrArg Int32.toInt (xFr hI 75 0 rfl); have _ := nn_88; have _ := nn_90; omega)), (show (F 77 0).toInt = (F 75 0).toInt from (by have e0 : (I 77 1).toInt = (F 77 1).toInt := congrArg Int32.toInt (xFr hI 77 1 rfl); have e1 : (I 75 1).toInt = (F 75 1).toInt := congrArg Int32.toInt (xFr hI 75 1 rfl); have e2 : (I 77 0).toInt = (F 77 0).toInt := congrArg Int32.toInt (xFr hI 77 0 rfl); have e3 : (I 75 0).toInt = (F 75 0).toInt := congrArg Int32.toInt (xFr hI 75 0 rfl); have _ := t_c_92; omega)), (show ¬ (0 ≤ pa1.toInt ∧ 0 ≤ pa3.toInt ∧ 0 ≤ pa4.toInt ∧ pa1.toInt + pa4.toInt ≤ (F 77 1).toInt ∧ pa3.toInt + pa4.toInt ≤ (F 75 1).toInt) from (by have e0 : (I 77 1).toInt = (F 77 1).toInt := congrArg Int32.toInt (xFr hI 77 1 rfl); have e1 : (I 75 1).toInt = (F 75 1).toInt := congrArg Int32.toInt (xFr hI 75 1 rfl); have e2 : (I 77 0).toInt = (F 77 0).toInt := congrArg Int32.toInt (xFr hI 77 0 rfl); have e3 : (I 75 0).toInt = (F 75 0).toInt := congrArg Int32.toInt (xFr hI 75 0 rfl); have _ := nn_93; omega)), rfl, hI⟩))))
              · have t_c_92 := z_eqF c_92
                refine lv_bipush (v := (-8)) hx hb dX10_paste_65 (by decide +kernel) ?_
                exact z_iret (v := (-8)) hx hb hr hlocks hP hD hS dX10_paste_67 (Or.inr (Or.inr (Or.inl ⟨(by obtain ⟨_, _⟩ := zk_2; obtain ⟨_, _⟩ := zk_1; omega), (show (F 77 1).toInt ≠ -1 ∧ (F 75 1).toInt ≠ -1 from (by have e0 : (I 77 1).toInt = (F 77 1).toInt := congrArg Int32.toInt (xFr hI 77 1 rfl); have e1 : (I 75 1).toInt = (F 75 1).toInt := congrArg Int32.toInt (xFr hI 75 1 rfl); have e2 : (I 77 0).toInt = (F 77 0).toInt := congrArg Int32.toInt (xFr hI 77 0 rfl); have e3 : (I 75 0).toInt = (F 75 0).toInt := congrArg Int32.toInt (xFr hI 75 0 rfl); have _ := nn_88; have _ := nn_90; omega)), (show (F 77 0).toInt ≠ (F 75 0).toInt from (by have e0 : (I 77 1).toInt = (F 77 1).toInt := congrArg Int32.toInt (xFr hI 77 1 rfl); have e1 : (I 75 1).toInt = (F 75 1).toInt := congrArg Int32.toInt (xFr hI 75 1 rfl); have e2 : (I 77 0).toInt = (F 77 0).toInt := congrArg Int32.toInt (xFr hI 77 0 rfl); have e3 : (I 75 0).toInt = (F 75 0).toInt := congrArg Int32.toInt (xFr hI 75 0 rfl); have _ := t_c_92; omega)), rfl, hI⟩)))
            · cases hu_90
              refine lv_if_ne (tgt := 52) hx hb dX10_paste_46 (by decide) (fun c_0 => absurd (zD_eq zk_0 zk_z) c_0) (fun _ => ?_)
              refine lv_bipush (v := (-6)) hx hb dX10_paste_49 (by decide +kernel) ?_
              exact z_iret (v := (-6)) hx hb hr hlocks hP hD hS dX10_paste_51 (Or.inr (Or.inl ⟨(by obtain ⟨_, _⟩ := zk_2; obtain ⟨_, _⟩ := zk_1; omega), (show (F 77 1).toInt = -1 ∨ (F 75 1).toInt = -1 from (by have e0 : (I 77 1).toInt = (F 77 1).toInt := congrArg Int32.toInt (xFr hI 77 1 rfl); have e1 : (I 75 1).toInt = (F 75 1).toInt := congrArg Int32.toInt (xFr hI 75 1 rfl); have e2 : (I 77 0).toInt = (F 77 0).toInt := congrArg Int32.toInt (xFr hI 77 0 rfl); have e3 : (I 75 0).toInt = (F 75 0).toInt := congrArg Int32.toInt (xFr hI 75 0 rfl); have _ := nn_88; have _ := nn_90; omega)), rfl, hI⟩))
          · cases hu_88
            refine lv_if_eq (tgt := 49) hx hb dX10_paste_38 (by decide) (fun _ => ?_) (fun c_0 => absurd (zD_eq zk_0 zk_z) c_0)
            refine lv_bipush (v := (-6)) hx hb dX10_paste_49 (by decide +kernel) ?_
            exact z_iret (v := (-6)) hx hb hr hlocks hP hD hS dX10_paste_51 (Or.inr (Or.inl ⟨(by obtain ⟨_, _⟩ := zk_2; obtain ⟨_, _⟩ := zk_1; omega), (show (F 77 1).toInt = -1 ∨ (F 75 1).toInt = -1 from (by have e0 : (I 77 1).toInt = (F 77 1).toInt := congrArg Int32.toInt (xFr hI 77 1 rfl); have e1 : (I 75 1).toInt = (F 75 1).toInt := congrArg Int32.toInt (xFr hI 75 1 rfl); have e2 : (I 77 0).toInt = (F 77 0).toInt := congrArg Int32.toInt (xFr hI 77 0 rfl); have e3 : (I 75 0).toInt = (F 75 0).toInt := congrArg Int32.toInt (xFr hI 75 0 rfl); have _ := nn_88; omega)), rfl, hI⟩))
        · refine va_aldq hx hb hK hP 72 52 (zw_at (by decide) rfl) rfl (vp_in_nI (by decide) (by decide)) dX10_paste_30 ?_
          refine W.eq (g2 := F0 m 31 ls (.ref (q 77) :: [])) rfl ?_
          refine lv_astore (lv' := [(7, .ref (q 77)), (6, .ref (q 77)), (0, .ref (q 0)), (1, .int (nI 2)), (2, .int (pa1)), (3, .int (nI 2)), (4, .int (pa3)), (5, .int (pa4))]) hx hb dX10_paste_31 hl (by decide) rfl (fun ls hl => ?_)
          refine lv_aload hx hb dX10_paste_33 (lv_at hl 1 rfl) ?_
          refine z_callVi (k := 77) (As := []) (rest := []) hx hb hml hown ht (xk_X6_isThere_2 l D q cA F _ _ _ hI ) hw_5_63 hmX6_isThere ⟨rfl, rfl⟩ (na := 0) rfl (by decide +kernel) (by decide) (by decide) rfl rfl hK hP hD hS hA hl.1 rfl (Nat.le_of_ble_eq_true rfl) ⟨Nat.zero_le _, Nat.zero_le _⟩ dX10_paste_35 (fun r_97 I_97 R_97 J_97 H locs hp_97 hP hD hS _ _ => ?_)
          rcases hp_97 with ⟨rfl, hu_97, nn_97⟩ | ⟨rfl, hu_97, nn_97⟩
          · cases hu_97
            have f_98 : zR 0 60 (I 77 1) := x_there (xI hI 77 1) nn_97
            refine lv_if_eq (tgt := 49) hx hb dX10_paste_38 (by decide) (fun c_0 => absurd c_0 (zD_ne zk_1 zk_z (by decide))) (fun _ => ?_)
            refine lv_aload hx hb dX10_paste_41 (lv_at hl 0 rfl) ?_
            refine z_callVi (k := 77) (As := []) (rest := []) hx hb hml hown ht (xk_X6_isThere_2 l D q cA F _ _ _ hI ) hw_5_63 hmX6_isThere ⟨rfl, rfl⟩ (na := 0) rfl (by decide +kernel) (by decide) (by decide) rfl rfl hK hP hD hS hA hl.1 rfl (Nat.le_of_ble_eq_true rfl) ⟨Nat.zero_le _, Nat.zero_le _⟩ dX10_paste_43 (fun r_99 I_99 R_99 J_99 H locs hp_99 hP hD hS _ _ => ?_)
            rcases hp_99 with ⟨rfl, hu_99, nn_99⟩ | ⟨rfl, hu_99, nn_99⟩
            · cases hu_99
              have f_100 : zR 0 60 (I 77 1) := x_there (xI hI 77 1) nn_99
              refine lv_if_ne (tgt := 52) hx hb dX10_paste_46 (by decide) (fun _ => ?_) (fun c_0 => absurd c_0 (zD_ne zk_1 zk_z (by decide)))
              refine lv_aload hx hb dX10_paste_52 (lv_at hl 1 rfl) ?_
              refine z_get hx hb ht hown hK hP ziX6 rfl 77 (by decide) 0 (by decide) hw_2_78 rfl (v := .int (I 77 0)) rfl dX10_paste_54 ?_
              refine lv_aload hx hb dX10_paste_57 (lv_at hl 0 rfl) ?_
              refine z_get hx hb ht hown hK hP ziX6 rfl 77 (by decide) 0 (by decide) hw_2_78 rfl (v := .int (I 77 0)) rfl dX10_paste_59 ?_
              refine lv_icmp_eq (tgt := 68) hx hb dX10_paste_62 (by decide) (fun c_101 => ?_) (fun c_101 => ?_)
              · have t_c_101 := z_eqT c_101
                refine lv_aload hx hb dX10_paste_68 (lv_at hl 1 rfl) ?_
                refine lv_iload_n hx hb dX10_paste_70 rfl (lv_at hl 4 rfl) ?_
                refine lv_iload hx hb dX10_paste_71 (lv_at hl 7 rfl) ?_
                refine z_callVi (k := 77) (As := [.int (pa1), .int (pa4)]) (rest := []) hx hb hml hown ht (xk_X6_spans_2 l D q cA F _ _ _ hI (pa1) (pa4)) hw_5_177 hmX6_spans ⟨rfl, rfl⟩ (na := 2) rfl (by decide +kernel) (by decide) (by decide) rfl rfl hK hP hD hS hA hl.1 rfl (Nat.le_of_ble_eq_true rfl) ⟨Nat.zero_le _, Nat.zero_le _⟩ dX10_paste_73 (fun r_102 I_102 R_102 J_102 H locs hp_102 hP hD hS _ _ => ?_)
                rcases hp_102 with ⟨rfl, hu_102, nn_102⟩ | ⟨rfl, hu_102, nn_102⟩
                · cases hu_102
                  refine lv_if_eq (tgt := 91) hx hb dX10_paste_76 (by decide) (fun c_0 => absurd c_0 (zD_ne zk_1 zk_z (by decide))) (fun _ => ?_)
                  refine lv_aload hx hb dX10_paste_79 (lv_at hl 0 rfl) ?_
                  refine lv_iload hx hb dX10_paste_81 (lv_at hl 6 rfl) ?_
                  refine lv_iload hx hb dX10_paste_83 (lv_at hl 7 rfl) ?_
                  refine z_callVi (k := 77) (As := [.int (pa3), .int (pa4)]) (rest := []) hx hb hml hown ht (xk_X6_spans_2 l D q cA F _ _ _ hI (pa3) (pa4)) hw_5_177 hmX6_spans ⟨rfl, rfl⟩ (na := 2) rfl (by decide +kernel) (by decide) (by decide) rfl rfl hK hP hD hS hA hl.1 rfl (Nat.le_of_ble_eq_true rfl) ⟨Nat.zero_le _, Nat.zero_le _⟩ dX10_paste_85 (fun r_103 I_103 R_103 J_103 H locs hp_103 hP hD hS _ _ => ?_)
                  rcases hp_103 with ⟨rfl, hu_103, nn_103⟩ | ⟨rfl, hu_103, nn_103⟩
                  · cases hu_103
                    refine lv_if_ne (tgt := 94) hx hb dX10_paste_88 (by decide) (fun _ => ?_) (fun c_0 => absurd c_0 (zD_ne zk_1 zk_z (by decide)))
                    refine lv_aload hx hb dX10_paste_94 (lv_at hl 1 rfl) ?_
                    refine z_get hx hb ht hown hK hP ziX6 rfl 77 (by decide) 2 (by decide) hw_2_84 rfl (v := .ref (q 78)) rfl dX10_paste_96 ?_
                    refine lv_iload_n hx hb dX10_paste_99 rfl (lv_at hl 4 rfl) ?_
                    refine lv_aload hx hb dX10_paste_100 (lv_at hl 0 rfl) ?_
                    refine z_get hx hb ht hown hK hP ziX6 rfl 77 (by decide) 2 (by decide) hw_2_84 rfl (v := .ref (q 78)) rfl dX10_paste_102 ?_
                    refine lv_iload hx hb dX10_paste_105 (lv_at hl 6 rfl) ?_
                    refine lv_iload hx hb dX10_paste_107 (lv_at hl 7 rfl) ?_
                    refine z_copyl hx hb (hml.trans hl.1.symm) ht hown hw_5_181 ⟨hw_3_44, hw_3_43, hw_1_18⟩ hK hP hD hS 78 78 (by decide) (by decide) 55 55 rfl (fun _ => rfl) rfl rfl (x_nn nn_102.1) (x_nn nn_103.1) (x_nn nn_102.2.1) (x_cp nn_102 (xI hI 77 1).2) (x_cp nn_103 (xI hI 77 1).2) (by decide) (by decide +kernel) dX10_paste_109 (fun g_104 H locs eg_104 hP hD hS => ?_)
                    have hI_105 := xInv_J (J2 := (zr J 78 g_104)) hI
                    refine lv_iconst (v := nI 0) hx hb dX10_paste_112 (by decide +kernel) ?_
                    exact z_iret (v := nI 0) hx hb hr hlocks hP hD hS dX10_paste_113 (Or.inr (Or.inr (Or.inr (Or.inr ⟨(by obtain ⟨_, _⟩ := zk_2; obtain ⟨_, _⟩ := zk_2; omega), (show (F 77 1).toInt ≠ -1 ∧ (F 77 1).toInt ≠ -1 from (by have e0 : (I 77 1).toInt = (F 77 1).toInt := congrArg Int32.toInt (xFr hI 77 1 rfl); have e1 : (I 77 1).toInt = (F 77 1).toInt := congrArg Int32.toInt (xFr hI 77 1 rfl); have e2 : (I 77 0).toInt = (F 77 0).toInt := congrArg Int32.toInt (xFr hI 77 0 rfl); have e3 : (I 77 0).toInt = (F 77 0).toInt := congrArg Int32.toInt (xFr hI 77 0 rfl); have _ := nn_99; have _ := nn_99; omega)), (show (F 77 0).toInt = (F 77 0).toInt from (by have e0 : (I 77 1).toInt = (F 77 1).toInt := congrArg Int32.toInt (xFr hI 77 1 rfl); have e1 : (I 77 1).toInt = (F 77 1).toInt := congrArg Int32.toInt (xFr hI 77 1 rfl); have e2 : (I 77 0).toInt = (F 77 0).toInt := congrArg Int32.toInt (xFr hI 77 0 rfl); have e3 : (I 77 0).toInt = (F 77 0).toInt := congrArg Int32.toInt (xFr hI 77 0 rfl); have _ := t_c_101; omega)), (show 0 ≤ pa1.toInt ∧ 0 ≤ pa3.toInt ∧ 0 ≤ pa4.toInt ∧ pa1.toInt + pa4.toInt ≤ (F 77 1).toInt ∧ pa3.toInt + pa4.toInt ≤ (F 77 1).toInt from (by have e0 : (I 77 1).toInt = (F 77 1).toInt := congrArg Int32.toInt (xFr hI 77 1 rfl); have e1 : (I 77 1).toInt = (F 77 1).toInt := congrArg Int32.toInt (xFr hI 77 1 rfl); have e2 : (I 77 0).toInt = (F 77 0).toInt := congrArg Int32.toInt (xFr hI 77 0 rfl); have e3 : (I 77 0).toInt = (F 77 0).toInt := congrArg Int32.toInt (xFr hI 77 0 rfl); have _ := nn_102; have _ := nn_103; omega)), rfl, hI_105⟩))))
                  · cases hu_103
                    refine lv_if_ne (tgt := 94) hx hb dX10_paste_88 (by decide) (fun c_0 => absurd (zD_eq zk_0 zk_z) c_0) (fun _ => ?_)
                    refine lv_bipush (v := (-7)) hx hb dX10_paste_91 (by decide +kernel) ?_
                    exact z_iret (v := (-7)) hx hb hr hlocks hP hD hS dX10_paste_93 (Or.inr (Or.inr (Or.inr (Or.inl ⟨(by obtain ⟨_, _⟩ := zk_2; obtain ⟨_, _⟩ := zk_2; omega), (show (F 77 1).toInt ≠ -1 ∧ (F 77 1).toInt ≠ -1 from (by have e0 : (I 77 1).toInt = (F 77 1).toInt := congrArg Int32.toInt (xFr hI 77 1 rfl); have e1 : (I 77 1).toInt = (F 77 1).toInt := congrArg Int32.toInt (xFr hI 77 1 rfl); have e2 : (I 77 0).toInt = (F 77 0).toInt := congrArg Int32.toInt (xFr hI 77 0 rfl); have e3 : (I 77 0).toInt = (F 77 0).toInt := congrArg Int32.toInt (xFr hI 77 0 rfl); have _ := nn_99; have _ := nn_99; omega)), (show (F 77 0).toInt = (F 77 0).toInt from (by have e0 : (I 77 1).toInt = (F 77 1).toInt := congrArg Int32.toInt (xFr hI 77 1 rfl); have e1 : (I 77 1).toInt = (F 77 1).toInt := congrArg Int32.toInt (xFr hI 77 1 rfl); have e2 : (I 77 0).toInt = (F 77 0).toInt := congrArg Int32.toInt (xFr hI 77 0 rfl); have e3 : (I 77 0).toInt = (F 77 0).toInt := congrArg Int32.toInt (xFr hI 77 0 rfl); have _ := t_c_101; omega)), (show ¬ (0 ≤ pa1.toInt ∧ 0 ≤ pa3.toInt ∧ 0 ≤ pa4.toInt ∧ pa1.toInt + pa4.toInt ≤ (F 77 1).toInt ∧ pa3.toInt + pa4.toInt ≤ (F 77 1).toInt) from (by have e0 : (I 77 1).toInt = (F 77 1).toInt := congrArg Int32.toInt (xFr hI 77 1 rfl); have e1 : (I 77 1).toInt = (F 77 1).toInt := congrArg Int32.toInt (xFr hI 77 1 rfl); have e2 : (I 77 0).toInt = (F 77 0).toInt := congrArg Int32.toInt (xFr hI 77 0 rfl); have e3 : (I 77 0).toInt = (F 77 0).toInt := congrArg Int32.toInt (xFr hI 77 0 rfl); have _ := nn_102; have _ := nn_103; omega)), rfl, hI⟩))))
                · cases hu_102
                  refine lv_if_eq (tgt := 91) hx hb dX10_paste_76 (by decide) (fun _ => ?_) (fun c_0 => absurd (zD_eq zk_0 zk_z) c_0)
                  refine lv_bipush (v := (-7)) hx hb dX10_paste_91 (by decide +kernel) ?_
                  exact z_iret (v := (-7)) hx hb hr hlocks hP hD hS dX10_paste_93 (Or.inr (Or.inr (Or.inr (Or.inl ⟨(by obtain ⟨_, _⟩ := zk_2; obtain ⟨_, _⟩ := zk_2; omega), (show (F 77 1).toInt ≠ -1 ∧ (F 77 1).toInt ≠ -1 from (by have e0 : (I 77 1).toInt = (F 77 1).toInt := congrArg Int32.toInt (xFr hI 77 1 rfl); have e1 : (I 77 1).toInt = (F 77 1).toInt := congrArg Int32.toInt (xFr hI 77 1 rfl); have e2 : (I 77 0).toInt = (F 77 0).toInt := congrArg Int32.toInt (xFr hI 77 0 rfl); have e3 : (I 77 0).toInt = (F 77 0).toInt := congrArg Int32.toInt (xFr hI 77 0 rfl); have _ := nn_99; have _ := nn_99; omega)), (show (F 77 0).toInt = (F 77 0).toInt from (by have e0 : (I 77 1).toInt = (F 77 1).toInt := congrArg Int32.toInt (xFr hI 77 1 rfl); have e1 : (I 77 1).toInt = (F 77 1).toInt := congrArg Int32.toInt (xFr hI 77 1 rfl); have e2 : (I 77 0).toInt = (F 77 0).toInt := congrArg Int32.toInt (xFr hI 77 0 rfl); have e3 : (I 77 0).toInt = (F 77 0).toInt := congrArg Int32.toInt (xFr hI 77 0 rfl); have _ := t_c_101; omega)), (show ¬ (0 ≤ pa1.toInt ∧ 0 ≤ pa3.toInt ∧ 0 ≤ pa4.toInt ∧ pa1.toInt + pa4.toInt ≤ (F 77 1).toInt ∧ pa3.toInt + pa4.toInt ≤ (F 77 1).toInt) from (by have e0 : (I 77 1).toInt = (F 77 1).toInt := congrArg Int32.toInt (xFr hI 77 1 rfl); have e1 : (I 77 1).toInt = (F 77 1).toInt := congrArg Int32.toInt (xFr hI 77 1 rfl); have e2 : (I 77 0).toInt = (F 77 0).toInt := congrArg Int32.toInt (xFr hI 77 0 rfl); have e3 : (I 77 0).toInt = (F 77 0).toInt := congrArg Int32.toInt (xFr hI 77 0 rfl); have _ := nn_102; omega)), rfl, hI⟩))))
              · have t_c_101 := z_eqF c_101
                exact absurd rfl t_c_101
            · cases hu_99
              refine lv_if_ne (tgt := 52) hx hb dX10_paste_46 (by decide) (fun c_0 => absurd (zD_eq zk_0 zk_z) c_0) (fun _ => ?_)
              refine lv_bipush (v := (-6)) hx hb dX10_paste_49 (by decide +kernel) ?_
              exact z_iret (v := (-6)) hx hb hr hlocks hP hD hS dX10_paste_51 (Or.inr (Or.inl ⟨(by obtain ⟨_, _⟩ := zk_2; obtain ⟨_, _⟩ := zk_2; omega), (show (F 77 1).toInt = -1 ∨ (F 77 1).toInt = -1 from (by have e0 : (I 77 1).toInt = (F 77 1).toInt := congrArg Int32.toInt (xFr hI 77 1 rfl); have e1 : (I 77 1).toInt = (F 77 1).toInt := congrArg Int32.toInt (xFr hI 77 1 rfl); have e2 : (I 77 0).toInt = (F 77 0).toInt := congrArg Int32.toInt (xFr hI 77 0 rfl); have e3 : (I 77 0).toInt = (F 77 0).toInt := congrArg Int32.toInt (xFr hI 77 0 rfl); have _ := nn_99; have _ := nn_99; omega)), rfl, hI⟩))
          · cases hu_97
            refine lv_if_eq (tgt := 49) hx hb dX10_paste_38 (by decide) (fun _ => ?_) (fun c_0 => absurd (zD_eq zk_0 zk_z) c_0)
            refine lv_bipush (v := (-6)) hx hb dX10_paste_49 (by decide +kernel) ?_
            exact z_iret (v := (-6)) hx hb hr hlocks hP hD hS dX10_paste_51 (Or.inr (Or.inl ⟨(by obtain ⟨_, _⟩ := zk_2; obtain ⟨_, _⟩ := zk_2; omega), (show (F 77 1).toInt = -1 ∨ (F 77 1).toInt = -1 from (by have e0 : (I 77 1).toInt = (F 77 1).toInt := congrArg Int32.toInt (xFr hI 77 1 rfl); have e1 : (I 77 1).toInt = (F 77 1).toInt := congrArg Int32.toInt (xFr hI 77 1 rfl); have e2 : (I 77 0).toInt = (F 77 0).toInt := congrArg Int32.toInt (xFr hI 77 0 rfl); have e3 : (I 77 0).toInt = (F 77 0).toInt := congrArg Int32.toInt (xFr hI 77 0 rfl); have _ := nn_97; have _ := nn_97; omega)), rfl, hI⟩))
        · refine va_aldq hx hb hK hP 72 52 (zw_at (by decide) rfl) rfl (vp_in_nI (by decide) (by decide)) dX10_paste_30 ?_
          refine W.eq (g2 := F0 m 31 ls (.ref (q 79) :: [])) rfl ?_
          refine lv_astore (lv' := [(7, .ref (q 79)), (6, .ref (q 77)), (0, .ref (q 0)), (1, .int (nI 2)), (2, .int (pa1)), (3, .int (nI 3)), (4, .int (pa3)), (5, .int (pa4))]) hx hb dX10_paste_31 hl (by decide) rfl (fun ls hl => ?_)
          refine lv_aload hx hb dX10_paste_33 (lv_at hl 1 rfl) ?_
          refine z_callVi (k := 77) (As := []) (rest := []) hx hb hml hown ht (xk_X6_isThere_2 l D q cA F _ _ _ hI ) hw_5_63 hmX6_isThere ⟨rfl, rfl⟩ (na := 0) rfl (by decide +kernel) (by decide) (by decide) rfl rfl hK hP hD hS hA hl.1 rfl (Nat.le_of_ble_eq_true rfl) ⟨Nat.zero_le _, Nat.zero_le _⟩ dX10_paste_35 (fun r_106 I_106 R_106 J_106 H locs hp_106 hP hD hS _ _ => ?_)
          rcases hp_106 with ⟨rfl, hu_106, nn_106⟩ | ⟨rfl, hu_106, nn_106⟩
          · cases hu_106
            have f_107 : zR 0 60 (I 77 1) := x_there (xI hI 77 1) nn_106
            refine lv_if_eq (tgt := 49) hx hb dX10_paste_38 (by decide) (fun c_0 => absurd c_0 (zD_ne zk_1 zk_z (by decide))) (fun _ => ?_)
            refine lv_aload hx hb dX10_paste_41 (lv_at hl 0 rfl) ?_
            refine z_callVi (k := 79) (As := []) (rest := []) hx hb hml hown ht (xk_X6_isThere_3 l D q cA F _ _ _ hI ) hw_5_63 hmX6_isThere ⟨rfl, rfl⟩ (na := 0) rfl (by decide +kernel) (by decide) (by decide) rfl rfl hK hP hD hS hA hl.1 rfl (Nat.le_of_ble_eq_true rfl) ⟨Nat.zero_le _, Nat.zero_le _⟩ dX10_paste_43 (fun r_108 I_108 R_108 J_108 H locs hp_108 hP hD hS _ _ => ?_)
            rcases hp_108 with ⟨rfl, hu_108, nn_108⟩ | ⟨rfl, hu_108, nn_108⟩
            · cases hu_108
              have f_109 : zR 0 60 (I 79 1) := x_there (xI hI 79 1) nn_108
              refine lv_if_ne (tgt := 52) hx hb dX10_paste_46 (by decide) (fun _ => ?_) (fun c_0 => absurd c_0 (zD_ne zk_1 zk_z (by decide)))
              refine lv_aload hx hb dX10_paste_52 (lv_at hl 1 rfl) ?_
              refine z_get hx hb ht hown hK hP ziX6 rfl 77 (by decide) 0 (by decide) hw_2_78 rfl (v := .int (I 77 0)) rfl dX10_paste_54 ?_
              refine lv_aload hx hb dX10_paste_57 (lv_at hl 0 rfl) ?_
              refine z_get hx hb ht hown hK hP ziX6 rfl 79 (by decide) 0 (by decide) hw_2_78 rfl (v := .int (I 79 0)) rfl dX10_paste_59 ?_
              refine lv_icmp_eq (tgt := 68) hx hb dX10_paste_62 (by decide) (fun c_110 => ?_) (fun c_110 => ?_)
              · have t_c_110 := z_eqT c_110
                refine lv_aload hx hb dX10_paste_68 (lv_at hl 1 rfl) ?_
                refine lv_iload_n hx hb dX10_paste_70 rfl (lv_at hl 4 rfl) ?_
                refine lv_iload hx hb dX10_paste_71 (lv_at hl 7 rfl) ?_
                refine z_callVi (k := 77) (As := [.int (pa1), .int (pa4)]) (rest := []) hx hb hml hown ht (xk_X6_spans_2 l D q cA F _ _ _ hI (pa1) (pa4)) hw_5_177 hmX6_spans ⟨rfl, rfl⟩ (na := 2) rfl (by decide +kernel) (by decide) (by decide) rfl rfl hK hP hD hS hA hl.1 rfl (Nat.le_of_ble_eq_true rfl) ⟨Nat.zero_le _, Nat.zero_le _⟩ dX10_paste_73 (fun r_111 I_111 R_111 J_111 H locs hp_111 hP hD hS _ _ => ?_)
                rcases hp_111 with ⟨rfl, hu_111, nn_111⟩ | ⟨rfl, hu_111, nn_111⟩
                · cases hu_111
                  refine lv_if_eq (tgt := 91) hx hb dX10_paste_76 (by decide) (fun c_0 => absurd c_0 (zD_ne zk_1 zk_z (by decide))) (fun _ => ?_)
                  refine lv_aload hx hb dX10_paste_79 (lv_at hl 0 rfl) ?_
                  refine lv_iload hx hb dX10_paste_81 (lv_at hl 6 rfl) ?_
                  refine lv_iload hx hb dX10_paste_83 (lv_at hl 7 rfl) ?_
                  refine z_callVi (k := 79) (As := [.int (pa3), .int (pa4)]) (rest := []) hx hb hml hown ht (xk_X6_spans_3 l D q cA F _ _ _ hI (pa3) (pa4)) hw_5_177 hmX6_spans ⟨rfl, rfl⟩ (na := 2) rfl (by decide +kernel) (by decide) (by decide) rfl rfl hK hP hD hS hA hl.1 rfl (Nat.le_of_ble_eq_true rfl) ⟨Nat.zero_le _, Nat.zero_le _⟩ dX10_paste_85 (fun r_112 I_112 R_112 J_112 H locs hp_112 hP hD hS _ _ => ?_)
                  rcases hp_112 with ⟨rfl, hu_112, nn_112⟩ | ⟨rfl, hu_112, nn_112⟩
                  · cases hu_112
                    refine lv_if_ne (tgt := 94) hx hb dX10_paste_88 (by decide) (fun _ => ?_) (fun c_0 => absurd c_0 (zD_ne zk_1 zk_z (by decide)))
                    refine lv_aload hx hb dX10_paste_94 (lv_at hl 1 rfl) ?_
                    refine z_get hx hb ht hown hK hP ziX6 rfl 77 (by decide) 2 (by decide) hw_2_84 rfl (v := .ref (q 78)) rfl dX10_paste_96 ?_
                    refine lv_iload_n hx hb dX10_paste_99 rfl (lv_at hl 4 rfl) ?_
                    refine lv_aload hx hb dX10_paste_100 (lv_at hl 0 rfl) ?_
                    refine z_get hx hb ht hown hK hP ziX6 rfl 79 (by decide) 2 (by decide) hw_2_84 rfl (v := .ref (q 80)) rfl dX10_paste_102 ?_
                    refine lv_iload hx hb dX10_paste_105 (lv_at hl 6 rfl) ?_
                    refine lv_iload hx hb dX10_paste_107 (lv_at hl 7 rfl) ?_
                    refine z_copyl hx hb (hml.trans hl.1.symm) ht hown hw_5_181 ⟨hw_3_44, hw_3_43, hw_1_18⟩ hK hP hD hS 78 80 (by decide) (by decide) 55 56 rfl (fun _ => rfl) rfl rfl (x_nn nn_111.1) (x_nn nn_112.1) (x_nn nn_111.2.1) (x_cp nn_111 (xI hI 77 1).2) (x_cp nn_112 (xI hI 79 1).2) (by decide) (by decide +kernel) dX10_paste_109 (fun g_113 H locs eg_113 hP hD hS => ?_)
                    have hI_114 := xInv_J (J2 := (zr J 80 g_113)) hI
                    refine lv_iconst (v := nI 0) hx hb dX10_paste_112 (by decide +kernel) ?_
                    exact z_iret (v := nI 0) hx hb hr hlocks hP hD hS dX10_paste_113 (Or.inr (Or.inr (Or.inr (Or.inr ⟨(by obtain ⟨_, _⟩ := zk_2; obtain ⟨_, _⟩ := zk_3; omega), (show (F 77 1).toInt ≠ -1 ∧ (F 79 1).toInt ≠ -1 from (by have e0 : (I 77 1).toInt = (F 77 1).toInt := congrArg Int32.toInt (xFr hI 77 1 rfl); have e1 : (I 79 1).toInt = (F 79 1).toInt := congrArg Int32.toInt (xFr hI 79 1 rfl); have e2 : (I 77 0).toInt = (F 77 0).toInt := congrArg Int32.toInt (xFr hI 77 0 rfl); have e3 : (I 79 0).toInt = (F 79 0).toInt := congrArg Int32.toInt (xFr hI 79 0 rfl); have _ := nn_106; have _ := nn_108; omega)), (show (F 77 0).toInt = (F 79 0).toInt from (by have e0 : (I 77 1).toInt = (F 77 1).toInt := congrArg Int32.toInt (xFr hI 77 1 rfl); have e1 : (I 79 1).toInt = (F 79 1).toInt := congrArg Int32.toInt (xFr hI 79 1 rfl); have e2 : (I 77 0).toInt = (F 77 0).toInt := congrArg Int32.toInt (xFr hI 77 0 rfl); have e3 : (I 79 0).toInt = (F 79 0).toInt := congrArg Int32.toInt (xFr hI 79 0 rfl); have _ := t_c_110; omega)), (show 0 ≤ pa1.toInt ∧ 0 ≤ pa3.toInt ∧ 0 ≤ pa4.toInt ∧ pa1.toInt + pa4.toInt ≤ (F 77 1).toInt ∧ pa3.toInt + pa4.toInt ≤ (F 79 1).toInt from (by have e0 : (I 77 1).toInt = (F 77 1).toInt := congrArg Int32.toInt (xFr hI 77 1 rfl); have e1 : (I 79 1).toInt = (F 79 1).toInt := congrArg Int32.toInt (xFr hI 79 1 rfl); have e2 : (I 77 0).toInt = (F 77 0).toInt := congrArg Int32.toInt (xFr hI 77 0 rfl); have e3 : (I 79 0).toInt = (F 79 0).toInt := congrArg Int32.toInt (xFr hI 79 0 rfl); have _ := nn_111; have _ := nn_112; omega)), rfl, hI_114⟩))))
                  · cases hu_112
                    refine lv_if_ne (tgt := 94) hx hb dX10_paste_88 (by decide) (fun c_0 => absurd (zD_eq zk_0 zk_z) c_0) (fun _ => ?_)
                    refine lv_bipush (v := (-7)) hx hb dX10_paste_91 (by decide +kernel) ?_
                    exact z_iret (v := (-7)) hx hb hr hlocks hP hD hS dX10_paste_93 (Or.inr (Or.inr (Or.inr (Or.inl ⟨(by obtain ⟨_, _⟩ := zk_2; obtain ⟨_, _⟩ := zk_3; omega), (show (F 77 1).toInt ≠ -1 ∧ (F 79 1).toInt ≠ -1 from (by have e0 : (I 77 1).toInt = (F 77 1).toInt := congrArg Int32.toInt (xFr hI 77 1 rfl); have e1 : (I 79 1).toInt = (F 79 1).toInt := congrArg Int32.toInt (xFr hI 79 1 rfl); have e2 : (I 77 0).toInt = (F 77 0).toInt := congrArg Int32.toInt (xFr hI 77 0 rfl); have e3 : (I 79 0).toInt = (F 79 0).toInt := congrArg Int32.toInt (xFr hI 79 0 rfl); have _ := nn_106; have _ := nn_108; omega)), (show (F 77 0).toInt = (F 79 0).toInt from (by have e0 : (I 77 1).toInt = (F 77 1).toInt := congrArg Int32.toInt (xFr hI 77 1 rfl); have e1 : (I 79 1).toInt = (F 79 1).toInt := congrArg Int32.toInt (xFr hI 79 1 rfl); have e2 : (I 77 0).toInt = (F 77 0).toInt := congrArg Int32.toInt (xFr hI 77 0 rfl); have e3 : (I 79 0).toInt = (F 79 0).toInt := congrArg Int32.toInt (xFr hI 79 0 rfl); have _ := t_c_110; omega)), (show ¬ (0 ≤ pa1.toInt ∧ 0 ≤ pa3.toInt ∧ 0 ≤ pa4.toInt ∧ pa1.toInt + pa4.toInt ≤ (F 77 1).toInt ∧ pa3.toInt + pa4.toInt ≤ (F 79 1).toInt) from (by have e0 : (I 77 1).toInt = (F 77 1).toInt := congrArg Int32.toInt (xFr hI 77 1 rfl); have e1 : (I 79 1).toInt = (F 79 1).toInt := congrArg Int32.toInt (xFr hI 79 1 rfl); have e2 : (I 77 0).toInt = (F 77 0).toInt := congrArg Int32.toInt (xFr hI 77 0 rfl); have e3 : (I 79 0).toInt = (F 79 0).toInt := congrArg Int32.toInt (xFr hI 79 0 rfl); have _ := nn_111; have _ := nn_112; omega)), rfl, hI⟩))))
                · cases hu_111
                  refine lv_if_eq (tgt := 91) hx hb dX10_paste_76 (by decide) (fun _ => ?_) (fun c_0 => absurd (zD_eq zk_0 zk_z) c_0)
                  refine lv_bipush (v := (-7)) hx hb dX10_paste_91 (by decide +kernel) ?_
                  exact z_iret (v := (-7)) hx hb hr hlocks hP hD hS dX10_paste_93 (Or.inr (Or.inr (Or.inr (Or.inl ⟨(by obtain ⟨_, _⟩ := zk_2; obtain ⟨_, _⟩ := zk_3; omega), (show (F 77 1).toInt ≠ -1 ∧ (F 79 1).toInt ≠ -1 from (by have e0 : (I 77 1).toInt = (F 77 1).toInt := congrArg Int32.toInt (xFr hI 77 1 rfl); have e1 : (I 79 1).toInt = (F 79 1).toInt := congrArg Int32.toInt (xFr hI 79 1 rfl); have e2 : (I 77 0).toInt = (F 77 0).toInt := congrArg Int32.toInt (xFr hI 77 0 rfl); have e3 : (I 79 0).toInt = (F 79 0).toInt := congrArg Int32.toInt (xFr hI 79 0 rfl); have _ := nn_106; have _ := nn_108; omega)), (show (F 77 0).toInt = (F 79 0).toInt from (by have e0 : (I 77 1).toInt = (F 77 1).toInt := congrArg Int32.toInt (xFr hI 77 1 rfl); have e1 : (I 79 1).toInt = (F 79 1).toInt := congrArg Int32.toInt (xFr hI 79 1 rfl); have e2 : (I 77 0).toInt = (F 77 0).toInt := congrArg Int32.toInt (xFr hI 77 0 rfl); have e3 : (I 79 0).toInt = (F 79 0).toInt := congrArg Int32.toInt (xFr hI 79 0 rfl); have _ := t_c_110; omega)), (show ¬ (0 ≤ pa1.toInt ∧ 0 ≤ pa3.toInt ∧ 0 ≤ pa4.toInt ∧ pa1.toInt + pa4.toInt ≤ (F 77 1).toInt ∧ pa3.toInt + pa4.toInt ≤ (F 79 1).toInt) from (by have e0 : (I 77 1).toInt = (F 77 1).toInt := congrArg Int32.toInt (xFr hI 77 1 rfl); have e1 : (I 79 1).toInt = (F 79 1).toInt := congrArg Int32.toInt (xFr hI 79 1 rfl); have e2 : (I 77 0).toInt = (F 77 0).toInt := congrArg Int32.toInt (xFr hI 77 0 rfl); have e3 : (I 79 0).toInt = (F 79 0).toInt := congrArg Int32.toInt (xFr hI 79 0 rfl); have _ := nn_111; omega)), rfl, hI⟩))))
              · have t_c_110 := z_eqF c_110
                refine lv_bipush (v := (-8)) hx hb dX10_paste_65 (by decide +kernel) ?_
                exact z_iret (v := (-8)) hx hb hr hlocks hP hD hS dX10_paste_67 (Or.inr (Or.inr (Or.inl ⟨(by obtain ⟨_, _⟩ := zk_2; obtain ⟨_, _⟩ := zk_3; omega), (show (F 77 1).toInt ≠ -1 ∧ (F 79 1).toInt ≠ -1 from (by have e0 : (I 77 1).toInt = (F 77 1).toInt := congrArg Int32.toInt (xFr hI 77 1 rfl); have e1 : (I 79 1).toInt = (F 79 1).toInt := congrArg Int32.toInt (xFr hI 79 1 rfl); have e2 : (I 77 0).toInt = (F 77 0).toInt := congrArg Int32.toInt (xFr hI 77 0 rfl); have e3 : (I 79 0).toInt = (F 79 0).toInt := congrArg Int32.toInt (xFr hI 79 0 rfl); have _ := nn_106; have _ := nn_108; omega)), (show (F 77 0).toInt ≠ (F 79 0).toInt from (by have e0 : (I 77 1).toInt = (F 77 1).toInt := congrArg Int32.toInt (xFr hI 77 1 rfl); have e1 : (I 79 1).toInt = (F 79 1).toInt := congrArg Int32.toInt (xFr hI 79 1 rfl); have e2 : (I 77 0).toInt = (F 77 0).toInt := congrArg Int32.toInt (xFr hI 77 0 rfl); have e3 : (I 79 0).toInt = (F 79 0).toInt := congrArg Int32.toInt (xFr hI 79 0 rfl); have _ := t_c_110; omega)), rfl, hI⟩)))
            · cases hu_108
              refine lv_if_ne (tgt := 52) hx hb dX10_paste_46 (by decide) (fun c_0 => absurd (zD_eq zk_0 zk_z) c_0) (fun _ => ?_)
              refine lv_bipush (v := (-6)) hx hb dX10_paste_49 (by decide +kernel) ?_
              exact z_iret (v := (-6)) hx hb hr hlocks hP hD hS dX10_paste_51 (Or.inr (Or.inl ⟨(by obtain ⟨_, _⟩ := zk_2; obtain ⟨_, _⟩ := zk_3; omega), (show (F 77 1).toInt = -1 ∨ (F 79 1).toInt = -1 from (by have e0 : (I 77 1).toInt = (F 77 1).toInt := congrArg Int32.toInt (xFr hI 77 1 rfl); have e1 : (I 79 1).toInt = (F 79 1).toInt := congrArg Int32.toInt (xFr hI 79 1 rfl); have e2 : (I 77 0).toInt = (F 77 0).toInt := congrArg Int32.toInt (xFr hI 77 0 rfl); have e3 : (I 79 0).toInt = (F 79 0).toInt := congrArg Int32.toInt (xFr hI 79 0 rfl); have _ := nn_106; have _ := nn_108; omega)), rfl, hI⟩))
          · cases hu_106
            refine lv_if_eq (tgt := 49) hx hb dX10_paste_38 (by decide) (fun _ => ?_) (fun c_0 => absurd (zD_eq zk_0 zk_z) c_0)
            refine lv_bipush (v := (-6)) hx hb dX10_paste_49 (by decide +kernel) ?_
            exact z_iret (v := (-6)) hx hb hr hlocks hP hD hS dX10_paste_51 (Or.inr (Or.inl ⟨(by obtain ⟨_, _⟩ := zk_2; obtain ⟨_, _⟩ := zk_3; omega), (show (F 77 1).toInt = -1 ∨ (F 79 1).toInt = -1 from (by have e0 : (I 77 1).toInt = (F 77 1).toInt := congrArg Int32.toInt (xFr hI 77 1 rfl); have e1 : (I 79 1).toInt = (F 79 1).toInt := congrArg Int32.toInt (xFr hI 79 1 rfl); have e2 : (I 77 0).toInt = (F 77 0).toInt := congrArg Int32.toInt (xFr hI 77 0 rfl); have e3 : (I 79 0).toInt = (F 79 0).toInt := congrArg Int32.toInt (xFr hI 79 0 rfl); have _ := nn_106; omega)), rfl, hI⟩))
      · refine va_aldq hx hb hK hP 72 52 (zw_at (by decide) rfl) rfl (vp_in_nI (by decide) (by decide)) dX10_paste_22 ?_
        refine W.eq (g2 := F0 m 23 ls (.ref (q 79) :: [])) rfl ?_
        refine lv_astore (lv' := [(6, .ref (q 79)), (0, .ref (q 0)), (1, .int (nI 3)), (2, .int (pa1)), (3, .int (pa2)), (4, .int (pa3)), (5, .int (pa4))]) hx hb dX10_paste_23 hl (by decide) rfl (fun ls hl => ?_)
        refine lv_aload_n hx hb dX10_paste_25 rfl (lv_at hl 1 rfl) ?_
        refine z_get hx hb ht hown hK hP ziX10 rfl 0 (by decide) 11 (by decide) hw_2_104 rfl (v := .ref (q 72)) rfl dX10_paste_26 ?_
        refine lv_iload_n hx hb dX10_paste_29 rfl (lv_at hl 4 rfl) ?_
        obtain ⟨n_115, hn_115, rfl⟩ := z_ex (x := pa2) (N := 4) (zR_w f0_2 (a' := 0) (b' := 3) (by decide)).1 (Int.lt_of_le_of_lt (zR_w f0_2 (a' := 0) (b' := 3) (by decide)).2 (by decide))
        rcases (show n_115 = 0 ∨ n_115 = 1 ∨ n_115 = 2 ∨ n_115 = 3 by omega) with rfl | rfl | rfl | rfl
        · refine va_aldq hx hb hK hP 72 52 (zw_at (by decide) rfl) rfl (vp_in_nI (by decide) (by decide)) dX10_paste_30 ?_
          refine W.eq (g2 := F0 m 31 ls (.ref (q 73) :: [])) rfl ?_
          refine lv_astore (lv' := [(7, .ref (q 73)), (6, .ref (q 79)), (0, .ref (q 0)), (1, .int (nI 3)), (2, .int (pa1)), (3, .int (nI 0)), (4, .int (pa3)), (5, .int (pa4))]) hx hb dX10_paste_31 hl (by decide) rfl (fun ls hl => ?_)
          refine lv_aload hx hb dX10_paste_33 (lv_at hl 1 rfl) ?_
          refine z_callVi (k := 79) (As := []) (rest := []) hx hb hml hown ht (xk_X6_isThere_3 l D q cA F _ _ _ hI ) hw_5_63 hmX6_isThere ⟨rfl, rfl⟩ (na := 0) rfl (by decide +kernel) (by decide) (by decide) rfl rfl hK hP hD hS hA hl.1 rfl (Nat.le_of_ble_eq_true rfl) ⟨Nat.zero_le _, Nat.zero_le _⟩ dX10_paste_35 (fun r_116 I_116 R_116 J_116 H locs hp_116 hP hD hS _ _ => ?_)
          rcases hp_116 with ⟨rfl, hu_116, nn_116⟩ | ⟨rfl, hu_116, nn_116⟩
          · cases hu_116
            have f_117 : zR 0 60 (I 79 1) := x_there (xI hI 79 1) nn_116
            refine lv_if_eq (tgt := 49) hx hb dX10_paste_38 (by decide) (fun c_0 => absurd c_0 (zD_ne zk_1 zk_z (by decide))) (fun _ => ?_)
            refine lv_aload hx hb dX10_paste_41 (lv_at hl 0 rfl) ?_
            refine z_callVi (k := 73) (As := []) (rest := []) hx hb hml hown ht (xk_X6_isThere l D q cA F _ _ _ hI ) hw_5_63 hmX6_isThere ⟨rfl, rfl⟩ (na := 0) rfl (by decide +kernel) (by decide) (by decide) rfl rfl hK hP hD hS hA hl.1 rfl (Nat.le_of_ble_eq_true rfl) ⟨Nat.zero_le _, Nat.zero_le _⟩ dX10_paste_43 (fun r_118 I_118 R_118 J_118 H locs hp_118 hP hD hS _ _ => ?_)
            rcases hp_118 with ⟨rfl, hu_118, nn_118⟩ | ⟨rfl, hu_118, nn_118⟩
            · cases hu_118
              have f_119 : zR 0 60 (I 73 1) := x_there (xI hI 73 1) nn_118
              refine lv_if_ne (tgt := 52) hx hb dX10_paste_46 (by decide) (fun _ => ?_) (fun c_0 => absurd c_0 (zD_ne zk_1 zk_z (by decide)))
              refine lv_aload hx hb dX10_paste_52 (lv_at hl 1 rfl) ?_
              refine z_get hx hb ht hown hK hP ziX6 rfl 79 (by decide) 0 (by decide) hw_2_78 rfl (v := .int (I 79 0)) rfl dX10_paste_54 ?_
              refine lv_aload hx hb dX10_paste_57 (lv_at hl 0 rfl) ?_
              refine z_get hx hb ht hown hK hP ziX6 rfl 73 (by decide) 0 (by decide) hw_2_78 rfl (v := .int (I 73 0)) rfl dX10_paste_59 ?_
              refine lv_icmp_eq (tgt := 68) hx hb dX10_paste_62 (by decide) (fun c_120 => ?_) (fun c_120 => ?_)
              · have t_c_120 := z_eqT c_120
                refine lv_aload hx hb dX10_paste_68 (lv_at hl 1 rfl) ?_
                refine lv_iload_n hx hb dX10_paste_70 rfl (lv_at hl 4 rfl) ?_
                refine lv_iload hx hb dX10_paste_71 (lv_at hl 7 rfl) ?_
                refine z_callVi (k := 79) (As := [.int (pa1), .int (pa4)]) (rest := []) hx hb hml hown ht (xk_X6_spans_3 l D q cA F _ _ _ hI (pa1) (pa4)) hw_5_177 hmX6_spans ⟨rfl, rfl⟩ (na := 2) rfl (by decide +kernel) (by decide) (by decide) rfl rfl hK hP hD hS hA hl.1 rfl (Nat.le_of_ble_eq_true rfl) ⟨Nat.zero_le _, Nat.zero_le _⟩ dX10_paste_73 (fun r_121 I_121 R_121 J_121 H locs hp_121 hP hD hS _ _ => ?_)
                rcases hp_121 with ⟨rfl, hu_121, nn_121⟩ | ⟨rfl, hu_121, nn_121⟩
                · cases hu_121
                  refine lv_if_eq (tgt := 91) hx hb dX10_paste_76 (by decide) (fun c_0 => absurd c_0 (zD_ne zk_1 zk_z (by decide))) (fun _ => ?_)
                  refine lv_aload hx hb dX10_paste_79 (lv_at hl 0 rfl) ?_
                  refine lv_iload hx hb dX10_paste_81 (lv_at hl 6 rfl) ?_
                  refine lv_iload hx hb dX10_paste_83 (lv_at hl 7 rfl) ?_
                  refine z_callVi (k := 73) (As := [.int (pa3), .int (pa4)]) (rest := []) hx hb hml hown ht (xk_X6_spans l D q cA F _ _ _ hI (pa3) (pa4)) hw_5_177 hmX6_spans ⟨rfl, rfl⟩ (na := 2) rfl (by decide +kernel) (by decide) (by decide) rfl rfl hK hP hD hS hA hl.1 rfl (Nat.le_of_ble_eq_true rfl) ⟨Nat.zero_le _, Nat.zero_le _⟩ dX10_paste_85 (fun r_122 I_122 R_122 J_122 H locs hp_122 hP hD hS _ _ => ?_)
                  rcases hp_122 with ⟨rfl, hu_122, nn_122⟩ | ⟨rfl, hu_122, nn_122⟩
                  · cases hu_122
                    refine lv_if_ne (tgt := 94) hx hb dX10_paste_88 (by decide) (fun _ => ?_) (fun c_0 => absurd c_0 (zD_ne zk_1 zk_z (by decide)))
                    refine lv_aload hx hb dX10_paste_94 (lv_at hl 1 rfl) ?_
                    refine z_get hx hb ht hown hK hP ziX6 rfl 79 (by decide) 2 (by decide) hw_2_84 rfl (v := .ref (q 80)) rfl dX10_paste_96 ?_
                    refine lv_iload_n hx hb dX10_paste_99 rfl (lv_at hl 4 rfl) ?_
                    refine lv_aload hx hb dX10_paste_100 (lv_at hl 0 rfl) ?_
                    refine z_get hx hb ht hown hK hP ziX6 rfl 73 (by decide) 2 (by decide) hw_2_84 rfl (v := .ref (q 74)) rfl dX10_paste_102 ?_
                    refine lv_iload hx hb dX10_paste_105 (lv_at hl 6 rfl) ?_
                    refine lv_iload hx hb dX10_paste_107 (lv_at hl 7 rfl) ?_
                    refine z_copyl hx hb (hml.trans hl.1.symm) ht hown hw_5_181 ⟨hw_3_44, hw_3_43, hw_1_18⟩ hK hP hD hS 80 74 (by decide) (by decide) 56 53 rfl (fun _ => rfl) rfl rfl (x_nn nn_121.1) (x_nn nn_122.1) (x_nn nn_121.2.1) (x_cp nn_121 (xI hI 79 1).2) (x_cp nn_122 (xI hI 73 1).2) (by decide) (by decide +kernel) dX10_paste_109 (fun g_123 H locs eg_123 hP hD hS => ?_)
                    have hI_124 := xInv_J (J2 := (zr J 74 g_123)) hI
                    refine lv_iconst (v := nI 0) hx hb dX10_paste_112 (by decide +kernel) ?_
                    exact z_iret (v := nI 0) hx hb hr hlocks hP hD hS dX10_paste_113 (Or.inr (Or.inr (Or.inr (Or.inr ⟨(by obtain ⟨_, _⟩ := zk_3; obtain ⟨_, _⟩ := zk_0; omega), (show (F 79 1).toInt ≠ -1 ∧ (F 73 1).toInt ≠ -1 from (by have e0 : (I 79 1).toInt = (F 79 1).toInt := congrArg Int32.toInt (xFr hI 79 1 rfl); have e1 : (I 73 1).toInt = (F 73 1).toInt := congrArg Int32.toInt (xFr hI 73 1 rfl); have e2 : (I 79 0).toInt = (F 79 0).toInt := congrArg Int32.toInt (xFr hI 79 0 rfl); have e3 : (I 73 0).toInt = (F 73 0).toInt := congrArg Int32.toInt (xFr hI 73 0 rfl); have _ := nn_116; have _ := nn_118; omega)), (show (F 79 0).toInt = (F 73 0).toInt from (by have e0 : (I 79 1).toInt = (F 79 1).toInt := congrArg Int32.toInt (xFr hI 79 1 rfl); have e1 : (I 73 1).toInt = (F 73 1).toInt := congrArg Int32.toInt (xFr hI 73 1 rfl); have e2 : (I 79 0).toInt = (F 79 0).toInt := congrArg Int32.toInt (xFr hI 79 0 rfl); have e3 : (I 73 0).toInt = (F 73 0).toInt := congrArg Int32.toInt (xFr hI 73 0 rfl); have _ := t_c_120; omega)), (show 0 ≤ pa1.toInt ∧ 0 ≤ pa3.toInt ∧ 0 ≤ pa4.toInt ∧ pa1.toInt + pa4.toInt ≤ (F 79 1).toInt ∧ pa3.toInt + pa4.toInt ≤ (F 73 1).toInt from (by have e0 : (I 79 1).toInt = (F 79 1).toInt := congrArg Int32.toInt (xFr hI 79 1 rfl); have e1 : (I 73 1).toInt = (F 73 1).toInt := congrArg Int32.toInt (xFr hI 73 1 rfl); have e2 : (I 79 0).toInt = (F 79 0).toInt := congrArg Int32.toInt (xFr hI 79 0 rfl); have e3 : (I 73 0).toInt = (F 73 0).toInt := congrArg Int32.toInt (xFr hI 73 0 rfl); have _ := nn_121; have _ := nn_122; omega)), rfl, hI_124⟩))))
                  · cases hu_122
                    refine lv_if_ne (tgt := 94) hx hb dX10_paste_88 (by decide) (fun c_0 => absurd (zD_eq zk_0 zk_z) c_0) (fun _ => ?_)
                    refine lv_bipush (v := (-7)) hx hb dX10_paste_91 (by decide +kernel) ?_
                    exact z_iret (v := (-7)) hx hb hr hlocks hP hD hS dX10_paste_93 (Or.inr (Or.inr (Or.inr (Or.inl ⟨(by obtain ⟨_, _⟩ := zk_3; obtain ⟨_, _⟩ := zk_0; omega), (show (F 79 1).toInt ≠ -1 ∧ (F 73 1).toInt ≠ -1 from (by have e0 : (I 79 1).toInt = (F 79 1).toInt := congrArg Int32.toInt (xFr hI 79 1 rfl); have e1 : (I 73 1).toInt = (F 73 1).toInt := congrArg Int32.toInt (xFr hI 73 1 rfl); have e2 : (I 79 0).toInt = (F 79 0).toInt := congrArg Int32.toInt (xFr hI 79 0 rfl); have e3 : (I 73 0).toInt = (F 73 0).toInt := congrArg Int32.toInt (xFr hI 73 0 rfl); have _ := nn_116; have _ := nn_118; omega)), (show (F 79 0).toInt = (F 73 0).toInt from (by have e0 : (I 79 1).toInt = (F 79 1).toInt := congrArg Int32.toInt (xFr hI 79 1 rfl); have e1 : (I 73 1).toInt = (F 73 1).toInt := congrArg Int32.toInt (xFr hI 73 1 rfl); have e2 : (I 79 0).toInt = (F 79 0).toInt := congrArg Int32.toInt (xFr hI 79 0 rfl); have e3 : (I 73 0).toInt = (F 73 0).toInt := congrArg Int32.toInt (xFr hI 73 0 rfl); have _ := t_c_120; omega)), (show ¬ (0 ≤ pa1.toInt ∧ 0 ≤ pa3.toInt ∧ 0 ≤ pa4.toInt ∧ pa1.toInt + pa4.toInt ≤ (F 79 1).toInt ∧ pa3.toInt + pa4.toInt ≤ (F 73 1).toInt) from (by have e0 : (I 79 1).toInt = (F 79 1).toInt := congrArg Int32.toInt (xFr hI 79 1 rfl); have e1 : (I 73 1).toInt = (F 73 1).toInt := congrArg Int32.toInt (xFr hI 73 1 rfl); have e2 : (I 79 0).toInt = (F 79 0).toInt := congrArg Int32.toInt (xFr hI 79 0 rfl); have e3 : (I 73 0).toInt = (F 73 0).toInt := congrArg Int32.toInt (xFr hI 73 0 rfl); have _ := nn_121; have _ := nn_122; omega)), rfl, hI⟩))))
                · cases hu_121
                  refine lv_if_eq (tgt := 91) hx hb dX10_paste_76 (by decide) (fun _ => ?_) (fun c_0 => absurd (zD_eq zk_0 zk_z) c_0)
                  refine lv_bipush (v := (-7)) hx hb dX10_paste_91 (by decide +kernel) ?_
                  exact z_iret (v := (-7)) hx hb hr hlocks hP hD hS dX10_paste_93 (Or.inr (Or.inr (Or.inr (Or.inl ⟨(by obtain ⟨_, _⟩ := zk_3; obtain ⟨_, _⟩ := zk_0; omega), (show (F 79 1).toInt ≠ -1 ∧ (F 73 1).toInt ≠ -1 from (by have e0 : (I 79 1).toInt = (F 79 1).toInt := congrArg Int32.toInt (xFr hI 79 1 rfl); have e1 : (I 73 1).toInt = (F 73 1).toInt := congrArg Int32.toInt (xFr hI 73 1 rfl); have e2 : (I 79 0).toInt = (F 79 0).toInt := congrArg Int32.toInt (xFr hI 79 0 rfl); have e3 : (I 73 0).toInt = (F 73 0).toInt := congrArg Int32.toInt (xFr hI 73 0 rfl); have _ := nn_116; have _ := nn_118; omega)), (show (F 79 0).toInt = (F 73 0).toInt from (by have e0 : (I 79 1).toInt = (F 79 1).toInt := congrArg Int32.toInt (xFr hI 79 1 rfl); have e1 : (I 73 1).toInt = (F 73 1).toInt := congrArg Int32.toInt (xFr hI 73 1 rfl); have e2 : (I 79 0).toInt = (F 79 0).toInt := congrArg Int32.toInt (xFr hI 79 0 rfl); have e3 : (I 73 0).toInt = (F 73 0).toInt := congrArg Int32.toInt (xFr hI 73 0 rfl); have _ := t_c_120; omega)), (show ¬ (0 ≤ pa1.toInt ∧ 0 ≤ pa3.toInt ∧ 0 ≤ pa4.toInt ∧ pa1.toInt + pa4.toInt ≤ (F 79 1).toInt ∧ pa3.toInt + pa4.toInt ≤ (F 73 1).toInt) from (by have e0 : (I 79 1).toInt = (F 79 1).toInt := congrArg Int32.toInt (xFr hI 79 1 rfl); have e1 : (I 73 1).toInt = (F 73 1).toInt := congrArg Int32.toInt (xFr hI 73 1 rfl); have e2 : (I 79 0).toInt = (F 79 0).toInt := congrArg Int32.toInt (xFr hI 79 0 rfl); have e3 : (I 73 0).toInt = (F 73 0).toInt := congrArg Int32.toInt (xFr hI 73 0 rfl); have _ := nn_121; omega)), rfl, hI⟩))))
              · have t_c_120 := z_eqF c_120
                refine lv_bipush (v := (-8)) hx hb dX10_paste_65 (by decide +kernel) ?_
                exact z_iret (v := (-8)) hx hb hr hlocks hP hD hS dX10_paste_67 (Or.inr (Or.inr (Or.inl ⟨(by obtain ⟨_, _⟩ := zk_3; obtain ⟨_, _⟩ := zk_0; omega), (show (F 79 1).toInt ≠ -1 ∧ (F 73 1).toInt ≠ -1 from (by have e0 : (I 79 1).toInt = (F 79 1).toInt := congrArg Int32.toInt (xFr hI 79 1 rfl); have e1 : (I 73 1).toInt = (F 73 1).toInt := congrArg Int32.toInt (xFr hI 73 1 rfl); have e2 : (I 79 0).toInt = (F 79 0).toInt := congrArg Int32.toInt (xFr hI 79 0 rfl); have e3 : (I 73 0).toInt = (F 73 0).toInt := congrArg Int32.toInt (xFr hI 73 0 rfl); have _ := nn_116; have _ := nn_118; omega)), (show (F 79 0).toInt ≠ (F 73 0).toInt from (by have e0 : (I 79 1).toInt = (F 79 1).toInt := congrArg Int32.toInt (xFr hI 79 1 rfl); have e1 : (I 73 1).toInt = (F 73 1).toInt := congrArg Int32.toInt (xFr hI 73 1 rfl); have e2 : (I 79 0).toInt = (F 79 0).toInt := congrArg Int32.toInt (xFr hI 79 0 rfl); have e3 : (I 73 0).toInt = (F 73 0).toInt := congrArg Int32.toInt (xFr hI 73 0 rfl); have _ := t_c_120; omega)), rfl, hI⟩)))
            · cases hu_118
              refine lv_if_ne (tgt := 52) hx hb dX10_paste_46 (by decide) (fun c_0 => absurd (zD_eq zk_0 zk_z) c_0) (fun _ => ?_)
              refine lv_bipush (v := (-6)) hx hb dX10_paste_49 (by decide +kernel) ?_
              exact z_iret (v := (-6)) hx hb hr hlocks hP hD hS dX10_paste_51 (Or.inr (Or.inl ⟨(by obtain ⟨_, _⟩ := zk_3; obtain ⟨_, _⟩ := zk_0; omega), (show (F 79 1).toInt = -1 ∨ (F 73 1).toInt = -1 from (by have e0 : (I 79 1).toInt = (F 79 1).toInt := congrArg Int32.toInt (xFr hI 79 1 rfl); have e1 : (I 73 1).toInt = (F 73 1).toInt := congrArg Int32.toInt (xFr hI 73 1 rfl); have e2 : (I 79 0).toInt = (F 79 0).toInt := congrArg Int32.toInt (xFr hI 79 0 rfl); have e3 : (I 73 0).toInt = (F 73 0).toInt := congrArg Int32.toInt (xFr hI 73 0 rfl); have _ := nn_116; have _ := nn_118; omega)), rfl, hI⟩))
          · cases hu_116
            refine lv_if_eq (tgt := 49) hx hb dX10_paste_38 (by decide) (fun _ => ?_) (fun c_0 => absurd (zD_eq zk_0 zk_z) c_0)
            refine lv_bipush (v := (-6)) hx hb dX10_paste_49 (by decide +kernel) ?_
            exact z_iret (v := (-6)) hx hb hr hlocks hP hD hS dX10_paste_51 (Or.inr (Or.inl ⟨(by obtain ⟨_, _⟩ := zk_3; obtain ⟨_, _⟩ := zk_0; omega), (show (F 79 1).toInt = -1 ∨ (F 73 1).toInt = -1 from (by have e0 : (I 79 1).toInt = (F 79 1).toInt := congrArg Int32.toInt (xFr hI 79 1 rfl); have e1 : (I 73 1).toInt = (F 73 1).toInt := congrArg Int32.toInt (xFr hI 73 1 rfl); have e2 : (I 79 0).toInt = (F 79 0).toInt := congrArg Int32.toInt (xFr hI 79 0 rfl); have e3 : (I 73 0).toInt = (F 73 0).toInt := congrArg Int32.toInt (xFr hI 73 0 rfl); have _ := nn_116; omega)), rfl, hI⟩))
        · refine va_aldq hx hb hK hP 72 52 (zw_at (by decide) rfl) rfl (vp_in_nI (by decide) (by decide)) dX10_paste_30 ?_
          refine W.eq (g2 := F0 m 31 ls (.ref (q 75) :: [])) rfl ?_
          refine lv_astore (lv' := [(7, .ref (q 75)), (6, .ref (q 79)), (0, .ref (q 0)), (1, .int (nI 3)), (2, .int (pa1)), (3, .int (nI 1)), (4, .int (pa3)), (5, .int (pa4))]) hx hb dX10_paste_31 hl (by decide) rfl (fun ls hl => ?_)
          refine lv_aload hx hb dX10_paste_33 (lv_at hl 1 rfl) ?_
          refine z_callVi (k := 79) (As := []) (rest := []) hx hb hml hown ht (xk_X6_isThere_3 l D q cA F _ _ _ hI ) hw_5_63 hmX6_isThere ⟨rfl, rfl⟩ (na := 0) rfl (by decide +kernel) (by decide) (by decide) rfl rfl hK hP hD hS hA hl.1 rfl (Nat.le_of_ble_eq_true rfl) ⟨Nat.zero_le _, Nat.zero_le _⟩ dX10_paste_35 (fun r_125 I_125 R_125 J_125 H locs hp_125 hP hD hS _ _ => ?_)
          rcases hp_125 with ⟨rfl, hu_125, nn_125⟩ | ⟨rfl, hu_125, nn_125⟩
          · cases hu_125
            have f_126 : zR 0 60 (I 79 1) := x_there (xI hI 79 1) nn_125
            refine lv_if_eq (tgt := 49) hx hb dX10_paste_38 (by decide) (fun c_0 => absurd c_0 (zD_ne zk_1 zk_z (by decide))) (fun _ => ?_)
            refine lv_aload hx hb dX10_paste_41 (lv_at hl 0 rfl) ?_
            refine z_callVi (k := 75) (As := []) (rest := []) hx hb hml hown ht (xk_X6_isThere_1 l D q cA F _ _ _ hI ) hw_5_63 hmX6_isThere ⟨rfl, rfl⟩ (na := 0) rfl (by decide +kernel) (by decide) (by decide) rfl rfl hK hP hD hS hA hl.1 rfl (Nat.le_of_ble_eq_true rfl) ⟨Nat.zero_le _, Nat.zero_le _⟩ dX10_paste_43 (fun r_127 I_127 R_127 J_127 H locs hp_127 hP hD hS _ _ => ?_)
            rcases hp_127 with ⟨rfl, hu_127, nn_127⟩ | ⟨rfl, hu_127, nn_127⟩
            · cases hu_127
              have f_128 : zR 0 60 (I 75 1) := x_there (xI hI 75 1) nn_127
              refine lv_if_ne (tgt := 52) hx hb dX10_paste_46 (by decide) (fun _ => ?_) (fun c_0 => absurd c_0 (zD_ne zk_1 zk_z (by decide)))
              refine lv_aload hx hb dX10_paste_52 (lv_at hl 1 rfl) ?_
              refine z_get hx hb ht hown hK hP ziX6 rfl 79 (by decide) 0 (by decide) hw_2_78 rfl (v := .int (I 79 0)) rfl dX10_paste_54 ?_
              refine lv_aload hx hb dX10_paste_57 (lv_at hl 0 rfl) ?_
              refine z_get hx hb ht hown hK hP ziX6 rfl 75 (by decide) 0 (by decide) hw_2_78 rfl (v := .int (I 75 0)) rfl dX10_paste_59 ?_
              refine lv_icmp_eq (tgt := 68) hx hb dX10_paste_62 (by decide) (fun c_129 => ?_) (fun c_129 => ?_)
              · have t_c_129 := z_eqT c_129
                refine lv_aload hx hb dX10_paste_68 (lv_at hl 1 rfl) ?_
                refine lv_iload_n hx hb dX10_paste_70 rfl (lv_at hl 4 rfl) ?_
                refine lv_iload hx hb dX10_paste_71 (lv_at hl 7 rfl) ?_
                refine z_callVi (k := 79) (As := [.int (pa1), .int (pa4)]) (rest := []) hx hb hml hown ht (xk_X6_spans_3 l D q cA F _ _ _ hI (pa1) (pa4)) hw_5_177 hmX6_spans ⟨rfl, rfl⟩ (na := 2) rfl (by decide +kernel) (by decide) (by decide) rfl rfl hK hP hD hS hA hl.1 rfl (Nat.le_of_ble_eq_true rfl) ⟨Nat.zero_le _, Nat.zero_le _⟩ dX10_paste_73 (fun r_130 I_130 R_130 J_130 H locs hp_130 hP hD hS _ _ => ?_)
                rcases hp_130 with ⟨rfl, hu_130, nn_130⟩ | ⟨rfl, hu_130, nn_130⟩
                · cases hu_130
                  refine lv_if_eq (tgt := 91) hx hb dX10_paste_76 (by decide) (fun c_0 => absurd c_0 (zD_ne zk_1 zk_z (by decide))) (fun _ => ?_)
                  refine lv_aload hx hb dX10_paste_79 (lv_at hl 0 rfl) ?_
                  refine lv_iload hx hb dX10_paste_81 (lv_at hl 6 rfl) ?_
                  refine lv_iload hx hb dX10_paste_83 (lv_at hl 7 rfl) ?_
                  refine z_callVi (k := 75) (As := [.int (pa3), .int (pa4)]) (rest := []) hx hb hml hown ht (xk_X6_spans_1 l D q cA F _ _ _ hI (pa3) (pa4)) hw_5_177 hmX6_spans ⟨rfl, rfl⟩ (na := 2) rfl (by decide +kernel) (by decide) (by decide) rfl rfl hK hP hD hS hA hl.1 rfl (Nat.le_of_ble_eq_true rfl) ⟨Nat.zero_le _, Nat.zero_le _⟩ dX10_paste_85 (fun r_131 I_131 R_131 J_131 H locs hp_131 hP hD hS _ _ => ?_)
                  rcases hp_131 with ⟨rfl, hu_131, nn_131⟩ | ⟨rfl, hu_131, nn_131⟩
                  · cases hu_131
                    refine lv_if_ne (tgt := 94) hx hb dX10_paste_88 (by decide) (fun _ => ?_) (fun c_0 => absurd c_0 (zD_ne zk_1 zk_z (by decide)))
                    refine lv_aload hx hb dX10_paste_94 (lv_at hl 1 rfl) ?_
                    refine z_get hx hb ht hown hK hP ziX6 rfl 79 (by decide) 2 (by decide) hw_2_84 rfl (v := .ref (q 80)) rfl dX10_paste_96 ?_
                    refine lv_iload_n hx hb dX10_paste_99 rfl (lv_at hl 4 rfl) ?_
                    refine lv_aload hx hb dX10_paste_100 (lv_at hl 0 rfl) ?_
                    refine z_get hx hb ht hown hK hP ziX6 rfl 75 (by decide) 2 (by decide) hw_2_84 rfl (v := .ref (q 76)) rfl dX10_paste_102 ?_
                    refine lv_iload hx hb dX10_paste_105 (lv_at hl 6 rfl) ?_
                    refine lv_iload hx hb dX10_paste_107 (lv_at hl 7 rfl) ?_
                    refine z_copyl hx hb (hml.trans hl.1.symm) ht hown hw_5_181 ⟨hw_3_44, hw_3_43, hw_1_18⟩ hK hP hD hS 80 76 (by decide) (by decide) 56 54 rfl (fun _ => rfl) rfl rfl (x_nn nn_130.1) (x_nn nn_131.1) (x_nn nn_130.2.1) (x_cp nn_130 (xI hI 79 1).2) (x_cp nn_131 (xI hI 75 1).2) (by decide) (by decide +kernel) dX10_paste_109 (fun g_132 H locs eg_132 hP hD hS => ?_)
                    have hI_133 := xInv_J (J2 := (zr J 76 g_132)) hI
                    refine lv_iconst (v := nI 0) hx hb dX10_paste_112 (by decide +kernel) ?_
                    exact z_iret (v := nI 0) hx hb hr hlocks hP hD hS dX10_paste_113 (Or.inr (Or.inr (Or.inr (Or.inr ⟨(by obtain ⟨_, _⟩ := zk_3; obtain ⟨_, _⟩ := zk_1; omega), (show (F 79 1).toInt ≠ -1 ∧ (F 75 1).toInt ≠ -1 from (by have e0 : (I 79 1).toInt = (F 79 1).toInt := congrArg Int32.toInt (xFr hI 79 1 rfl); have e1 : (I 75 1).toInt = (F 75 1).toInt := congrArg Int32.toInt (xFr hI 75 1 rfl); have e2 : (I 79 0).toInt = (F 79 0).toInt := congrArg Int32.toInt (xFr hI 79 0 rfl); have e3 : (I 75 0).toInt = (F 75 0).toInt := congrArg Int32.toInt (xFr hI 75 0 rfl); have _ := nn_125; have _ := nn_127; omega)), (show (F 79 0).toInt = (F 75 0).toInt from (by have e0 : (I 79 1).toInt = (F 79 1).toInt := congrArg Int32.toInt (xFr hI 79 1 rfl); have e1 : (I 75 1).toInt = (F 75 1).toInt := congrArg Int32.toInt (xFr hI 75 1 rfl); have e2 : (I 79 0).toInt = (F 79 0).toInt := congrArg Int32.toInt (xFr hI 79 0 rfl); have e3 : (I 75 0).toInt = (F 75 0).toInt := congrArg Int32.toInt (xFr hI 75 0 rfl); have _ := t_c_129; omega)), (show 0 ≤ pa1.toInt ∧ 0 ≤ pa3.toInt ∧ 0 ≤ pa4.toInt ∧ pa1.toInt + pa4.toInt ≤ (F 79 1).toInt ∧ pa3.toInt + pa4.toInt ≤ (F 75 1).toInt from (by have e0 : (I 79 1).toInt = (F 79 1).toInt := congrArg Int32.toInt (xFr hI 79 1 rfl); have e1 : (I 75 1).toInt = (F 75 1).toInt := congrArg Int32.toInt (xFr hI 75 1 rfl); have e2 : (I 79 0).toInt = (F 79 0).toInt := congrArg Int32.toInt (xFr hI 79 0 rfl); have e3 : (I 75 0).toInt = (F 75 0).toInt := congrArg Int32.toInt (xFr hI 75 0 rfl); have _ := nn_130; have _ := nn_131; omega)), rfl, hI_133⟩))))
                  · cases hu_131
                    refine lv_if_ne (tgt := 94) hx hb dX10_paste_88 (by decide) (fun c_0 => absurd (zD_eq zk_0 zk_z) c_0) (fun _ => ?_)
                    refine lv_bipush (v := (-7)) hx hb dX10_paste_91 (by decide +kernel) ?_
                    exact z_iret (v := (-7)) hx hb hr hlocks hP hD hS dX10_paste_93 (Or.inr (Or.inr (Or.inr (Or.inl ⟨(by obtain ⟨_, _⟩ := zk_3; obtain ⟨_, _⟩ := zk_1; omega), (show (F 79 1).toInt ≠ -1 ∧ (F 75 1).toInt ≠ -1 from (by have e0 : (I 79 1).toInt = (F 79 1).toInt := congrArg Int32.toInt (xFr hI 79 1 rfl); have e1 : (I 75 1).toInt = (F 75 1).toInt := congrArg Int32.toInt (xFr hI 75 1 rfl); have e2 : (I 79 0).toInt = (F 79 0).toInt := congrArg Int32.toInt (xFr hI 79 0 rfl); have e3 : (I 75 0).toInt = (F 75 0).toInt := congrArg Int32.toInt (xFr hI 75 0 rfl); have _ := nn_125; have _ := nn_127; omega)), (show (F 79 0).toInt = (F 75 0).toInt from (by have e0 : (I 79 1).toInt = (F 79 1).toInt := congrArg Int32.toInt (xFr hI 79 1 rfl); have e1 : (I 75 1).toInt = (F 75 1).toInt := congrArg Int32.toInt (xFr hI 75 1 rfl); have e2 : (I 79 0).toInt = (F 79 0).toInt := congrArg Int32.toInt (xFr hI 79 0 rfl); have e3 : (I 75 0).toInt = (F 75 0).toInt := congrArg Int32.toInt (xFr hI 75 0 rfl); have _ := t_c_129; omega)), (show ¬ (0 ≤ pa1.toInt ∧ 0 ≤ pa3.toInt ∧ 0 ≤ pa4.toInt ∧ pa1.toInt + pa4.toInt ≤ (F 79 1).toInt ∧ pa3.toInt + pa4.toInt ≤ (F 75 1).toInt) from (by have e0 : (I 79 1).toInt = (F 79 1).toInt := congrArg Int32.toInt (xFr hI 79 1 rfl); have e1 : (I 75 1).toInt = (F 75 1).toInt := congrArg Int32.toInt (xFr hI 75 1 rfl); have e2 : (I 79 0).toInt = (F 79 0).toInt := congrArg Int32.toInt (xFr hI 79 0 rfl); have e3 : (I 75 0).toInt = (F 75 0).toInt := congrArg Int32.toInt (xFr hI 75 0 rfl); have _ := nn_130; have _ := nn_131; omega)), rfl, hI⟩))))
                · cases hu_130
                  refine lv_if_eq (tgt := 91) hx hb dX10_paste_76 (by decide) (fun _ => ?_) (fun c_0 => absurd (zD_eq zk_0 zk_z) c_0)
                  refine lv_bipush (v := (-7)) hx hb dX10_paste_91 (by decide +kernel) ?_
                  exact z_iret (v := (-7)) hx hb hr hlocks hP hD hS dX10_paste_93 (Or.inr (Or.inr (Or.inr (Or.inl ⟨(by obtain ⟨_, _⟩ := zk_3; obtain ⟨_, _⟩ := zk_1; omega), (show (F 79 1).toInt ≠ -1 ∧ (F 75 1).toInt ≠ -1 from (by have e0 : (I 79 1).toInt = (F 79 1).toInt := congrArg Int32.toInt (xFr hI 79 1 rfl); have e1 : (I 75 1).toInt = (F 75 1).toInt := congrArg Int32.toInt (xFr hI 75 1 rfl); have e2 : (I 79 0).toInt = (F 79 0).toInt := congrArg Int32.toInt (xFr hI 79 0 rfl); have e3 : (I 75 0).toInt = (F 75 0).toInt := congrArg Int32.toInt (xFr hI 75 0 rfl); have _ := nn_125; have _ := nn_127; omega)), (show (F 79 0).toInt = (F 75 0).toInt from (by have e0 : (I 79 1).toInt = (F 79 1).toInt := congrArg Int32.toInt (xFr hI 79 1 rfl); have e1 : (I 75 1).toInt = (F 75 1).toInt := congrArg Int32.toInt (xFr hI 75 1 rfl); have e2 : (I 79 0).toInt = (F 79 0).toInt := congrArg Int32.toInt (xFr hI 79 0 rfl); have e3 : (I 75 0).toInt = (F 75 0).toInt := congrArg Int32.toInt (xFr hI 75 0 rfl); have _ := t_c_129; omega)), (show ¬ (0 ≤ pa1.toInt ∧ 0 ≤ pa3.toInt ∧ 0 ≤ pa4.toInt ∧ pa1.toInt + pa4.toInt ≤ (F 79 1).toInt ∧ pa3.toInt + pa4.toInt ≤ (F 75 1).toInt) from (by have e0 : (I 79 1).toInt = (F 79 1).toInt := congrArg Int32.toInt (xFr hI 79 1 rfl); have e1 : (I 75 1).toInt = (F 75 1).toInt := congrArg Int32.toInt (xFr hI 75 1 rfl); have e2 : (I 79 0).toInt = (F 79 0).toInt := congrArg Int32.toInt (xFr hI 79 0 rfl); have e3 : (I 75 0).toInt = (F 75 0).toInt := congrArg Int32.toInt (xFr hI 75 0 rfl); have _ := nn_130; omega)), rfl, hI⟩))))
              · have t_c_129 := z_eqF c_129
                refine lv_bipush (v := (-8)) hx hb dX10_paste_65 (by decide +kernel) ?_
                exact z_iret (v := (-8)) hx hb hr hlocks hP hD hS dX10_paste_67 (Or.inr (Or.inr (Or.inl ⟨(by obtain ⟨_, _⟩ := zk_3; obtain ⟨_, _⟩ := zk_1; omega), (show (F 79 1).toInt ≠ -1 ∧ (F 75 1).toInt ≠ -1 from (by have e0 : (I 79 1).toInt = (F 79 1).toInt := congrArg Int32.toInt (xFr hI 79 1 rfl); have e1 : (I 75 1).toInt = (F 75 1).toInt := congrArg Int32.toInt (xFr hI 75 1 rfl); have e2 : (I 79 0).toInt = (F 79 0).toInt := congrArg Int32.toInt (xFr hI 79 0 rfl); have e3 : (I 75 0).toInt = (F 75 0).toInt := congrArg Int32.toInt (xFr hI 75 0 rfl); have _ := nn_125; have _ := nn_127; omega)), (show (F 79 0).toInt ≠ (F 75 0).toInt from (by have e0 : (I 79 1).toInt = (F 79 1).toInt := congrArg Int32.toInt (xFr hI 79 1 rfl); have e1 : (I 75 1).toInt = (F 75 1).toInt := congrArg Int32.toInt (xFr hI 75 1 rfl); have e2 : (I 79 0).toInt = (F 79 0).toInt := congrArg Int32.toInt (xFr hI 79 0 rfl); have e3 : (I 75 0).toInt = (F 75 0).toInt := congrArg Int32.toInt (xFr hI 75 0 rfl); have _ := t_c_129; omega)), rfl, hI⟩)))
            · cases hu_127
              refine lv_if_ne (tgt := 52) hx hb dX10_paste_46 (by decide) (fun c_0 => absurd (zD_eq zk_0 zk_z) c_0) (fun _ => ?_)
              refine lv_bipush (v := (-6)) hx hb dX10_paste_49 (by decide +kernel) ?_
              exact z_iret (v := (-6)) hx hb hr hlocks hP hD hS dX10_paste_51 (Or.inr (Or.inl ⟨(by obtain ⟨_, _⟩ := zk_3; obtain ⟨_, _⟩ := zk_1; omega), (show (F 79 1).toInt = -1 ∨ (F 75 1).toInt = -1 from (by have e0 : (I 79 1).toInt = (F 79 1).toInt := congrArg Int32.toInt (xFr hI 79 1 rfl); have e1 : (I 75 1).toInt = (F 75 1).toInt := congrArg Int32.toInt (xFr hI 75 1 rfl); have e2 : (I 79 0).toInt = (F 79 0).toInt := congrArg Int32.toInt (xFr hI 79 0 rfl); have e3 : (I 75 0).toInt = (F 75 0).toInt := congrArg Int32.toInt (xFr hI 75 0 rfl); have _ := nn_125; have _ := nn_127; omega)), rfl, hI⟩))
          · cases hu_125
            refine lv_if_eq (tgt := 49) hx hb dX10_paste_38 (by decide) (fun _ => ?_) (fun c_0 => absurd (zD_eq zk_0 zk_z) c_0)
            refine lv_bipush (v := (-6)) hx hb dX10_paste_49 (by decide +kernel) ?_
            exact z_iret (v := (-6)) hx hb hr hlocks hP hD hS dX10_paste_51 (Or.inr (Or.inl ⟨(by obtain ⟨_, _⟩ := zk_3; obtain ⟨_, _⟩ := zk_1; omega), (show (F 79 1).toInt = -1 ∨ (F 75 1).toInt = -1 from (by have e0 : (I 79 1).toInt = (F 79 1).toInt := congrArg Int32.toInt (xFr hI 79 1 rfl); have e1 : (I 75 1).toInt = (F 75 1).toInt := congrArg Int32.toInt (xFr hI 75 1 rfl); have e2 : (I 79 0).toInt = (F 79 0).toInt := congrArg Int32.toInt (xFr hI 79 0 rfl); have e3 : (I 75 0).toInt = (F 75 0).toInt := congrArg Int32.toInt (xFr hI 75 0 rfl); have _ := nn_125; omega)), rfl, hI⟩))
        · refine va_aldq hx hb hK hP 72 52 (zw_at (by decide) rfl) rfl (vp_in_nI (by decide) (by decide)) dX10_paste_30 ?_
          refine W.eq (g2 := F0 m 31 ls (.ref (q 77) :: [])) rfl ?_
          refine lv_astore (lv' := [(7, .ref (q 77)), (6, .ref (q 79)), (0, .ref (q 0)), (1, .int (nI 3)), (2, .int (pa1)), (3, .int (nI 2)), (4, .int (pa3)), (5, .int (pa4))]) hx hb dX10_paste_31 hl (by decide) rfl (fun ls hl => ?_)
          refine lv_aload hx hb dX10_paste_33 (lv_at hl 1 rfl) ?_
          refine z_callVi (k := 79) (As := []) (rest := []) hx hb hml hown ht (xk_X6_isThere_3 l D q cA F _ _ _ hI ) hw_5_63 hmX6_isThere ⟨rfl, rfl⟩ (na := 0) rfl (by decide +kernel) (by decide) (by decide) rfl rfl hK hP hD hS hA hl.1 rfl (Nat.le_of_ble_eq_true rfl) ⟨Nat.zero_le _, Nat.zero_le _⟩ dX10_paste_35 (fun r_134 I_134 R_134 J_134 H locs hp_134 hP hD hS _ _ => ?_)
          rcases hp_134 with ⟨rfl, hu_134, nn_134⟩ | ⟨rfl, hu_134, nn_134⟩
          · cases hu_134
            have f_135 : zR 0 60 (I 79 1) := x_there (xI hI 79 1) nn_134
            refine lv_if_eq (tgt := 49) hx hb dX10_paste_38 (by decide) (fun c_0 => absurd c_0 (zD_ne zk_1 zk_z (by decide))) (fun _ => ?_)
            refine lv_aload hx hb dX10_paste_41 (lv_at hl 0 rfl) ?_
            refine z_callVi (k := 77) (As := []) (rest := []) hx hb hml hown ht (xk_X6_isThere_2 l D q cA F _ _ _ hI ) hw_5_63 hmX6_isThere ⟨rfl, rfl⟩ (na := 0) rfl (by decide +kernel) (by decide) (by decide) rfl rfl hK hP hD hS hA hl.1 rfl (Nat.le_of_ble_eq_true rfl) ⟨Nat.zero_le _, Nat.zero_le _⟩ dX10_paste_43 (fun r_136 I_136 R_136 J_136 H locs hp_136 hP hD hS _ _ => ?_)
            rcases hp_136 with ⟨rfl, hu_136, nn_136⟩ | ⟨rfl, hu_136, nn_136⟩
            · cases hu_136
              have f_137 : zR 0 60 (I 77 1) := x_there (xI hI 77 1) nn_136
              refine lv_if_ne (tgt := 52) hx hb dX10_paste_46 (by decide) (fun _ => ?_) (fun c_0 => absurd c_0 (zD_ne zk_1 zk_z (by decide)))
              refine lv_aload hx hb dX10_paste_52 (lv_at hl 1 rfl) ?_
              refine z_get hx hb ht hown hK hP ziX6 rfl 79 (by decide) 0 (by decide) hw_2_78 rfl (v := .int (I 79 0)) rfl dX10_paste_54 ?_
              refine lv_aload hx hb dX10_paste_57 (lv_at hl 0 rfl) ?_
              refine z_get hx hb ht hown hK hP ziX6 rfl 77 (by decide) 0 (by decide) hw_2_78 rfl (v := .int (I 77 0)) rfl dX10_paste_59 ?_
              refine lv_icmp_eq (tgt := 68) hx hb dX10_paste_62 (by decide) (fun c_138 => ?_) (fun c_138 => ?_)
              · have t_c_138 := z_eqT c_138
                refine lv_aload hx hb dX10_paste_68 (lv_at hl 1 rfl) ?_
                refine lv_iload_n hx hb dX10_paste_70 rfl (lv_at hl 4 rfl) ?_
                refine lv_iload hx hb dX10_paste_71 (lv_at hl 7 rfl) ?_
                refine z_callVi (k := 79) (As := [.int (pa1), .int (pa4)]) (rest := []) hx hb hml hown ht (xk_X6_spans_3 l D q cA F _ _ _ hI (pa1) (pa4)) hw_5_177 hmX6_spans ⟨rfl, rfl⟩ (na := 2) rfl (by decide +kernel) (by decide) (by decide) rfl rfl hK hP hD hS hA hl.1 rfl (Nat.le_of_ble_eq_true rfl) ⟨Nat.zero_le _, Nat.zero_le _⟩ dX10_paste_73 (fun r_139 I_139 R_139 J_139 H locs hp_139 hP hD hS _ _ => ?_)
                rcases hp_139 with ⟨rfl, hu_139, nn_139⟩ | ⟨rfl, hu_139, nn_139⟩
                · cases hu_139
                  refine lv_if_eq (tgt := 91) hx hb dX10_paste_76 (by decide) (fun c_0 => absurd c_0 (zD_ne zk_1 zk_z (by decide))) (fun _ => ?_)
                  refine lv_aload hx hb dX10_paste_79 (lv_at hl 0 rfl) ?_
                  refine lv_iload hx hb dX10_paste_81 (lv_at hl 6 rfl) ?_
                  refine lv_iload hx hb dX10_paste_83 (lv_at hl 7 rfl) ?_
                  refine z_callVi (k := 77) (As := [.int (pa3), .int (pa4)]) (rest := []) hx hb hml hown ht (xk_X6_spans_2 l D q cA F _ _ _ hI (pa3) (pa4)) hw_5_177 hmX6_spans ⟨rfl, rfl⟩ (na := 2) rfl (by decide +kernel) (by decide) (by decide) rfl rfl hK hP hD hS hA hl.1 rfl (Nat.le_of_ble_eq_true rfl) ⟨Nat.zero_le _, Nat.zero_le _⟩ dX10_paste_85 (fun r_140 I_140 R_140 J_140 H locs hp_140 hP hD hS _ _ => ?_)
                  rcases hp_140 with ⟨rfl, hu_140, nn_140⟩ | ⟨rfl, hu_140, nn_140⟩
                  · cases hu_140
                    refine lv_if_ne (tgt := 94) hx hb dX10_paste_88 (by decide) (fun _ => ?_) (fun c_0 => absurd c_0 (zD_ne zk_1 zk_z (by decide)))
                    refine lv_aload hx hb dX10_paste_94 (lv_at hl 1 rfl) ?_
                    refine z_get hx hb ht hown hK hP ziX6 rfl 79 (by decide) 2 (by decide) hw_2_84 rfl (v := .ref (q 80)) rfl dX10_paste_96 ?_
                    refine lv_iload_n hx hb dX10_paste_99 rfl (lv_at hl 4 rfl) ?_
                    refine lv_aload hx hb dX10_paste_100 (lv_at hl 0 rfl) ?_
                    refine z_get hx hb ht hown hK hP ziX6 rfl 77 (by decide) 2 (by decide) hw_2_84 rfl (v := .ref (q 78)) rfl dX10_paste_102 ?_
                    refine lv_iload hx hb dX10_paste_105 (lv_at hl 6 rfl) ?_
                    refine lv_iload hx hb dX10_paste_107 (lv_at hl 7 rfl) ?_
                    refine z_copyl hx hb (hml.trans hl.1.symm) ht hown hw_5_181 ⟨hw_3_44, hw_3_43, hw_1_18⟩ hK hP hD hS 80 78 (by decide) (by decide) 56 55 rfl (fun _ => rfl) rfl rfl (x_nn nn_139.1) (x_nn nn_140.1) (x_nn nn_139.2.1) (x_cp nn_139 (xI hI 79 1).2) (x_cp nn_140 (xI hI 77 1).2) (by decide) (by decide +kernel) dX10_paste_109 (fun g_141 H locs eg_141 hP hD hS => ?_)
                    have hI_142 := xInv_J (J2 := (zr J 78 g_141)) hI
                    refine lv_iconst (v := nI 0) hx hb dX10_paste_112 (by decide +kernel) ?_
                    exact z_iret (v := nI 0) hx hb hr hlocks hP hD hS dX10_paste_113 (Or.inr (Or.inr (Or.inr (Or.inr ⟨(by obtain ⟨_, _⟩ := zk_3; obtain ⟨_, _⟩ := zk_2; omega), (show (F 79 1).toInt ≠ -1 ∧ (F 77 1).toInt ≠ -1 from (by have e0 : (I 79 1).toInt = (F 79 1).toInt := congrArg Int32.toInt (xFr hI 79 1 rfl); have e1 : (I 77 1).toInt = (F 77 1).toInt := congrArg Int32.toInt (xFr hI 77 1 rfl); have e2 : (I 79 0).toInt = (F 79 0).toInt := congrArg Int32.toInt (xFr hI 79 0 rfl); have e3 : (I 77 0).toInt = (F 77 0).toInt := congrArg Int32.toInt (xFr hI 77 0 rfl); have _ := nn_134; have _ := nn_136; omega)), (show (F 79 0).toInt = (F 77 0).toInt from (by have e0 : (I 79 1).toInt = (F 79 1).toInt := congrArg Int32.toInt (xFr hI 79 1 rfl); have e1 : (I 77 1).toInt = (F 77 1).toInt := congrArg Int32.toInt (xFr hI 77 1 rfl); have e2 : (I 79 0).toInt = (F 79 0).toInt := congrArg Int32.toInt (xFr hI 79 0 rfl); have e3 : (I 77 0).toInt = (F 77 0).toInt := congrArg Int32.toInt (xFr hI 77 0 rfl); have _ := t_c_138; omega)), (show 0 ≤ pa1.toInt ∧ 0 ≤ pa3.toInt ∧ 0 ≤ pa4.toInt ∧ pa1.toInt + pa4.toInt ≤ (F 79 1).toInt ∧ pa3.toInt + pa4.toInt ≤ (F 77 1).toInt from (by have e0 : (I 79 1).toInt = (F 79 1).toInt := congrArg Int32.toInt (xFr hI 79 1 rfl); have e1 : (I 77 1).toInt = (F 77 1).toInt := congrArg Int32.toInt (xFr hI 77 1 rfl); have e2 : (I 79 0).toInt = (F 79 0).toInt := congrArg Int32.toInt (xFr hI 79 0 rfl); have e3 : (I 77 0).toInt = (F 77 0).toInt := congrArg Int32.toInt (xFr hI 77 0 rfl); have _ := nn_139; have _ := nn_140; omega)), rfl, hI_142⟩))))
                  · cases hu_140
                    refine lv_if_ne (tgt := 94) hx hb dX10_paste_88 (by decide) (fun c_0 => absurd (zD_eq zk_0 zk_z) c_0) (fun _ => ?_)
                    refine lv_bipush (v := (-7)) hx hb dX10_paste_91 (by decide +kernel) ?_
                    exact z_iret (v := (-7)) hx hb hr hlocks hP hD hS dX10_paste_93 (Or.inr (Or.inr (Or.inr (Or.inl ⟨(by obtain ⟨_, _⟩ := zk_3; obtain ⟨_, _⟩ := zk_2; omega), (show (F 79 1).toInt ≠ -1 ∧ (F 77 1).toInt ≠ -1 from (by have e0 : (I 79 1).toInt = (F 79 1).toInt := congrArg Int32.toInt (xFr hI 79 1 rfl); have e1 : (I 77 1).toInt = (F 77 1).toInt := congrArg Int32.toInt (xFr hI 77 1 rfl); have e2 : (I 79 0).toInt = (F 79 0).toInt := congrArg Int32.toInt (xFr hI 79 0 rfl); have e3 : (I 77 0).toInt = (F 77 0).toInt := congrArg Int32.toInt (xFr hI 77 0 rfl); have _ := nn_134; have _ := nn_136; omega)), (show (F 79 0).toInt = (F 77 0).toInt from (by have e0 : (I 79 1).toInt = (F 79 1).toInt := congrArg Int32.toInt (xFr hI 79 1 rfl); have e1 : (I 77 1).toInt = (F 77 1).toInt := congrArg Int32.toInt (xFr hI 77 1 rfl); have e2 : (I 79 0).toInt = (F 79 0).toInt := congrArg Int32.toInt (xFr hI 79 0 rfl); have e3 : (I 77 0).toInt = (F 77 0).toInt := congrArg Int32.toInt (xFr hI 77 0 rfl); have _ := t_c_138; omega)), (show ¬ (0 ≤ pa1.toInt ∧ 0 ≤ pa3.toInt ∧ 0 ≤ pa4.toInt ∧ pa1.toInt + pa4.toInt ≤ (F 79 1).toInt ∧ pa3.toInt + pa4.toInt ≤ (F 77 1).toInt) from (by have e0 : (I 79 1).toInt = (F 79 1).toInt := congrArg Int32.toInt (xFr hI 79 1 rfl); have e1 : (I 77 1).toInt = (F 77 1).toInt := congrArg Int32.toInt (xFr hI 77 1 rfl); have e2 : (I 79 0).toInt = (F 79 0).toInt := congrArg Int32.toInt (xFr hI 79 0 rfl); have e3 : (I 77 0).toInt = (F 77 0).toInt := congrArg Int32.toInt (xFr hI 77 0 rfl); have _ := nn_139; have _ := nn_140; omega)), rfl, hI⟩))))
                · cases hu_139
                  refine lv_if_eq (tgt := 91) hx hb dX10_paste_76 (by decide) (fun _ => ?_) (fun c_0 => absurd (zD_eq zk_0 zk_z) c_0)
                  refine lv_bipush (v := (-7)) hx hb dX10_paste_91 (by decide +kernel) ?_
                  exact z_iret (v := (-7)) hx hb hr hlocks hP hD hS dX10_paste_93 (Or.inr (Or.inr (Or.inr (Or.inl ⟨(by obtain ⟨_, _⟩ := zk_3; obtain ⟨_, _⟩ := zk_2; omega), (show (F 79 1).toInt ≠ -1 ∧ (F 77 1).toInt ≠ -1 from (by have e0 : (I 79 1).toInt = (F 79 1).toInt := congrArg Int32.toInt (xFr hI 79 1 rfl); have e1 : (I 77 1).toInt = (F 77 1).toInt := congrArg Int32.toInt (xFr hI 77 1 rfl); have e2 : (I 79 0).toInt = (F 79 0).toInt := congrArg Int32.toInt (xFr hI 79 0 rfl); have e3 : (I 77 0).toInt = (F 77 0).toInt := congrArg Int32.toInt (xFr hI 77 0 rfl); have _ := nn_134; have _ := nn_136; omega)), (show (F 79 0).toInt = (F 77 0).toInt from (by have e0 : (I 79 1).toInt = (F 79 1).toInt := congrArg Int32.toInt (xFr hI 79 1 rfl); have e1 : (I 77 1).toInt = (F 77 1).toInt := congrArg Int32.toInt (xFr hI 77 1 rfl); have e2 : (I 79 0).toInt = (F 79 0).toInt := congrArg Int32.toInt (xFr hI 79 0 rfl); have e3 : (I 77 0).toInt = (F 77 0).toInt := congrArg Int32.toInt (xFr hI 77 0 rfl); have _ := t_c_138; omega)), (show ¬ (0 ≤ pa1.toInt ∧ 0 ≤ pa3.toInt ∧ 0 ≤ pa4.toInt ∧ pa1.toInt + pa4.toInt ≤ (F 79 1).toInt ∧ pa3.toInt + pa4.toInt ≤ (F 77 1).toInt) from (by have e0 : (I 79 1).toInt = (F 79 1).toInt := congrArg Int32.toInt (xFr hI 79 1 rfl); have e1 : (I 77 1).toInt = (F 77 1).toInt := congrArg Int32.toInt (xFr hI 77 1 rfl); have e2 : (I 79 0).toInt = (F 79 0).toInt := congrArg Int32.toInt (xFr hI 79 0 rfl); have e3 : (I 77 0).toInt = (F 77 0).toInt := congrArg Int32.toInt (xFr hI 77 0 rfl); have _ := nn_139; omega)), rfl, hI⟩))))
              · have t_c_138 := z_eqF c_138
                refine lv_bipush (v := (-8)) hx hb dX10_paste_65 (by decide +kernel) ?_
                exact z_iret (v := (-8)) hx hb hr hlocks hP hD hS dX10_paste_67 (Or.inr (Or.inr (Or.inl ⟨(by obtain ⟨_, _⟩ := zk_3; obtain ⟨_, _⟩ := zk_2; omega), (show (F 79 1).toInt ≠ -1 ∧ (F 77 1).toInt ≠ -1 from (by have e0 : (I 79 1).toInt = (F 79 1).toInt := congrArg Int32.toInt (xFr hI 79 1 rfl); have e1 : (I 77 1).toInt = (F 77 1).toInt := congrArg Int32.toInt (xFr hI 77 1 rfl); have e2 : (I 79 0).toInt = (F 79 0).toInt := congrArg Int32.toInt (xFr hI 79 0 rfl); have e3 : (I 77 0).toInt = (F 77 0).toInt := congrArg Int32.toInt (xFr hI 77 0 rfl); have _ := nn_134; have _ := nn_136; omega)), (show (F 79 0).toInt ≠ (F 77 0).toInt from (by have e0 : (I 79 1).toInt = (F 79 1).toInt := congrArg Int32.toInt (xFr hI 79 1 rfl); have e1 : (I 77 1).toInt = (F 77 1).toInt := congrArg Int32.toInt (xFr hI 77 1 rfl); have e2 : (I 79 0).toInt = (F 79 0).toInt := congrArg Int32.toInt (xFr hI 79 0 rfl); have e3 : (I 77 0).toInt = (F 77 0).toInt := congrArg Int32.toInt (xFr hI 77 0 rfl); have _ := t_c_138; omega)), rfl, hI⟩)))
            · cases hu_136
              refine lv_if_ne (tgt := 52) hx hb dX10_paste_46 (by decide) (fun c_0 => absurd (zD_eq zk_0 zk_z) c_0) (fun _ => ?_)
              refine lv_bipush (v := (-6)) hx hb dX10_paste_49 (by decide +kernel) ?_
              exact z_iret (v := (-6)) hx hb hr hlocks hP hD hS dX10_paste_51 (Or.inr (Or.inl ⟨(by obtain ⟨_, _⟩ := zk_3; obtain ⟨_, _⟩ := zk_2; omega), (show (F 79 1).toInt = -1 ∨ (F 77 1).toInt = -1 from (by have e0 : (I 79 1).toInt = (F 79 1).toInt := congrArg Int32.toInt (xFr hI 79 1 rfl); have e1 : (I 77 1).toInt = (F 77 1).toInt := congrArg Int32.toInt (xFr hI 77 1 rfl); have e2 : (I 79 0).toInt = (F 79 0).toInt := congrArg Int32.toInt (xFr hI 79 0 rfl); have e3 : (I 77 0).toInt = (F 77 0).toInt := congrArg Int32.toInt (xFr hI 77 0 rfl); have _ := nn_134; have _ := nn_136; omega)), rfl, hI⟩))
          · cases hu_134
            refine lv_if_eq (tgt := 49) hx hb dX10_paste_38 (by decide) (fun _ => ?_) (fun c_0 => absurd (zD_eq zk_0 zk_z) c_0)
            refine lv_bipush (v := (-6)) hx hb dX10_paste_49 (by decide +kernel) ?_
            exact z_iret (v := (-6)) hx hb hr hlocks hP hD hS dX10_paste_51 (Or.inr (Or.inl ⟨(by obtain ⟨_, _⟩ := zk_3; obtain ⟨_, _⟩ := zk_2; omega), (show (F 79 1).toInt = -1 ∨ (F 77 1).toInt = -1 from (by have e0 : (I 79 1).toInt = (F 79 1).toInt := congrArg Int32.toInt (xFr hI 79 1 rfl); have e1 : (I 77 1).toInt = (F 77 1).toInt := congrArg Int32.toInt (xFr hI 77 1 rfl); have e2 : (I 79 0).toInt = (F 79 0).toInt := congrArg Int32.toInt (xFr hI 79 0 rfl); have e3 : (I 77 0).toInt = (F 77 0).toInt := congrArg Int32.toInt (xFr hI 77 0 rfl); have _ := nn_134; omega)), rfl, hI⟩))
        · refine va_aldq hx hb hK hP 72 52 (zw_at (by decide) rfl) rfl (vp_in_nI (by decide) (by decide)) dX10_paste_30 ?_
          refine W.eq (g2 := F0 m 31 ls (.ref (q 79) :: [])) rfl ?_
          refine lv_astore (lv' := [(7, .ref (q 79)), (6, .ref (q 79)), (0, .ref (q 0)), (1, .int (nI 3)), (2, .int (pa1)), (3, .int (nI 3)), (4, .int (pa3)), (5, .int (pa4))]) hx hb dX10_paste_31 hl (by decide) rfl (fun ls hl => ?_)
          refine lv_aload hx hb dX10_paste_33 (lv_at hl 1 rfl) ?_
          refine z_callVi (k := 79) (As := []) (rest := []) hx hb hml hown ht (xk_X6_isThere_3 l D q cA F _ _ _ hI ) hw_5_63 hmX6_isThere ⟨rfl, rfl⟩ (na := 0) rfl (by decide +kernel) (by decide) (by decide) rfl rfl hK hP hD hS hA hl.1 rfl (Nat.le_of_ble_eq_true rfl) ⟨Nat.zero_le _, Nat.zero_le _⟩ dX10_paste_35 (fun r_143 I_143 R_143 J_143 H locs hp_143 hP hD hS _ _ => ?_)
          rcases hp_143 with ⟨rfl, hu_143, nn_143⟩ | ⟨rfl, hu_143, nn_143⟩
          · cases hu_143
            have f_144 : zR 0 60 (I 79 1) := x_there (xI hI 79 1) nn_143
            refine lv_if_eq (tgt := 49) hx hb dX10_paste_38 (by decide) (fun c_0 => absurd c_0 (zD_ne zk_1 zk_z (by decide))) (fun _ => ?_)
            refine lv_aload hx hb dX10_paste_41 (lv_at hl 0 rfl) ?_
            refine z_callVi (k := 79) (As := []) (rest := []) hx hb hml hown ht (xk_X6_isThere_3 l D q cA F _ _ _ hI ) hw_5_63 hmX6_isThere ⟨rfl, rfl⟩ (na := 0) rfl (by decide +kernel) (by decide) (by decide) rfl rfl hK hP hD hS hA hl.1 rfl (Nat.le_of_ble_eq_true rfl) ⟨Nat.zero_le _, Nat.zero_le _⟩ dX10_paste_43 (fun r_145 I_145 R_145 J_145 H locs hp_145 hP hD hS _ _ => ?_)
            rcases hp_145 with ⟨rfl, hu_145, nn_145⟩ | ⟨rfl, hu_145, nn_145⟩
            · cases hu_145
              have f_146 : zR 0 60 (I 79 1) := x_there (xI hI 79 1) nn_145
              refine lv_if_ne (tgt := 52) hx hb dX10_paste_46 (by decide) (fun _ => ?_) (fun c_0 => absurd c_0 (zD_ne zk_1 zk_z (by decide)))
              refine lv_aload hx hb dX10_paste_52 (lv_at hl 1 rfl) ?_
              refine z_get hx hb ht hown hK hP ziX6 rfl 79 (by decide) 0 (by decide) hw_2_78 rfl (v := .int (I 79 0)) rfl dX10_paste_54 ?_
              refine lv_aload hx hb dX10_paste_57 (lv_at hl 0 rfl) ?_
              refine z_get hx hb ht hown hK hP ziX6 rfl 79 (by decide) 0 (by decide) hw_2_78 rfl (v := .int (I 79 0)) rfl dX10_paste_59 ?_
              refine lv_icmp_eq (tgt := 68) hx hb dX10_paste_62 (by decide) (fun c_147 => ?_) (fun c_147 => ?_)
              · have t_c_147 := z_eqT c_147
                refine lv_aload hx hb dX10_paste_68 (lv_at hl 1 rfl) ?_
                refine lv_iload_n hx hb dX10_paste_70 rfl (lv_at hl 4 rfl) ?_
                refine lv_iload hx hb dX10_paste_71 (lv_at hl 7 rfl) ?_
                refine z_callVi (k := 79) (As := [.int (pa1), .int (pa4)]) (rest := []) hx hb hml hown ht (xk_X6_spans_3 l D q cA F _ _ _ hI (pa1) (pa4)) hw_5_177 hmX6_spans ⟨rfl, rfl⟩ (na := 2) rfl (by decide +kernel) (by decide) (by decide) rfl rfl hK hP hD hS hA hl.1 rfl (Nat.le_of_ble_eq_true rfl) ⟨Nat.zero_le _, Nat.zero_le _⟩ dX10_paste_73 (fun r_148 I_148 R_148 J_148 H locs hp_148 hP hD hS _ _ => ?_)
                rcases hp_148 with ⟨rfl, hu_148, nn_148⟩ | ⟨rfl, hu_148, nn_148⟩
                · cases hu_148
                  refine lv_if_eq (tgt := 91) hx hb dX10_paste_76 (by decide) (fun c_0 => absurd c_0 (zD_ne zk_1 zk_z (by decide))) (fun _ => ?_)
                  refine lv_aload hx hb dX10_paste_79 (lv_at hl 0 rfl) ?_
                  refine lv_iload hx hb dX10_paste_81 (lv_at hl 6 rfl) ?_
                  refine lv_iload hx hb dX10_paste_83 (lv_at hl 7 rfl) ?_
                  refine z_callVi (k := 79) (As := [.int (pa3), .int (pa4)]) (rest := []) hx hb hml hown ht (xk_X6_spans_3 l D q cA F _ _ _ hI (pa3) (pa4)) hw_5_177 hmX6_spans ⟨rfl, rfl⟩ (na := 2) rfl (by decide +kernel) (by decide) (by decide) rfl rfl hK hP hD hS hA hl.1 rfl (Nat.le_of_ble_eq_true rfl) ⟨Nat.zero_le _, Nat.zero_le _⟩ dX10_paste_85 (fun r_149 I_149 R_149 J_149 H locs hp_149 hP hD hS _ _ => ?_)
                  rcases hp_149 with ⟨rfl, hu_149, nn_149⟩ | ⟨rfl, hu_149, nn_149⟩
                  · cases hu_149
                    refine lv_if_ne (tgt := 94) hx hb dX10_paste_88 (by decide) (fun _ => ?_) (fun c_0 => absurd c_0 (zD_ne zk_1 zk_z (by decide)))
                    refine lv_aload hx hb dX10_paste_94 (lv_at hl 1 rfl) ?_
                    refine z_get hx hb ht hown hK hP ziX6 rfl 79 (by decide) 2 (by decide) hw_2_84 rfl (v := .ref (q 80)) rfl dX10_paste_96 ?_
                    refine lv_iload_n hx hb dX10_paste_99 rfl (lv_at hl 4 rfl) ?_
                    refine lv_aload hx hb dX10_paste_100 (lv_at hl 0 rfl) ?_
                    refine z_get hx hb ht hown hK hP ziX6 rfl 79 (by decide) 2 (by decide) hw_2_84 rfl (v := .ref (q 80)) rfl dX10_paste_102 ?_
                    refine lv_iload hx hb dX10_paste_105 (lv_at hl 6 rfl) ?_
                    refine lv_iload hx hb dX10_paste_107 (lv_at hl 7 rfl) ?_
                    refine z_copyl hx hb (hml.trans hl.1.symm) ht hown hw_5_181 ⟨hw_3_44, hw_3_43, hw_1_18⟩ hK hP hD hS 80 80 (by decide) (by decide) 56 56 rfl (fun _ => rfl) rfl rfl (x_nn nn_148.1) (x_nn nn_149.1) (x_nn nn_148.2.1) (x_cp nn_148 (xI hI 79 1).2) (x_cp nn_149 (xI hI 79 1).2) (by decide) (by decide +kernel) dX10_paste_109 (fun g_150 H locs eg_150 hP hD hS => ?_)
                    have hI_151 := xInv_J (J2 := (zr J 80 g_150)) hI
                    refine lv_iconst (v := nI 0) hx hb dX10_paste_112 (by decide +kernel) ?_
                    exact z_iret (v := nI 0) hx hb hr hlocks hP hD hS dX10_paste_113 (Or.inr (Or.inr (Or.inr (Or.inr ⟨(by obtain ⟨_, _⟩ := zk_3; obtain ⟨_, _⟩ := zk_3; omega), (show (F 79 1).toInt ≠ -1 ∧ (F 79 1).toInt ≠ -1 from (by have e0 : (I 79 1).toInt = (F 79 1).toInt := congrArg Int32.toInt (xFr hI 79 1 rfl); have e1 : (I 79 1).toInt = (F 79 1).toInt := congrArg Int32.toInt (xFr hI 79 1 rfl); have e2 : (I 79 0).toInt = (F 79 0).toInt := congrArg Int32.toInt (xFr hI 79 0 rfl); have e3 : (I 79 0).toInt = (F 79 0).toInt := congrArg Int32.toInt (xFr hI 79 0 rfl); have _ := nn_145; have _ := nn_145; omega)), (show (F 79 0).toInt = (F 79 0).toInt from (by have e0 : (I 79 1).toInt = (F 79 1).toInt := congrArg Int32.toInt (xFr hI 79 1 rfl); have e1 : (I 79 1).toInt = (F 79 1).toInt := congrArg Int32.toInt (xFr hI 79 1 rfl); have e2 : (I 79 0).toInt = (F 79 0).toInt := congrArg Int32.toInt (xFr hI 79 0 rfl); have e3 : (I 79 0).toInt = (F 79 0).toInt := congrArg Int32.toInt (xFr hI 79 0 rfl); have _ := t_c_147; omega)), (show 0 ≤ pa1.toInt ∧ 0 ≤ pa3.toInt ∧ 0 ≤ pa4.toInt ∧ pa1.toInt + pa4.toInt ≤ (F 79 1).toInt ∧ pa3.toInt + pa4.toInt ≤ (F 79 1).toInt from (by have e0 : (I 79 1).toInt = (F 79 1).toInt := congrArg Int32.toInt (xFr hI 79 1 rfl); have e1 : (I 79 1).toInt = (F 79 1).toInt := congrArg Int32.toInt (xFr hI 79 1 rfl); have e2 : (I 79 0).toInt = (F 79 0).toInt := congrArg Int32.toInt (xFr hI 79 0 rfl); have e3 : (I 79 0).toInt = (F 79 0).toInt := congrArg Int32.toInt (xFr hI 79 0 rfl); have _ := nn_148; have _ := nn_149; omega)), rfl, hI_151⟩))))
                  · cases hu_149
                    refine lv_if_ne (tgt := 94) hx hb dX10_paste_88 (by decide) (fun c_0 => absurd (zD_eq zk_0 zk_z) c_0) (fun _ => ?_)
                    refine lv_bipush (v := (-7)) hx hb dX10_paste_91 (by decide +kernel) ?_
                    exact z_iret (v := (-7)) hx hb hr hlocks hP hD hS dX10_paste_93 (Or.inr (Or.inr (Or.inr (Or.inl ⟨(by obtain ⟨_, _⟩ := zk_3; obtain ⟨_, _⟩ := zk_3; omega), (show (F 79 1).toInt ≠ -1 ∧ (F 79 1).toInt ≠ -1 from (by have e0 : (I 79 1).toInt = (F 79 1).toInt := congrArg Int32.toInt (xFr hI 79 1 rfl); have e1 : (I 79 1).toInt = (F 79 1).toInt := congrArg Int32.toInt (xFr hI 79 1 rfl); have e2 : (I 79 0).toInt = (F 79 0).toInt := congrArg Int32.toInt (xFr hI 79 0 rfl); have e3 : (I 79 0).toInt = (F 79 0).toInt := congrArg Int32.toInt (xFr hI 79 0 rfl); have _ := nn_145; have _ := nn_145; omega)), (show (F 79 0).toInt = (F 79 0).toInt from (by have e0 : (I 79 1).toInt = (F 79 1).toInt := congrArg Int32.toInt (xFr hI 79 1 rfl); have e1 : (I 79 1).toInt = (F 79 1).toInt := congrArg Int32.toInt (xFr hI 79 1 rfl); have e2 : (I 79 0).toInt = (F 79 0).toInt := congrArg Int32.toInt (xFr hI 79 0 rfl); have e3 : (I 79 0).toInt = (F 79 0).toInt := congrArg Int32.toInt (xFr hI 79 0 rfl); have _ := t_c_147; omega)), (show ¬ (0 ≤ pa1.toInt ∧ 0 ≤ pa3.toInt ∧ 0 ≤ pa4.toInt ∧ pa1.toInt + pa4.toInt ≤ (F 79 1).toInt ∧ pa3.toInt + pa4.toInt ≤ (F 79 1).toInt) from (by have e0 : (I 79 1).toInt = (F 79 1).toInt := congrArg Int32.toInt (xFr hI 79 1 rfl); have e1 : (I 79 1).toInt = (F 79 1).toInt := congrArg Int32.toInt (xFr hI 79 1 rfl); have e2 : (I 79 0).toInt = (F 79 0).toInt := congrArg Int32.toInt (xFr hI 79 0 rfl); have e3 : (I 79 0).toInt = (F 79 0).toInt := congrArg Int32.toInt (xFr hI 79 0 rfl); have _ := nn_148; have _ := nn_149; omega)), rfl, hI⟩))))
                · cases hu_148
                  refine lv_if_eq (tgt := 91) hx hb dX10_paste_76 (by decide) (fun _ => ?_) (fun c_0 => absurd (zD_eq zk_0 zk_z) c_0)
                  refine lv_bipush (v := (-7)) hx hb dX10_paste_91 (by decide +kernel) ?_
                  exact z_iret (v := (-7)) hx hb hr hlocks hP hD hS dX10_paste_93 (Or.inr (Or.inr (Or.inr (Or.inl ⟨(by obtain ⟨_, _⟩ := zk_3; obtain ⟨_, _⟩ := zk_3; omega), (show (F 79 1).toInt ≠ -1 ∧ (F 79 1).toInt ≠ -1 from (by have e0 : (I 79 1).toInt = (F 79 1).toInt := congrArg Int32.toInt (xFr hI 79 1 rfl); have e1 : (I 79 1).toInt = (F 79 1).toInt := congrArg Int32.toInt (xFr hI 79 1 rfl); have e2 : (I 79 0).toInt = (F 79 0).toInt := congrArg Int32.toInt (xFr hI 79 0 rfl); have e3 : (I 79 0).toInt = (F 79 0).toInt := congrArg Int32.toInt (xFr hI 79 0 rfl); have _ := nn_145; have _ := nn_145; omega)), (show (F 79 0).toInt = (F 79 0).toInt from (by have e0 : (I 79 1).toInt = (F 79 1).toInt := congrArg Int32.toInt (xFr hI 79 1 rfl); have e1 : (I 79 1).toInt = (F 79 1).toInt := congrArg Int32.toInt (xFr hI 79 1 rfl); have e2 : (I 79 0).toInt = (F 79 0).toInt := congrArg Int32.toInt (xFr hI 79 0 rfl); have e3 : (I 79 0).toInt = (F 79 0).toInt := congrArg Int32.toInt (xFr hI 79 0 rfl); have _ := t_c_147; omega)), (show ¬ (0 ≤ pa1.toInt ∧ 0 ≤ pa3.toInt ∧ 0 ≤ pa4.toInt ∧ pa1.toInt + pa4.toInt ≤ (F 79 1).toInt ∧ pa3.toInt + pa4.toInt ≤ (F 79 1).toInt) from (by have e0 : (I 79 1).toInt = (F 79 1).toInt := congrArg Int32.toInt (xFr hI 79 1 rfl); have e1 : (I 79 1).toInt = (F 79 1).toInt := congrArg Int32.toInt (xFr hI 79 1 rfl); have e2 : (I 79 0).toInt = (F 79 0).toInt := congrArg Int32.toInt (xFr hI 79 0 rfl); have e3 : (I 79 0).toInt = (F 79 0).toInt := congrArg Int32.toInt (xFr hI 79 0 rfl); have _ := nn_148; omega)), rfl, hI⟩))))
              · have t_c_147 := z_eqF c_147
                exact absurd rfl t_c_147
            · cases hu_145
              refine lv_if_ne (tgt := 52) hx hb dX10_paste_46 (by decide) (fun c_0 => absurd (zD_eq zk_0 zk_z) c_0) (fun _ => ?_)
              refine lv_bipush (v := (-6)) hx hb dX10_paste_49 (by decide +kernel) ?_
              exact z_iret (v := (-6)) hx hb hr hlocks hP hD hS dX10_paste_51 (Or.inr (Or.inl ⟨(by obtain ⟨_, _⟩ := zk_3; obtain ⟨_, _⟩ := zk_3; omega), (show (F 79 1).toInt = -1 ∨ (F 79 1).toInt = -1 from (by have e0 : (I 79 1).toInt = (F 79 1).toInt := congrArg Int32.toInt (xFr hI 79 1 rfl); have e1 : (I 79 1).toInt = (F 79 1).toInt := congrArg Int32.toInt (xFr hI 79 1 rfl); have e2 : (I 79 0).toInt = (F 79 0).toInt := congrArg Int32.toInt (xFr hI 79 0 rfl); have e3 : (I 79 0).toInt = (F 79 0).toInt := congrArg Int32.toInt (xFr hI 79 0 rfl); have _ := nn_145; have _ := nn_145; omega)), rfl, hI⟩))
          · cases hu_143
            refine lv_if_eq (tgt := 49) hx hb dX10_paste_38 (by decide) (fun _ => ?_) (fun c_0 => absurd (zD_eq zk_0 zk_z) c_0)
            refine lv_bipush (v := (-6)) hx hb dX10_paste_49 (by decide +kernel) ?_
            exact z_iret (v := (-6)) hx hb hr hlocks hP hD hS dX10_paste_51 (Or.inr (Or.inl ⟨(by obtain ⟨_, _⟩ := zk_3; obtain ⟨_, _⟩ := zk_3; omega), (show (F 79 1).toInt = -1 ∨ (F 79 1).toInt = -1 from (by have e0 : (I 79 1).toInt = (F 79 1).toInt := congrArg Int32.toInt (xFr hI 79 1 rfl); have e1 : (I 79 1).toInt = (F 79 1).toInt := congrArg Int32.toInt (xFr hI 79 1 rfl); have e2 : (I 79 0).toInt = (F 79 0).toInt := congrArg Int32.toInt (xFr hI 79 0 rfl); have e3 : (I 79 0).toInt = (F 79 0).toInt := congrArg Int32.toInt (xFr hI 79 0 rfl); have _ := nn_143; have _ := nn_143; omega)), rfl, hI⟩))
    · cases hu_2
      refine lv_if_ne (tgt := 17) hx hb dX10_paste_11 (by decide) (fun c_0 => absurd (zD_eq zk_0 zk_z) c_0) (fun _ => ?_)
      refine lv_bipush (v := (-2)) hx hb dX10_paste_14 (by decide +kernel) ?_
      exact z_iret (v := (-2)) hx hb hr hlocks hP hD hS dX10_paste_16 (Or.inl ⟨(by obtain ⟨_, _⟩ := f0_1; obtain ⟨_, _⟩ := (zR_any (pa2)); have _ := nn_2; omega), rfl, hI⟩)
  · cases hu_1
    refine lv_if_eq (tgt := 14) hx hb dX10_paste_4 (by decide) (fun _ => ?_) (fun c_0 => absurd (zD_eq zk_0 zk_z) c_0)
    refine lv_bipush (v := (-2)) hx hb dX10_paste_14 (by decide +kernel) ?_
    exact z_iret (v := (-2)) hx hb hr hlocks hP hD hS dX10_paste_16 (Or.inl ⟨(by obtain ⟨_, _⟩ := (zR_any (pa0)); obtain ⟨_, _⟩ := (zR_any (pa2)); have _ := nn_1; omega), rfl, hI⟩)
