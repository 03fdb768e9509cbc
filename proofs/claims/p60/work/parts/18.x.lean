set_option maxHeartbeats 4000000 in
set_option maxRecDepth 100000 in
theorem xk_X10_count (l : Launch) (D : va_G) (q : Nat → Nat) (cA : Nat → ClassId) (F : Nat → Nat → Int32) (I R : Nat → Nat → Int32) (J : Nat → Nat → Int64) (hI : xInv F (I, R, J)) (pa0 : Int32) : zMi l D vwCl (zXtys cA) 81 q (zXd q cA) yX10_count cX10_count 2 (some .int) ({ frames := 2, cells := 0, slots := 0, locals := 42 } : Room) [.ref (q 0), .int (pa0)] (I, R, J) (fun _ u => u = (I, R, J)) := by
  intro sz
  refine z_body (by decide +kernel) (Nat.le_of_ble_eq_true rfl) (fun p e s m below meth c ls hx hb hml hr ht hown hlocks hsz hK hP hD hS hl => ?_)
  have hA : ∀ a, s.heap.size ≤ a → zA 81 q sz a := fun a h => Or.inr (hsz ▸ h)
  have hl : lv_has ls 2 [(0, .ref (q 0)), (1, .int (pa0))] := hl
  refine lv_iload_n hx hb dX10_count_0 rfl (lv_at hl 1 rfl) ?_
  rcases (show ((pa0).toInt < 0 ∨ 9 < (pa0).toInt) ∨ (pa0).toInt = 0 ∨ (pa0).toInt = 1 ∨ (pa0).toInt = 2 ∨ (pa0).toInt = 3 ∨ (pa0).toInt = 4 ∨ (pa0).toInt = 5 ∨ (pa0).toInt = 6 ∨ (pa0).toInt = 7 ∨ (pa0).toInt = 8 ∨ (pa0).toInt = 9 by omega) with c_1 | k_2 | k_2 | k_2 | k_2 | k_2 | k_2 | k_2 | k_2 | k_2 | k_2
  · refine lv_tableOut (tgt := 133) hx hb dX10_count_1 c_1 (by decide) ?_
    refine lv_iconst (v := (-1)) hx hb dX10_count_133 (by decide +kernel) ?_
    exact z_iret (v := (-1)) hx hb hr hlocks hP hD hS dX10_count_134 rfl
  · refine lv_tableIn (off := 55) (tgt := 56) hx hb dX10_count_1 (by omega) (by omega) (by rw [k_2]; decide +kernel) (by decide) ?_
    refine lv_aload_n hx hb dX10_count_56 rfl (lv_at hl 0 rfl) ?_
    refine z_get hx hb ht hown hK hP ziX10 rfl 0 (by decide) 1 (by decide) hw_2_94 rfl (v := .ref (q 3)) rfl dX10_count_57 ?_
    refine z_get hx hb ht hown hK hP ziX2 rfl 3 (by decide) 1 (by decide) hw_1_73 rfl (v := .int (I 3 1)) rfl dX10_count_60 ?_
    exact z_iret (v := I 3 1) hx hb hr hlocks hP hD hS dX10_count_63 rfl
  · refine lv_tableIn (off := 63) (tgt := 64) hx hb dX10_count_1 (by omega) (by omega) (by rw [k_2]; decide +kernel) (by decide) ?_
    refine lv_aload_n hx hb dX10_count_64 rfl (lv_at hl 0 rfl) ?_
    refine z_get hx hb ht hown hK hP ziX10 rfl 0 (by decide) 1 (by decide) hw_2_94 rfl (v := .ref (q 3)) rfl dX10_count_65 ?_
    refine z_get hx hb ht hown hK hP ziX2 rfl 3 (by decide) 2 (by decide) hw_1_77 rfl (v := .int (I 3 2)) rfl dX10_count_68 ?_
    exact z_iret (v := I 3 2) hx hb hr hlocks hP hD hS dX10_count_71 rfl
  · refine lv_tableIn (off := 71) (tgt := 72) hx hb dX10_count_1 (by omega) (by omega) (by rw [k_2]; decide +kernel) (by decide) ?_
    refine lv_aload_n hx hb dX10_count_72 rfl (lv_at hl 0 rfl) ?_
    refine z_get hx hb ht hown hK hP ziX10 rfl 0 (by decide) 1 (by decide) hw_2_94 rfl (v := .ref (q 3)) rfl dX10_count_73 ?_
    refine z_get hx hb ht hown hK hP ziX2 rfl 3 (by decide) 3 (by decide) hw_1_80 rfl (v := .int (I 3 3)) rfl dX10_count_76 ?_
    exact z_iret (v := I 3 3) hx hb hr hlocks hP hD hS dX10_count_79 rfl
  · refine lv_tableIn (off := 79) (tgt := 80) hx hb dX10_count_1 (by omega) (by omega) (by rw [k_2]; decide +kernel) (by decide) ?_
    refine lv_aload_n hx hb dX10_count_80 rfl (lv_at hl 0 rfl) ?_
    refine z_get hx hb ht hown hK hP ziX10 rfl 0 (by decide) 1 (by decide) hw_2_94 rfl (v := .ref (q 3)) rfl dX10_count_81 ?_
    refine z_get hx hb ht hown hK hP ziX2 rfl 3 (by decide) 4 (by decide) hw_1_85 rfl (v := .int (I 3 4)) rfl dX10_count_84 ?_
    have f_3 : zR 0 5 (I 3 4) := xI hI 3 4
    exact z_iret (v := I 3 4) hx hb hr hlocks hP hD hS dX10_count_87 rfl
  · refine lv_tableIn (off := 87) (tgt := 88) hx hb dX10_count_1 (by omega) (by omega) (by rw [k_2]; decide +kernel) (by decide) ?_
    refine lv_aload_n hx hb dX10_count_88 rfl (lv_at hl 0 rfl) ?_
    refine z_get hx hb ht hown hK hP ziX10 rfl 0 (by decide) 1 (by decide) hw_2_94 rfl (v := .ref (q 3)) rfl dX10_count_89 ?_
    refine z_get hx hb ht hown hK hP ziX2 rfl 3 (by decide) 5 (by decide) hw_1_93 rfl (v := .int (I 3 5)) rfl dX10_count_92 ?_
    have f_4 : zR 0 6 (I 3 5) := xI hI 3 5
    exact z_iret (v := I 3 5) hx hb hr hlocks hP hD hS dX10_count_95 rfl
  · refine lv_tableIn (off := 95) (tgt := 96) hx hb dX10_count_1 (by omega) (by omega) (by rw [k_2]; decide +kernel) (by decide) ?_
    refine lv_aload_n hx hb dX10_count_96 rfl (lv_at hl 0 rfl) ?_
    refine z_get hx hb ht hown hK hP ziX10 rfl 0 (by decide) 4 (by decide) hw_2_97 rfl (v := .ref (q 15)) rfl dX10_count_97 ?_
    refine z_get hx hb ht hown hK hP ziX9 rfl 15 (by decide) 2 (by decide) hw_1_162 rfl (v := .int (I 15 2)) rfl dX10_count_100 ?_
    have f_5 : zR 0 24 (I 15 2) := xI hI 15 2
    exact z_iret (v := I 15 2) hx hb hr hlocks hP hD hS dX10_count_103 rfl
  · refine lv_tableIn (off := 103) (tgt := 104) hx hb dX10_count_1 (by omega) (by omega) (by rw [k_2]; decide +kernel) (by decide) ?_
    refine lv_aload_n hx hb dX10_count_104 rfl (lv_at hl 0 rfl) ?_
    refine z_get hx hb ht hown hK hP ziX10 rfl 0 (by decide) 3 (by decide) hw_2_96 rfl (v := .ref (q 13)) rfl dX10_count_105 ?_
    refine z_get hx hb ht hown hK hP ziX0 rfl 13 (by decide) 0 (by decide) hw_1_141 rfl (v := .int (I 13 0)) rfl dX10_count_108 ?_
    have f_6 : zR 0 60 (I 13 0) := xI hI 13 0
    exact z_iret (v := I 13 0) hx hb hr hlocks hP hD hS dX10_count_111 rfl
  · refine lv_tableIn (off := 111) (tgt := 112) hx hb dX10_count_1 (by omega) (by omega) (by rw [k_2]; decide +kernel) (by decide) ?_
    refine lv_aload_n hx hb dX10_count_112 rfl (lv_at hl 0 rfl) ?_
    refine z_get hx hb ht hown hK hP ziX10 rfl 0 (by decide) 1 (by decide) hw_2_94 rfl (v := .ref (q 3)) rfl dX10_count_113 ?_
    refine z_get hx hb ht hown hK hP ziX2 rfl 3 (by decide) 0 (by decide) hw_1_68 rfl (v := .int (I 3 0)) rfl dX10_count_116 ?_
    exact z_iret (v := I 3 0) hx hb hr hlocks hP hD hS dX10_count_119 rfl
  · refine lv_tableIn (off := 119) (tgt := 120) hx hb dX10_count_1 (by omega) (by omega) (by rw [k_2]; decide +kernel) (by decide) ?_
    refine lv_aload_n hx hb dX10_count_120 rfl (lv_at hl 0 rfl) ?_
    refine z_get hx hb ht hown hK hP ziX10 rfl 0 (by decide) 0 (by decide) hw_2_93 rfl (v := .ref (q 1)) rfl dX10_count_121 ?_
    refine z_get hx hb ht hown hK hP ziX7 rfl 1 (by decide) 1 (by decide) hw_1_37 rfl (v := .int (I 1 1)) rfl dX10_count_124 ?_
    have f_7 : zR 0 800 (I 1 1) := xI hI 1 1
    exact z_iret (v := I 1 1) hx hb hr hlocks hP hD hS dX10_count_127 rfl
  · refine lv_tableIn (off := 127) (tgt := 128) hx hb dX10_count_1 (by omega) (by omega) (by rw [k_2]; decide +kernel) (by decide) ?_
    refine lv_aload_n hx hb dX10_count_128 rfl (lv_at hl 0 rfl) ?_
    refine z_callVi (k := 0) (As := []) (rest := []) hx hb hml hown ht (xk_X10_filledSlots l D q cA F _ _ _ hI ) hw_5_137 hmX10_filledSlots ⟨rfl, rfl⟩ (na := 0) rfl (by decide +kernel) (by decide) (by decide) rfl rfl hK hP hD hS hA hl.1 rfl (Nat.le_of_ble_eq_true rfl) ⟨Nat.zero_le _, Nat.zero_le _⟩ dX10_count_129 (fun r_8 I_8 R_8 J_8 H locs hp_8 hP hD hS _ _ => ?_)
    cases hp_8
    exact z_iret (v := r_8) hx hb hr hlocks hP hD hS dX10_count_132 rfl
set_option maxHeartbeats 4000000 in
set_option maxRecDepth 100000 in
theorem xk_X2_copyFrom (l : Launch) (D : va_G) (q : Nat → Nat) (cA : Nat → ClassId) (F : Nat → Nat → Int32) (I R : Nat → Nat → Int32) (J : Nat → Nat → Int64) (hI : xInv F (I, R, J))  : zMv l D vwCl (zXtys cA) 81 q (zXd q cA) yX2_copyFrom cX2_copyFrom 2 none ({ frames := 1, cells := 0, slots := 0, locals := 64 } : Room) [.ref (q 49), .ref (q 3)] (I, R, J) (fun u => xInv F u) := by
  intro sz
  refine z_body (by decide +kernel) (Nat.le_of_ble_eq_true rfl) (fun p e s m below meth c ls hx hb hml hr ht hown hlocks hsz hK hP hD hS hl => ?_)
  have hA : ∀ a, s.heap.size ≤ a → zA 81 q sz a := fun a h => Or.inr (hsz ▸ h)
  have hl : lv_has ls 2 [(0, .ref (q 49)), (1, .ref (q 3))] := hl
  refine lv_aload_n hx hb dX2_copyFrom_0 rfl (lv_at hl 0 rfl) ?_
  refine lv_aload_n hx hb dX2_copyFrom_1 rfl (lv_at hl 1 rfl) ?_
  refine z_get hx hb ht hown hK hP ziX2 rfl 3 (by decide) 0 (by decide) hw_1_67 rfl (v := .int (I 3 0)) rfl dX2_copyFrom_2 ?_
  refine z_putI hx hb ht hown hK hP hD hS ziX2 tyX2 tyX2_ok nmX2 rfl 49 (by decide) 0 (by decide) hw_1_67 rfl (v := I 3 0) rfl rfl rfl (Nat.le_of_ble_eq_true rfl) rfl dX2_copyFrom_5 (fun H locs hP hD hS => ?_)
  have hI_1 := xInv_I hI 49 0 (I 3 0) (zR_any (I 3 0)) rfl
  refine lv_aload_n hx hb dX2_copyFrom_8 rfl (lv_at hl 0 rfl) ?_
  refine lv_aload_n hx hb dX2_copyFrom_9 rfl (lv_at hl 1 rfl) ?_
  refine z_get hx hb ht hown hK hP ziX2 rfl 3 (by decide) 1 (by decide) hw_1_70 rfl (v := .int (I 3 1)) rfl dX2_copyFrom_10 ?_
  refine z_putI hx hb ht hown hK hP hD hS ziX2 tyX2 tyX2_ok nmX2 rfl 49 (by decide) 1 (by decide) hw_1_70 rfl (v := I 3 1) rfl rfl rfl (Nat.le_of_ble_eq_true rfl) rfl dX2_copyFrom_13 (fun H locs hP hD hS => ?_)
  have hI_2 := xInv_I hI_1 49 1 (I 3 1) (zR_any (I 3 1)) rfl
  refine lv_aload_n hx hb dX2_copyFrom_16 rfl (lv_at hl 0 rfl) ?_
  refine lv_aload_n hx hb dX2_copyFrom_17 rfl (lv_at hl 1 rfl) ?_
  refine z_get hx hb ht hown hK hP ziX2 rfl 3 (by decide) 2 (by decide) hw_1_74 rfl (v := .int (I 3 2)) rfl dX2_copyFrom_18 ?_
  refine z_putI hx hb ht hown hK hP hD hS ziX2 tyX2 tyX2_ok nmX2 rfl 49 (by decide) 2 (by decide) hw_1_74 rfl (v := I 3 2) rfl rfl rfl (Nat.le_of_ble_eq_true rfl) rfl dX2_copyFrom_21 (fun H locs hP hD hS => ?_)
  have hI_3 := xInv_I hI_2 49 2 (I 3 2) (zR_any (I 3 2)) rfl
  refine lv_aload_n hx hb dX2_copyFrom_24 rfl (lv_at hl 0 rfl) ?_
  refine lv_aload_n hx hb dX2_copyFrom_25 rfl (lv_at hl 1 rfl) ?_
  refine z_get hx hb ht hown hK hP ziX2 rfl 3 (by decide) 3 (by decide) hw_1_78 rfl (v := .int (I 3 3)) rfl dX2_copyFrom_26 ?_
  refine z_putI hx hb ht hown hK hP hD hS ziX2 tyX2 tyX2_ok nmX2 rfl 49 (by decide) 3 (by decide) hw_1_78 rfl (v := I 3 3) rfl rfl rfl (Nat.le_of_ble_eq_true rfl) rfl dX2_copyFrom_29 (fun H locs hP hD hS => ?_)
  have hI_4 := xInv_I hI_3 49 3 (I 3 3) (zR_any (I 3 3)) rfl
  refine lv_aload_n hx hb dX2_copyFrom_32 rfl (lv_at hl 0 rfl) ?_
  refine lv_aload_n hx hb dX2_copyFrom_33 rfl (lv_at hl 1 rfl) ?_
  refine z_get hx hb ht hown hK hP ziX2 rfl 3 (by decide) 4 (by decide) hw_1_81 rfl (v := .int (I 3 4)) rfl dX2_copyFrom_34 ?_
  have f_5 : zR 0 5 (I 3 4) := xI hI 3 4
  refine z_putI hx hb ht hown hK hP hD hS ziX2 tyX2 tyX2_ok nmX2 rfl 49 (by decide) 4 (by decide) hw_1_81 rfl (v := I 3 4) rfl rfl rfl (Nat.le_of_ble_eq_true rfl) rfl dX2_copyFrom_37 (fun H locs hP hD hS => ?_)
  have hI_6 := xInv_I hI_4 49 4 (I 3 4) f_5 rfl
  refine lv_aload_n hx hb dX2_copyFrom_40 rfl (lv_at hl 0 rfl) ?_
  refine lv_aload_n hx hb dX2_copyFrom_41 rfl (lv_at hl 1 rfl) ?_
  refine z_get hx hb ht hown hK hP ziX2 rfl 3 (by decide) 5 (by decide) hw_1_87 rfl (v := .int (I 3 5)) rfl dX2_copyFrom_42 ?_
  have f_7 : zR 0 6 (I 3 5) := xI hI 3 5
  refine z_putI hx hb ht hown hK hP hD hS ziX2 tyX2 tyX2_ok nmX2 rfl 49 (by decide) 5 (by decide) hw_1_87 rfl (v := I 3 5) rfl rfl rfl (Nat.le_of_ble_eq_true rfl) rfl dX2_copyFrom_45 (fun H locs hP hD hS => ?_)
  have hI_8 := xInv_I hI_6 49 5 (I 3 5) f_7 rfl
  refine lv_aload_n hx hb dX2_copyFrom_48 rfl (lv_at hl 0 rfl) ?_
  refine lv_aload_n hx hb dX2_copyFrom_49 rfl (lv_at hl 1 rfl) ?_
  refine z_get hx hb ht hown hK hP ziX2 rfl 3 (by decide) 6 (by decide) hw_1_95 rfl (v := .int (I 3 6)) rfl dX2_copyFrom_50 ?_
  refine z_putI hx hb ht hown hK hP hD hS ziX2 tyX2 tyX2_ok nmX2 rfl 49 (by decide) 6 (by decide) hw_1_95 rfl (v := I 3 6) rfl rfl rfl (Nat.le_of_ble_eq_true rfl) rfl dX2_copyFrom_53 (fun H locs hP hD hS => ?_)
  have hI_9 := xInv_I hI_8 49 6 (I 3 6) (zR_any (I 3 6)) rfl
  refine lv_aload_n hx hb dX2_copyFrom_56 rfl (lv_at hl 1 rfl) ?_
  refine z_get hx hb ht hown hK hP ziX2 rfl 3 (by decide) 7 (by decide) hw_1_97 rfl (v := .ref (q 4)) rfl dX2_copyFrom_57 ?_
  refine lv_iconst (v := nI 0) hx hb dX2_copyFrom_60 (by decide +kernel) ?_
  refine lv_aload_n hx hb dX2_copyFrom_61 rfl (lv_at hl 0 rfl) ?_
  refine z_get hx hb ht hown hK hP ziX2 rfl 49 (by decide) 7 (by decide) hw_1_97 rfl (v := .ref (q 50)) rfl dX2_copyFrom_62 ?_
  refine lv_iconst (v := nI 0) hx hb dX2_copyFrom_65 (by decide +kernel) ?_
  refine lv_iconst (v := nI 5) hx hb dX2_copyFrom_66 (by decide +kernel) ?_
  refine z_copyi hx hb (hml.trans hl.1.symm) ht hown hw_3_42 ⟨hw_3_44, hw_3_43, hw_1_18⟩ hK hP hD hS 4 50 (by decide) (by decide) 1 37 rfl (fun _ => rfl) rfl rfl (by decide +kernel) (by decide +kernel) (by decide +kernel) (by decide +kernel) (by decide +kernel) (by decide) (by decide +kernel) dX2_copyFrom_67 (fun g_10 H locs eg_10 hP hD hS => ?_)
  have hI_11 := xInv_cp hI_9 4 50 eg_10 (by decide) (by decide) rfl
  refine lv_aload_n hx hb dX2_copyFrom_70 rfl (lv_at hl 1 rfl) ?_
  refine z_get hx hb ht hown hK hP ziX2 rfl 3 (by decide) 8 (by decide) hw_1_100 rfl (v := .ref (q 5)) rfl dX2_copyFrom_71 ?_
  refine lv_iconst (v := nI 0) hx hb dX2_copyFrom_74 (by decide +kernel) ?_
  refine lv_aload_n hx hb dX2_copyFrom_75 rfl (lv_at hl 0 rfl) ?_
  refine z_get hx hb ht hown hK hP ziX2 rfl 49 (by decide) 8 (by decide) hw_1_100 rfl (v := .ref (q 51)) rfl dX2_copyFrom_76 ?_
  refine lv_iconst (v := nI 0) hx hb dX2_copyFrom_79 (by decide +kernel) ?_
  refine lv_bipush (v := nI 6) hx hb dX2_copyFrom_80 (by decide +kernel) ?_
  refine z_copyi hx hb (hml.trans hl.1.symm) ht hown hw_3_42 ⟨hw_3_44, hw_3_43, hw_1_18⟩ hK hP hD hS 5 51 (by decide) (by decide) 2 38 rfl (fun _ => rfl) rfl rfl (by decide +kernel) (by decide +kernel) (by decide +kernel) (by decide +kernel) (by decide +kernel) (by decide) (by decide +kernel) dX2_copyFrom_82 (fun g_12 H locs eg_12 hP hD hS => ?_)
  have hI_13 := xInv_cp hI_11 5 51 eg_12 (by decide) (by decide) rfl
  refine lv_aload_n hx hb dX2_copyFrom_85 rfl (lv_at hl 1 rfl) ?_
  refine z_get hx hb ht hown hK hP ziX2 rfl 3 (by decide) 9 (by decide) hw_1_104 rfl (v := .ref (q 6)) rfl dX2_copyFrom_86 ?_
  refine lv_iconst (v := nI 0) hx hb dX2_copyFrom_89 (by decide +kernel) ?_
  refine lv_aload_n hx hb dX2_copyFrom_90 rfl (lv_at hl 0 rfl) ?_
  refine z_get hx hb ht hown hK hP ziX2 rfl 49 (by decide) 9 (by decide) hw_1_104 rfl (v := .ref (q 52)) rfl dX2_copyFrom_91 ?_
  refine lv_iconst (v := nI 0) hx hb dX2_copyFrom_94 (by decide +kernel) ?_
  refine lv_bipush (v := nI 6) hx hb dX2_copyFrom_95 (by decide +kernel) ?_
  refine z_copyi hx hb (hml.trans hl.1.symm) ht hown hw_3_42 ⟨hw_3_44, hw_3_43, hw_1_18⟩ hK hP hD hS 6 52 (by decide) (by decide) 3 39 rfl (fun _ => rfl) rfl rfl (by decide +kernel) (by decide +kernel) (by decide +kernel) (by decide +kernel) (by decide +kernel) (by decide) (by decide +kernel) dX2_copyFrom_97 (fun g_14 H locs eg_14 hP hD hS => ?_)
  have hI_15 := xInv_cp hI_13 6 52 eg_14 (by decide) (by decide) rfl
  refine lv_aload_n hx hb dX2_copyFrom_100 rfl (lv_at hl 1 rfl) ?_
  refine z_get hx hb ht hown hK hP ziX2 rfl 3 (by decide) 10 (by decide) hw_1_109 rfl (v := .ref (q 7)) rfl dX2_copyFrom_101 ?_
  refine lv_iconst (v := nI 0) hx hb dX2_copyFrom_104 (by decide +kernel) ?_
  refine lv_aload_n hx hb dX2_copyFrom_105 rfl (lv_at hl 0 rfl) ?_
  refine z_get hx hb ht hown hK hP ziX2 rfl 49 (by decide) 10 (by decide) hw_1_109 rfl (v := .ref (q 53)) rfl dX2_copyFrom_106 ?_
  refine lv_iconst (v := nI 0) hx hb dX2_copyFrom_109 (by decide +kernel) ?_
  refine lv_bipush (v := nI 30) hx hb dX2_copyFrom_110 (by decide +kernel) ?_
  refine z_copyi hx hb (hml.trans hl.1.symm) ht hown hw_3_42 ⟨hw_3_44, hw_3_43, hw_1_18⟩ hK hP hD hS 7 53 (by decide) (by decide) 4 40 rfl (fun _ => rfl) rfl rfl (by decide +kernel) (by decide +kernel) (by decide +kernel) (by decide +kernel) (by decide +kernel) (by decide) (by decide +kernel) dX2_copyFrom_112 (fun g_16 H locs eg_16 hP hD hS => ?_)
  have hI_17 := xInv_cp hI_15 7 53 eg_16 (by decide) (by decide) rfl
  exact z_vret hx hb hr hlocks hP hD hS dX2_copyFrom_115 hI_17
set_option maxHeartbeats 4000000 in
set_option maxRecDepth 100000 in
theorem xk_X0_copyFrom (l : Launch) (D : va_G) (q : Nat → Nat) (cA : Nat → ClassId) (F : Nat → Nat → Int32) (I R : Nat → Nat → Int32) (J : Nat → Nat → Int64) (hI : xInv F (I, R, J))  : zMv l D vwCl (zXtys cA) 81 q (zXd q cA) yX0_copyFrom cX0_copyFrom 2 none ({ frames := 1, cells := 0, slots := 0, locals := 64 } : Room) [.ref (q 54), .ref (q 13)] (I, R, J) (fun u => xInv F u) := by
  intro sz
  refine z_body (by decide +kernel) (Nat.le_of_ble_eq_true rfl) (fun p e s m below meth c ls hx hb hml hr ht hown hlocks hsz hK hP hD hS hl => ?_)
  have hA : ∀ a, s.heap.size ≤ a → zA 81 q sz a := fun a h => Or.inr (hsz ▸ h)
  have hl : lv_has ls 2 [(0, .ref (q 54)), (1, .ref (q 13))] := hl
  refine lv_aload_n hx hb dX0_copyFrom_0 rfl (lv_at hl 0 rfl) ?_
  refine lv_aload_n hx hb dX0_copyFrom_1 rfl (lv_at hl 1 rfl) ?_
  refine z_get hx hb ht hown hK hP ziX0 rfl 13 (by decide) 0 (by decide) hw_1_140 rfl (v := .int (I 13 0)) rfl dX0_copyFrom_2 ?_
  have f_1 : zR 0 60 (I 13 0) := xI hI 13 0
  refine z_putI hx hb ht hown hK hP hD hS ziX0 tyX0 tyX0_ok nmX0 rfl 54 (by decide) 0 (by decide) hw_1_140 rfl (v := I 13 0) rfl rfl rfl (Nat.le_of_ble_eq_true rfl) rfl dX0_copyFrom_5 (fun H locs hP hD hS => ?_)
  have hI_2 := xInv_I hI 54 0 (I 13 0) f_1 rfl
  refine lv_aload_n hx hb dX0_copyFrom_8 rfl (lv_at hl 1 rfl) ?_
  refine z_get hx hb ht hown hK hP ziX0 rfl 13 (by decide) 1 (by decide) hw_1_142 rfl (v := .ref (q 14)) rfl dX0_copyFrom_9 ?_
  refine lv_iconst (v := nI 0) hx hb dX0_copyFrom_12 (by decide +kernel) ?_
  refine lv_aload_n hx hb dX0_copyFrom_13 rfl (lv_at hl 0 rfl) ?_
  refine z_get hx hb ht hown hK hP ziX0 rfl 54 (by decide) 1 (by decide) hw_1_142 rfl (v := .ref (q 55)) rfl dX0_copyFrom_14 ?_
  refine lv_iconst (v := nI 0) hx hb dX0_copyFrom_17 (by decide +kernel) ?_
  refine lv_sipush (v := nI 240) hx hb dX0_copyFrom_18 (by decide +kernel) ?_
  refine z_copyi hx hb (hml.trans hl.1.symm) ht hown hw_5_149 ⟨hw_3_44, hw_3_43, hw_1_18⟩ hK hP hD hS 14 55 (by decide) (by decide) 9 41 rfl (fun _ => rfl) rfl rfl (by decide +kernel) (by decide +kernel) (by decide +kernel) (by decide +kernel) (by decide +kernel) (by decide) (by decide +kernel) dX0_copyFrom_21 (fun g_3 H locs eg_3 hP hD hS => ?_)
  have hI_4 := xInv_rec hI_2 14 55 eg_3 rfl rfl
  exact z_vret hx hb hr hlocks hP hD hS dX0_copyFrom_24 hI_4
set_option maxHeartbeats 4000000 in
set_option maxRecDepth 100000 in
theorem xk_X2_copyFrom_1 (l : Launch) (D : va_G) (q : Nat → Nat) (cA : Nat → ClassId) (F : Nat → Nat → Int32) (I R : Nat → Nat → Int32) (J : Nat → Nat → Int64) (hI : xInv F (I, R, J))  : zMv l D vwCl (zXtys cA) 81 q (zXd q cA) yX2_copyFrom cX2_copyFrom 2 none ({ frames := 1, cells := 0, slots := 0, locals := 64 } : Room) [.ref (q 57), .ref (q 3)] (I, R, J) (fun u => xInv F u) := by
  intro sz
  refine z_body (by decide +kernel) (Nat.le_of_ble_eq_true rfl) (fun p e s m below meth c ls hx hb hml hr ht hown hlocks hsz hK hP hD hS hl => ?_)
  have hA : ∀ a, s.heap.size ≤ a → zA 81 q sz a := fun a h => Or.inr (hsz ▸ h)
  have hl : lv_has ls 2 [(0, .ref (q 57)), (1, .ref (q 3))] := hl
  refine lv_aload_n hx hb dX2_copyFrom_0 rfl (lv_at hl 0 rfl) ?_
  refine lv_aload_n hx hb dX2_copyFrom_1 rfl (lv_at hl 1 rfl) ?_
  refine z_get hx hb ht hown hK hP ziX2 rfl 3 (by decide) 0 (by decide) hw_1_67 rfl (v := .int (I 3 0)) rfl dX2_copyFrom_2 ?_
  refine z_putI hx hb ht hown hK hP hD hS ziX2 tyX2 tyX2_ok nmX2 rfl 57 (by decide) 0 (by decide) hw_1_67 rfl (v := I 3 0) rfl rfl rfl (Nat.le_of_ble_eq_true rfl) rfl dX2_copyFrom_5 (fun H locs hP hD hS => ?_)
  have hI_1 := xInv_I hI 57 0 (I 3 0) (zR_any (I 3 0)) rfl
  refine lv_aload_n hx hb dX2_copyFrom_8 rfl (lv_at hl 0 rfl) ?_
  refine lv_aload_n hx hb dX2_copyFrom_9 rfl (lv_at hl 1 rfl) ?_
  refine z_get hx hb ht hown hK hP ziX2 rfl 3 (by decide) 1 (by decide) hw_1_70 rfl (v := .int (I 3 1)) rfl dX2_copyFrom_10 ?_
  refine z_putI hx hb ht hown hK hP hD hS ziX2 tyX2 tyX2_ok nmX2 rfl 57 (by decide) 1 (by decide) hw_1_70 rfl (v := I 3 1) rfl rfl rfl (Nat.le_of_ble_eq_true rfl) rfl dX2_copyFrom_13 (fun H locs hP hD hS => ?_)
  have hI_2 := xInv_I hI_1 57 1 (I 3 1) (zR_any (I 3 1)) rfl
  refine lv_aload_n hx hb dX2_copyFrom_16 rfl (lv_at hl 0 rfl) ?_
  refine lv_aload_n hx hb dX2_copyFrom_17 rfl (lv_at hl 1 rfl) ?_
  refine z_get hx hb ht hown hK hP ziX2 rfl 3 (by decide) 2 (by decide) hw_1_74 rfl (v := .int (I 3 2)) rfl dX2_copyFrom_18 ?_
  refine z_putI hx hb ht hown hK hP hD hS ziX2 tyX2 tyX2_ok nmX2 rfl 57 (by decide) 2 (by decide) hw_1_74 rfl (v := I 3 2) rfl rfl rfl (Nat.le_of_ble_eq_true rfl) rfl dX2_copyFrom_21 (fun H locs hP hD hS => ?_)
  have hI_3 := xInv_I hI_2 57 2 (I 3 2) (zR_any (I 3 2)) rfl
  refine lv_aload_n hx hb dX2_copyFrom_24 rfl (lv_at hl 0 rfl) ?_
  refine lv_aload_n hx hb dX2_copyFrom_25 rfl (lv_at hl 1 rfl) ?_
  refine z_get hx hb ht hown hK hP ziX2 rfl 3 (by decide) 3 (by decide) hw_1_78 rfl (v := .int (I 3 3)) rfl dX2_copyFrom_26 ?_
  refine z_putI hx hb ht hown hK hP hD hS ziX2 tyX2 tyX2_ok nmX2 rfl 57 (by decide) 3 (by decide) hw_1_78 rfl (v := I 3 3) rfl rfl rfl (Nat.le_of_ble_eq_true rfl) rfl dX2_copyFrom_29 (fun H locs hP hD hS => ?_)
  have hI_4 := xInv_I hI_3 57 3 (I 3 3) (zR_any (I 3 3)) rfl
  refine lv_aload_n hx hb dX2_copyFrom_32 rfl (lv_at hl 0 rfl) ?_
  refine lv_aload_n hx hb dX2_copyFrom_33 rfl (lv_at hl 1 rfl) ?_
  refine z_get hx hb ht hown hK hP ziX2 rfl 3 (by decide) 4 (by decide) hw_1_81 rfl (v := .int (I 3 4)) rfl dX2_copyFrom_34 ?_
  have f_5 : zR 0 5 (I 3 4) := xI hI 3 4
  refine z_putI hx hb ht hown hK hP hD hS ziX2 tyX2 tyX2_ok nmX2 rfl 57 (by decide) 4 (by decide) hw_1_81 rfl (v := I 3 4) rfl rfl rfl (Nat.le_of_ble_eq_true rfl) rfl dX2_copyFrom_37 (fun H locs hP hD hS => ?_)
  have hI_6 := xInv_I hI_4 57 4 (I 3 4) f_5 rfl
  refine lv_aload_n hx hb dX2_copyFrom_40 rfl (lv_at hl 0 rfl) ?_
  refine lv_aload_n hx hb dX2_copyFrom_41 rfl (lv_at hl 1 rfl) ?_
  refine z_get hx hb ht hown hK hP ziX2 rfl 3 (by decide) 5 (by decide) hw_1_87 rfl (v := .int (I 3 5)) rfl dX2_copyFrom_42 ?_
  have f_7 : zR 0 6 (I 3 5) := xI hI 3 5
  refine z_putI hx hb ht hown hK hP hD hS ziX2 tyX2 tyX2_ok nmX2 rfl 57 (by decide) 5 (by decide) hw_1_87 rfl (v := I 3 5) rfl rfl rfl (Nat.le_of_ble_eq_true rfl) rfl dX2_copyFrom_45 (fun H locs hP hD hS => ?_)
  have hI_8 := xInv_I hI_6 57 5 (I 3 5) f_7 rfl
  refine lv_aload_n hx hb dX2_copyFrom_48 rfl (lv_at hl 0 rfl) ?_
  refine lv_aload_n hx hb dX2_copyFrom_49 rfl (lv_at hl 1 rfl) ?_
  refine z_get hx hb ht hown hK hP ziX2 rfl 3 (by decide) 6 (by decide) hw_1_95 rfl (v := .int (I 3 6)) rfl dX2_copyFrom_50 ?_
  refine z_putI hx hb ht hown hK hP hD hS ziX2 tyX2 tyX2_ok nmX2 rfl 57 (by decide) 6 (by decide) hw_1_95 rfl (v := I 3 6) rfl rfl rfl (Nat.le_of_ble_eq_true rfl) rfl dX2_copyFrom_53 (fun H locs hP hD hS => ?_)
  have hI_9 := xInv_I hI_8 57 6 (I 3 6) (zR_any (I 3 6)) rfl
  refine lv_aload_n hx hb dX2_copyFrom_56 rfl (lv_at hl 1 rfl) ?_
  refine z_get hx hb ht hown hK hP ziX2 rfl 3 (by decide) 7 (by decide) hw_1_97 rfl (v := .ref (q 4)) rfl dX2_copyFrom_57 ?_
  refine lv_iconst (v := nI 0) hx hb dX2_copyFrom_60 (by decide +kernel) ?_
  refine lv_aload_n hx hb dX2_copyFrom_61 rfl (lv_at hl 0 rfl) ?_
  refine z_get hx hb ht hown hK hP ziX2 rfl 57 (by decide) 7 (by decide) hw_1_97 rfl (v := .ref (q 58)) rfl dX2_copyFrom_62 ?_
  refine lv_iconst (v := nI 0) hx hb dX2_copyFrom_65 (by decide +kernel) ?_
  refine lv_iconst (v := nI 5) hx hb dX2_copyFrom_66 (by decide +kernel) ?_
  refine z_copyi hx hb (hml.trans hl.1.symm) ht hown hw_3_42 ⟨hw_3_44, hw_3_43, hw_1_18⟩ hK hP hD hS 4 58 (by decide) (by decide) 1 42 rfl (fun _ => rfl) rfl rfl (by decide +kernel) (by decide +kernel) (by decide +kernel) (by decide +kernel) (by decide +kernel) (by decide) (by decide +kernel) dX2_copyFrom_67 (fun g_10 H locs eg_10 hP hD hS => ?_)
  have hI_11 := xInv_cp hI_9 4 58 eg_10 (by decide) (by decide) rfl
  refine lv_aload_n hx hb dX2_copyFrom_70 rfl (lv_at hl 1 rfl) ?_
  refine z_get hx hb ht hown hK hP ziX2 rfl 3 (by decide) 8 (by decide) hw_1_100 rfl (v := .ref (q 5)) rfl dX2_copyFrom_71 ?_
  refine lv_iconst (v := nI 0) hx hb dX2_copyFrom_74 (by decide +kernel) ?_
  refine lv_aload_n hx hb dX2_copyFrom_75 rfl (lv_at hl 0 rfl) ?_
  refine z_get hx hb ht hown hK hP ziX2 rfl 57 (by decide) 8 (by decide) hw_1_100 rfl (v := .ref (q 59)) rfl dX2_copyFrom_76 ?_
  refine lv_iconst (v := nI 0) hx hb dX2_copyFrom_79 (by decide +kernel) ?_
  refine lv_bipush (v := nI 6) hx hb dX2_copyFrom_80 (by decide +kernel) ?_
  refine z_copyi hx hb (hml.trans hl.1.symm) ht hown hw_3_42 ⟨hw_3_44, hw_3_43, hw_1_18⟩ hK hP hD hS 5 59 (by decide) (by decide) 2 43 rfl (fun _ => rfl) rfl rfl (by decide +kernel) (by decide +kernel) (by decide +kernel) (by decide +kernel) (by decide +kernel) (by decide) (by decide +kernel) dX2_copyFrom_82 (fun g_12 H locs eg_12 hP hD hS => ?_)
  have hI_13 := xInv_cp hI_11 5 59 eg_12 (by decide) (by decide) rfl
  refine lv_aload_n hx hb dX2_copyFrom_85 rfl (lv_at hl 1 rfl) ?_
  refine z_get hx hb ht hown hK hP ziX2 rfl 3 (by decide) 9 (by decide) hw_1_104 rfl (v := .ref (q 6)) rfl dX2_copyFrom_86 ?_
  refine lv_iconst (v := nI 0) hx hb dX2_copyFrom_89 (by decide +kernel) ?_
  refine lv_aload_n hx hb dX2_copyFrom_90 rfl (lv_at hl 0 rfl) ?_
  refine z_get hx hb ht hown hK hP ziX2 rfl 57 (by decide) 9 (by decide) hw_1_104 rfl (v := .ref (q 60)) rfl dX2_copyFrom_91 ?_
  refine lv_iconst (v := nI 0) hx hb dX2_copyFrom_94 (by decide +kernel) ?_
  refine lv_bipush (v := nI 6) hx hb dX2_copyFrom_95 (by decide +kernel) ?_
  refine z_copyi hx hb (hml.trans hl.1.symm) ht hown hw_3_42 ⟨hw_3_44, hw_3_43, hw_1_18⟩ hK hP hD hS 6 60 (by decide) (by decide) 3 44 rfl (fun _ => rfl) rfl rfl (by decide +kernel) (by decide +kernel) (by decide +kernel) (by decide +kernel) (by decide +kernel) (by decide) (by decide +kernel) dX2_copyFrom_97 (fun g_14 H locs eg_14 hP hD hS => ?_)
  have hI_15 := xInv_cp hI_13 6 60 eg_14 (by decide) (by decide) rfl
  refine lv_aload_n hx hb dX2_copyFrom_100 rfl (lv_at hl 1 rfl) ?_
  refine z_get hx hb ht hown hK hP ziX2 rfl 3 (by decide) 10 (by decide) hw_1_109 rfl (v := .ref (q 7)) rfl dX2_copyFrom_101 ?_
  refine lv_iconst (v := nI 0) hx hb dX2_copyFrom_104 (by decide +kernel) ?_
  refine lv_aload_n hx hb dX2_copyFrom_105 rfl (lv_at hl 0 rfl) ?_
  refine z_get hx hb ht hown hK hP ziX2 rfl 57 (by decide) 10 (by decide) hw_1_109 rfl (v := .ref (q 61)) rfl dX2_copyFrom_106 ?_
  refine lv_iconst (v := nI 0) hx hb dX2_copyFrom_109 (by decide +kernel) ?_
  refine lv_bipush (v := nI 30) hx hb dX2_copyFrom_110 (by decide +kernel) ?_
  refine z_copyi hx hb (hml.trans hl.1.symm) ht hown hw_3_42 ⟨hw_3_44, hw_3_43, hw_1_18⟩ hK hP hD hS 7 61 (by decide) (by decide) 4 45 rfl (fun _ => rfl) rfl rfl (by decide +kernel) (by decide +kernel) (by decide +kernel) (by decide +kernel) (by decide +kernel) (by decide) (by decide +kernel) dX2_copyFrom_112 (fun g_16 H locs eg_16 hP hD hS => ?_)
  have hI_17 := xInv_cp hI_15 7 61 eg_16 (by decide) (by decide) rfl
  exact z_vret hx hb hr hlocks hP hD hS dX2_copyFrom_115 hI_17
set_option maxHeartbeats 4000000 in
set_option maxRecDepth 100000 in
theorem xk_X0_copyFrom_1 (l : Launch) (D : va_G) (q : Nat → Nat) (cA : Nat → ClassId) (F : Nat → Nat → Int32) (I R : Nat → Nat → Int32) (J : Nat → Nat → Int64) (hI : xInv F (I, R, J))  : zMv l D vwCl (zXtys cA) 81 q (zXd q cA) yX0_copyFrom cX0_copyFrom 2 none ({ frames := 1, cells := 0, slots := 0, locals := 64 } : Room) [.ref (q 62), .ref (q 13)] (I, R, J) (fun u => xInv F u) := by
  intro sz
  refine z_body (by decide +kernel) (Nat.le_of_ble_eq_true rfl) (fun p e s m below meth c ls hx hb hml hr ht hown hlocks hsz hK hP hD hS hl => ?_)
  have hA : ∀ a, s.heap.size ≤ a → zA 81 q sz a := fun a h => Or.inr (hsz ▸ h)
  have hl : lv_has ls 2 [(0, .ref (q 62)), (1, .ref (q 13))] := hl
  refine lv_aload_n hx hb dX0_copyFrom_0 rfl (lv_at hl 0 rfl) ?_
  refine lv_aload_n hx hb dX0_copyFrom_1 rfl (lv_at hl 1 rfl) ?_
  refine z_get hx hb ht hown hK hP ziX0 rfl 13 (by decide) 0 (by decide) hw_1_140 rfl (v := .int (I 13 0)) rfl dX0_copyFrom_2 ?_
  have f_1 : zR 0 60 (I 13 0) := xI hI 13 0
  refine z_putI hx hb ht hown hK hP hD hS ziX0 tyX0 tyX0_ok nmX0 rfl 62 (by decide) 0 (by decide) hw_1_140 rfl (v := I 13 0) rfl rfl rfl (Nat.le_of_ble_eq_true rfl) rfl dX0_copyFrom_5 (fun H locs hP hD hS => ?_)
  have hI_2 := xInv_I hI 62 0 (I 13 0) f_1 rfl
  refine lv_aload_n hx hb dX0_copyFrom_8 rfl (lv_at hl 1 rfl) ?_
  refine z_get hx hb ht hown hK hP ziX0 rfl 13 (by decide) 1 (by decide) hw_1_142 rfl (v := .ref (q 14)) rfl dX0_copyFrom_9 ?_
  refine lv_iconst (v := nI 0) hx hb dX0_copyFrom_12 (by decide +kernel) ?_
  refine lv_aload_n hx hb dX0_copyFrom_13 rfl (lv_at hl 0 rfl) ?_
  refine z_get hx hb ht hown hK hP ziX0 rfl 62 (by decide) 1 (by decide) hw_1_142 rfl (v := .ref (q 63)) rfl dX0_copyFrom_14 ?_
  refine lv_iconst (v := nI 0) hx hb dX0_copyFrom_17 (by decide +kernel) ?_
  refine lv_sipush (v := nI 240) hx hb dX0_copyFrom_18 (by decide +kernel) ?_
  refine z_copyi hx hb (hml.trans hl.1.symm) ht hown hw_5_149 ⟨hw_3_44, hw_3_43, hw_1_18⟩ hK hP hD hS 14 63 (by decide) (by decide) 9 46 rfl (fun _ => rfl) rfl rfl (by decide +kernel) (by decide +kernel) (by decide +kernel) (by decide +kernel) (by decide +kernel) (by decide) (by decide +kernel) dX0_copyFrom_21 (fun g_3 H locs eg_3 hP hD hS => ?_)
  have hI_4 := xInv_rec hI_2 14 63 eg_3 rfl rfl
  exact z_vret hx hb hr hlocks hP hD hS dX0_copyFrom_24 hI_4
set_option maxHeartbeats 4000000 in
set_option maxRecDepth 100000 in
theorem xk_X2_copyFrom_2 (l : Launch) (D : va_G) (q : Nat → Nat) (cA : Nat → ClassId) (F : Nat → Nat → Int32) (I R : Nat → Nat → Int32) (J : Nat → Nat → Int64) (hI : xInv F (I, R, J))  : zMv l D vwCl (zXtys cA) 81 q (zXd q cA) yX2_copyFrom cX2_copyFrom 2 none ({ frames := 1, cells := 0, slots := 0, locals := 64 } : Room) [.ref (q 65), .ref (q 3)] (I, R, J) (fun u => xInv F u) := by
  intro sz
  refine z_body (by decide +kernel) (Nat.le_of_ble_eq_true rfl) (fun p e s m below meth c ls hx hb hml hr ht hown hlocks hsz hK hP hD hS hl => ?_)
  have hA : ∀ a, s.heap.size ≤ a → zA 81 q sz a := fun a h => Or.inr (hsz ▸ h)
  have hl : lv_has ls 2 [(0, .ref (q 65)), (1, .ref (q 3))] := hl
  refine lv_aload_n hx hb dX2_copyFrom_0 rfl (lv_at hl 0 rfl) ?_
  refine lv_aload_n hx hb dX2_copyFrom_1 rfl (lv_at hl 1 rfl) ?_
  refine z_get hx hb ht hown hK hP ziX2 rfl 3 (by decide) 0 (by decide) hw_1_67 rfl (v := .int (I 3 0)) rfl dX2_copyFrom_2 ?_
  refine z_putI hx hb ht hown hK hP hD hS ziX2 tyX2 tyX2_ok nmX2 rfl 65 (by decide) 0 (by decide) hw_1_67 rfl (v := I 3 0) rfl rfl rfl (Nat.le_of_ble_eq_true rfl) rfl dX2_copyFrom_5 (fun H locs hP hD hS => ?_)
  have hI_1 := xInv_I hI 65 0 (I 3 0) (zR_any (I 3 0)) rfl
  refine lv_aload_n hx hb dX2_copyFrom_8 rfl (lv_at hl 0 rfl) ?_
  refine lv_aload_n hx hb dX2_copyFrom_9 rfl (lv_at hl 1 rfl) ?_
  refine z_get hx hb ht hown hK hP ziX2 rfl 3 (by decide) 1 (by decide) hw_1_70 rfl (v := .int (I 3 1)) rfl dX2_copyFrom_10 ?_
  refine z_putI hx hb ht hown hK hP hD hS ziX2 tyX2 tyX2_ok nmX2 rfl 65 (by decide) 1 (by decide) hw_1_70 rfl (v := I 3 1) rfl rfl rfl (Nat.le_of_ble_eq_true rfl) rfl dX2_copyFrom_13 (fun H locs hP hD hS => ?_)
  have hI_2 := xInv_I hI_1 65 1 (I 3 1) (zR_any (I 3 1)) rfl
  refine lv_aload_n hx hb dX2_copyFrom_16 rfl (lv_at hl 0 rfl) ?_
  refine lv_aload_n hx hb dX2_copyFrom_17 rfl (lv_at hl 1 rfl) ?_
  refine z_get hx hb ht hown hK hP ziX2 rfl 3 (by decide) 2 (by decide) hw_1_74 rfl (v := .int (I 3 2)) rfl dX2_copyFrom_18 ?_
  refine z_putI hx hb ht hown hK hP hD hS ziX2 tyX2 tyX2_ok nmX2 rfl 65 (by decide) 2 (by decide) hw_1_74 rfl (v := I 3 2) rfl rfl rfl (Nat.le_of_ble_eq_true rfl) rfl dX2_copyFrom_21 (fun H locs hP hD hS => ?_)
  have hI_3 := xInv_I hI_2 65 2 (I 3 2) (zR_any (I 3 2)) rfl
  refine lv_aload_n hx hb dX2_copyFrom_24 rfl (lv_at hl 0 rfl) ?_
  refine lv_aload_n hx hb dX2_copyFrom_25 rfl (lv_at hl 1 rfl) ?_
  refine z_get hx hb ht hown hK hP ziX2 rfl 3 (by decide) 3 (by decide) hw_1_78 rfl (v := .int (I 3 3)) rfl dX2_copyFrom_26 ?_
  refine z_putI hx hb ht hown hK hP hD hS ziX2 tyX2 tyX2_ok nmX2 rfl 65 (by decide) 3 (by decide) hw_1_78 rfl (v := I 3 3) rfl rfl rfl (Nat.le_of_ble_eq_true rfl) rfl dX2_copyFrom_29 (fun H locs hP hD hS => ?_)
  have hI_4 := xInv_I hI_3 65 3 (I 3 3) (zR_any (I 3 3)) rfl
  refine lv_aload_n hx hb dX2_copyFrom_32 rfl (lv_at hl 0 rfl) ?_
  refine lv_aload_n hx hb dX2_copyFrom_33 rfl (lv_at hl 1 rfl) ?_
  refine z_get hx hb ht hown hK hP ziX2 rfl 3 (by decide) 4 (by decide) hw_1_81 rfl (v := .int (I 3 4)) rfl dX2_copyFrom_34 ?_
  have f_5 : zR 0 5 (I 3 4) := xI hI 3 4
  refine z_putI hx hb ht hown hK hP hD hS ziX2 tyX2 tyX2_ok nmX2 rfl 65 (by decide) 4 (by decide) hw_1_81 rfl (v := I 3 4) rfl rfl rfl (Nat.le_of_ble_eq_true rfl) rfl dX2_copyFrom_37 (fun H locs hP hD hS => ?_)
  have hI_6 := xInv_I hI_4 65 4 (I 3 4) f_5 rfl
  refine lv_aload_n hx hb dX2_copyFrom_40 rfl (lv_at hl 0 rfl) ?_
  refine lv_aload_n hx hb dX2_copyFrom_41 rfl (lv_at hl 1 rfl) ?_
  refine z_get hx hb ht hown hK hP ziX2 rfl 3 (by decide) 5 (by decide) hw_1_87 rfl (v := .int (I 3 5)) rfl dX2_copyFrom_42 ?_
  have f_7 : zR 0 6 (I 3 5) := xI hI 3 5
  refine z_putI hx hb ht hown hK hP hD hS ziX2 tyX2 tyX2_ok nmX2 rfl 65 (by decide) 5 (by decide) hw_1_87 rfl (v := I 3 5) rfl rfl rfl (Nat.le_of_ble_eq_true rfl) rfl dX2_copyFrom_45 (fun H locs hP hD hS => ?_)
  have hI_8 := xInv_I hI_6 65 5 (I 3 5) f_7 rfl
  refine lv_aload_n hx hb dX2_copyFrom_48 rfl (lv_at hl 0 rfl) ?_
  refine lv_aload_n hx hb dX2_copyFrom_49 rfl (lv_at hl 1 rfl) ?_
  refine z_get hx hb ht hown hK hP ziX2 rfl 3 (by decide) 6 (by decide) hw_1_95 rfl (v := .int (I 3 6)) rfl dX2_copyFrom_50 ?_
  refine z_putI hx hb ht hown hK hP hD hS ziX2 tyX2 tyX2_ok nmX2 rfl 65 (by decide) 6 (by decide) hw_1_95 rfl (v := I 3 6) rfl rfl rfl (Nat.le_of_ble_eq_true rfl) rfl dX2_copyFrom_53 (fun H locs hP hD hS => ?_)
  have hI_9 := xInv_I hI_8 65 6 (I 3 6) (zR_any (I 3 6)) rfl
  refine lv_aload_n hx hb dX2_copyFrom_56 rfl (lv_at hl 1 rfl) ?_
  refine z_get hx hb ht hown hK hP ziX2 rfl 3 (by decide) 7 (by decide) hw_1_97 rfl (v := .ref (q 4)) rfl dX2_copyFrom_57 ?_
  refine lv_iconst (v := nI 0) hx hb dX2_copyFrom_60 (by decide +kernel) ?_
  refine lv_aload_n hx hb dX2_copyFrom_61 rfl (lv_at hl 0 rfl) ?_
  refine z_get hx hb ht hown hK hP ziX2 rfl 65 (by decide) 7 (by decide) hw_1_97 rfl (v := .ref (q 66)) rfl dX2_copyFrom_62 ?_
  refine lv_iconst (v := nI 0) hx hb dX2_copyFrom_65 (by decide +kernel) ?_
  refine lv_iconst (v := nI 5) hx hb dX2_copyFrom_66 (by decide +kernel) ?_
  refine z_copyi hx hb (hml.trans hl.1.symm) ht hown hw_3_42 ⟨hw_3_44, hw_3_43, hw_1_18⟩ hK hP hD hS 4 66 (by decide) (by decide) 1 47 rfl (fun _ => rfl) rfl rfl (by decide +kernel) (by decide +kernel) (by decide +kernel) (by decide +kernel) (by decide +kernel) (by decide) (by decide +kernel) dX2_copyFrom_67 (fun g_10 H locs eg_10 hP hD hS => ?_)
  have hI_11 := xInv_cp hI_9 4 66 eg_10 (by decide) (by decide) rfl
  refine lv_aload_n hx hb dX2_copyFrom_70 rfl (lv_at hl 1 rfl) ?_
  refine z_get hx hb ht hown hK hP ziX2 rfl 3 (by decide) 8 (by decide) hw_1_100 rfl (v := .ref (q 5)) rfl dX2_copyFrom_71 ?_
  refine lv_iconst (v := nI 0) hx hb dX2_copyFrom_74 (by decide +kernel) ?_
  refine lv_aload_n hx hb dX2_copyFrom_75 rfl (lv_at hl 0 rfl) ?_
  refine z_get hx hb ht hown hK hP ziX2 rfl 65 (by decide) 8 (by decide) hw_1_100 rfl (v := .ref (q 67)) rfl dX2_copyFrom_76 ?_
  refine lv_iconst (v := nI 0) hx hb dX2_copyFrom_79 (by decide +kernel) ?_
  refine lv_bipush (v := nI 6) hx hb dX2_copyFrom_80 (by decide +kernel) ?_
  refine z_copyi hx hb (hml.trans hl.1.symm) ht hown hw_3_42 ⟨hw_3_44, hw_3_43, hw_1_18⟩ hK hP hD hS 5 67 (by decide) (by decide) 2 48 rfl (fun _ => rfl) rfl rfl (by decide +kernel) (by decide +kernel) (by decide +kernel) (by decide +kernel) (by decide +kernel) (by decide) (by decide +kernel) dX2_copyFrom_82 (fun g_12 H locs eg_12 hP hD hS => ?_)
  have hI_13 := xInv_cp hI_11 5 67 eg_12 (by decide) (by decide) rfl
  refine lv_aload_n hx hb dX2_copyFrom_85 rfl (lv_at hl 1 rfl) ?_
  refine z_get hx hb ht hown hK hP ziX2 rfl 3 (by decide) 9 (by decide) hw_1_104 rfl (v := .ref (q 6)) rfl dX2_copyFrom_86 ?_
  refine lv_iconst (v := nI 0) hx hb dX2_copyFrom_89 (by decide +kernel) ?_
  refine lv_aload_n hx hb dX2_copyFrom_90 rfl (lv_at hl 0 rfl) ?_
  refine z_get hx hb ht hown hK hP ziX2 rfl 65 (by decide) 9 (by decide) hw_1_104 rfl (v := .ref (q 68)) rfl dX2_copyFrom_91 ?_
  refine lv_iconst (v := nI 0) hx hb dX2_copyFrom_94 (by decide +kernel) ?_
  refine lv_bipush (v := nI 6) hx hb dX2_copyFrom_95 (by decide +kernel) ?_
  refine z_copyi hx hb (hml.trans hl.1.symm) ht hown hw_3_42 ⟨hw_3_44, hw_3_43, hw_1_18⟩ hK hP hD hS 6 68 (by decide) (by decide) 3 49 rfl (fun _ => rfl) rfl rfl (by decide +kernel) (by decide +kernel) (by decide +kernel) (by decide +kernel) (by decide +kernel) (by decide) (by decide +kernel) dX2_copyFrom_97 (fun g_14 H locs eg_14 hP hD hS => ?_)
  have hI_15 := xInv_cp hI_13 6 68 eg_14 (by decide) (by decide) rfl
  refine lv_aload_n hx hb dX2_copyFrom_100 rfl (lv_at hl 1 rfl) ?_
  refine z_get hx hb ht hown hK hP ziX2 rfl 3 (by decide) 10 (by decide) hw_1_109 rfl (v := .ref (q 7)) rfl dX2_copyFrom_101 ?_
  refine lv_iconst (v := nI 0) hx hb dX2_copyFrom_104 (by decide +kernel) ?_
  refine lv_aload_n hx hb dX2_copyFrom_105 rfl (lv_at hl 0 rfl) ?_
  refine z_get hx hb ht hown hK hP ziX2 rfl 65 (by decide) 10 (by decide) hw_1_109 rfl (v := .ref (q 69)) rfl dX2_copyFrom_106 ?_
  refine lv_iconst (v := nI 0) hx hb dX2_copyFrom_109 (by decide +kernel) ?_
  refine lv_bipush (v := nI 30) hx hb dX2_copyFrom_110 (by decide +kernel) ?_
  refine z_copyi hx hb (hml.trans hl.1.symm) ht hown hw_3_42 ⟨hw_3_44, hw_3_43, hw_1_18⟩ hK hP hD hS 7 69 (by decide) (by decide) 4 50 rfl (fun _ => rfl) rfl rfl (by decide +kernel) (by decide +kernel) (by decide +kernel) (by decide +kernel) (by decide +kernel) (by decide) (by decide +kernel) dX2_copyFrom_112 (fun g_16 H locs eg_16 hP hD hS => ?_)
  have hI_17 := xInv_cp hI_15 7 69 eg_16 (by decide) (by decide) rfl
  exact z_vret hx hb hr hlocks hP hD hS dX2_copyFrom_115 hI_17
set_option maxHeartbeats 4000000 in
set_option maxRecDepth 100000 in
theorem xk_X0_copyFrom_2 (l : Launch) (D : va_G) (q : Nat → Nat) (cA : Nat → ClassId) (F : Nat → Nat → Int32) (I R : Nat → Nat → Int32) (J : Nat → Nat → Int64) (hI : xInv F (I, R, J))  : zMv l D vwCl (zXtys cA) 81 q (zXd q cA) yX0_copyFrom cX0_copyFrom 2 none ({ frames := 1, cells := 0, slots := 0, locals := 64 } : Room) [.ref (q 70), .ref (q 13)] (I, R, J) (fun u => xInv F u) := by
  intro sz
  refine z_body (by decide +kernel) (Nat.le_of_ble_eq_true rfl) (fun p e s m below meth c ls hx hb hml hr ht hown hlocks hsz hK hP hD hS hl => ?_)
  have hA : ∀ a, s.heap.size ≤ a → zA 81 q sz a := fun a h => Or.inr (hsz ▸ h)
  have hl : lv_has ls 2 [(0, .ref (q 70)), (1, .ref (q 13))] := hl
  refine lv_aload_n hx hb dX0_copyFrom_0 rfl (lv_at hl 0 rfl) ?_
  refine lv_aload_n hx hb dX0_copyFrom_1 rfl (lv_at hl 1 rfl) ?_
  refine z_get hx hb ht hown hK hP ziX0 rfl 13 (by decide) 0 (by decide) hw_1_140 rfl (v := .int (I 13 0)) rfl dX0_copyFrom_2 ?_
  have f_1 : zR 0 60 (I 13 0) := xI hI 13 0
  refine z_putI hx hb ht hown hK hP hD hS ziX0 tyX0 tyX0_ok nmX0 rfl 70 (by decide) 0 (by decide) hw_1_140 rfl (v := I 13 0) rfl rfl rfl (Nat.le_of_ble_eq_true rfl) rfl dX0_copyFrom_5 (fun H locs hP hD hS => ?_)
  have hI_2 := xInv_I hI 70 0 (I 13 0) f_1 rfl
  refine lv_aload_n hx hb dX0_copyFrom_8 rfl (lv_at hl 1 rfl) ?_
  refine z_get hx hb ht hown hK hP ziX0 rfl 13 (by decide) 1 (by decide) hw_1_142 rfl (v := .ref (q 14)) rfl dX0_copyFrom_9 ?_
  refine lv_iconst (v := nI 0) hx hb dX0_copyFrom_12 (by decide +kernel) ?_
  refine lv_aload_n hx hb dX0_copyFrom_13 rfl (lv_at hl 0 rfl) ?_
  refine z_get hx hb ht hown hK hP ziX0 rfl 70 (by decide) 1 (by decide) hw_1_142 rfl (v := .ref (q 71)) rfl dX0_copyFrom_14 ?_
  refine lv_iconst (v := nI 0) hx hb dX0_copyFrom_17 (by decide +kernel) ?_
  refine lv_sipush (v := nI 240) hx hb dX0_copyFrom_18 (by decide +kernel) ?_
  refine z_copyi hx hb (hml.trans hl.1.symm) ht hown hw_5_149 ⟨hw_3_44, hw_3_43, hw_1_18⟩ hK hP hD hS 14 71 (by decide) (by decide) 9 51 rfl (fun _ => rfl) rfl rfl (by decide +kernel) (by decide +kernel) (by decide +kernel) (by decide +kernel) (by decide +kernel) (by decide) (by decide +kernel) dX0_copyFrom_21 (fun g_3 H locs eg_3 hP hD hS => ?_)
  have hI_4 := xInv_rec hI_2 14 71 eg_3 rfl rfl
  exact z_vret hx hb hr hlocks hP hD hS dX0_copyFrom_24 hI_4
set_option maxHeartbeats 4000000 in
set_option maxRecDepth 100000 in
theorem xk_X10_image (l : Launch) (D : va_G) (q : Nat → Nat) (cA : Nat → ClassId) (F : Nat → Nat → Int32) (I R : Nat → Nat → Int32) (J : Nat → Nat → Int64) (hI : xInv F (I, R, J)) (pa0 : Int32) : zMi l D vwCl (zXtys cA) 81 q (zXd q cA) yX10_image cX10_image 3 (some .int) ({ frames := 2, cells := 0, slots := 0, locals := 85 } : Room) [.ref (q 0), .int (pa0)] (I, R, J) (fun r u => ((pa0.toInt < 0 ∨ 2 < pa0.toInt) ∧ r = (-2) ∧ u = (I, R, J)) ∨ (¬ (pa0.toInt < 0 ∨ 2 < pa0.toInt) ∧ r = nI 0 ∧ xInv (ximg F pa0) u)) := by
  intro sz
  refine z_body (by decide +kernel) (Nat.le_of_ble_eq_true rfl) (fun p e s m below meth c ls hx hb hml hr ht hown hlocks hsz hK hP hD hS hl => ?_)
  have hA : ∀ a, s.heap.size ≤ a → zA 81 q sz a := fun a h => Or.inr (hsz ▸ h)
  have hl : lv_has ls 3 [(0, .ref (q 0)), (1, .int (pa0))] := hl
  refine lv_iload_n hx hb dX10_image_0 rfl (lv_at hl 1 rfl) ?_
  refine lv_if_lt (tgt := 9) hx hb dX10_image_1 (by decide) (fun c_1 => ?_) (fun c_1 => ?_)
  · have t_c_1 := z_ltT c_1
    have f_2 : zR (-2147483648) (-1) (pa0) := zR_ltx t_c_1 (zR_any (pa0)) zk_z (by decide)
    refine lv_bipush (v := (-2)) hx hb dX10_image_9 (by decide +kernel) ?_
    exact z_iret (v := (-2)) hx hb hr hlocks hP hD hS dX10_image_11 (Or.inl ⟨(by obtain ⟨_, _⟩ := f_2; omega), rfl, rfl⟩)
  · have t_c_1 := z_ltF c_1
    have f_3 : zR 0 2147483647 (pa0) := zR_ley t_c_1 zk_z (zR_any (pa0)) (by decide)
    refine lv_iload_n hx hb dX10_image_4 rfl (lv_at hl 1 rfl) ?_
    refine lv_iconst (v := nI 3) hx hb dX10_image_5 (by decide +kernel) ?_
    refine lv_icmp_lt (tgt := 12) hx hb dX10_image_6 (by decide) (fun c_4 => ?_) (fun c_4 => ?_)
    · have t_c_4 := z_ltT c_4
      have f_5 : zR 0 2 (pa0) := zR_ltx t_c_4 f_3 zk_3 (by decide)
      refine lv_aload_n hx hb dX10_image_12 rfl (lv_at hl 0 rfl) ?_
      refine z_get hx hb ht hown hK hP ziX10 rfl 0 (by decide) 10 (by decide) hw_2_103 rfl (v := .ref (q 47)) rfl dX10_image_13 ?_
      refine lv_iload_n hx hb dX10_image_16 rfl (lv_at hl 1 rfl) ?_
      obtain ⟨n_6, hn_6, rfl⟩ := z_ex (x := pa0) (N := 3) (zR_w f_5 (a' := 0) (b' := 2) (by decide)).1 (Int.lt_of_le_of_lt (zR_w f_5 (a' := 0) (b' := 2) (by decide)).2 (by decide))
      rcases (show n_6 = 0 ∨ n_6 = 1 ∨ n_6 = 2 by omega) with rfl | rfl | rfl
      · refine va_aldq hx hb hK hP 47 36 (zw_at (by decide) rfl) rfl (vp_in_nI (by decide) (by decide)) dX10_image_17 ?_
        refine W.eq (g2 := F0 m 18 ls (.ref (q 48) :: [])) rfl ?_
        refine lv_astore_n (lv' := [(2, .ref (q 48)), (0, .ref (q 0)), (1, .int (nI 0))]) hx hb dX10_image_18 rfl hl (by decide) rfl (fun ls hl => ?_)
        refine lv_aload_n hx hb dX10_image_19 rfl (lv_at hl 0 rfl) ?_
        refine lv_iconst (v := nI 1) hx hb dX10_image_20 (by decide +kernel) ?_
        refine z_putI hx hb ht hown hK hP hD hS ziX5 tyX5 tyX5_ok nmX5 rfl 48 (by decide) 0 (by decide) hw_2_60 rfl (v := nI 1) (by decide +kernel) (by decide +kernel) rfl (Nat.le_of_ble_eq_true rfl) rfl dX10_image_21 (fun H locs hP hD hS => ?_)
        have hI_7 := xInv_F hI 48 0 (nI 1) (zR_w zk_1 (by decide))
        refine lv_aload_n hx hb dX10_image_24 rfl (lv_at hl 0 rfl) ?_
        refine z_get hx hb ht hown hK hP ziX5 rfl 48 (by decide) 1 (by decide) hw_2_62 rfl (v := .ref (q 49)) rfl dX10_image_25 ?_
        refine lv_aload_n hx hb dX10_image_28 rfl (lv_at hl 1 rfl) ?_
        refine z_get hx hb ht hown hK hP ziX10 rfl 0 (by decide) 1 (by decide) hw_2_94 rfl (v := .ref (q 3)) rfl dX10_image_29 ?_
        refine z_callVv (k := 49) (As := [.ref (q 3)]) (rest := []) hx hb hml hown ht (xk_X2_copyFrom l D q cA (zp F 48 0 (nI 1)) _ _ _ hI_7 ) hw_3_38 hmX2_copyFrom ⟨rfl, rfl⟩ (na := 1) rfl (by decide +kernel) (by decide) (by decide) rfl rfl hK hP hD hS hA hl.1 rfl (Nat.le_of_ble_eq_true rfl) ⟨Nat.zero_le _, Nat.zero_le _⟩ dX10_image_32 (fun I_8 R_8 J_8 H locs hp_8 hP hD hS _ _ => ?_)
        refine lv_aload_n hx hb dX10_image_35 rfl (lv_at hl 0 rfl) ?_
        refine z_get hx hb ht hown hK hP ziX5 rfl 48 (by decide) 2 (by decide) hw_2_64 rfl (v := .ref (q 54)) rfl dX10_image_36 ?_
        refine lv_aload_n hx hb dX10_image_39 rfl (lv_at hl 1 rfl) ?_
        refine z_get hx hb ht hown hK hP ziX10 rfl 0 (by decide) 3 (by decide) hw_2_96 rfl (v := .ref (q 13)) rfl dX10_image_40 ?_
        refine z_callVv (k := 54) (As := [.ref (q 13)]) (rest := []) hx hb hml hown ht (xk_X0_copyFrom l D q cA (zp F 48 0 (nI 1)) _ _ _ hp_8 ) hw_5_145 hmX0_copyFrom ⟨rfl, rfl⟩ (na := 1) rfl (by decide +kernel) (by decide) (by decide) rfl rfl hK hP hD hS hA hl.1 rfl (Nat.le_of_ble_eq_true rfl) ⟨Nat.zero_le _, Nat.zero_le _⟩ dX10_image_43 (fun I_9 R_9 J_9 H locs hp_9 hP hD hS _ _ => ?_)
        refine lv_iconst (v := nI 0) hx hb dX10_image_46 (by decide +kernel) ?_
        exact z_iret (v := nI 0) hx hb hr hlocks hP hD hS dX10_image_47 (Or.inr ⟨(by obtain ⟨_, _⟩ := zk_0; omega), rfl, hp_9⟩)
      · refine va_aldq hx hb hK hP 47 36 (zw_at (by decide) rfl) rfl (vp_in_nI (by decide) (by decide)) dX10_image_17 ?_
        refine W.eq (g2 := F0 m 18 ls (.ref (q 56) :: [])) rfl ?_
        refine lv_astore_n (lv' := [(2, .ref (q 56)), (0, .ref (q 0)), (1, .int (nI 1))]) hx hb dX10_image_18 rfl hl (by decide) rfl (fun ls hl => ?_)
        refine lv_aload_n hx hb dX10_image_19 rfl (lv_at hl 0 rfl) ?_
        refine lv_iconst (v := nI 1) hx hb dX10_image_20 (by decide +kernel) ?_
        refine z_putI hx hb ht hown hK hP hD hS ziX5 tyX5 tyX5_ok nmX5 rfl 56 (by decide) 0 (by decide) hw_2_60 rfl (v := nI 1) (by decide +kernel) (by decide +kernel) rfl (Nat.le_of_ble_eq_true rfl) rfl dX10_image_21 (fun H locs hP hD hS => ?_)
        have hI_10 := xInv_F hI 56 0 (nI 1) (zR_w zk_1 (by decide))
        refine lv_aload_n hx hb dX10_image_24 rfl (lv_at hl 0 rfl) ?_
        refine z_get hx hb ht hown hK hP ziX5 rfl 56 (by decide) 1 (by decide) hw_2_62 rfl (v := .ref (q 57)) rfl dX10_image_25 ?_
        refine lv_aload_n hx hb dX10_image_28 rfl (lv_at hl 1 rfl) ?_
        refine z_get hx hb ht hown hK hP ziX10 rfl 0 (by decide) 1 (by decide) hw_2_94 rfl (v := .ref (q 3)) rfl dX10_image_29 ?_
        refine z_callVv (k := 57) (As := [.ref (q 3)]) (rest := []) hx hb hml hown ht (xk_X2_copyFrom_1 l D q cA (zp F 56 0 (nI 1)) _ _ _ hI_10 ) hw_3_38 hmX2_copyFrom ⟨rfl, rfl⟩ (na := 1) rfl (by decide +kernel) (by decide) (by decide) rfl rfl hK hP hD hS hA hl.1 rfl (Nat.le_of_ble_eq_true rfl) ⟨Nat.zero_le _, Nat.zero_le _⟩ dX10_image_32 (fun I_11 R_11 J_11 H locs hp_11 hP hD hS _ _ => ?_)
        refine lv_aload_n hx hb dX10_image_35 rfl (lv_at hl 0 rfl) ?_
        refine z_get hx hb ht hown hK hP ziX5 rfl 56 (by decide) 2 (by decide) hw_2_64 rfl (v := .ref (q 62)) rfl dX10_image_36 ?_
        refine lv_aload_n hx hb dX10_image_39 rfl (lv_at hl 1 rfl) ?_
        refine z_get hx hb ht hown hK hP ziX10 rfl 0 (by decide) 3 (by decide) hw_2_96 rfl (v := .ref (q 13)) rfl dX10_image_40 ?_
        refine z_callVv (k := 62) (As := [.ref (q 13)]) (rest := []) hx hb hml hown ht (xk_X0_copyFrom_1 l D q cA (zp F 56 0 (nI 1)) _ _ _ hp_11 ) hw_5_145 hmX0_copyFrom ⟨rfl, rfl⟩ (na := 1) rfl (by decide +kernel) (by decide) (by decide) rfl rfl hK hP hD hS hA hl.1 rfl (Nat.le_of_ble_eq_true rfl) ⟨Nat.zero_le _, Nat.zero_le _⟩ dX10_image_43 (fun I_12 R_12 J_12 H locs hp_12 hP hD hS _ _ => ?_)
        refine lv_iconst (v := nI 0) hx hb dX10_image_46 (by decide +kernel) ?_
        exact z_iret (v := nI 0) hx hb hr hlocks hP hD hS dX10_image_47 (Or.inr ⟨(by obtain ⟨_, _⟩ := zk_1; omega), rfl, hp_12⟩)
      · refine va_aldq hx hb hK hP 47 36 (zw_at (by decide) rfl) rfl (vp_in_nI (by decide) (by decide)) dX10_image_17 ?_
        refine W.eq (g2 := F0 m 18 ls (.ref (q 64) :: [])) rfl ?_
        refine lv_astore_n (lv' := [(2, .ref (q 64)), (0, .ref (q 0)), (1, .int (nI 2))]) hx hb dX10_image_18 rfl hl (by decide) rfl (fun ls hl => ?_)
        refine lv_aload_n hx hb dX10_image_19 rfl (lv_at hl 0 rfl) ?_
        refine lv_iconst (v := nI 1) hx hb dX10_image_20 (by decide +kernel) ?_
        refine z_putI hx hb ht hown hK hP hD hS ziX5 tyX5 tyX5_ok nmX5 rfl 64 (by decide) 0 (by decide) hw_2_60 rfl (v := nI 1) (by decide +kernel) (by decide +kernel) rfl (Nat.le_of_ble_eq_true rfl) rfl dX10_image_21 (fun H locs hP hD hS => ?_)
        have hI_13 := xInv_F hI 64 0 (nI 1) (zR_w zk_1 (by decide))
        refine lv_aload_n hx hb dX10_image_24 rfl (lv_at hl 0 rfl) ?_
        refine z_get hx hb ht hown hK hP ziX5 rfl 64 (by decide) 1 (by decide) hw_2_62 rfl (v := .ref (q 65)) rfl dX10_image_25 ?_
        refine lv_aload_n hx hb dX10_image_28 rfl (lv_at hl 1 rfl) ?_
        refine z_get hx hb ht hown hK hP ziX10 rfl 0 (by decide) 1 (by decide) hw_2_94 rfl (v := .ref (q 3)) rfl dX10_image_29 ?_
        refine z_callVv (k := 65) (As := [.ref (q 3)]) (rest := []) hx hb hml hown ht (xk_X2_copyFrom_2 l D q cA (zp F 64 0 (nI 1)) _ _ _ hI_13 ) hw_3_38 hmX2_copyFrom ⟨rfl, rfl⟩ (na := 1) rfl (by decide +kernel) (by decide) (by decide) rfl rfl hK hP hD hS hA hl.1 rfl (Nat.le_of_ble_eq_true rfl) ⟨Nat.zero_le _, Nat.zero_le _⟩ dX10_image_32 (fun I_14 R_14 J_14 H locs hp_14 hP hD hS _ _ => ?_)
        refine lv_aload_n hx hb dX10_image_35 rfl (lv_at hl 0 rfl) ?_
        refine z_get hx hb ht hown hK hP ziX5 rfl 64 (by decide) 2 (by decide) hw_2_64 rfl (v := .ref (q 70)) rfl dX10_image_36 ?_
        refine lv_aload_n hx hb dX10_image_39 rfl (lv_at hl 1 rfl) ?_
        refine z_get hx hb ht hown hK hP ziX10 rfl 0 (by decide) 3 (by decide) hw_2_96 rfl (v := .ref (q 13)) rfl dX10_image_40 ?_
        refine z_callVv (k := 70) (As := [.ref (q 13)]) (rest := []) hx hb hml hown ht (xk_X0_copyFrom_2 l D q cA (zp F 64 0 (nI 1)) _ _ _ hp_14 ) hw_5_145 hmX0_copyFrom ⟨rfl, rfl⟩ (na := 1) rfl (by decide +kernel) (by decide) (by decide) rfl rfl hK hP hD hS hA hl.1 rfl (Nat.le_of_ble_eq_true rfl) ⟨Nat.zero_le _, Nat.zero_le _⟩ dX10_image_43 (fun I_15 R_15 J_15 H locs hp_15 hP hD hS _ _ => ?_)
        refine lv_iconst (v := nI 0) hx hb dX10_image_46 (by decide +kernel) ?_
        exact z_iret (v := nI 0) hx hb hr hlocks hP hD hS dX10_image_47 (Or.inr ⟨(by obtain ⟨_, _⟩ := zk_2; omega), rfl, hp_15⟩)
    · have t_c_4 := z_ltF c_4
      have f_16 : zR 3 2147483647 (pa0) := zR_ley t_c_4 zk_3 f_3 (by decide)
      refine lv_bipush (v := (-2)) hx hb dX10_image_9 (by decide +kernel) ?_
      exact z_iret (v := (-2)) hx hb hr hlocks hP hD hS dX10_image_11 (Or.inl ⟨(by obtain ⟨_, _⟩ := f_16; omega), rfl, rfl⟩)
set_option maxHeartbeats 4000000 in
set_option maxRecDepth 100000 in
theorem xk_X2_copyFrom_3 (l : Launch) (D : va_G) (q : Nat → Nat) (cA : Nat → ClassId) (F : Nat → Nat → Int32) (I R : Nat → Nat → Int32) (J : Nat → Nat → Int64) (hI : xInv F (I, R, J))  : zMv l D vwCl (zXtys cA) 81 q (zXd q cA) yX2_copyFrom cX2_copyFrom 2 none ({ frames := 1, cells := 0, slots := 0, locals := 64 } : Room) [.ref (q 3), .ref (q 49)] (I, R, J) (fun u => xInv F u) := by
  intro sz
  refine z_body (by decide +kernel) (Nat.le_of_ble_eq_true rfl) (fun p e s m below meth c ls hx hb hml hr ht hown hlocks hsz hK hP hD hS hl => ?_)
  have hA : ∀ a, s.heap.size ≤ a → zA 81 q sz a := fun a h => Or.inr (hsz ▸ h)
  have hl : lv_has ls 2 [(0, .ref (q 3)), (1, .ref (q 49))] := hl
  refine lv_aload_n hx hb dX2_copyFrom_0 rfl (lv_at hl 0 rfl) ?_
  refine lv_aload_n hx hb dX2_copyFrom_1 rfl (lv_at hl 1 rfl) ?_
  refine z_get hx hb ht hown hK hP ziX2 rfl 49 (by decide) 0 (by decide) hw_1_67 rfl (v := .int (I 49 0)) rfl dX2_copyFrom_2 ?_
  refine z_putI hx hb ht hown hK hP hD hS ziX2 tyX2 tyX2_ok nmX2 rfl 3 (by decide) 0 (by decide) hw_1_67 rfl (v := I 49 0) rfl rfl rfl (Nat.le_of_ble_eq_true rfl) rfl dX2_copyFrom_5 (fun H locs hP hD hS => ?_)
  have hI_1 := xInv_I hI 3 0 (I 49 0) (zR_any (I 49 0)) rfl
  refine lv_aload_n hx hb dX2_copyFrom_8 rfl (lv_at hl 0 rfl) ?_
  refine lv_aload_n hx hb dX2_copyFrom_9 rfl (lv_at hl 1 rfl) ?_
  refine z_get hx hb ht hown hK hP ziX2 rfl 49 (by decide) 1 (by decide) hw_1_70 rfl (v := .int (I 49 1)) rfl dX2_copyFrom_10 ?_
  refine z_putI hx hb ht hown hK hP hD hS ziX2 tyX2 tyX2_ok nmX2 rfl 3 (by decide) 1 (by decide) hw_1_70 rfl (v := I 49 1) rfl rfl rfl (Nat.le_of_ble_eq_true rfl) rfl dX2_copyFrom_13 (fun H locs hP hD hS => ?_)
  have hI_2 := xInv_I hI_1 3 1 (I 49 1) (zR_any (I 49 1)) rfl
  refine lv_aload_n hx hb dX2_copyFrom_16 rfl (lv_at hl 0 rfl) ?_
  refine lv_aload_n hx hb dX2_copyFrom_17 rfl (lv_at hl 1 rfl) ?_
  refine z_get hx hb ht hown hK hP ziX2 rfl 49 (by decide) 2 (by decide) hw_1_74 rfl (v := .int (I 49 2)) rfl dX2_copyFrom_18 ?_
  refine z_putI hx hb ht hown hK hP hD hS ziX2 tyX2 tyX2_ok nmX2 rfl 3 (by decide) 2 (by decide) hw_1_74 rfl (v := I 49 2) rfl rfl rfl (Nat.le_of_ble_eq_true rfl) rfl dX2_copyFrom_21 (fun H locs hP hD hS => ?_)
  have hI_3 := xInv_I hI_2 3 2 (I 49 2) (zR_any (I 49 2)) rfl
  refine lv_aload_n hx hb dX2_copyFrom_24 rfl (lv_at hl 0 rfl) ?_
  refine lv_aload_n hx hb dX2_copyFrom_25 rfl (lv_at hl 1 rfl) ?_
  refine z_get hx hb ht hown hK hP ziX2 rfl 49 (by decide) 3 (by decide) hw_1_78 rfl (v := .int (I 49 3)) rfl dX2_copyFrom_26 ?_
  refine z_putI hx hb ht hown hK hP hD hS ziX2 tyX2 tyX2_ok nmX2 rfl 3 (by decide) 3 (by decide) hw_1_78 rfl (v := I 49 3) rfl rfl rfl (Nat.le_of_ble_eq_true rfl) rfl dX2_copyFrom_29 (fun H locs hP hD hS => ?_)
  have hI_4 := xInv_I hI_3 3 3 (I 49 3) (zR_any (I 49 3)) rfl
  refine lv_aload_n hx hb dX2_copyFrom_32 rfl (lv_at hl 0 rfl) ?_
  refine lv_aload_n hx hb dX2_copyFrom_33 rfl (lv_at hl 1 rfl) ?_
  refine z_get hx hb ht hown hK hP ziX2 rfl 49 (by decide) 4 (by decide) hw_1_81 rfl (v := .int (I 49 4)) rfl dX2_copyFrom_34 ?_
  have f_5 : zR 0 5 (I 49 4) := xI hI 49 4
  refine z_putI hx hb ht hown hK hP hD hS ziX2 tyX2 tyX2_ok nmX2 rfl 3 (by decide) 4 (by decide) hw_1_81 rfl (v := I 49 4) rfl rfl rfl (Nat.le_of_ble_eq_true rfl) rfl dX2_copyFrom_37 (fun H locs hP hD hS => ?_)
  have hI_6 := xInv_I hI_4 3 4 (I 49 4) f_5 rfl
  refine lv_aload_n hx hb dX2_copyFrom_40 rfl (lv_at hl 0 rfl) ?_
  refine lv_aload_n hx hb dX2_copyFrom_41 rfl (lv_at hl 1 rfl) ?_
  refine z_get hx hb ht hown hK hP ziX2 rfl 49 (by decide) 5 (by decide) hw_1_87 rfl (v := .int (I 49 5)) rfl dX2_copyFrom_42 ?_
  have f_7 : zR 0 6 (I 49 5) := xI hI 49 5
  refine z_putI hx hb ht hown hK hP hD hS ziX2 tyX2 tyX2_ok nmX2 rfl 3 (by decide) 5 (by decide) hw_1_87 rfl (v := I 49 5) rfl rfl rfl (Nat.le_of_ble_eq_true rfl) rfl dX2_copyFrom_45 (fun H locs hP hD hS => ?_)
  have hI_8 := xInv_I hI_6 3 5 (I 49 5) f_7 rfl
  refine lv_aload_n hx hb dX2_copyFrom_48 rfl (lv_at hl 0 rfl) ?_
  refine lv_aload_n hx hb dX2_copyFrom_49 rfl (lv_at hl 1 rfl) ?_
  refine z_get hx hb ht hown hK hP ziX2 rfl 49 (by decide) 6 (by decide) hw_1_95 rfl (v := .int (I 49 6)) rfl dX2_copyFrom_50 ?_
  refine z_putI hx hb ht hown hK hP hD hS ziX2 tyX2 tyX2_ok nmX2 rfl 3 (by decide) 6 (by decide) hw_1_95 rfl (v := I 49 6) rfl rfl rfl (Nat.le_of_ble_eq_true rfl) rfl dX2_copyFrom_53 (fun H locs hP hD hS => ?_)
  have hI_9 := xInv_I hI_8 3 6 (I 49 6) (zR_any (I 49 6)) rfl
  refine lv_aload_n hx hb dX2_copyFrom_56 rfl (lv_at hl 1 rfl) ?_
  refine z_get hx hb ht hown hK hP ziX2 rfl 49 (by decide) 7 (by decide) hw_1_97 rfl (v := .ref (q 50)) rfl dX2_copyFrom_57 ?_
  refine lv_iconst (v := nI 0) hx hb dX2_copyFrom_60 (by decide +kernel) ?_
  refine lv_aload_n hx hb dX2_copyFrom_61 rfl (lv_at hl 0 rfl) ?_
  refine z_get hx hb ht hown hK hP ziX2 rfl 3 (by decide) 7 (by decide) hw_1_97 rfl (v := .ref (q 4)) rfl dX2_copyFrom_62 ?_
  refine lv_iconst (v := nI 0) hx hb dX2_copyFrom_65 (by decide +kernel) ?_
  refine lv_iconst (v := nI 5) hx hb dX2_copyFrom_66 (by decide +kernel) ?_
  refine z_copyi hx hb (hml.trans hl.1.symm) ht hown hw_3_42 ⟨hw_3_44, hw_3_43, hw_1_18⟩ hK hP hD hS 50 4 (by decide) (by decide) 37 1 rfl (fun _ => rfl) rfl rfl (by decide +kernel) (by decide +kernel) (by decide +kernel) (by decide +kernel) (by decide +kernel) (by decide) (by decide +kernel) dX2_copyFrom_67 (fun g_10 H locs eg_10 hP hD hS => ?_)
  have hI_11 := xInv_cp hI_9 50 4 eg_10 (by decide) (by decide) rfl
  refine lv_aload_n hx hb dX2_copyFrom_70 rfl (lv_at hl 1 rfl) ?_
  refine z_get hx hb ht hown hK hP ziX2 rfl 49 (by decide) 8 (by decide) hw_1_100 rfl (v := .ref (q 51)) rfl dX2_copyFrom_71 ?_
  refine lv_iconst (v := nI 0) hx hb dX2_copyFrom_74 (by decide +kernel) ?_
  refine lv_aload_n hx hb dX2_copyFrom_75 rfl (lv_at hl 0 rfl) ?_
  refine z_get hx hb ht hown hK hP ziX2 rfl 3 (by decide) 8 (by decide) hw_1_100 rfl (v := .ref (q 5)) rfl dX2_copyFrom_76 ?_
  refine lv_iconst (v := nI 0) hx hb dX2_copyFrom_79 (by decide +kernel) ?_
  refine lv_bipush (v := nI 6) hx hb dX2_copyFrom_80 (by decide +kernel) ?_
  refine z_copyi hx hb (hml.trans hl.1.symm) ht hown hw_3_42 ⟨hw_3_44, hw_3_43, hw_1_18⟩ hK hP hD hS 51 5 (by decide) (by decide) 38 2 rfl (fun _ => rfl) rfl rfl (by decide +kernel) (by decide +kernel) (by decide +kernel) (by decide +kernel) (by decide +kernel) (by decide) (by decide +kernel) dX2_copyFrom_82 (fun g_12 H locs eg_12 hP hD hS => ?_)
  have hI_13 := xInv_cp hI_11 51 5 eg_12 (by decide) (by decide) rfl
  refine lv_aload_n hx hb dX2_copyFrom_85 rfl (lv_at hl 1 rfl) ?_
  refine z_get hx hb ht hown hK hP ziX2 rfl 49 (by decide) 9 (by decide) hw_1_104 rfl (v := .ref (q 52)) rfl dX2_copyFrom_86 ?_
  refine lv_iconst (v := nI 0) hx hb dX2_copyFrom_89 (by decide +kernel) ?_
  refine lv_aload_n hx hb dX2_copyFrom_90 rfl (lv_at hl 0 rfl) ?_
  refine z_get hx hb ht hown hK hP ziX2 rfl 3 (by decide) 9 (by decide) hw_1_104 rfl (v := .ref (q 6)) rfl dX2_copyFrom_91 ?_
  refine lv_iconst (v := nI 0) hx hb dX2_copyFrom_94 (by decide +kernel) ?_
  refine lv_bipush (v := nI 6) hx hb dX2_copyFrom_95 (by decide +kernel) ?_
  refine z_copyi hx hb (hml.trans hl.1.symm) ht hown hw_3_42 ⟨hw_3_44, hw_3_43, hw_1_18⟩ hK hP hD hS 52 6 (by decide) (by decide) 39 3 rfl (fun _ => rfl) rfl rfl (by decide +kernel) (by decide +kernel) (by decide +kernel) (by decide +kernel) (by decide +kernel) (by decide) (by decide +kernel) dX2_copyFrom_97 (fun g_14 H locs eg_14 hP hD hS => ?_)
  have hI_15 := xInv_cp hI_13 52 6 eg_14 (by decide) (by decide) rfl
  refine lv_aload_n hx hb dX2_copyFrom_100 rfl (lv_at hl 1 rfl) ?_
  refine z_get hx hb ht hown hK hP ziX2 rfl 49 (by decide) 10 (by decide) hw_1_109 rfl (v := .ref (q 53)) rfl dX2_copyFrom_101 ?_
  refine lv_iconst (v := nI 0) hx hb dX2_copyFrom_104 (by decide +kernel) ?_
  refine lv_aload_n hx hb dX2_copyFrom_105 rfl (lv_at hl 0 rfl) ?_
  refine z_get hx hb ht hown hK hP ziX2 rfl 3 (by decide) 10 (by decide) hw_1_109 rfl (v := .ref (q 7)) rfl dX2_copyFrom_106 ?_
  refine lv_iconst (v := nI 0) hx hb dX2_copyFrom_109 (by decide +kernel) ?_
  refine lv_bipush (v := nI 30) hx hb dX2_copyFrom_110 (by decide +kernel) ?_
  refine z_copyi hx hb (hml.trans hl.1.symm) ht hown hw_3_42 ⟨hw_3_44, hw_3_43, hw_1_18⟩ hK hP hD hS 53 7 (by decide) (by decide) 40 4 rfl (fun _ => rfl) rfl rfl (by decide +kernel) (by decide +kernel) (by decide +kernel) (by decide +kernel) (by decide +kernel) (by decide) (by decide +kernel) dX2_copyFrom_112 (fun g_16 H locs eg_16 hP hD hS => ?_)
  have hI_17 := xInv_cp hI_15 53 7 eg_16 (by decide) (by decide) rfl
  exact z_vret hx hb hr hlocks hP hD hS dX2_copyFrom_115 hI_17
set_option maxHeartbeats 4000000 in
set_option maxRecDepth 100000 in
theorem xk_X0_copyFrom_3 (l : Launch) (D : va_G) (q : Nat → Nat) (cA : Nat → ClassId) (F : Nat → Nat → Int32) (I R : Nat → Nat → Int32) (J : Nat → Nat → Int64) (hI : xInv F (I, R, J))  : zMv l D vwCl (zXtys cA) 81 q (zXd q cA) yX0_copyFrom cX0_copyFrom 2 none ({ frames := 1, cells := 0, slots := 0, locals := 64 } : Room) [.ref (q 13), .ref (q 54)] (I, R, J) (fun u => xInv F u) := by
  intro sz
  refine z_body (by decide +kernel) (Nat.le_of_ble_eq_true rfl) (fun p e s m below meth c ls hx hb hml hr ht hown hlocks hsz hK hP hD hS hl => ?_)
  have hA : ∀ a, s.heap.size ≤ a → zA 81 q sz a := fun a h => Or.inr (hsz ▸ h)
  have hl : lv_has ls 2 [(0, .ref (q 13)), (1, .ref (q 54))] := hl
  refine lv_aload_n hx hb dX0_copyFrom_0 rfl (lv_at hl 0 rfl) ?_
  refine lv_aload_n hx hb dX0_copyFrom_1 rfl (lv_at hl 1 rfl) ?_
  refine z_get hx hb ht hown hK hP ziX0 rfl 54 (by decide) 0 (by decide) hw_1_140 rfl (v := .int (I 54 0)) rfl dX0_copyFrom_2 ?_
  have f_1 : zR 0 60 (I 54 0) := xI hI 54 0
  refine z_putI hx hb ht hown hK hP hD hS ziX0 tyX0 tyX0_ok nmX0 rfl 13 (by decide) 0 (by decide) hw_1_140 rfl (v := I 54 0) rfl rfl rfl (Nat.le_of_ble_eq_true rfl) rfl dX0_copyFrom_5 (fun H locs hP hD hS => ?_)
  have hI_2 := xInv_I hI 13 0 (I 54 0) f_1 rfl
  refine lv_aload_n hx hb dX0_copyFrom_8 rfl (lv_at hl 1 rfl) ?_
  refine z_get hx hb ht hown hK hP ziX0 rfl 54 (by decide) 1 (by decide) hw_1_142 rfl (v := .ref (q 55)) rfl dX0_copyFrom_9 ?_
  refine lv_iconst (v := nI 0) hx hb dX0_copyFrom_12 (by decide +kernel) ?_
  refine lv_aload_n hx hb dX0_copyFrom_13 rfl (lv_at hl 0 rfl) ?_
  refine z_get hx hb ht hown hK hP ziX0 rfl 13 (by decide) 1 (by decide) hw_1_142 rfl (v := .ref (q 14)) rfl dX0_copyFrom_14 ?_
  refine lv_iconst (v := nI 0) hx hb dX0_copyFrom_17 (by decide +kernel) ?_
  refine lv_sipush (v := nI 240) hx hb dX0_copyFrom_18 (by decide +kernel) ?_
  refine z_copyi hx hb (hml.trans hl.1.symm) ht hown hw_5_149 ⟨hw_3_44, hw_3_43, hw_1_18⟩ hK hP hD hS 55 14 (by decide) (by decide) 41 9 rfl (fun _ => rfl) rfl rfl (by decide +kernel) (by decide +kernel) (by decide +kernel) (by decide +kernel) (by decide +kernel) (by decide) (by decide +kernel) dX0_copyFrom_21 (fun g_3 H locs eg_3 hP hD hS => ?_)
  have hI_4 := xInv_rec hI_2 55 14 eg_3 rfl rfl
  exact z_vret hx hb hr hlocks hP hD hS dX0_copyFrom_24 hI_4
set_option maxHeartbeats 4000000 in
set_option maxRecDepth 100000 in
theorem xk_X2_copyFrom_4 (l : Launch) (D : va_G) (q : Nat → Nat) (cA : Nat → ClassId) (F : Nat → Nat → Int32) (I R : Nat → Nat → Int32) (J : Nat → Nat → Int64) (hI : xInv F (I, R, J))  : zMv l D vwCl (zXtys cA) 81 q (zXd q cA) yX2_copyFrom cX2_copyFrom 2 none ({ frames := 1, cells := 0, slots := 0, locals := 64 } : Room) [.ref (q 3), .ref (q 57)] (I, R, J) (fun u => xInv F u) := by
  intro sz
  refine z_body (by decide +kernel) (Nat.le_of_ble_eq_true rfl) (fun p e s m below meth c ls hx hb hml hr ht hown hlocks hsz hK hP hD hS hl => ?_)
  have hA : ∀ a, s.heap.size ≤ a → zA 81 q sz a := fun a h => Or.inr (hsz ▸ h)
  have hl : lv_has ls 2 [(0, .ref (q 3)), (1, .ref (q 57))] := hl
  refine lv_aload_n hx hb dX2_copyFrom_0 rfl (lv_at hl 0 rfl) ?_
  refine lv_aload_n hx hb dX2_copyFrom_1 rfl (lv_at hl 1 rfl) ?_
  refine z_get hx hb ht hown hK hP ziX2 rfl 57 (by decide) 0 (by decide) hw_1_67 rfl (v := .int (I 57 0)) rfl dX2_copyFrom_2 ?_
  refine z_putI hx hb ht hown hK hP hD hS ziX2 tyX2 tyX2_ok nmX2 rfl 3 (by decide) 0 (by decide) hw_1_67 rfl (v := I 57 0) rfl rfl rfl (Nat.le_of_ble_eq_true rfl) rfl dX2_copyFrom_5 (fun H locs hP hD hS => ?_)
  have hI_1 := xInv_I hI 3 0 (I 57 0) (zR_any (I 57 0)) rfl
  refine lv_aload_n hx hb dX2_copyFrom_8 rfl (lv_at hl 0 rfl) ?_
  refine lv_aload_n hx hb dX2_copyFrom_9 rfl (lv_at hl 1 rfl) ?_
  refine z_get hx hb ht hown hK hP ziX2 rfl 57 (by decide) 1 (by decide) hw_1_70 rfl (v := .int (I 57 1)) rfl dX2_copyFrom_10 ?_
  refine z_putI hx hb ht hown hK hP hD hS ziX2 tyX2 tyX2_ok nmX2 rfl 3 (by decide) 1 (by decide) hw_1_70 rfl (v := I 57 1) rfl rfl rfl (Nat.le_of_ble_eq_true rfl) rfl dX2_copyFrom_13 (fun H locs hP hD hS => ?_)
  have hI_2 := xInv_I hI_1 3 1 (I 57 1) (zR_any (I 57 1)) rfl
  refine lv_aload_n hx hb dX2_copyFrom_16 rfl (lv_at hl 0 rfl) ?_
  refine lv_aload_n hx hb dX2_copyFrom_17 rfl (lv_at hl 1 rfl) ?_
  refine z_get hx hb ht hown hK hP ziX2 rfl 57 (by decide) 2 (by decide) hw_1_74 rfl (v := .int (I 57 2)) rfl dX2_copyFrom_18 ?_
  refine z_putI hx hb ht hown hK hP hD hS ziX2 tyX2 tyX2_ok nmX2 rfl 3 (by decide) 2 (by decide) hw_1_74 rfl (v := I 57 2) rfl rfl rfl (Nat.le_of_ble_eq_true rfl) rfl dX2_copyFrom_21 (fun H locs hP hD hS => ?_)
  have hI_3 := xInv_I hI_2 3 2 (I 57 2) (zR_any (I 57 2)) rfl
  refine lv_aload_n hx hb dX2_copyFrom_24 rfl (lv_at hl 0 rfl) ?_
  refine lv_aload_n hx hb dX2_copyFrom_25 rfl (lv_at hl 1 rfl) ?_
  refine z_get hx hb ht hown hK hP ziX2 rfl 57 (by decide) 3 (by decide) hw_1_78 rfl (v := .int (I 57 3)) rfl dX2_copyFrom_26 ?_
  refine z_putI hx hb ht hown hK hP hD hS ziX2 tyX2 tyX2_ok nmX2 rfl 3 (by decide) 3 (by decide) hw_1_78 rfl (v := I 57 3) rfl rfl rfl (Nat.le_of_ble_eq_true rfl) rfl dX2_copyFrom_29 (fun H locs hP hD hS => ?_)
  have hI_4 := xInv_I hI_3 3 3 (I 57 3) (zR_any (I 57 3)) rfl
  refine lv_aload_n hx hb dX2_copyFrom_32 rfl (lv_at hl 0 rfl) ?_
  refine lv_aload_n hx hb dX2_copyFrom_33 rfl (lv_at hl 1 rfl) ?_
  refine z_get hx hb ht hown hK hP ziX2 rfl 57 (by decide) 4 (by decide) hw_1_81 rfl (v := .int (I 57 4)) rfl dX2_copyFrom_34 ?_
  have f_5 : zR 0 5 (I 57 4) := xI hI 57 4
  refine z_putI hx hb ht hown hK hP hD hS ziX2 tyX2 tyX2_ok nmX2 rfl 3 (by decide) 4 (by decide) hw_1_81 rfl (v := I 57 4) rfl rfl rfl (Nat.le_of_ble_eq_true rfl) rfl dX2_copyFrom_37 (fun H locs hP hD hS => ?_)
  have hI_6 := xInv_I hI_4 3 4 (I 57 4) f_5 rfl
  refine lv_aload_n hx hb dX2_copyFrom_40 rfl (lv_at hl 0 rfl) ?_
  refine lv_aload_n hx hb dX2_copyFrom_41 rfl (lv_at hl 1 rfl) ?_
  refine z_get hx hb ht hown hK hP ziX2 rfl 57 (by decide) 5 (by decide) hw_1_87 rfl (v := .int (I 57 5)) rfl dX2_copyFrom_42 ?_
  have f_7 : zR 0 6 (I 57 5) := xI hI 57 5
  refine z_putI hx hb ht hown hK hP hD hS ziX2 tyX2 tyX2_ok nmX2 rfl 3 (by decide) 5 (by decide) hw_1_87 rfl (v := I 57 5) rfl rfl rfl (Nat.le_of_ble_eq_true rfl) rfl dX2_copyFrom_45 (fun H locs hP hD hS => ?_)
  have hI_8 := xInv_I hI_6 3 5 (I 57 5) f_7 rfl
  refine lv_aload_n hx hb dX2_copyFrom_48 rfl (lv_at hl 0 rfl) ?_
  refine lv_aload_n hx hb dX2_copyFrom_49 rfl (lv_at hl 1 rfl) ?_
  refine z_get hx hb ht hown hK hP ziX2 rfl 57 (by decide) 6 (by decide) hw_1_95 rfl (v := .int (I 57 6)) rfl dX2_copyFrom_50 ?_
  refine z_putI hx hb ht hown hK hP hD hS ziX2 tyX2 tyX2_ok nmX2 rfl 3 (by decide) 6 (by decide) hw_1_95 rfl (v := I 57 6) rfl rfl rfl (Nat.le_of_ble_eq_true rfl) rfl dX2_copyFrom_53 (fun H locs hP hD hS => ?_)
  have hI_9 := xInv_I hI_8 3 6 (I 57 6) (zR_any (I 57 6)) rfl
  refine lv_aload_n hx hb dX2_copyFrom_56 rfl (lv_at hl 1 rfl) ?_
  refine z_get hx hb ht hown hK hP ziX2 rfl 57 (by decide) 7 (by decide) hw_1_97 rfl (v := .ref (q 58)) rfl dX2_copyFrom_57 ?_
  refine lv_iconst (v := nI 0) hx hb dX2_copyFrom_60 (by decide +kernel) ?_
  refine lv_aload_n hx hb dX2_copyFrom_61 rfl (lv_at hl 0 rfl) ?_
  refine z_get hx hb ht hown hK hP ziX2 rfl 3 (by decide) 7 (by decide) hw_1_97 rfl (v := .ref (q 4)) rfl dX2_copyFrom_62 ?_
  refine lv_iconst (v := nI 0) hx hb dX2_copyFrom_65 (by decide +kernel) ?_
  refine lv_iconst (v := nI 5) hx hb dX2_copyFrom_66 (by decide +kernel) ?_
  refine z_copyi hx hb (hml.trans hl.1.symm) ht hown hw_3_42 ⟨hw_3_44, hw_3_43, hw_1_18⟩ hK hP hD hS 58 4 (by decide) (by decide) 42 1 rfl (fun _ => rfl) rfl rfl (by decide +kernel) (by decide +kernel) (by decide +kernel) (by decide +kernel) (by decide +kernel) (by decide) (by decide +kernel) dX2_copyFrom_67 (fun g_10 H locs eg_10 hP hD hS => ?_)
  have hI_11 := xInv_cp hI_9 58 4 eg_10 (by decide) (by decide) rfl
  refine lv_aload_n hx hb dX2_copyFrom_70 rfl (lv_at hl 1 rfl) ?_
  refine z_get hx hb ht hown hK hP ziX2 rfl 57 (by decide) 8 (by decide) hw_1_100 rfl (v := .ref (q 59)) rfl dX2_copyFrom_71 ?_
  refine lv_iconst (v := nI 0) hx hb dX2_copyFrom_74 (by decide +kernel) ?_
  refine lv_aload_n hx hb dX2_copyFrom_75 rfl (lv_at hl 0 rfl) ?_
  refine z_get hx hb ht hown hK hP ziX2 rfl 3 (by decide) 8 (by decide) hw_1_100 rfl (v := .ref (q 5)) rfl dX2_copyFrom_76 ?_
  refine lv_iconst (v := nI 0) hx hb dX2_copyFrom_79 (by decide +kernel) ?_
  refine lv_bipush (v := nI 6) hx hb dX2_copyFrom_80 (by decide +kernel) ?_
  refine z_copyi hx hb (hml.trans hl.1.symm) ht hown hw_3_42 ⟨hw_3_44, hw_3_43, hw_1_18⟩ hK hP hD hS 59 5 (by decide) (by decide) 43 2 rfl (fun _ => rfl) rfl rfl (by decide +kernel) (by decide +kernel) (by decide +kernel) (by decide +kernel) (by decide +kernel) (by decide) (by decide +kernel) dX2_copyFrom_82 (fun g_12 H locs eg_12 hP hD hS => ?_)
  have hI_13 := xInv_cp hI_11 59 5 eg_12 (by decide) (by decide) rfl
  refine lv_aload_n hx hb dX2_copyFrom_85 rfl (lv_at hl 1 rfl) ?_
  refine z_get hx hb ht hown hK hP ziX2 rfl 57 (by decide) 9 (by decide) hw_1_104 rfl (v := .ref (q 60)) rfl dX2_copyFrom_86 ?_
  refine lv_iconst (v := nI 0) hx hb dX2_copyFrom_89 (by decide +kernel) ?_
  refine lv_aload_n hx hb dX2_copyFrom_90 rfl (lv_at hl 0 rfl) ?_
  refine z_get hx hb ht hown hK hP ziX2 rfl 3 (by decide) 9 (by decide) hw_1_104 rfl (v := .ref (q 6)) rfl dX2_copyFrom_91 ?_
  refine lv_iconst (v := nI 0) hx hb dX2_copyFrom_94 (by decide +kernel) ?_
  refine lv_bipush (v := nI 6) hx hb dX2_copyFrom_95 (by decide +kernel) ?_
  refine z_copyi hx hb (hml.trans hl.1.symm) ht hown hw_3_42 ⟨hw_3_44, hw_3_43, hw_1_18⟩ hK hP hD hS 60 6 (by decide) (by decide) 44 3 rfl (fun _ => rfl) rfl rfl (by decide +kernel) (by decide +kernel) (by decide +kernel) (by decide +kernel) (by decide +kernel) (by decide) (by decide +kernel) dX2_copyFrom_97 (fun g_14 H locs eg_14 hP hD hS => ?_)
  have hI_15 := xInv_cp hI_13 60 6 eg_14 (by decide) (by decide) rfl
  refine lv_aload_n hx hb dX2_copyFrom_100 rfl (lv_at hl 1 rfl) ?_
  refine z_get hx hb ht hown hK hP ziX2 rfl 57 (by decide) 10 (by decide) hw_1_109 rfl (v := .ref (q 61)) rfl dX2_copyFrom_101 ?_
  refine lv_iconst (v := nI 0) hx hb dX2_copyFrom_104 (by decide +kernel) ?_
  refine lv_aload_n hx hb dX2_copyFrom_105 rfl (lv_at hl 0 rfl) ?_
  refine z_get hx hb ht hown hK hP ziX2 rfl 3 (by decide) 10 (by decide) hw_1_109 rfl (v := .ref (q 7)) rfl dX2_copyFrom_106 ?_
  refine lv_iconst (v := nI 0) hx hb dX2_copyFrom_109 (by decide +kernel) ?_
  refine lv_bipush (v := nI 30) hx hb dX2_copyFrom_110 (by decide +kernel) ?_
  refine z_copyi hx hb (hml.trans hl.1.symm) ht hown hw_3_42 ⟨hw_3_44, hw_3_43, hw_1_18⟩ hK hP hD hS 61 7 (by decide) (by decide) 45 4 rfl (fun _ => rfl) rfl rfl (by decide +kernel) (by decide +kernel) (by decide +kernel) (by decide +kernel) (by decide +kernel) (by decide) (by decide +kernel) dX2_copyFrom_112 (fun g_16 H locs eg_16 hP hD hS => ?_)
  have hI_17 := xInv_cp hI_15 61 7 eg_16 (by decide) (by decide) rfl
  exact z_vret hx hb hr hlocks hP hD hS dX2_copyFrom_115 hI_17
set_option maxHeartbeats 4000000 in
set_option maxRecDepth 100000 in
theorem xk_X0_copyFrom_4 (l : Launch) (D : va_G) (q : Nat → Nat) (cA : Nat → ClassId) (F : Nat → Nat → Int32) (I R : Nat → Nat → Int32) (J : Nat → Nat → Int64) (hI : xInv F (I, R, J))  : zMv l D vwCl (zXtys cA) 81 q (zXd q cA) yX0_copyFrom cX0_copyFrom 2 none ({ frames := 1, cells := 0, slots := 0, locals := 64 } : Room) [.ref (q 13), .ref (q 62)] (I, R, J) (fun u => xInv F u) := by
  intro sz
  refine z_body (by decide +kernel) (Nat.le_of_ble_eq_true rfl) (fun p e s m below meth c ls hx hb hml hr ht hown hlocks hsz hK hP hD hS hl => ?_)
  have hA : ∀ a, s.heap.size ≤ a → zA 81 q sz a := fun a h => Or.inr (hsz ▸ h)
  have hl : lv_has ls 2 [(0, .ref (q 13)), (1, .ref (q 62))] := hl
  refine lv_aload_n hx hb dX0_copyFrom_0 rfl (lv_at hl 0 rfl) ?_
  refine lv_aload_n hx hb dX0_copyFrom_1 rfl (lv_at hl 1 rfl) ?_
  refine z_get hx hb ht hown hK hP ziX0 rfl 62 (by decide) 0 (by decide) hw_1_140 rfl (v := .int (I 62 0)) rfl dX0_copyFrom_2 ?_
  have f_1 : zR 0 60 (I 62 0) := xI hI 62 0
  refine z_putI hx hb ht hown hK hP hD hS ziX0 tyX0 tyX0_ok nmX0 rfl 13 (by decide) 0 (by decide) hw_1_140 rfl (v := I 62 0) rfl rfl rfl (Nat.le_of_ble_eq_true rfl) rfl dX0_copyFrom_5 (fun H locs hP hD hS => ?_)
  have hI_2 := xInv_I hI 13 0 (I 62 0) f_1 rfl
  refine lv_aload_n hx hb dX0_copyFrom_8 rfl (lv_at hl 1 rfl) ?_
  refine z_get hx hb ht hown hK hP ziX0 rfl 62 (by decide) 1 (by decide) hw_1_142 rfl (v := .ref (q 63)) rfl dX0_copyFrom_9 ?_
  refine lv_iconst (v := nI 0) hx hb dX0_copyFrom_12 (by decide +kernel) ?_
  refine lv_aload_n hx hb dX0_copyFrom_13 rfl (lv_at hl 0 rfl) ?_
  refine z_get hx hb ht hown hK hP ziX0 rfl 13 (by decide) 1 (by decide) hw_1_142 rfl (v := .ref (q 14)) rfl dX0_copyFrom_14 ?_
  refine lv_iconst (v := nI 0) hx hb dX0_copyFrom_17 (by decide +kernel) ?_
  refine lv_sipush (v := nI 240) hx hb dX0_copyFrom_18 (by decide +kernel) ?_
  refine z_copyi hx hb (hml.trans hl.1.symm) ht hown hw_5_149 ⟨hw_3_44, hw_3_43, hw_1_18⟩ hK hP hD hS 63 14 (by decide) (by decide) 46 9 rfl (fun _ => rfl) rfl rfl (by decide +kernel) (by decide +kernel) (by decide +kernel) (by decide +kernel) (by decide +kernel) (by decide) (by decide +kernel) dX0_copyFrom_21 (fun g_3 H locs eg_3 hP hD hS => ?_)
  have hI_4 := xInv_rec hI_2 63 14 eg_3 rfl rfl
  exact z_vret hx hb hr hlocks hP hD hS dX0_copyFrom_24 hI_4
set_option maxHeartbeats 4000000 in
set_option maxRecDepth 100000 in
theorem xk_X2_copyFrom_5 (l : Launch) (D : va_G) (q : Nat → Nat) (cA : Nat → ClassId) (F : Nat → Nat → Int32) (I R : Nat → Nat → Int32) (J : Nat → Nat → Int64) (hI : xInv F (I, R, J))  : zMv l D vwCl (zXtys cA) 81 q (zXd q cA) yX2_copyFrom cX2_copyFrom 2 none ({ frames := 1, cells := 0, slots := 0, locals := 64 } : Room) [.ref (q 3), .ref (q 65)] (I, R, J) (fun u => xInv F u) := by
  intro sz
  refine z_body (by decide +kernel) (Nat.le_of_ble_eq_true rfl) (fun p e s m below meth c ls hx hb hml hr ht hown hlocks hsz hK hP hD hS hl => ?_)
  have hA : ∀ a, s.heap.size ≤ a → zA 81 q sz a := fun a h => Or.inr (hsz ▸ h)
  have hl : lv_has ls 2 [(0, .ref (q 3)), (1, .ref (q 65))] := hl
  refine lv_aload_n hx hb dX2_copyFrom_0 rfl (lv_at hl 0 rfl) ?_
  refine lv_aload_n hx hb dX2_copyFrom_1 rfl (lv_at hl 1 rfl) ?_
  refine z_get hx hb ht hown hK hP ziX2 rfl 65 (by decide) 0 (by decide) hw_1_67 rfl (v := .int (I 65 0)) rfl dX2_copyFrom_2 ?_
  refine z_putI hx hb ht hown hK hP hD hS ziX2 tyX2 tyX2_ok nmX2 rfl 3 (by decide) 0 (by decide) hw_1_67 rfl (v := I 65 0) rfl rfl rfl (Nat.le_of_ble_eq_true rfl) rfl dX2_copyFrom_5 (fun H locs hP hD hS => ?_)
  have hI_1 := xInv_I hI 3 0 (I 65 0) (zR_any (I 65 0)) rfl
  refine lv_aload_n hx hb dX2_copyFrom_8 rfl (lv_at hl 0 rfl) ?_
  refine lv_aload_n hx hb dX2_copyFrom_9 rfl (lv_at hl 1 rfl) ?_
  refine z_get hx hb ht hown hK hP ziX2 rfl 65 (by decide) 1 (by decide) hw_1_70 rfl (v := .int (I 65 1)) rfl dX2_copyFrom_10 ?_
  refine z_putI hx hb ht hown hK hP hD hS ziX2 tyX2 tyX2_ok nmX2 rfl 3 (by decide) 1 (by decide) hw_1_70 rfl (v := I 65 1) rfl rfl rfl (Nat.le_of_ble_eq_true rfl) rfl dX2_copyFrom_13 (fun H locs hP hD hS => ?_)
  have hI_2 := xInv_I hI_1 3 1 (I 65 1) (zR_any (I 65 1)) rfl
  refine lv_aload_n hx hb dX2_copyFrom_16 rfl (lv_at hl 0 rfl) ?_
  refine lv_aload_n hx hb dX2_copyFrom_17 rfl (lv_at hl 1 rfl) ?_
  refine z_get hx hb ht hown hK hP ziX2 rfl 65 (by decide) 2 (by decide) hw_1_74 rfl (v := .int (I 65 2)) rfl dX2_copyFrom_18 ?_
  refine z_putI hx hb ht hown hK hP hD hS ziX2 tyX2 tyX2_ok nmX2 rfl 3 (by decide) 2 (by decide) hw_1_74 rfl (v := I 65 2) rfl rfl rfl (Nat.le_of_ble_eq_true rfl) rfl dX2_copyFrom_21 (fun H locs hP hD hS => ?_)
  have hI_3 := xInv_I hI_2 3 2 (I 65 2) (zR_any (I 65 2)) rfl
  refine lv_aload_n hx hb dX2_copyFrom_24 rfl (lv_at hl 0 rfl) ?_
  refine lv_aload_n hx hb dX2_copyFrom_25 rfl (lv_at hl 1 rfl) ?_
  refine z_get hx hb ht hown hK hP ziX2 rfl 65 (by decide) 3 (by decide) hw_1_78 rfl (v := .int (I 65 3)) rfl dX2_copyFrom_26 ?_
  refine z_putI hx hb ht hown hK hP hD hS ziX2 tyX2 tyX2_ok nmX2 rfl 3 (by decide) 3 (by decide) hw_1_78 rfl (v := I 65 3) rfl rfl rfl (Nat.le_of_ble_eq_true rfl) rfl dX2_copyFrom_29 (fun H locs hP hD hS => ?_)
  have hI_4 := xInv_I hI_3 3 3 (I 65 3) (zR_any (I 65 3)) rfl
  refine lv_aload_n hx hb dX2_copyFrom_32 rfl (lv_at hl 0 rfl) ?_
  refine lv_aload_n hx hb dX2_copyFrom_33 rfl (lv_at hl 1 rfl) ?_
  refine z_get hx hb ht hown hK hP ziX2 rfl 65 (by decide) 4 (by decide) hw_1_81 rfl (v := .int (I 65 4)) rfl dX2_copyFrom_34 ?_
  have f_5 : zR 0 5 (I 65 4) := xI hI 65 4
  refine z_putI hx hb ht hown hK hP hD hS ziX2 tyX2 tyX2_ok nmX2 rfl 3 (by decide) 4 (by decide) hw_1_81 rfl (v := I 65 4) rfl rfl rfl (Nat.le_of_ble_eq_true rfl) rfl dX2_copyFrom_37 (fun H locs hP hD hS => ?_)
  have hI_6 := xInv_I hI_4 3 4 (I 65 4) f_5 rfl
  refine lv_aload_n hx hb dX2_copyFrom_40 rfl (lv_at hl 0 rfl) ?_
  refine lv_aload_n hx hb dX2_copyFrom_41 rfl (lv_at hl 1 rfl) ?_
  refine z_get hx hb ht hown hK hP ziX2 rfl 65 (by decide) 5 (by decide) hw_1_87 rfl (v := .int (I 65 5)) rfl dX2_copyFrom_42 ?_
  have f_7 : zR 0 6 (I 65 5) := xI hI 65 5
  refine z_putI hx hb ht hown hK hP hD hS ziX2 tyX2 tyX2_ok nmX2 rfl 3 (by decide) 5 (by decide) hw_1_87 rfl (v := I 65 5) rfl rfl rfl (Nat.le_of_ble_eq_true rfl) rfl dX2_copyFrom_45 (fun H locs hP hD hS => ?_)
  have hI_8 := xInv_I hI_6 3 5 (I 65 5) f_7 rfl
  refine lv_aload_n hx hb dX2_copyFrom_48 rfl (lv_at hl 0 rfl) ?_
  refine lv_aload_n hx hb dX2_copyFrom_49 rfl (lv_at hl 1 rfl) ?_
  refine z_get hx hb ht hown hK hP ziX2 rfl 65 (by decide) 6 (by decide) hw_1_95 rfl (v := .int (I 65 6)) rfl dX2_copyFrom_50 ?_
  refine z_putI hx hb ht hown hK hP hD hS ziX2 tyX2 tyX2_ok nmX2 rfl 3 (by decide) 6 (by decide) hw_1_95 rfl (v := I 65 6) rfl rfl rfl (Nat.le_of_ble_eq_true rfl) rfl dX2_copyFrom_53 (fun H locs hP hD hS => ?_)
  have hI_9 := xInv_I hI_8 3 6 (I 65 6) (zR_any (I 65 6)) rfl
  refine lv_aload_n hx hb dX2_copyFrom_56 rfl (lv_at hl 1 rfl) ?_
  refine z_get hx hb ht hown hK hP ziX2 rfl 65 (by decide) 7 (by decide) hw_1_97 rfl (v := .ref (q 66)) rfl dX2_copyFrom_57 ?_
  refine lv_iconst (v := nI 0) hx hb dX2_copyFrom_60 (by decide +kernel) ?_
  refine lv_aload_n hx hb dX2_copyFrom_61 rfl (lv_at hl 0 rfl) ?_
  refine z_get hx hb ht hown hK hP ziX2 rfl 3 (by decide) 7 (by decide) hw_1_97 rfl (v := .ref (q 4)) rfl dX2_copyFrom_62 ?_
  refine lv_iconst (v := nI 0) hx hb dX2_copyFrom_65 (by decide +kernel) ?_
  refine lv_iconst (v := nI 5) hx hb dX2_copyFrom_66 (by decide +kernel) ?_
  refine z_copyi hx hb (hml.trans hl.1.symm) ht hown hw_3_42 ⟨hw_3_44, hw_3_43, hw_1_18⟩ hK hP hD hS 66 4 (by decide) (by decide) 47 1 rfl (fun _ => rfl) rfl rfl (by decide +kernel) (by decide +kernel) (by decide +kernel) (by decide +kernel) (by decide +kernel) (by decide) (by decide +kernel) dX2_copyFrom_67 (fun g_10 H locs eg_10 hP hD hS => ?_)
  have hI_11 := xInv_cp hI_9 66 4 eg_10 (by decide) (by decide) rfl
  refine lv_aload_n hx hb dX2_copyFrom_70 rfl (lv_at hl 1 rfl) ?_
  refine z_get hx hb ht hown hK hP ziX2 rfl 65 (by decide) 8 (by decide) hw_1_100 rfl (v := .ref (q 67)) rfl dX2_copyFrom_71 ?_
  refine lv_iconst (v := nI 0) hx hb dX2_copyFrom_74 (by decide +kernel) ?_
  refine lv_aload_n hx hb dX2_copyFrom_75 rfl (lv_at hl 0 rfl) ?_
  refine z_get hx hb ht hown hK hP ziX2 rfl 3 (by decide) 8 (by decide) hw_1_100 rfl (v := .ref (q 5)) rfl dX2_copyFrom_76 ?_
  refine lv_iconst (v := nI 0) hx hb dX2_copyFrom_79 (by decide +kernel) ?_
  refine lv_bipush (v := nI 6) hx hb dX2_copyFrom_80 (by decide +kernel) ?_
  refine z_copyi hx hb (hml.trans hl.1.symm) ht hown hw_3_42 ⟨hw_3_44, hw_3_43, hw_1_18⟩ hK hP hD hS 67 5 (by decide) (by decide) 48 2 rfl (fun _ => rfl) rfl rfl (by decide +kernel) (by decide +kernel) (by decide +kernel) (by decide +kernel) (by decide +kernel) (by decide) (by decide +kernel) dX2_copyFrom_82 (fun g_12 H locs eg_12 hP hD hS => ?_)
  have hI_13 := xInv_cp hI_11 67 5 eg_12 (by decide) (by decide) rfl
  refine lv_aload_n hx hb dX2_copyFrom_85 rfl (lv_at hl 1 rfl) ?_
  refine z_get hx hb ht hown hK hP ziX2 rfl 65 (by decide) 9 (by decide) hw_1_104 rfl (v := .ref (q 68)) rfl dX2_copyFrom_86 ?_
  refine lv_iconst (v := nI 0) hx hb dX2_copyFrom_89 (by decide +kernel) ?_
  refine lv_aload_n hx hb dX2_copyFrom_90 rfl (lv_at hl 0 rfl) ?_
  refine z_get hx hb ht hown hK hP ziX2 rfl 3 (by decide) 9 (by decide) hw_1_104 rfl (v := .ref (q 6)) rfl dX2_copyFrom_91 ?_
  refine lv_iconst (v := nI 0) hx hb dX2_copyFrom_94 (by decide +kernel) ?_
  refine lv_bipush (v := nI 6) hx hb dX2_copyFrom_95 (by decide +kernel) ?_
  refine z_copyi hx hb (hml.trans hl.1.symm) ht hown hw_3_42 ⟨hw_3_44, hw_3_43, hw_1_18⟩ hK hP hD hS 68 6 (by decide) (by decide) 49 3 rfl (fun _ => rfl) rfl rfl (by decide +kernel) (by decide +kernel) (by decide +kernel) (by decide +kernel) (by decide +kernel) (by decide) (by decide +kernel) dX2_copyFrom_97 (fun g_14 H locs eg_14 hP hD hS => ?_)
  have hI_15 := xInv_cp hI_13 68 6 eg_14 (by decide) (by decide) rfl
  refine lv_aload_n hx hb dX2_copyFrom_100 rfl (lv_at hl 1 rfl) ?_
  refine z_get hx hb ht hown hK hP ziX2 rfl 65 (by decide) 10 (by decide) hw_1_109 rfl (v := .ref (q 69)) rfl dX2_copyFrom_101 ?_
  refine lv_iconst (v := nI 0) hx hb dX2_copyFrom_104 (by decide +kernel) ?_
  refine lv_aload_n hx hb dX2_copyFrom_105 rfl (lv_at hl 0 rfl) ?_
  refine z_get hx hb ht hown hK hP ziX2 rfl 3 (by decide) 10 (by decide) hw_1_109 rfl (v := .ref (q 7)) rfl dX2_copyFrom_106 ?_
  refine lv_iconst (v := nI 0) hx hb dX2_copyFrom_109 (by decide +kernel) ?_
  refine lv_bipush (v := nI 30) hx hb dX2_copyFrom_110 (by decide +kernel) ?_
  refine z_copyi hx hb (hml.trans hl.1.symm) ht hown hw_3_42 ⟨hw_3_44, hw_3_43, hw_1_18⟩ hK hP hD hS 69 7 (by decide) (by decide) 50 4 rfl (fun _ => rfl) rfl rfl (by decide +kernel) (by decide +kernel) (by decide +kernel) (by decide +kernel) (by decide +kernel) (by decide) (by decide +kernel) dX2_copyFrom_112 (fun g_16 H locs eg_16 hP hD hS => ?_)
  have hI_17 := xInv_cp hI_15 69 7 eg_16 (by decide) (by decide) rfl
  exact z_vret hx hb hr hlocks hP hD hS dX2_copyFrom_115 hI_17
set_option maxHeartbeats 4000000 in
set_option maxRecDepth 100000 in
theorem xk_X0_copyFrom_5 (l : Launch) (D : va_G) (q : Nat → Nat) (cA : Nat → ClassId) (F : Nat → Nat → Int32) (I R : Nat → Nat → Int32) (J : Nat → Nat → Int64) (hI : xInv F (I, R, J))  : zMv l D vwCl (zXtys cA) 81 q (zXd q cA) yX0_copyFrom cX0_copyFrom 2 none ({ frames := 1, cells := 0, slots := 0, locals := 64 } : Room) [.ref (q 13), .ref (q 70)] (I, R, J) (fun u => xInv F u) := by
  intro sz
  refine z_body (by decide +kernel) (Nat.le_of_ble_eq_true rfl) (fun p e s m below meth c ls hx hb hml hr ht hown hlocks hsz hK hP hD hS hl => ?_)
  have hA : ∀ a, s.heap.size ≤ a → zA 81 q sz a := fun a h => Or.inr (hsz ▸ h)
  have hl : lv_has ls 2 [(0, .ref (q 13)), (1, .ref (q 70))] := hl
  refine lv_aload_n hx hb dX0_copyFrom_0 rfl (lv_at hl 0 rfl) ?_
  refine lv_aload_n hx hb dX0_copyFrom_1 rfl (lv_at hl 1 rfl) ?_
  refine z_get hx hb ht hown hK hP ziX0 rfl 70 (by decide) 0 (by decide) hw_1_140 rfl (v := .int (I 70 0)) rfl dX0_copyFrom_2 ?_
  have f_1 : zR 0 60 (I 70 0) := xI hI 70 0
  refine z_putI hx hb ht hown hK hP hD hS ziX0 tyX0 tyX0_ok nmX0 rfl 13 (by decide) 0 (by decide) hw_1_140 rfl (v := I 70 0) rfl rfl rfl (Nat.le_of_ble_eq_true rfl) rfl dX0_copyFrom_5 (fun H locs hP hD hS => ?_)
  have hI_2 := xInv_I hI 13 0 (I 70 0) f_1 rfl
  refine lv_aload_n hx hb dX0_copyFrom_8 rfl (lv_at hl 1 rfl) ?_
  refine z_get hx hb ht hown hK hP ziX0 rfl 70 (by decide) 1 (by decide) hw_1_142 rfl (v := .ref (q 71)) rfl dX0_copyFrom_9 ?_
  refine lv_iconst (v := nI 0) hx hb dX0_copyFrom_12 (by decide +kernel) ?_
  refine lv_aload_n hx hb dX0_copyFrom_13 rfl (lv_at hl 0 rfl) ?_
  refine z_get hx hb ht hown hK hP ziX0 rfl 13 (by decide) 1 (by decide) hw_1_142 rfl (v := .ref (q 14)) rfl dX0_copyFrom_14 ?_
  refine lv_iconst (v := nI 0) hx hb dX0_copyFrom_17 (by decide +kernel) ?_
  refine lv_sipush (v := nI 240) hx hb dX0_copyFrom_18 (by decide +kernel) ?_
  refine z_copyi hx hb (hml.trans hl.1.symm) ht hown hw_5_149 ⟨hw_3_44, hw_3_43, hw_1_18⟩ hK hP hD hS 71 14 (by decide) (by decide) 51 9 rfl (fun _ => rfl) rfl rfl (by decide +kernel) (by decide +kernel) (by decide +kernel) (by decide +kernel) (by decide +kernel) (by decide) (by decide +kernel) dX0_copyFrom_21 (fun g_3 H locs eg_3 hP hD hS => ?_)
  have hI_4 := xInv_rec hI_2 71 14 eg_3 rfl rfl
  exact z_vret hx hb hr hlocks hP hD hS dX0_copyFrom_24 hI_4
set_option maxHeartbeats 4000000 in
set_option maxRecDepth 100000 in
theorem xk_X10_back (l : Launch) (D : va_G) (q : Nat → Nat) (cA : Nat → ClassId) (F : Nat → Nat → Int32) (I R : Nat → Nat → Int32) (J : Nat → Nat → Int64) (hI : xInv F (I, R, J)) (pa0 : Int32) : zMi l D vwCl (zXtys cA) 81 q (zXd q cA) yX10_back cX10_back 3 (some .int) ({ frames := 6, cells := 0, slots := 0, locals := 156 } : Room) [.ref (q 0), .int (pa0)] (I, R, J) (fun r u => ((pa0.toInt < 0 ∨ 2 < pa0.toInt) ∧ r = (-2) ∧ u = (I, R, J)) ∨ (¬ (pa0.toInt < 0 ∨ 2 < pa0.toInt) ∧ xkept F pa0 = nI 0 ∧ r = (-6) ∧ u = (I, R, J)) ∨ (¬ (pa0.toInt < 0 ∨ 2 < pa0.toInt) ∧ xkept F pa0 ≠ nI 0 ∧ r = nI 0 ∧ xInv F u)) := by
  intro sz
  refine z_body (by decide +kernel) (Nat.le_of_ble_eq_true rfl) (fun p e s m below meth c ls hx hb hml hr ht hown hlocks hsz hK hP hD hS hl => ?_)
  have hA : ∀ a, s.heap.size ≤ a → zA 81 q sz a := fun a h => Or.inr (hsz ▸ h)
  have hl : lv_has ls 3 [(0, .ref (q 0)), (1, .int (pa0))] := hl
  refine lv_iload_n hx hb dX10_back_0 rfl (lv_at hl 1 rfl) ?_
  refine lv_if_lt (tgt := 9) hx hb dX10_back_1 (by decide) (fun c_1 => ?_) (fun c_1 => ?_)
  · have t_c_1 := z_ltT c_1
    have f_2 : zR (-2147483648) (-1) (pa0) := zR_ltx t_c_1 (zR_any (pa0)) zk_z (by decide)
    refine lv_bipush (v := (-2)) hx hb dX10_back_9 (by decide +kernel) ?_
    exact z_iret (v := (-2)) hx hb hr hlocks hP hD hS dX10_back_11 (Or.inl ⟨(by obtain ⟨_, _⟩ := f_2; omega), rfl, rfl⟩)
  · have t_c_1 := z_ltF c_1
    have f_3 : zR 0 2147483647 (pa0) := zR_ley t_c_1 zk_z (zR_any (pa0)) (by decide)
    refine lv_iload_n hx hb dX10_back_4 rfl (lv_at hl 1 rfl) ?_
    refine lv_iconst (v := nI 3) hx hb dX10_back_5 (by decide +kernel) ?_
    refine lv_icmp_lt (tgt := 12) hx hb dX10_back_6 (by decide) (fun c_4 => ?_) (fun c_4 => ?_)
    · have t_c_4 := z_ltT c_4
      have f_5 : zR 0 2 (pa0) := zR_ltx t_c_4 f_3 zk_3 (by decide)
      refine lv_aload_n hx hb dX10_back_12 rfl (lv_at hl 0 rfl) ?_
      refine z_get hx hb ht hown hK hP ziX10 rfl 0 (by decide) 10 (by decide) hw_2_103 rfl (v := .ref (q 47)) rfl dX10_back_13 ?_
      refine lv_iload_n hx hb dX10_back_16 rfl (lv_at hl 1 rfl) ?_
      obtain ⟨n_6, hn_6, rfl⟩ := z_ex (x := pa0) (N := 3) (zR_w f_5 (a' := 0) (b' := 2) (by decide)).1 (Int.lt_of_le_of_lt (zR_w f_5 (a' := 0) (b' := 2) (by decide)).2 (by decide))
      rcases (show n_6 = 0 ∨ n_6 = 1 ∨ n_6 = 2 by omega) with rfl | rfl | rfl
      · refine va_aldq hx hb hK hP 47 36 (zw_at (by decide) rfl) rfl (vp_in_nI (by decide) (by decide)) dX10_back_17 ?_
        refine W.eq (g2 := F0 m 18 ls (.ref (q 48) :: [])) rfl ?_
        refine lv_astore_n (lv' := [(2, .ref (q 48)), (0, .ref (q 0)), (1, .int (nI 0))]) hx hb dX10_back_18 rfl hl (by decide) rfl (fun ls hl => ?_)
        refine lv_aload_n hx hb dX10_back_19 rfl (lv_at hl 0 rfl) ?_
        refine z_get hx hb ht hown hK hP ziX5 rfl 48 (by decide) 0 (by decide) hw_2_60 rfl (v := .int (I 48 0)) rfl dX10_back_20 ?_
        have f_7 : zR 0 1 (I 48 0) := xI hI 48 0
        refine lv_if_ne (tgt := 29) hx hb dX10_back_23 (by decide) (fun c_8 => ?_) (fun c_8 => ?_)
        · have t_c_8 := z_eqF c_8
          have f_9 : zR 1 1 (I 48 0) := zR_nex t_c_8 f_7 zk_z (by decide)
          refine lv_aload_n hx hb dX10_back_29 rfl (lv_at hl 1 rfl) ?_
          refine z_get hx hb ht hown hK hP ziX10 rfl 0 (by decide) 1 (by decide) hw_2_94 rfl (v := .ref (q 3)) rfl dX10_back_30 ?_
          refine lv_aload_n hx hb dX10_back_33 rfl (lv_at hl 0 rfl) ?_
          refine z_get hx hb ht hown hK hP ziX5 rfl 48 (by decide) 1 (by decide) hw_2_62 rfl (v := .ref (q 49)) rfl dX10_back_34 ?_
          refine z_callVv (k := 3) (As := [.ref (q 49)]) (rest := []) hx hb hml hown ht (xk_X2_copyFrom_3 l D q cA F _ _ _ hI ) hw_3_38 hmX2_copyFrom ⟨rfl, rfl⟩ (na := 1) rfl (by decide +kernel) (by decide) (by decide) rfl rfl hK hP hD hS hA hl.1 rfl (Nat.le_of_ble_eq_true rfl) ⟨Nat.zero_le _, Nat.zero_le _⟩ dX10_back_37 (fun I_10 R_10 J_10 H locs hp_10 hP hD hS _ _ => ?_)
          refine lv_aload_n hx hb dX10_back_40 rfl (lv_at hl 1 rfl) ?_
          refine z_get hx hb ht hown hK hP ziX10 rfl 0 (by decide) 3 (by decide) hw_2_96 rfl (v := .ref (q 13)) rfl dX10_back_41 ?_
          refine lv_aload_n hx hb dX10_back_44 rfl (lv_at hl 0 rfl) ?_
          refine z_get hx hb ht hown hK hP ziX5 rfl 48 (by decide) 2 (by decide) hw_2_64 rfl (v := .ref (q 54)) rfl dX10_back_45 ?_
          refine z_callVv (k := 13) (As := [.ref (q 54)]) (rest := []) hx hb hml hown ht (xk_X0_copyFrom_3 l D q cA F _ _ _ hp_10 ) hw_5_145 hmX0_copyFrom ⟨rfl, rfl⟩ (na := 1) rfl (by decide +kernel) (by decide) (by decide) rfl rfl hK hP hD hS hA hl.1 rfl (Nat.le_of_ble_eq_true rfl) ⟨Nat.zero_le _, Nat.zero_le _⟩ dX10_back_48 (fun I_11 R_11 J_11 H locs hp_11 hP hD hS _ _ => ?_)
          refine lv_aload_n hx hb dX10_back_51 rfl (lv_at hl 1 rfl) ?_
          refine z_get hx hb ht hown hK hP ziX10 rfl 0 (by decide) 3 (by decide) hw_2_96 rfl (v := .ref (q 13)) rfl dX10_back_52 ?_
          refine lv_aload_n hx hb dX10_back_55 rfl (lv_at hl 1 rfl) ?_
          refine z_get hx hb ht hown hK hP ziX10 rfl 0 (by decide) 4 (by decide) hw_2_97 rfl (v := .ref (q 15)) rfl dX10_back_56 ?_
          refine z_callVv (k := 13) (As := [.ref (q 15)]) (rest := []) hx hb hml hown ht (xk_X0_replay l D q cA F _ _ _ hp_11 ) hw_4_8 hmX0_replay ⟨rfl, rfl⟩ (na := 1) rfl (by decide +kernel) (by decide) (by decide) rfl rfl hK hP hD hS hA hl.1 rfl (Nat.le_of_ble_eq_true rfl) ⟨Nat.zero_le _, Nat.zero_le _⟩ dX10_back_59 (fun I_12 R_12 J_12 H locs hp_12 hP hD hS _ _ => ?_)
          refine lv_iconst (v := nI 0) hx hb dX10_back_62 (by decide +kernel) ?_
          exact z_iret (v := nI 0) hx hb hr hlocks hP hD hS dX10_back_63 (Or.inr (Or.inr ⟨(by obtain ⟨_, _⟩ := zk_0; omega), (fun h => t_c_8 (congrArg Int32.toInt ((xFr hI 48 0 rfl).trans h))), rfl, hp_12⟩))
        · have t_c_8 := z_eqT c_8
          have f_13 : zR 0 0 (I 48 0) := zR_eqx t_c_8 zk_z
          refine lv_bipush (v := (-6)) hx hb dX10_back_26 (by decide +kernel) ?_
          exact z_iret (v := (-6)) hx hb hr hlocks hP hD hS dX10_back_28 (Or.inr (Or.inl ⟨(by obtain ⟨_, _⟩ := zk_0; omega), (xFr hI 48 0 rfl).symm.trans (Int32.toInt_inj.mp t_c_8), rfl, rfl⟩))
      · refine va_aldq hx hb hK hP 47 36 (zw_at (by decide) rfl) rfl (vp_in_nI (by decide) (by decide)) dX10_back_17 ?_
        refine W.eq (g2 := F0 m 18 ls (.ref (q 56) :: [])) rfl ?_
        refine lv_astore_n (lv' := [(2, .ref (q 56)), (0, .ref (q 0)), (1, .int (nI 1))]) hx hb dX10_back_18 rfl hl (by decide) rfl (fun ls hl => ?_)
        refine lv_aload_n hx hb dX10_back_19 rfl (lv_at hl 0 rfl) ?_
        refine z_get hx hb ht hown hK hP ziX5 rfl 56 (by decide) 0 (by decide) hw_2_60 rfl (v := .int (I 56 0)) rfl dX10_back_20 ?_
        have f_14 : zR 0 1 (I 56 0) := xI hI 56 0
        refine lv_if_ne (tgt := 29) hx hb dX10_back_23 (by decide) (fun c_15 => ?_) (fun c_15 => ?_)
        · have t_c_15 := z_eqF c_15
          have f_16 : zR 1 1 (I 56 0) := zR_nex t_c_15 f_14 zk_z (by decide)
          refine lv_aload_n hx hb dX10_back_29 rfl (lv_at hl 1 rfl) ?_
          refine z_get hx hb ht hown hK hP ziX10 rfl 0 (by decide) 1 (by decide) hw_2_94 rfl (v := .ref (q 3)) rfl dX10_back_30 ?_
          refine lv_aload_n hx hb dX10_back_33 rfl (lv_at hl 0 rfl) ?_
          refine z_get hx hb ht hown hK hP ziX5 rfl 56 (by decide) 1 (by decide) hw_2_62 rfl (v := .ref (q 57)) rfl dX10_back_34 ?_
          refine z_callVv (k := 3) (As := [.ref (q 57)]) (rest := []) hx hb hml hown ht (xk_X2_copyFrom_4 l D q cA F _ _ _ hI ) hw_3_38 hmX2_copyFrom ⟨rfl, rfl⟩ (na := 1) rfl (by decide +kernel) (by decide) (by decide) rfl rfl hK hP hD hS hA hl.1 rfl (Nat.le_of_ble_eq_true rfl) ⟨Nat.zero_le _, Nat.zero_le _⟩ dX10_back_37 (fun I_17 R_17 J_17 H locs hp_17 hP hD hS _ _ => ?_)
          refine lv_aload_n hx hb dX10_back_40 rfl (lv_at hl 1 rfl) ?_
          refine z_get hx hb ht hown hK hP ziX10 rfl 0 (by decide) 3 (by decide) hw_2_96 rfl (v := .ref (q 13)) rfl dX10_back_41 ?_
          refine lv_aload_n hx hb dX10_back_44 rfl (lv_at hl 0 rfl) ?_
          refine z_get hx hb ht hown hK hP ziX5 rfl 56 (by decide) 2 (by decide) hw_2_64 rfl (v := .ref (q 62)) rfl dX10_back_45 ?_
          refine z_callVv (k := 13) (As := [.ref (q 62)]) (rest := []) hx hb hml hown ht (xk_X0_copyFrom_4 l D q cA F _ _ _ hp_17 ) hw_5_145 hmX0_copyFrom ⟨rfl, rfl⟩ (na := 1) rfl (by decide +kernel) (by decide) (by decide) rfl rfl hK hP hD hS hA hl.1 rfl (Nat.le_of_ble_eq_true rfl) ⟨Nat.zero_le _, Nat.zero_le _⟩ dX10_back_48 (fun I_18 R_18 J_18 H locs hp_18 hP hD hS _ _ => ?_)
          refine lv_aload_n hx hb dX10_back_51 rfl (lv_at hl 1 rfl) ?_
          refine z_get hx hb ht hown hK hP ziX10 rfl 0 (by decide) 3 (by decide) hw_2_96 rfl (v := .ref (q 13)) rfl dX10_back_52 ?_
          refine lv_aload_n hx hb dX10_back_55 rfl (lv_at hl 1 rfl) ?_
          refine z_get hx hb ht hown hK hP ziX10 rfl 0 (by decide) 4 (by decide) hw_2_97 rfl (v := .ref (q 15)) rfl dX10_back_56 ?_
          refine z_callVv (k := 13) (As := [.ref (q 15)]) (rest := []) hx hb hml hown ht (xk_X0_replay l D q cA F _ _ _ hp_18 ) hw_4_8 hmX0_replay ⟨rfl, rfl⟩ (na := 1) rfl (by decide +kernel) (by decide) (by decide) rfl rfl hK hP hD hS hA hl.1 rfl (Nat.le_of_ble_eq_true rfl) ⟨Nat.zero_le _, Nat.zero_le _⟩ dX10_back_59 (fun I_19 R_19 J_19 H locs hp_19 hP hD hS _ _ => ?_)
          refine lv_iconst (v := nI 0) hx hb dX10_back_62 (by decide +kernel) ?_
          exact z_iret (v := nI 0) hx hb hr hlocks hP hD hS dX10_back_63 (Or.inr (Or.inr ⟨(by obtain ⟨_, _⟩ := zk_1; omega), (fun h => t_c_15 (congrArg Int32.toInt ((xFr hI 56 0 rfl).trans h))), rfl, hp_19⟩))
        · have t_c_15 := z_eqT c_15
          have f_20 : zR 0 0 (I 56 0) := zR_eqx t_c_15 zk_z
          refine lv_bipush (v := (-6)) hx hb dX10_back_26 (by decide +kernel) ?_
          exact z_iret (v := (-6)) hx hb hr hlocks hP hD hS dX10_back_28 (Or.inr (Or.inl ⟨(by obtain ⟨_, _⟩ := zk_1; omega), (xFr hI 56 0 rfl).symm.trans (Int32.toInt_inj.mp t_c_15), rfl, rfl⟩))
      · refine va_aldq hx hb hK hP 47 36 (zw_at (by decide) rfl) rfl (vp_in_nI (by decide) (by decide)) dX10_back_17 ?_
        refine W.eq (g2 := F0 m 18 ls (.ref (q 64) :: [])) rfl ?_
        refine lv_astore_n (lv' := [(2, .ref (q 64)), (0, .ref (q 0)), (1, .int (nI 2))]) hx hb dX10_back_18 rfl hl (by decide) rfl (fun ls hl => ?_)
        refine lv_aload_n hx hb dX10_back_19 rfl (lv_at hl 0 rfl) ?_
        refine z_get hx hb ht hown hK hP ziX5 rfl 64 (by decide) 0 (by decide) hw_2_60 rfl (v := .int (I 64 0)) rfl dX10_back_20 ?_
        have f_21 : zR 0 1 (I 64 0) := xI hI 64 0
        refine lv_if_ne (tgt := 29) hx hb dX10_back_23 (by decide) (fun c_22 => ?_) (fun c_22 => ?_)
        · have t_c_22 := z_eqF c_22
          have f_23 : zR 1 1 (I 64 0) := zR_nex t_c_22 f_21 zk_z (by decide)
          refine lv_aload_n hx hb dX10_back_29 rfl (lv_at hl 1 rfl) ?_
          refine z_get hx hb ht hown hK hP ziX10 rfl 0 (by decide) 1 (by decide) hw_2_94 rfl (v := .ref (q 3)) rfl dX10_back_30 ?_
          refine lv_aload_n hx hb dX10_back_33 rfl (lv_at hl 0 rfl) ?_
          refine z_get hx hb ht hown hK hP ziX5 rfl 64 (by decide) 1 (by decide) hw_2_62 rfl (v := .ref (q 65)) rfl dX10_back_34 ?_
          refine z_callVv (k := 3) (As := [.ref (q 65)]) (rest := []) hx hb hml hown ht (xk_X2_copyFrom_5 l D q cA F _ _ _ hI ) hw_3_38 hmX2_copyFrom ⟨rfl, rfl⟩ (na := 1) rfl (by decide +kernel) (by decide) (by decide) rfl rfl hK hP hD hS hA hl.1 rfl (Nat.le_of_ble_eq_true rfl) ⟨Nat.zero_le _, Nat.zero_le _⟩ dX10_back_37 (fun I_24 R_24 J_24 H locs hp_24 hP hD hS _ _ => ?_)
          refine lv_aload_n hx hb dX10_back_40 rfl (lv_at hl 1 rfl) ?_
          refine z_get hx hb ht hown hK hP ziX10 rfl 0 (by decide) 3 (by decide) hw_2_96 rfl (v := .ref (q 13)) rfl dX10_back_41 ?_
          refine lv_aload_n hx hb dX10_back_44 rfl (lv_at hl 0 rfl) ?_
          refine z_get hx hb ht hown hK hP ziX5 rfl 64 (by decide) 2 (by decide) hw_2_64 rfl (v := .ref (q 70)) rfl dX10_back_45 ?_
          refine z_callVv (k := 13) (As := [.ref (q 70)]) (rest := []) hx hb hml hown ht (xk_X0_copyFrom_5 l D q cA F _ _ _ hp_24 ) hw_5_145 hmX0_copyFrom ⟨rfl, rfl⟩ (na := 1) rfl (by decide +kernel) (by decide) (by decide) rfl rfl hK hP hD hS hA hl.1 rfl (Nat.le_of_ble_eq_true rfl) ⟨Nat.zero_le _, Nat.zero_le _⟩ dX10_back_48 (fun I_25 R_25 J_25 H locs hp_25 hP hD hS _ _ => ?_)
          refine lv_aload_n hx hb dX10_back_51 rfl (lv_at hl 1 rfl) ?_
          refine z_get hx hb ht hown hK hP ziX10 rfl 0 (by decide) 3 (by decide) hw_2_96 rfl (v := .ref (q 13)) rfl dX10_back_52 ?_
          refine lv_aload_n hx hb dX10_back_55 rfl (lv_at hl 1 rfl) ?_
          refine z_get hx hb ht hown hK hP ziX10 rfl 0 (by decide) 4 (by decide) hw_2_97 rfl (v := .ref (q 15)) rfl dX10_back_56 ?_
          refine z_callVv (k := 13) (As := [.ref (q 15)]) (rest := []) hx hb hml hown ht (xk_X0_replay l D q cA F _ _ _ hp_25 ) hw_4_8 hmX0_replay ⟨rfl, rfl⟩ (na := 1) rfl (by decide +kernel) (by decide) (by decide) rfl rfl hK hP hD hS hA hl.1 rfl (Nat.le_of_ble_eq_true rfl) ⟨Nat.zero_le _, Nat.zero_le _⟩ dX10_back_59 (fun I_26 R_26 J_26 H locs hp_26 hP hD hS _ _ => ?_)
          refine lv_iconst (v := nI 0) hx hb dX10_back_62 (by decide +kernel) ?_
          exact z_iret (v := nI 0) hx hb hr hlocks hP hD hS dX10_back_63 (Or.inr (Or.inr ⟨(by obtain ⟨_, _⟩ := zk_2; omega), (fun h => t_c_22 (congrArg Int32.toInt ((xFr hI 64 0 rfl).trans h))), rfl, hp_26⟩))
        · have t_c_22 := z_eqT c_22
          have f_27 : zR 0 0 (I 64 0) := zR_eqx t_c_22 zk_z
          refine lv_bipush (v := (-6)) hx hb dX10_back_26 (by decide +kernel) ?_
          exact z_iret (v := (-6)) hx hb hr hlocks hP hD hS dX10_back_28 (Or.inr (Or.inl ⟨(by obtain ⟨_, _⟩ := zk_2; omega), (xFr hI 64 0 rfl).symm.trans (Int32.toInt_inj.mp t_c_22), rfl, rfl⟩))
    · have t_c_4 := z_ltF c_4
      have f_28 : zR 3 2147483647 (pa0) := zR_ley t_c_4 zk_3 f_3 (by decide)
      refine lv_bipush (v := (-2)) hx hb dX10_back_9 (by decide +kernel) ?_
      exact z_iret (v := (-2)) hx hb hr hlocks hP hD hS dX10_back_11 (Or.inl ⟨(by obtain ⟨_, _⟩ := f_28; omega), rfl, rfl⟩)
set_option maxHeartbeats 4000000 in
set_option maxRecDepth 100000 in
theorem xk_J7_fill_d0a16 (l : Launch) (D : va_G) (q : Nat → Nat) (cA : Nat → ClassId) (F : Nat → Nat → Int32) (I R : Nat → Nat → Int32) (J : Nat → Nat → Int64) (hI : xInv F (I, R, J)) (pa1 : Int64) : zMv l D vwCl (zXtys cA) 81 q (zXd q cA) yJ7_fill_d0a16 cJ7_fill_d0a16 5 none ({ frames := 0, cells := 0, slots := 0, locals := 0 } : Room) [.ref (q 74), .long (pa1)] (I, R, J) (fun u => xInv F u) := by
  intro sz
  refine z_body (by decide +kernel) (Nat.le_of_ble_eq_true rfl) (fun p e s m below meth c ls hx hb hml hr ht hown hlocks hsz hK hP hD hS hl => ?_)
  have hA : ∀ a, s.heap.size ≤ a → zA 81 q sz a := fun a h => Or.inr (hsz ▸ h)
  have hl : lv_has ls 5 [(0, .ref (q 74)), (1, .long (pa1))] := hl
  refine lv_iconst (v := nI 0) hx hb dJ7_fill_d0a16_0 (by decide +kernel) ?_
  refine lv_istore_n (lv' := [(3, .int (nI 0)), (0, .ref (q 74)), (1, .long (pa1))]) hx hb dJ7_fill_d0a16_1 rfl hl (by decide) rfl (fun ls hl => ?_)
  refine lv_aload_n hx hb dJ7_fill_d0a16_2 rfl (lv_at hl 1 rfl) ?_
  refine z_alen hx hb hK hP 74 (by decide) 53 rfl rfl dJ7_fill_d0a16_3 ?_
  refine lv_istore (lv' := [(4, .int (nI 60)), (3, .int (nI 0)), (0, .ref (q 74)), (1, .long (pa1))]) hx hb dJ7_fill_d0a16_4 hl (by decide) rfl (fun ls hl => ?_)
  have loop_22 : ∀ N : Nat, ∀ x_20 : Int32, zR 0 60 x_20 → ∀ J_21 : Nat → Nat → Int64, xInv F (I, R, J_21) → (2147483648 - (x_20).toInt).toNat < N → ∀ (H : Heap) (locs : List Loc), va_P D vwCl (zw 81 q (zXd q cA) I R J_21) H → va_D (zA 81 q sz) (zw 81 q (zXd q cA) I R J_21) → va_S (zA 81 q sz) s.heap H locs → ∀ ls : Array Slot, lv_has ls 5 [(0, .ref (q 74)), (1, .long (pa1)), (3, .int (x_20)), (4, .int (nI 60))] → W p l e ({ frames := 0, cells := 0, slots := 0, locals := 0 } : Room) s m ([.ref (q 74), .long (pa1)] : List Value).toArray below meth c H locs 0 0 (MQ below (va_Qv (fun u => xInv F u) (zB D vwCl 81 q (zXd q cA) sz) (zA 81 q sz)) ([.ref (q 74), .long (pa1)] : List Value).toArray s 0 0 (zA 81 q sz)) (F0 m 6 ls []) := by
    intro N
    induction N with
    | zero => intro x_20 hx_20 J_21 hI_21 hN; exact absurd hN (Nat.not_lt_zero _)
    | succ N ih_24 =>
      intro x_20 hx_20 J_21 hI_21 hN_23 H locs hP hD hS ls hl
      refine lv_iload_n hx hb dJ7_fill_d0a16_6 rfl (lv_at hl 2 rfl) ?_
      refine lv_iload hx hb dJ7_fill_d0a16_7 (lv_at hl 3 rfl) ?_
      refine lv_icmp_ge (tgt := 22) hx hb dJ7_fill_d0a16_9 (by decide) (fun c_25 => ?_) (fun c_25 => ?_)
      · have t_c_25 := z_leT c_25
        have f_26 : zR 60 60 (x_20) := zR_ley t_c_25 zk_60 hx_20 (by decide)
        exact z_vret hx hb hr hlocks hP hD hS dJ7_fill_d0a16_22 hI_21
      · have t_c_25 := z_leF c_25
        have f_27 : zR 0 59 (x_20) := zR_ltx t_c_25 hx_20 zk_60 (by decide)
        refine lv_aload_n hx hb dJ7_fill_d0a16_12 rfl (lv_at hl 0 rfl) ?_
        refine lv_iload_n hx hb dJ7_fill_d0a16_13 rfl (lv_at hl 2 rfl) ?_
        refine lv_lload_n hx hb dJ7_fill_d0a16_14 rfl (lv_at hl 1 rfl) ?_
        refine z_last hx hb hK hP hD hS 74 (by decide) 53 (fun _ => rfl) rfl (zR_vin f_27 (by decide)) dJ7_fill_d0a16_15 (fun H locs hP hD hS => ?_)
        have hI_28 := xInv_J (J2 := (zp J_21 74 (x_20).toNatClampNeg (pa1))) hI_21
        obtain ⟨v_29, ev_29⟩ : ∃ y : Int32, y = x_20 + nI 1 := ⟨_, rfl⟩
        have hv_29 : zR 1 60 v_29 := ev_29 ▸ zR_add f_27 zk_1 (by decide)
        have mv_29 : v_29.toInt = (x_20).toInt + 1 := by rw [ev_29, zR_addE f_27 zk_1 (by decide)]; rfl
        refine lv_iinc (v := v_29) (lv' := [(3, .int (v_29)), (0, .ref (q 74)), (1, .long (pa1)), (4, .int (nI 60))]) hx hb dJ7_fill_d0a16_16 hl (k := 2) rfl (ev_29 ▸ rfl) (by decide) rfl (fun ls hl => ?_)
        refine lv_goto (tgt := 6) hx hb dJ7_fill_d0a16_19 (by decide) ?_
        exact ih_24 (v_29) (zR_w hv_29 (by decide)) _ hI_28 (z2_up mv_29 (by decide) hN_23) _ _ hP hD hS _ (lv_sub hl [1, 2, 0, 3] rfl)
  exact loop_22 _ (nI 0) (zR_w zk_0 (by decide)) _ hI (Nat.lt_succ_self _) _ _ hP hD hS _ (lv_sub hl [2, 3, 1, 0] rfl)
set_option maxHeartbeats 4000000 in
set_option maxRecDepth 100000 in
theorem xk_X6_begin (l : Launch) (D : va_G) (q : Nat → Nat) (cA : Nat → ClassId) (F : Nat → Nat → Int32) (I R : Nat → Nat → Int32) (J : Nat → Nat → Int64) (hI : xInv F (I, R, J)) (pa0 : Int32) (hpa0 : zR 0 3 pa0) (pa1 : Int32) (hpa1 : zR 0 60 pa1) : zMv l D vwCl (zXtys cA) 81 q (zXd q cA) yX6_begin cX6_begin 3 none ({ frames := 1, cells := 0, slots := 0, locals := 24 } : Room) [.ref (q 73), .int (pa0), .int (pa1)] (I, R, J) (fun u => xInv (zp (zp F 73 0 (pa0)) 73 1 (pa1)) u) := by
  intro sz
  refine z_body (by decide +kernel) (Nat.le_of_ble_eq_true rfl) (fun p e s m below meth c ls hx hb hml hr ht hown hlocks hsz hK hP hD hS hl => ?_)
  have hA : ∀ a, s.heap.size ≤ a → zA 81 q sz a := fun a h => Or.inr (hsz ▸ h)
  have hl : lv_has ls 3 [(0, .ref (q 73)), (1, .int (pa0)), (2, .int (pa1))] := hl
  refine lv_aload_n hx hb dX6_begin_0 rfl (lv_at hl 0 rfl) ?_
  refine lv_iload_n hx hb dX6_begin_1 rfl (lv_at hl 1 rfl) ?_
  refine z_putI hx hb ht hown hK hP hD hS ziX6 tyX6 tyX6_ok nmX6 rfl 73 (by decide) 0 (by decide) hw_2_77 rfl (v := pa0) rfl rfl rfl (Nat.le_of_ble_eq_true rfl) rfl dX6_begin_2 (fun H locs hP hD hS => ?_)
  have hI_1 := xInv_F hI 73 0 (pa0) (zR_any (pa0))
  refine lv_aload_n hx hb dX6_begin_5 rfl (lv_at hl 0 rfl) ?_
  refine lv_iload_n hx hb dX6_begin_6 rfl (lv_at hl 2 rfl) ?_
  refine z_putI hx hb ht hown hK hP hD hS ziX6 tyX6 tyX6_ok nmX6 rfl 73 (by decide) 1 (by decide) hw_2_79 rfl (v := pa1) rfl rfl rfl (Nat.le_of_ble_eq_true rfl) rfl dX6_begin_7 (fun H locs hP hD hS => ?_)
  have hI_2 := xInv_F hI_1 73 1 (pa1) (zR_w hpa1 (by decide))
  refine lv_aload_n hx hb dX6_begin_10 rfl (lv_at hl 0 rfl) ?_
  refine z_get hx hb ht hown hK hP ziX6 rfl 73 (by decide) 2 (by decide) hw_2_82 rfl (v := .ref (q 74)) rfl dX6_begin_11 ?_
  refine lv_lconst (v := (0 : Int64)) hx hb dX6_begin_14 (by decide +kernel) ?_
  refine z_callSv (As := [.ref (q 74), .long ((0 : Int64))]) (rest := []) hx hb hml hown ht (xk_J7_fill_d0a16 l D q cA (zp (zp F 73 0 (pa0)) 73 1 (pa1)) _ _ _ hI_2 ((0 : Int64))) hw_5_162 hmJ7_fill_d0a16 ⟨rfl, rfl⟩ (na := 2) rfl (by decide +kernel) (by decide) hK hP hD hS hA hl.1 rfl (Nat.le_of_ble_eq_true rfl) ⟨Nat.zero_le _, Nat.zero_le _⟩ dX6_begin_15 (fun I_3 R_3 J_3 H locs hp_3 hP hD hS _ _ => ?_)
  exact z_vret hx hb hr hlocks hP hD hS dX6_begin_18 hp_3
set_option maxHeartbeats 4000000 in
set_option maxRecDepth 100000 in
theorem xk_J7_fill_d0a16_1 (l : Launch) (D : va_G) (q : Nat → Nat) (cA : Nat → ClassId) (F : Nat → Nat → Int32) (I R : Nat → Nat → Int32) (J : Nat → Nat → Int64) (hI : xInv F (I, R, J)) (pa1 : Int64) : zMv l D vwCl (zXtys cA) 81 q (zXd q cA) yJ7_fill_d0a16 cJ7_fill_d0a16 5 none ({ frames := 0, cells := 0, slots := 0, locals := 0 } : Room) [.ref (q 76), .long (pa1)] (I, R, J) (fun u => xInv F u) := by
  intro sz
  refine z_body (by decide +kernel) (Nat.le_of_ble_eq_true rfl) (fun p e s m below meth c ls hx hb hml hr ht hown hlocks hsz hK hP hD hS hl => ?_)
  have hA : ∀ a, s.heap.size ≤ a → zA 81 q sz a := fun a h => Or.inr (hsz ▸ h)
  have hl : lv_has ls 5 [(0, .ref (q 76)), (1, .long (pa1))] := hl
  refine lv_iconst (v := nI 0) hx hb dJ7_fill_d0a16_0 (by decide +kernel) ?_
  refine lv_istore_n (lv' := [(3, .int (nI 0)), (0, .ref (q 76)), (1, .long (pa1))]) hx hb dJ7_fill_d0a16_1 rfl hl (by decide) rfl (fun ls hl => ?_)
  refine lv_aload_n hx hb dJ7_fill_d0a16_2 rfl (lv_at hl 1 rfl) ?_
  refine z_alen hx hb hK hP 76 (by decide) 54 rfl rfl dJ7_fill_d0a16_3 ?_
  refine lv_istore (lv' := [(4, .int (nI 60)), (3, .int (nI 0)), (0, .ref (q 76)), (1, .long (pa1))]) hx hb dJ7_fill_d0a16_4 hl (by decide) rfl (fun ls hl => ?_)
  have loop_22 : ∀ N : Nat, ∀ x_20 : Int32, zR 0 60 x_20 → ∀ J_21 : Nat → Nat → Int64, xInv F (I, R, J_21) → (2147483648 - (x_20).toInt).toNat < N → ∀ (H : Heap) (locs : List Loc), va_P D vwCl (zw 81 q (zXd q cA) I R J_21) H → va_D (zA 81 q sz) (zw 81 q (zXd q cA) I R J_21) → va_S (zA 81 q sz) s.heap H locs → ∀ ls : Array Slot, lv_has ls 5 [(0, .ref (q 76)), (1, .long (pa1)), (3, .int (x_20)), (4, .int (nI 60))] → W p l e ({ frames := 0, cells := 0, slots := 0, locals := 0 } : Room) s m ([.ref (q 76), .long (pa1)] : List Value).toArray below meth c H locs 0 0 (MQ below (va_Qv (fun u => xInv F u) (zB D vwCl 81 q (zXd q cA) sz) (zA 81 q sz)) ([.ref (q 76), .long (pa1)] : List Value).toArray s 0 0 (zA 81 q sz)) (F0 m 6 ls []) := by
    intro N
    induction N with
    | zero => intro x_20 hx_20 J_21 hI_21 hN; exact absurd hN (Nat.not_lt_zero _)
    | succ N ih_24 =>
      intro x_20 hx_20 J_21 hI_21 hN_23 H locs hP hD hS ls hl
      refine lv_iload_n hx hb dJ7_fill_d0a16_6 rfl (lv_at hl 2 rfl) ?_
      refine lv_iload hx hb dJ7_fill_d0a16_7 (lv_at hl 3 rfl) ?_
      refine lv_icmp_ge (tgt := 22) hx hb dJ7_fill_d0a16_9 (by decide) (fun c_25 => ?_) (fun c_25 => ?_)
      · have t_c_25 := z_leT c_25
        have f_26 : zR 60 60 (x_20) := zR_ley t_c_25 zk_60 hx_20 (by decide)
        exact z_vret hx hb hr hlocks hP hD hS dJ7_fill_d0a16_22 hI_21
      · have t_c_25 := z_leF c_25
        have f_27 : zR 0 59 (x_20) := zR_ltx t_c_25 hx_20 zk_60 (by decide)
        refine lv_aload_n hx hb dJ7_fill_d0a16_12 rfl (lv_at hl 0 rfl) ?_
        refine lv_iload_n hx hb dJ7_fill_d0a16_13 rfl (lv_at hl 2 rfl) ?_
        refine lv_lload_n hx hb dJ7_fill_d0a16_14 rfl (lv_at hl 1 rfl) ?_
        refine z_last hx hb hK hP hD hS 76 (by decide) 54 (fun _ => rfl) rfl (zR_vin f_27 (by decide)) dJ7_fill_d0a16_15 (fun H locs hP hD hS => ?_)
        have hI_28 := xInv_J (J2 := (zp J_21 76 (x_20).toNatClampNeg (pa1))) hI_21
        obtain ⟨v_29, ev_29⟩ : ∃ y : Int32, y = x_20 + nI 1 := ⟨_, rfl⟩
        have hv_29 : zR 1 60 v_29 := ev_29 ▸ zR_add f_27 zk_1 (by decide)
        have mv_29 : v_29.toInt = (x_20).toInt + 1 := by rw [ev_29, zR_addE f_27 zk_1 (by decide)]; rfl
        refine lv_iinc (v := v_29) (lv' := [(3, .int (v_29)), (0, .ref (q 76)), (1, .long (pa1)), (4, .int (nI 60))]) hx hb dJ7_fill_d0a16_16 hl (k := 2) rfl (ev_29 ▸ rfl) (by decide) rfl (fun ls hl => ?_)
        refine lv_goto (tgt := 6) hx hb dJ7_fill_d0a16_19 (by decide) ?_
        exact ih_24 (v_29) (zR_w hv_29 (by decide)) _ hI_28 (z2_up mv_29 (by decide) hN_23) _ _ hP hD hS _ (lv_sub hl [1, 2, 0, 3] rfl)
  exact loop_22 _ (nI 0) (zR_w zk_0 (by decide)) _ hI (Nat.lt_succ_self _) _ _ hP hD hS _ (lv_sub hl [2, 3, 1, 0] rfl)
set_option maxHeartbeats 4000000 in
set_option maxRecDepth 100000 in
theorem xk_X6_begin_1 (l : Launch) (D : va_G) (q : Nat → Nat) (cA : Nat → ClassId) (F : Nat → Nat → Int32) (I R : Nat → Nat → Int32) (J : Nat → Nat → Int64) (hI : xInv F (I, R, J)) (pa0 : Int32) (hpa0 : zR 0 3 pa0) (pa1 : Int32) (hpa1 : zR 0 60 pa1) : zMv l D vwCl (zXtys cA) 81 q (zXd q cA) yX6_begin cX6_begin 3 none ({ frames := 1, cells := 0, slots := 0, locals := 24 } : Room) [.ref (q 75), .int (pa0), .int (pa1)] (I, R, J) (fun u => xInv (zp (zp F 75 0 (pa0)) 75 1 (pa1)) u) := by
  intro sz
  refine z_body (by decide +kernel) (Nat.le_of_ble_eq_true rfl) (fun p e s m below meth c ls hx hb hml hr ht hown hlocks hsz hK hP hD hS hl => ?_)
  have hA : ∀ a, s.heap.size ≤ a → zA 81 q sz a := fun a h => Or.inr (hsz ▸ h)
  have hl : lv_has ls 3 [(0, .ref (q 75)), (1, .int (pa0)), (2, .int (pa1))] := hl
  refine lv_aload_n hx hb dX6_begin_0 rfl (lv_at hl 0 rfl) ?_
  refine lv_iload_n hx hb dX6_begin_1 rfl (lv_at hl 1 rfl) ?_
  refine z_putI hx hb ht hown hK hP hD hS ziX6 tyX6 tyX6_ok nmX6 rfl 75 (by decide) 0 (by decide) hw_2_77 rfl (v := pa0) rfl rfl rfl (Nat.le_of_ble_eq_true rfl) rfl dX6_begin_2 (fun H locs hP hD hS => ?_)
  have hI_1 := xInv_F hI 75 0 (pa0) (zR_any (pa0))
  refine lv_aload_n hx hb dX6_begin_5 rfl (lv_at hl 0 rfl) ?_
  refine lv_iload_n hx hb dX6_begin_6 rfl (lv_at hl 2 rfl) ?_
  refine z_putI hx hb ht hown hK hP hD hS ziX6 tyX6 tyX6_ok nmX6 rfl 75 (by decide) 1 (by decide) hw_2_79 rfl (v := pa1) rfl rfl rfl (Nat.le_of_ble_eq_true rfl) rfl dX6_begin_7 (fun H locs hP hD hS => ?_)
  have hI_2 := xInv_F hI_1 75 1 (pa1) (zR_w hpa1 (by decide))
  refine lv_aload_n hx hb dX6_begin_10 rfl (lv_at hl 0 rfl) ?_
  refine z_get hx hb ht hown hK hP ziX6 rfl 75 (by decide) 2 (by decide) hw_2_82 rfl (v := .ref (q 76)) rfl dX6_begin_11 ?_
  refine lv_lconst (v := (0 : Int64)) hx hb dX6_begin_14 (by decide +kernel) ?_
  refine z_callSv (As := [.ref (q 76), .long ((0 : Int64))]) (rest := []) hx hb hml hown ht (xk_J7_fill_d0a16_1 l D q cA (zp (zp F 75 0 (pa0)) 75 1 (pa1)) _ _ _ hI_2 ((0 : Int64))) hw_5_162 hmJ7_fill_d0a16 ⟨rfl, rfl⟩ (na := 2) rfl (by decide +kernel) (by decide) hK hP hD hS hA hl.1 rfl (Nat.le_of_ble_eq_true rfl) ⟨Nat.zero_le _, Nat.zero_le _⟩ dX6_begin_15 (fun I_3 R_3 J_3 H locs hp_3 hP hD hS _ _ => ?_)
  exact z_vret hx hb hr hlocks hP hD hS dX6_begin_18 hp_3
set_option maxHeartbeats 4000000 in
set_option maxRecDepth 100000 in
theorem xk_J7_fill_d0a16_2 (l : Launch) (D : va_G) (q : Nat → Nat) (cA : Nat → ClassId) (F : Nat → Nat → Int32) (I R : Nat → Nat → Int32) (J : Nat → Nat → Int64) (hI : xInv F (I, R, J)) (pa1 : Int64) : zMv l D vwCl (zXtys cA) 81 q (zXd q cA) yJ7_fill_d0a16 cJ7_fill_d0a16 5 none ({ frames := 0, cells := 0, slots := 0, locals := 0 } : Room) [.ref (q 78), .long (pa1)] (I, R, J) (fun u => xInv F u) := by
  intro sz
  refine z_body (by decide +kernel) (Nat.le_of_ble_eq_true rfl) (fun p e s m below meth c ls hx hb hml hr ht hown hlocks hsz hK hP hD hS hl => ?_)
  have hA : ∀ a, s.heap.size ≤ a → zA 81 q sz a := fun a h => Or.inr (hsz ▸ h)
  have hl : lv_has ls 5 [(0, .ref (q 78)), (1, .long (pa1))] := hl
  refine lv_iconst (v := nI 0) hx hb dJ7_fill_d0a16_0 (by decide +kernel) ?_
  refine lv_istore_n (lv' := [(3, .int (nI 0)), (0, .ref (q 78)), (1, .long (pa1))]) hx hb dJ7_fill_d0a16_1 rfl hl (by decide) rfl (fun ls hl => ?_)
  refine lv_aload_n hx hb dJ7_fill_d0a16_2 rfl (lv_at hl 1 rfl) ?_
  refine z_alen hx hb hK hP 78 (by decide) 55 rfl rfl dJ7_fill_d0a16_3 ?_
  refine lv_istore (lv' := [(4, .int (nI 60)), (3, .int (nI 0)), (0, .ref (q 78)), (1, .long (pa1))]) hx hb dJ7_fill_d0a16_4 hl (by decide) rfl (fun ls hl => ?_)
  have loop_22 : ∀ N : Nat, ∀ x_20 : Int32, zR 0 60 x_20 → ∀ J_21 : Nat → Nat → Int64, xInv F (I, R, J_21) → (2147483648 - (x_20).toInt).toNat < N → ∀ (H : Heap) (locs : List Loc), va_P D vwCl (zw 81 q (zXd q cA) I R J_21) H → va_D (zA 81 q sz) (zw 81 q (zXd q cA) I R J_21) → va_S (zA 81 q sz) s.heap H locs → ∀ ls : Array Slot, lv_has ls 5 [(0, .ref (q 78)), (1, .long (pa1)), (3, .int (x_20)), (4, .int (nI 60))] → W p l e ({ frames := 0, cells := 0, slots := 0, locals := 0 } : Room) s m ([.ref (q 78), .long (pa1)] : List Value).toArray below meth c H locs 0 0 (MQ below (va_Qv (fun u => xInv F u) (zB D vwCl 81 q (zXd q cA) sz) (zA 81 q sz)) ([.ref (q 78), .long (pa1)] : List Value).toArray s 0 0 (zA 81 q sz)) (F0 m 6 ls []) := by
    intro N
    induction N with
    | zero => intro x_20 hx_20 J_21 hI_21 hN; exact absurd hN (Nat.not_lt_zero _)
    | succ N ih_24 =>
      intro x_20 hx_20 J_21 hI_21 hN_23 H locs hP hD hS ls hl
      refine lv_iload_n hx hb dJ7_fill_d0a16_6 rfl (lv_at hl 2 rfl) ?_
      refine lv_iload hx hb dJ7_fill_d0a16_7 (lv_at hl 3 rfl) ?_
      refine lv_icmp_ge (tgt := 22) hx hb dJ7_fill_d0a16_9 (by decide) (fun c_25 => ?_) (fun c_25 => ?_)
      · have t_c_25 := z_leT c_25
        have f_26 : zR 60 60 (x_20) := zR_ley t_c_25 zk_60 hx_20 (by decide)
        exact z_vret hx hb hr hlocks hP hD hS dJ7_fill_d0a16_22 hI_21
      · have t_c_25 := z_leF c_25
        have f_27 : zR 0 59 (x_20) := zR_ltx t_c_25 hx_20 zk_60 (by decide)
        refine lv_aload_n hx hb dJ7_fill_d0a16_12 rfl (lv_at hl 0 rfl) ?_
        refine lv_iload_n hx hb dJ7_fill_d0a16_13 rfl (lv_at hl 2 rfl) ?_
        refine lv_lload_n hx hb dJ7_fill_d0a16_14 rfl (lv_at hl 1 rfl) ?_
        refine z_last hx hb hK hP hD hS 78 (by decide) 55 (fun _ => rfl) rfl (zR_vin f_27 (by decide)) dJ7_fill_d0a16_15 (fun H locs hP hD hS => ?_)
        have hI_28 := xInv_J (J2 := (zp J_21 78 (x_20).toNatClampNeg (pa1))) hI_21
        obtain ⟨v_29, ev_29⟩ : ∃ y : Int32, y = x_20 + nI 1 := ⟨_, rfl⟩
        have hv_29 : zR 1 60 v_29 := ev_29 ▸ zR_add f_27 zk_1 (by decide)
        have mv_29 : v_29.toInt = (x_20).toInt + 1 := by rw [ev_29, zR_addE f_27 zk_1 (by decide)]; rfl
        refine lv_iinc (v := v_29) (lv' := [(3, .int (v_29)), (0, .ref (q 78)), (1, .long (pa1)), (4, .int (nI 60))]) hx hb dJ7_fill_d0a16_16 hl (k := 2) rfl (ev_29 ▸ rfl) (by decide) rfl (fun ls hl => ?_)
        refine lv_goto (tgt := 6) hx hb dJ7_fill_d0a16_19 (by decide) ?_
        exact ih_24 (v_29) (zR_w hv_29 (by decide)) _ hI_28 (z2_up mv_29 (by decide) hN_23) _ _ hP hD hS _ (lv_sub hl [1, 2, 0, 3] rfl)
  exact loop_22 _ (nI 0) (zR_w zk_0 (by decide)) _ hI (Nat.lt_succ_self _) _ _ hP hD hS _ (lv_sub hl [2, 3, 1, 0] rfl)
set_option maxHeartbeats 4000000 in
set_option maxRecDepth 100000 in
theorem xk_X6_begin_2 (l : Launch) (D : va_G) (q : Nat → Nat) (cA : Nat → ClassId) (F : Nat → Nat → Int32) (I R : Nat → Nat → Int32) (J : Nat → Nat → Int64) (hI : xInv F (I, R, J)) (pa0 : Int32) (hpa0 : zR 0 3 pa0) (pa1 : Int32) (hpa1 : zR 0 60 pa1) : zMv l D vwCl (zXtys cA) 81 q (zXd q cA) yX6_begin cX6_begin 3 none ({ frames := 1, cells := 0, slots := 0, locals := 24 } : Room) [.ref (q 77), .int (pa0), .int (pa1)] (I, R, J) (fun u => xInv (zp (zp F 77 0 (pa0)) 77 1 (pa1)) u) := by
  intro sz
  refine z_body (by decide +kernel) (Nat.le_of_ble_eq_true rfl) (fun p e s m below meth c ls hx hb hml hr ht hown hlocks hsz hK hP hD hS hl => ?_)
  have hA : ∀ a, s.heap.size ≤ a → zA 81 q sz a := fun a h => Or.inr (hsz ▸ h)
  have hl : lv_has ls 3 [(0, .ref (q 77)), (1, .int (pa0)), (2, .int (pa1))] := hl
  refine lv_aload_n hx hb dX6_begin_0 rfl (lv_at hl 0 rfl) ?_
  refine lv_iload_n hx hb dX6_begin_1 rfl (lv_at hl 1 rfl) ?_
  refine z_putI hx hb ht hown hK hP hD hS ziX6 tyX6 tyX6_ok nmX6 rfl 77 (by decide) 0 (by decide) hw_2_77 rfl (v := pa0) rfl rfl rfl (Nat.le_of_ble_eq_true rfl) rfl dX6_begin_2 (fun H locs hP hD hS => ?_)
  have hI_1 := xInv_F hI 77 0 (pa0) (zR_any (pa0))
  refine lv_aload_n hx hb dX6_begin_5 rfl (lv_at hl 0 rfl) ?_
  refine lv_iload_n hx hb dX6_begin_6 rfl (lv_at hl 2 rfl) ?_
  refine z_putI hx hb ht hown hK hP hD hS ziX6 tyX6 tyX6_ok nmX6 rfl 77 (by decide) 1 (by decide) hw_2_79 rfl (v := pa1) rfl rfl rfl (Nat.le_of_ble_eq_true rfl) rfl dX6_begin_7 (fun H locs hP hD hS => ?_)
  have hI_2 := xInv_F hI_1 77 1 (pa1) (zR_w hpa1 (by decide))
  refine lv_aload_n hx hb dX6_begin_10 rfl (lv_at hl 0 rfl) ?_
  refine z_get hx hb ht hown hK hP ziX6 rfl 77 (by decide) 2 (by decide) hw_2_82 rfl (v := .ref (q 78)) rfl dX6_begin_11 ?_
  refine lv_lconst (v := (0 : Int64)) hx hb dX6_begin_14 (by decide +kernel) ?_
  refine z_callSv (As := [.ref (q 78), .long ((0 : Int64))]) (rest := []) hx hb hml hown ht (xk_J7_fill_d0a16_2 l D q cA (zp (zp F 77 0 (pa0)) 77 1 (pa1)) _ _ _ hI_2 ((0 : Int64))) hw_5_162 hmJ7_fill_d0a16 ⟨rfl, rfl⟩ (na := 2) rfl (by decide +kernel) (by decide) hK hP hD hS hA hl.1 rfl (Nat.le_of_ble_eq_true rfl) ⟨Nat.zero_le _, Nat.zero_le _⟩ dX6_begin_15 (fun I_3 R_3 J_3 H locs hp_3 hP hD hS _ _ => ?_)
  exact z_vret hx hb hr hlocks hP hD hS dX6_begin_18 hp_3
set_option maxHeartbeats 4000000 in
set_option maxRecDepth 100000 in
theorem xk_J7_fill_d0a16_3 (l : Launch) (D : va_G) (q : Nat → Nat) (cA : Nat → ClassId) (F : Nat → Nat → Int32) (I R : Nat → Nat → Int32) (J : Nat → Nat → Int64) (hI : xInv F (I, R, J)) (pa1 : Int64) : zMv l D vwCl (zXtys cA) 81 q (zXd q cA) yJ7_fill_d0a16 cJ7_fill_d0a16 5 none ({ frames := 0, cells := 0, slots := 0, locals := 0 } : Room) [.ref (q 80), .long (pa1)] (I, R, J) (fun u => xInv F u) := by
  intro sz
  refine z_body (by decide +kernel) (Nat.le_of_ble_eq_true rfl) (fun p e s m below meth c ls hx hb hml hr ht hown hlocks hsz hK hP hD hS hl => ?_)
  have hA : ∀ a, s.heap.size ≤ a → zA 81 q sz a := fun a h => Or.inr (hsz ▸ h)
  have hl : lv_has ls 5 [(0, .ref (q 80)), (1, .long (pa1))] := hl
  refine lv_iconst (v := nI 0) hx hb dJ7_fill_d0a16_0 (by decide +kernel) ?_
  refine lv_istore_n (lv' := [(3, .int (nI 0)), (0, .ref (q 80)), (1, .long (pa1))]) hx hb dJ7_fill_d0a16_1 rfl hl (by decide) rfl (fun ls hl => ?_)
  refine lv_aload_n hx hb dJ7_fill_d0a16_2 rfl (lv_at hl 1 rfl) ?_
  refine z_alen hx hb hK hP 80 (by decide) 56 rfl rfl dJ7_fill_d0a16_3 ?_
  refine lv_istore (lv' := [(4, .int (nI 60)), (3, .int (nI 0)), (0, .ref (q 80)), (1, .long (pa1))]) hx hb dJ7_fill_d0a16_4 hl (by decide) rfl (fun ls hl => ?_)
  have loop_22 : ∀ N : Nat, ∀ x_20 : Int32, zR 0 60 x_20 → ∀ J_21 : Nat → Nat → Int64, xInv F (I, R, J_21) → (2147483648 - (x_20).toInt).toNat < N → ∀ (H : Heap) (locs : List Loc), va_P D vwCl (zw 81 q (zXd q cA) I R J_21) H → va_D (zA 81 q sz) (zw 81 q (zXd q cA) I R J_21) → va_S (zA 81 q sz) s.heap H locs → ∀ ls : Array Slot, lv_has ls 5 [(0, .ref (q 80)), (1, .long (pa1)), (3, .int (x_20)), (4, .int (nI 60))] → W p l e ({ frames := 0, cells := 0, slots := 0, locals := 0 } : Room) s m ([.ref (q 80), .long (pa1)] : List Value).toArray below meth c H locs 0 0 (MQ below (va_Qv (fun u => xInv F u) (zB D vwCl 81 q (zXd q cA) sz) (zA 81 q sz)) ([.ref (q 80), .long (pa1)] : List Value).toArray s 0 0 (zA 81 q sz)) (F0 m 6 ls []) := by
    intro N
    induction N with
    | zero => intro x_20 hx_20 J_21 hI_21 hN; exact absurd hN (Nat.not_lt_zero _)
    | succ N ih_24 =>
      intro x_20 hx_20 J_21 hI_21 hN_23 H locs hP hD hS ls hl
      refine lv_iload_n hx hb dJ7_fill_d0a16_6 rfl (lv_at hl 2 rfl) ?_
      refine lv_iload hx hb dJ7_fill_d0a16_7 (lv_at hl 3 rfl) ?_
      refine lv_icmp_ge (tgt := 22) hx hb dJ7_fill_d0a16_9 (by decide) (fun c_25 => ?_) (fun c_25 => ?_)
      · have t_c_25 := z_leT c_25
        have f_26 : zR 60 60 (x_20) := zR_ley t_c_25 zk_60 hx_20 (by decide)
        exact z_vret hx hb hr hlocks hP hD hS dJ7_fill_d0a16_22 hI_21
      · have t_c_25 := z_leF c_25
        have f_27 : zR 0 59 (x_20) := zR_ltx t_c_25 hx_20 zk_60 (by decide)
        refine lv_aload_n hx hb dJ7_fill_d0a16_12 rfl (lv_at hl 0 rfl) ?_
        refine lv_iload_n hx hb dJ7_fill_d0a16_13 rfl (lv_at hl 2 rfl) ?_
        refine lv_lload_n hx hb dJ7_fill_d0a16_14 rfl (lv_at hl 1 rfl) ?_
        refine z_last hx hb hK hP hD hS 80 (by decide) 56 (fun _ => rfl) rfl (zR_vin f_27 (by decide)) dJ7_fill_d0a16_15 (fun H locs hP hD hS => ?_)
        have hI_28 := xInv_J (J2 := (zp J_21 80 (x_20).toNatClampNeg (pa1))) hI_21
        obtain ⟨v_29, ev_29⟩ : ∃ y : Int32, y = x_20 + nI 1 := ⟨_, rfl⟩
        have hv_29 : zR 1 60 v_29 := ev_29 ▸ zR_add f_27 zk_1 (by decide)
        have mv_29 : v_29.toInt = (x_20).toInt + 1 := by rw [ev_29, zR_addE f_27 zk_1 (by decide)]; rfl
        refine lv_iinc (v := v_29) (lv' := [(3, .int (v_29)), (0, .ref (q 80)), (1, .long (pa1)), (4, .int (nI 60))]) hx hb dJ7_fill_d0a16_16 hl (k := 2) rfl (ev_29 ▸ rfl) (by decide) rfl (fun ls hl => ?_)
        refine lv_goto (tgt := 6) hx hb dJ7_fill_d0a16_19 (by decide) ?_
        exact ih_24 (v_29) (zR_w hv_29 (by decide)) _ hI_28 (z2_up mv_29 (by decide) hN_23) _ _ hP hD hS _ (lv_sub hl [1, 2, 0, 3] rfl)
  exact loop_22 _ (nI 0) (zR_w zk_0 (by decide)) _ hI (Nat.lt_succ_self _) _ _ hP hD hS _ (lv_sub hl [2, 3, 1, 0] rfl)
set_option maxHeartbeats 4000000 in
set_option maxRecDepth 100000 in
theorem xk_X6_begin_3 (l : Launch) (D : va_G) (q : Nat → Nat) (cA : Nat → ClassId) (F : Nat → Nat → Int32) (I R : Nat → Nat → Int32) (J : Nat → Nat → Int64) (hI : xInv F (I, R, J)) (pa0 : Int32) (hpa0 : zR 0 3 pa0) (pa1 : Int32) (hpa1 : zR 0 60 pa1) : zMv l D vwCl (zXtys cA) 81 q (zXd q cA) yX6_begin cX6_begin 3 none ({ frames := 1, cells := 0, slots := 0, locals := 24 } : Room) [.ref (q 79), .int (pa0), .int (pa1)] (I, R, J) (fun u => xInv (zp (zp F 79 0 (pa0)) 79 1 (pa1)) u) := by
  intro sz
  refine z_body (by decide +kernel) (Nat.le_of_ble_eq_true rfl) (fun p e s m below meth c ls hx hb hml hr ht hown hlocks hsz hK hP hD hS hl => ?_)
  have hA : ∀ a, s.heap.size ≤ a → zA 81 q sz a := fun a h => Or.inr (hsz ▸ h)
  have hl : lv_has ls 3 [(0, .ref (q 79)), (1, .int (pa0)), (2, .int (pa1))] := hl
  refine lv_aload_n hx hb dX6_begin_0 rfl (lv_at hl 0 rfl) ?_
  refine lv_iload_n hx hb dX6_begin_1 rfl (lv_at hl 1 rfl) ?_
  refine z_putI hx hb ht hown hK hP hD hS ziX6 tyX6 tyX6_ok nmX6 rfl 79 (by decide) 0 (by decide) hw_2_77 rfl (v := pa0) rfl rfl rfl (Nat.le_of_ble_eq_true rfl) rfl dX6_begin_2 (fun H locs hP hD hS => ?_)
  have hI_1 := xInv_F hI 79 0 (pa0) (zR_any (pa0))
  refine lv_aload_n hx hb dX6_begin_5 rfl (lv_at hl 0 rfl) ?_
  refine lv_iload_n hx hb dX6_begin_6 rfl (lv_at hl 2 rfl) ?_
  refine z_putI hx hb ht hown hK hP hD hS ziX6 tyX6 tyX6_ok nmX6 rfl 79 (by decide) 1 (by decide) hw_2_79 rfl (v := pa1) rfl rfl rfl (Nat.le_of_ble_eq_true rfl) rfl dX6_begin_7 (fun H locs hP hD hS => ?_)
  have hI_2 := xInv_F hI_1 79 1 (pa1) (zR_w hpa1 (by decide))
  refine lv_aload_n hx hb dX6_begin_10 rfl (lv_at hl 0 rfl) ?_
  refine z_get hx hb ht hown hK hP ziX6 rfl 79 (by decide) 2 (by decide) hw_2_82 rfl (v := .ref (q 80)) rfl dX6_begin_11 ?_
  refine lv_lconst (v := (0 : Int64)) hx hb dX6_begin_14 (by decide +kernel) ?_
  refine z_callSv (As := [.ref (q 80), .long ((0 : Int64))]) (rest := []) hx hb hml hown ht (xk_J7_fill_d0a16_3 l D q cA (zp (zp F 79 0 (pa0)) 79 1 (pa1)) _ _ _ hI_2 ((0 : Int64))) hw_5_162 hmJ7_fill_d0a16 ⟨rfl, rfl⟩ (na := 2) rfl (by decide +kernel) (by decide) hK hP hD hS hA hl.1 rfl (Nat.le_of_ble_eq_true rfl) ⟨Nat.zero_le _, Nat.zero_le _⟩ dX6_begin_15 (fun I_3 R_3 J_3 H locs hp_3 hP hD hS _ _ => ?_)
  exact z_vret hx hb hr hlocks hP hD hS dX6_begin_18 hp_3
set_option maxHeartbeats 4000000 in
set_option maxRecDepth 100000 in
theorem xk_X10_row (l : Launch) (D : va_G) (q : Nat → Nat) (cA : Nat → ClassId) (F : Nat → Nat → Int32) (I R : Nat → Nat → Int32) (J : Nat → Nat → Int64) (hI : xInv F (I, R, J)) (pa0 : Int32) (pa1 : Int32) (pa2 : Int32) : zMi l D vwCl (zXtys cA) 81 q (zXd q cA) yX10_row cX10_row 4 (some .int) ({ frames := 2, cells := 0, slots := 0, locals := 46 } : Room) [.ref (q 0), .int (pa0), .int (pa1), .int (pa2)] (I, R, J) (fun r u => ((pa0.toInt < 0 ∨ 3 < pa0.toInt ∨ pa1.toInt < 0 ∨ 3 < pa1.toInt ∨ 60 < pa2.toInt) ∧ r = (-2) ∧ u = (I, R, J)) ∨ (¬ (pa0.toInt < 0 ∨ 3 < pa0.toInt ∨ pa1.toInt < 0 ∨ 3 < pa1.toInt ∨ 60 < pa2.toInt) ∧ pa2.toInt < 0 ∧ r = (-3) ∧ u = (I, R, J)) ∨ (¬ (pa0.toInt < 0 ∨ 3 < pa0.toInt ∨ pa1.toInt < 0 ∨ 3 < pa1.toInt ∨ 60 < pa2.toInt) ∧ 0 ≤ pa2.toInt ∧ r = nI 0 ∧ xInv (xrow F pa0 pa1 pa2) u)) := by
  intro sz
  refine z_body (by decide +kernel) (Nat.le_of_ble_eq_true rfl) (fun p e s m below meth c ls hx hb hml hr ht hown hlocks hsz hK hP hD hS hl => ?_)
  have hA : ∀ a, s.heap.size ≤ a → zA 81 q sz a := fun a h => Or.inr (hsz ▸ h)
  have hl : lv_has ls 4 [(0, .ref (q 0)), (1, .int (pa0)), (2, .int (pa1)), (3, .int (pa2))] := hl
  refine lv_iload_n hx hb dX10_row_0 rfl (lv_at hl 1 rfl) ?_
  refine z_callSi (As := [.int (pa0)]) (rest := []) hx hb hml hown ht (xk_X10_isSlot l D q cA F _ _ _ hI (pa0)) hw_5_60 hmX10_isSlot ⟨rfl, rfl⟩ (na := 1) rfl (by decide +kernel) (by decide) hK hP hD hS hA hl.1 rfl (Nat.le_of_ble_eq_true rfl) ⟨Nat.zero_le _, Nat.zero_le _⟩ dX10_row_1 (fun r_1 I_1 R_1 J_1 H locs hp_1 hP hD hS _ _ => ?_)
  rcases hp_1 with ⟨rfl, hu_1, f0_1⟩ | ⟨rfl, hu_1, nn_1⟩
  · cases hu_1
    refine lv_if_eq (tgt := 22) hx hb dX10_row_4 (by decide) (fun c_0 => absurd c_0 (zD_ne zk_1 zk_z (by decide))) (fun _ => ?_)
    refine lv_iload_n hx hb dX10_row_7 rfl (lv_at hl 2 rfl) ?_
    refine lv_if_lt (tgt := 22) hx hb dX10_row_8 (by decide) (fun c_2 => ?_) (fun c_2 => ?_)
    · have t_c_2 := z_ltT c_2
      have f_3 : zR (-2147483648) (-1) (pa1) := zR_ltx t_c_2 (zR_any (pa1)) zk_z (by decide)
      refine lv_bipush (v := (-2)) hx hb dX10_row_22 (by decide +kernel) ?_
      exact z_iret (v := (-2)) hx hb hr hlocks hP hD hS dX10_row_24 (Or.inl ⟨(by obtain ⟨_, _⟩ := f0_1; obtain ⟨_, _⟩ := f_3; obtain ⟨_, _⟩ := (zR_any (pa2)); omega), rfl, rfl⟩)
    · have t_c_2 := z_ltF c_2
      have f_4 : zR 0 2147483647 (pa1) := zR_ley t_c_2 zk_z (zR_any (pa1)) (by decide)
      refine lv_iload_n hx hb dX10_row_11 rfl (lv_at hl 2 rfl) ?_
      refine lv_iconst (v := nI 3) hx hb dX10_row_12 (by decide +kernel) ?_
      refine lv_icmp_gt (tgt := 22) hx hb dX10_row_13 (by decide) (fun c_5 => ?_) (fun c_5 => ?_)
      · have t_c_5 := z_ltT c_5
        have f_6 : zR 4 2147483647 (pa1) := zR_lty t_c_5 zk_3 f_4 (by decide)
        refine lv_bipush (v := (-2)) hx hb dX10_row_22 (by decide +kernel) ?_
        exact z_iret (v := (-2)) hx hb hr hlocks hP hD hS dX10_row_24 (Or.inl ⟨(by obtain ⟨_, _⟩ := f0_1; obtain ⟨_, _⟩ := f_6; obtain ⟨_, _⟩ := (zR_any (pa2)); omega), rfl, rfl⟩)
      · have t_c_5 := z_ltF c_5
        have f_7 : zR 0 3 (pa1) := zR_lex t_c_5 f_4 zk_3 (by decide)
        refine lv_iload_n hx hb dX10_row_16 rfl (lv_at hl 3 rfl) ?_
        refine lv_bipush (v := nI 60) hx hb dX10_row_17 (by decide +kernel) ?_
        refine lv_icmp_le (tgt := 25) hx hb dX10_row_19 (by decide) (fun c_8 => ?_) (fun c_8 => ?_)
        · have t_c_8 := z_leT c_8
          have f_9 : zR (-2147483648) 60 (pa2) := zR_lex t_c_8 (zR_any (pa2)) zk_60 (by decide)
          refine lv_iload_n hx hb dX10_row_25 rfl (lv_at hl 3 rfl) ?_
          refine lv_if_ge (tgt := 32) hx hb dX10_row_26 (by decide) (fun c_10 => ?_) (fun c_10 => ?_)
          · have t_c_10 := z_leT c_10
            have f_11 : zR 0 60 (pa2) := zR_ley t_c_10 zk_z f_9 (by decide)
            refine lv_aload_n hx hb dX10_row_32 rfl (lv_at hl 0 rfl) ?_
            refine z_get hx hb ht hown hK hP ziX10 rfl 0 (by decide) 11 (by decide) hw_2_104 rfl (v := .ref (q 72)) rfl dX10_row_33 ?_
            refine lv_iload_n hx hb dX10_row_36 rfl (lv_at hl 1 rfl) ?_
            obtain ⟨n_12, hn_12, rfl⟩ := z_ex (x := pa0) (N := 4) (zR_w f0_1 (a' := 0) (b' := 3) (by decide)).1 (Int.lt_of_le_of_lt (zR_w f0_1 (a' := 0) (b' := 3) (by decide)).2 (by decide))
            rcases (show n_12 = 0 ∨ n_12 = 1 ∨ n_12 = 2 ∨ n_12 = 3 by omega) with rfl | rfl | rfl | rfl
            · refine va_aldq hx hb hK hP 72 52 (zw_at (by decide) rfl) rfl (vp_in_nI (by decide) (by decide)) dX10_row_37 ?_
              refine W.eq (g2 := F0 m 38 ls (.ref (q 73) :: [])) rfl ?_
              refine lv_iload_n hx hb dX10_row_38 rfl (lv_at hl 2 rfl) ?_
              refine lv_iload_n hx hb dX10_row_39 rfl (lv_at hl 3 rfl) ?_
              refine z_callVv (k := 73) (As := [.int (pa1), .int (pa2)]) (rest := []) hx hb hml hown ht (xk_X6_begin l D q cA F _ _ _ hI (pa1) f_7 (pa2) f_11) hw_5_158 hmX6_begin ⟨rfl, rfl⟩ (na := 2) rfl (by decide +kernel) (by decide) (by decide) rfl rfl hK hP hD hS hA hl.1 rfl (Nat.le_of_ble_eq_true rfl) ⟨Nat.zero_le _, Nat.zero_le _⟩ dX10_row_40 (fun I_13 R_13 J_13 H locs hp_13 hP hD hS _ _ => ?_)
              refine lv_iconst (v := nI 0) hx hb dX10_row_43 (by decide +kernel) ?_
              exact z_iret (v := nI 0) hx hb hr hlocks hP hD hS dX10_row_44 (Or.inr (Or.inr ⟨(by obtain ⟨_, _⟩ := zk_0; obtain ⟨_, _⟩ := f_7; obtain ⟨_, _⟩ := f_11; omega), (by obtain ⟨_, _⟩ := zk_0; obtain ⟨_, _⟩ := f_7; obtain ⟨_, _⟩ := f_11; omega), rfl, hp_13⟩))
            · refine va_aldq hx hb hK hP 72 52 (zw_at (by decide) rfl) rfl (vp_in_nI (by decide) (by decide)) dX10_row_37 ?_
              refine W.eq (g2 := F0 m 38 ls (.ref (q 75) :: [])) rfl ?_
              refine lv_iload_n hx hb dX10_row_38 rfl (lv_at hl 2 rfl) ?_
              refine lv_iload_n hx hb dX10_row_39 rfl (lv_at hl 3 rfl) ?_
              refine z_callVv (k := 75) (As := [.int (pa1), .int (pa2)]) (rest := []) hx hb hml hown ht (xk_X6_begin_1 l D q cA F _ _ _ hI (pa1) f_7 (pa2) f_11) hw_5_158 hmX6_begin ⟨rfl, rfl⟩ (na := 2) rfl (by decide +kernel) (by decide) (by decide) rfl rfl hK hP hD hS hA hl.1 rfl (Nat.le_of_ble_eq_true rfl) ⟨Nat.zero_le _, Nat.zero_le _⟩ dX10_row_40 (fun I_14 R_14 J_14 H locs hp_14 hP hD hS _ _ => ?_)
              refine lv_iconst (v := nI 0) hx hb dX10_row_43 (by decide +kernel) ?_
              exact z_iret (v := nI 0) hx hb hr hlocks hP hD hS dX10_row_44 (Or.inr (Or.inr ⟨(by obtain ⟨_, _⟩ := zk_1; obtain ⟨_, _⟩ := f_7; obtain ⟨_, _⟩ := f_11; omega), (by obtain ⟨_, _⟩ := zk_1; obtain ⟨_, _⟩ := f_7; obtain ⟨_, _⟩ := f_11; omega), rfl, hp_14⟩))
            · refine va_aldq hx hb hK hP 72 52 (zw_at (by decide) rfl) rfl (vp_in_nI (by decide) (by decide)) dX10_row_37 ?_
              refine W.eq (g2 := F0 m 38 ls (.ref (q 77) :: [])) rfl ?_
              refine lv_iload_n hx hb dX10_row_38 rfl (lv_at hl 2 rfl) ?_
              refine lv_iload_n hx hb dX10_row_39 rfl (lv_at hl 3 rfl) ?_
              refine z_callVv (k := 77) (As := [.int (pa1), .int (pa2)]) (rest := []) hx hb hml hown ht (xk_X6_begin_2 l D q cA F _ _ _ hI (pa1) f_7 (pa2) f_11) hw_5_158 hmX6_begin ⟨rfl, rfl⟩ (na := 2) rfl (by decide +kernel) (by decide) (by decide) rfl rfl hK hP hD hS hA hl.1 rfl (Nat.le_of_ble_eq_true rfl) ⟨Nat.zero_le _, Nat.zero_le _⟩ dX10_row_40 (fun I_15 R_15 J_15 H locs hp_15 hP hD hS _ _ => ?_)
              refine lv_iconst (v := nI 0) hx hb dX10_row_43 (by decide +kernel) ?_
              exact z_iret (v := nI 0) hx hb hr hlocks hP hD hS dX10_row_44 (Or.inr (Or.inr ⟨(by obtain ⟨_, _⟩ := zk_2; obtain ⟨_, _⟩ := f_7; obtain ⟨_, _⟩ := f_11; omega), (by obtain ⟨_, _⟩ := zk_2; obtain ⟨_, _⟩ := f_7; obtain ⟨_, _⟩ := f_11; omega), rfl, hp_15⟩))
            · refine va_aldq hx hb hK hP 72 52 (zw_at (by decide) rfl) rfl (vp_in_nI (by decide) (by decide)) dX10_row_37 ?_
              refine W.eq (g2 := F0 m 38 ls (.ref (q 79) :: [])) rfl ?_
              refine lv_iload_n hx hb dX10_row_38 rfl (lv_at hl 2 rfl) ?_
              refine lv_iload_n hx hb dX10_row_39 rfl (lv_at hl 3 rfl) ?_
              refine z_callVv (k := 79) (As := [.int (pa1), .int (pa2)]) (rest := []) hx hb hml hown ht (xk_X6_begin_3 l D q cA F _ _ _ hI (pa1) f_7 (pa2) f_11) hw_5_158 hmX6_begin ⟨rfl, rfl⟩ (na := 2) rfl (by decide +kernel) (by decide) (by decide) rfl rfl hK hP hD hS hA hl.1 rfl (Nat.le_of_ble_eq_true rfl) ⟨Nat.zero_le _, Nat.zero_le _⟩ dX10_row_40 (fun I_16 R_16 J_16 H locs hp_16 hP hD hS _ _ => ?_)
              refine lv_iconst (v := nI 0) hx hb dX10_row_43 (by decide +kernel) ?_
              exact z_iret (v := nI 0) hx hb hr hlocks hP hD hS dX10_row_44 (Or.inr (Or.inr ⟨(by obtain ⟨_, _⟩ := zk_3; obtain ⟨_, _⟩ := f_7; obtain ⟨_, _⟩ := f_11; omega), (by obtain ⟨_, _⟩ := zk_3; obtain ⟨_, _⟩ := f_7; obtain ⟨_, _⟩ := f_11; omega), rfl, hp_16⟩))
          · have t_c_10 := z_leF c_10
            have f_17 : zR (-2147483648) (-1) (pa2) := zR_ltx t_c_10 f_9 zk_z (by decide)
            refine lv_bipush (v := (-3)) hx hb dX10_row_29 (by decide +kernel) ?_
            exact z_iret (v := (-3)) hx hb hr hlocks hP hD hS dX10_row_31 (Or.inr (Or.inl ⟨(by obtain ⟨_, _⟩ := f0_1; obtain ⟨_, _⟩ := f_7; obtain ⟨_, _⟩ := f_17; omega), (by obtain ⟨_, _⟩ := f0_1; obtain ⟨_, _⟩ := f_7; obtain ⟨_, _⟩ := f_17; omega), rfl, rfl⟩))
        · have t_c_8 := z_leF c_8
          have f_18 : zR 61 2147483647 (pa2) := zR_lty t_c_8 zk_60 (zR_any (pa2)) (by decide)
          refine lv_bipush (v := (-2)) hx hb dX10_row_22 (by decide +kernel) ?_
          exact z_iret (v := (-2)) hx hb hr hlocks hP hD hS dX10_row_24 (Or.inl ⟨(by obtain ⟨_, _⟩ := f0_1; obtain ⟨_, _⟩ := f_7; obtain ⟨_, _⟩ := f_18; omega), rfl, rfl⟩)
  · cases hu_1
    refine lv_if_eq (tgt := 22) hx hb dX10_row_4 (by decide) (fun _ => ?_) (fun c_0 => absurd (zD_eq zk_0 zk_z) c_0)
    refine lv_bipush (v := (-2)) hx hb dX10_row_22 (by decide +kernel) ?_
    exact z_iret (v := (-2)) hx hb hr hlocks hP hD hS dX10_row_24 (Or.inl ⟨(by obtain ⟨_, _⟩ := (zR_any (pa0)); obtain ⟨_, _⟩ := (zR_any (pa1)); obtain ⟨_, _⟩ := (zR_any (pa2)); have _ := nn_1; omega), rfl, rfl⟩)
set_option maxHeartbeats 4000000 in
set_option maxRecDepth 100000 in
theorem xk_X6_put (l : Launch) (D : va_G) (q : Nat → Nat) (cA : Nat → ClassId) (F : Nat → Nat → Int32) (I R : Nat → Nat → Int32) (J : Nat → Nat → Int64) (hI : xInv F (I, R, J)) (pa0 : Int32) (hpa0 : zR 0 59 pa0) (pa1 : Int64) : zMv l D vwCl (zXtys cA) 81 q (zXd q cA) yX6_put cX6_put 4 none ({ frames := 0, cells := 0, slots := 0, locals := 0 } : Room) [.ref (q 73), .int (pa0), .long (pa1)] (I, R, J) (fun u => xInv F u) := by
  intro sz
  refine z_body (by decide +kernel) (Nat.le_of_ble_eq_true rfl) (fun p e s m below meth c ls hx hb hml hr ht hown hlocks hsz hK hP hD hS hl => ?_)
  have hA : ∀ a, s.heap.size ≤ a → zA 81 q sz a := fun a h => Or.inr (hsz ▸ h)
  have hl : lv_has ls 4 [(0, .ref (q 73)), (1, .int (pa0)), (2, .long (pa1))] := hl
  refine lv_aload_n hx hb dX6_put_0 rfl (lv_at hl 0 rfl) ?_
  refine z_get hx hb ht hown hK hP ziX6 rfl 73 (by decide) 0 (by decide) hw_2_77 rfl (v := .int (I 73 0)) rfl dX6_put_1 ?_
  rcases (show ((I 73 0).toInt < 0 ∨ 2 < (I 73 0).toInt) ∨ (I 73 0).toInt = 0 ∨ (I 73 0).toInt = 1 ∨ (I 73 0).toInt = 2 by omega) with c_1 | k_2 | k_2 | k_2
  · refine lv_tableOut (tgt := 70) hx hb dX6_put_4 c_1 (by decide) ?_
    refine lv_aload_n hx hb dX6_put_70 rfl (lv_at hl 0 rfl) ?_
    refine z_get hx hb ht hown hK hP ziX6 rfl 73 (by decide) 2 (by decide) hw_2_82 rfl (v := .ref (q 74)) rfl dX6_put_71 ?_
    refine lv_iload_n hx hb dX6_put_74 rfl (lv_at hl 1 rfl) ?_
    refine lv_lload_n hx hb dX6_put_75 rfl (lv_at hl 2 rfl) ?_
    refine z_last hx hb hK hP hD hS 74 (by decide) 53 (fun _ => rfl) rfl (zR_vin hpa0 (by decide)) dX6_put_76 (fun H locs hP hD hS => ?_)
    have hI_3 := xInv_J (J2 := (zp J 74 (pa0).toNatClampNeg (pa1))) hI
    exact z_vret hx hb hr hlocks hP hD hS dX6_put_77 hI_3
  · refine lv_tableIn (off := 28) (tgt := 32) hx hb dX6_put_4 (by omega) (by omega) (by rw [k_2]; decide +kernel) (by decide) ?_
    refine lv_aload_n hx hb dX6_put_32 rfl (lv_at hl 0 rfl) ?_
    refine z_get hx hb ht hown hK hP ziX6 rfl 73 (by decide) 2 (by decide) hw_2_82 rfl (v := .ref (q 74)) rfl dX6_put_33 ?_
    refine lv_iload_n hx hb dX6_put_36 rfl (lv_at hl 1 rfl) ?_
    refine lv_lload_n hx hb dX6_put_37 rfl (lv_at hl 2 rfl) ?_
    refine lv_l2i hx hb dX6_put_38 rfl ?_
    refine z_any (fun v_4 => ?_)
    refine lv_i2b hx hb dX6_put_39 rfl ?_
    refine z_any (fun v_5 => ?_)
    refine lv_i2l (v := (v_5).toInt64) hx hb dX6_put_40 rfl ?_
    refine z_last hx hb hK hP hD hS 74 (by decide) 53 (fun _ => rfl) rfl (zR_vin hpa0 (by decide)) dX6_put_41 (fun H locs hP hD hS => ?_)
    have hI_6 := xInv_J (J2 := (zp J 74 (pa0).toNatClampNeg ((v_5).toInt64))) hI
    refine lv_goto (tgt := 77) hx hb dX6_put_42 (by decide) ?_
    exact z_vret hx hb hr hlocks hP hD hS dX6_put_77 hI_6
  · refine lv_tableIn (off := 41) (tgt := 45) hx hb dX6_put_4 (by omega) (by omega) (by rw [k_2]; decide +kernel) (by decide) ?_
    refine lv_aload_n hx hb dX6_put_45 rfl (lv_at hl 0 rfl) ?_
    refine z_get hx hb ht hown hK hP ziX6 rfl 73 (by decide) 2 (by decide) hw_2_82 rfl (v := .ref (q 74)) rfl dX6_put_46 ?_
    refine lv_iload_n hx hb dX6_put_49 rfl (lv_at hl 1 rfl) ?_
    refine lv_lload_n hx hb dX6_put_50 rfl (lv_at hl 2 rfl) ?_
    refine lv_l2i hx hb dX6_put_51 rfl ?_
    refine z_any (fun v_7 => ?_)
    refine lv_i2s hx hb dX6_put_52 rfl ?_
    refine z_any (fun v_8 => ?_)
    refine lv_i2l (v := (v_8).toInt64) hx hb dX6_put_53 rfl ?_
    refine z_last hx hb hK hP hD hS 74 (by decide) 53 (fun _ => rfl) rfl (zR_vin hpa0 (by decide)) dX6_put_54 (fun H locs hP hD hS => ?_)
    have hI_9 := xInv_J (J2 := (zp J 74 (pa0).toNatClampNeg ((v_8).toInt64))) hI
    refine lv_goto (tgt := 77) hx hb dX6_put_55 (by decide) ?_
    exact z_vret hx hb hr hlocks hP hD hS dX6_put_77 hI_9
  · refine lv_tableIn (off := 54) (tgt := 58) hx hb dX6_put_4 (by omega) (by omega) (by rw [k_2]; decide +kernel) (by decide) ?_
    refine lv_aload_n hx hb dX6_put_58 rfl (lv_at hl 0 rfl) ?_
    refine z_get hx hb ht hown hK hP ziX6 rfl 73 (by decide) 2 (by decide) hw_2_82 rfl (v := .ref (q 74)) rfl dX6_put_59 ?_
    refine lv_iload_n hx hb dX6_put_62 rfl (lv_at hl 1 rfl) ?_
    refine lv_lload_n hx hb dX6_put_63 rfl (lv_at hl 2 rfl) ?_
    refine lv_l2i hx hb dX6_put_64 rfl ?_
    refine z_any (fun v_10 => ?_)
    refine lv_i2l (v := (v_10).toInt64) hx hb dX6_put_65 rfl ?_
    refine z_last hx hb hK hP hD hS 74 (by decide) 53 (fun _ => rfl) rfl (zR_vin hpa0 (by decide)) dX6_put_66 (fun H locs hP hD hS => ?_)
    have hI_11 := xInv_J (J2 := (zp J 74 (pa0).toNatClampNeg ((v_10).toInt64))) hI
    refine lv_goto (tgt := 77) hx hb dX6_put_67 (by decide) ?_
    exact z_vret hx hb hr hlocks hP hD hS dX6_put_77 hI_11
set_option maxHeartbeats 4000000 in
set_option maxRecDepth 100000 in
theorem xk_X6_put_1 (l : Launch) (D : va_G) (q : Nat → Nat) (cA : Nat → ClassId) (F : Nat → Nat → Int32) (I R : Nat → Nat → Int32) (J : Nat → Nat → Int64) (hI : xInv F (I, R, J)) (pa0 : Int32) (hpa0 : zR 0 59 pa0) (pa1 : Int64) : zMv l D vwCl (zXtys cA) 81 q (zXd q cA) yX6_put cX6_put 4 none ({ frames := 0, cells := 0, slots := 0, locals := 0 } : Room) [.ref (q 75), .int (pa0), .long (pa1)] (I, R, J) (fun u => xInv F u) := by
  intro sz
  refine z_body (by decide +kernel) (Nat.le_of_ble_eq_true rfl) (fun p e s m below meth c ls hx hb hml hr ht hown hlocks hsz hK hP hD hS hl => ?_)
  have hA : ∀ a, s.heap.size ≤ a → zA 81 q sz a := fun a h => Or.inr (hsz ▸ h)
  have hl : lv_has ls 4 [(0, .ref (q 75)), (1, .int (pa0)), (2, .long (pa1))] := hl
  refine lv_aload_n hx hb dX6_put_0 rfl (lv_at hl 0 rfl) ?_
  refine z_get hx hb ht hown hK hP ziX6 rfl 75 (by decide) 0 (by decide) hw_2_77 rfl (v := .int (I 75 0)) rfl dX6_put_1 ?_
  rcases (show ((I 75 0).toInt < 0 ∨ 2 < (I 75 0).toInt) ∨ (I 75 0).toInt = 0 ∨ (I 75 0).toInt = 1 ∨ (I 75 0).toInt = 2 by omega) with c_1 | k_2 | k_2 | k_2
  · refine lv_tableOut (tgt := 70) hx hb dX6_put_4 c_1 (by decide) ?_
    refine lv_aload_n hx hb dX6_put_70 rfl (lv_at hl 0 rfl) ?_
    refine z_get hx hb ht hown hK hP ziX6 rfl 75 (by decide) 2 (by decide) hw_2_82 rfl (v := .ref (q 76)) rfl dX6_put_71 ?_
    refine lv_iload_n hx hb dX6_put_74 rfl (lv_at hl 1 rfl) ?_
    refine lv_lload_n hx hb dX6_put_75 rfl (lv_at hl 2 rfl) ?_
    refine z_last hx hb hK hP hD hS 76 (by decide) 54 (fun _ => rfl) rfl (zR_vin hpa0 (by decide)) dX6_put_76 (fun H locs hP hD hS => ?_)
    have hI_3 := xInv_J (J2 := (zp J 76 (pa0).toNatClampNeg (pa1))) hI
    exact z_vret hx hb hr hlocks hP hD hS dX6_put_77 hI_3
  · refine lv_tableIn (off := 28) (tgt := 32) hx hb dX6_put_4 (by omega) (by omega) (by rw [k_2]; decide +kernel) (by decide) ?_
    refine lv_aload_n hx hb dX6_put_32 rfl (lv_at hl 0 rfl) ?_
    refine z_get hx hb ht hown hK hP ziX6 rfl 75 (by decide) 2 (by decide) hw_2_82 rfl (v := .ref (q 76)) rfl dX6_put_33 ?_
    refine lv_iload_n hx hb dX6_put_36 rfl (lv_at hl 1 rfl) ?_
    refine lv_lload_n hx hb dX6_put_37 rfl (lv_at hl 2 rfl) ?_
    refine lv_l2i hx hb dX6_put_38 rfl ?_
    refine z_any (fun v_4 => ?_)
    refine lv_i2b hx hb dX6_put_39 rfl ?_
    refine z_any (fun v_5 => ?_)
    refine lv_i2l (v := (v_5).toInt64) hx hb dX6_put_40 rfl ?_
    refine z_last hx hb hK hP hD hS 76 (by decide) 54 (fun _ => rfl) rfl (zR_vin hpa0 (by decide)) dX6_put_41 (fun H locs hP hD hS => ?_)
    have hI_6 := xInv_J (J2 := (zp J 76 (pa0).toNatClampNeg ((v_5).toInt64))) hI
    refine lv_goto (tgt := 77) hx hb dX6_put_42 (by decide) ?_
    exact z_vret hx hb hr hlocks hP hD hS dX6_put_77 hI_6
  · refine lv_tableIn (off := 41) (tgt := 45) hx hb dX6_put_4 (by omega) (by omega) (by rw [k_2]; decide +kernel) (by decide) ?_
    refine lv_aload_n hx hb dX6_put_45 rfl (lv_at hl 0 rfl) ?_
    refine z_get hx hb ht hown hK hP ziX6 rfl 75 (by decide) 2 (by decide) hw_2_82 rfl (v := .ref (q 76)) rfl dX6_put_46 ?_
    refine lv_iload_n hx hb dX6_put_49 rfl (lv_at hl 1 rfl) ?_
    refine lv_lload_n hx hb dX6_put_50 rfl (lv_at hl 2 rfl) ?_
    refine lv_l2i hx hb dX6_put_51 rfl ?_
    refine z_any (fun v_7 => ?_)
    refine lv_i2s hx hb dX6_put_52 rfl ?_
    refine z_any (fun v_8 => ?_)
    refine lv_i2l (v := (v_8).toInt64) hx hb dX6_put_53 rfl ?_
    refine z_last hx hb hK hP hD hS 76 (by decide) 54 (fun _ => rfl) rfl (zR_vin hpa0 (by decide)) dX6_put_54 (fun H locs hP hD hS => ?_)
    have hI_9 := xInv_J (J2 := (zp J 76 (pa0).toNatClampNeg ((v_8).toInt64))) hI
    refine lv_goto (tgt := 77) hx hb dX6_put_55 (by decide) ?_
    exact z_vret hx hb hr hlocks hP hD hS dX6_put_77 hI_9
  · refine lv_tableIn (off := 54) (tgt := 58) hx hb dX6_put_4 (by omega) (by omega) (by rw [k_2]; decide +kernel) (by decide) ?_
    refine lv_aload_n hx hb dX6_put_58 rfl (lv_at hl 0 rfl) ?_
    refine z_get hx hb ht hown hK hP ziX6 rfl 75 (by decide) 2 (by decide) hw_2_82 rfl (v := .ref (q 76)) rfl dX6_put_59 ?_
    refine lv_iload_n hx hb dX6_put_62 rfl (lv_at hl 1 rfl) ?_
    refine lv_lload_n hx hb dX6_put_63 rfl (lv_at hl 2 rfl) ?_
    refine lv_l2i hx hb dX6_put_64 rfl ?_
    refine z_any (fun v_10 => ?_)
    refine lv_i2l (v := (v_10).toInt64) hx hb dX6_put_65 rfl ?_
    refine z_last hx hb hK hP hD hS 76 (by decide) 54 (fun _ => rfl) rfl (zR_vin hpa0 (by decide)) dX6_put_66 (fun H locs hP hD hS => ?_)
    have hI_11 := xInv_J (J2 := (zp J 76 (pa0).toNatClampNeg ((v_10).toInt64))) hI
    refine lv_goto (tgt := 77) hx hb dX6_put_67 (by decide) ?_
    exact z_vret hx hb hr hlocks hP hD hS dX6_put_77 hI_11
set_option maxHeartbeats 4000000 in
set_option maxRecDepth 100000 in
theorem xk_X6_put_2 (l : Launch) (D : va_G) (q : Nat → Nat) (cA : Nat → ClassId) (F : Nat → Nat → Int32) (I R : Nat → Nat → Int32) (J : Nat → Nat → Int64) (hI : xInv F (I, R, J)) (pa0 : Int32) (hpa0 : zR 0 59 pa0) (pa1 : Int64) : zMv l D vwCl (zXtys cA) 81 q (zXd q cA) yX6_put cX6_put 4 none ({ frames := 0, cells := 0, slots := 0, locals := 0 } : Room) [.ref (q 77), .int (pa0), .long (pa1)] (I, R, J) (fun u => xInv F u) := by
  intro sz
  refine z_body (by decide +kernel) (Nat.le_of_ble_eq_true rfl) (fun p e s m below meth c ls hx hb hml hr ht hown hlocks hsz hK hP hD hS hl => ?_)
  have hA : ∀ a, s.heap.size ≤ a → zA 81 q sz a := fun a h => Or.inr (hsz ▸ h)
  have hl : lv_has ls 4 [(0, .ref (q 77)), (1, .int (pa0)), (2, .long (pa1))] := hl
  refine lv_aload_n hx hb dX6_put_0 rfl (lv_at hl 0 rfl) ?_
  refine z_get hx hb ht hown hK hP ziX6 rfl 77 (by decide) 0 (by decide) hw_2_77 rfl (v := .int (I 77 0)) rfl dX6_put_1 ?_
  rcases (show ((I 77 0).toInt < 0 ∨ 2 < (I 77 0).toInt) ∨ (I 77 0).toInt = 0 ∨ (I 77 0).toInt = 1 ∨ (I 77 0).toInt = 2 by omega) with c_1 | k_2 | k_2 | k_2
  · refine lv_tableOut (tgt := 70) hx hb dX6_put_4 c_1 (by decide) ?_
    refine lv_aload_n hx hb dX6_put_70 rfl (lv_at hl 0 rfl) ?_
    refine z_get hx hb ht hown hK hP ziX6 rfl 77 (by decide) 2 (by decide) hw_2_82 rfl (v := .ref (q 78)) rfl dX6_put_71 ?_
    refine lv_iload_n hx hb dX6_put_74 rfl (lv_at hl 1 rfl) ?_
    refine lv_lload_n hx hb dX6_put_75 rfl (lv_at hl 2 rfl) ?_
    refine z_last hx hb hK hP hD hS 78 (by decide) 55 (fun _ => rfl) rfl (zR_vin hpa0 (by decide)) dX6_put_76 (fun H locs hP hD hS => ?_)
    have hI_3 := xInv_J (J2 := (zp J 78 (pa0).toNatClampNeg (pa1))) hI
    exact z_vret hx hb hr hlocks hP hD hS dX6_put_77 hI_3
  · refine lv_tableIn (off := 28) (tgt := 32) hx hb dX6_put_4 (by omega) (by omega) (by rw [k_2]; decide +kernel) (by decide) ?_
    refine lv_aload_n hx hb dX6_put_32 rfl (lv_at hl 0 rfl) ?_
    refine z_get hx hb ht hown hK hP ziX6 rfl 77 (by decide) 2 (by decide) hw_2_82 rfl (v := .ref (q 78)) rfl dX6_put_33 ?_
    refine lv_iload_n hx hb dX6_put_36 rfl (lv_at hl 1 rfl) ?_
    refine lv_lload_n hx hb dX6_put_37 rfl (lv_at hl 2 rfl) ?_
    refine lv_l2i hx hb dX6_put_38 rfl ?_
    refine z_any (fun v_4 => ?_)
    refine lv_i2b hx hb dX6_put_39 rfl ?_
    refine z_any (fun v_5 => ?_)
    refine lv_i2l (v := (v_5).toInt64) hx hb dX6_put_40 rfl ?_
    refine z_last hx hb hK hP hD hS 78 (by decide) 55 (fun _ => rfl) rfl (zR_vin hpa0 (by decide)) dX6_put_41 (fun H locs hP hD hS => ?_)
    have hI_6 := xInv_J (J2 := (zp J 78 (pa0).toNatClampNeg ((v_5).toInt64))) hI
    refine lv_goto (tgt := 77) hx hb dX6_put_42 (by decide) ?_
    exact z_vret hx hb hr hlocks hP hD hS dX6_put_77 hI_6
  · refine lv_tableIn (off := 41) (tgt := 45) hx hb dX6_put_4 (by omega) (by omega) (by rw [k_2]; decide +kernel) (by decide) ?_
    refine lv_aload_n hx hb dX6_put_45 rfl (lv_at hl 0 rfl) ?_
    refine z_get hx hb ht hown hK hP ziX6 rfl 77 (by decide) 2 (by decide) hw_2_82 rfl (v := .ref (q 78)) rfl dX6_put_46 ?_
    refine lv_iload_n hx hb dX6_put_49 rfl (lv_at hl 1 rfl) ?_
    refine lv_lload_n hx hb dX6_put_50 rfl (lv_at hl 2 rfl) ?_
    refine lv_l2i hx hb dX6_put_51 rfl ?_
    refine z_any (fun v_7 => ?_)
    refine lv_i2s hx hb dX6_put_52 rfl ?_
    refine z_any (fun v_8 => ?_)
    refine lv_i2l (v := (v_8).toInt64) hx hb dX6_put_53 rfl ?_
    refine z_last hx hb hK hP hD hS 78 (by decide) 55 (fun _ => rfl) rfl (zR_vin hpa0 (by decide)) dX6_put_54 (fun H locs hP hD hS => ?_)
    have hI_9 := xInv_J (J2 := (zp J 78 (pa0).toNatClampNeg ((v_8).toInt64))) hI
    refine lv_goto (tgt := 77) hx hb dX6_put_55 (by decide) ?_
    exact z_vret hx hb hr hlocks hP hD hS dX6_put_77 hI_9
  · refine lv_tableIn (off := 54) (tgt := 58) hx hb dX6_put_4 (by omega) (by omega) (by rw [k_2]; decide +kernel) (by decide) ?_
    refine lv_aload_n hx hb dX6_put_58 rfl (lv_at hl 0 rfl) ?_
    refine z_get hx hb ht hown hK hP ziX6 rfl 77 (by decide) 2 (by decide) hw_2_82 rfl (v := .ref (q 78)) rfl dX6_put_59 ?_
    refine lv_iload_n hx hb dX6_put_62 rfl (lv_at hl 1 rfl) ?_
    refine lv_lload_n hx hb dX6_put_63 rfl (lv_at hl 2 rfl) ?_
    refine lv_l2i hx hb dX6_put_64 rfl ?_
    refine z_any (fun v_10 => ?_)
    refine lv_i2l (v := (v_10).toInt64) hx hb dX6_put_65 rfl ?_
    refine z_last hx hb hK hP hD hS 78 (by decide) 55 (fun _ => rfl) rfl (zR_vin hpa0 (by decide)) dX6_put_66 (fun H locs hP hD hS => ?_)
    have hI_11 := xInv_J (J2 := (zp J 78 (pa0).toNatClampNeg ((v_10).toInt64))) hI
    refine lv_goto (tgt := 77) hx hb dX6_put_67 (by decide) ?_
    exact z_vret hx hb hr hlocks hP hD hS dX6_put_77 hI_11
set_option maxHeartbeats 4000000 in
set_option maxRecDepth 100000 in
theorem xk_X6_put_3 (l : Launch) (D : va_G) (q : Nat → Nat) (cA : Nat → ClassId) (F : Nat → Nat → Int32) (I R : Nat → Nat → Int32) (J : Nat → Nat → Int64) (hI : xInv F (I, R, J)) (pa0 : Int32) (hpa0 : zR 0 59 pa0) (pa1 : Int64) : zMv l D vwCl (zXtys cA) 81 q (zXd q cA) yX6_put cX6_put 4 none ({ frames := 0, cells := 0, slots := 0, locals := 0 } : Room) [.ref (q 79), .int (pa0), .long (pa1)] (I, R, J) (fun u => xInv F u) := by
  intro sz
  refine z_body (by decide +kernel) (Nat.le_of_ble_eq_true rfl) (fun p e s m below meth c ls hx hb hml hr ht hown hlocks hsz hK hP hD hS hl => ?_)
  have hA : ∀ a, s.heap.size ≤ a → zA 81 q sz a := fun a h => Or.inr (hsz ▸ h)
  have hl : lv_has ls 4 [(0, .ref (q 79)), (1, .int (pa0)), (2, .long (pa1))] := hl
  refine lv_aload_n hx hb dX6_put_0 rfl (lv_at hl 0 rfl) ?_
  refine z_get hx hb ht hown hK hP ziX6 rfl 79 (by decide) 0 (by decide) hw_2_77 rfl (v := .int (I 79 0)) rfl dX6_put_1 ?_
  rcases (show ((I 79 0).toInt < 0 ∨ 2 < (I 79 0).toInt) ∨ (I 79 0).toInt = 0 ∨ (I 79 0).toInt = 1 ∨ (I 79 0).toInt = 2 by omega) with c_1 | k_2 | k_2 | k_2
  · refine lv_tableOut (tgt := 70) hx hb dX6_put_4 c_1 (by decide) ?_
    refine lv_aload_n hx hb dX6_put_70 rfl (lv_at hl 0 rfl) ?_
    refine z_get hx hb ht hown hK hP ziX6 rfl 79 (by decide) 2 (by decide) hw_2_82 rfl (v := .ref (q 80)) rfl dX6_put_71 ?_
    refine lv_iload_n hx hb dX6_put_74 rfl (lv_at hl 1 rfl) ?_
    refine lv_lload_n hx hb dX6_put_75 rfl (lv_at hl 2 rfl) ?_
    refine z_last hx hb hK hP hD hS 80 (by decide) 56 (fun _ => rfl) rfl (zR_vin hpa0 (by decide)) dX6_put_76 (fun H locs hP hD hS => ?_)
    have hI_3 := xInv_J (J2 := (zp J 80 (pa0).toNatClampNeg (pa1))) hI
    exact z_vret hx hb hr hlocks hP hD hS dX6_put_77 hI_3
  · refine lv_tableIn (off := 28) (tgt := 32) hx hb dX6_put_4 (by omega) (by omega) (by rw [k_2]; decide +kernel) (by decide) ?_
    refine lv_aload_n hx hb dX6_put_32 rfl (lv_at hl 0 rfl) ?_
    refine z_get hx hb ht hown hK hP ziX6 rfl 79 (by decide) 2 (by decide) hw_2_82 rfl (v := .ref (q 80)) rfl dX6_put_33 ?_
    refine lv_iload_n hx hb dX6_put_36 rfl (lv_at hl 1 rfl) ?_
    refine lv_lload_n hx hb dX6_put_37 rfl (lv_at hl 2 rfl) ?_
    refine lv_l2i hx hb dX6_put_38 rfl ?_
    refine z_any (fun v_4 => ?_)
    refine lv_i2b hx hb dX6_put_39 rfl ?_
    refine z_any (fun v_5 => ?_)
    refine lv_i2l (v := (v_5).toInt64) hx hb dX6_put_40 rfl ?_
    refine z_last hx hb hK hP hD hS 80 (by decide) 56 (fun _ => rfl) rfl (zR_vin hpa0 (by decide)) dX6_put_41 (fun H locs hP hD hS => ?_)
    have hI_6 := xInv_J (J2 := (zp J 80 (pa0).toNatClampNeg ((v_5).toInt64))) hI
    refine lv_goto (tgt := 77) hx hb dX6_put_42 (by decide) ?_
    exact z_vret hx hb hr hlocks hP hD hS dX6_put_77 hI_6
  · refine lv_tableIn (off := 41) (tgt := 45) hx hb dX6_put_4 (by omega) (by omega) (by rw [k_2]; decide +kernel) (by decide) ?_
    refine lv_aload_n hx hb dX6_put_45 rfl (lv_at hl 0 rfl) ?_
    refine z_get hx hb ht hown hK hP ziX6 rfl 79 (by decide) 2 (by decide) hw_2_82 rfl (v := .ref (q 80)) rfl dX6_put_46 ?_
    refine lv_iload_n hx hb dX6_put_49 rfl (lv_at hl 1 rfl) ?_
    refine lv_lload_n hx hb dX6_put_50 rfl (lv_at hl 2 rfl) ?_
    refine lv_l2i hx hb dX6_put_51 rfl ?_
    refine z_any (fun v_7 => ?_)
    refine lv_i2s hx hb dX6_put_52 rfl ?_
    refine z_any (fun v_8 => ?_)
    refine lv_i2l (v := (v_8).toInt64) hx hb dX6_put_53 rfl ?_
    refine z_last hx hb hK hP hD hS 80 (by decide) 56 (fun _ => rfl) rfl (zR_vin hpa0 (by decide)) dX6_put_54 (fun H locs hP hD hS => ?_)
    have hI_9 := xInv_J (J2 := (zp J 80 (pa0).toNatClampNeg ((v_8).toInt64))) hI
    refine lv_goto (tgt := 77) hx hb dX6_put_55 (by decide) ?_
    exact z_vret hx hb hr hlocks hP hD hS dX6_put_77 hI_9
  · refine lv_tableIn (off := 54) (tgt := 58) hx hb dX6_put_4 (by omega) (by omega) (by rw [k_2]; decide +kernel) (by decide) ?_
    refine lv_aload_n hx hb dX6_put_58 rfl (lv_at hl 0 rfl) ?_
    refine z_get hx hb ht hown hK hP ziX6 rfl 79 (by decide) 2 (by decide) hw_2_82 rfl (v := .ref (q 80)) rfl dX6_put_59 ?_
    refine lv_iload_n hx hb dX6_put_62 rfl (lv_at hl 1 rfl) ?_
    refine lv_lload_n hx hb dX6_put_63 rfl (lv_at hl 2 rfl) ?_
    refine lv_l2i hx hb dX6_put_64 rfl ?_
    refine z_any (fun v_10 => ?_)
    refine lv_i2l (v := (v_10).toInt64) hx hb dX6_put_65 rfl ?_
    refine z_last hx hb hK hP hD hS 80 (by decide) 56 (fun _ => rfl) rfl (zR_vin hpa0 (by decide)) dX6_put_66 (fun H locs hP hD hS => ?_)
    have hI_11 := xInv_J (J2 := (zp J 80 (pa0).toNatClampNeg ((v_10).toInt64))) hI
    refine lv_goto (tgt := 77) hx hb dX6_put_67 (by decide) ?_
    exact z_vret hx hb hr hlocks hP hD hS dX6_put_77 hI_11
