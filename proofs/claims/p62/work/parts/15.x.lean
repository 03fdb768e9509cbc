set_option maxHeartbeats 4000000 in
set_option maxRecDepth 100000 in
theorem xk_X10_look (l : Launch) (D : va_G) (q : Nat → Nat) (cA : Nat → ClassId) (F : Nat → Nat → Int32) (I R : Nat → Nat → Int32) (J : Nat → Nat → Int64) (hI : xInv F (I, R, J)) (pa0 : Int32) : zMi l D vwCl (zXtys cA) 81 q (zXd q cA) yX10_look cX10_look 3 (some .int) ({ frames := 3, cells := 0, slots := 0, locals := 73 } : Room) [.ref (q 0), .int (pa0)] (I, R, J) (fun r u => zR (-6) 0 r ∧ xInv F u) := by
  intro sz
  refine z_body (by decide +kernel) (Nat.le_of_ble_eq_true rfl) (fun p e s m below meth c ls hx hb hml hr ht hown hlocks hsz hK hP hD hS hl => ?_)
  have hA : ∀ a, s.heap.size ≤ a → zA 81 q sz a := fun a h => Or.inr (hsz ▸ h)
  have hl : lv_has ls 3 [(0, .ref (q 0)), (1, .int (pa0))] := hl
  refine lv_iload_n hx hb dX10_look_0 rfl (lv_at hl 1 rfl) ?_
  refine z_callSi (As := [.int (pa0)]) (rest := []) hx hb hml hown ht (xk_X10_isSlot l D q cA F _ _ _ hI (pa0)) hw_5_60 hmX10_isSlot ⟨rfl, rfl⟩ (na := 1) rfl (by decide +kernel) (by decide) hK hP hD hS hA hl.1 rfl (Nat.le_of_ble_eq_true rfl) ⟨Nat.zero_le _, Nat.zero_le _⟩ dX10_look_1 (fun r_1 I_1 R_1 J_1 H locs hp_1 hP hD hS _ _ => ?_)
  rcases hp_1 with ⟨rfl, hu_1, f0_1⟩ | ⟨rfl, hu_1, nn_1⟩
  · cases hu_1
    refine lv_if_eq (tgt := 14) hx hb dX10_look_4 (by decide) (fun c_0 => absurd c_0 (zD_ne zk_1 zk_z (by decide))) (fun _ => ?_)
    refine lv_aload_n hx hb dX10_look_7 rfl (lv_at hl 0 rfl) ?_
    refine z_callVi (k := 0) (As := []) (rest := []) hx hb hml hown ht (xk_X10_hasCity l D q cA F _ _ _ hI ) hw_4_0 hmX10_hasCity ⟨rfl, rfl⟩ (na := 0) rfl (by decide +kernel) (by decide) (by decide) rfl rfl hK hP hD hS hA hl.1 rfl (Nat.le_of_ble_eq_true rfl) ⟨Nat.zero_le _, Nat.zero_le _⟩ dX10_look_8 (fun r_2 I_2 R_2 J_2 H locs hp_2 hP hD hS _ _ => ?_)
    rcases hp_2 with ⟨rfl, hu_2⟩ | ⟨rfl, hu_2⟩
    · cases hu_2
      refine lv_if_ne (tgt := 17) hx hb dX10_look_11 (by decide) (fun _ => ?_) (fun c_0 => absurd c_0 (zD_ne zk_1 zk_z (by decide)))
      refine lv_aload_n hx hb dX10_look_17 rfl (lv_at hl 0 rfl) ?_
      refine z_get hx hb ht hown hK hP ziX10 rfl 0 (by decide) 11 (by decide) hw_2_104 rfl (v := .ref (q 72)) rfl dX10_look_18 ?_
      refine lv_iload_n hx hb dX10_look_21 rfl (lv_at hl 1 rfl) ?_
      obtain ⟨n_3, hn_3, rfl⟩ := z_ex (x := pa0) (N := 4) (zR_w f0_1 (a' := 0) (b' := 3) (by decide)).1 (Int.lt_of_le_of_lt (zR_w f0_1 (a' := 0) (b' := 3) (by decide)).2 (by decide))
      rcases (show n_3 = 0 ∨ n_3 = 1 ∨ n_3 = 2 ∨ n_3 = 3 by omega) with rfl | rfl | rfl | rfl
      · refine va_aldq hx hb hK hP 72 52 (zw_at (by decide) rfl) rfl (vp_in_nI (by decide) (by decide)) dX10_look_22 ?_
        refine W.eq (g2 := F0 m 23 ls (.ref (q 73) :: [])) rfl ?_
        refine lv_astore_n (lv' := [(2, .ref (q 73)), (0, .ref (q 0)), (1, .int (nI 0))]) hx hb dX10_look_23 rfl hl (by decide) rfl (fun ls hl => ?_)
        refine lv_aload_n hx hb dX10_look_24 rfl (lv_at hl 0 rfl) ?_
        refine z_callVi (k := 73) (As := []) (rest := []) hx hb hml hown ht (xk_X6_isThere l D q cA F _ _ _ hI ) hw_5_63 hmX6_isThere ⟨rfl, rfl⟩ (na := 0) rfl (by decide +kernel) (by decide) (by decide) rfl rfl hK hP hD hS hA hl.1 rfl (Nat.le_of_ble_eq_true rfl) ⟨Nat.zero_le _, Nat.zero_le _⟩ dX10_look_25 (fun r_4 I_4 R_4 J_4 H locs hp_4 hP hD hS _ _ => ?_)
        rcases hp_4 with ⟨rfl, hu_4, nn_4⟩ | ⟨rfl, hu_4, nn_4⟩
        · cases hu_4
          have f_5 : zR 0 60 (I 73 1) := x_there (xI hI 73 1) nn_4
          refine lv_if_ne (tgt := 34) hx hb dX10_look_28 (by decide) (fun _ => ?_) (fun c_0 => absurd c_0 (zD_ne zk_1 zk_z (by decide)))
          refine lv_aload_n hx hb dX10_look_34 rfl (lv_at hl 1 rfl) ?_
          refine z_get hx hb ht hown hK hP ziX10 rfl 0 (by decide) 9 (by decide) hw_2_102 rfl (v := .ref (q 46)) rfl dX10_look_35 ?_
          refine lv_aload_n hx hb dX10_look_38 rfl (lv_at hl 0 rfl) ?_
          refine lv_aload_n hx hb dX10_look_39 rfl (lv_at hl 1 rfl) ?_
          refine z_get hx hb ht hown hK hP ziX10 rfl 0 (by decide) 1 (by decide) hw_2_94 rfl (v := .ref (q 3)) rfl dX10_look_40 ?_
          refine z_callVi (k := 46) (As := [.ref (q 73), .ref (q 3)]) (rest := []) hx hb hml hown ht (xk_X1_isSound l D q cA F _ _ _ hI ) hw_5_67 hmX1_isSound ⟨rfl, rfl⟩ (na := 2) rfl (by decide +kernel) (by decide) (by decide) rfl rfl hK hP hD hS hA hl.1 rfl (Nat.le_of_ble_eq_true rfl) ⟨Nat.zero_le _, Nat.zero_le _⟩ dX10_look_43 (fun r_6 I_6 R_6 J_6 H locs hp_6 hP hD hS _ _ => ?_)
          rcases hp_6 with ⟨rfl, hu_6, nn_6⟩ | ⟨rfl, hu_6, nn_6⟩
          · cases hu_6
            refine lv_if_ne (tgt := 52) hx hb dX10_look_46 (by decide) (fun _ => ?_) (fun c_0 => absurd c_0 (zD_ne zk_1 zk_z (by decide)))
            refine lv_aload_n hx hb dX10_look_52 rfl (lv_at hl 1 rfl) ?_
            refine z_get hx hb ht hown hK hP ziX10 rfl 0 (by decide) 9 (by decide) hw_2_102 rfl (v := .ref (q 46)) rfl dX10_look_53 ?_
            refine lv_aload_n hx hb dX10_look_56 rfl (lv_at hl 0 rfl) ?_
            refine lv_aload_n hx hb dX10_look_57 rfl (lv_at hl 1 rfl) ?_
            refine z_get hx hb ht hown hK hP ziX10 rfl 0 (by decide) 4 (by decide) hw_2_97 rfl (v := .ref (q 15)) rfl dX10_look_58 ?_
            refine z_callVv (k := 46) (As := [.ref (q 73), .ref (q 15)]) (rest := []) hx hb hml hown ht (xk_X1_compare l D q cA F _ _ _ hI nn_6) hw_5_74 hmX1_compare ⟨rfl, rfl⟩ (na := 2) rfl (by decide +kernel) (by decide) (by decide) rfl rfl hK hP hD hS hA hl.1 rfl (Nat.le_of_ble_eq_true rfl) ⟨Nat.zero_le _, Nat.zero_le _⟩ dX10_look_61 (fun I_7 R_7 J_7 H locs hp_7 hP hD hS _ _ => ?_)
            refine lv_iconst (v := nI 0) hx hb dX10_look_64 (by decide +kernel) ?_
            exact z_iret (v := nI 0) hx hb hr hlocks hP hD hS dX10_look_65 ⟨(zR_w zk_0 (by decide)), hp_7⟩
          · cases hu_6
            refine lv_if_ne (tgt := 52) hx hb dX10_look_46 (by decide) (fun c_0 => absurd (zD_eq zk_0 zk_z) c_0) (fun _ => ?_)
            refine lv_bipush (v := (-2)) hx hb dX10_look_49 (by decide +kernel) ?_
            exact z_iret (v := (-2)) hx hb hr hlocks hP hD hS dX10_look_51 ⟨(zR_w zk_m2 (by decide)), hI⟩
        · cases hu_4
          refine lv_if_ne (tgt := 34) hx hb dX10_look_28 (by decide) (fun c_0 => absurd (zD_eq zk_0 zk_z) c_0) (fun _ => ?_)
          refine lv_bipush (v := (-6)) hx hb dX10_look_31 (by decide +kernel) ?_
          exact z_iret (v := (-6)) hx hb hr hlocks hP hD hS dX10_look_33 ⟨(zR_w zk_m6 (by decide)), hI⟩
      · refine va_aldq hx hb hK hP 72 52 (zw_at (by decide) rfl) rfl (vp_in_nI (by decide) (by decide)) dX10_look_22 ?_
        refine W.eq (g2 := F0 m 23 ls (.ref (q 75) :: [])) rfl ?_
        refine lv_astore_n (lv' := [(2, .ref (q 75)), (0, .ref (q 0)), (1, .int (nI 1))]) hx hb dX10_look_23 rfl hl (by decide) rfl (fun ls hl => ?_)
        refine lv_aload_n hx hb dX10_look_24 rfl (lv_at hl 0 rfl) ?_
        refine z_callVi (k := 75) (As := []) (rest := []) hx hb hml hown ht (xk_X6_isThere_1 l D q cA F _ _ _ hI ) hw_5_63 hmX6_isThere ⟨rfl, rfl⟩ (na := 0) rfl (by decide +kernel) (by decide) (by decide) rfl rfl hK hP hD hS hA hl.1 rfl (Nat.le_of_ble_eq_true rfl) ⟨Nat.zero_le _, Nat.zero_le _⟩ dX10_look_25 (fun r_8 I_8 R_8 J_8 H locs hp_8 hP hD hS _ _ => ?_)
        rcases hp_8 with ⟨rfl, hu_8, nn_8⟩ | ⟨rfl, hu_8, nn_8⟩
        · cases hu_8
          have f_9 : zR 0 60 (I 75 1) := x_there (xI hI 75 1) nn_8
          refine lv_if_ne (tgt := 34) hx hb dX10_look_28 (by decide) (fun _ => ?_) (fun c_0 => absurd c_0 (zD_ne zk_1 zk_z (by decide)))
          refine lv_aload_n hx hb dX10_look_34 rfl (lv_at hl 1 rfl) ?_
          refine z_get hx hb ht hown hK hP ziX10 rfl 0 (by decide) 9 (by decide) hw_2_102 rfl (v := .ref (q 46)) rfl dX10_look_35 ?_
          refine lv_aload_n hx hb dX10_look_38 rfl (lv_at hl 0 rfl) ?_
          refine lv_aload_n hx hb dX10_look_39 rfl (lv_at hl 1 rfl) ?_
          refine z_get hx hb ht hown hK hP ziX10 rfl 0 (by decide) 1 (by decide) hw_2_94 rfl (v := .ref (q 3)) rfl dX10_look_40 ?_
          refine z_callVi (k := 46) (As := [.ref (q 75), .ref (q 3)]) (rest := []) hx hb hml hown ht (xk_X1_isSound_1 l D q cA F _ _ _ hI ) hw_5_67 hmX1_isSound ⟨rfl, rfl⟩ (na := 2) rfl (by decide +kernel) (by decide) (by decide) rfl rfl hK hP hD hS hA hl.1 rfl (Nat.le_of_ble_eq_true rfl) ⟨Nat.zero_le _, Nat.zero_le _⟩ dX10_look_43 (fun r_10 I_10 R_10 J_10 H locs hp_10 hP hD hS _ _ => ?_)
          rcases hp_10 with ⟨rfl, hu_10, nn_10⟩ | ⟨rfl, hu_10, nn_10⟩
          · cases hu_10
            refine lv_if_ne (tgt := 52) hx hb dX10_look_46 (by decide) (fun _ => ?_) (fun c_0 => absurd c_0 (zD_ne zk_1 zk_z (by decide)))
            refine lv_aload_n hx hb dX10_look_52 rfl (lv_at hl 1 rfl) ?_
            refine z_get hx hb ht hown hK hP ziX10 rfl 0 (by decide) 9 (by decide) hw_2_102 rfl (v := .ref (q 46)) rfl dX10_look_53 ?_
            refine lv_aload_n hx hb dX10_look_56 rfl (lv_at hl 0 rfl) ?_
            refine lv_aload_n hx hb dX10_look_57 rfl (lv_at hl 1 rfl) ?_
            refine z_get hx hb ht hown hK hP ziX10 rfl 0 (by decide) 4 (by decide) hw_2_97 rfl (v := .ref (q 15)) rfl dX10_look_58 ?_
            refine z_callVv (k := 46) (As := [.ref (q 75), .ref (q 15)]) (rest := []) hx hb hml hown ht (xk_X1_compare_1 l D q cA F _ _ _ hI nn_10) hw_5_74 hmX1_compare ⟨rfl, rfl⟩ (na := 2) rfl (by decide +kernel) (by decide) (by decide) rfl rfl hK hP hD hS hA hl.1 rfl (Nat.le_of_ble_eq_true rfl) ⟨Nat.zero_le _, Nat.zero_le _⟩ dX10_look_61 (fun I_11 R_11 J_11 H locs hp_11 hP hD hS _ _ => ?_)
            refine lv_iconst (v := nI 0) hx hb dX10_look_64 (by decide +kernel) ?_
            exact z_iret (v := nI 0) hx hb hr hlocks hP hD hS dX10_look_65 ⟨(zR_w zk_0 (by decide)), hp_11⟩
          · cases hu_10
            refine lv_if_ne (tgt := 52) hx hb dX10_look_46 (by decide) (fun c_0 => absurd (zD_eq zk_0 zk_z) c_0) (fun _ => ?_)
            refine lv_bipush (v := (-2)) hx hb dX10_look_49 (by decide +kernel) ?_
            exact z_iret (v := (-2)) hx hb hr hlocks hP hD hS dX10_look_51 ⟨(zR_w zk_m2 (by decide)), hI⟩
        · cases hu_8
          refine lv_if_ne (tgt := 34) hx hb dX10_look_28 (by decide) (fun c_0 => absurd (zD_eq zk_0 zk_z) c_0) (fun _ => ?_)
          refine lv_bipush (v := (-6)) hx hb dX10_look_31 (by decide +kernel) ?_
          exact z_iret (v := (-6)) hx hb hr hlocks hP hD hS dX10_look_33 ⟨(zR_w zk_m6 (by decide)), hI⟩
      · refine va_aldq hx hb hK hP 72 52 (zw_at (by decide) rfl) rfl (vp_in_nI (by decide) (by decide)) dX10_look_22 ?_
        refine W.eq (g2 := F0 m 23 ls (.ref (q 77) :: [])) rfl ?_
        refine lv_astore_n (lv' := [(2, .ref (q 77)), (0, .ref (q 0)), (1, .int (nI 2))]) hx hb dX10_look_23 rfl hl (by decide) rfl (fun ls hl => ?_)
        refine lv_aload_n hx hb dX10_look_24 rfl (lv_at hl 0 rfl) ?_
        refine z_callVi (k := 77) (As := []) (rest := []) hx hb hml hown ht (xk_X6_isThere_2 l D q cA F _ _ _ hI ) hw_5_63 hmX6_isThere ⟨rfl, rfl⟩ (na := 0) rfl (by decide +kernel) (by decide) (by decide) rfl rfl hK hP hD hS hA hl.1 rfl (Nat.le_of_ble_eq_true rfl) ⟨Nat.zero_le _, Nat.zero_le _⟩ dX10_look_25 (fun r_12 I_12 R_12 J_12 H locs hp_12 hP hD hS _ _ => ?_)
        rcases hp_12 with ⟨rfl, hu_12, nn_12⟩ | ⟨rfl, hu_12, nn_12⟩
        · cases hu_12
          have f_13 : zR 0 60 (I 77 1) := x_there (xI hI 77 1) nn_12
          refine lv_if_ne (tgt := 34) hx hb dX10_look_28 (by decide) (fun _ => ?_) (fun c_0 => absurd c_0 (zD_ne zk_1 zk_z (by decide)))
          refine lv_aload_n hx hb dX10_look_34 rfl (lv_at hl 1 rfl) ?_
          refine z_get hx hb ht hown hK hP ziX10 rfl 0 (by decide) 9 (by decide) hw_2_102 rfl (v := .ref (q 46)) rfl dX10_look_35 ?_
          refine lv_aload_n hx hb dX10_look_38 rfl (lv_at hl 0 rfl) ?_
          refine lv_aload_n hx hb dX10_look_39 rfl (lv_at hl 1 rfl) ?_
          refine z_get hx hb ht hown hK hP ziX10 rfl 0 (by decide) 1 (by decide) hw_2_94 rfl (v := .ref (q 3)) rfl dX10_look_40 ?_
          refine z_callVi (k := 46) (As := [.ref (q 77), .ref (q 3)]) (rest := []) hx hb hml hown ht (xk_X1_isSound_2 l D q cA F _ _ _ hI ) hw_5_67 hmX1_isSound ⟨rfl, rfl⟩ (na := 2) rfl (by decide +kernel) (by decide) (by decide) rfl rfl hK hP hD hS hA hl.1 rfl (Nat.le_of_ble_eq_true rfl) ⟨Nat.zero_le _, Nat.zero_le _⟩ dX10_look_43 (fun r_14 I_14 R_14 J_14 H locs hp_14 hP hD hS _ _ => ?_)
          rcases hp_14 with ⟨rfl, hu_14, nn_14⟩ | ⟨rfl, hu_14, nn_14⟩
          · cases hu_14
            refine lv_if_ne (tgt := 52) hx hb dX10_look_46 (by decide) (fun _ => ?_) (fun c_0 => absurd c_0 (zD_ne zk_1 zk_z (by decide)))
            refine lv_aload_n hx hb dX10_look_52 rfl (lv_at hl 1 rfl) ?_
            refine z_get hx hb ht hown hK hP ziX10 rfl 0 (by decide) 9 (by decide) hw_2_102 rfl (v := .ref (q 46)) rfl dX10_look_53 ?_
            refine lv_aload_n hx hb dX10_look_56 rfl (lv_at hl 0 rfl) ?_
            refine lv_aload_n hx hb dX10_look_57 rfl (lv_at hl 1 rfl) ?_
            refine z_get hx hb ht hown hK hP ziX10 rfl 0 (by decide) 4 (by decide) hw_2_97 rfl (v := .ref (q 15)) rfl dX10_look_58 ?_
            refine z_callVv (k := 46) (As := [.ref (q 77), .ref (q 15)]) (rest := []) hx hb hml hown ht (xk_X1_compare_2 l D q cA F _ _ _ hI nn_14) hw_5_74 hmX1_compare ⟨rfl, rfl⟩ (na := 2) rfl (by decide +kernel) (by decide) (by decide) rfl rfl hK hP hD hS hA hl.1 rfl (Nat.le_of_ble_eq_true rfl) ⟨Nat.zero_le _, Nat.zero_le _⟩ dX10_look_61 (fun I_15 R_15 J_15 H locs hp_15 hP hD hS _ _ => ?_)
            refine lv_iconst (v := nI 0) hx hb dX10_look_64 (by decide +kernel) ?_
            exact z_iret (v := nI 0) hx hb hr hlocks hP hD hS dX10_look_65 ⟨(zR_w zk_0 (by decide)), hp_15⟩
          · cases hu_14
            refine lv_if_ne (tgt := 52) hx hb dX10_look_46 (by decide) (fun c_0 => absurd (zD_eq zk_0 zk_z) c_0) (fun _ => ?_)
            refine lv_bipush (v := (-2)) hx hb dX10_look_49 (by decide +kernel) ?_
            exact z_iret (v := (-2)) hx hb hr hlocks hP hD hS dX10_look_51 ⟨(zR_w zk_m2 (by decide)), hI⟩
        · cases hu_12
          refine lv_if_ne (tgt := 34) hx hb dX10_look_28 (by decide) (fun c_0 => absurd (zD_eq zk_0 zk_z) c_0) (fun _ => ?_)
          refine lv_bipush (v := (-6)) hx hb dX10_look_31 (by decide +kernel) ?_
          exact z_iret (v := (-6)) hx hb hr hlocks hP hD hS dX10_look_33 ⟨(zR_w zk_m6 (by decide)), hI⟩
      · refine va_aldq hx hb hK hP 72 52 (zw_at (by decide) rfl) rfl (vp_in_nI (by decide) (by decide)) dX10_look_22 ?_
        refine W.eq (g2 := F0 m 23 ls (.ref (q 79) :: [])) rfl ?_
        refine lv_astore_n (lv' := [(2, .ref (q 79)), (0, .ref (q 0)), (1, .int (nI 3))]) hx hb dX10_look_23 rfl hl (by decide) rfl (fun ls hl => ?_)
        refine lv_aload_n hx hb dX10_look_24 rfl (lv_at hl 0 rfl) ?_
        refine z_callVi (k := 79) (As := []) (rest := []) hx hb hml hown ht (xk_X6_isThere_3 l D q cA F _ _ _ hI ) hw_5_63 hmX6_isThere ⟨rfl, rfl⟩ (na := 0) rfl (by decide +kernel) (by decide) (by decide) rfl rfl hK hP hD hS hA hl.1 rfl (Nat.le_of_ble_eq_true rfl) ⟨Nat.zero_le _, Nat.zero_le _⟩ dX10_look_25 (fun r_16 I_16 R_16 J_16 H locs hp_16 hP hD hS _ _ => ?_)
        rcases hp_16 with ⟨rfl, hu_16, nn_16⟩ | ⟨rfl, hu_16, nn_16⟩
        · cases hu_16
          have f_17 : zR 0 60 (I 79 1) := x_there (xI hI 79 1) nn_16
          refine lv_if_ne (tgt := 34) hx hb dX10_look_28 (by decide) (fun _ => ?_) (fun c_0 => absurd c_0 (zD_ne zk_1 zk_z (by decide)))
          refine lv_aload_n hx hb dX10_look_34 rfl (lv_at hl 1 rfl) ?_
          refine z_get hx hb ht hown hK hP ziX10 rfl 0 (by decide) 9 (by decide) hw_2_102 rfl (v := .ref (q 46)) rfl dX10_look_35 ?_
          refine lv_aload_n hx hb dX10_look_38 rfl (lv_at hl 0 rfl) ?_
          refine lv_aload_n hx hb dX10_look_39 rfl (lv_at hl 1 rfl) ?_
          refine z_get hx hb ht hown hK hP ziX10 rfl 0 (by decide) 1 (by decide) hw_2_94 rfl (v := .ref (q 3)) rfl dX10_look_40 ?_
          refine z_callVi (k := 46) (As := [.ref (q 79), .ref (q 3)]) (rest := []) hx hb hml hown ht (xk_X1_isSound_3 l D q cA F _ _ _ hI ) hw_5_67 hmX1_isSound ⟨rfl, rfl⟩ (na := 2) rfl (by decide +kernel) (by decide) (by decide) rfl rfl hK hP hD hS hA hl.1 rfl (Nat.le_of_ble_eq_true rfl) ⟨Nat.zero_le _, Nat.zero_le _⟩ dX10_look_43 (fun r_18 I_18 R_18 J_18 H locs hp_18 hP hD hS _ _ => ?_)
          rcases hp_18 with ⟨rfl, hu_18, nn_18⟩ | ⟨rfl, hu_18, nn_18⟩
          · cases hu_18
            refine lv_if_ne (tgt := 52) hx hb dX10_look_46 (by decide) (fun _ => ?_) (fun c_0 => absurd c_0 (zD_ne zk_1 zk_z (by decide)))
            refine lv_aload_n hx hb dX10_look_52 rfl (lv_at hl 1 rfl) ?_
            refine z_get hx hb ht hown hK hP ziX10 rfl 0 (by decide) 9 (by decide) hw_2_102 rfl (v := .ref (q 46)) rfl dX10_look_53 ?_
            refine lv_aload_n hx hb dX10_look_56 rfl (lv_at hl 0 rfl) ?_
            refine lv_aload_n hx hb dX10_look_57 rfl (lv_at hl 1 rfl) ?_
            refine z_get hx hb ht hown hK hP ziX10 rfl 0 (by decide) 4 (by decide) hw_2_97 rfl (v := .ref (q 15)) rfl dX10_look_58 ?_
            refine z_callVv (k := 46) (As := [.ref (q 79), .ref (q 15)]) (rest := []) hx hb hml hown ht (xk_X1_compare_3 l D q cA F _ _ _ hI nn_18) hw_5_74 hmX1_compare ⟨rfl, rfl⟩ (na := 2) rfl (by decide +kernel) (by decide) (by decide) rfl rfl hK hP hD hS hA hl.1 rfl (Nat.le_of_ble_eq_true rfl) ⟨Nat.zero_le _, Nat.zero_le _⟩ dX10_look_61 (fun I_19 R_19 J_19 H locs hp_19 hP hD hS _ _ => ?_)
            refine lv_iconst (v := nI 0) hx hb dX10_look_64 (by decide +kernel) ?_
            exact z_iret (v := nI 0) hx hb hr hlocks hP hD hS dX10_look_65 ⟨(zR_w zk_0 (by decide)), hp_19⟩
          · cases hu_18
            refine lv_if_ne (tgt := 52) hx hb dX10_look_46 (by decide) (fun c_0 => absurd (zD_eq zk_0 zk_z) c_0) (fun _ => ?_)
            refine lv_bipush (v := (-2)) hx hb dX10_look_49 (by decide +kernel) ?_
            exact z_iret (v := (-2)) hx hb hr hlocks hP hD hS dX10_look_51 ⟨(zR_w zk_m2 (by decide)), hI⟩
        · cases hu_16
          refine lv_if_ne (tgt := 34) hx hb dX10_look_28 (by decide) (fun c_0 => absurd (zD_eq zk_0 zk_z) c_0) (fun _ => ?_)
          refine lv_bipush (v := (-6)) hx hb dX10_look_31 (by decide +kernel) ?_
          exact z_iret (v := (-6)) hx hb hr hlocks hP hD hS dX10_look_33 ⟨(zR_w zk_m6 (by decide)), hI⟩
    · cases hu_2
      refine lv_if_ne (tgt := 17) hx hb dX10_look_11 (by decide) (fun c_0 => absurd (zD_eq zk_0 zk_z) c_0) (fun _ => ?_)
      refine lv_bipush (v := (-2)) hx hb dX10_look_14 (by decide +kernel) ?_
      exact z_iret (v := (-2)) hx hb hr hlocks hP hD hS dX10_look_16 ⟨(zR_w zk_m2 (by decide)), hI⟩
  · cases hu_1
    refine lv_if_eq (tgt := 14) hx hb dX10_look_4 (by decide) (fun _ => ?_) (fun c_0 => absurd (zD_eq zk_0 zk_z) c_0)
    refine lv_bipush (v := (-2)) hx hb dX10_look_14 (by decide +kernel) ?_
    exact z_iret (v := (-2)) hx hb hr hlocks hP hD hS dX10_look_16 ⟨(zR_w zk_m2 (by decide)), hI⟩
set_option maxHeartbeats 4000000 in
set_option maxRecDepth 100000 in
theorem xk_X10_wrong (l : Launch) (D : va_G) (q : Nat → Nat) (cA : Nat → ClassId) (F : Nat → Nat → Int32) (I R : Nat → Nat → Int32) (J : Nat → Nat → Int64) (hI : xInv F (I, R, J)) (pa0 : Int32) : zMi l D vwCl (zXtys cA) 81 q (zXd q cA) yX10_wrong cX10_wrong 3 (some .int) ({ frames := 4, cells := 0, slots := 0, locals := 95 } : Room) [.ref (q 0), .int (pa0)] (I, R, J) (fun _ u => xInv F u) := by
  intro sz
  refine z_body (by decide +kernel) (Nat.le_of_ble_eq_true rfl) (fun p e s m below meth c ls hx hb hml hr ht hown hlocks hsz hK hP hD hS hl => ?_)
  have hA : ∀ a, s.heap.size ≤ a → zA 81 q sz a := fun a h => Or.inr (hsz ▸ h)
  have hl : lv_has ls 3 [(0, .ref (q 0)), (1, .int (pa0))] := hl
  refine lv_aload_n hx hb dX10_wrong_0 rfl (lv_at hl 0 rfl) ?_
  refine lv_iload_n hx hb dX10_wrong_1 rfl (lv_at hl 1 rfl) ?_
  refine z_callVi (k := 0) (As := [.int (pa0)]) (rest := []) hx hb hml hown ht (xk_X10_look l D q cA F _ _ _ hI (pa0)) hw_5_56 hmX10_look ⟨rfl, rfl⟩ (na := 1) rfl (by decide +kernel) (by decide) (by decide) rfl rfl hK hP hD hS hA hl.1 rfl (Nat.le_of_ble_eq_true rfl) ⟨Nat.zero_le _, Nat.zero_le _⟩ dX10_wrong_2 (fun r_1 I_1 R_1 J_1 H locs hp_1 hP hD hS _ _ => ?_)
  obtain ⟨hr_1, hu_1⟩ := hp_1
  refine lv_istore_n (lv' := [(2, .int (r_1)), (0, .ref (q 0)), (1, .int (pa0))]) hx hb dX10_wrong_5 rfl hl (by decide) rfl (fun ls hl => ?_)
  refine lv_iload_n hx hb dX10_wrong_6 rfl (lv_at hl 0 rfl) ?_
  refine lv_if_ne (tgt := 20) hx hb dX10_wrong_7 (by decide) (fun c_2 => ?_) (fun c_2 => ?_)
  · have t_c_2 := z_eqF c_2
    have f_3 : zR (-6) (-1) (r_1) := zR_nex t_c_2 hr_1 zk_z (by decide)
    refine lv_iload_n hx hb dX10_wrong_20 rfl (lv_at hl 0 rfl) ?_
    exact z_iret (v := r_1) hx hb hr hlocks hP hD hS dX10_wrong_21 hu_1
  · have t_c_2 := z_eqT c_2
    have f_4 : zR 0 0 (r_1) := zR_eqx t_c_2 zk_z
    refine lv_aload_n hx hb dX10_wrong_10 rfl (lv_at hl 1 rfl) ?_
    refine z_get hx hb ht hown hK hP ziX10 rfl 0 (by decide) 9 (by decide) hw_2_102 rfl (v := .ref (q 46)) rfl dX10_wrong_11 ?_
    refine z_get hx hb ht hown hK hP ziX1 rfl 46 (by decide) 0 (by decide) hw_2_35 rfl (v := .int (I_1 46 0)) rfl dX10_wrong_14 ?_
    refine lv_goto (tgt := 21) hx hb dX10_wrong_17 (by decide) ?_
    exact z_iret (v := I_1 46 0) hx hb hr hlocks hP hD hS dX10_wrong_21 hu_1
set_option maxHeartbeats 4000000 in
set_option maxRecDepth 100000 in
theorem xk_X10_forged (l : Launch) (D : va_G) (q : Nat → Nat) (cA : Nat → ClassId) (F : Nat → Nat → Int32) (I R : Nat → Nat → Int32) (J : Nat → Nat → Int64) (hI : xInv F (I, R, J)) (pa0 : Int32) : zMi l D vwCl (zXtys cA) 81 q (zXd q cA) yX10_forged cX10_forged 3 (some .int) ({ frames := 4, cells := 0, slots := 0, locals := 95 } : Room) [.ref (q 0), .int (pa0)] (I, R, J) (fun _ u => xInv F u) := by
  intro sz
  refine z_body (by decide +kernel) (Nat.le_of_ble_eq_true rfl) (fun p e s m below meth c ls hx hb hml hr ht hown hlocks hsz hK hP hD hS hl => ?_)
  have hA : ∀ a, s.heap.size ≤ a → zA 81 q sz a := fun a h => Or.inr (hsz ▸ h)
  have hl : lv_has ls 3 [(0, .ref (q 0)), (1, .int (pa0))] := hl
  refine lv_aload_n hx hb dX10_forged_0 rfl (lv_at hl 0 rfl) ?_
  refine lv_iload_n hx hb dX10_forged_1 rfl (lv_at hl 1 rfl) ?_
  refine z_callVi (k := 0) (As := [.int (pa0)]) (rest := []) hx hb hml hown ht (xk_X10_look l D q cA F _ _ _ hI (pa0)) hw_5_56 hmX10_look ⟨rfl, rfl⟩ (na := 1) rfl (by decide +kernel) (by decide) (by decide) rfl rfl hK hP hD hS hA hl.1 rfl (Nat.le_of_ble_eq_true rfl) ⟨Nat.zero_le _, Nat.zero_le _⟩ dX10_forged_2 (fun r_1 I_1 R_1 J_1 H locs hp_1 hP hD hS _ _ => ?_)
  obtain ⟨hr_1, hu_1⟩ := hp_1
  refine lv_istore_n (lv' := [(2, .int (r_1)), (0, .ref (q 0)), (1, .int (pa0))]) hx hb dX10_forged_5 rfl hl (by decide) rfl (fun ls hl => ?_)
  refine lv_iload_n hx hb dX10_forged_6 rfl (lv_at hl 0 rfl) ?_
  refine lv_if_ne (tgt := 20) hx hb dX10_forged_7 (by decide) (fun c_2 => ?_) (fun c_2 => ?_)
  · have t_c_2 := z_eqF c_2
    have f_3 : zR (-6) (-1) (r_1) := zR_nex t_c_2 hr_1 zk_z (by decide)
    refine lv_iload_n hx hb dX10_forged_20 rfl (lv_at hl 0 rfl) ?_
    exact z_iret (v := r_1) hx hb hr hlocks hP hD hS dX10_forged_21 hu_1
  · have t_c_2 := z_eqT c_2
    have f_4 : zR 0 0 (r_1) := zR_eqx t_c_2 zk_z
    refine lv_aload_n hx hb dX10_forged_10 rfl (lv_at hl 1 rfl) ?_
    refine z_get hx hb ht hown hK hP ziX10 rfl 0 (by decide) 9 (by decide) hw_2_102 rfl (v := .ref (q 46)) rfl dX10_forged_11 ?_
    refine z_get hx hb ht hown hK hP ziX1 rfl 46 (by decide) 1 (by decide) hw_2_37 rfl (v := .int (I_1 46 1)) rfl dX10_forged_14 ?_
    refine lv_goto (tgt := 21) hx hb dX10_forged_17 (by decide) ?_
    exact z_iret (v := I_1 46 1) hx hb hr hlocks hP hD hS dX10_forged_21 hu_1
set_option maxHeartbeats 4000000 in
set_option maxRecDepth 100000 in
theorem xk_X10_argued (l : Launch) (D : va_G) (q : Nat → Nat) (cA : Nat → ClassId) (F : Nat → Nat → Int32) (I R : Nat → Nat → Int32) (J : Nat → Nat → Int64) (hI : xInv F (I, R, J)) (pa0 : Int32) : zMi l D vwCl (zXtys cA) 81 q (zXd q cA) yX10_argued cX10_argued 3 (some .int) ({ frames := 4, cells := 0, slots := 0, locals := 95 } : Room) [.ref (q 0), .int (pa0)] (I, R, J) (fun _ u => xInv F u) := by
  intro sz
  refine z_body (by decide +kernel) (Nat.le_of_ble_eq_true rfl) (fun p e s m below meth c ls hx hb hml hr ht hown hlocks hsz hK hP hD hS hl => ?_)
  have hA : ∀ a, s.heap.size ≤ a → zA 81 q sz a := fun a h => Or.inr (hsz ▸ h)
  have hl : lv_has ls 3 [(0, .ref (q 0)), (1, .int (pa0))] := hl
  refine lv_aload_n hx hb dX10_argued_0 rfl (lv_at hl 0 rfl) ?_
  refine lv_iload_n hx hb dX10_argued_1 rfl (lv_at hl 1 rfl) ?_
  refine z_callVi (k := 0) (As := [.int (pa0)]) (rest := []) hx hb hml hown ht (xk_X10_look l D q cA F _ _ _ hI (pa0)) hw_5_56 hmX10_look ⟨rfl, rfl⟩ (na := 1) rfl (by decide +kernel) (by decide) (by decide) rfl rfl hK hP hD hS hA hl.1 rfl (Nat.le_of_ble_eq_true rfl) ⟨Nat.zero_le _, Nat.zero_le _⟩ dX10_argued_2 (fun r_1 I_1 R_1 J_1 H locs hp_1 hP hD hS _ _ => ?_)
  obtain ⟨hr_1, hu_1⟩ := hp_1
  refine lv_istore_n (lv' := [(2, .int (r_1)), (0, .ref (q 0)), (1, .int (pa0))]) hx hb dX10_argued_5 rfl hl (by decide) rfl (fun ls hl => ?_)
  refine lv_iload_n hx hb dX10_argued_6 rfl (lv_at hl 0 rfl) ?_
  refine lv_if_ne (tgt := 20) hx hb dX10_argued_7 (by decide) (fun c_2 => ?_) (fun c_2 => ?_)
  · have t_c_2 := z_eqF c_2
    have f_3 : zR (-6) (-1) (r_1) := zR_nex t_c_2 hr_1 zk_z (by decide)
    refine lv_iload_n hx hb dX10_argued_20 rfl (lv_at hl 0 rfl) ?_
    exact z_iret (v := r_1) hx hb hr hlocks hP hD hS dX10_argued_21 hu_1
  · have t_c_2 := z_eqT c_2
    have f_4 : zR 0 0 (r_1) := zR_eqx t_c_2 zk_z
    refine lv_aload_n hx hb dX10_argued_10 rfl (lv_at hl 1 rfl) ?_
    refine z_get hx hb ht hown hK hP ziX10 rfl 0 (by decide) 9 (by decide) hw_2_102 rfl (v := .ref (q 46)) rfl dX10_argued_11 ?_
    refine z_get hx hb ht hown hK hP ziX1 rfl 46 (by decide) 2 (by decide) hw_2_39 rfl (v := .int (I_1 46 2)) rfl dX10_argued_14 ?_
    refine lv_goto (tgt := 21) hx hb dX10_argued_17 (by decide) ?_
    exact z_iret (v := I_1 46 2) hx hb hr hlocks hP hD hS dX10_argued_21 hu_1
set_option maxHeartbeats 4000000 in
set_option maxRecDepth 100000 in
theorem xk_X10_isDrawable (l : Launch) (D : va_G) (q : Nat → Nat) (cA : Nat → ClassId) (F : Nat → Nat → Int32) (I R : Nat → Nat → Int32) (J : Nat → Nat → Int64) (hI : xInv F (I, R, J)) (pa0 : Int32) (pa1 : Int32) : zMi l D vwCl (zXtys cA) 81 q (zXd q cA) yX10_isDrawable cX10_isDrawable 2 (some .boolean) ({ frames := 0, cells := 0, slots := 0, locals := 0 } : Room) [.int (pa0), .int (pa1)] (I, R, J) (fun r u => (r = nI 1 ∧ u = (I, R, J) ∧ zR 0 2000000000 pa0 ∧ zR 0 40 pa1) ∨ (r = nI 0 ∧ u = (I, R, J))) := by
  intro sz
  refine z_body (by decide +kernel) (Nat.le_of_ble_eq_true rfl) (fun p e s m below meth c ls hx hb hml hr ht hown hlocks hsz hK hP hD hS hl => ?_)
  have hA : ∀ a, s.heap.size ≤ a → zA 81 q sz a := fun a h => Or.inr (hsz ▸ h)
  have hl : lv_has ls 2 [(0, .int (pa0)), (1, .int (pa1))] := hl
  refine lv_iload_n hx hb dX10_isDrawable_0 rfl (lv_at hl 0 rfl) ?_
  refine lv_if_lt (tgt := 25) hx hb dX10_isDrawable_1 (by decide) (fun c_1 => ?_) (fun c_1 => ?_)
  · have t_c_1 := z_ltT c_1
    have f_2 : zR (-2147483648) (-1) (pa0) := zR_ltx t_c_1 (zR_any (pa0)) zk_z (by decide)
    refine lv_iconst (v := nI 0) hx hb dX10_isDrawable_25 (by decide +kernel) ?_
    exact z_zret (v := nI 0) hx hb hr hlocks hP hD hS (by decide +kernel) dX10_isDrawable_26 (Or.inr ⟨rfl, rfl⟩)
  · have t_c_1 := z_ltF c_1
    have f_3 : zR 0 2147483647 (pa0) := zR_ley t_c_1 zk_z (zR_any (pa0)) (by decide)
    refine lv_iload_n hx hb dX10_isDrawable_4 rfl (lv_at hl 0 rfl) ?_
    refine lv_ldcw (v := nI 2000000000) hx hb hown (ht _ hw_5_98) dX10_isDrawable_5 ?_
    refine lv_icmp_gt (tgt := 25) hx hb dX10_isDrawable_8 (by decide) (fun c_4 => ?_) (fun c_4 => ?_)
    · have t_c_4 := z_ltT c_4
      have f_5 : zR 2000000001 2147483647 (pa0) := zR_lty t_c_4 zk_2000000000 f_3 (by decide)
      refine lv_iconst (v := nI 0) hx hb dX10_isDrawable_25 (by decide +kernel) ?_
      exact z_zret (v := nI 0) hx hb hr hlocks hP hD hS (by decide +kernel) dX10_isDrawable_26 (Or.inr ⟨rfl, rfl⟩)
    · have t_c_4 := z_ltF c_4
      have f_6 : zR 0 2000000000 (pa0) := zR_lex t_c_4 f_3 zk_2000000000 (by decide)
      refine lv_iload_n hx hb dX10_isDrawable_11 rfl (lv_at hl 1 rfl) ?_
      refine lv_if_lt (tgt := 25) hx hb dX10_isDrawable_12 (by decide) (fun c_7 => ?_) (fun c_7 => ?_)
      · have t_c_7 := z_ltT c_7
        have f_8 : zR (-2147483648) (-1) (pa1) := zR_ltx t_c_7 (zR_any (pa1)) zk_z (by decide)
        refine lv_iconst (v := nI 0) hx hb dX10_isDrawable_25 (by decide +kernel) ?_
        exact z_zret (v := nI 0) hx hb hr hlocks hP hD hS (by decide +kernel) dX10_isDrawable_26 (Or.inr ⟨rfl, rfl⟩)
      · have t_c_7 := z_ltF c_7
        have f_9 : zR 0 2147483647 (pa1) := zR_ley t_c_7 zk_z (zR_any (pa1)) (by decide)
        refine lv_iload_n hx hb dX10_isDrawable_15 rfl (lv_at hl 1 rfl) ?_
        refine lv_bipush (v := nI 40) hx hb dX10_isDrawable_16 (by decide +kernel) ?_
        refine lv_icmp_gt (tgt := 25) hx hb dX10_isDrawable_18 (by decide) (fun c_10 => ?_) (fun c_10 => ?_)
        · have t_c_10 := z_ltT c_10
          have f_11 : zR 41 2147483647 (pa1) := zR_lty t_c_10 zk_40 f_9 (by decide)
          refine lv_iconst (v := nI 0) hx hb dX10_isDrawable_25 (by decide +kernel) ?_
          exact z_zret (v := nI 0) hx hb hr hlocks hP hD hS (by decide +kernel) dX10_isDrawable_26 (Or.inr ⟨rfl, rfl⟩)
        · have t_c_10 := z_ltF c_10
          have f_12 : zR 0 40 (pa1) := zR_lex t_c_10 f_9 zk_40 (by decide)
          refine lv_iconst (v := nI 1) hx hb dX10_isDrawable_21 (by decide +kernel) ?_
          refine lv_goto (tgt := 26) hx hb dX10_isDrawable_22 (by decide) ?_
          exact z_zret (v := nI 1) hx hb hr hlocks hP hD hS (by decide +kernel) dX10_isDrawable_26 (Or.inl ⟨rfl, rfl, f_6, f_12⟩)
set_option maxHeartbeats 4000000 in
set_option maxRecDepth 100000 in
theorem xk_X4_begin (l : Launch) (D : va_G) (q : Nat → Nat) (cA : Nat → ClassId) (F : Nat → Nat → Int32) (I R : Nat → Nat → Int32) (J : Nat → Nat → Int64) (hI : xInv F (I, R, J)) (pa0 : Int32) : zMv l D vwCl (zXtys cA) 81 q (zXd q cA) yX4_begin cX4_begin 2 none ({ frames := 0, cells := 0, slots := 0, locals := 0 } : Room) [.ref (q 45), .int (pa0)] (I, R, J) (fun u => xInv F u) := by
  intro sz
  refine z_body (by decide +kernel) (Nat.le_of_ble_eq_true rfl) (fun p e s m below meth c ls hx hb hml hr ht hown hlocks hsz hK hP hD hS hl => ?_)
  have hA : ∀ a, s.heap.size ≤ a → zA 81 q sz a := fun a h => Or.inr (hsz ▸ h)
  have hl : lv_has ls 2 [(0, .ref (q 45)), (1, .int (pa0))] := hl
  refine lv_aload_n hx hb dX4_begin_0 rfl (lv_at hl 0 rfl) ?_
  refine lv_iload_n hx hb dX4_begin_1 rfl (lv_at hl 1 rfl) ?_
  refine lv_i2l (v := (pa0).toInt64) hx hb dX4_begin_2 rfl ?_
  refine z_putJ hx hb ht hown hK hP hD hS ziX4 tyX4 tyX4_ok nmX4 rfl 45 (by decide) 0 (by decide) hw_2_24 rfl (v := (pa0).toInt64) rfl rfl rfl (Nat.le_of_ble_eq_true rfl) rfl dX4_begin_3 (fun H locs hP hD hS => ?_)
  have hI_1 := xInv_J (J2 := (zp J 45 0 ((pa0).toInt64))) hI
  exact z_vret hx hb hr hlocks hP hD hS dX4_begin_6 hI_1
set_option maxHeartbeats 4000000 in
set_option maxRecDepth 100000 in
theorem xk_X4_draw (l : Launch) (D : va_G) (q : Nat → Nat) (cA : Nat → ClassId) (F : Nat → Nat → Int32) (I R : Nat → Nat → Int32) (J : Nat → Nat → Int64) (hI : xInv F (I, R, J)) (pa0 : Int32) (hpa0 : zR 0 999 pa0) : zMi l D vwCl (zXtys cA) 81 q (zXd q cA) yX4_draw cX4_draw 2 (some .int) ({ frames := 0, cells := 0, slots := 0, locals := 0 } : Room) [.ref (q 45), .int (pa0)] (I, R, J) (fun r u => zR 0 998 r ∧ xInv F u) := by
  intro sz
  refine z_body (by decide +kernel) (Nat.le_of_ble_eq_true rfl) (fun p e s m below meth c ls hx hb hml hr ht hown hlocks hsz hK hP hD hS hl => ?_)
  have hA : ∀ a, s.heap.size ≤ a → zA 81 q sz a := fun a h => Or.inr (hsz ▸ h)
  have hl : lv_has ls 2 [(0, .ref (q 45)), (1, .int (pa0))] := hl
  refine lv_iload_n hx hb dX4_draw_0 rfl (lv_at hl 1 rfl) ?_
  refine lv_iconst (v := nI 1) hx hb dX4_draw_1 (by decide +kernel) ?_
  refine lv_icmp_ge (tgt := 7) hx hb dX4_draw_2 (by decide) (fun c_1 => ?_) (fun c_1 => ?_)
  · have t_c_1 := z_leT c_1
    have f_2 : zR 1 999 (pa0) := zR_ley t_c_1 zk_1 hpa0 (by decide)
    refine lv_aload_n hx hb dX4_draw_7 rfl (lv_at hl 0 rfl) ?_
    refine lv_ldc2 (v := (1103515245 : Int64)) hx hb hown (ht _ hw_5_115) dX4_draw_8 ?_
    refine lv_aload_n hx hb dX4_draw_11 rfl (lv_at hl 0 rfl) ?_
    refine z_get hx hb ht hown hK hP ziX4 rfl 45 (by decide) 0 (by decide) hw_2_24 rfl (v := .long (J 45 0)) rfl dX4_draw_12 ?_
    refine lv_lmul hx hb dX4_draw_15 ?_
    refine z_anyL (fun j_3 => ?_)
    refine lv_ldc2 (v := (12345 : Int64)) hx hb hown (ht _ hw_5_116) dX4_draw_16 ?_
    refine lv_ladd hx hb dX4_draw_19 ?_
    refine z_anyL (fun j_4 => ?_)
    refine lv_ldc2 (v := (2147483647 : Int64)) hx hb hown (ht _ hw_5_117) dX4_draw_20 ?_
    refine lv_land hx hb dX4_draw_23 ?_
    refine z_rngL (a := 0) (b := 2147483647) (zL_andr zkl_2147483647 (by decide)) (fun j_5 hj_5 => ?_)
    refine z_putJ hx hb ht hown hK hP hD hS ziX4 tyX4 tyX4_ok nmX4 rfl 45 (by decide) 0 (by decide) hw_2_24 rfl (v := j_5) rfl rfl rfl (Nat.le_of_ble_eq_true rfl) rfl dX4_draw_24 (fun H locs hP hD hS => ?_)
    have hI_6 := xInv_J (J2 := (zp J 45 0 (j_5))) hI
    refine lv_aload_n hx hb dX4_draw_27 rfl (lv_at hl 0 rfl) ?_
    refine z_get hx hb ht hown hK hP ziX4 rfl 45 (by decide) 0 (by decide) hw_2_24 rfl (v := .long (j_5)) rfl dX4_draw_28 ?_
    refine lv_ldc2 (v := (65536 : Int64)) hx hb hown (ht _ hw_5_118) dX4_draw_31 ?_
    refine lv_ldiv hx hb dX4_draw_34 (by decide +kernel) ?_
    refine z_rngL (a := 0) (b := 32767) (zL_divc hj_5 zkl_65536 (by decide)) (fun j_7 hj_7 => ?_)
    refine lv_iload_n hx hb dX4_draw_35 rfl (lv_at hl 1 rfl) ?_
    refine lv_i2l (v := (pa0).toInt64) hx hb dX4_draw_36 rfl ?_
    refine lv_lrem hx hb dX4_draw_37 (zL_ne0 (zR_i2l f_2) (by decide)) ?_
    refine z_rngL (a := 0) (b := 998) (zL_rem hj_7 (zR_i2l f_2) (by decide)) (fun j_8 hj_8 => ?_)
    refine lv_l2i hx hb dX4_draw_38 rfl ?_
    refine z_rng (a := 0) (b := 998) (zL_l2i hj_8 (by decide)) (fun v_9 hv_9 => ?_)
    exact z_iret (v := v_9) hx hb hr hlocks hP hD hS dX4_draw_39 ⟨hv_9, hI_6⟩
  · have t_c_1 := z_leF c_1
    have f_10 : zR 0 0 (pa0) := zR_ltx t_c_1 hpa0 zk_1 (by decide)
    refine lv_iconst (v := nI 0) hx hb dX4_draw_5 (by decide +kernel) ?_
    exact z_iret (v := nI 0) hx hb hr hlocks hP hD hS dX4_draw_6 ⟨(zR_w zk_0 (by decide)), hI⟩
set_option maxHeartbeats 4000000 in
set_option maxRecDepth 100000 in
theorem xk_X4_draw_1 (l : Launch) (D : va_G) (q : Nat → Nat) (cA : Nat → ClassId) (F : Nat → Nat → Int32) (I R : Nat → Nat → Int32) (J : Nat → Nat → Int64) (hI : xInv F (I, R, J)) (pa0 : Int32) (hpa0 : zR 1 6 pa0) : zMi l D vwCl (zXtys cA) 81 q (zXd q cA) yX4_draw cX4_draw 2 (some .int) ({ frames := 0, cells := 0, slots := 0, locals := 0 } : Room) [.ref (q 45), .int (pa0)] (I, R, J) (fun r u => zR 0 5 r ∧ xInv F u) := by
  intro sz
  refine z_body (by decide +kernel) (Nat.le_of_ble_eq_true rfl) (fun p e s m below meth c ls hx hb hml hr ht hown hlocks hsz hK hP hD hS hl => ?_)
  have hA : ∀ a, s.heap.size ≤ a → zA 81 q sz a := fun a h => Or.inr (hsz ▸ h)
  have hl : lv_has ls 2 [(0, .ref (q 45)), (1, .int (pa0))] := hl
  refine lv_iload_n hx hb dX4_draw_0 rfl (lv_at hl 1 rfl) ?_
  refine lv_iconst (v := nI 1) hx hb dX4_draw_1 (by decide +kernel) ?_
  refine lv_icmp_ge (tgt := 7) hx hb dX4_draw_2 (by decide) (fun _ => ?_) (fun c_0 => absurd (zD_le zk_1 hpa0 (by decide)) c_0)
  refine lv_aload_n hx hb dX4_draw_7 rfl (lv_at hl 0 rfl) ?_
  refine lv_ldc2 (v := (1103515245 : Int64)) hx hb hown (ht _ hw_5_115) dX4_draw_8 ?_
  refine lv_aload_n hx hb dX4_draw_11 rfl (lv_at hl 0 rfl) ?_
  refine z_get hx hb ht hown hK hP ziX4 rfl 45 (by decide) 0 (by decide) hw_2_24 rfl (v := .long (J 45 0)) rfl dX4_draw_12 ?_
  refine lv_lmul hx hb dX4_draw_15 ?_
  refine z_anyL (fun j_1 => ?_)
  refine lv_ldc2 (v := (12345 : Int64)) hx hb hown (ht _ hw_5_116) dX4_draw_16 ?_
  refine lv_ladd hx hb dX4_draw_19 ?_
  refine z_anyL (fun j_2 => ?_)
  refine lv_ldc2 (v := (2147483647 : Int64)) hx hb hown (ht _ hw_5_117) dX4_draw_20 ?_
  refine lv_land hx hb dX4_draw_23 ?_
  refine z_rngL (a := 0) (b := 2147483647) (zL_andr zkl_2147483647 (by decide)) (fun j_3 hj_3 => ?_)
  refine z_putJ hx hb ht hown hK hP hD hS ziX4 tyX4 tyX4_ok nmX4 rfl 45 (by decide) 0 (by decide) hw_2_24 rfl (v := j_3) rfl rfl rfl (Nat.le_of_ble_eq_true rfl) rfl dX4_draw_24 (fun H locs hP hD hS => ?_)
  have hI_4 := xInv_J (J2 := (zp J 45 0 (j_3))) hI
  refine lv_aload_n hx hb dX4_draw_27 rfl (lv_at hl 0 rfl) ?_
  refine z_get hx hb ht hown hK hP ziX4 rfl 45 (by decide) 0 (by decide) hw_2_24 rfl (v := .long (j_3)) rfl dX4_draw_28 ?_
  refine lv_ldc2 (v := (65536 : Int64)) hx hb hown (ht _ hw_5_118) dX4_draw_31 ?_
  refine lv_ldiv hx hb dX4_draw_34 (by decide +kernel) ?_
  refine z_rngL (a := 0) (b := 32767) (zL_divc hj_3 zkl_65536 (by decide)) (fun j_5 hj_5 => ?_)
  refine lv_iload_n hx hb dX4_draw_35 rfl (lv_at hl 1 rfl) ?_
  refine lv_i2l (v := (pa0).toInt64) hx hb dX4_draw_36 rfl ?_
  refine lv_lrem hx hb dX4_draw_37 (zL_ne0 (zR_i2l hpa0) (by decide)) ?_
  refine z_rngL (a := 0) (b := 5) (zL_rem hj_5 (zR_i2l hpa0) (by decide)) (fun j_6 hj_6 => ?_)
  refine lv_l2i hx hb dX4_draw_38 rfl ?_
  refine z_rng (a := 0) (b := 5) (zL_l2i hj_6 (by decide)) (fun v_7 hv_7 => ?_)
  exact z_iret (v := v_7) hx hb hr hlocks hP hD hS dX4_draw_39 ⟨hv_7, hI_4⟩
set_option maxHeartbeats 4000000 in
set_option maxRecDepth 100000 in
theorem xk_X9_isLocked_1 (l : Launch) (D : va_G) (q : Nat → Nat) (cA : Nat → ClassId) (F : Nat → Nat → Int32) (I R : Nat → Nat → Int32) (J : Nat → Nat → Int64) (hI : xInv F (I, R, J)) (pa0 : Int32) (hpa0 : zR 0 4 pa0) : zMi l D vwCl (zXtys cA) 81 q (zXd q cA) yX9_isLocked cX9_isLocked 2 (some .boolean) ({ frames := 0, cells := 0, slots := 0, locals := 0 } : Room) [.ref (q 27), .int (pa0)] (I, R, J) (fun r u => (r = nI 1 ∧ u = (I, R, J)) ∨ (r = nI 0 ∧ u = (I, R, J))) := by
  intro sz
  refine z_body (by decide +kernel) (Nat.le_of_ble_eq_true rfl) (fun p e s m below meth c ls hx hb hml hr ht hown hlocks hsz hK hP hD hS hl => ?_)
  have hA : ∀ a, s.heap.size ≤ a → zA 81 q sz a := fun a h => Or.inr (hsz ▸ h)
  have hl : lv_has ls 2 [(0, .ref (q 27)), (1, .int (pa0))] := hl
  refine lv_aload_n hx hb dX9_isLocked_0 rfl (lv_at hl 0 rfl) ?_
  refine z_get hx hb ht hown hK hP ziX9 rfl 27 (by decide) 3 (by decide) hw_1_163 rfl (v := .int (I 27 3)) rfl dX9_isLocked_1 ?_
  refine lv_iload_n hx hb dX9_isLocked_4 rfl (lv_at hl 1 rfl) ?_
  refine lv_ishr hx hb dX9_isLocked_5 ?_
  refine z_any (fun v_1 => ?_)
  refine lv_iconst (v := nI 1) hx hb dX9_isLocked_6 (by decide +kernel) ?_
  refine lv_iand hx hb dX9_isLocked_7 ?_
  refine z_rng (a := 0) (b := 1) (zR_andr zk_1 (by decide)) (fun v_2 hv_2 => ?_)
  refine lv_if_eq (tgt := 15) hx hb dX9_isLocked_8 (by decide) (fun c_3 => ?_) (fun c_3 => ?_)
  · have t_c_3 := z_eqT c_3
    have f_4 : zR 0 0 (v_2) := zR_eqx t_c_3 zk_z
    refine lv_iconst (v := nI 0) hx hb dX9_isLocked_15 (by decide +kernel) ?_
    exact z_zret (v := nI 0) hx hb hr hlocks hP hD hS (by decide +kernel) dX9_isLocked_16 (Or.inr ⟨rfl, rfl⟩)
  · have t_c_3 := z_eqF c_3
    have f_5 : zR 1 1 (v_2) := zR_nex t_c_3 hv_2 zk_z (by decide)
    refine lv_iconst (v := nI 1) hx hb dX9_isLocked_11 (by decide +kernel) ?_
    refine lv_goto (tgt := 16) hx hb dX9_isLocked_12 (by decide) ?_
    exact z_zret (v := nI 1) hx hb hr hlocks hP hD hS (by decide +kernel) dX9_isLocked_16 (Or.inl ⟨rfl, rfl⟩)
set_option maxHeartbeats 4000000 in
set_option maxRecDepth 100000 in
theorem xk_X9_maySteal_2 (l : Launch) (D : va_G) (q : Nat → Nat) (cA : Nat → ClassId) (F : Nat → Nat → Int32) (I R : Nat → Nat → Int32) (J : Nat → Nat → Int64) (hI : xInv F (I, R, J)) (pa0 : Int32) (hpa0 : zR 0 4 pa0) (pa1 : Int32) (hpa1 : zR 0 5 pa1) : zMi l D vwCl (zXtys cA) 81 q (zXd q cA) yX9_maySteal cX9_maySteal 4 (some .boolean) ({ frames := 1, cells := 0, slots := 0, locals := 21 } : Room) [.ref (q 27), .int (pa0), .int (pa1)] (I, R, J) (fun r u => (r = nI 1 ∧ u = (I, R, J)) ∨ (r = nI 0 ∧ u = (I, R, J))) := by
  intro sz
  refine z_body (by decide +kernel) (Nat.le_of_ble_eq_true rfl) (fun p e s m below meth c ls hx hb hml hr ht hown hlocks hsz hK hP hD hS hl => ?_)
  have hA : ∀ a, s.heap.size ≤ a → zA 81 q sz a := fun a h => Or.inr (hsz ▸ h)
  have hl : lv_has ls 4 [(0, .ref (q 27)), (1, .int (pa0)), (2, .int (pa1))] := hl
  refine lv_aload_n hx hb dX9_maySteal_0 rfl (lv_at hl 0 rfl) ?_
  refine z_get hx hb ht hown hK hP ziX9 rfl 27 (by decide) 5 (by decide) hw_1_166 rfl (v := .ref (q 29)) rfl dX9_maySteal_1 ?_
  refine lv_iload_n hx hb dX9_maySteal_4 rfl (lv_at hl 2 rfl) ?_
  refine z_iald hx hb hK hP 29 (by decide) 22 rfl rfl (zR_vin hpa1 (by decide)) dX9_maySteal_5 ?_
  refine z_eqi (y := R 29 (pa1).toNatClampNeg) rfl ?_
  have f_1 : zR 0 4 (R 29 (pa1).toNatClampNeg) := xR hI 29 (pa1).toNatClampNeg
  refine lv_istore_n (lv' := [(3, .int (R 29 (pa1).toNatClampNeg)), (0, .ref (q 27)), (1, .int (pa0)), (2, .int (pa1))]) hx hb dX9_maySteal_6 rfl hl (by decide) rfl (fun ls hl => ?_)
  refine lv_iload_n hx hb dX9_maySteal_7 rfl (lv_at hl 0 rfl) ?_
  refine lv_iload_n hx hb dX9_maySteal_8 rfl (lv_at hl 2 rfl) ?_
  refine lv_icmp_eq (tgt := 33) hx hb dX9_maySteal_9 (by decide) (fun c_2 => ?_) (fun c_2 => ?_)
  · have t_c_2 := z_eqT c_2
    refine lv_iconst (v := nI 0) hx hb dX9_maySteal_33 (by decide +kernel) ?_
    exact z_zret (v := nI 0) hx hb hr hlocks hP hD hS (by decide +kernel) dX9_maySteal_34 (Or.inr ⟨rfl, rfl⟩)
  · have t_c_2 := z_eqF c_2
    refine lv_aload_n hx hb dX9_maySteal_12 rfl (lv_at hl 1 rfl) ?_
    refine lv_iload_n hx hb dX9_maySteal_13 rfl (lv_at hl 0 rfl) ?_
    refine z_callVi (k := 27) (As := [.int (R 29 (pa1).toNatClampNeg)]) (rest := []) hx hb hml hown ht (xk_X9_isLocked_1 l D q cA F _ _ _ hI (R 29 (pa1).toNatClampNeg) f_1) hw_3_152 hmX9_isLocked ⟨rfl, rfl⟩ (na := 1) rfl (by decide +kernel) (by decide) (by decide) rfl rfl hK hP hD hS hA hl.1 rfl (Nat.le_of_ble_eq_true rfl) ⟨Nat.zero_le _, Nat.zero_le _⟩ dX9_maySteal_14 (fun r_3 I_3 R_3 J_3 H locs hp_3 hP hD hS _ _ => ?_)
    rcases hp_3 with ⟨rfl, hu_3⟩ | ⟨rfl, hu_3⟩
    · cases hu_3
      refine lv_if_ne (tgt := 33) hx hb dX9_maySteal_17 (by decide) (fun _ => ?_) (fun c_0 => absurd c_0 (zD_ne zk_1 zk_z (by decide)))
      refine lv_iconst (v := nI 0) hx hb dX9_maySteal_33 (by decide +kernel) ?_
      exact z_zret (v := nI 0) hx hb hr hlocks hP hD hS (by decide +kernel) dX9_maySteal_34 (Or.inr ⟨rfl, rfl⟩)
    · cases hu_3
      refine lv_if_ne (tgt := 33) hx hb dX9_maySteal_17 (by decide) (fun c_0 => absurd (zD_eq zk_0 zk_z) c_0) (fun _ => ?_)
      refine lv_aload_n hx hb dX9_maySteal_20 rfl (lv_at hl 1 rfl) ?_
      refine z_get hx hb ht hown hK hP ziX9 rfl 27 (by decide) 2 (by decide) hw_1_159 rfl (v := .int (I 27 2)) rfl dX9_maySteal_21 ?_
      have f_4 : zR 0 24 (I 27 2) := xI hI 27 2
      refine lv_bipush (v := nI 24) hx hb dX9_maySteal_24 (by decide +kernel) ?_
      refine lv_icmp_ge (tgt := 33) hx hb dX9_maySteal_26 (by decide) (fun c_5 => ?_) (fun c_5 => ?_)
      · have t_c_5 := z_leT c_5
        have f_6 : zR 24 24 (I 27 2) := zR_ley t_c_5 zk_24 f_4 (by decide)
        refine lv_iconst (v := nI 0) hx hb dX9_maySteal_33 (by decide +kernel) ?_
        exact z_zret (v := nI 0) hx hb hr hlocks hP hD hS (by decide +kernel) dX9_maySteal_34 (Or.inr ⟨rfl, rfl⟩)
      · have t_c_5 := z_leF c_5
        have f_7 : zR 0 23 (I 27 2) := zR_ltx t_c_5 f_4 zk_24 (by decide)
        refine lv_iconst (v := nI 1) hx hb dX9_maySteal_29 (by decide +kernel) ?_
        refine lv_goto (tgt := 34) hx hb dX9_maySteal_30 (by decide) ?_
        exact z_zret (v := nI 1) hx hb hr hlocks hP hD hS (by decide +kernel) dX9_maySteal_34 (Or.inl ⟨rfl, rfl⟩)
set_option maxHeartbeats 4000000 in
set_option maxRecDepth 100000 in
theorem xk_X9_take_3 (l : Launch) (D : va_G) (q : Nat → Nat) (cA : Nat → ClassId) (F : Nat → Nat → Int32) (I R : Nat → Nat → Int32) (J : Nat → Nat → Int64) (hI : xInv F (I, R, J)) (pa0 : Int32) (hpa0 : zR 0 4 pa0) (pa1 : Int32) (hpa1 : zR 0 5 pa1) (pa2 : Int32) : zMi l D vwCl (zXtys cA) 81 q (zXd q cA) yX9_take cX9_take 5 (some .int) ({ frames := 1, cells := 0, slots := 0, locals := 22 } : Room) [.ref (q 27), .int (pa0), .int (pa1), .int (pa2)] (I, R, J) (fun r u => zR (-5) 23 r ∧ xInv F u) := by
  intro sz
  refine z_body (by decide +kernel) (Nat.le_of_ble_eq_true rfl) (fun p e s m below meth c ls hx hb hml hr ht hown hlocks hsz hK hP hD hS hl => ?_)
  have hA : ∀ a, s.heap.size ≤ a → zA 81 q sz a := fun a h => Or.inr (hsz ▸ h)
  have hl : lv_has ls 5 [(0, .ref (q 27)), (1, .int (pa0)), (2, .int (pa1)), (3, .int (pa2))] := hl
  refine lv_aload_n hx hb dX9_take_0 rfl (lv_at hl 0 rfl) ?_
  refine z_get hx hb ht hown hK hP ziX9 rfl 27 (by decide) 2 (by decide) hw_1_159 rfl (v := .int (I 27 2)) rfl dX9_take_1 ?_
  have f_1 : zR 0 24 (I 27 2) := xI hI 27 2
  refine lv_bipush (v := nI 24) hx hb dX9_take_4 (by decide +kernel) ?_
  refine lv_icmp_lt (tgt := 12) hx hb dX9_take_6 (by decide) (fun c_2 => ?_) (fun c_2 => ?_)
  · have t_c_2 := z_ltT c_2
    have f_3 : zR 0 23 (I 27 2) := zR_ltx t_c_2 f_1 zk_24 (by decide)
    refine lv_aload_n hx hb dX9_take_12 rfl (lv_at hl 0 rfl) ?_
    refine z_get hx hb ht hown hK hP ziX9 rfl 27 (by decide) 2 (by decide) hw_1_159 rfl (v := .int (I 27 2)) rfl dX9_take_13 ?_
    refine lv_istore (lv' := [(4, .int (I 27 2)), (0, .ref (q 27)), (1, .int (pa0)), (2, .int (pa1)), (3, .int (pa2))]) hx hb dX9_take_16 hl (by decide) rfl (fun ls hl => ?_)
    refine lv_aload_n hx hb dX9_take_18 rfl (lv_at hl 1 rfl) ?_
    refine z_get hx hb ht hown hK hP ziX9 rfl 27 (by decide) 7 (by decide) hw_1_171 rfl (v := .ref (q 31)) rfl dX9_take_19 ?_
    refine lv_iload hx hb dX9_take_22 (lv_at hl 0 rfl) ?_
    refine lv_iload_n hx hb dX9_take_24 rfl (lv_at hl 2 rfl) ?_
    refine z_iast hx hb hK hP hD hS 31 (by decide) 24 (fun _ => rfl) rfl (zR_vin f_3 (by decide)) dX9_take_25 (fun H locs hP hD hS => ?_)
    have hI_4 := xInv_R hI 31 (I 27 2).toNatClampNeg (pa0) hpa0 rfl
    refine lv_aload_n hx hb dX9_take_26 rfl (lv_at hl 1 rfl) ?_
    refine z_get hx hb ht hown hK hP ziX9 rfl 27 (by decide) 8 (by decide) hw_1_175 rfl (v := .ref (q 32)) rfl dX9_take_27 ?_
    refine lv_iload hx hb dX9_take_30 (lv_at hl 0 rfl) ?_
    refine lv_iload_n hx hb dX9_take_32 rfl (lv_at hl 3 rfl) ?_
    refine z_iast hx hb hK hP hD hS 32 (by decide) 25 (fun _ => rfl) rfl (zR_vin f_3 (by decide)) dX9_take_33 (fun H locs hP hD hS => ?_)
    have hI_5 := xInv_R hI_4 32 (I 27 2).toNatClampNeg (pa1) hpa1 rfl
    refine lv_aload_n hx hb dX9_take_34 rfl (lv_at hl 1 rfl) ?_
    refine z_get hx hb ht hown hK hP ziX9 rfl 27 (by decide) 9 (by decide) hw_1_179 rfl (v := .ref (q 33)) rfl dX9_take_35 ?_
    refine lv_iload hx hb dX9_take_38 (lv_at hl 0 rfl) ?_
    refine lv_aload_n hx hb dX9_take_40 rfl (lv_at hl 1 rfl) ?_
    refine z_get hx hb ht hown hK hP ziX9 rfl 27 (by decide) 5 (by decide) hw_1_166 rfl (v := .ref (q 29)) rfl dX9_take_41 ?_
    refine lv_iload_n hx hb dX9_take_44 rfl (lv_at hl 3 rfl) ?_
    refine z_iald hx hb hK hP 29 (by decide) 22 rfl rfl (zR_vin hpa1 (by decide)) dX9_take_45 ?_
    refine z_eqi (y := R 29 (pa1).toNatClampNeg) rfl ?_
    have f_6 : zR 0 4 (R 29 (pa1).toNatClampNeg) := xR hI 29 (pa1).toNatClampNeg
    refine z_iast hx hb hK hP hD hS 33 (by decide) 26 (fun _ => rfl) rfl (zR_vin f_3 (by decide)) dX9_take_46 (fun H locs hP hD hS => ?_)
    have hI_7 := xInv_R hI_5 33 (I 27 2).toNatClampNeg (R 29 (pa1).toNatClampNeg) f_6 rfl
    refine lv_aload_n hx hb dX9_take_47 rfl (lv_at hl 1 rfl) ?_
    refine z_get hx hb ht hown hK hP ziX9 rfl 27 (by decide) 10 (by decide) hw_1_182 rfl (v := .ref (q 34)) rfl dX9_take_48 ?_
    refine lv_iload hx hb dX9_take_51 (lv_at hl 0 rfl) ?_
    refine lv_iload_n hx hb dX9_take_53 rfl (lv_at hl 4 rfl) ?_
    refine z_iast hx hb hK hP hD hS 34 (by decide) 27 (fun _ => rfl) rfl (zR_vin f_3 (by decide)) dX9_take_54 (fun H locs hP hD hS => ?_)
    have hI_8 := xInv_R hI_7 34 (I 27 2).toNatClampNeg (pa2) (zR_any _) rfl
    refine lv_aload_n hx hb dX9_take_55 rfl (lv_at hl 1 rfl) ?_
    refine z_get hx hb ht hown hK hP ziX9 rfl 27 (by decide) 11 (by decide) hw_1_185 rfl (v := .ref (q 35)) rfl dX9_take_56 ?_
    refine lv_iload hx hb dX9_take_59 (lv_at hl 0 rfl) ?_
    refine lv_iconst (v := nI 0) hx hb dX9_take_61 (by decide +kernel) ?_
    refine z_iast hx hb hK hP hD hS 35 (by decide) 28 (fun _ => rfl) rfl (zR_vin f_3 (by decide)) dX9_take_62 (fun H locs hP hD hS => ?_)
    have hI_9 := xInv_R hI_8 35 (I 27 2).toNatClampNeg (nI 0) (zR_any _) rfl
    refine lv_aload_n hx hb dX9_take_63 rfl (lv_at hl 1 rfl) ?_
    refine lv_dup hx hb dX9_take_64 rfl ?_
    refine z_get hx hb ht hown hK hP ziX9 rfl 27 (by decide) 2 (by decide) hw_1_159 rfl (v := .int (I 27 2)) rfl dX9_take_65 ?_
    refine lv_iconst (v := nI 1) hx hb dX9_take_68 (by decide +kernel) ?_
    refine lv_iadd hx hb dX9_take_69 ?_
    refine z_addc 1 24 f_3 zk_1 (by decide) (fun v_10 hv_10 mv_10 => ?_)
    refine z_putI hx hb ht hown hK hP hD hS ziX9 tyX9 tyX9_ok nmX9 rfl 27 (by decide) 2 (by decide) hw_1_159 rfl (v := v_10) rfl rfl rfl (Nat.le_of_ble_eq_true rfl) rfl dX9_take_70 (fun H locs hP hD hS => ?_)
    have hI_11 := xInv_I hI_9 27 2 (v_10) (zR_w hv_10 (by decide)) rfl
    refine lv_aload_n hx hb dX9_take_73 rfl (lv_at hl 1 rfl) ?_
    refine lv_iload_n hx hb dX9_take_74 rfl (lv_at hl 3 rfl) ?_
    refine lv_iload_n hx hb dX9_take_75 rfl (lv_at hl 2 rfl) ?_
    refine z_callVv (k := 27) (As := [.int (pa1), .int (pa0)]) (rest := []) hx hb hml hown ht (xk_X9_move_1 l D q cA F _ _ _ hI_11 (pa1) hpa1 (pa0) hpa0) hw_3_169 hmX9_move ⟨rfl, rfl⟩ (na := 2) rfl (by decide +kernel) (by decide) (by decide) rfl rfl hK hP hD hS hA hl.1 rfl (Nat.le_of_ble_eq_true rfl) ⟨Nat.zero_le _, Nat.zero_le _⟩ dX9_take_76 (fun I_12 R_12 J_12 H locs hp_12 hP hD hS _ _ => ?_)
    refine lv_iload hx hb dX9_take_79 (lv_at hl 0 rfl) ?_
    exact z_iret (v := I 27 2) hx hb hr hlocks hP hD hS dX9_take_81 ⟨(zR_w f_3 (by decide)), hp_12⟩
  · have t_c_2 := z_ltF c_2
    have f_13 : zR 24 24 (I 27 2) := zR_ley t_c_2 zk_24 f_1 (by decide)
    refine lv_bipush (v := (-5)) hx hb dX9_take_9 (by decide +kernel) ?_
    exact z_iret (v := (-5)) hx hb hr hlocks hP hD hS dX9_take_11 ⟨(zR_w zk_m5 (by decide)), hI⟩
set_option maxHeartbeats 4000000 in
set_option maxRecDepth 100000 in
theorem xk_X10_drawTheft_1 (l : Launch) (D : va_G) (q : Nat → Nat) (cA : Nat → ClassId) (F : Nat → Nat → Int32) (I R : Nat → Nat → Int32) (J : Nat → Nat → Int64) (hI : xInv F (I, R, J)) (pa0 : Int32) (hpa0 : zR 0 4 pa0) : zMv l D vwCl (zXtys cA) 81 q (zXd q cA) yX10_drawTheft cX10_drawTheft 4 none ({ frames := 2, cells := 0, slots := 0, locals := 46 } : Room) [.ref (q 0), .int (pa0)] (I, R, J) (fun u => xInv F u) := by
  intro sz
  refine z_body (by decide +kernel) (Nat.le_of_ble_eq_true rfl) (fun p e s m below meth c ls hx hb hml hr ht hown hlocks hsz hK hP hD hS hl => ?_)
  have hA : ∀ a, s.heap.size ≤ a → zA 81 q sz a := fun a h => Or.inr (hsz ▸ h)
  have hl : lv_has ls 4 [(0, .ref (q 0)), (1, .int (pa0))] := hl
  refine lv_aload_n hx hb dX10_drawTheft_0 rfl (lv_at hl 0 rfl) ?_
  refine z_get hx hb ht hown hK hP ziX10 rfl 0 (by decide) 8 (by decide) hw_2_101 rfl (v := .ref (q 45)) rfl dX10_drawTheft_1 ?_
  refine lv_bipush (v := nI 100) hx hb dX10_drawTheft_4 (by decide +kernel) ?_
  refine z_callVi (k := 45) (As := [.int (nI 100)]) (rest := []) hx hb hml hown ht (xk_X4_draw l D q cA F _ _ _ hI (nI 100) (zR_w zk_100 (by decide))) hw_5_111 hmX4_draw ⟨rfl, rfl⟩ (na := 1) rfl (by decide +kernel) (by decide) (by decide) rfl rfl hK hP hD hS hA hl.1 rfl (Nat.le_of_ble_eq_true rfl) ⟨Nat.zero_le _, Nat.zero_le _⟩ dX10_drawTheft_6 (fun r_1 I_1 R_1 J_1 H locs hp_1 hP hD hS _ _ => ?_)
  obtain ⟨hr_1, hu_1⟩ := hp_1
  refine lv_aload_n hx hb dX10_drawTheft_9 rfl (lv_at hl 0 rfl) ?_
  refine z_get hx hb ht hown hK hP ziX10 rfl 0 (by decide) 1 (by decide) hw_2_94 rfl (v := .ref (q 3)) rfl dX10_drawTheft_10 ?_
  refine z_get hx hb ht hown hK hP ziX2 rfl 3 (by decide) 3 (by decide) hw_1_80 rfl (v := .int (I_1 3 3)) rfl dX10_drawTheft_13 ?_
  have t_6 : ∀ x_5 : Int32, zR 0 1 x_5 → ∀ (H : Heap) (locs : List Loc), va_P D vwCl (zw 81 q (zXd q cA) I_1 R_1 J_1) H → va_D (zA 81 q sz) (zw 81 q (zXd q cA) I_1 R_1 J_1) → va_S (zA 81 q sz) s.heap H locs → ∀ ls : Array Slot, lv_has ls 4 [(0, .ref (q 0)), (1, .int (pa0))] → W p l e ({ frames := 2, cells := 0, slots := 0, locals := 46 } : Room) s m ([.ref (q 0), .int (pa0)] : List Value).toArray below meth c H locs 0 0 (MQ below (va_Qv (fun u => xInv F u) (zB D vwCl 81 q (zXd q cA) sz) (zA 81 q sz)) ([.ref (q 0), .int (pa0)] : List Value).toArray s 0 0 (zA 81 q sz)) (F0 m 24 ls [.int (x_5)]) := by
    intro x_5 hx_5 H locs hP hD hS ls hl
    refine lv_istore_n (lv' := [(2, .int (x_5)), (0, .ref (q 0)), (1, .int (pa0))]) hx hb dX10_drawTheft_24 rfl hl (by decide) rfl (fun ls hl => ?_)
    refine lv_iload_n hx hb dX10_drawTheft_25 rfl (lv_at hl 0 rfl) ?_
    refine lv_if_eq (tgt := 39) hx hb dX10_drawTheft_26 (by decide) (fun c_7 => ?_) (fun c_7 => ?_)
    · have t_c_7 := z_eqT c_7
      have f_8 : zR 0 0 (x_5) := zR_eqx t_c_7 zk_z
      exact z_vret hx hb hr hlocks hP hD hS dX10_drawTheft_39 hu_1
    · have t_c_7 := z_eqF c_7
      have f_9 : zR 1 1 (x_5) := zR_nex t_c_7 hx_5 zk_z (by decide)
      refine lv_aload_n hx hb dX10_drawTheft_29 rfl (lv_at hl 1 rfl) ?_
      refine z_get hx hb ht hown hK hP ziX10 rfl 0 (by decide) 1 (by decide) hw_2_94 rfl (v := .ref (q 3)) rfl dX10_drawTheft_30 ?_
      refine z_get hx hb ht hown hK hP ziX2 rfl 3 (by decide) 5 (by decide) hw_1_93 rfl (v := .int (I_1 3 5)) rfl dX10_drawTheft_33 ?_
      have f_10 : zR 0 6 (I_1 3 5) := xI hu_1 3 5
      refine lv_if_ne (tgt := 40) hx hb dX10_drawTheft_36 (by decide) (fun c_11 => ?_) (fun c_11 => ?_)
      · have t_c_11 := z_eqF c_11
        have f_12 : zR 1 6 (I_1 3 5) := zR_nex t_c_11 f_10 zk_z (by decide)
        refine lv_aload_n hx hb dX10_drawTheft_40 rfl (lv_at hl 1 rfl) ?_
        refine z_get hx hb ht hown hK hP ziX10 rfl 0 (by decide) 8 (by decide) hw_2_101 rfl (v := .ref (q 45)) rfl dX10_drawTheft_41 ?_
        refine lv_aload_n hx hb dX10_drawTheft_44 rfl (lv_at hl 1 rfl) ?_
        refine z_get hx hb ht hown hK hP ziX10 rfl 0 (by decide) 1 (by decide) hw_2_94 rfl (v := .ref (q 3)) rfl dX10_drawTheft_45 ?_
        refine z_get hx hb ht hown hK hP ziX2 rfl 3 (by decide) 5 (by decide) hw_1_93 rfl (v := .int (I_1 3 5)) rfl dX10_drawTheft_48 ?_
        refine z_callVi (k := 45) (As := [.int (I_1 3 5)]) (rest := []) hx hb hml hown ht (xk_X4_draw_1 l D q cA F _ _ _ hu_1 (I_1 3 5) f_12) hw_5_111 hmX4_draw ⟨rfl, rfl⟩ (na := 1) rfl (by decide +kernel) (by decide) (by decide) rfl rfl hK hP hD hS hA hl.1 rfl (Nat.le_of_ble_eq_true rfl) ⟨Nat.zero_le _, Nat.zero_le _⟩ dX10_drawTheft_51 (fun r_13 I_13 R_13 J_13 H locs hp_13 hP hD hS _ _ => ?_)
        obtain ⟨hr_13, hu_13⟩ := hp_13
        refine lv_istore_n (lv' := [(3, .int (r_13)), (2, .int (x_5)), (0, .ref (q 0)), (1, .int (pa0))]) hx hb dX10_drawTheft_54 rfl hl (by decide) rfl (fun ls hl => ?_)
        refine lv_aload_n hx hb dX10_drawTheft_55 rfl (lv_at hl 2 rfl) ?_
        refine z_get hx hb ht hown hK hP ziX10 rfl 0 (by decide) 5 (by decide) hw_2_98 rfl (v := .ref (q 27)) rfl dX10_drawTheft_56 ?_
        refine lv_iload_n hx hb dX10_drawTheft_59 rfl (lv_at hl 3 rfl) ?_
        refine lv_iload_n hx hb dX10_drawTheft_60 rfl (lv_at hl 0 rfl) ?_
        refine z_callVi (k := 27) (As := [.int (pa0), .int (r_13)]) (rest := []) hx hb hml hown ht (xk_X9_maySteal_2 l D q cA F _ _ _ hu_13 (pa0) hpa0 (r_13) hr_13) hw_3_148 hmX9_maySteal ⟨rfl, rfl⟩ (na := 2) rfl (by decide +kernel) (by decide) (by decide) rfl rfl hK hP hD hS hA hl.1 rfl (Nat.le_of_ble_eq_true rfl) ⟨Nat.zero_le _, Nat.zero_le _⟩ dX10_drawTheft_61 (fun r_14 I_14 R_14 J_14 H locs hp_14 hP hD hS _ _ => ?_)
        rcases hp_14 with ⟨rfl, hu_14⟩ | ⟨rfl, hu_14⟩
        · cases hu_14
          refine lv_if_eq (tgt := 87) hx hb dX10_drawTheft_64 (by decide) (fun c_0 => absurd c_0 (zD_ne zk_1 zk_z (by decide))) (fun _ => ?_)
          refine lv_aload_n hx hb dX10_drawTheft_67 rfl (lv_at hl 2 rfl) ?_
          refine z_get hx hb ht hown hK hP ziX10 rfl 0 (by decide) 5 (by decide) hw_2_98 rfl (v := .ref (q 27)) rfl dX10_drawTheft_68 ?_
          refine lv_iload_n hx hb dX10_drawTheft_71 rfl (lv_at hl 3 rfl) ?_
          refine lv_iload_n hx hb dX10_drawTheft_72 rfl (lv_at hl 0 rfl) ?_
          refine lv_aload_n hx hb dX10_drawTheft_73 rfl (lv_at hl 2 rfl) ?_
          refine z_get hx hb ht hown hK hP ziX10 rfl 0 (by decide) 5 (by decide) hw_2_98 rfl (v := .ref (q 27)) rfl dX10_drawTheft_74 ?_
          refine z_get hx hb ht hown hK hP ziX9 rfl 27 (by decide) 1 (by decide) hw_1_158 rfl (v := .int (I_13 27 1)) rfl dX10_drawTheft_77 ?_
          refine lv_bipush (v := nI 7) hx hb dX10_drawTheft_80 (by decide +kernel) ?_
          refine lv_iadd hx hb dX10_drawTheft_82 ?_
          refine z_any (fun v_15 => ?_)
          refine z_callVi (k := 27) (As := [.int (pa0), .int (r_13), .int (v_15)]) (rest := []) hx hb hml hown ht (xk_X9_take_3 l D q cA F _ _ _ hu_13 (pa0) hpa0 (r_13) hr_13 (v_15)) hw_5_119 hmX9_take ⟨rfl, rfl⟩ (na := 3) rfl (by decide +kernel) (by decide) (by decide) rfl rfl hK hP hD hS hA hl.1 rfl (Nat.le_of_ble_eq_true rfl) ⟨Nat.zero_le _, Nat.zero_le _⟩ dX10_drawTheft_83 (fun r_16 I_16 R_16 J_16 H locs hp_16 hP hD hS _ _ => ?_)
          obtain ⟨hr_16, hu_16⟩ := hp_16
          refine lv_pop hx hb dX10_drawTheft_86 rfl ?_
          exact z_vret hx hb hr hlocks hP hD hS dX10_drawTheft_87 hu_16
        · cases hu_14
          refine lv_if_eq (tgt := 87) hx hb dX10_drawTheft_64 (by decide) (fun _ => ?_) (fun c_0 => absurd (zD_eq zk_0 zk_z) c_0)
          exact z_vret hx hb hr hlocks hP hD hS dX10_drawTheft_87 hu_13
      · have t_c_11 := z_eqT c_11
        have f_17 : zR 0 0 (I_1 3 5) := zR_eqx t_c_11 zk_z
        exact z_vret hx hb hr hlocks hP hD hS dX10_drawTheft_39 hu_1
  refine lv_icmp_ge (tgt := 23) hx hb dX10_drawTheft_16 (by decide) (fun c_2 => ?_) (fun c_2 => ?_)
  · have t_c_2 := z_leT c_2
    have f_18 : zR (-2147483648) 998 (I_1 3 3) := zR_lex t_c_2 (zR_any (I_1 3 3)) hr_1 (by decide)
    refine lv_iconst (v := nI 0) hx hb dX10_drawTheft_23 (by decide +kernel) ?_
    exact t_6 (nI 0) (zR_w zk_0 (by decide)) _ _ hP hD hS _ (lv_sub hl [0, 1] rfl)
  · have t_c_2 := z_leF c_2
    have f_19 : zR 1 2147483647 (I_1 3 3) := zR_lty t_c_2 hr_1 (zR_any (I_1 3 3)) (by decide)
    refine lv_iconst (v := nI 1) hx hb dX10_drawTheft_19 (by decide +kernel) ?_
    refine lv_goto (tgt := 24) hx hb dX10_drawTheft_20 (by decide) ?_
    exact t_6 (nI 1) (zR_w zk_1 (by decide)) _ _ hP hD hS _ (lv_sub hl [0, 1] rfl)
set_option maxHeartbeats 4000000 in
set_option maxRecDepth 100000 in
theorem xk_X10_drawNights (l : Launch) (D : va_G) (q : Nat → Nat) (cA : Nat → ClassId) (F : Nat → Nat → Int32) (I R : Nat → Nat → Int32) (J : Nat → Nat → Int64) (hI : xInv F (I, R, J)) (pa0 : Int32) (pa1 : Int32) (hpa1 : zR 0 40 pa1) : zMi l D vwCl (zXtys cA) 81 q (zXd q cA) yX10_drawNights cX10_drawNights 6 (some .int) ({ frames := 4, cells := 0, slots := 0, locals := 109 } : Room) [.ref (q 0), .int (pa0), .int (pa1)] (I, R, J) (fun _ u => xInv F u) := by
  intro sz
  refine z_body (by decide +kernel) (Nat.le_of_ble_eq_true rfl) (fun p e s m below meth c ls hx hb hml hr ht hown hlocks hsz hK hP hD hS hl => ?_)
  have hA : ∀ a, s.heap.size ≤ a → zA 81 q sz a := fun a h => Or.inr (hsz ▸ h)
  have hl : lv_has ls 6 [(0, .ref (q 0)), (1, .int (pa0)), (2, .int (pa1))] := hl
  refine lv_aload_n hx hb dX10_drawNights_0 rfl (lv_at hl 0 rfl) ?_
  refine z_get hx hb ht hown hK hP ziX10 rfl 0 (by decide) 5 (by decide) hw_2_98 rfl (v := .ref (q 27)) rfl dX10_drawNights_1 ?_
  refine lv_aload_n hx hb dX10_drawNights_4 rfl (lv_at hl 0 rfl) ?_
  refine z_get hx hb ht hown hK hP ziX10 rfl 0 (by decide) 4 (by decide) hw_2_97 rfl (v := .ref (q 15)) rfl dX10_drawNights_5 ?_
  refine z_callVv (k := 27) (As := [.ref (q 15)]) (rest := []) hx hb hml hown ht (xk_X9_copyFrom l D q cA F _ _ _ hI ) hw_4_156 hmX9_copyFrom ⟨rfl, rfl⟩ (na := 1) rfl (by decide +kernel) (by decide) (by decide) rfl rfl hK hP hD hS hA hl.1 rfl (Nat.le_of_ble_eq_true rfl) ⟨Nat.zero_le _, Nat.zero_le _⟩ dX10_drawNights_8 (fun I_1 R_1 J_1 H locs hp_1 hP hD hS _ _ => ?_)
  refine lv_aload_n hx hb dX10_drawNights_11 rfl (lv_at hl 0 rfl) ?_
  refine z_get hx hb ht hown hK hP ziX10 rfl 0 (by decide) 8 (by decide) hw_2_101 rfl (v := .ref (q 45)) rfl dX10_drawNights_12 ?_
  refine lv_iload_n hx hb dX10_drawNights_15 rfl (lv_at hl 1 rfl) ?_
  refine z_callVv (k := 45) (As := [.int (pa0)]) (rest := []) hx hb hml hown ht (xk_X4_begin l D q cA F _ _ _ hp_1 (pa0)) hw_5_103 hmX4_begin ⟨rfl, rfl⟩ (na := 1) rfl (by decide +kernel) (by decide) (by decide) rfl rfl hK hP hD hS hA hl.1 rfl (Nat.le_of_ble_eq_true rfl) ⟨Nat.zero_le _, Nat.zero_le _⟩ dX10_drawNights_16 (fun I_2 R_2 J_2 H locs hp_2 hP hD hS _ _ => ?_)
  refine lv_iconst (v := nI 0) hx hb dX10_drawNights_19 (by decide +kernel) ?_
  refine lv_istore_n (lv' := [(3, .int (nI 0)), (0, .ref (q 0)), (1, .int (pa0)), (2, .int (pa1))]) hx hb dX10_drawNights_20 rfl hl (by decide) rfl (fun ls hl => ?_)
  refine lv_iconst (v := nI 0) hx hb dX10_drawNights_21 (by decide +kernel) ?_
  refine lv_istore (lv' := [(4, .int (nI 0)), (3, .int (nI 0)), (0, .ref (q 0)), (1, .int (pa0)), (2, .int (pa1))]) hx hb dX10_drawNights_22 hl (by decide) rfl (fun ls hl => ?_)
  have loop_453 : ∀ N : Nat, ∀ x_450 : Int32, ∀ x_451 : Int32, zR 0 40 x_451 → ∀ I_452 : Nat → Nat → Int32, ∀ R_452 : Nat → Nat → Int32, ∀ J_452 : Nat → Nat → Int64, xInv F (I_452, R_452, J_452) → (2147483648 - (x_451).toInt).toNat < N → ∀ (H : Heap) (locs : List Loc), va_P D vwCl (zw 81 q (zXd q cA) I_452 R_452 J_452) H → va_D (zA 81 q sz) (zw 81 q (zXd q cA) I_452 R_452 J_452) → va_S (zA 81 q sz) s.heap H locs → ∀ ls : Array Slot, lv_has ls 6 [(0, .ref (q 0)), (1, .int (pa0)), (2, .int (pa1)), (3, .int (x_450)), (4, .int (x_451))] → W p l e ({ frames := 4, cells := 0, slots := 0, locals := 109 } : Room) s m ([.ref (q 0), .int (pa0), .int (pa1)] : List Value).toArray below meth c H locs 0 0 (MQ below (va_Qi (fun _ u => xInv F u) (zB D vwCl 81 q (zXd q cA) sz) (zA 81 q sz)) ([.ref (q 0), .int (pa0), .int (pa1)] : List Value).toArray s 0 0 (zA 81 q sz)) (F0 m 24 ls []) := by
    intro N
    induction N with
    | zero => intro x_450 x_451 hx_451 I_452 R_452 J_452 hI_452 hN; exact absurd hN (Nat.not_lt_zero _)
    | succ N ih_455 =>
      intro x_450 x_451 hx_451 I_452 R_452 J_452 hI_452 hN_454 H locs hP hD hS ls hl
      refine lv_iload hx hb dX10_drawNights_24 (lv_at hl 4 rfl) ?_
      refine lv_iload_n hx hb dX10_drawNights_26 rfl (lv_at hl 2 rfl) ?_
      refine lv_icmp_ge (tgt := 76) hx hb dX10_drawNights_27 (by decide) (fun c_456 => ?_) (fun c_456 => ?_)
      · have t_c_456 := z_leT c_456
        refine lv_iload_n hx hb dX10_drawNights_76 rfl (lv_at hl 3 rfl) ?_
        exact z_iret (v := x_450) hx hb hr hlocks hP hD hS dX10_drawNights_77 hI_452
      · have t_c_456 := z_leF c_456
        have f_457 : zR 0 39 (x_451) := zR_ltx t_c_456 hx_451 hpa1 (by decide)
        have f_458 : zR 1 40 (pa1) := zR_lty t_c_456 hx_451 hpa1 (by decide)
        refine lv_iconst (v := nI 0) hx hb dX10_drawNights_30 (by decide +kernel) ?_
        refine lv_istore (lv' := [(5, .int (nI 0)), (0, .ref (q 0)), (1, .int (pa0)), (2, .int (pa1)), (3, .int (x_450)), (4, .int (x_451))]) hx hb dX10_drawNights_31 hl (by decide) rfl (fun ls hl => ?_)
        have loop_490 : ∀ N : Nat, ∀ x_488 : Int32, zR 0 5 x_488 → ∀ I_489 : Nat → Nat → Int32, ∀ R_489 : Nat → Nat → Int32, ∀ J_489 : Nat → Nat → Int64, xInv F (I_489, R_489, J_489) → (2147483648 - (x_488).toInt).toNat < N → ∀ (H : Heap) (locs : List Loc), va_P D vwCl (zw 81 q (zXd q cA) I_489 R_489 J_489) H → va_D (zA 81 q sz) (zw 81 q (zXd q cA) I_489 R_489 J_489) → va_S (zA 81 q sz) s.heap H locs → ∀ ls : Array Slot, lv_has ls 6 [(0, .ref (q 0)), (1, .int (pa0)), (2, .int (pa1)), (3, .int (x_450)), (4, .int (x_451)), (5, .int (x_488))] → W p l e ({ frames := 4, cells := 0, slots := 0, locals := 109 } : Room) s m ([.ref (q 0), .int (pa0), .int (pa1)] : List Value).toArray below meth c H locs 0 0 (MQ below (va_Qi (fun _ u => xInv F u) (zB D vwCl 81 q (zXd q cA) sz) (zA 81 q sz)) ([.ref (q 0), .int (pa0), .int (pa1)] : List Value).toArray s 0 0 (zA 81 q sz)) (F0 m 33 ls []) := by
          intro N
          induction N with
          | zero => intro x_488 hx_488 I_489 R_489 J_489 hI_489 hN; exact absurd hN (Nat.not_lt_zero _)
          | succ N ih_492 =>
            intro x_488 hx_488 I_489 R_489 J_489 hI_489 hN_491 H locs hP hD hS ls hl
            refine lv_iload hx hb dX10_drawNights_33 (lv_at hl 5 rfl) ?_
            refine lv_aload_n hx hb dX10_drawNights_35 rfl (lv_at hl 0 rfl) ?_
            refine z_get hx hb ht hown hK hP ziX10 rfl 0 (by decide) 1 (by decide) hw_2_94 rfl (v := .ref (q 3)) rfl dX10_drawNights_36 ?_
            refine z_get hx hb ht hown hK hP ziX2 rfl 3 (by decide) 4 (by decide) hw_1_85 rfl (v := .int (I_489 3 4)) rfl dX10_drawNights_39 ?_
            have f_493 : zR 0 5 (I_489 3 4) := xI hI_489 3 4
            refine lv_icmp_ge (tgt := 57) hx hb dX10_drawNights_42 (by decide) (fun c_494 => ?_) (fun c_494 => ?_)
            · have t_c_494 := z_leT c_494
              refine lv_iload_n hx hb dX10_drawNights_57 rfl (lv_at hl 3 rfl) ?_
              refine lv_aload_n hx hb dX10_drawNights_58 rfl (lv_at hl 0 rfl) ?_
              refine z_get hx hb ht hown hK hP ziX10 rfl 0 (by decide) 5 (by decide) hw_2_98 rfl (v := .ref (q 27)) rfl dX10_drawNights_59 ?_
              refine z_callVi (k := 27) (As := []) (rest := [.int (x_450)]) hx hb hml hown ht (xk_X9_passNight_1 l D q cA F _ _ _ hI_489 ) hw_4_176 hmX9_passNight ⟨rfl, rfl⟩ (na := 0) rfl (by decide +kernel) (by decide) (by decide) rfl rfl hK hP hD hS hA hl.1 rfl (Nat.le_of_ble_eq_true rfl) ⟨Nat.zero_le _, Nat.zero_le _⟩ dX10_drawNights_62 (fun r_499 I_499 R_499 J_499 H locs hp_499 hP hD hS _ _ => ?_)
              obtain ⟨hr_499, hu_499⟩ := hp_499
              refine z_callSi (As := [.int (r_499)]) (rest := [.int (x_450)]) hx hb hml hown ht (xk_J6_bitCount_0f7a4 l D q cA F _ _ _ hu_499 (r_499)) hw_4_103 hmJ6_bitCount_0f7a4 ⟨rfl, rfl⟩ (na := 1) rfl (by decide +kernel) (by decide) hK hP hD hS hA hl.1 rfl (Nat.le_of_ble_eq_true rfl) ⟨Nat.zero_le _, Nat.zero_le _⟩ dX10_drawNights_65 (fun r_500 I_500 R_500 J_500 H locs hp_500 hP hD hS _ _ => ?_)
              obtain ⟨hr_500, hu_500⟩ := hp_500
              cases hu_500
              refine lv_iadd hx hb dX10_drawNights_68 ?_
              refine z_any (fun v_501 => ?_)
              refine lv_istore_n (lv' := [(3, .int (v_501)), (0, .ref (q 0)), (1, .int (pa0)), (2, .int (pa1)), (4, .int (x_451)), (5, .int (x_488))]) hx hb dX10_drawNights_69 rfl hl (by decide) rfl (fun ls hl => ?_)
              obtain ⟨v_502, ev_502⟩ : ∃ y : Int32, y = x_451 + nI 1 := ⟨_, rfl⟩
              have hv_502 : zR 1 40 v_502 := ev_502 ▸ zR_add f_457 zk_1 (by decide)
              have mv_502 : v_502.toInt = (x_451).toInt + 1 := by rw [ev_502, zR_addE f_457 zk_1 (by decide)]; rfl
              refine lv_iinc (v := v_502) (lv' := [(4, .int (v_502)), (3, .int (v_501)), (0, .ref (q 0)), (1, .int (pa0)), (2, .int (pa1)), (5, .int (x_488))]) hx hb dX10_drawNights_70 hl (k := 4) rfl (ev_502 ▸ rfl) (by decide) rfl (fun ls hl => ?_)
              refine lv_goto (tgt := 24) hx hb dX10_drawNights_73 (by decide) ?_
              exact ih_455 (v_501) (v_502) (zR_w hv_502 (by decide)) _ _ _ hu_499 (z2_up mv_502 (by decide) hN_454) _ _ hP hD hS _ (lv_sub hl [2, 3, 4, 1, 0] rfl)
            · have t_c_494 := z_leF c_494
              have f_503 : zR 0 4 (x_488) := zR_ltx t_c_494 hx_488 f_493 (by decide)
              have f_504 : zR 1 5 (I_489 3 4) := zR_lty t_c_494 hx_488 f_493 (by decide)
              refine lv_aload_n hx hb dX10_drawNights_45 rfl (lv_at hl 0 rfl) ?_
              refine lv_iload hx hb dX10_drawNights_46 (lv_at hl 5 rfl) ?_
              refine z_callVv (k := 0) (As := [.int (x_488)]) (rest := []) hx hb hml hown ht (xk_X10_drawTheft_1 l D q cA F _ _ _ hI_489 (x_488) f_503) hw_5_107 hmX10_drawTheft ⟨rfl, rfl⟩ (na := 1) rfl (by decide +kernel) (by decide) (by decide) rfl rfl hK hP hD hS hA hl.1 rfl (Nat.le_of_ble_eq_true rfl) ⟨Nat.zero_le _, Nat.zero_le _⟩ dX10_drawNights_48 (fun I_505 R_505 J_505 H locs hp_505 hP hD hS _ _ => ?_)
              obtain ⟨v_506, ev_506⟩ : ∃ y : Int32, y = x_488 + nI 1 := ⟨_, rfl⟩
              have hv_506 : zR 1 5 v_506 := ev_506 ▸ zR_add f_503 zk_1 (by decide)
              have mv_506 : v_506.toInt = (x_488).toInt + 1 := by rw [ev_506, zR_addE f_503 zk_1 (by decide)]; rfl
              refine lv_iinc (v := v_506) (lv' := [(5, .int (v_506)), (0, .ref (q 0)), (1, .int (pa0)), (2, .int (pa1)), (3, .int (x_450)), (4, .int (x_451))]) hx hb dX10_drawNights_51 hl (k := 5) rfl (ev_506 ▸ rfl) (by decide) rfl (fun ls hl => ?_)
              refine lv_goto (tgt := 33) hx hb dX10_drawNights_54 (by decide) ?_
              exact ih_492 (v_506) (zR_w hv_506 (by decide)) _ _ _ hp_505 (z2_up mv_506 (by decide) hN_491) _ _ hP hD hS _ (lv_sub hl [1, 2, 3, 4, 5, 0] rfl)
        exact loop_490 _ (nI 0) (zR_w zk_0 (by decide)) _ _ _ hI_452 (Nat.lt_succ_self _) _ _ hP hD hS _ (lv_sub hl [1, 2, 3, 4, 5, 0] rfl)
  exact loop_453 _ (nI 0) (nI 0) (zR_w zk_0 (by decide)) _ _ _ hp_2 (Nat.lt_succ_self _) _ _ hP hD hS _ (lv_sub hl [2, 3, 4, 1, 0] rfl)
set_option maxHeartbeats 4000000 in
set_option maxRecDepth 100000 in
theorem xk_X10_drawn (l : Launch) (D : va_G) (q : Nat → Nat) (cA : Nat → ClassId) (F : Nat → Nat → Int32) (I R : Nat → Nat → Int32) (J : Nat → Nat → Int64) (hI : xInv F (I, R, J)) (pa0 : Int32) (pa1 : Int32) (pa2 : Int32) : zMi l D vwCl (zXtys cA) 81 q (zXd q cA) yX10_drawn cX10_drawn 5 (some .int) ({ frames := 5, cells := 0, slots := 0, locals := 134 } : Room) [.ref (q 0), .int (pa0), .int (pa1), .int (pa2)] (I, R, J) (fun _ u => xInv F u) := by
  intro sz
  refine z_body (by decide +kernel) (Nat.le_of_ble_eq_true rfl) (fun p e s m below meth c ls hx hb hml hr ht hown hlocks hsz hK hP hD hS hl => ?_)
  have hA : ∀ a, s.heap.size ≤ a → zA 81 q sz a := fun a h => Or.inr (hsz ▸ h)
  have hl : lv_has ls 5 [(0, .ref (q 0)), (1, .int (pa0)), (2, .int (pa1)), (3, .int (pa2))] := hl
  refine lv_aload_n hx hb dX10_drawn_0 rfl (lv_at hl 0 rfl) ?_
  refine z_callVi (k := 0) (As := []) (rest := []) hx hb hml hown ht (xk_X10_hasCity l D q cA F _ _ _ hI ) hw_4_0 hmX10_hasCity ⟨rfl, rfl⟩ (na := 0) rfl (by decide +kernel) (by decide) (by decide) rfl rfl hK hP hD hS hA hl.1 rfl (Nat.le_of_ble_eq_true rfl) ⟨Nat.zero_le _, Nat.zero_le _⟩ dX10_drawn_1 (fun r_1 I_1 R_1 J_1 H locs hp_1 hP hD hS _ _ => ?_)
  rcases hp_1 with ⟨rfl, hu_1⟩ | ⟨rfl, hu_1⟩
  · cases hu_1
    refine lv_if_eq (tgt := 24) hx hb dX10_drawn_4 (by decide) (fun c_0 => absurd c_0 (zD_ne zk_1 zk_z (by decide))) (fun _ => ?_)
    refine lv_iload_n hx hb dX10_drawn_7 rfl (lv_at hl 1 rfl) ?_
    refine lv_iload_n hx hb dX10_drawn_8 rfl (lv_at hl 2 rfl) ?_
    refine z_callSi (As := [.int (pa0), .int (pa1)]) (rest := []) hx hb hml hown ht (xk_X10_isDrawable l D q cA F _ _ _ hI (pa0) (pa1)) hw_5_95 hmX10_isDrawable ⟨rfl, rfl⟩ (na := 2) rfl (by decide +kernel) (by decide) hK hP hD hS hA hl.1 rfl (Nat.le_of_ble_eq_true rfl) ⟨Nat.zero_le _, Nat.zero_le _⟩ dX10_drawn_9 (fun r_2 I_2 R_2 J_2 H locs hp_2 hP hD hS _ _ => ?_)
    rcases hp_2 with ⟨rfl, hu_2, f0_2, f1_2⟩ | ⟨rfl, hu_2⟩
    · cases hu_2
      refine lv_if_eq (tgt := 24) hx hb dX10_drawn_12 (by decide) (fun c_0 => absurd c_0 (zD_ne zk_1 zk_z (by decide))) (fun _ => ?_)
      refine lv_iload_n hx hb dX10_drawn_15 rfl (lv_at hl 3 rfl) ?_
      refine lv_if_lt (tgt := 24) hx hb dX10_drawn_16 (by decide) (fun c_3 => ?_) (fun c_3 => ?_)
      · have t_c_3 := z_ltT c_3
        have f_4 : zR (-2147483648) (-1) (pa2) := zR_ltx t_c_3 (zR_any (pa2)) zk_z (by decide)
        refine lv_bipush (v := (-2)) hx hb dX10_drawn_24 (by decide +kernel) ?_
        exact z_iret (v := (-2)) hx hb hr hlocks hP hD hS dX10_drawn_26 hI
      · have t_c_3 := z_ltF c_3
        have f_5 : zR 0 2147483647 (pa2) := zR_ley t_c_3 zk_z (zR_any (pa2)) (by decide)
        refine lv_iload_n hx hb dX10_drawn_19 rfl (lv_at hl 3 rfl) ?_
        refine lv_iconst (v := nI 2) hx hb dX10_drawn_20 (by decide +kernel) ?_
        refine lv_icmp_le (tgt := 27) hx hb dX10_drawn_21 (by decide) (fun c_6 => ?_) (fun c_6 => ?_)
        · have t_c_6 := z_leT c_6
          have f_7 : zR 0 2 (pa2) := zR_lex t_c_6 f_5 zk_2 (by decide)
          refine lv_aload_n hx hb dX10_drawn_27 rfl (lv_at hl 0 rfl) ?_
          refine lv_iload_n hx hb dX10_drawn_28 rfl (lv_at hl 1 rfl) ?_
          refine lv_iload_n hx hb dX10_drawn_29 rfl (lv_at hl 2 rfl) ?_
          refine z_callVi (k := 0) (As := [.int (pa0), .int (pa1)]) (rest := []) hx hb hml hown ht (xk_X10_drawNights l D q cA F _ _ _ hI (pa0) (pa1) f1_2) hw_5_99 hmX10_drawNights ⟨rfl, rfl⟩ (na := 2) rfl (by decide +kernel) (by decide) (by decide) rfl rfl hK hP hD hS hA hl.1 rfl (Nat.le_of_ble_eq_true rfl) ⟨Nat.zero_le _, Nat.zero_le _⟩ dX10_drawn_30 (fun r_8 I_8 R_8 J_8 H locs hp_8 hP hD hS _ _ => ?_)
          refine lv_istore (lv' := [(4, .int (r_8)), (0, .ref (q 0)), (1, .int (pa0)), (2, .int (pa1)), (3, .int (pa2))]) hx hb dX10_drawn_33 hl (by decide) rfl (fun ls hl => ?_)
          refine lv_iload_n hx hb dX10_drawn_35 rfl (lv_at hl 4 rfl) ?_
          refine lv_if_ne (tgt := 42) hx hb dX10_drawn_36 (by decide) (fun c_9 => ?_) (fun c_9 => ?_)
          · have t_c_9 := z_eqF c_9
            have f_10 : zR 1 2 (pa2) := zR_nex t_c_9 f_7 zk_z (by decide)
            refine lv_iload_n hx hb dX10_drawn_42 rfl (lv_at hl 4 rfl) ?_
            refine lv_iconst (v := nI 1) hx hb dX10_drawn_43 (by decide +kernel) ?_
            refine lv_icmp_ne (tgt := 55) hx hb dX10_drawn_44 (by decide) (fun c_11 => ?_) (fun c_11 => ?_)
            · have t_c_11 := z_eqF c_11
              have f_12 : zR 2 2 (pa2) := zR_nex t_c_11 f_10 zk_1 (by decide)
              refine lv_aload_n hx hb dX10_drawn_55 rfl (lv_at hl 1 rfl) ?_
              refine z_get hx hb ht hown hK hP ziX10 rfl 0 (by decide) 1 (by decide) hw_2_94 rfl (v := .ref (q 3)) rfl dX10_drawn_56 ?_
              refine z_get hx hb ht hown hK hP ziX2 rfl 3 (by decide) 4 (by decide) hw_1_85 rfl (v := .int (I_8 3 4)) rfl dX10_drawn_59 ?_
              have f_13 : zR 0 5 (I_8 3 4) := xI hp_8 3 4
              refine lv_if_le (tgt := 77) hx hb dX10_drawn_62 (by decide) (fun c_14 => ?_) (fun c_14 => ?_)
              · have t_c_14 := z_leT c_14
                have f_15 : zR 0 0 (I_8 3 4) := zR_lex t_c_14 f_13 zk_z (by decide)
                refine lv_iconst (v := (-1)) hx hb dX10_drawn_77 (by decide +kernel) ?_
                exact z_iret (v := (-1)) hx hb hr hlocks hP hD hS dX10_drawn_78 hp_8
              · have t_c_14 := z_leF c_14
                have f_16 : zR 1 5 (I_8 3 4) := zR_lty t_c_14 zk_z f_13 (by decide)
                refine lv_aload_n hx hb dX10_drawn_65 rfl (lv_at hl 1 rfl) ?_
                refine z_get hx hb ht hown hK hP ziX10 rfl 0 (by decide) 5 (by decide) hw_2_98 rfl (v := .ref (q 27)) rfl dX10_drawn_66 ?_
                refine z_get hx hb ht hown hK hP ziX9 rfl 27 (by decide) 4 (by decide) hw_1_165 rfl (v := .ref (q 28)) rfl dX10_drawn_69 ?_
                refine lv_iconst (v := nI 0) hx hb dX10_drawn_72 (by decide +kernel) ?_
                refine z_iald hx hb hK hP 28 (by decide) 21 rfl rfl (zR_vin zk_0 (by decide)) dX10_drawn_73 ?_
                refine z_eqi (y := R_8 28 (nI 0).toNatClampNeg) rfl ?_
                refine lv_goto (tgt := 78) hx hb dX10_drawn_74 (by decide) ?_
                exact z_iret (v := R_8 28 (nI 0).toNatClampNeg) hx hb hr hlocks hP hD hS dX10_drawn_78 hp_8
            · have t_c_11 := z_eqT c_11
              have f_17 : zR 1 1 (pa2) := zR_eqx t_c_11 zk_1
              refine lv_aload_n hx hb dX10_drawn_47 rfl (lv_at hl 1 rfl) ?_
              refine z_get hx hb ht hown hK hP ziX10 rfl 0 (by decide) 5 (by decide) hw_2_98 rfl (v := .ref (q 27)) rfl dX10_drawn_48 ?_
              refine z_get hx hb ht hown hK hP ziX9 rfl 27 (by decide) 2 (by decide) hw_1_162 rfl (v := .int (I_8 27 2)) rfl dX10_drawn_51 ?_
              have f_18 : zR 0 24 (I_8 27 2) := xI hp_8 27 2
              exact z_iret (v := I_8 27 2) hx hb hr hlocks hP hD hS dX10_drawn_54 hp_8
          · have t_c_9 := z_eqT c_9
            have f_19 : zR 0 0 (pa2) := zR_eqx t_c_9 zk_z
            refine lv_iload hx hb dX10_drawn_39 (lv_at hl 0 rfl) ?_
            exact z_iret (v := r_8) hx hb hr hlocks hP hD hS dX10_drawn_41 hp_8
        · have t_c_6 := z_leF c_6
          have f_20 : zR 3 2147483647 (pa2) := zR_lty t_c_6 zk_2 f_5 (by decide)
          refine lv_bipush (v := (-2)) hx hb dX10_drawn_24 (by decide +kernel) ?_
          exact z_iret (v := (-2)) hx hb hr hlocks hP hD hS dX10_drawn_26 hI
    · cases hu_2
      refine lv_if_eq (tgt := 24) hx hb dX10_drawn_12 (by decide) (fun _ => ?_) (fun c_0 => absurd (zD_eq zk_0 zk_z) c_0)
      refine lv_bipush (v := (-2)) hx hb dX10_drawn_24 (by decide +kernel) ?_
      exact z_iret (v := (-2)) hx hb hr hlocks hP hD hS dX10_drawn_26 hI
  · cases hu_1
    refine lv_if_eq (tgt := 24) hx hb dX10_drawn_4 (by decide) (fun _ => ?_) (fun c_0 => absurd (zD_eq zk_0 zk_z) c_0)
    refine lv_bipush (v := (-2)) hx hb dX10_drawn_24 (by decide +kernel) ?_
    exact z_iret (v := (-2)) hx hb hr hlocks hP hD hS dX10_drawn_26 hI
set_option maxHeartbeats 4000000 in
set_option maxRecDepth 100000 in
theorem xk_X10_luck (l : Launch) (D : va_G) (q : Nat → Nat) (cA : Nat → ClassId) (F : Nat → Nat → Int32) (I R : Nat → Nat → Int32) (J : Nat → Nat → Int64) (hI : xInv F (I, R, J)) (pa0 : Int32) (pa1 : Int32) (pa2 : Int32) (pa3 : Int32) (pa4 : Int32) : zMi l D vwCl (zXtys cA) 81 q (zXd q cA) yX10_luck cX10_luck 8 (some .int) ({ frames := 5, cells := 0, slots := 0, locals := 134 } : Room) [.ref (q 0), .int (pa0), .int (pa1), .int (pa2), .int (pa3), .int (pa4)] (I, R, J) (fun _ u => xInv F u) := by
  intro sz
  refine z_body (by decide +kernel) (Nat.le_of_ble_eq_true rfl) (fun p e s m below meth c ls hx hb hml hr ht hown hlocks hsz hK hP hD hS hl => ?_)
  have hA : ∀ a, s.heap.size ≤ a → zA 81 q sz a := fun a h => Or.inr (hsz ▸ h)
  have hl : lv_has ls 8 [(0, .ref (q 0)), (1, .int (pa0)), (2, .int (pa1)), (3, .int (pa2)), (4, .int (pa3)), (5, .int (pa4))] := hl
  refine lv_aload_n hx hb dX10_luck_0 rfl (lv_at hl 0 rfl) ?_
  refine lv_iload hx hb dX10_luck_1 (lv_at hl 4 rfl) ?_
  refine z_callVi (k := 0) (As := [.int (pa3)]) (rest := []) hx hb hml hown ht (xk_X10_isThing l D q cA F _ _ _ hI (pa3)) hw_3_87 hmX10_isThing ⟨rfl, rfl⟩ (na := 1) rfl (by decide +kernel) (by decide) (by decide) rfl rfl hK hP hD hS hA hl.1 rfl (Nat.le_of_ble_eq_true rfl) ⟨Nat.zero_le _, Nat.zero_le _⟩ dX10_luck_3 (fun r_1 I_1 R_1 J_1 H locs hp_1 hP hD hS _ _ => ?_)
  rcases hp_1 with ⟨rfl, hu_1, f0_1⟩ | ⟨rfl, hu_1⟩
  · cases hu_1
    refine lv_if_eq (tgt := 37) hx hb dX10_luck_6 (by decide) (fun c_0 => absurd c_0 (zD_ne zk_1 zk_z (by decide))) (fun _ => ?_)
    refine lv_aload_n hx hb dX10_luck_9 rfl (lv_at hl 0 rfl) ?_
    refine lv_iload hx hb dX10_luck_10 (lv_at hl 5 rfl) ?_
    refine z_callVi (k := 0) (As := [.int (pa4)]) (rest := []) hx hb hml hown ht (xk_X10_isHouse l D q cA F _ _ _ hI (pa4)) hw_3_59 hmX10_isHouse ⟨rfl, rfl⟩ (na := 1) rfl (by decide +kernel) (by decide) (by decide) rfl rfl hK hP hD hS hA hl.1 rfl (Nat.le_of_ble_eq_true rfl) ⟨Nat.zero_le _, Nat.zero_le _⟩ dX10_luck_12 (fun r_2 I_2 R_2 J_2 H locs hp_2 hP hD hS _ _ => ?_)
    rcases hp_2 with ⟨rfl, hu_2, f0_2⟩ | ⟨rfl, hu_2⟩
    · cases hu_2
      refine lv_if_eq (tgt := 37) hx hb dX10_luck_15 (by decide) (fun c_0 => absurd c_0 (zD_ne zk_1 zk_z (by decide))) (fun _ => ?_)
      refine lv_iload_n hx hb dX10_luck_18 rfl (lv_at hl 1 rfl) ?_
      refine lv_iload_n hx hb dX10_luck_19 rfl (lv_at hl 3 rfl) ?_
      refine z_callSi (As := [.int (pa0), .int (pa2)]) (rest := []) hx hb hml hown ht (xk_X10_isDrawable l D q cA F _ _ _ hI (pa0) (pa2)) hw_5_95 hmX10_isDrawable ⟨rfl, rfl⟩ (na := 2) rfl (by decide +kernel) (by decide) hK hP hD hS hA hl.1 rfl (Nat.le_of_ble_eq_true rfl) ⟨Nat.zero_le _, Nat.zero_le _⟩ dX10_luck_20 (fun r_3 I_3 R_3 J_3 H locs hp_3 hP hD hS _ _ => ?_)
      rcases hp_3 with ⟨rfl, hu_3, f0_3, f1_3⟩ | ⟨rfl, hu_3⟩
      · cases hu_3
        refine lv_if_eq (tgt := 37) hx hb dX10_luck_23 (by decide) (fun c_0 => absurd c_0 (zD_ne zk_1 zk_z (by decide))) (fun _ => ?_)
        refine lv_iload_n hx hb dX10_luck_26 rfl (lv_at hl 2 rfl) ?_
        refine lv_iconst (v := nI 1) hx hb dX10_luck_27 (by decide +kernel) ?_
        refine lv_icmp_lt (tgt := 37) hx hb dX10_luck_28 (by decide) (fun c_4 => ?_) (fun c_4 => ?_)
        · have t_c_4 := z_ltT c_4
          have f_5 : zR (-2147483648) 0 (pa1) := zR_ltx t_c_4 (zR_any (pa1)) zk_1 (by decide)
          refine lv_bipush (v := (-2)) hx hb dX10_luck_37 (by decide +kernel) ?_
          exact z_iret (v := (-2)) hx hb hr hlocks hP hD hS dX10_luck_39 hI
        · have t_c_4 := z_ltF c_4
          have f_6 : zR 1 2147483647 (pa1) := zR_ley t_c_4 zk_1 (zR_any (pa1)) (by decide)
          refine lv_iload_n hx hb dX10_luck_31 rfl (lv_at hl 2 rfl) ?_
          refine lv_bipush (v := nI 20) hx hb dX10_luck_32 (by decide +kernel) ?_
          refine lv_icmp_le (tgt := 40) hx hb dX10_luck_34 (by decide) (fun c_7 => ?_) (fun c_7 => ?_)
          · have t_c_7 := z_leT c_7
            have f_8 : zR 1 20 (pa1) := zR_lex t_c_7 f_6 zk_20 (by decide)
            refine lv_iconst (v := nI 0) hx hb dX10_luck_40 (by decide +kernel) ?_
            refine lv_istore (lv' := [(6, .int (nI 0)), (0, .ref (q 0)), (1, .int (pa0)), (2, .int (pa1)), (3, .int (pa2)), (4, .int (pa3)), (5, .int (pa4))]) hx hb dX10_luck_41 hl (by decide) rfl (fun ls hl => ?_)
            refine lv_iconst (v := nI 0) hx hb dX10_luck_43 (by decide +kernel) ?_
            refine lv_istore (lv' := [(7, .int (nI 0)), (6, .int (nI 0)), (0, .ref (q 0)), (1, .int (pa0)), (2, .int (pa1)), (3, .int (pa2)), (4, .int (pa3)), (5, .int (pa4))]) hx hb dX10_luck_44 hl (by decide) rfl (fun ls hl => ?_)
            have loop_148 : ∀ N : Nat, ∀ x_145 : Int32, ∀ x_146 : Int32, zR 0 20 x_146 → ∀ I_147 : Nat → Nat → Int32, ∀ R_147 : Nat → Nat → Int32, ∀ J_147 : Nat → Nat → Int64, xInv F (I_147, R_147, J_147) → (2147483648 - (x_146).toInt).toNat < N → ∀ (H : Heap) (locs : List Loc), va_P D vwCl (zw 81 q (zXd q cA) I_147 R_147 J_147) H → va_D (zA 81 q sz) (zw 81 q (zXd q cA) I_147 R_147 J_147) → va_S (zA 81 q sz) s.heap H locs → ∀ ls : Array Slot, lv_has ls 8 [(0, .ref (q 0)), (1, .int (pa0)), (2, .int (pa1)), (3, .int (pa2)), (4, .int (pa3)), (5, .int (pa4)), (6, .int (x_145)), (7, .int (x_146))] → W p l e ({ frames := 5, cells := 0, slots := 0, locals := 134 } : Room) s m ([.ref (q 0), .int (pa0), .int (pa1), .int (pa2), .int (pa3), .int (pa4)] : List Value).toArray below meth c H locs 0 0 (MQ below (va_Qi (fun _ u => xInv F u) (zB D vwCl 81 q (zXd q cA) sz) (zA 81 q sz)) ([.ref (q 0), .int (pa0), .int (pa1), .int (pa2), .int (pa3), .int (pa4)] : List Value).toArray s 0 0 (zA 81 q sz)) (F0 m 46 ls []) := by
              intro N
              induction N with
              | zero => intro x_145 x_146 hx_146 I_147 R_147 J_147 hI_147 hN; exact absurd hN (Nat.not_lt_zero _)
              | succ N ih_150 =>
                intro x_145 x_146 hx_146 I_147 R_147 J_147 hI_147 hN_149 H locs hP hD hS ls hl
                refine lv_iload hx hb dX10_luck_46 (lv_at hl 7 rfl) ?_
                refine lv_iload_n hx hb dX10_luck_48 rfl (lv_at hl 2 rfl) ?_
                refine lv_icmp_ge (tgt := 93) hx hb dX10_luck_49 (by decide) (fun c_151 => ?_) (fun c_151 => ?_)
                · have t_c_151 := z_leT c_151
                  have f_152 : zR 1 20 (x_146) := zR_ley t_c_151 f_8 hx_146 (by decide)
                  refine lv_iload hx hb dX10_luck_93 (lv_at hl 6 rfl) ?_
                  exact z_iret (v := x_145) hx hb hr hlocks hP hD hS dX10_luck_95 hI_147
                · have t_c_151 := z_leF c_151
                  have f_153 : zR 0 19 (x_146) := zR_ltx t_c_151 hx_146 f_8 (by decide)
                  refine lv_aload_n hx hb dX10_luck_52 rfl (lv_at hl 0 rfl) ?_
                  refine lv_iload_n hx hb dX10_luck_53 rfl (lv_at hl 1 rfl) ?_
                  refine lv_iload hx hb dX10_luck_54 (lv_at hl 7 rfl) ?_
                  refine lv_iadd hx hb dX10_luck_56 ?_
                  refine z_rng (a := 0) (b := 2000000019) (zR_add f0_3 f_153 (by decide)) (fun v_154 hv_154 => ?_)
                  refine lv_iload_n hx hb dX10_luck_57 rfl (lv_at hl 3 rfl) ?_
                  refine z_callVi (k := 0) (As := [.int (v_154), .int (pa2)]) (rest := []) hx hb hml hown ht (xk_X10_drawNights l D q cA F _ _ _ hI_147 (v_154) (pa2) f1_3) hw_5_99 hmX10_drawNights ⟨rfl, rfl⟩ (na := 2) rfl (by decide +kernel) (by decide) (by decide) rfl rfl hK hP hD hS hA hl.1 rfl (Nat.le_of_ble_eq_true rfl) ⟨Nat.zero_le _, Nat.zero_le _⟩ dX10_luck_58 (fun r_155 I_155 R_155 J_155 H locs hp_155 hP hD hS _ _ => ?_)
                  refine lv_pop hx hb dX10_luck_61 rfl ?_
                  refine lv_iload hx hb dX10_luck_62 (lv_at hl 6 rfl) ?_
                  refine lv_aload_n hx hb dX10_luck_64 rfl (lv_at hl 0 rfl) ?_
                  refine z_get hx hb ht hown hK hP ziX10 rfl 0 (by decide) 5 (by decide) hw_2_98 rfl (v := .ref (q 27)) rfl dX10_luck_65 ?_
                  refine z_get hx hb ht hown hK hP ziX9 rfl 27 (by decide) 5 (by decide) hw_1_168 rfl (v := .ref (q 29)) rfl dX10_luck_68 ?_
                  refine lv_iload hx hb dX10_luck_71 (lv_at hl 4 rfl) ?_
                  refine z_iald hx hb hK hP 29 (by decide) 22 rfl rfl (zR_vin f0_1 (by decide)) dX10_luck_73 ?_
                  refine z_eqi (y := R_155 29 (pa3).toNatClampNeg) rfl ?_
                  have f_156 : zR 0 4 (R_155 29 (pa3).toNatClampNeg) := xR hp_155 29 (pa3).toNatClampNeg
                  refine lv_iload hx hb dX10_luck_74 (lv_at hl 5 rfl) ?_
                  have t_159 : ∀ x_158 : Int32, zR 0 1 x_158 → ∀ (H : Heap) (locs : List Loc), va_P D vwCl (zw 81 q (zXd q cA) I_155 R_155 J_155) H → va_D (zA 81 q sz) (zw 81 q (zXd q cA) I_155 R_155 J_155) → va_S (zA 81 q sz) s.heap H locs → ∀ ls : Array Slot, lv_has ls 8 [(0, .ref (q 0)), (1, .int (pa0)), (2, .int (pa1)), (3, .int (pa2)), (4, .int (pa3)), (5, .int (pa4)), (6, .int (x_145)), (7, .int (x_146))] → W p l e ({ frames := 5, cells := 0, slots := 0, locals := 134 } : Room) s m ([.ref (q 0), .int (pa0), .int (pa1), .int (pa2), .int (pa3), .int (pa4)] : List Value).toArray below meth c H locs 0 0 (MQ below (va_Qi (fun _ u => xInv F u) (zB D vwCl 81 q (zXd q cA) sz) (zA 81 q sz)) ([.ref (q 0), .int (pa0), .int (pa1), .int (pa2), .int (pa3), .int (pa4)] : List Value).toArray s 0 0 (zA 81 q sz)) (F0 m 84 ls [.int (x_158), .int (x_145)]) := by
                    intro x_158 hx_158 H locs hP hD hS ls hl
                    refine lv_iadd hx hb dX10_luck_84 ?_
                    refine z_any (fun v_160 => ?_)
                    refine lv_istore (lv' := [(6, .int (v_160)), (0, .ref (q 0)), (1, .int (pa0)), (2, .int (pa1)), (3, .int (pa2)), (4, .int (pa3)), (5, .int (pa4)), (7, .int (x_146))]) hx hb dX10_luck_85 hl (by decide) rfl (fun ls hl => ?_)
                    obtain ⟨v_161, ev_161⟩ : ∃ y : Int32, y = x_146 + nI 1 := ⟨_, rfl⟩
                    have hv_161 : zR 1 20 v_161 := ev_161 ▸ zR_add f_153 zk_1 (by decide)
                    have mv_161 : v_161.toInt = (x_146).toInt + 1 := by rw [ev_161, zR_addE f_153 zk_1 (by decide)]; rfl
                    refine lv_iinc (v := v_161) (lv' := [(7, .int (v_161)), (6, .int (v_160)), (0, .ref (q 0)), (1, .int (pa0)), (2, .int (pa1)), (3, .int (pa2)), (4, .int (pa3)), (5, .int (pa4))]) hx hb dX10_luck_87 hl (k := 7) rfl (ev_161 ▸ rfl) (by decide) rfl (fun ls hl => ?_)
                    refine lv_goto (tgt := 46) hx hb dX10_luck_90 (by decide) ?_
                    exact ih_150 (v_160) (v_161) (zR_w hv_161 (by decide)) _ _ _ hp_155 (z2_up mv_161 (by decide) hN_149) _ _ hP hD hS _ (lv_sub hl [2, 3, 4, 5, 6, 7, 1, 0] rfl)
                  refine lv_icmp_ne (tgt := 83) hx hb dX10_luck_76 (by decide) (fun c_157 => ?_) (fun c_157 => ?_)
                  · have t_c_157 := z_eqF c_157
                    refine lv_iconst (v := nI 0) hx hb dX10_luck_83 (by decide +kernel) ?_
                    exact t_159 (nI 0) (zR_w zk_0 (by decide)) _ _ hP hD hS _ (lv_sub hl [0, 1, 2, 3, 4, 5, 6, 7] rfl)
                  · have t_c_157 := z_eqT c_157
                    refine lv_iconst (v := nI 1) hx hb dX10_luck_79 (by decide +kernel) ?_
                    refine lv_goto (tgt := 84) hx hb dX10_luck_80 (by decide) ?_
                    exact t_159 (nI 1) (zR_w zk_1 (by decide)) _ _ hP hD hS _ (lv_sub hl [0, 1, 2, 3, 4, 5, 6, 7] rfl)
            exact loop_148 _ (nI 0) (nI 0) (zR_w zk_0 (by decide)) _ _ _ hI (Nat.lt_succ_self _) _ _ hP hD hS _ (lv_sub hl [2, 3, 4, 5, 6, 7, 1, 0] rfl)
          · have t_c_7 := z_leF c_7
            have f_162 : zR 21 2147483647 (pa1) := zR_lty t_c_7 zk_20 f_6 (by decide)
            refine lv_bipush (v := (-2)) hx hb dX10_luck_37 (by decide +kernel) ?_
            exact z_iret (v := (-2)) hx hb hr hlocks hP hD hS dX10_luck_39 hI
      · cases hu_3
        refine lv_if_eq (tgt := 37) hx hb dX10_luck_23 (by decide) (fun _ => ?_) (fun c_0 => absurd (zD_eq zk_0 zk_z) c_0)
        refine lv_bipush (v := (-2)) hx hb dX10_luck_37 (by decide +kernel) ?_
        exact z_iret (v := (-2)) hx hb hr hlocks hP hD hS dX10_luck_39 hI
    · cases hu_2
      refine lv_if_eq (tgt := 37) hx hb dX10_luck_15 (by decide) (fun _ => ?_) (fun c_0 => absurd (zD_eq zk_0 zk_z) c_0)
      refine lv_bipush (v := (-2)) hx hb dX10_luck_37 (by decide +kernel) ?_
      exact z_iret (v := (-2)) hx hb hr hlocks hP hD hS dX10_luck_39 hI
  · cases hu_1
    refine lv_if_eq (tgt := 37) hx hb dX10_luck_6 (by decide) (fun _ => ?_) (fun c_0 => absurd (zD_eq zk_0 zk_z) c_0)
    refine lv_bipush (v := (-2)) hx hb dX10_luck_37 (by decide +kernel) ?_
    exact z_iret (v := (-2)) hx hb hr hlocks hP hD hS dX10_luck_39 hI
set_option maxHeartbeats 4000000 in
set_option maxRecDepth 100000 in
theorem xk_X10_rate (l : Launch) (D : va_G) (q : Nat → Nat) (cA : Nat → ClassId) (F : Nat → Nat → Int32) (I R : Nat → Nat → Int32) (J : Nat → Nat → Int64) (hI : xInv F (I, R, J)) (pa0 : Int32) (pa1 : Int32) : zMi l D vwCl (zXtys cA) 81 q (zXd q cA) yX10_rate cX10_rate 4 (some .int) ({ frames := 1, cells := 0, slots := 0, locals := 21 } : Room) [.ref (q 0), .int (pa0), .int (pa1)] (I, R, J) (fun _ u => xInv F u) := by
  intro sz
  refine z_body (by decide +kernel) (Nat.le_of_ble_eq_true rfl) (fun p e s m below meth c ls hx hb hml hr ht hown hlocks hsz hK hP hD hS hl => ?_)
  have hA : ∀ a, s.heap.size ≤ a → zA 81 q sz a := fun a h => Or.inr (hsz ▸ h)
  have hl : lv_has ls 4 [(0, .ref (q 0)), (1, .int (pa0)), (2, .int (pa1))] := hl
  refine lv_aload_n hx hb dX10_rate_0 rfl (lv_at hl 0 rfl) ?_
  refine lv_iload_n hx hb dX10_rate_1 rfl (lv_at hl 1 rfl) ?_
  refine z_callVi (k := 0) (As := [.int (pa0)]) (rest := []) hx hb hml hown ht (xk_X10_isThing l D q cA F _ _ _ hI (pa0)) hw_3_87 hmX10_isThing ⟨rfl, rfl⟩ (na := 1) rfl (by decide +kernel) (by decide) (by decide) rfl rfl hK hP hD hS hA hl.1 rfl (Nat.le_of_ble_eq_true rfl) ⟨Nat.zero_le _, Nat.zero_le _⟩ dX10_rate_2 (fun r_1 I_1 R_1 J_1 H locs hp_1 hP hD hS _ _ => ?_)
  rcases hp_1 with ⟨rfl, hu_1, f0_1⟩ | ⟨rfl, hu_1⟩
  · cases hu_1
    refine lv_if_eq (tgt := 20) hx hb dX10_rate_5 (by decide) (fun c_0 => absurd c_0 (zD_ne zk_1 zk_z (by decide))) (fun _ => ?_)
    refine lv_iload_n hx hb dX10_rate_8 rfl (lv_at hl 2 rfl) ?_
    refine lv_iconst (v := nI 1) hx hb dX10_rate_9 (by decide +kernel) ?_
    refine lv_icmp_lt (tgt := 20) hx hb dX10_rate_10 (by decide) (fun c_2 => ?_) (fun c_2 => ?_)
    · have t_c_2 := z_ltT c_2
      have f_3 : zR (-2147483648) 0 (pa1) := zR_ltx t_c_2 (zR_any (pa1)) zk_1 (by decide)
      refine lv_bipush (v := (-2)) hx hb dX10_rate_20 (by decide +kernel) ?_
      exact z_iret (v := (-2)) hx hb hr hlocks hP hD hS dX10_rate_22 hI
    · have t_c_2 := z_ltF c_2
      have f_4 : zR 1 2147483647 (pa1) := zR_ley t_c_2 zk_1 (zR_any (pa1)) (by decide)
      refine lv_iload_n hx hb dX10_rate_13 rfl (lv_at hl 2 rfl) ?_
      refine lv_sipush (v := nI 999) hx hb dX10_rate_14 (by decide +kernel) ?_
      refine lv_icmp_le (tgt := 23) hx hb dX10_rate_17 (by decide) (fun c_5 => ?_) (fun c_5 => ?_)
      · have t_c_5 := z_leT c_5
        have f_6 : zR 1 999 (pa1) := zR_lex t_c_5 f_4 zk_999 (by decide)
        refine lv_aload_n hx hb dX10_rate_23 rfl (lv_at hl 0 rfl) ?_
        refine z_get hx hb ht hown hK hP ziX10 rfl 0 (by decide) 3 (by decide) hw_2_96 rfl (v := .ref (q 13)) rfl dX10_rate_24 ?_
        refine z_get hx hb ht hown hK hP ziX0 rfl 13 (by decide) 0 (by decide) hw_1_141 rfl (v := .int (I 13 0)) rfl dX10_rate_27 ?_
        have f_7 : zR 0 60 (I 13 0) := xI hI 13 0
        refine lv_if_le (tgt := 36) hx hb dX10_rate_30 (by decide) (fun c_8 => ?_) (fun c_8 => ?_)
        · have t_c_8 := z_leT c_8
          have f_9 : zR 0 0 (I 13 0) := zR_lex t_c_8 f_7 zk_z (by decide)
          refine lv_aload_n hx hb dX10_rate_36 rfl (lv_at hl 0 rfl) ?_
          refine z_get hx hb ht hown hK hP ziX10 rfl 0 (by decide) 1 (by decide) hw_2_94 rfl (v := .ref (q 3)) rfl dX10_rate_37 ?_
          refine z_get hx hb ht hown hK hP ziX2 rfl 3 (by decide) 9 (by decide) hw_1_106 rfl (v := .ref (q 6)) rfl dX10_rate_40 ?_
          refine lv_iload_n hx hb dX10_rate_43 rfl (lv_at hl 1 rfl) ?_
          refine z_iald hx hb hK hP 6 (by decide) 3 rfl rfl (zR_vin f0_1 (by decide)) dX10_rate_44 ?_
          refine z_eqi (y := R 6 (pa0).toNatClampNeg) rfl ?_
          refine lv_istore_n (lv' := [(3, .int (R 6 (pa0).toNatClampNeg)), (0, .ref (q 0)), (1, .int (pa0)), (2, .int (pa1))]) hx hb dX10_rate_45 rfl hl (by decide) rfl (fun ls hl => ?_)
          refine lv_aload_n hx hb dX10_rate_46 rfl (lv_at hl 1 rfl) ?_
          refine z_get hx hb ht hown hK hP ziX10 rfl 0 (by decide) 1 (by decide) hw_2_94 rfl (v := .ref (q 3)) rfl dX10_rate_47 ?_
          refine z_get hx hb ht hown hK hP ziX2 rfl 3 (by decide) 9 (by decide) hw_1_106 rfl (v := .ref (q 6)) rfl dX10_rate_50 ?_
          refine lv_iload_n hx hb dX10_rate_53 rfl (lv_at hl 2 rfl) ?_
          refine lv_iload_n hx hb dX10_rate_54 rfl (lv_at hl 3 rfl) ?_
          refine z_iast hx hb hK hP hD hS 6 (by decide) 3 (fun _ => rfl) rfl (zR_vin f0_1 (by decide)) dX10_rate_55 (fun H locs hP hD hS => ?_)
          have hI_10 := xInv_R hI 6 (pa0).toNatClampNeg (pa1) (zR_any _) rfl
          refine lv_iload_n hx hb dX10_rate_56 rfl (lv_at hl 0 rfl) ?_
          exact z_iret (v := R 6 (pa0).toNatClampNeg) hx hb hr hlocks hP hD hS dX10_rate_57 hI_10
        · have t_c_8 := z_leF c_8
          have f_11 : zR 1 60 (I 13 0) := zR_lty t_c_8 zk_z f_7 (by decide)
          refine lv_bipush (v := (-5)) hx hb dX10_rate_33 (by decide +kernel) ?_
          exact z_iret (v := (-5)) hx hb hr hlocks hP hD hS dX10_rate_35 hI
      · have t_c_5 := z_leF c_5
        have f_12 : zR 1000 2147483647 (pa1) := zR_lty t_c_5 zk_999 f_4 (by decide)
        refine lv_bipush (v := (-2)) hx hb dX10_rate_20 (by decide +kernel) ?_
        exact z_iret (v := (-2)) hx hb hr hlocks hP hD hS dX10_rate_22 hI
  · cases hu_1
    refine lv_if_eq (tgt := 20) hx hb dX10_rate_5 (by decide) (fun _ => ?_) (fun c_0 => absurd (zD_eq zk_0 zk_z) c_0)
    refine lv_bipush (v := (-2)) hx hb dX10_rate_20 (by decide +kernel) ?_
    exact z_iret (v := (-2)) hx hb hr hlocks hP hD hS dX10_rate_22 hI
set_option maxHeartbeats 4000000 in
set_option maxRecDepth 100000 in
theorem xk_X2_setMore_1 (l : Launch) (D : va_G) (q : Nat → Nat) (cA : Nat → ClassId) (F : Nat → Nat → Int32) (I R : Nat → Nat → Int32) (J : Nat → Nat → Int64) (hI : xInv F (I, R, J)) (pa0 : Int32) (hpa0 : zR 0 4 pa0) (pa1 : Int32) (hpa1 : zR 0 5 pa1) (pa2 : Int32) (hpa2 : zR 0 999 pa2) : zMv l D vwCl (zXtys cA) 81 q (zXd q cA) yX2_setMore cX2_setMore 4 none ({ frames := 0, cells := 0, slots := 0, locals := 0 } : Room) [.ref (q 3), .int (pa0), .int (pa1), .int (pa2)] (I, R, J) (fun u => xInv F u) := by
  intro sz
  refine z_body (by decide +kernel) (Nat.le_of_ble_eq_true rfl) (fun p e s m below meth c ls hx hb hml hr ht hown hlocks hsz hK hP hD hS hl => ?_)
  have hA : ∀ a, s.heap.size ≤ a → zA 81 q sz a := fun a h => Or.inr (hsz ▸ h)
  have hl : lv_has ls 4 [(0, .ref (q 3)), (1, .int (pa0)), (2, .int (pa1)), (3, .int (pa2))] := hl
  refine lv_aload_n hx hb dX2_setMore_0 rfl (lv_at hl 0 rfl) ?_
  refine z_get hx hb ht hown hK hP ziX2 rfl 3 (by decide) 10 (by decide) hw_1_109 rfl (v := .ref (q 7)) rfl dX2_setMore_1 ?_
  refine lv_iload_n hx hb dX2_setMore_4 rfl (lv_at hl 1 rfl) ?_
  refine lv_bipush (v := nI 6) hx hb dX2_setMore_5 (by decide +kernel) ?_
  refine lv_imul hx hb dX2_setMore_7 ?_
  refine z_rng (a := 0) (b := 24) (zR_mul hpa0 zk_6 (by decide)) (fun v_1 hv_1 => ?_)
  refine lv_iload_n hx hb dX2_setMore_8 rfl (lv_at hl 2 rfl) ?_
  refine lv_iadd hx hb dX2_setMore_9 ?_
  refine z_rng (a := 0) (b := 29) (zR_add hv_1 hpa1 (by decide)) (fun v_2 hv_2 => ?_)
  refine lv_iload_n hx hb dX2_setMore_10 rfl (lv_at hl 3 rfl) ?_
  refine z_iast hx hb hK hP hD hS 7 (by decide) 4 (fun _ => rfl) rfl (zR_vin hv_2 (by decide)) dX2_setMore_11 (fun H locs hP hD hS => ?_)
  have hI_3 := xInv_R hI 7 (v_2).toNatClampNeg (pa2) (zR_any _) rfl
  exact z_vret hx hb hr hlocks hP hD hS dX2_setMore_12 hI_3
set_option maxHeartbeats 4000000 in
set_option maxRecDepth 100000 in
theorem xk_X10_want (l : Launch) (D : va_G) (q : Nat → Nat) (cA : Nat → ClassId) (F : Nat → Nat → Int32) (I R : Nat → Nat → Int32) (J : Nat → Nat → Int64) (hI : xInv F (I, R, J)) (pa0 : Int32) (pa1 : Int32) (pa2 : Int32) : zMi l D vwCl (zXtys cA) 81 q (zXd q cA) yX10_want cX10_want 5 (some .int) ({ frames := 1, cells := 0, slots := 0, locals := 23 } : Room) [.ref (q 0), .int (pa0), .int (pa1), .int (pa2)] (I, R, J) (fun _ u => xInv F u) := by
  intro sz
  refine z_body (by decide +kernel) (Nat.le_of_ble_eq_true rfl) (fun p e s m below meth c ls hx hb hml hr ht hown hlocks hsz hK hP hD hS hl => ?_)
  have hA : ∀ a, s.heap.size ≤ a → zA 81 q sz a := fun a h => Or.inr (hsz ▸ h)
  have hl : lv_has ls 5 [(0, .ref (q 0)), (1, .int (pa0)), (2, .int (pa1)), (3, .int (pa2))] := hl
  refine lv_aload_n hx hb dX10_want_0 rfl (lv_at hl 0 rfl) ?_
  refine lv_iload_n hx hb dX10_want_1 rfl (lv_at hl 1 rfl) ?_
  refine z_callVi (k := 0) (As := [.int (pa0)]) (rest := []) hx hb hml hown ht (xk_X10_isHouse l D q cA F _ _ _ hI (pa0)) hw_3_59 hmX10_isHouse ⟨rfl, rfl⟩ (na := 1) rfl (by decide +kernel) (by decide) (by decide) rfl rfl hK hP hD hS hA hl.1 rfl (Nat.le_of_ble_eq_true rfl) ⟨Nat.zero_le _, Nat.zero_le _⟩ dX10_want_2 (fun r_1 I_1 R_1 J_1 H locs hp_1 hP hD hS _ _ => ?_)
  rcases hp_1 with ⟨rfl, hu_1, f0_1⟩ | ⟨rfl, hu_1⟩
  · cases hu_1
    refine lv_if_eq (tgt := 27) hx hb dX10_want_5 (by decide) (fun c_0 => absurd c_0 (zD_ne zk_1 zk_z (by decide))) (fun _ => ?_)
    refine lv_aload_n hx hb dX10_want_8 rfl (lv_at hl 0 rfl) ?_
    refine lv_iload_n hx hb dX10_want_9 rfl (lv_at hl 2 rfl) ?_
    refine z_callVi (k := 0) (As := [.int (pa1)]) (rest := []) hx hb hml hown ht (xk_X10_isThing l D q cA F _ _ _ hI (pa1)) hw_3_87 hmX10_isThing ⟨rfl, rfl⟩ (na := 1) rfl (by decide +kernel) (by decide) (by decide) rfl rfl hK hP hD hS hA hl.1 rfl (Nat.le_of_ble_eq_true rfl) ⟨Nat.zero_le _, Nat.zero_le _⟩ dX10_want_10 (fun r_2 I_2 R_2 J_2 H locs hp_2 hP hD hS _ _ => ?_)
    rcases hp_2 with ⟨rfl, hu_2, f0_2⟩ | ⟨rfl, hu_2⟩
    · cases hu_2
      refine lv_if_eq (tgt := 27) hx hb dX10_want_13 (by decide) (fun c_0 => absurd c_0 (zD_ne zk_1 zk_z (by decide))) (fun _ => ?_)
      refine lv_iload_n hx hb dX10_want_16 rfl (lv_at hl 3 rfl) ?_
      refine lv_if_lt (tgt := 27) hx hb dX10_want_17 (by decide) (fun c_3 => ?_) (fun c_3 => ?_)
      · have t_c_3 := z_ltT c_3
        have f_4 : zR (-2147483648) (-1) (pa2) := zR_ltx t_c_3 (zR_any (pa2)) zk_z (by decide)
        refine lv_bipush (v := (-2)) hx hb dX10_want_27 (by decide +kernel) ?_
        exact z_iret (v := (-2)) hx hb hr hlocks hP hD hS dX10_want_29 hI
      · have t_c_3 := z_ltF c_3
        have f_5 : zR 0 2147483647 (pa2) := zR_ley t_c_3 zk_z (zR_any (pa2)) (by decide)
        refine lv_iload_n hx hb dX10_want_20 rfl (lv_at hl 3 rfl) ?_
        refine lv_sipush (v := nI 500) hx hb dX10_want_21 (by decide +kernel) ?_
        refine lv_icmp_le (tgt := 30) hx hb dX10_want_24 (by decide) (fun c_6 => ?_) (fun c_6 => ?_)
        · have t_c_6 := z_leT c_6
          have f_7 : zR 0 500 (pa2) := zR_lex t_c_6 f_5 zk_500 (by decide)
          refine lv_aload_n hx hb dX10_want_30 rfl (lv_at hl 0 rfl) ?_
          refine z_get hx hb ht hown hK hP ziX10 rfl 0 (by decide) 3 (by decide) hw_2_96 rfl (v := .ref (q 13)) rfl dX10_want_31 ?_
          refine z_get hx hb ht hown hK hP ziX0 rfl 13 (by decide) 0 (by decide) hw_1_141 rfl (v := .int (I 13 0)) rfl dX10_want_34 ?_
          have f_8 : zR 0 60 (I 13 0) := xI hI 13 0
          refine lv_if_le (tgt := 43) hx hb dX10_want_37 (by decide) (fun c_9 => ?_) (fun c_9 => ?_)
          · have t_c_9 := z_leT c_9
            have f_10 : zR 0 0 (I 13 0) := zR_lex t_c_9 f_8 zk_z (by decide)
            refine lv_aload_n hx hb dX10_want_43 rfl (lv_at hl 0 rfl) ?_
            refine z_get hx hb ht hown hK hP ziX10 rfl 0 (by decide) 1 (by decide) hw_2_94 rfl (v := .ref (q 3)) rfl dX10_want_44 ?_
            refine lv_iload_n hx hb dX10_want_47 rfl (lv_at hl 1 rfl) ?_
            refine lv_iload_n hx hb dX10_want_48 rfl (lv_at hl 2 rfl) ?_
            refine z_callVi (k := 3) (As := [.int (pa0), .int (pa1)]) (rest := []) hx hb hml hown ht (xk_X2_moreTo l D q cA F _ _ _ hI (pa0) f0_1 (pa1) f0_2) hw_4_225 hmX2_moreTo ⟨rfl, rfl⟩ (na := 2) rfl (by decide +kernel) (by decide) (by decide) rfl rfl hK hP hD hS hA hl.1 rfl (Nat.le_of_ble_eq_true rfl) ⟨Nat.zero_le _, Nat.zero_le _⟩ dX10_want_49 (fun r_11 I_11 R_11 J_11 H locs hp_11 hP hD hS _ _ => ?_)
            cases hp_11
            refine lv_istore (lv' := [(4, .int (r_11)), (0, .ref (q 0)), (1, .int (pa0)), (2, .int (pa1)), (3, .int (pa2))]) hx hb dX10_want_52 hl (by decide) rfl (fun ls hl => ?_)
            refine lv_aload_n hx hb dX10_want_54 rfl (lv_at hl 1 rfl) ?_
            refine z_get hx hb ht hown hK hP ziX10 rfl 0 (by decide) 1 (by decide) hw_2_94 rfl (v := .ref (q 3)) rfl dX10_want_55 ?_
            refine lv_iload_n hx hb dX10_want_58 rfl (lv_at hl 2 rfl) ?_
            refine lv_iload_n hx hb dX10_want_59 rfl (lv_at hl 3 rfl) ?_
            refine lv_iload_n hx hb dX10_want_60 rfl (lv_at hl 4 rfl) ?_
            refine z_callVv (k := 3) (As := [.int (pa0), .int (pa1), .int (pa2)]) (rest := []) hx hb hml hown ht (xk_X2_setMore_1 l D q cA F _ _ _ hI (pa0) f0_1 (pa1) f0_2 (pa2) (zR_w f_7 (by decide))) hw_5_132 hmX2_setMore ⟨rfl, rfl⟩ (na := 3) rfl (by decide +kernel) (by decide) (by decide) rfl rfl hK hP hD hS hA hl.1 rfl (Nat.le_of_ble_eq_true rfl) ⟨Nat.zero_le _, Nat.zero_le _⟩ dX10_want_61 (fun I_12 R_12 J_12 H locs hp_12 hP hD hS _ _ => ?_)
            refine lv_iload hx hb dX10_want_64 (lv_at hl 0 rfl) ?_
            exact z_iret (v := r_11) hx hb hr hlocks hP hD hS dX10_want_66 hp_12
          · have t_c_9 := z_leF c_9
            have f_13 : zR 1 60 (I 13 0) := zR_lty t_c_9 zk_z f_8 (by decide)
            refine lv_bipush (v := (-5)) hx hb dX10_want_40 (by decide +kernel) ?_
            exact z_iret (v := (-5)) hx hb hr hlocks hP hD hS dX10_want_42 hI
        · have t_c_6 := z_leF c_6
          have f_14 : zR 501 2147483647 (pa2) := zR_lty t_c_6 zk_500 f_5 (by decide)
          refine lv_bipush (v := (-2)) hx hb dX10_want_27 (by decide +kernel) ?_
          exact z_iret (v := (-2)) hx hb hr hlocks hP hD hS dX10_want_29 hI
    · cases hu_2
      refine lv_if_eq (tgt := 27) hx hb dX10_want_13 (by decide) (fun _ => ?_) (fun c_0 => absurd (zD_eq zk_0 zk_z) c_0)
      refine lv_bipush (v := (-2)) hx hb dX10_want_27 (by decide +kernel) ?_
      exact z_iret (v := (-2)) hx hb hr hlocks hP hD hS dX10_want_29 hI
  · cases hu_1
    refine lv_if_eq (tgt := 27) hx hb dX10_want_5 (by decide) (fun _ => ?_) (fun c_0 => absurd (zD_eq zk_0 zk_z) c_0)
    refine lv_bipush (v := (-2)) hx hb dX10_want_27 (by decide +kernel) ?_
    exact z_iret (v := (-2)) hx hb hr hlocks hP hD hS dX10_want_29 hI
set_option maxHeartbeats 4000000 in
set_option maxRecDepth 100000 in
theorem xk_X10_filledSlots (l : Launch) (D : va_G) (q : Nat → Nat) (cA : Nat → ClassId) (F : Nat → Nat → Int32) (I R : Nat → Nat → Int32) (J : Nat → Nat → Int64) (hI : xInv F (I, R, J))  : zMi l D vwCl (zXtys cA) 81 q (zXd q cA) yX10_filledSlots cX10_filledSlots 3 (some .int) ({ frames := 1, cells := 0, slots := 0, locals := 20 } : Room) [.ref (q 0)] (I, R, J) (fun _ u => u = (I, R, J)) := by
  intro sz
  refine z_body (by decide +kernel) (Nat.le_of_ble_eq_true rfl) (fun p e s m below meth c ls hx hb hml hr ht hown hlocks hsz hK hP hD hS hl => ?_)
  have hA : ∀ a, s.heap.size ≤ a → zA 81 q sz a := fun a h => Or.inr (hsz ▸ h)
  have hl : lv_has ls 3 [(0, .ref (q 0))] := hl
  refine lv_iconst (v := nI 0) hx hb dX10_filledSlots_0 (by decide +kernel) ?_
  refine lv_istore_n (lv' := [(1, .int (nI 0)), (0, .ref (q 0))]) hx hb dX10_filledSlots_1 rfl hl (by decide) rfl (fun ls hl => ?_)
  refine lv_iconst (v := nI 0) hx hb dX10_filledSlots_2 (by decide +kernel) ?_
  refine lv_istore_n (lv' := [(2, .int (nI 0)), (1, .int (nI 0)), (0, .ref (q 0))]) hx hb dX10_filledSlots_3 rfl hl (by decide) rfl (fun ls hl => ?_)
  have loop_224 : ∀ N : Nat, ∀ x_222 : Int32, ∀ x_223 : Int32, zR 0 4 x_223 → (2147483648 - (x_223).toInt).toNat < N → ∀ (H : Heap) (locs : List Loc), va_P D vwCl (zw 81 q (zXd q cA) I R J) H → va_D (zA 81 q sz) (zw 81 q (zXd q cA) I R J) → va_S (zA 81 q sz) s.heap H locs → ∀ ls : Array Slot, lv_has ls 3 [(0, .ref (q 0)), (1, .int (x_222)), (2, .int (x_223))] → W p l e ({ frames := 1, cells := 0, slots := 0, locals := 20 } : Room) s m ([.ref (q 0)] : List Value).toArray below meth c H locs 0 0 (MQ below (va_Qi (fun _ u => u = (I, R, J)) (zB D vwCl 81 q (zXd q cA) sz) (zA 81 q sz)) ([.ref (q 0)] : List Value).toArray s 0 0 (zA 81 q sz)) (F0 m 4 ls []) := by
    intro N
    induction N with
    | zero => intro x_222 x_223 hx_223 hN; exact absurd hN (Nat.not_lt_zero _)
    | succ N ih_226 =>
      intro x_222 x_223 hx_223 hN_225 H locs hP hD hS ls hl
      refine lv_iload_n hx hb dX10_filledSlots_4 rfl (lv_at hl 2 rfl) ?_
      refine lv_iconst (v := nI 4) hx hb dX10_filledSlots_5 (by decide +kernel) ?_
      refine lv_icmp_ge (tgt := 35) hx hb dX10_filledSlots_6 (by decide) (fun c_227 => ?_) (fun c_227 => ?_)
      · have t_c_227 := z_leT c_227
        have f_228 : zR 4 4 (x_223) := zR_ley t_c_227 zk_4 hx_223 (by decide)
        refine lv_iload_n hx hb dX10_filledSlots_35 rfl (lv_at hl 1 rfl) ?_
        exact z_iret (v := x_222) hx hb hr hlocks hP hD hS dX10_filledSlots_36 rfl
      · have t_c_227 := z_leF c_227
        have f_229 : zR 0 3 (x_223) := zR_ltx t_c_227 hx_223 zk_4 (by decide)
        refine lv_iload_n hx hb dX10_filledSlots_9 rfl (lv_at hl 1 rfl) ?_
        refine lv_aload_n hx hb dX10_filledSlots_10 rfl (lv_at hl 0 rfl) ?_
        refine z_get hx hb ht hown hK hP ziX10 rfl 0 (by decide) 11 (by decide) hw_2_104 rfl (v := .ref (q 72)) rfl dX10_filledSlots_11 ?_
        refine lv_iload_n hx hb dX10_filledSlots_14 rfl (lv_at hl 2 rfl) ?_
        obtain ⟨n_230, hn_230, rfl⟩ := z_ex (x := x_223) (N := 4) (zR_w f_229 (a' := 0) (b' := 3) (by decide)).1 (Int.lt_of_le_of_lt (zR_w f_229 (a' := 0) (b' := 3) (by decide)).2 (by decide))
        rcases (show n_230 = 0 ∨ n_230 = 1 ∨ n_230 = 2 ∨ n_230 = 3 by omega) with rfl | rfl | rfl | rfl
        · refine va_aldq hx hb hK hP 72 52 (zw_at (by decide) rfl) rfl (vp_in_nI (by decide) (by decide)) dX10_filledSlots_15 ?_
          refine W.eq (g2 := F0 m 16 ls (.ref (q 73) :: [.int (x_222)])) rfl ?_
          have t_234 : ∀ x_233 : Int32, zR 0 1 x_233 → ∀ (H : Heap) (locs : List Loc), va_P D vwCl (zw 81 q (zXd q cA) I R J) H → va_D (zA 81 q sz) (zw 81 q (zXd q cA) I R J) → va_S (zA 81 q sz) s.heap H locs → ∀ ls : Array Slot, lv_has ls 3 [(0, .ref (q 0)), (1, .int (x_222)), (2, .int (nI 0))] → W p l e ({ frames := 1, cells := 0, slots := 0, locals := 20 } : Room) s m ([.ref (q 0)] : List Value).toArray below meth c H locs 0 0 (MQ below (va_Qi (fun _ u => u = (I, R, J)) (zB D vwCl 81 q (zXd q cA) sz) (zA 81 q sz)) ([.ref (q 0)] : List Value).toArray s 0 0 (zA 81 q sz)) (F0 m 27 ls [.int (x_233), .int (x_222)]) := by
            intro x_233 hx_233 H locs hP hD hS ls hl
            refine lv_iadd hx hb dX10_filledSlots_27 ?_
            refine z_any (fun v_235 => ?_)
            refine lv_istore_n (lv' := [(1, .int (v_235)), (0, .ref (q 0)), (2, .int (nI 0))]) hx hb dX10_filledSlots_28 rfl hl (by decide) rfl (fun ls hl => ?_)
            refine lv_iinc (v := nI 1) (lv' := [(2, .int (nI 1)), (1, .int (v_235)), (0, .ref (q 0))]) hx hb dX10_filledSlots_29 hl (k := 2) rfl (by decide +kernel) (by decide) rfl (fun ls hl => ?_)
            refine lv_goto (tgt := 4) hx hb dX10_filledSlots_32 (by decide) ?_
            exact ih_226 (v_235) (nI 1) (zR_w zk_1 (by decide)) (z2_up (show (nI 1 : Int32).toInt = (nI 0 : Int32).toInt + 1 by decide +kernel) (by decide) hN_225) _ _ hP hD hS _ (lv_sub hl [2, 1, 0] rfl)
          refine z_callVi (k := 73) (As := []) (rest := [.int (x_222)]) hx hb hml hown ht (xk_X6_isThere l D q cA F _ _ _ hI ) hw_5_63 hmX6_isThere ⟨rfl, rfl⟩ (na := 0) rfl (by decide +kernel) (by decide) (by decide) rfl rfl hK hP hD hS hA hl.1 rfl (Nat.le_of_ble_eq_true rfl) ⟨Nat.zero_le _, Nat.zero_le _⟩ dX10_filledSlots_16 (fun r_231 I_231 R_231 J_231 H locs hp_231 hP hD hS _ _ => ?_)
          rcases hp_231 with ⟨rfl, hu_231, nn_231⟩ | ⟨rfl, hu_231, nn_231⟩
          · cases hu_231
            have f_236 : zR 0 60 (I 73 1) := x_there (xI hI 73 1) nn_231
            refine lv_if_eq (tgt := 26) hx hb dX10_filledSlots_19 (by decide) (fun c_0 => absurd c_0 (zD_ne zk_1 zk_z (by decide))) (fun _ => ?_)
            refine lv_iconst (v := nI 1) hx hb dX10_filledSlots_22 (by decide +kernel) ?_
            refine lv_goto (tgt := 27) hx hb dX10_filledSlots_23 (by decide) ?_
            exact t_234 (nI 1) (zR_w zk_1 (by decide)) _ _ hP hD hS _ (lv_sub hl [0, 1, 2] rfl)
          · cases hu_231
            refine lv_if_eq (tgt := 26) hx hb dX10_filledSlots_19 (by decide) (fun _ => ?_) (fun c_0 => absurd (zD_eq zk_0 zk_z) c_0)
            refine lv_iconst (v := nI 0) hx hb dX10_filledSlots_26 (by decide +kernel) ?_
            exact t_234 (nI 0) (zR_w zk_0 (by decide)) _ _ hP hD hS _ (lv_sub hl [0, 1, 2] rfl)
        · refine va_aldq hx hb hK hP 72 52 (zw_at (by decide) rfl) rfl (vp_in_nI (by decide) (by decide)) dX10_filledSlots_15 ?_
          refine W.eq (g2 := F0 m 16 ls (.ref (q 75) :: [.int (x_222)])) rfl ?_
          have t_240 : ∀ x_239 : Int32, zR 0 1 x_239 → ∀ (H : Heap) (locs : List Loc), va_P D vwCl (zw 81 q (zXd q cA) I R J) H → va_D (zA 81 q sz) (zw 81 q (zXd q cA) I R J) → va_S (zA 81 q sz) s.heap H locs → ∀ ls : Array Slot, lv_has ls 3 [(0, .ref (q 0)), (1, .int (x_222)), (2, .int (nI 1))] → W p l e ({ frames := 1, cells := 0, slots := 0, locals := 20 } : Room) s m ([.ref (q 0)] : List Value).toArray below meth c H locs 0 0 (MQ below (va_Qi (fun _ u => u = (I, R, J)) (zB D vwCl 81 q (zXd q cA) sz) (zA 81 q sz)) ([.ref (q 0)] : List Value).toArray s 0 0 (zA 81 q sz)) (F0 m 27 ls [.int (x_239), .int (x_222)]) := by
            intro x_239 hx_239 H locs hP hD hS ls hl
            refine lv_iadd hx hb dX10_filledSlots_27 ?_
            refine z_any (fun v_241 => ?_)
            refine lv_istore_n (lv' := [(1, .int (v_241)), (0, .ref (q 0)), (2, .int (nI 1))]) hx hb dX10_filledSlots_28 rfl hl (by decide) rfl (fun ls hl => ?_)
            refine lv_iinc (v := nI 2) (lv' := [(2, .int (nI 2)), (1, .int (v_241)), (0, .ref (q 0))]) hx hb dX10_filledSlots_29 hl (k := 2) rfl (by decide +kernel) (by decide) rfl (fun ls hl => ?_)
            refine lv_goto (tgt := 4) hx hb dX10_filledSlots_32 (by decide) ?_
            exact ih_226 (v_241) (nI 2) (zR_w zk_2 (by decide)) (z2_up (show (nI 2 : Int32).toInt = (nI 1 : Int32).toInt + 1 by decide +kernel) (by decide) hN_225) _ _ hP hD hS _ (lv_sub hl [2, 1, 0] rfl)
          refine z_callVi (k := 75) (As := []) (rest := [.int (x_222)]) hx hb hml hown ht (xk_X6_isThere_1 l D q cA F _ _ _ hI ) hw_5_63 hmX6_isThere ⟨rfl, rfl⟩ (na := 0) rfl (by decide +kernel) (by decide) (by decide) rfl rfl hK hP hD hS hA hl.1 rfl (Nat.le_of_ble_eq_true rfl) ⟨Nat.zero_le _, Nat.zero_le _⟩ dX10_filledSlots_16 (fun r_237 I_237 R_237 J_237 H locs hp_237 hP hD hS _ _ => ?_)
          rcases hp_237 with ⟨rfl, hu_237, nn_237⟩ | ⟨rfl, hu_237, nn_237⟩
          · cases hu_237
            have f_242 : zR 0 60 (I 75 1) := x_there (xI hI 75 1) nn_237
            refine lv_if_eq (tgt := 26) hx hb dX10_filledSlots_19 (by decide) (fun c_0 => absurd c_0 (zD_ne zk_1 zk_z (by decide))) (fun _ => ?_)
            refine lv_iconst (v := nI 1) hx hb dX10_filledSlots_22 (by decide +kernel) ?_
            refine lv_goto (tgt := 27) hx hb dX10_filledSlots_23 (by decide) ?_
            exact t_240 (nI 1) (zR_w zk_1 (by decide)) _ _ hP hD hS _ (lv_sub hl [0, 1, 2] rfl)
          · cases hu_237
            refine lv_if_eq (tgt := 26) hx hb dX10_filledSlots_19 (by decide) (fun _ => ?_) (fun c_0 => absurd (zD_eq zk_0 zk_z) c_0)
            refine lv_iconst (v := nI 0) hx hb dX10_filledSlots_26 (by decide +kernel) ?_
            exact t_240 (nI 0) (zR_w zk_0 (by decide)) _ _ hP hD hS _ (lv_sub hl [0, 1, 2] rfl)
        · refine va_aldq hx hb hK hP 72 52 (zw_at (by decide) rfl) rfl (vp_in_nI (by decide) (by decide)) dX10_filledSlots_15 ?_
          refine W.eq (g2 := F0 m 16 ls (.ref (q 77) :: [.int (x_222)])) rfl ?_
          have t_246 : ∀ x_245 : Int32, zR 0 1 x_245 → ∀ (H : Heap) (locs : List Loc), va_P D vwCl (zw 81 q (zXd q cA) I R J) H → va_D (zA 81 q sz) (zw 81 q (zXd q cA) I R J) → va_S (zA 81 q sz) s.heap H locs → ∀ ls : Array Slot, lv_has ls 3 [(0, .ref (q 0)), (1, .int (x_222)), (2, .int (nI 2))] → W p l e ({ frames := 1, cells := 0, slots := 0, locals := 20 } : Room) s m ([.ref (q 0)] : List Value).toArray below meth c H locs 0 0 (MQ below (va_Qi (fun _ u => u = (I, R, J)) (zB D vwCl 81 q (zXd q cA) sz) (zA 81 q sz)) ([.ref (q 0)] : List Value).toArray s 0 0 (zA 81 q sz)) (F0 m 27 ls [.int (x_245), .int (x_222)]) := by
            intro x_245 hx_245 H locs hP hD hS ls hl
            refine lv_iadd hx hb dX10_filledSlots_27 ?_
            refine z_any (fun v_247 => ?_)
            refine lv_istore_n (lv' := [(1, .int (v_247)), (0, .ref (q 0)), (2, .int (nI 2))]) hx hb dX10_filledSlots_28 rfl hl (by decide) rfl (fun ls hl => ?_)
            refine lv_iinc (v := nI 3) (lv' := [(2, .int (nI 3)), (1, .int (v_247)), (0, .ref (q 0))]) hx hb dX10_filledSlots_29 hl (k := 2) rfl (by decide +kernel) (by decide) rfl (fun ls hl => ?_)
            refine lv_goto (tgt := 4) hx hb dX10_filledSlots_32 (by decide) ?_
            exact ih_226 (v_247) (nI 3) (zR_w zk_3 (by decide)) (z2_up (show (nI 3 : Int32).toInt = (nI 2 : Int32).toInt + 1 by decide +kernel) (by decide) hN_225) _ _ hP hD hS _ (lv_sub hl [2, 1, 0] rfl)
          refine z_callVi (k := 77) (As := []) (rest := [.int (x_222)]) hx hb hml hown ht (xk_X6_isThere_2 l D q cA F _ _ _ hI ) hw_5_63 hmX6_isThere ⟨rfl, rfl⟩ (na := 0) rfl (by decide +kernel) (by decide) (by decide) rfl rfl hK hP hD hS hA hl.1 rfl (Nat.le_of_ble_eq_true rfl) ⟨Nat.zero_le _, Nat.zero_le _⟩ dX10_filledSlots_16 (fun r_243 I_243 R_243 J_243 H locs hp_243 hP hD hS _ _ => ?_)
          rcases hp_243 with ⟨rfl, hu_243, nn_243⟩ | ⟨rfl, hu_243, nn_243⟩
          · cases hu_243
            have f_248 : zR 0 60 (I 77 1) := x_there (xI hI 77 1) nn_243
            refine lv_if_eq (tgt := 26) hx hb dX10_filledSlots_19 (by decide) (fun c_0 => absurd c_0 (zD_ne zk_1 zk_z (by decide))) (fun _ => ?_)
            refine lv_iconst (v := nI 1) hx hb dX10_filledSlots_22 (by decide +kernel) ?_
            refine lv_goto (tgt := 27) hx hb dX10_filledSlots_23 (by decide) ?_
            exact t_246 (nI 1) (zR_w zk_1 (by decide)) _ _ hP hD hS _ (lv_sub hl [0, 1, 2] rfl)
          · cases hu_243
            refine lv_if_eq (tgt := 26) hx hb dX10_filledSlots_19 (by decide) (fun _ => ?_) (fun c_0 => absurd (zD_eq zk_0 zk_z) c_0)
            refine lv_iconst (v := nI 0) hx hb dX10_filledSlots_26 (by decide +kernel) ?_
            exact t_246 (nI 0) (zR_w zk_0 (by decide)) _ _ hP hD hS _ (lv_sub hl [0, 1, 2] rfl)
        · refine va_aldq hx hb hK hP 72 52 (zw_at (by decide) rfl) rfl (vp_in_nI (by decide) (by decide)) dX10_filledSlots_15 ?_
          refine W.eq (g2 := F0 m 16 ls (.ref (q 79) :: [.int (x_222)])) rfl ?_
          have t_252 : ∀ x_251 : Int32, zR 0 1 x_251 → ∀ (H : Heap) (locs : List Loc), va_P D vwCl (zw 81 q (zXd q cA) I R J) H → va_D (zA 81 q sz) (zw 81 q (zXd q cA) I R J) → va_S (zA 81 q sz) s.heap H locs → ∀ ls : Array Slot, lv_has ls 3 [(0, .ref (q 0)), (1, .int (x_222)), (2, .int (nI 3))] → W p l e ({ frames := 1, cells := 0, slots := 0, locals := 20 } : Room) s m ([.ref (q 0)] : List Value).toArray below meth c H locs 0 0 (MQ below (va_Qi (fun _ u => u = (I, R, J)) (zB D vwCl 81 q (zXd q cA) sz) (zA 81 q sz)) ([.ref (q 0)] : List Value).toArray s 0 0 (zA 81 q sz)) (F0 m 27 ls [.int (x_251), .int (x_222)]) := by
            intro x_251 hx_251 H locs hP hD hS ls hl
            refine lv_iadd hx hb dX10_filledSlots_27 ?_
            refine z_any (fun v_253 => ?_)
            refine lv_istore_n (lv' := [(1, .int (v_253)), (0, .ref (q 0)), (2, .int (nI 3))]) hx hb dX10_filledSlots_28 rfl hl (by decide) rfl (fun ls hl => ?_)
            refine lv_iinc (v := nI 4) (lv' := [(2, .int (nI 4)), (1, .int (v_253)), (0, .ref (q 0))]) hx hb dX10_filledSlots_29 hl (k := 2) rfl (by decide +kernel) (by decide) rfl (fun ls hl => ?_)
            refine lv_goto (tgt := 4) hx hb dX10_filledSlots_32 (by decide) ?_
            exact ih_226 (v_253) (nI 4) (zR_w zk_4 (by decide)) (z2_up (show (nI 4 : Int32).toInt = (nI 3 : Int32).toInt + 1 by decide +kernel) (by decide) hN_225) _ _ hP hD hS _ (lv_sub hl [2, 1, 0] rfl)
          refine z_callVi (k := 79) (As := []) (rest := [.int (x_222)]) hx hb hml hown ht (xk_X6_isThere_3 l D q cA F _ _ _ hI ) hw_5_63 hmX6_isThere ⟨rfl, rfl⟩ (na := 0) rfl (by decide +kernel) (by decide) (by decide) rfl rfl hK hP hD hS hA hl.1 rfl (Nat.le_of_ble_eq_true rfl) ⟨Nat.zero_le _, Nat.zero_le _⟩ dX10_filledSlots_16 (fun r_249 I_249 R_249 J_249 H locs hp_249 hP hD hS _ _ => ?_)
          rcases hp_249 with ⟨rfl, hu_249, nn_249⟩ | ⟨rfl, hu_249, nn_249⟩
          · cases hu_249
            have f_254 : zR 0 60 (I 79 1) := x_there (xI hI 79 1) nn_249
            refine lv_if_eq (tgt := 26) hx hb dX10_filledSlots_19 (by decide) (fun c_0 => absurd c_0 (zD_ne zk_1 zk_z (by decide))) (fun _ => ?_)
            refine lv_iconst (v := nI 1) hx hb dX10_filledSlots_22 (by decide +kernel) ?_
            refine lv_goto (tgt := 27) hx hb dX10_filledSlots_23 (by decide) ?_
            exact t_252 (nI 1) (zR_w zk_1 (by decide)) _ _ hP hD hS _ (lv_sub hl [0, 1, 2] rfl)
          · cases hu_249
            refine lv_if_eq (tgt := 26) hx hb dX10_filledSlots_19 (by decide) (fun _ => ?_) (fun c_0 => absurd (zD_eq zk_0 zk_z) c_0)
            refine lv_iconst (v := nI 0) hx hb dX10_filledSlots_26 (by decide +kernel) ?_
            exact t_252 (nI 0) (zR_w zk_0 (by decide)) _ _ hP hD hS _ (lv_sub hl [0, 1, 2] rfl)
  exact loop_224 _ (nI 0) (nI 0) (zR_w zk_0 (by decide)) (Nat.lt_succ_self _) _ _ hP hD hS _ (lv_sub hl [2, 1, 0] rfl)
set_option maxHeartbeats 4000000 in
set_option maxRecDepth 100000 in
theorem xk_X10_count (l : Launch) (D : va_G) (q : Nat → Nat) (cA : Nat → ClassId) (F : Nat → Nat → Int32) (I R : Nat → Nat → Int32) (J : Nat → Nat → Int64) (hI : xInv F (I, R, J)) (pa0 : Int32) : zMi l D vwCl (zXtys cA) 81 q (zXd q cA) yX10_count cX10_count 2 (some .int) ({ frames := 2, cells := 0, slots := 0, locals := 42 } : Room) [.ref (q 0), .int (pa0)] (I, R, J) (fun _ u => u = (I, R, J)) := by
  intro sz
  refine z_body (by decide +kernel) (Nat.le_of_ble_eq_true rfl) (fun p e s m below meth c ls hx hb hml hr ht hown hlocks hsz hK hP hD hS hl => ?_)
  have hA : ∀ a, s.heap.size ≤ a → zA 81 q sz a := fun a h => Or.inr (hsz ▸ h)
  have hl : lv_has ls 2 [(0, .ref (q 0)), (1, .int (pa0))] := hl
  refine lv_iload_n hx hb dX10_count_0 rfl (lv_at hl 1 rfl) ?_
  rcases (show ((pa0).toInt < 0 ∨ 9 < (pa0).toInt) ∨ (pa0).toInt = 0 ∨ (pa0).toInt = 1 ∨ (pa0).toInt = 2 ∨ (pa0).toInt = 3 ∨ (pa0).toInt = 4 ∨ (pa0).toInt = 5 ∨ (pa0).toInt = 6 ∨ (pa0).toInt = 7 ∨ (pa0).toInt = 8 ∨ (pa0).toInt = 9 by omega) with c_1 | k_2 | k_2 | k_2 | k_2 | k_2 | k_2 | k_2 | k_2 | k_2 | k_2
  · refine lv_tableOut (tgt := 133) hx hb dX10_count_1 c_1 (by decide) ?_
    refine lv_iconst (v := (-1)) hx hb dX10_count_133 (by decide +kernel) ?_
    exact z_iret (v := (-1)) hx hb hr hlocks hP hD hS dX10_count_134 rfl
  · refine lv_tableIn (off := 55) (tgt := 56) hx hb dX10_count_1 (by omega) (by omega) (by rw [k_2]; decide +kernel) (by decide) ?_
    refine lv_aload_n hx hb dX10_count_56 rfl (lv_at hl 0 rfl) ?_
    refine z_get hx hb ht hown hK hP ziX10 rfl 0 (by decide) 1 (by decide) hw_2_94 rfl (v := .ref (q 3)) rfl dX10_count_57 ?_
    refine z_get hx hb ht hown hK hP ziX2 rfl 3 (by decide) 1 (by decide) hw_1_73 rfl (v := .int (I 3 1)) rfl dX10_count_60 ?_
    exact z_iret (v := I 3 1) hx hb hr hlocks hP hD hS dX10_count_63 rfl
  · refine lv_tableIn (off := 63) (tgt := 64) hx hb dX10_count_1 (by omega) (by omega) (by rw [k_2]; decide +kernel) (by decide) ?_
    refine lv_aload_n hx hb dX10_count_64 rfl (lv_at hl 0 rfl) ?_
    refine z_get hx hb ht hown hK hP ziX10 rfl 0 (by decide) 1 (by decide) hw_2_94 rfl (v := .ref (q 3)) rfl dX10_count_65 ?_
    refine z_get hx hb ht hown hK hP ziX2 rfl 3 (by decide) 2 (by decide) hw_1_77 rfl (v := .int (I 3 2)) rfl dX10_count_68 ?_
    exact z_iret (v := I 3 2) hx hb hr hlocks hP hD hS dX10_count_71 rfl
  · refine lv_tableIn (off := 71) (tgt := 72) hx hb dX10_count_1 (by omega) (by omega) (by rw [k_2]; decide +kernel) (by decide) ?_
    refine lv_aload_n hx hb dX10_count_72 rfl (lv_at hl 0 rfl) ?_
    refine z_get hx hb ht hown hK hP ziX10 rfl 0 (by decide) 1 (by decide) hw_2_94 rfl (v := .ref (q 3)) rfl dX10_count_73 ?_
    refine z_get hx hb ht hown hK hP ziX2 rfl 3 (by decide) 3 (by decide) hw_1_80 rfl (v := .int (I 3 3)) rfl dX10_count_76 ?_
    exact z_iret (v := I 3 3) hx hb hr hlocks hP hD hS dX10_count_79 rfl
  · refine lv_tableIn (off := 79) (tgt := 80) hx hb dX10_count_1 (by omega) (by omega) (by rw [k_2]; decide +kernel) (by decide) ?_
    refine lv_aload_n hx hb dX10_count_80 rfl (lv_at hl 0 rfl) ?_
    refine z_get hx hb ht hown hK hP ziX10 rfl 0 (by decide) 1 (by decide) hw_2_94 rfl (v := .ref (q 3)) rfl dX10_count_81 ?_
    refine z_get hx hb ht hown hK hP ziX2 rfl 3 (by decide) 4 (by decide) hw_1_85 rfl (v := .int (I 3 4)) rfl dX10_count_84 ?_
    have f_3 : zR 0 5 (I 3 4) := xI hI 3 4
    exact z_iret (v := I 3 4) hx hb hr hlocks hP hD hS dX10_count_87 rfl
  · refine lv_tableIn (off := 87) (tgt := 88) hx hb dX10_count_1 (by omega) (by omega) (by rw [k_2]; decide +kernel) (by decide) ?_
    refine lv_aload_n hx hb dX10_count_88 rfl (lv_at hl 0 rfl) ?_
    refine z_get hx hb ht hown hK hP ziX10 rfl 0 (by decide) 1 (by decide) hw_2_94 rfl (v := .ref (q 3)) rfl dX10_count_89 ?_
    refine z_get hx hb ht hown hK hP ziX2 rfl 3 (by decide) 5 (by decide) hw_1_93 rfl (v := .int (I 3 5)) rfl dX10_count_92 ?_
    have f_4 : zR 0 6 (I 3 5) := xI hI 3 5
    exact z_iret (v := I 3 5) hx hb hr hlocks hP hD hS dX10_count_95 rfl
  · refine lv_tableIn (off := 95) (tgt := 96) hx hb dX10_count_1 (by omega) (by omega) (by rw [k_2]; decide +kernel) (by decide) ?_
    refine lv_aload_n hx hb dX10_count_96 rfl (lv_at hl 0 rfl) ?_
    refine z_get hx hb ht hown hK hP ziX10 rfl 0 (by decide) 4 (by decide) hw_2_97 rfl (v := .ref (q 15)) rfl dX10_count_97 ?_
    refine z_get hx hb ht hown hK hP ziX9 rfl 15 (by decide) 2 (by decide) hw_1_162 rfl (v := .int (I 15 2)) rfl dX10_count_100 ?_
    have f_5 : zR 0 24 (I 15 2) := xI hI 15 2
    exact z_iret (v := I 15 2) hx hb hr hlocks hP hD hS dX10_count_103 rfl
  · refine lv_tableIn (off := 103) (tgt := 104) hx hb dX10_count_1 (by omega) (by omega) (by rw [k_2]; decide +kernel) (by decide) ?_
    refine lv_aload_n hx hb dX10_count_104 rfl (lv_at hl 0 rfl) ?_
    refine z_get hx hb ht hown hK hP ziX10 rfl 0 (by decide) 3 (by decide) hw_2_96 rfl (v := .ref (q 13)) rfl dX10_count_105 ?_
    refine z_get hx hb ht hown hK hP ziX0 rfl 13 (by decide) 0 (by decide) hw_1_141 rfl (v := .int (I 13 0)) rfl dX10_count_108 ?_
    have f_6 : zR 0 60 (I 13 0) := xI hI 13 0
    exact z_iret (v := I 13 0) hx hb hr hlocks hP hD hS dX10_count_111 rfl
  · refine lv_tableIn (off := 111) (tgt := 112) hx hb dX10_count_1 (by omega) (by omega) (by rw [k_2]; decide +kernel) (by decide) ?_
    refine lv_aload_n hx hb dX10_count_112 rfl (lv_at hl 0 rfl) ?_
    refine z_get hx hb ht hown hK hP ziX10 rfl 0 (by decide) 1 (by decide) hw_2_94 rfl (v := .ref (q 3)) rfl dX10_count_113 ?_
    refine z_get hx hb ht hown hK hP ziX2 rfl 3 (by decide) 0 (by decide) hw_1_68 rfl (v := .int (I 3 0)) rfl dX10_count_116 ?_
    exact z_iret (v := I 3 0) hx hb hr hlocks hP hD hS dX10_count_119 rfl
  · refine lv_tableIn (off := 119) (tgt := 120) hx hb dX10_count_1 (by omega) (by omega) (by rw [k_2]; decide +kernel) (by decide) ?_
    refine lv_aload_n hx hb dX10_count_120 rfl (lv_at hl 0 rfl) ?_
    refine z_get hx hb ht hown hK hP ziX10 rfl 0 (by decide) 0 (by decide) hw_2_93 rfl (v := .ref (q 1)) rfl dX10_count_121 ?_
    refine z_get hx hb ht hown hK hP ziX7 rfl 1 (by decide) 1 (by decide) hw_1_37 rfl (v := .int (I 1 1)) rfl dX10_count_124 ?_
    have f_7 : zR 0 800 (I 1 1) := xI hI 1 1
    exact z_iret (v := I 1 1) hx hb hr hlocks hP hD hS dX10_count_127 rfl
  · refine lv_tableIn (off := 127) (tgt := 128) hx hb dX10_count_1 (by omega) (by omega) (by rw [k_2]; decide +kernel) (by decide) ?_
    refine lv_aload_n hx hb dX10_count_128 rfl (lv_at hl 0 rfl) ?_
    refine z_callVi (k := 0) (As := []) (rest := []) hx hb hml hown ht (xk_X10_filledSlots l D q cA F _ _ _ hI ) hw_5_137 hmX10_filledSlots ⟨rfl, rfl⟩ (na := 0) rfl (by decide +kernel) (by decide) (by decide) rfl rfl hK hP hD hS hA hl.1 rfl (Nat.le_of_ble_eq_true rfl) ⟨Nat.zero_le _, Nat.zero_le _⟩ dX10_count_129 (fun r_8 I_8 R_8 J_8 H locs hp_8 hP hD hS _ _ => ?_)
    cases hp_8
    exact z_iret (v := r_8) hx hb hr hlocks hP hD hS dX10_count_132 rfl
set_option maxHeartbeats 4000000 in
set_option maxRecDepth 100000 in
theorem xk_X2_copyFrom_1 (l : Launch) (D : va_G) (q : Nat → Nat) (cA : Nat → ClassId) (F : Nat → Nat → Int32) (I R : Nat → Nat → Int32) (J : Nat → Nat → Int64) (hI : xInv F (I, R, J))  : zMv l D vwCl (zXtys cA) 81 q (zXd q cA) yX2_copyFrom cX2_copyFrom 2 none ({ frames := 1, cells := 0, slots := 0, locals := 64 } : Room) [.ref (q 49), .ref (q 3)] (I, R, J) (fun u => xInv F u) := by
  intro sz
  refine z_body (by decide +kernel) (Nat.le_of_ble_eq_true rfl) (fun p e s m below meth c ls hx hb hml hr ht hown hlocks hsz hK hP hD hS hl => ?_)
  have hA : ∀ a, s.heap.size ≤ a → zA 81 q sz a := fun a h => Or.inr (hsz ▸ h)
  have hl : lv_has ls 2 [(0, .ref (q 49)), (1, .ref (q 3))] := hl
  refine lv_aload_n hx hb dX2_copyFrom_0 rfl (lv_at hl 0 rfl) ?_
  refine lv_aload_n hx hb dX2_copyFrom_1 rfl (lv_at hl 1 rfl) ?_
  refine z_get hx hb ht hown hK hP ziX2 rfl 3 (by decide) 0 (by decide) hw_1_67 rfl (v := .int (I 3 0)) rfl dX2_copyFrom_2 ?_
  refine z_putI hx hb ht hown hK hP hD hS ziX2 tyX2 tyX2_ok nmX2 rfl 49 (by decide) 0 (by decide) hw_1_67 rfl (v := I 3 0) rfl rfl rfl (Nat.le_of_ble_eq_true rfl) rfl dX2_copyFrom_5 (fun H locs hP hD hS => ?_)
  have hI_1 := xInv_I hI 49 0 (I 3 0) (zR_any (I 3 0)) rfl
  refine lv_aload_n hx hb dX2_copyFrom_8 rfl (lv_at hl 0 rfl) ?_
  refine lv_aload_n hx hb dX2_copyFrom_9 rfl (lv_at hl 1 rfl) ?_
  refine z_get hx hb ht hown hK hP ziX2 rfl 3 (by decide) 1 (by decide) hw_1_70 rfl (v := .int (I 3 1)) rfl dX2_copyFrom_10 ?_
  refine z_putI hx hb ht hown hK hP hD hS ziX2 tyX2 tyX2_ok nmX2 rfl 49 (by decide) 1 (by decide) hw_1_70 rfl (v := I 3 1) rfl rfl rfl (Nat.le_of_ble_eq_true rfl) rfl dX2_copyFrom_13 (fun H locs hP hD hS => ?_)
  have hI_2 := xInv_I hI_1 49 1 (I 3 1) (zR_any (I 3 1)) rfl
  refine lv_aload_n hx hb dX2_copyFrom_16 rfl (lv_at hl 0 rfl) ?_
  refine lv_aload_n hx hb dX2_copyFrom_17 rfl (lv_at hl 1 rfl) ?_
  refine z_get hx hb ht hown hK hP ziX2 rfl 3 (by decide) 2 (by decide) hw_1_74 rfl (v := .int (I 3 2)) rfl dX2_copyFrom_18 ?_
  refine z_putI hx hb ht hown hK hP hD hS ziX2 tyX2 tyX2_ok nmX2 rfl 49 (by decide) 2 (by decide) hw_1_74 rfl (v := I 3 2) rfl rfl rfl (Nat.le_of_ble_eq_true rfl) rfl dX2_copyFrom_21 (fun H locs hP hD hS => ?_)
  have hI_3 := xInv_I hI_2 49 2 (I 3 2) (zR_any (I 3 2)) rfl
  refine lv_aload_n hx hb dX2_copyFrom_24 rfl (lv_at hl 0 rfl) ?_
  refine lv_aload_n hx hb dX2_copyFrom_25 rfl (lv_at hl 1 rfl) ?_
  refine z_get hx hb ht hown hK hP ziX2 rfl 3 (by decide) 3 (by decide) hw_1_78 rfl (v := .int (I 3 3)) rfl dX2_copyFrom_26 ?_
  refine z_putI hx hb ht hown hK hP hD hS ziX2 tyX2 tyX2_ok nmX2 rfl 49 (by decide) 3 (by decide) hw_1_78 rfl (v := I 3 3) rfl rfl rfl (Nat.le_of_ble_eq_true rfl) rfl dX2_copyFrom_29 (fun H locs hP hD hS => ?_)
  have hI_4 := xInv_I hI_3 49 3 (I 3 3) (zR_any (I 3 3)) rfl
  refine lv_aload_n hx hb dX2_copyFrom_32 rfl (lv_at hl 0 rfl) ?_
  refine lv_aload_n hx hb dX2_copyFrom_33 rfl (lv_at hl 1 rfl) ?_
  refine z_get hx hb ht hown hK hP ziX2 rfl 3 (by decide) 4 (by decide) hw_1_81 rfl (v := .int (I 3 4)) rfl dX2_copyFrom_34 ?_
  have f_5 : zR 0 5 (I 3 4) := xI hI 3 4
  refine z_putI hx hb ht hown hK hP hD hS ziX2 tyX2 tyX2_ok nmX2 rfl 49 (by decide) 4 (by decide) hw_1_81 rfl (v := I 3 4) rfl rfl rfl (Nat.le_of_ble_eq_true rfl) rfl dX2_copyFrom_37 (fun H locs hP hD hS => ?_)
  have hI_6 := xInv_I hI_4 49 4 (I 3 4) f_5 rfl
  refine lv_aload_n hx hb dX2_copyFrom_40 rfl (lv_at hl 0 rfl) ?_
  refine lv_aload_n hx hb dX2_copyFrom_41 rfl (lv_at hl 1 rfl) ?_
  refine z_get hx hb ht hown hK hP ziX2 rfl 3 (by decide) 5 (by decide) hw_1_87 rfl (v := .int (I 3 5)) rfl dX2_copyFrom_42 ?_
  have f_7 : zR 0 6 (I 3 5) := xI hI 3 5
  refine z_putI hx hb ht hown hK hP hD hS ziX2 tyX2 tyX2_ok nmX2 rfl 49 (by decide) 5 (by decide) hw_1_87 rfl (v := I 3 5) rfl rfl rfl (Nat.le_of_ble_eq_true rfl) rfl dX2_copyFrom_45 (fun H locs hP hD hS => ?_)
  have hI_8 := xInv_I hI_6 49 5 (I 3 5) f_7 rfl
  refine lv_aload_n hx hb dX2_copyFrom_48 rfl (lv_at hl 0 rfl) ?_
  refine lv_aload_n hx hb dX2_copyFrom_49 rfl (lv_at hl 1 rfl) ?_
  refine z_get hx hb ht hown hK hP ziX2 rfl 3 (by decide) 6 (by decide) hw_1_95 rfl (v := .int (I 3 6)) rfl dX2_copyFrom_50 ?_
  refine z_putI hx hb ht hown hK hP hD hS ziX2 tyX2 tyX2_ok nmX2 rfl 49 (by decide) 6 (by decide) hw_1_95 rfl (v := I 3 6) rfl rfl rfl (Nat.le_of_ble_eq_true rfl) rfl dX2_copyFrom_53 (fun H locs hP hD hS => ?_)
  have hI_9 := xInv_I hI_8 49 6 (I 3 6) (zR_any (I 3 6)) rfl
  refine lv_aload_n hx hb dX2_copyFrom_56 rfl (lv_at hl 1 rfl) ?_
  refine z_get hx hb ht hown hK hP ziX2 rfl 3 (by decide) 7 (by decide) hw_1_97 rfl (v := .ref (q 4)) rfl dX2_copyFrom_57 ?_
  refine lv_iconst (v := nI 0) hx hb dX2_copyFrom_60 (by decide +kernel) ?_
  refine lv_aload_n hx hb dX2_copyFrom_61 rfl (lv_at hl 0 rfl) ?_
  refine z_get hx hb ht hown hK hP ziX2 rfl 49 (by decide) 7 (by decide) hw_1_97 rfl (v := .ref (q 50)) rfl dX2_copyFrom_62 ?_
  refine lv_iconst (v := nI 0) hx hb dX2_copyFrom_65 (by decide +kernel) ?_
  refine lv_iconst (v := nI 5) hx hb dX2_copyFrom_66 (by decide +kernel) ?_
  refine z_copyi hx hb (hml.trans hl.1.symm) ht hown hw_3_42 ⟨hw_3_44, hw_3_43, hw_1_18⟩ hK hP hD hS 4 50 (by decide) (by decide) 1 37 rfl (fun _ => rfl) rfl rfl (by decide +kernel) (by decide +kernel) (by decide +kernel) (by decide +kernel) (by decide +kernel) (by decide) (by decide +kernel) dX2_copyFrom_67 (fun g_10 H locs eg_10 hP hD hS => ?_)
  have hI_11 := xInv_cp hI_9 4 50 eg_10 (by decide) (by decide) rfl
  refine lv_aload_n hx hb dX2_copyFrom_70 rfl (lv_at hl 1 rfl) ?_
  refine z_get hx hb ht hown hK hP ziX2 rfl 3 (by decide) 8 (by decide) hw_1_100 rfl (v := .ref (q 5)) rfl dX2_copyFrom_71 ?_
  refine lv_iconst (v := nI 0) hx hb dX2_copyFrom_74 (by decide +kernel) ?_
  refine lv_aload_n hx hb dX2_copyFrom_75 rfl (lv_at hl 0 rfl) ?_
  refine z_get hx hb ht hown hK hP ziX2 rfl 49 (by decide) 8 (by decide) hw_1_100 rfl (v := .ref (q 51)) rfl dX2_copyFrom_76 ?_
  refine lv_iconst (v := nI 0) hx hb dX2_copyFrom_79 (by decide +kernel) ?_
  refine lv_bipush (v := nI 6) hx hb dX2_copyFrom_80 (by decide +kernel) ?_
  refine z_copyi hx hb (hml.trans hl.1.symm) ht hown hw_3_42 ⟨hw_3_44, hw_3_43, hw_1_18⟩ hK hP hD hS 5 51 (by decide) (by decide) 2 38 rfl (fun _ => rfl) rfl rfl (by decide +kernel) (by decide +kernel) (by decide +kernel) (by decide +kernel) (by decide +kernel) (by decide) (by decide +kernel) dX2_copyFrom_82 (fun g_12 H locs eg_12 hP hD hS => ?_)
  have hI_13 := xInv_cp hI_11 5 51 eg_12 (by decide) (by decide) rfl
  refine lv_aload_n hx hb dX2_copyFrom_85 rfl (lv_at hl 1 rfl) ?_
  refine z_get hx hb ht hown hK hP ziX2 rfl 3 (by decide) 9 (by decide) hw_1_104 rfl (v := .ref (q 6)) rfl dX2_copyFrom_86 ?_
  refine lv_iconst (v := nI 0) hx hb dX2_copyFrom_89 (by decide +kernel) ?_
  refine lv_aload_n hx hb dX2_copyFrom_90 rfl (lv_at hl 0 rfl) ?_
  refine z_get hx hb ht hown hK hP ziX2 rfl 49 (by decide) 9 (by decide) hw_1_104 rfl (v := .ref (q 52)) rfl dX2_copyFrom_91 ?_
  refine lv_iconst (v := nI 0) hx hb dX2_copyFrom_94 (by decide +kernel) ?_
  refine lv_bipush (v := nI 6) hx hb dX2_copyFrom_95 (by decide +kernel) ?_
  refine z_copyi hx hb (hml.trans hl.1.symm) ht hown hw_3_42 ⟨hw_3_44, hw_3_43, hw_1_18⟩ hK hP hD hS 6 52 (by decide) (by decide) 3 39 rfl (fun _ => rfl) rfl rfl (by decide +kernel) (by decide +kernel) (by decide +kernel) (by decide +kernel) (by decide +kernel) (by decide) (by decide +kernel) dX2_copyFrom_97 (fun g_14 H locs eg_14 hP hD hS => ?_)
  have hI_15 := xInv_cp hI_13 6 52 eg_14 (by decide) (by decide) rfl
  refine lv_aload_n hx hb dX2_copyFrom_100 rfl (lv_at hl 1 rfl) ?_
  refine z_get hx hb ht hown hK hP ziX2 rfl 3 (by decide) 10 (by decide) hw_1_109 rfl (v := .ref (q 7)) rfl dX2_copyFrom_101 ?_
  refine lv_iconst (v := nI 0) hx hb dX2_copyFrom_104 (by decide +kernel) ?_
  refine lv_aload_n hx hb dX2_copyFrom_105 rfl (lv_at hl 0 rfl) ?_
  refine z_get hx hb ht hown hK hP ziX2 rfl 49 (by decide) 10 (by decide) hw_1_109 rfl (v := .ref (q 53)) rfl dX2_copyFrom_106 ?_
  refine lv_iconst (v := nI 0) hx hb dX2_copyFrom_109 (by decide +kernel) ?_
  refine lv_bipush (v := nI 30) hx hb dX2_copyFrom_110 (by decide +kernel) ?_
  refine z_copyi hx hb (hml.trans hl.1.symm) ht hown hw_3_42 ⟨hw_3_44, hw_3_43, hw_1_18⟩ hK hP hD hS 7 53 (by decide) (by decide) 4 40 rfl (fun _ => rfl) rfl rfl (by decide +kernel) (by decide +kernel) (by decide +kernel) (by decide +kernel) (by decide +kernel) (by decide) (by decide +kernel) dX2_copyFrom_112 (fun g_16 H locs eg_16 hP hD hS => ?_)
  have hI_17 := xInv_cp hI_15 7 53 eg_16 (by decide) (by decide) rfl
  exact z_vret hx hb hr hlocks hP hD hS dX2_copyFrom_115 hI_17
set_option maxHeartbeats 4000000 in
set_option maxRecDepth 100000 in
theorem xk_X0_copyFrom (l : Launch) (D : va_G) (q : Nat → Nat) (cA : Nat → ClassId) (F : Nat → Nat → Int32) (I R : Nat → Nat → Int32) (J : Nat → Nat → Int64) (hI : xInv F (I, R, J))  : zMv l D vwCl (zXtys cA) 81 q (zXd q cA) yX0_copyFrom cX0_copyFrom 2 none ({ frames := 1, cells := 0, slots := 0, locals := 64 } : Room) [.ref (q 54), .ref (q 13)] (I, R, J) (fun u => xInv F u) := by
  intro sz
  refine z_body (by decide +kernel) (Nat.le_of_ble_eq_true rfl) (fun p e s m below meth c ls hx hb hml hr ht hown hlocks hsz hK hP hD hS hl => ?_)
  have hA : ∀ a, s.heap.size ≤ a → zA 81 q sz a := fun a h => Or.inr (hsz ▸ h)
  have hl : lv_has ls 2 [(0, .ref (q 54)), (1, .ref (q 13))] := hl
  refine lv_aload_n hx hb dX0_copyFrom_0 rfl (lv_at hl 0 rfl) ?_
  refine lv_aload_n hx hb dX0_copyFrom_1 rfl (lv_at hl 1 rfl) ?_
  refine z_get hx hb ht hown hK hP ziX0 rfl 13 (by decide) 0 (by decide) hw_1_140 rfl (v := .int (I 13 0)) rfl dX0_copyFrom_2 ?_
  have f_1 : zR 0 60 (I 13 0) := xI hI 13 0
  refine z_putI hx hb ht hown hK hP hD hS ziX0 tyX0 tyX0_ok nmX0 rfl 54 (by decide) 0 (by decide) hw_1_140 rfl (v := I 13 0) rfl rfl rfl (Nat.le_of_ble_eq_true rfl) rfl dX0_copyFrom_5 (fun H locs hP hD hS => ?_)
  have hI_2 := xInv_I hI 54 0 (I 13 0) f_1 rfl
  refine lv_aload_n hx hb dX0_copyFrom_8 rfl (lv_at hl 1 rfl) ?_
  refine z_get hx hb ht hown hK hP ziX0 rfl 13 (by decide) 1 (by decide) hw_1_142 rfl (v := .ref (q 14)) rfl dX0_copyFrom_9 ?_
  refine lv_iconst (v := nI 0) hx hb dX0_copyFrom_12 (by decide +kernel) ?_
  refine lv_aload_n hx hb dX0_copyFrom_13 rfl (lv_at hl 0 rfl) ?_
  refine z_get hx hb ht hown hK hP ziX0 rfl 54 (by decide) 1 (by decide) hw_1_142 rfl (v := .ref (q 55)) rfl dX0_copyFrom_14 ?_
  refine lv_iconst (v := nI 0) hx hb dX0_copyFrom_17 (by decide +kernel) ?_
  refine lv_sipush (v := nI 240) hx hb dX0_copyFrom_18 (by decide +kernel) ?_
  refine z_copyi hx hb (hml.trans hl.1.symm) ht hown hw_5_149 ⟨hw_3_44, hw_3_43, hw_1_18⟩ hK hP hD hS 14 55 (by decide) (by decide) 9 41 rfl (fun _ => rfl) rfl rfl (by decide +kernel) (by decide +kernel) (by decide +kernel) (by decide +kernel) (by decide +kernel) (by decide) (by decide +kernel) dX0_copyFrom_21 (fun g_3 H locs eg_3 hP hD hS => ?_)
  have hI_4 := xInv_rec hI_2 14 55 eg_3 rfl rfl
  exact z_vret hx hb hr hlocks hP hD hS dX0_copyFrom_24 hI_4
set_option maxHeartbeats 4000000 in
set_option maxRecDepth 100000 in
theorem xk_X2_copyFrom_2 (l : Launch) (D : va_G) (q : Nat → Nat) (cA : Nat → ClassId) (F : Nat → Nat → Int32) (I R : Nat → Nat → Int32) (J : Nat → Nat → Int64) (hI : xInv F (I, R, J))  : zMv l D vwCl (zXtys cA) 81 q (zXd q cA) yX2_copyFrom cX2_copyFrom 2 none ({ frames := 1, cells := 0, slots := 0, locals := 64 } : Room) [.ref (q 57), .ref (q 3)] (I, R, J) (fun u => xInv F u) := by
  intro sz
  refine z_body (by decide +kernel) (Nat.le_of_ble_eq_true rfl) (fun p e s m below meth c ls hx hb hml hr ht hown hlocks hsz hK hP hD hS hl => ?_)
  have hA : ∀ a, s.heap.size ≤ a → zA 81 q sz a := fun a h => Or.inr (hsz ▸ h)
  have hl : lv_has ls 2 [(0, .ref (q 57)), (1, .ref (q 3))] := hl
  refine lv_aload_n hx hb dX2_copyFrom_0 rfl (lv_at hl 0 rfl) ?_
  refine lv_aload_n hx hb dX2_copyFrom_1 rfl (lv_at hl 1 rfl) ?_
  refine z_get hx hb ht hown hK hP ziX2 rfl 3 (by decide) 0 (by decide) hw_1_67 rfl (v := .int (I 3 0)) rfl dX2_copyFrom_2 ?_
  refine z_putI hx hb ht hown hK hP hD hS ziX2 tyX2 tyX2_ok nmX2 rfl 57 (by decide) 0 (by decide) hw_1_67 rfl (v := I 3 0) rfl rfl rfl (Nat.le_of_ble_eq_true rfl) rfl dX2_copyFrom_5 (fun H locs hP hD hS => ?_)
  have hI_1 := xInv_I hI 57 0 (I 3 0) (zR_any (I 3 0)) rfl
  refine lv_aload_n hx hb dX2_copyFrom_8 rfl (lv_at hl 0 rfl) ?_
  refine lv_aload_n hx hb dX2_copyFrom_9 rfl (lv_at hl 1 rfl) ?_
  refine z_get hx hb ht hown hK hP ziX2 rfl 3 (by decide) 1 (by decide) hw_1_70 rfl (v := .int (I 3 1)) rfl dX2_copyFrom_10 ?_
  refine z_putI hx hb ht hown hK hP hD hS ziX2 tyX2 tyX2_ok nmX2 rfl 57 (by decide) 1 (by decide) hw_1_70 rfl (v := I 3 1) rfl rfl rfl (Nat.le_of_ble_eq_true rfl) rfl dX2_copyFrom_13 (fun H locs hP hD hS => ?_)
  have hI_2 := xInv_I hI_1 57 1 (I 3 1) (zR_any (I 3 1)) rfl
  refine lv_aload_n hx hb dX2_copyFrom_16 rfl (lv_at hl 0 rfl) ?_
  refine lv_aload_n hx hb dX2_copyFrom_17 rfl (lv_at hl 1 rfl) ?_
  refine z_get hx hb ht hown hK hP ziX2 rfl 3 (by decide) 2 (by decide) hw_1_74 rfl (v := .int (I 3 2)) rfl dX2_copyFrom_18 ?_
  refine z_putI hx hb ht hown hK hP hD hS ziX2 tyX2 tyX2_ok nmX2 rfl 57 (by decide) 2 (by decide) hw_1_74 rfl (v := I 3 2) rfl rfl rfl (Nat.le_of_ble_eq_true rfl) rfl dX2_copyFrom_21 (fun H locs hP hD hS => ?_)
  have hI_3 := xInv_I hI_2 57 2 (I 3 2) (zR_any (I 3 2)) rfl
  refine lv_aload_n hx hb dX2_copyFrom_24 rfl (lv_at hl 0 rfl) ?_
  refine lv_aload_n hx hb dX2_copyFrom_25 rfl (lv_at hl 1 rfl) ?_
  refine z_get hx hb ht hown hK hP ziX2 rfl 3 (by decide) 3 (by decide) hw_1_78 rfl (v := .int (I 3 3)) rfl dX2_copyFrom_26 ?_
  refine z_putI hx hb ht hown hK hP hD hS ziX2 tyX2 tyX2_ok nmX2 rfl 57 (by decide) 3 (by decide) hw_1_78 rfl (v := I 3 3) rfl rfl rfl (Nat.le_of_ble_eq_true rfl) rfl dX2_copyFrom_29 (fun H locs hP hD hS => ?_)
  have hI_4 := xInv_I hI_3 57 3 (I 3 3) (zR_any (I 3 3)) rfl
  refine lv_aload_n hx hb dX2_copyFrom_32 rfl (lv_at hl 0 rfl) ?_
  refine lv_aload_n hx hb dX2_copyFrom_33 rfl (lv_at hl 1 rfl) ?_
  refine z_get hx hb ht hown hK hP ziX2 rfl 3 (by decide) 4 (by decide) hw_1_81 rfl (v := .int (I 3 4)) rfl dX2_copyFrom_34 ?_
  have f_5 : zR 0 5 (I 3 4) := xI hI 3 4
  refine z_putI hx hb ht hown hK hP hD hS ziX2 tyX2 tyX2_ok nmX2 rfl 57 (by decide) 4 (by decide) hw_1_81 rfl (v := I 3 4) rfl rfl rfl (Nat.le_of_ble_eq_true rfl) rfl dX2_copyFrom_37 (fun H locs hP hD hS => ?_)
  have hI_6 := xInv_I hI_4 57 4 (I 3 4) f_5 rfl
  refine lv_aload_n hx hb dX2_copyFrom_40 rfl (lv_at hl 0 rfl) ?_
  refine lv_aload_n hx hb dX2_copyFrom_41 rfl (lv_at hl 1 rfl) ?_
  refine z_get hx hb ht hown hK hP ziX2 rfl 3 (by decide) 5 (by decide) hw_1_87 rfl (v := .int (I 3 5)) rfl dX2_copyFrom_42 ?_
  have f_7 : zR 0 6 (I 3 5) := xI hI 3 5
  refine z_putI hx hb ht hown hK hP hD hS ziX2 tyX2 tyX2_ok nmX2 rfl 57 (by decide) 5 (by decide) hw_1_87 rfl (v := I 3 5) rfl rfl rfl (Nat.le_of_ble_eq_true rfl) rfl dX2_copyFrom_45 (fun H locs hP hD hS => ?_)
  have hI_8 := xInv_I hI_6 57 5 (I 3 5) f_7 rfl
  refine lv_aload_n hx hb dX2_copyFrom_48 rfl (lv_at hl 0 rfl) ?_
  refine lv_aload_n hx hb dX2_copyFrom_49 rfl (lv_at hl 1 rfl) ?_
  refine z_get hx hb ht hown hK hP ziX2 rfl 3 (by decide) 6 (by decide) hw_1_95 rfl (v := .int (I 3 6)) rfl dX2_copyFrom_50 ?_
  refine z_putI hx hb ht hown hK hP hD hS ziX2 tyX2 tyX2_ok nmX2 rfl 57 (by decide) 6 (by decide) hw_1_95 rfl (v := I 3 6) rfl rfl rfl (Nat.le_of_ble_eq_true rfl) rfl dX2_copyFrom_53 (fun H locs hP hD hS => ?_)
  have hI_9 := xInv_I hI_8 57 6 (I 3 6) (zR_any (I 3 6)) rfl
  refine lv_aload_n hx hb dX2_copyFrom_56 rfl (lv_at hl 1 rfl) ?_
  refine z_get hx hb ht hown hK hP ziX2 rfl 3 (by decide) 7 (by decide) hw_1_97 rfl (v := .ref (q 4)) rfl dX2_copyFrom_57 ?_
  refine lv_iconst (v := nI 0) hx hb dX2_copyFrom_60 (by decide +kernel) ?_
  refine lv_aload_n hx hb dX2_copyFrom_61 rfl (lv_at hl 0 rfl) ?_
  refine z_get hx hb ht hown hK hP ziX2 rfl 57 (by decide) 7 (by decide) hw_1_97 rfl (v := .ref (q 58)) rfl dX2_copyFrom_62 ?_
  refine lv_iconst (v := nI 0) hx hb dX2_copyFrom_65 (by decide +kernel) ?_
  refine lv_iconst (v := nI 5) hx hb dX2_copyFrom_66 (by decide +kernel) ?_
  refine z_copyi hx hb (hml.trans hl.1.symm) ht hown hw_3_42 ⟨hw_3_44, hw_3_43, hw_1_18⟩ hK hP hD hS 4 58 (by decide) (by decide) 1 42 rfl (fun _ => rfl) rfl rfl (by decide +kernel) (by decide +kernel) (by decide +kernel) (by decide +kernel) (by decide +kernel) (by decide) (by decide +kernel) dX2_copyFrom_67 (fun g_10 H locs eg_10 hP hD hS => ?_)
  have hI_11 := xInv_cp hI_9 4 58 eg_10 (by decide) (by decide) rfl
  refine lv_aload_n hx hb dX2_copyFrom_70 rfl (lv_at hl 1 rfl) ?_
  refine z_get hx hb ht hown hK hP ziX2 rfl 3 (by decide) 8 (by decide) hw_1_100 rfl (v := .ref (q 5)) rfl dX2_copyFrom_71 ?_
  refine lv_iconst (v := nI 0) hx hb dX2_copyFrom_74 (by decide +kernel) ?_
  refine lv_aload_n hx hb dX2_copyFrom_75 rfl (lv_at hl 0 rfl) ?_
  refine z_get hx hb ht hown hK hP ziX2 rfl 57 (by decide) 8 (by decide) hw_1_100 rfl (v := .ref (q 59)) rfl dX2_copyFrom_76 ?_
  refine lv_iconst (v := nI 0) hx hb dX2_copyFrom_79 (by decide +kernel) ?_
  refine lv_bipush (v := nI 6) hx hb dX2_copyFrom_80 (by decide +kernel) ?_
  refine z_copyi hx hb (hml.trans hl.1.symm) ht hown hw_3_42 ⟨hw_3_44, hw_3_43, hw_1_18⟩ hK hP hD hS 5 59 (by decide) (by decide) 2 43 rfl (fun _ => rfl) rfl rfl (by decide +kernel) (by decide +kernel) (by decide +kernel) (by decide +kernel) (by decide +kernel) (by decide) (by decide +kernel) dX2_copyFrom_82 (fun g_12 H locs eg_12 hP hD hS => ?_)
  have hI_13 := xInv_cp hI_11 5 59 eg_12 (by decide) (by decide) rfl
  refine lv_aload_n hx hb dX2_copyFrom_85 rfl (lv_at hl 1 rfl) ?_
  refine z_get hx hb ht hown hK hP ziX2 rfl 3 (by decide) 9 (by decide) hw_1_104 rfl (v := .ref (q 6)) rfl dX2_copyFrom_86 ?_
  refine lv_iconst (v := nI 0) hx hb dX2_copyFrom_89 (by decide +kernel) ?_
  refine lv_aload_n hx hb dX2_copyFrom_90 rfl (lv_at hl 0 rfl) ?_
  refine z_get hx hb ht hown hK hP ziX2 rfl 57 (by decide) 9 (by decide) hw_1_104 rfl (v := .ref (q 60)) rfl dX2_copyFrom_91 ?_
  refine lv_iconst (v := nI 0) hx hb dX2_copyFrom_94 (by decide +kernel) ?_
  refine lv_bipush (v := nI 6) hx hb dX2_copyFrom_95 (by decide +kernel) ?_
  refine z_copyi hx hb (hml.trans hl.1.symm) ht hown hw_3_42 ⟨hw_3_44, hw_3_43, hw_1_18⟩ hK hP hD hS 6 60 (by decide) (by decide) 3 44 rfl (fun _ => rfl) rfl rfl (by decide +kernel) (by decide +kernel) (by decide +kernel) (by decide +kernel) (by decide +kernel) (by decide) (by decide +kernel) dX2_copyFrom_97 (fun g_14 H locs eg_14 hP hD hS => ?_)
  have hI_15 := xInv_cp hI_13 6 60 eg_14 (by decide) (by decide) rfl
  refine lv_aload_n hx hb dX2_copyFrom_100 rfl (lv_at hl 1 rfl) ?_
  refine z_get hx hb ht hown hK hP ziX2 rfl 3 (by decide) 10 (by decide) hw_1_109 rfl (v := .ref (q 7)) rfl dX2_copyFrom_101 ?_
  refine lv_iconst (v := nI 0) hx hb dX2_copyFrom_104 (by decide +kernel) ?_
  refine lv_aload_n hx hb dX2_copyFrom_105 rfl (lv_at hl 0 rfl) ?_
  refine z_get hx hb ht hown hK hP ziX2 rfl 57 (by decide) 10 (by decide) hw_1_109 rfl (v := .ref (q 61)) rfl dX2_copyFrom_106 ?_
  refine lv_iconst (v := nI 0) hx hb dX2_copyFrom_109 (by decide +kernel) ?_
  refine lv_bipush (v := nI 30) hx hb dX2_copyFrom_110 (by decide +kernel) ?_
  refine z_copyi hx hb (hml.trans hl.1.symm) ht hown hw_3_42 ⟨hw_3_44, hw_3_43, hw_1_18⟩ hK hP hD hS 7 61 (by decide) (by decide) 4 45 rfl (fun _ => rfl) rfl rfl (by decide +kernel) (by decide +kernel) (by decide +kernel) (by decide +kernel) (by decide +kernel) (by decide) (by decide +kernel) dX2_copyFrom_112 (fun g_16 H locs eg_16 hP hD hS => ?_)
  have hI_17 := xInv_cp hI_15 7 61 eg_16 (by decide) (by decide) rfl
  exact z_vret hx hb hr hlocks hP hD hS dX2_copyFrom_115 hI_17
set_option maxHeartbeats 4000000 in
set_option maxRecDepth 100000 in
theorem xk_X0_copyFrom_1 (l : Launch) (D : va_G) (q : Nat → Nat) (cA : Nat → ClassId) (F : Nat → Nat → Int32) (I R : Nat → Nat → Int32) (J : Nat → Nat → Int64) (hI : xInv F (I, R, J))  : zMv l D vwCl (zXtys cA) 81 q (zXd q cA) yX0_copyFrom cX0_copyFrom 2 none ({ frames := 1, cells := 0, slots := 0, locals := 64 } : Room) [.ref (q 62), .ref (q 13)] (I, R, J) (fun u => xInv F u) := by
  intro sz
  refine z_body (by decide +kernel) (Nat.le_of_ble_eq_true rfl) (fun p e s m below meth c ls hx hb hml hr ht hown hlocks hsz hK hP hD hS hl => ?_)
  have hA : ∀ a, s.heap.size ≤ a → zA 81 q sz a := fun a h => Or.inr (hsz ▸ h)
  have hl : lv_has ls 2 [(0, .ref (q 62)), (1, .ref (q 13))] := hl
  refine lv_aload_n hx hb dX0_copyFrom_0 rfl (lv_at hl 0 rfl) ?_
  refine lv_aload_n hx hb dX0_copyFrom_1 rfl (lv_at hl 1 rfl) ?_
  refine z_get hx hb ht hown hK hP ziX0 rfl 13 (by decide) 0 (by decide) hw_1_140 rfl (v := .int (I 13 0)) rfl dX0_copyFrom_2 ?_
  have f_1 : zR 0 60 (I 13 0) := xI hI 13 0
  refine z_putI hx hb ht hown hK hP hD hS ziX0 tyX0 tyX0_ok nmX0 rfl 62 (by decide) 0 (by decide) hw_1_140 rfl (v := I 13 0) rfl rfl rfl (Nat.le_of_ble_eq_true rfl) rfl dX0_copyFrom_5 (fun H locs hP hD hS => ?_)
  have hI_2 := xInv_I hI 62 0 (I 13 0) f_1 rfl
  refine lv_aload_n hx hb dX0_copyFrom_8 rfl (lv_at hl 1 rfl) ?_
  refine z_get hx hb ht hown hK hP ziX0 rfl 13 (by decide) 1 (by decide) hw_1_142 rfl (v := .ref (q 14)) rfl dX0_copyFrom_9 ?_
  refine lv_iconst (v := nI 0) hx hb dX0_copyFrom_12 (by decide +kernel) ?_
  refine lv_aload_n hx hb dX0_copyFrom_13 rfl (lv_at hl 0 rfl) ?_
  refine z_get hx hb ht hown hK hP ziX0 rfl 62 (by decide) 1 (by decide) hw_1_142 rfl (v := .ref (q 63)) rfl dX0_copyFrom_14 ?_
  refine lv_iconst (v := nI 0) hx hb dX0_copyFrom_17 (by decide +kernel) ?_
  refine lv_sipush (v := nI 240) hx hb dX0_copyFrom_18 (by decide +kernel) ?_
  refine z_copyi hx hb (hml.trans hl.1.symm) ht hown hw_5_149 ⟨hw_3_44, hw_3_43, hw_1_18⟩ hK hP hD hS 14 63 (by decide) (by decide) 9 46 rfl (fun _ => rfl) rfl rfl (by decide +kernel) (by decide +kernel) (by decide +kernel) (by decide +kernel) (by decide +kernel) (by decide) (by decide +kernel) dX0_copyFrom_21 (fun g_3 H locs eg_3 hP hD hS => ?_)
  have hI_4 := xInv_rec hI_2 14 63 eg_3 rfl rfl
  exact z_vret hx hb hr hlocks hP hD hS dX0_copyFrom_24 hI_4
set_option maxHeartbeats 4000000 in
set_option maxRecDepth 100000 in
theorem xk_X2_copyFrom_3 (l : Launch) (D : va_G) (q : Nat → Nat) (cA : Nat → ClassId) (F : Nat → Nat → Int32) (I R : Nat → Nat → Int32) (J : Nat → Nat → Int64) (hI : xInv F (I, R, J))  : zMv l D vwCl (zXtys cA) 81 q (zXd q cA) yX2_copyFrom cX2_copyFrom 2 none ({ frames := 1, cells := 0, slots := 0, locals := 64 } : Room) [.ref (q 65), .ref (q 3)] (I, R, J) (fun u => xInv F u) := by
  intro sz
  refine z_body (by decide +kernel) (Nat.le_of_ble_eq_true rfl) (fun p e s m below meth c ls hx hb hml hr ht hown hlocks hsz hK hP hD hS hl => ?_)
  have hA : ∀ a, s.heap.size ≤ a → zA 81 q sz a := fun a h => Or.inr (hsz ▸ h)
  have hl : lv_has ls 2 [(0, .ref (q 65)), (1, .ref (q 3))] := hl
  refine lv_aload_n hx hb dX2_copyFrom_0 rfl (lv_at hl 0 rfl) ?_
  refine lv_aload_n hx hb dX2_copyFrom_1 rfl (lv_at hl 1 rfl) ?_
  refine z_get hx hb ht hown hK hP ziX2 rfl 3 (by decide) 0 (by decide) hw_1_67 rfl (v := .int (I 3 0)) rfl dX2_copyFrom_2 ?_
  refine z_putI hx hb ht hown hK hP hD hS ziX2 tyX2 tyX2_ok nmX2 rfl 65 (by decide) 0 (by decide) hw_1_67 rfl (v := I 3 0) rfl rfl rfl (Nat.le_of_ble_eq_true rfl) rfl dX2_copyFrom_5 (fun H locs hP hD hS => ?_)
  have hI_1 := xInv_I hI 65 0 (I 3 0) (zR_any (I 3 0)) rfl
  refine lv_aload_n hx hb dX2_copyFrom_8 rfl (lv_at hl 0 rfl) ?_
  refine lv_aload_n hx hb dX2_copyFrom_9 rfl (lv_at hl 1 rfl) ?_
  refine z_get hx hb ht hown hK hP ziX2 rfl 3 (by decide) 1 (by decide) hw_1_70 rfl (v := .int (I 3 1)) rfl dX2_copyFrom_10 ?_
  refine z_putI hx hb ht hown hK hP hD hS ziX2 tyX2 tyX2_ok nmX2 rfl 65 (by decide) 1 (by decide) hw_1_70 rfl (v := I 3 1) rfl rfl rfl (Nat.le_of_ble_eq_true rfl) rfl dX2_copyFrom_13 (fun H locs hP hD hS => ?_)
  have hI_2 := xInv_I hI_1 65 1 (I 3 1) (zR_any (I 3 1)) rfl
  refine lv_aload_n hx hb dX2_copyFrom_16 rfl (lv_at hl 0 rfl) ?_
  refine lv_aload_n hx hb dX2_copyFrom_17 rfl (lv_at hl 1 rfl) ?_
  refine z_get hx hb ht hown hK hP ziX2 rfl 3 (by decide) 2 (by decide) hw_1_74 rfl (v := .int (I 3 2)) rfl dX2_copyFrom_18 ?_
  refine z_putI hx hb ht hown hK hP hD hS ziX2 tyX2 tyX2_ok nmX2 rfl 65 (by decide) 2 (by decide) hw_1_74 rfl (v := I 3 2) rfl rfl rfl (Nat.le_of_ble_eq_true rfl) rfl dX2_copyFrom_21 (fun H locs hP hD hS => ?_)
  have hI_3 := xInv_I hI_2 65 2 (I 3 2) (zR_any (I 3 2)) rfl
  refine lv_aload_n hx hb dX2_copyFrom_24 rfl (lv_at hl 0 rfl) ?_
  refine lv_aload_n hx hb dX2_copyFrom_25 rfl (lv_at hl 1 rfl) ?_
  refine z_get hx hb ht hown hK hP ziX2 rfl 3 (by decide) 3 (by decide) hw_1_78 rfl (v := .int (I 3 3)) rfl dX2_copyFrom_26 ?_
  refine z_putI hx hb ht hown hK hP hD hS ziX2 tyX2 tyX2_ok nmX2 rfl 65 (by decide) 3 (by decide) hw_1_78 rfl (v := I 3 3) rfl rfl rfl (Nat.le_of_ble_eq_true rfl) rfl dX2_copyFrom_29 (fun H locs hP hD hS => ?_)
  have hI_4 := xInv_I hI_3 65 3 (I 3 3) (zR_any (I 3 3)) rfl
  refine lv_aload_n hx hb dX2_copyFrom_32 rfl (lv_at hl 0 rfl) ?_
  refine lv_aload_n hx hb dX2_copyFrom_33 rfl (lv_at hl 1 rfl) ?_
  refine z_get hx hb ht hown hK hP ziX2 rfl 3 (by decide) 4 (by decide) hw_1_81 rfl (v := .int (I 3 4)) rfl dX2_copyFrom_34 ?_
  have f_5 : zR 0 5 (I 3 4) := xI hI 3 4
  refine z_putI hx hb ht hown hK hP hD hS ziX2 tyX2 tyX2_ok nmX2 rfl 65 (by decide) 4 (by decide) hw_1_81 rfl (v := I 3 4) rfl rfl rfl (Nat.le_of_ble_eq_true rfl) rfl dX2_copyFrom_37 (fun H locs hP hD hS => ?_)
  have hI_6 := xInv_I hI_4 65 4 (I 3 4) f_5 rfl
  refine lv_aload_n hx hb dX2_copyFrom_40 rfl (lv_at hl 0 rfl) ?_
  refine lv_aload_n hx hb dX2_copyFrom_41 rfl (lv_at hl 1 rfl) ?_
  refine z_get hx hb ht hown hK hP ziX2 rfl 3 (by decide) 5 (by decide) hw_1_87 rfl (v := .int (I 3 5)) rfl dX2_copyFrom_42 ?_
  have f_7 : zR 0 6 (I 3 5) := xI hI 3 5
  refine z_putI hx hb ht hown hK hP hD hS ziX2 tyX2 tyX2_ok nmX2 rfl 65 (by decide) 5 (by decide) hw_1_87 rfl (v := I 3 5) rfl rfl rfl (Nat.le_of_ble_eq_true rfl) rfl dX2_copyFrom_45 (fun H locs hP hD hS => ?_)
  have hI_8 := xInv_I hI_6 65 5 (I 3 5) f_7 rfl
  refine lv_aload_n hx hb dX2_copyFrom_48 rfl (lv_at hl 0 rfl) ?_
  refine lv_aload_n hx hb dX2_copyFrom_49 rfl (lv_at hl 1 rfl) ?_
  refine z_get hx hb ht hown hK hP ziX2 rfl 3 (by decide) 6 (by decide) hw_1_95 rfl (v := .int (I 3 6)) rfl dX2_copyFrom_50 ?_
  refine z_putI hx hb ht hown hK hP hD hS ziX2 tyX2 tyX2_ok nmX2 rfl 65 (by decide) 6 (by decide) hw_1_95 rfl (v := I 3 6) rfl rfl rfl (Nat.le_of_ble_eq_true rfl) rfl dX2_copyFrom_53 (fun H locs hP hD hS => ?_)
  have hI_9 := xInv_I hI_8 65 6 (I 3 6) (zR_any (I 3 6)) rfl
  refine lv_aload_n hx hb dX2_copyFrom_56 rfl (lv_at hl 1 rfl) ?_
  refine z_get hx hb ht hown hK hP ziX2 rfl 3 (by decide) 7 (by decide) hw_1_97 rfl (v := .ref (q 4)) rfl dX2_copyFrom_57 ?_
  refine lv_iconst (v := nI 0) hx hb dX2_copyFrom_60 (by decide +kernel) ?_
  refine lv_aload_n hx hb dX2_copyFrom_61 rfl (lv_at hl 0 rfl) ?_
  refine z_get hx hb ht hown hK hP ziX2 rfl 65 (by decide) 7 (by decide) hw_1_97 rfl (v := .ref (q 66)) rfl dX2_copyFrom_62 ?_
  refine lv_iconst (v := nI 0) hx hb dX2_copyFrom_65 (by decide +kernel) ?_
  refine lv_iconst (v := nI 5) hx hb dX2_copyFrom_66 (by decide +kernel) ?_
  refine z_copyi hx hb (hml.trans hl.1.symm) ht hown hw_3_42 ⟨hw_3_44, hw_3_43, hw_1_18⟩ hK hP hD hS 4 66 (by decide) (by decide) 1 47 rfl (fun _ => rfl) rfl rfl (by decide +kernel) (by decide +kernel) (by decide +kernel) (by decide +kernel) (by decide +kernel) (by decide) (by decide +kernel) dX2_copyFrom_67 (fun g_10 H locs eg_10 hP hD hS => ?_)
  have hI_11 := xInv_cp hI_9 4 66 eg_10 (by decide) (by decide) rfl
  refine lv_aload_n hx hb dX2_copyFrom_70 rfl (lv_at hl 1 rfl) ?_
  refine z_get hx hb ht hown hK hP ziX2 rfl 3 (by decide) 8 (by decide) hw_1_100 rfl (v := .ref (q 5)) rfl dX2_copyFrom_71 ?_
  refine lv_iconst (v := nI 0) hx hb dX2_copyFrom_74 (by decide +kernel) ?_
  refine lv_aload_n hx hb dX2_copyFrom_75 rfl (lv_at hl 0 rfl) ?_
  refine z_get hx hb ht hown hK hP ziX2 rfl 65 (by decide) 8 (by decide) hw_1_100 rfl (v := .ref (q 67)) rfl dX2_copyFrom_76 ?_
  refine lv_iconst (v := nI 0) hx hb dX2_copyFrom_79 (by decide +kernel) ?_
  refine lv_bipush (v := nI 6) hx hb dX2_copyFrom_80 (by decide +kernel) ?_
  refine z_copyi hx hb (hml.trans hl.1.symm) ht hown hw_3_42 ⟨hw_3_44, hw_3_43, hw_1_18⟩ hK hP hD hS 5 67 (by decide) (by decide) 2 48 rfl (fun _ => rfl) rfl rfl (by decide +kernel) (by decide +kernel) (by decide +kernel) (by decide +kernel) (by decide +kernel) (by decide) (by decide +kernel) dX2_copyFrom_82 (fun g_12 H locs eg_12 hP hD hS => ?_)
  have hI_13 := xInv_cp hI_11 5 67 eg_12 (by decide) (by decide) rfl
  refine lv_aload_n hx hb dX2_copyFrom_85 rfl (lv_at hl 1 rfl) ?_
  refine z_get hx hb ht hown hK hP ziX2 rfl 3 (by decide) 9 (by decide) hw_1_104 rfl (v := .ref (q 6)) rfl dX2_copyFrom_86 ?_
  refine lv_iconst (v := nI 0) hx hb dX2_copyFrom_89 (by decide +kernel) ?_
  refine lv_aload_n hx hb dX2_copyFrom_90 rfl (lv_at hl 0 rfl) ?_
  refine z_get hx hb ht hown hK hP ziX2 rfl 65 (by decide) 9 (by decide) hw_1_104 rfl (v := .ref (q 68)) rfl dX2_copyFrom_91 ?_
  refine lv_iconst (v := nI 0) hx hb dX2_copyFrom_94 (by decide +kernel) ?_
  refine lv_bipush (v := nI 6) hx hb dX2_copyFrom_95 (by decide +kernel) ?_
  refine z_copyi hx hb (hml.trans hl.1.symm) ht hown hw_3_42 ⟨hw_3_44, hw_3_43, hw_1_18⟩ hK hP hD hS 6 68 (by decide) (by decide) 3 49 rfl (fun _ => rfl) rfl rfl (by decide +kernel) (by decide +kernel) (by decide +kernel) (by decide +kernel) (by decide +kernel) (by decide) (by decide +kernel) dX2_copyFrom_97 (fun g_14 H locs eg_14 hP hD hS => ?_)
  have hI_15 := xInv_cp hI_13 6 68 eg_14 (by decide) (by decide) rfl
  refine lv_aload_n hx hb dX2_copyFrom_100 rfl (lv_at hl 1 rfl) ?_
  refine z_get hx hb ht hown hK hP ziX2 rfl 3 (by decide) 10 (by decide) hw_1_109 rfl (v := .ref (q 7)) rfl dX2_copyFrom_101 ?_
  refine lv_iconst (v := nI 0) hx hb dX2_copyFrom_104 (by decide +kernel) ?_
  refine lv_aload_n hx hb dX2_copyFrom_105 rfl (lv_at hl 0 rfl) ?_
  refine z_get hx hb ht hown hK hP ziX2 rfl 65 (by decide) 10 (by decide) hw_1_109 rfl (v := .ref (q 69)) rfl dX2_copyFrom_106 ?_
  refine lv_iconst (v := nI 0) hx hb dX2_copyFrom_109 (by decide +kernel) ?_
  refine lv_bipush (v := nI 30) hx hb dX2_copyFrom_110 (by decide +kernel) ?_
  refine z_copyi hx hb (hml.trans hl.1.symm) ht hown hw_3_42 ⟨hw_3_44, hw_3_43, hw_1_18⟩ hK hP hD hS 7 69 (by decide) (by decide) 4 50 rfl (fun _ => rfl) rfl rfl (by decide +kernel) (by decide +kernel) (by decide +kernel) (by decide +kernel) (by decide +kernel) (by decide) (by decide +kernel) dX2_copyFrom_112 (fun g_16 H locs eg_16 hP hD hS => ?_)
  have hI_17 := xInv_cp hI_15 7 69 eg_16 (by decide) (by decide) rfl
  exact z_vret hx hb hr hlocks hP hD hS dX2_copyFrom_115 hI_17
set_option maxHeartbeats 4000000 in
set_option maxRecDepth 100000 in
theorem xk_X0_copyFrom_2 (l : Launch) (D : va_G) (q : Nat → Nat) (cA : Nat → ClassId) (F : Nat → Nat → Int32) (I R : Nat → Nat → Int32) (J : Nat → Nat → Int64) (hI : xInv F (I, R, J))  : zMv l D vwCl (zXtys cA) 81 q (zXd q cA) yX0_copyFrom cX0_copyFrom 2 none ({ frames := 1, cells := 0, slots := 0, locals := 64 } : Room) [.ref (q 70), .ref (q 13)] (I, R, J) (fun u => xInv F u) := by
  intro sz
  refine z_body (by decide +kernel) (Nat.le_of_ble_eq_true rfl) (fun p e s m below meth c ls hx hb hml hr ht hown hlocks hsz hK hP hD hS hl => ?_)
  have hA : ∀ a, s.heap.size ≤ a → zA 81 q sz a := fun a h => Or.inr (hsz ▸ h)
  have hl : lv_has ls 2 [(0, .ref (q 70)), (1, .ref (q 13))] := hl
  refine lv_aload_n hx hb dX0_copyFrom_0 rfl (lv_at hl 0 rfl) ?_
  refine lv_aload_n hx hb dX0_copyFrom_1 rfl (lv_at hl 1 rfl) ?_
  refine z_get hx hb ht hown hK hP ziX0 rfl 13 (by decide) 0 (by decide) hw_1_140 rfl (v := .int (I 13 0)) rfl dX0_copyFrom_2 ?_
  have f_1 : zR 0 60 (I 13 0) := xI hI 13 0
  refine z_putI hx hb ht hown hK hP hD hS ziX0 tyX0 tyX0_ok nmX0 rfl 70 (by decide) 0 (by decide) hw_1_140 rfl (v := I 13 0) rfl rfl rfl (Nat.le_of_ble_eq_true rfl) rfl dX0_copyFrom_5 (fun H locs hP hD hS => ?_)
  have hI_2 := xInv_I hI 70 0 (I 13 0) f_1 rfl
  refine lv_aload_n hx hb dX0_copyFrom_8 rfl (lv_at hl 1 rfl) ?_
  refine z_get hx hb ht hown hK hP ziX0 rfl 13 (by decide) 1 (by decide) hw_1_142 rfl (v := .ref (q 14)) rfl dX0_copyFrom_9 ?_
  refine lv_iconst (v := nI 0) hx hb dX0_copyFrom_12 (by decide +kernel) ?_
  refine lv_aload_n hx hb dX0_copyFrom_13 rfl (lv_at hl 0 rfl) ?_
  refine z_get hx hb ht hown hK hP ziX0 rfl 70 (by decide) 1 (by decide) hw_1_142 rfl (v := .ref (q 71)) rfl dX0_copyFrom_14 ?_
  refine lv_iconst (v := nI 0) hx hb dX0_copyFrom_17 (by decide +kernel) ?_
  refine lv_sipush (v := nI 240) hx hb dX0_copyFrom_18 (by decide +kernel) ?_
  refine z_copyi hx hb (hml.trans hl.1.symm) ht hown hw_5_149 ⟨hw_3_44, hw_3_43, hw_1_18⟩ hK hP hD hS 14 71 (by decide) (by decide) 9 51 rfl (fun _ => rfl) rfl rfl (by decide +kernel) (by decide +kernel) (by decide +kernel) (by decide +kernel) (by decide +kernel) (by decide) (by decide +kernel) dX0_copyFrom_21 (fun g_3 H locs eg_3 hP hD hS => ?_)
  have hI_4 := xInv_rec hI_2 14 71 eg_3 rfl rfl
  exact z_vret hx hb hr hlocks hP hD hS dX0_copyFrom_24 hI_4
set_option maxHeartbeats 4000000 in
set_option maxRecDepth 100000 in
theorem xk_X10_image (l : Launch) (D : va_G) (q : Nat → Nat) (cA : Nat → ClassId) (F : Nat → Nat → Int32) (I R : Nat → Nat → Int32) (J : Nat → Nat → Int64) (hI : xInv F (I, R, J)) (pa0 : Int32) : zMi l D vwCl (zXtys cA) 81 q (zXd q cA) yX10_image cX10_image 3 (some .int) ({ frames := 2, cells := 0, slots := 0, locals := 85 } : Room) [.ref (q 0), .int (pa0)] (I, R, J) (fun r u => ((pa0.toInt < 0 ∨ 2 < pa0.toInt) ∧ r = (-2) ∧ u = (I, R, J)) ∨ (¬ (pa0.toInt < 0 ∨ 2 < pa0.toInt) ∧ r = nI 0 ∧ xInv (ximg F pa0) u)) := by
  intro sz
  refine z_body (by decide +kernel) (Nat.le_of_ble_eq_true rfl) (fun p e s m below meth c ls hx hb hml hr ht hown hlocks hsz hK hP hD hS hl => ?_)
  have hA : ∀ a, s.heap.size ≤ a → zA 81 q sz a := fun a h => Or.inr (hsz ▸ h)
  have hl : lv_has ls 3 [(0, .ref (q 0)), (1, .int (pa0))] := hl
  refine lv_iload_n hx hb dX10_image_0 rfl (lv_at hl 1 rfl) ?_
  refine lv_if_lt (tgt := 9) hx hb dX10_image_1 (by decide) (fun c_1 => ?_) (fun c_1 => ?_)
  · have t_c_1 := z_ltT c_1
    have f_2 : zR (-2147483648) (-1) (pa0) := zR_ltx t_c_1 (zR_any (pa0)) zk_z (by decide)
    refine lv_bipush (v := (-2)) hx hb dX10_image_9 (by decide +kernel) ?_
    exact z_iret (v := (-2)) hx hb hr hlocks hP hD hS dX10_image_11 (Or.inl ⟨(by obtain ⟨_, _⟩ := f_2; omega), rfl, rfl⟩)
  · have t_c_1 := z_ltF c_1
    have f_3 : zR 0 2147483647 (pa0) := zR_ley t_c_1 zk_z (zR_any (pa0)) (by decide)
    refine lv_iload_n hx hb dX10_image_4 rfl (lv_at hl 1 rfl) ?_
    refine lv_iconst (v := nI 3) hx hb dX10_image_5 (by decide +kernel) ?_
    refine lv_icmp_lt (tgt := 12) hx hb dX10_image_6 (by decide) (fun c_4 => ?_) (fun c_4 => ?_)
    · have t_c_4 := z_ltT c_4
      have f_5 : zR 0 2 (pa0) := zR_ltx t_c_4 f_3 zk_3 (by decide)
      refine lv_aload_n hx hb dX10_image_12 rfl (lv_at hl 0 rfl) ?_
      refine z_get hx hb ht hown hK hP ziX10 rfl 0 (by decide) 10 (by decide) hw_2_103 rfl (v := .ref (q 47)) rfl dX10_image_13 ?_
      refine lv_iload_n hx hb dX10_image_16 rfl (lv_at hl 1 rfl) ?_
      obtain ⟨n_6, hn_6, rfl⟩ := z_ex (x := pa0) (N := 3) (zR_w f_5 (a' := 0) (b' := 2) (by decide)).1 (Int.lt_of_le_of_lt (zR_w f_5 (a' := 0) (b' := 2) (by decide)).2 (by decide))
      rcases (show n_6 = 0 ∨ n_6 = 1 ∨ n_6 = 2 by omega) with rfl | rfl | rfl
      · refine va_aldq hx hb hK hP 47 36 (zw_at (by decide) rfl) rfl (vp_in_nI (by decide) (by decide)) dX10_image_17 ?_
        refine W.eq (g2 := F0 m 18 ls (.ref (q 48) :: [])) rfl ?_
        refine lv_astore_n (lv' := [(2, .ref (q 48)), (0, .ref (q 0)), (1, .int (nI 0))]) hx hb dX10_image_18 rfl hl (by decide) rfl (fun ls hl => ?_)
        refine lv_aload_n hx hb dX10_image_19 rfl (lv_at hl 0 rfl) ?_
        refine lv_iconst (v := nI 1) hx hb dX10_image_20 (by decide +kernel) ?_
        refine z_putI hx hb ht hown hK hP hD hS ziX5 tyX5 tyX5_ok nmX5 rfl 48 (by decide) 0 (by decide) hw_2_60 rfl (v := nI 1) (by decide +kernel) (by decide +kernel) rfl (Nat.le_of_ble_eq_true rfl) rfl dX10_image_21 (fun H locs hP hD hS => ?_)
        have hI_7 := xInv_F hI 48 0 (nI 1) (zR_w zk_1 (by decide))
        refine lv_aload_n hx hb dX10_image_24 rfl (lv_at hl 0 rfl) ?_
        refine z_get hx hb ht hown hK hP ziX5 rfl 48 (by decide) 1 (by decide) hw_2_62 rfl (v := .ref (q 49)) rfl dX10_image_25 ?_
        refine lv_aload_n hx hb dX10_image_28 rfl (lv_at hl 1 rfl) ?_
        refine z_get hx hb ht hown hK hP ziX10 rfl 0 (by decide) 1 (by decide) hw_2_94 rfl (v := .ref (q 3)) rfl dX10_image_29 ?_
        refine z_callVv (k := 49) (As := [.ref (q 3)]) (rest := []) hx hb hml hown ht (xk_X2_copyFrom_1 l D q cA (zp F 48 0 (nI 1)) _ _ _ hI_7 ) hw_3_38 hmX2_copyFrom ⟨rfl, rfl⟩ (na := 1) rfl (by decide +kernel) (by decide) (by decide) rfl rfl hK hP hD hS hA hl.1 rfl (Nat.le_of_ble_eq_true rfl) ⟨Nat.zero_le _, Nat.zero_le _⟩ dX10_image_32 (fun I_8 R_8 J_8 H locs hp_8 hP hD hS _ _ => ?_)
        refine lv_aload_n hx hb dX10_image_35 rfl (lv_at hl 0 rfl) ?_
        refine z_get hx hb ht hown hK hP ziX5 rfl 48 (by decide) 2 (by decide) hw_2_64 rfl (v := .ref (q 54)) rfl dX10_image_36 ?_
        refine lv_aload_n hx hb dX10_image_39 rfl (lv_at hl 1 rfl) ?_
        refine z_get hx hb ht hown hK hP ziX10 rfl 0 (by decide) 3 (by decide) hw_2_96 rfl (v := .ref (q 13)) rfl dX10_image_40 ?_
        refine z_callVv (k := 54) (As := [.ref (q 13)]) (rest := []) hx hb hml hown ht (xk_X0_copyFrom l D q cA (zp F 48 0 (nI 1)) _ _ _ hp_8 ) hw_5_145 hmX0_copyFrom ⟨rfl, rfl⟩ (na := 1) rfl (by decide +kernel) (by decide) (by decide) rfl rfl hK hP hD hS hA hl.1 rfl (Nat.le_of_ble_eq_true rfl) ⟨Nat.zero_le _, Nat.zero_le _⟩ dX10_image_43 (fun I_9 R_9 J_9 H locs hp_9 hP hD hS _ _ => ?_)
        refine lv_iconst (v := nI 0) hx hb dX10_image_46 (by decide +kernel) ?_
        exact z_iret (v := nI 0) hx hb hr hlocks hP hD hS dX10_image_47 (Or.inr ⟨(by obtain ⟨_, _⟩ := zk_0; omega), rfl, hp_9⟩)
      · refine va_aldq hx hb hK hP 47 36 (zw_at (by decide) rfl) rfl (vp_in_nI (by decide) (by decide)) dX10_image_17 ?_
        refine W.eq (g2 := F0 m 18 ls (.ref (q 56) :: [])) rfl ?_
        refine lv_astore_n (lv' := [(2, .ref (q 56)), (0, .ref (q 0)), (1, .int (nI 1))]) hx hb dX10_image_18 rfl hl (by decide) rfl (fun ls hl => ?_)
        refine lv_aload_n hx hb dX10_image_19 rfl (lv_at hl 0 rfl) ?_
        refine lv_iconst (v := nI 1) hx hb dX10_image_20 (by decide +kernel) ?_
        refine z_putI hx hb ht hown hK hP hD hS ziX5 tyX5 tyX5_ok nmX5 rfl 56 (by decide) 0 (by decide) hw_2_60 rfl (v := nI 1) (by decide +kernel) (by decide +kernel) rfl (Nat.le_of_ble_eq_true rfl) rfl dX10_image_21 (fun H locs hP hD hS => ?_)
        have hI_10 := xInv_F hI 56 0 (nI 1) (zR_w zk_1 (by decide))
        refine lv_aload_n hx hb dX10_image_24 rfl (lv_at hl 0 rfl) ?_
        refine z_get hx hb ht hown hK hP ziX5 rfl 56 (by decide) 1 (by decide) hw_2_62 rfl (v := .ref (q 57)) rfl dX10_image_25 ?_
        refine lv_aload_n hx hb dX10_image_28 rfl (lv_at hl 1 rfl) ?_
        refine z_get hx hb ht hown hK hP ziX10 rfl 0 (by decide) 1 (by decide) hw_2_94 rfl (v := .ref (q 3)) rfl dX10_image_29 ?_
        refine z_callVv (k := 57) (As := [.ref (q 3)]) (rest := []) hx hb hml hown ht (xk_X2_copyFrom_2 l D q cA (zp F 56 0 (nI 1)) _ _ _ hI_10 ) hw_3_38 hmX2_copyFrom ⟨rfl, rfl⟩ (na := 1) rfl (by decide +kernel) (by decide) (by decide) rfl rfl hK hP hD hS hA hl.1 rfl (Nat.le_of_ble_eq_true rfl) ⟨Nat.zero_le _, Nat.zero_le _⟩ dX10_image_32 (fun I_11 R_11 J_11 H locs hp_11 hP hD hS _ _ => ?_)
        refine lv_aload_n hx hb dX10_image_35 rfl (lv_at hl 0 rfl) ?_
        refine z_get hx hb ht hown hK hP ziX5 rfl 56 (by decide) 2 (by decide) hw_2_64 rfl (v := .ref (q 62)) rfl dX10_image_36 ?_
        refine lv_aload_n hx hb dX10_image_39 rfl (lv_at hl 1 rfl) ?_
        refine z_get hx hb ht hown hK hP ziX10 rfl 0 (by decide) 3 (by decide) hw_2_96 rfl (v := .ref (q 13)) rfl dX10_image_40 ?_
        refine z_callVv (k := 62) (As := [.ref (q 13)]) (rest := []) hx hb hml hown ht (xk_X0_copyFrom_1 l D q cA (zp F 56 0 (nI 1)) _ _ _ hp_11 ) hw_5_145 hmX0_copyFrom ⟨rfl, rfl⟩ (na := 1) rfl (by decide +kernel) (by decide) (by decide) rfl rfl hK hP hD hS hA hl.1 rfl (Nat.le_of_ble_eq_true rfl) ⟨Nat.zero_le _, Nat.zero_le _⟩ dX10_image_43 (fun I_12 R_12 J_12 H locs hp_12 hP hD hS _ _ => ?_)
        refine lv_iconst (v := nI 0) hx hb dX10_image_46 (by decide +kernel) ?_
        exact z_iret (v := nI 0) hx hb hr hlocks hP hD hS dX10_image_47 (Or.inr ⟨(by obtain ⟨_, _⟩ := zk_1; omega), rfl, hp_12⟩)
      · refine va_aldq hx hb hK hP 47 36 (zw_at (by decide) rfl) rfl (vp_in_nI (by decide) (by decide)) dX10_image_17 ?_
        refine W.eq (g2 := F0 m 18 ls (.ref (q 64) :: [])) rfl ?_
        refine lv_astore_n (lv' := [(2, .ref (q 64)), (0, .ref (q 0)), (1, .int (nI 2))]) hx hb dX10_image_18 rfl hl (by decide) rfl (fun ls hl => ?_)
        refine lv_aload_n hx hb dX10_image_19 rfl (lv_at hl 0 rfl) ?_
        refine lv_iconst (v := nI 1) hx hb dX10_image_20 (by decide +kernel) ?_
        refine z_putI hx hb ht hown hK hP hD hS ziX5 tyX5 tyX5_ok nmX5 rfl 64 (by decide) 0 (by decide) hw_2_60 rfl (v := nI 1) (by decide +kernel) (by decide +kernel) rfl (Nat.le_of_ble_eq_true rfl) rfl dX10_image_21 (fun H locs hP hD hS => ?_)
        have hI_13 := xInv_F hI 64 0 (nI 1) (zR_w zk_1 (by decide))
        refine lv_aload_n hx hb dX10_image_24 rfl (lv_at hl 0 rfl) ?_
        refine z_get hx hb ht hown hK hP ziX5 rfl 64 (by decide) 1 (by decide) hw_2_62 rfl (v := .ref (q 65)) rfl dX10_image_25 ?_
        refine lv_aload_n hx hb dX10_image_28 rfl (lv_at hl 1 rfl) ?_
        refine z_get hx hb ht hown hK hP ziX10 rfl 0 (by decide) 1 (by decide) hw_2_94 rfl (v := .ref (q 3)) rfl dX10_image_29 ?_
        refine z_callVv (k := 65) (As := [.ref (q 3)]) (rest := []) hx hb hml hown ht (xk_X2_copyFrom_3 l D q cA (zp F 64 0 (nI 1)) _ _ _ hI_13 ) hw_3_38 hmX2_copyFrom ⟨rfl, rfl⟩ (na := 1) rfl (by decide +kernel) (by decide) (by decide) rfl rfl hK hP hD hS hA hl.1 rfl (Nat.le_of_ble_eq_true rfl) ⟨Nat.zero_le _, Nat.zero_le _⟩ dX10_image_32 (fun I_14 R_14 J_14 H locs hp_14 hP hD hS _ _ => ?_)
        refine lv_aload_n hx hb dX10_image_35 rfl (lv_at hl 0 rfl) ?_
        refine z_get hx hb ht hown hK hP ziX5 rfl 64 (by decide) 2 (by decide) hw_2_64 rfl (v := .ref (q 70)) rfl dX10_image_36 ?_
        refine lv_aload_n hx hb dX10_image_39 rfl (lv_at hl 1 rfl) ?_
        refine z_get hx hb ht hown hK hP ziX10 rfl 0 (by decide) 3 (by decide) hw_2_96 rfl (v := .ref (q 13)) rfl dX10_image_40 ?_
        refine z_callVv (k := 70) (As := [.ref (q 13)]) (rest := []) hx hb hml hown ht (xk_X0_copyFrom_2 l D q cA (zp F 64 0 (nI 1)) _ _ _ hp_14 ) hw_5_145 hmX0_copyFrom ⟨rfl, rfl⟩ (na := 1) rfl (by decide +kernel) (by decide) (by decide) rfl rfl hK hP hD hS hA hl.1 rfl (Nat.le_of_ble_eq_true rfl) ⟨Nat.zero_le _, Nat.zero_le _⟩ dX10_image_43 (fun I_15 R_15 J_15 H locs hp_15 hP hD hS _ _ => ?_)
        refine lv_iconst (v := nI 0) hx hb dX10_image_46 (by decide +kernel) ?_
        exact z_iret (v := nI 0) hx hb hr hlocks hP hD hS dX10_image_47 (Or.inr ⟨(by obtain ⟨_, _⟩ := zk_2; omega), rfl, hp_15⟩)
    · have t_c_4 := z_ltF c_4
      have f_16 : zR 3 2147483647 (pa0) := zR_ley t_c_4 zk_3 f_3 (by decide)
      refine lv_bipush (v := (-2)) hx hb dX10_image_9 (by decide +kernel) ?_
      exact z_iret (v := (-2)) hx hb hr hlocks hP hD hS dX10_image_11 (Or.inl ⟨(by obtain ⟨_, _⟩ := f_16; omega), rfl, rfl⟩)
set_option maxHeartbeats 4000000 in
set_option maxRecDepth 100000 in
theorem xk_X2_copyFrom_4 (l : Launch) (D : va_G) (q : Nat → Nat) (cA : Nat → ClassId) (F : Nat → Nat → Int32) (I R : Nat → Nat → Int32) (J : Nat → Nat → Int64) (hI : xInv F (I, R, J))  : zMv l D vwCl (zXtys cA) 81 q (zXd q cA) yX2_copyFrom cX2_copyFrom 2 none ({ frames := 1, cells := 0, slots := 0, locals := 64 } : Room) [.ref (q 3), .ref (q 49)] (I, R, J) (fun u => xInv F u) := by
  intro sz
  refine z_body (by decide +kernel) (Nat.le_of_ble_eq_true rfl) (fun p e s m below meth c ls hx hb hml hr ht hown hlocks hsz hK hP hD hS hl => ?_)
  have hA : ∀ a, s.heap.size ≤ a → zA 81 q sz a := fun a h => Or.inr (hsz ▸ h)
  have hl : lv_has ls 2 [(0, .ref (q 3)), (1, .ref (q 49))] := hl
  refine lv_aload_n hx hb dX2_copyFrom_0 rfl (lv_at hl 0 rfl) ?_
  refine lv_aload_n hx hb dX2_copyFrom_1 rfl (lv_at hl 1 rfl) ?_
  refine z_get hx hb ht hown hK hP ziX2 rfl 49 (by decide) 0 (by decide) hw_1_67 rfl (v := .int (I 49 0)) rfl dX2_copyFrom_2 ?_
  refine z_putI hx hb ht hown hK hP hD hS ziX2 tyX2 tyX2_ok nmX2 rfl 3 (by decide) 0 (by decide) hw_1_67 rfl (v := I 49 0) rfl rfl rfl (Nat.le_of_ble_eq_true rfl) rfl dX2_copyFrom_5 (fun H locs hP hD hS => ?_)
  have hI_1 := xInv_I hI 3 0 (I 49 0) (zR_any (I 49 0)) rfl
  refine lv_aload_n hx hb dX2_copyFrom_8 rfl (lv_at hl 0 rfl) ?_
  refine lv_aload_n hx hb dX2_copyFrom_9 rfl (lv_at hl 1 rfl) ?_
  refine z_get hx hb ht hown hK hP ziX2 rfl 49 (by decide) 1 (by decide) hw_1_70 rfl (v := .int (I 49 1)) rfl dX2_copyFrom_10 ?_
  refine z_putI hx hb ht hown hK hP hD hS ziX2 tyX2 tyX2_ok nmX2 rfl 3 (by decide) 1 (by decide) hw_1_70 rfl (v := I 49 1) rfl rfl rfl (Nat.le_of_ble_eq_true rfl) rfl dX2_copyFrom_13 (fun H locs hP hD hS => ?_)
  have hI_2 := xInv_I hI_1 3 1 (I 49 1) (zR_any (I 49 1)) rfl
  refine lv_aload_n hx hb dX2_copyFrom_16 rfl (lv_at hl 0 rfl) ?_
  refine lv_aload_n hx hb dX2_copyFrom_17 rfl (lv_at hl 1 rfl) ?_
  refine z_get hx hb ht hown hK hP ziX2 rfl 49 (by decide) 2 (by decide) hw_1_74 rfl (v := .int (I 49 2)) rfl dX2_copyFrom_18 ?_
  refine z_putI hx hb ht hown hK hP hD hS ziX2 tyX2 tyX2_ok nmX2 rfl 3 (by decide) 2 (by decide) hw_1_74 rfl (v := I 49 2) rfl rfl rfl (Nat.le_of_ble_eq_true rfl) rfl dX2_copyFrom_21 (fun H locs hP hD hS => ?_)
  have hI_3 := xInv_I hI_2 3 2 (I 49 2) (zR_any (I 49 2)) rfl
  refine lv_aload_n hx hb dX2_copyFrom_24 rfl (lv_at hl 0 rfl) ?_
  refine lv_aload_n hx hb dX2_copyFrom_25 rfl (lv_at hl 1 rfl) ?_
  refine z_get hx hb ht hown hK hP ziX2 rfl 49 (by decide) 3 (by decide) hw_1_78 rfl (v := .int (I 49 3)) rfl dX2_copyFrom_26 ?_
  refine z_putI hx hb ht hown hK hP hD hS ziX2 tyX2 tyX2_ok nmX2 rfl 3 (by decide) 3 (by decide) hw_1_78 rfl (v := I 49 3) rfl rfl rfl (Nat.le_of_ble_eq_true rfl) rfl dX2_copyFrom_29 (fun H locs hP hD hS => ?_)
  have hI_4 := xInv_I hI_3 3 3 (I 49 3) (zR_any (I 49 3)) rfl
  refine lv_aload_n hx hb dX2_copyFrom_32 rfl (lv_at hl 0 rfl) ?_
  refine lv_aload_n hx hb dX2_copyFrom_33 rfl (lv_at hl 1 rfl) ?_
  refine z_get hx hb ht hown hK hP ziX2 rfl 49 (by decide) 4 (by decide) hw_1_81 rfl (v := .int (I 49 4)) rfl dX2_copyFrom_34 ?_
  have f_5 : zR 0 5 (I 49 4) := xI hI 49 4
  refine z_putI hx hb ht hown hK hP hD hS ziX2 tyX2 tyX2_ok nmX2 rfl 3 (by decide) 4 (by decide) hw_1_81 rfl (v := I 49 4) rfl rfl rfl (Nat.le_of_ble_eq_true rfl) rfl dX2_copyFrom_37 (fun H locs hP hD hS => ?_)
  have hI_6 := xInv_I hI_4 3 4 (I 49 4) f_5 rfl
  refine lv_aload_n hx hb dX2_copyFrom_40 rfl (lv_at hl 0 rfl) ?_
  refine lv_aload_n hx hb dX2_copyFrom_41 rfl (lv_at hl 1 rfl) ?_
  refine z_get hx hb ht hown hK hP ziX2 rfl 49 (by decide) 5 (by decide) hw_1_87 rfl (v := .int (I 49 5)) rfl dX2_copyFrom_42 ?_
  have f_7 : zR 0 6 (I 49 5) := xI hI 49 5
  refine z_putI hx hb ht hown hK hP hD hS ziX2 tyX2 tyX2_ok nmX2 rfl 3 (by decide) 5 (by decide) hw_1_87 rfl (v := I 49 5) rfl rfl rfl (Nat.le_of_ble_eq_true rfl) rfl dX2_copyFrom_45 (fun H locs hP hD hS => ?_)
  have hI_8 := xInv_I hI_6 3 5 (I 49 5) f_7 rfl
  refine lv_aload_n hx hb dX2_copyFrom_48 rfl (lv_at hl 0 rfl) ?_
  refine lv_aload_n hx hb dX2_copyFrom_49 rfl (lv_at hl 1 rfl) ?_
  refine z_get hx hb ht hown hK hP ziX2 rfl 49 (by decide) 6 (by decide) hw_1_95 rfl (v := .int (I 49 6)) rfl dX2_copyFrom_50 ?_
  refine z_putI hx hb ht hown hK hP hD hS ziX2 tyX2 tyX2_ok nmX2 rfl 3 (by decide) 6 (by decide) hw_1_95 rfl (v := I 49 6) rfl rfl rfl (Nat.le_of_ble_eq_true rfl) rfl dX2_copyFrom_53 (fun H locs hP hD hS => ?_)
  have hI_9 := xInv_I hI_8 3 6 (I 49 6) (zR_any (I 49 6)) rfl
  refine lv_aload_n hx hb dX2_copyFrom_56 rfl (lv_at hl 1 rfl) ?_
  refine z_get hx hb ht hown hK hP ziX2 rfl 49 (by decide) 7 (by decide) hw_1_97 rfl (v := .ref (q 50)) rfl dX2_copyFrom_57 ?_
  refine lv_iconst (v := nI 0) hx hb dX2_copyFrom_60 (by decide +kernel) ?_
  refine lv_aload_n hx hb dX2_copyFrom_61 rfl (lv_at hl 0 rfl) ?_
  refine z_get hx hb ht hown hK hP ziX2 rfl 3 (by decide) 7 (by decide) hw_1_97 rfl (v := .ref (q 4)) rfl dX2_copyFrom_62 ?_
  refine lv_iconst (v := nI 0) hx hb dX2_copyFrom_65 (by decide +kernel) ?_
  refine lv_iconst (v := nI 5) hx hb dX2_copyFrom_66 (by decide +kernel) ?_
  refine z_copyi hx hb (hml.trans hl.1.symm) ht hown hw_3_42 ⟨hw_3_44, hw_3_43, hw_1_18⟩ hK hP hD hS 50 4 (by decide) (by decide) 37 1 rfl (fun _ => rfl) rfl rfl (by decide +kernel) (by decide +kernel) (by decide +kernel) (by decide +kernel) (by decide +kernel) (by decide) (by decide +kernel) dX2_copyFrom_67 (fun g_10 H locs eg_10 hP hD hS => ?_)
  have hI_11 := xInv_cp hI_9 50 4 eg_10 (by decide) (by decide) rfl
  refine lv_aload_n hx hb dX2_copyFrom_70 rfl (lv_at hl 1 rfl) ?_
  refine z_get hx hb ht hown hK hP ziX2 rfl 49 (by decide) 8 (by decide) hw_1_100 rfl (v := .ref (q 51)) rfl dX2_copyFrom_71 ?_
  refine lv_iconst (v := nI 0) hx hb dX2_copyFrom_74 (by decide +kernel) ?_
  refine lv_aload_n hx hb dX2_copyFrom_75 rfl (lv_at hl 0 rfl) ?_
  refine z_get hx hb ht hown hK hP ziX2 rfl 3 (by decide) 8 (by decide) hw_1_100 rfl (v := .ref (q 5)) rfl dX2_copyFrom_76 ?_
  refine lv_iconst (v := nI 0) hx hb dX2_copyFrom_79 (by decide +kernel) ?_
  refine lv_bipush (v := nI 6) hx hb dX2_copyFrom_80 (by decide +kernel) ?_
  refine z_copyi hx hb (hml.trans hl.1.symm) ht hown hw_3_42 ⟨hw_3_44, hw_3_43, hw_1_18⟩ hK hP hD hS 51 5 (by decide) (by decide) 38 2 rfl (fun _ => rfl) rfl rfl (by decide +kernel) (by decide +kernel) (by decide +kernel) (by decide +kernel) (by decide +kernel) (by decide) (by decide +kernel) dX2_copyFrom_82 (fun g_12 H locs eg_12 hP hD hS => ?_)
  have hI_13 := xInv_cp hI_11 51 5 eg_12 (by decide) (by decide) rfl
  refine lv_aload_n hx hb dX2_copyFrom_85 rfl (lv_at hl 1 rfl) ?_
  refine z_get hx hb ht hown hK hP ziX2 rfl 49 (by decide) 9 (by decide) hw_1_104 rfl (v := .ref (q 52)) rfl dX2_copyFrom_86 ?_
  refine lv_iconst (v := nI 0) hx hb dX2_copyFrom_89 (by decide +kernel) ?_
  refine lv_aload_n hx hb dX2_copyFrom_90 rfl (lv_at hl 0 rfl) ?_
  refine z_get hx hb ht hown hK hP ziX2 rfl 3 (by decide) 9 (by decide) hw_1_104 rfl (v := .ref (q 6)) rfl dX2_copyFrom_91 ?_
  refine lv_iconst (v := nI 0) hx hb dX2_copyFrom_94 (by decide +kernel) ?_
  refine lv_bipush (v := nI 6) hx hb dX2_copyFrom_95 (by decide +kernel) ?_
  refine z_copyi hx hb (hml.trans hl.1.symm) ht hown hw_3_42 ⟨hw_3_44, hw_3_43, hw_1_18⟩ hK hP hD hS 52 6 (by decide) (by decide) 39 3 rfl (fun _ => rfl) rfl rfl (by decide +kernel) (by decide +kernel) (by decide +kernel) (by decide +kernel) (by decide +kernel) (by decide) (by decide +kernel) dX2_copyFrom_97 (fun g_14 H locs eg_14 hP hD hS => ?_)
  have hI_15 := xInv_cp hI_13 52 6 eg_14 (by decide) (by decide) rfl
  refine lv_aload_n hx hb dX2_copyFrom_100 rfl (lv_at hl 1 rfl) ?_
  refine z_get hx hb ht hown hK hP ziX2 rfl 49 (by decide) 10 (by decide) hw_1_109 rfl (v := .ref (q 53)) rfl dX2_copyFrom_101 ?_
  refine lv_iconst (v := nI 0) hx hb dX2_copyFrom_104 (by decide +kernel) ?_
  refine lv_aload_n hx hb dX2_copyFrom_105 rfl (lv_at hl 0 rfl) ?_
  refine z_get hx hb ht hown hK hP ziX2 rfl 3 (by decide) 10 (by decide) hw_1_109 rfl (v := .ref (q 7)) rfl dX2_copyFrom_106 ?_
  refine lv_iconst (v := nI 0) hx hb dX2_copyFrom_109 (by decide +kernel) ?_
  refine lv_bipush (v := nI 30) hx hb dX2_copyFrom_110 (by decide +kernel) ?_
  refine z_copyi hx hb (hml.trans hl.1.symm) ht hown hw_3_42 ⟨hw_3_44, hw_3_43, hw_1_18⟩ hK hP hD hS 53 7 (by decide) (by decide) 40 4 rfl (fun _ => rfl) rfl rfl (by decide +kernel) (by decide +kernel) (by decide +kernel) (by decide +kernel) (by decide +kernel) (by decide) (by decide +kernel) dX2_copyFrom_112 (fun g_16 H locs eg_16 hP hD hS => ?_)
  have hI_17 := xInv_cp hI_15 53 7 eg_16 (by decide) (by decide) rfl
  exact z_vret hx hb hr hlocks hP hD hS dX2_copyFrom_115 hI_17
set_option maxHeartbeats 4000000 in
set_option maxRecDepth 100000 in
theorem xk_X0_copyFrom_3 (l : Launch) (D : va_G) (q : Nat → Nat) (cA : Nat → ClassId) (F : Nat → Nat → Int32) (I R : Nat → Nat → Int32) (J : Nat → Nat → Int64) (hI : xInv F (I, R, J))  : zMv l D vwCl (zXtys cA) 81 q (zXd q cA) yX0_copyFrom cX0_copyFrom 2 none ({ frames := 1, cells := 0, slots := 0, locals := 64 } : Room) [.ref (q 13), .ref (q 54)] (I, R, J) (fun u => xInv F u) := by
  intro sz
  refine z_body (by decide +kernel) (Nat.le_of_ble_eq_true rfl) (fun p e s m below meth c ls hx hb hml hr ht hown hlocks hsz hK hP hD hS hl => ?_)
  have hA : ∀ a, s.heap.size ≤ a → zA 81 q sz a := fun a h => Or.inr (hsz ▸ h)
  have hl : lv_has ls 2 [(0, .ref (q 13)), (1, .ref (q 54))] := hl
  refine lv_aload_n hx hb dX0_copyFrom_0 rfl (lv_at hl 0 rfl) ?_
  refine lv_aload_n hx hb dX0_copyFrom_1 rfl (lv_at hl 1 rfl) ?_
  refine z_get hx hb ht hown hK hP ziX0 rfl 54 (by decide) 0 (by decide) hw_1_140 rfl (v := .int (I 54 0)) rfl dX0_copyFrom_2 ?_
  have f_1 : zR 0 60 (I 54 0) := xI hI 54 0
  refine z_putI hx hb ht hown hK hP hD hS ziX0 tyX0 tyX0_ok nmX0 rfl 13 (by decide) 0 (by decide) hw_1_140 rfl (v := I 54 0) rfl rfl rfl (Nat.le_of_ble_eq_true rfl) rfl dX0_copyFrom_5 (fun H locs hP hD hS => ?_)
  have hI_2 := xInv_I hI 13 0 (I 54 0) f_1 rfl
  refine lv_aload_n hx hb dX0_copyFrom_8 rfl (lv_at hl 1 rfl) ?_
  refine z_get hx hb ht hown hK hP ziX0 rfl 54 (by decide) 1 (by decide) hw_1_142 rfl (v := .ref (q 55)) rfl dX0_copyFrom_9 ?_
  refine lv_iconst (v := nI 0) hx hb dX0_copyFrom_12 (by decide +kernel) ?_
  refine lv_aload_n hx hb dX0_copyFrom_13 rfl (lv_at hl 0 rfl) ?_
  refine z_get hx hb ht hown hK hP ziX0 rfl 13 (by decide) 1 (by decide) hw_1_142 rfl (v := .ref (q 14)) rfl dX0_copyFrom_14 ?_
  refine lv_iconst (v := nI 0) hx hb dX0_copyFrom_17 (by decide +kernel) ?_
  refine lv_sipush (v := nI 240) hx hb dX0_copyFrom_18 (by decide +kernel) ?_
  refine z_copyi hx hb (hml.trans hl.1.symm) ht hown hw_5_149 ⟨hw_3_44, hw_3_43, hw_1_18⟩ hK hP hD hS 55 14 (by decide) (by decide) 41 9 rfl (fun _ => rfl) rfl rfl (by decide +kernel) (by decide +kernel) (by decide +kernel) (by decide +kernel) (by decide +kernel) (by decide) (by decide +kernel) dX0_copyFrom_21 (fun g_3 H locs eg_3 hP hD hS => ?_)
  have hI_4 := xInv_rec hI_2 55 14 eg_3 rfl rfl
  exact z_vret hx hb hr hlocks hP hD hS dX0_copyFrom_24 hI_4
set_option maxHeartbeats 4000000 in
set_option maxRecDepth 100000 in
theorem xk_X2_copyFrom_5 (l : Launch) (D : va_G) (q : Nat → Nat) (cA : Nat → ClassId) (F : Nat → Nat → Int32) (I R : Nat → Nat → Int32) (J : Nat → Nat → Int64) (hI : xInv F (I, R, J))  : zMv l D vwCl (zXtys cA) 81 q (zXd q cA) yX2_copyFrom cX2_copyFrom 2 none ({ frames := 1, cells := 0, slots := 0, locals := 64 } : Room) [.ref (q 3), .ref (q 57)] (I, R, J) (fun u => xInv F u) := by
  intro sz
  refine z_body (by decide +kernel) (Nat.le_of_ble_eq_true rfl) (fun p e s m below meth c ls hx hb hml hr ht hown hlocks hsz hK hP hD hS hl => ?_)
  have hA : ∀ a, s.heap.size ≤ a → zA 81 q sz a := fun a h => Or.inr (hsz ▸ h)
  have hl : lv_has ls 2 [(0, .ref (q 3)), (1, .ref (q 57))] := hl
  refine lv_aload_n hx hb dX2_copyFrom_0 rfl (lv_at hl 0 rfl) ?_
  refine lv_aload_n hx hb dX2_copyFrom_1 rfl (lv_at hl 1 rfl) ?_
  refine z_get hx hb ht hown hK hP ziX2 rfl 57 (by decide) 0 (by decide) hw_1_67 rfl (v := .int (I 57 0)) rfl dX2_copyFrom_2 ?_
  refine z_putI hx hb ht hown hK hP hD hS ziX2 tyX2 tyX2_ok nmX2 rfl 3 (by decide) 0 (by decide) hw_1_67 rfl (v := I 57 0) rfl rfl rfl (Nat.le_of_ble_eq_true rfl) rfl dX2_copyFrom_5 (fun H locs hP hD hS => ?_)
  have hI_1 := xInv_I hI 3 0 (I 57 0) (zR_any (I 57 0)) rfl
  refine lv_aload_n hx hb dX2_copyFrom_8 rfl (lv_at hl 0 rfl) ?_
  refine lv_aload_n hx hb dX2_copyFrom_9 rfl (lv_at hl 1 rfl) ?_
  refine z_get hx hb ht hown hK hP ziX2 rfl 57 (by decide) 1 (by decide) hw_1_70 rfl (v := .int (I 57 1)) rfl dX2_copyFrom_10 ?_
  refine z_putI hx hb ht hown hK hP hD hS ziX2 tyX2 tyX2_ok nmX2 rfl 3 (by decide) 1 (by decide) hw_1_70 rfl (v := I 57 1) rfl rfl rfl (Nat.le_of_ble_eq_true rfl) rfl dX2_copyFrom_13 (fun H locs hP hD hS => ?_)
  have hI_2 := xInv_I hI_1 3 1 (I 57 1) (zR_any (I 57 1)) rfl
  refine lv_aload_n hx hb dX2_copyFrom_16 rfl (lv_at hl 0 rfl) ?_
  refine lv_aload_n hx hb dX2_copyFrom_17 rfl (lv_at hl 1 rfl) ?_
  refine z_get hx hb ht hown hK hP ziX2 rfl 57 (by decide) 2 (by decide) hw_1_74 rfl (v := .int (I 57 2)) rfl dX2_copyFrom_18 ?_
  refine z_putI hx hb ht hown hK hP hD hS ziX2 tyX2 tyX2_ok nmX2 rfl 3 (by decide) 2 (by decide) hw_1_74 rfl (v := I 57 2) rfl rfl rfl (Nat.le_of_ble_eq_true rfl) rfl dX2_copyFrom_21 (fun H locs hP hD hS => ?_)
  have hI_3 := xInv_I hI_2 3 2 (I 57 2) (zR_any (I 57 2)) rfl
  refine lv_aload_n hx hb dX2_copyFrom_24 rfl (lv_at hl 0 rfl) ?_
  refine lv_aload_n hx hb dX2_copyFrom_25 rfl (lv_at hl 1 rfl) ?_
  refine z_get hx hb ht hown hK hP ziX2 rfl 57 (by decide) 3 (by decide) hw_1_78 rfl (v := .int (I 57 3)) rfl dX2_copyFrom_26 ?_
  refine z_putI hx hb ht hown hK hP hD hS ziX2 tyX2 tyX2_ok nmX2 rfl 3 (by decide) 3 (by decide) hw_1_78 rfl (v := I 57 3) rfl rfl rfl (Nat.le_of_ble_eq_true rfl) rfl dX2_copyFrom_29 (fun H locs hP hD hS => ?_)
  have hI_4 := xInv_I hI_3 3 3 (I 57 3) (zR_any (I 57 3)) rfl
  refine lv_aload_n hx hb dX2_copyFrom_32 rfl (lv_at hl 0 rfl) ?_
  refine lv_aload_n hx hb dX2_copyFrom_33 rfl (lv_at hl 1 rfl) ?_
  refine z_get hx hb ht hown hK hP ziX2 rfl 57 (by decide) 4 (by decide) hw_1_81 rfl (v := .int (I 57 4)) rfl dX2_copyFrom_34 ?_
  have f_5 : zR 0 5 (I 57 4) := xI hI 57 4
  refine z_putI hx hb ht hown hK hP hD hS ziX2 tyX2 tyX2_ok nmX2 rfl 3 (by decide) 4 (by decide) hw_1_81 rfl (v := I 57 4) rfl rfl rfl (Nat.le_of_ble_eq_true rfl) rfl dX2_copyFrom_37 (fun H locs hP hD hS => ?_)
  have hI_6 := xInv_I hI_4 3 4 (I 57 4) f_5 rfl
  refine lv_aload_n hx hb dX2_copyFrom_40 rfl (lv_at hl 0 rfl) ?_
  refine lv_aload_n hx hb dX2_copyFrom_41 rfl (lv_at hl 1 rfl) ?_
  refine z_get hx hb ht hown hK hP ziX2 rfl 57 (by decide) 5 (by decide) hw_1_87 rfl (v := .int (I 57 5)) rfl dX2_copyFrom_42 ?_
  have f_7 : zR 0 6 (I 57 5) := xI hI 57 5
  refine z_putI hx hb ht hown hK hP hD hS ziX2 tyX2 tyX2_ok nmX2 rfl 3 (by decide) 5 (by decide) hw_1_87 rfl (v := I 57 5) rfl rfl rfl (Nat.le_of_ble_eq_true rfl) rfl dX2_copyFrom_45 (fun H locs hP hD hS => ?_)
  have hI_8 := xInv_I hI_6 3 5 (I 57 5) f_7 rfl
  refine lv_aload_n hx hb dX2_copyFrom_48 rfl (lv_at hl 0 rfl) ?_
  refine lv_aload_n hx hb dX2_copyFrom_49 rfl (lv_at hl 1 rfl) ?_
  refine z_get hx hb ht hown hK hP ziX2 rfl 57 (by decide) 6 (by decide) hw_1_95 rfl (v := .int (I 57 6)) rfl dX2_copyFrom_50 ?_
  refine z_putI hx hb ht hown hK hP hD hS ziX2 tyX2 tyX2_ok nmX2 rfl 3 (by decide) 6 (by decide) hw_1_95 rfl (v := I 57 6) rfl rfl rfl (Nat.le_of_ble_eq_true rfl) rfl dX2_copyFrom_53 (fun H locs hP hD hS => ?_)
  have hI_9 := xInv_I hI_8 3 6 (I 57 6) (zR_any (I 57 6)) rfl
  refine lv_aload_n hx hb dX2_copyFrom_56 rfl (lv_at hl 1 rfl) ?_
  refine z_get hx hb ht hown hK hP ziX2 rfl 57 (by decide) 7 (by decide) hw_1_97 rfl (v := .ref (q 58)) rfl dX2_copyFrom_57 ?_
  refine lv_iconst (v := nI 0) hx hb dX2_copyFrom_60 (by decide +kernel) ?_
  refine lv_aload_n hx hb dX2_copyFrom_61 rfl (lv_at hl 0 rfl) ?_
  refine z_get hx hb ht hown hK hP ziX2 rfl 3 (by decide) 7 (by decide) hw_1_97 rfl (v := .ref (q 4)) rfl dX2_copyFrom_62 ?_
  refine lv_iconst (v := nI 0) hx hb dX2_copyFrom_65 (by decide +kernel) ?_
  refine lv_iconst (v := nI 5) hx hb dX2_copyFrom_66 (by decide +kernel) ?_
  refine z_copyi hx hb (hml.trans hl.1.symm) ht hown hw_3_42 ⟨hw_3_44, hw_3_43, hw_1_18⟩ hK hP hD hS 58 4 (by decide) (by decide) 42 1 rfl (fun _ => rfl) rfl rfl (by decide +kernel) (by decide +kernel) (by decide +kernel) (by decide +kernel) (by decide +kernel) (by decide) (by decide +kernel) dX2_copyFrom_67 (fun g_10 H locs eg_10 hP hD hS => ?_)
  have hI_11 := xInv_cp hI_9 58 4 eg_10 (by decide) (by decide) rfl
  refine lv_aload_n hx hb dX2_copyFrom_70 rfl (lv_at hl 1 rfl) ?_
  refine z_get hx hb ht hown hK hP ziX2 rfl 57 (by decide) 8 (by decide) hw_1_100 rfl (v := .ref (q 59)) rfl dX2_copyFrom_71 ?_
  refine lv_iconst (v := nI 0) hx hb dX2_copyFrom_74 (by decide +kernel) ?_
  refine lv_aload_n hx hb dX2_copyFrom_75 rfl (lv_at hl 0 rfl) ?_
  refine z_get hx hb ht hown hK hP ziX2 rfl 3 (by decide) 8 (by decide) hw_1_100 rfl (v := .ref (q 5)) rfl dX2_copyFrom_76 ?_
  refine lv_iconst (v := nI 0) hx hb dX2_copyFrom_79 (by decide +kernel) ?_
  refine lv_bipush (v := nI 6) hx hb dX2_copyFrom_80 (by decide +kernel) ?_
  refine z_copyi hx hb (hml.trans hl.1.symm) ht hown hw_3_42 ⟨hw_3_44, hw_3_43, hw_1_18⟩ hK hP hD hS 59 5 (by decide) (by decide) 43 2 rfl (fun _ => rfl) rfl rfl (by decide +kernel) (by decide +kernel) (by decide +kernel) (by decide +kernel) (by decide +kernel) (by decide) (by decide +kernel) dX2_copyFrom_82 (fun g_12 H locs eg_12 hP hD hS => ?_)
  have hI_13 := xInv_cp hI_11 59 5 eg_12 (by decide) (by decide) rfl
  refine lv_aload_n hx hb dX2_copyFrom_85 rfl (lv_at hl 1 rfl) ?_
  refine z_get hx hb ht hown hK hP ziX2 rfl 57 (by decide) 9 (by decide) hw_1_104 rfl (v := .ref (q 60)) rfl dX2_copyFrom_86 ?_
  refine lv_iconst (v := nI 0) hx hb dX2_copyFrom_89 (by decide +kernel) ?_
  refine lv_aload_n hx hb dX2_copyFrom_90 rfl (lv_at hl 0 rfl) ?_
  refine z_get hx hb ht hown hK hP ziX2 rfl 3 (by decide) 9 (by decide) hw_1_104 rfl (v := .ref (q 6)) rfl dX2_copyFrom_91 ?_
  refine lv_iconst (v := nI 0) hx hb dX2_copyFrom_94 (by decide +kernel) ?_
  refine lv_bipush (v := nI 6) hx hb dX2_copyFrom_95 (by decide +kernel) ?_
  refine z_copyi hx hb (hml.trans hl.1.symm) ht hown hw_3_42 ⟨hw_3_44, hw_3_43, hw_1_18⟩ hK hP hD hS 60 6 (by decide) (by decide) 44 3 rfl (fun _ => rfl) rfl rfl (by decide +kernel) (by decide +kernel) (by decide +kernel) (by decide +kernel) (by decide +kernel) (by decide) (by decide +kernel) dX2_copyFrom_97 (fun g_14 H locs eg_14 hP hD hS => ?_)
  have hI_15 := xInv_cp hI_13 60 6 eg_14 (by decide) (by decide) rfl
  refine lv_aload_n hx hb dX2_copyFrom_100 rfl (lv_at hl 1 rfl) ?_
  refine z_get hx hb ht hown hK hP ziX2 rfl 57 (by decide) 10 (by decide) hw_1_109 rfl (v := .ref (q 61)) rfl dX2_copyFrom_101 ?_
  refine lv_iconst (v := nI 0) hx hb dX2_copyFrom_104 (by decide +kernel) ?_
  refine lv_aload_n hx hb dX2_copyFrom_105 rfl (lv_at hl 0 rfl) ?_
  refine z_get hx hb ht hown hK hP ziX2 rfl 3 (by decide) 10 (by decide) hw_1_109 rfl (v := .ref (q 7)) rfl dX2_copyFrom_106 ?_
  refine lv_iconst (v := nI 0) hx hb dX2_copyFrom_109 (by decide +kernel) ?_
  refine lv_bipush (v := nI 30) hx hb dX2_copyFrom_110 (by decide +kernel) ?_
  refine z_copyi hx hb (hml.trans hl.1.symm) ht hown hw_3_42 ⟨hw_3_44, hw_3_43, hw_1_18⟩ hK hP hD hS 61 7 (by decide) (by decide) 45 4 rfl (fun _ => rfl) rfl rfl (by decide +kernel) (by decide +kernel) (by decide +kernel) (by decide +kernel) (by decide +kernel) (by decide) (by decide +kernel) dX2_copyFrom_112 (fun g_16 H locs eg_16 hP hD hS => ?_)
  have hI_17 := xInv_cp hI_15 61 7 eg_16 (by decide) (by decide) rfl
  exact z_vret hx hb hr hlocks hP hD hS dX2_copyFrom_115 hI_17
set_option maxHeartbeats 4000000 in
set_option maxRecDepth 100000 in
theorem xk_X0_copyFrom_4 (l : Launch) (D : va_G) (q : Nat → Nat) (cA : Nat → ClassId) (F : Nat → Nat → Int32) (I R : Nat → Nat → Int32) (J : Nat → Nat → Int64) (hI : xInv F (I, R, J))  : zMv l D vwCl (zXtys cA) 81 q (zXd q cA) yX0_copyFrom cX0_copyFrom 2 none ({ frames := 1, cells := 0, slots := 0, locals := 64 } : Room) [.ref (q 13), .ref (q 62)] (I, R, J) (fun u => xInv F u) := by
  intro sz
  refine z_body (by decide +kernel) (Nat.le_of_ble_eq_true rfl) (fun p e s m below meth c ls hx hb hml hr ht hown hlocks hsz hK hP hD hS hl => ?_)
  have hA : ∀ a, s.heap.size ≤ a → zA 81 q sz a := fun a h => Or.inr (hsz ▸ h)
  have hl : lv_has ls 2 [(0, .ref (q 13)), (1, .ref (q 62))] := hl
  refine lv_aload_n hx hb dX0_copyFrom_0 rfl (lv_at hl 0 rfl) ?_
  refine lv_aload_n hx hb dX0_copyFrom_1 rfl (lv_at hl 1 rfl) ?_
  refine z_get hx hb ht hown hK hP ziX0 rfl 62 (by decide) 0 (by decide) hw_1_140 rfl (v := .int (I 62 0)) rfl dX0_copyFrom_2 ?_
  have f_1 : zR 0 60 (I 62 0) := xI hI 62 0
  refine z_putI hx hb ht hown hK hP hD hS ziX0 tyX0 tyX0_ok nmX0 rfl 13 (by decide) 0 (by decide) hw_1_140 rfl (v := I 62 0) rfl rfl rfl (Nat.le_of_ble_eq_true rfl) rfl dX0_copyFrom_5 (fun H locs hP hD hS => ?_)
  have hI_2 := xInv_I hI 13 0 (I 62 0) f_1 rfl
  refine lv_aload_n hx hb dX0_copyFrom_8 rfl (lv_at hl 1 rfl) ?_
  refine z_get hx hb ht hown hK hP ziX0 rfl 62 (by decide) 1 (by decide) hw_1_142 rfl (v := .ref (q 63)) rfl dX0_copyFrom_9 ?_
  refine lv_iconst (v := nI 0) hx hb dX0_copyFrom_12 (by decide +kernel) ?_
  refine lv_aload_n hx hb dX0_copyFrom_13 rfl (lv_at hl 0 rfl) ?_
  refine z_get hx hb ht hown hK hP ziX0 rfl 13 (by decide) 1 (by decide) hw_1_142 rfl (v := .ref (q 14)) rfl dX0_copyFrom_14 ?_
  refine lv_iconst (v := nI 0) hx hb dX0_copyFrom_17 (by decide +kernel) ?_
  refine lv_sipush (v := nI 240) hx hb dX0_copyFrom_18 (by decide +kernel) ?_
  refine z_copyi hx hb (hml.trans hl.1.symm) ht hown hw_5_149 ⟨hw_3_44, hw_3_43, hw_1_18⟩ hK hP hD hS 63 14 (by decide) (by decide) 46 9 rfl (fun _ => rfl) rfl rfl (by decide +kernel) (by decide +kernel) (by decide +kernel) (by decide +kernel) (by decide +kernel) (by decide) (by decide +kernel) dX0_copyFrom_21 (fun g_3 H locs eg_3 hP hD hS => ?_)
  have hI_4 := xInv_rec hI_2 63 14 eg_3 rfl rfl
  exact z_vret hx hb hr hlocks hP hD hS dX0_copyFrom_24 hI_4
set_option maxHeartbeats 4000000 in
set_option maxRecDepth 100000 in
theorem xk_X2_copyFrom_6 (l : Launch) (D : va_G) (q : Nat → Nat) (cA : Nat → ClassId) (F : Nat → Nat → Int32) (I R : Nat → Nat → Int32) (J : Nat → Nat → Int64) (hI : xInv F (I, R, J))  : zMv l D vwCl (zXtys cA) 81 q (zXd q cA) yX2_copyFrom cX2_copyFrom 2 none ({ frames := 1, cells := 0, slots := 0, locals := 64 } : Room) [.ref (q 3), .ref (q 65)] (I, R, J) (fun u => xInv F u) := by
  intro sz
  refine z_body (by decide +kernel) (Nat.le_of_ble_eq_true rfl) (fun p e s m below meth c ls hx hb hml hr ht hown hlocks hsz hK hP hD hS hl => ?_)
  have hA : ∀ a, s.heap.size ≤ a → zA 81 q sz a := fun a h => Or.inr (hsz ▸ h)
  have hl : lv_has ls 2 [(0, .ref (q 3)), (1, .ref (q 65))] := hl
  refine lv_aload_n hx hb dX2_copyFrom_0 rfl (lv_at hl 0 rfl) ?_
  refine lv_aload_n hx hb dX2_copyFrom_1 rfl (lv_at hl 1 rfl) ?_
  refine z_get hx hb ht hown hK hP ziX2 rfl 65 (by decide) 0 (by decide) hw_1_67 rfl (v := .int (I 65 0)) rfl dX2_copyFrom_2 ?_
  refine z_putI hx hb ht hown hK hP hD hS ziX2 tyX2 tyX2_ok nmX2 rfl 3 (by decide) 0 (by decide) hw_1_67 rfl (v := I 65 0) rfl rfl rfl (Nat.le_of_ble_eq_true rfl) rfl dX2_copyFrom_5 (fun H locs hP hD hS => ?_)
  have hI_1 := xInv_I hI 3 0 (I 65 0) (zR_any (I 65 0)) rfl
  refine lv_aload_n hx hb dX2_copyFrom_8 rfl (lv_at hl 0 rfl) ?_
  refine lv_aload_n hx hb dX2_copyFrom_9 rfl (lv_at hl 1 rfl) ?_
  refine z_get hx hb ht hown hK hP ziX2 rfl 65 (by decide) 1 (by decide) hw_1_70 rfl (v := .int (I 65 1)) rfl dX2_copyFrom_10 ?_
  refine z_putI hx hb ht hown hK hP hD hS ziX2 tyX2 tyX2_ok nmX2 rfl 3 (by decide) 1 (by decide) hw_1_70 rfl (v := I 65 1) rfl rfl rfl (Nat.le_of_ble_eq_true rfl) rfl dX2_copyFrom_13 (fun H locs hP hD hS => ?_)
  have hI_2 := xInv_I hI_1 3 1 (I 65 1) (zR_any (I 65 1)) rfl
  refine lv_aload_n hx hb dX2_copyFrom_16 rfl (lv_at hl 0 rfl) ?_
  refine lv_aload_n hx hb dX2_copyFrom_17 rfl (lv_at hl 1 rfl) ?_
  refine z_get hx hb ht hown hK hP ziX2 rfl 65 (by decide) 2 (by decide) hw_1_74 rfl (v := .int (I 65 2)) rfl dX2_copyFrom_18 ?_
  refine z_putI hx hb ht hown hK hP hD hS ziX2 tyX2 tyX2_ok nmX2 rfl 3 (by decide) 2 (by decide) hw_1_74 rfl (v := I 65 2) rfl rfl rfl (Nat.le_of_ble_eq_true rfl) rfl dX2_copyFrom_21 (fun H locs hP hD hS => ?_)
  have hI_3 := xInv_I hI_2 3 2 (I 65 2) (zR_any (I 65 2)) rfl
  refine lv_aload_n hx hb dX2_copyFrom_24 rfl (lv_at hl 0 rfl) ?_
  refine lv_aload_n hx hb dX2_copyFrom_25 rfl (lv_at hl 1 rfl) ?_
  refine z_get hx hb ht hown hK hP ziX2 rfl 65 (by decide) 3 (by decide) hw_1_78 rfl (v := .int (I 65 3)) rfl dX2_copyFrom_26 ?_
  refine z_putI hx hb ht hown hK hP hD hS ziX2 tyX2 tyX2_ok nmX2 rfl 3 (by decide) 3 (by decide) hw_1_78 rfl (v := I 65 3) rfl rfl rfl (Nat.le_of_ble_eq_true rfl) rfl dX2_copyFrom_29 (fun H locs hP hD hS => ?_)
  have hI_4 := xInv_I hI_3 3 3 (I 65 3) (zR_any (I 65 3)) rfl
  refine lv_aload_n hx hb dX2_copyFrom_32 rfl (lv_at hl 0 rfl) ?_
  refine lv_aload_n hx hb dX2_copyFrom_33 rfl (lv_at hl 1 rfl) ?_
  refine z_get hx hb ht hown hK hP ziX2 rfl 65 (by decide) 4 (by decide) hw_1_81 rfl (v := .int (I 65 4)) rfl dX2_copyFrom_34 ?_
  have f_5 : zR 0 5 (I 65 4) := xI hI 65 4
  refine z_putI hx hb ht hown hK hP hD hS ziX2 tyX2 tyX2_ok nmX2 rfl 3 (by decide) 4 (by decide) hw_1_81 rfl (v := I 65 4) rfl rfl rfl (Nat.le_of_ble_eq_true rfl) rfl dX2_copyFrom_37 (fun H locs hP hD hS => ?_)
  have hI_6 := xInv_I hI_4 3 4 (I 65 4) f_5 rfl
  refine lv_aload_n hx hb dX2_copyFrom_40 rfl (lv_at hl 0 rfl) ?_
  refine lv_aload_n hx hb dX2_copyFrom_41 rfl (lv_at hl 1 rfl) ?_
  refine z_get hx hb ht hown hK hP ziX2 rfl 65 (by decide) 5 (by decide) hw_1_87 rfl (v := .int (I 65 5)) rfl dX2_copyFrom_42 ?_
  have f_7 : zR 0 6 (I 65 5) := xI hI 65 5
  refine z_putI hx hb ht hown hK hP hD hS ziX2 tyX2 tyX2_ok nmX2 rfl 3 (by decide) 5 (by decide) hw_1_87 rfl (v := I 65 5) rfl rfl rfl (Nat.le_of_ble_eq_true rfl) rfl dX2_copyFrom_45 (fun H locs hP hD hS => ?_)
  have hI_8 := xInv_I hI_6 3 5 (I 65 5) f_7 rfl
  refine lv_aload_n hx hb dX2_copyFrom_48 rfl (lv_at hl 0 rfl) ?_
  refine lv_aload_n hx hb dX2_copyFrom_49 rfl (lv_at hl 1 rfl) ?_
  refine z_get hx hb ht hown hK hP ziX2 rfl 65 (by decide) 6 (by decide) hw_1_95 rfl (v := .int (I 65 6)) rfl dX2_copyFrom_50 ?_
  refine z_putI hx hb ht hown hK hP hD hS ziX2 tyX2 tyX2_ok nmX2 rfl 3 (by decide) 6 (by decide) hw_1_95 rfl (v := I 65 6) rfl rfl rfl (Nat.le_of_ble_eq_true rfl) rfl dX2_copyFrom_53 (fun H locs hP hD hS => ?_)
  have hI_9 := xInv_I hI_8 3 6 (I 65 6) (zR_any (I 65 6)) rfl
  refine lv_aload_n hx hb dX2_copyFrom_56 rfl (lv_at hl 1 rfl) ?_
  refine z_get hx hb ht hown hK hP ziX2 rfl 65 (by decide) 7 (by decide) hw_1_97 rfl (v := .ref (q 66)) rfl dX2_copyFrom_57 ?_
  refine lv_iconst (v := nI 0) hx hb dX2_copyFrom_60 (by decide +kernel) ?_
  refine lv_aload_n hx hb dX2_copyFrom_61 rfl (lv_at hl 0 rfl) ?_
  refine z_get hx hb ht hown hK hP ziX2 rfl 3 (by decide) 7 (by decide) hw_1_97 rfl (v := .ref (q 4)) rfl dX2_copyFrom_62 ?_
  refine lv_iconst (v := nI 0) hx hb dX2_copyFrom_65 (by decide +kernel) ?_
  refine lv_iconst (v := nI 5) hx hb dX2_copyFrom_66 (by decide +kernel) ?_
  refine z_copyi hx hb (hml.trans hl.1.symm) ht hown hw_3_42 ⟨hw_3_44, hw_3_43, hw_1_18⟩ hK hP hD hS 66 4 (by decide) (by decide) 47 1 rfl (fun _ => rfl) rfl rfl (by decide +kernel) (by decide +kernel) (by decide +kernel) (by decide +kernel) (by decide +kernel) (by decide) (by decide +kernel) dX2_copyFrom_67 (fun g_10 H locs eg_10 hP hD hS => ?_)
  have hI_11 := xInv_cp hI_9 66 4 eg_10 (by decide) (by decide) rfl
  refine lv_aload_n hx hb dX2_copyFrom_70 rfl (lv_at hl 1 rfl) ?_
  refine z_get hx hb ht hown hK hP ziX2 rfl 65 (by decide) 8 (by decide) hw_1_100 rfl (v := .ref (q 67)) rfl dX2_copyFrom_71 ?_
  refine lv_iconst (v := nI 0) hx hb dX2_copyFrom_74 (by decide +kernel) ?_
  refine lv_aload_n hx hb dX2_copyFrom_75 rfl (lv_at hl 0 rfl) ?_
  refine z_get hx hb ht hown hK hP ziX2 rfl 3 (by decide) 8 (by decide) hw_1_100 rfl (v := .ref (q 5)) rfl dX2_copyFrom_76 ?_
  refine lv_iconst (v := nI 0) hx hb dX2_copyFrom_79 (by decide +kernel) ?_
  refine lv_bipush (v := nI 6) hx hb dX2_copyFrom_80 (by decide +kernel) ?_
  refine z_copyi hx hb (hml.trans hl.1.symm) ht hown hw_3_42 ⟨hw_3_44, hw_3_43, hw_1_18⟩ hK hP hD hS 67 5 (by decide) (by decide) 48 2 rfl (fun _ => rfl) rfl rfl (by decide +kernel) (by decide +kernel) (by decide +kernel) (by decide +kernel) (by decide +kernel) (by decide) (by decide +kernel) dX2_copyFrom_82 (fun g_12 H locs eg_12 hP hD hS => ?_)
  have hI_13 := xInv_cp hI_11 67 5 eg_12 (by decide) (by decide) rfl
  refine lv_aload_n hx hb dX2_copyFrom_85 rfl (lv_at hl 1 rfl) ?_
  refine z_get hx hb ht hown hK hP ziX2 rfl 65 (by decide) 9 (by decide) hw_1_104 rfl (v := .ref (q 68)) rfl dX2_copyFrom_86 ?_
  refine lv_iconst (v := nI 0) hx hb dX2_copyFrom_89 (by decide +kernel) ?_
  refine lv_aload_n hx hb dX2_copyFrom_90 rfl (lv_at hl 0 rfl) ?_
  refine z_get hx hb ht hown hK hP ziX2 rfl 3 (by decide) 9 (by decide) hw_1_104 rfl (v := .ref (q 6)) rfl dX2_copyFrom_91 ?_
  refine lv_iconst (v := nI 0) hx hb dX2_copyFrom_94 (by decide +kernel) ?_
  refine lv_bipush (v := nI 6) hx hb dX2_copyFrom_95 (by decide +kernel) ?_
  refine z_copyi hx hb (hml.trans hl.1.symm) ht hown hw_3_42 ⟨hw_3_44, hw_3_43, hw_1_18⟩ hK hP hD hS 68 6 (by decide) (by decide) 49 3 rfl (fun _ => rfl) rfl rfl (by decide +kernel) (by decide +kernel) (by decide +kernel) (by decide +kernel) (by decide +kernel) (by decide) (by decide +kernel) dX2_copyFrom_97 (fun g_14 H locs eg_14 hP hD hS => ?_)
  have hI_15 := xInv_cp hI_13 68 6 eg_14 (by decide) (by decide) rfl
  refine lv_aload_n hx hb dX2_copyFrom_100 rfl (lv_at hl 1 rfl) ?_
  refine z_get hx hb ht hown hK hP ziX2 rfl 65 (by decide) 10 (by decide) hw_1_109 rfl (v := .ref (q 69)) rfl dX2_copyFrom_101 ?_
  refine lv_iconst (v := nI 0) hx hb dX2_copyFrom_104 (by decide +kernel) ?_
  refine lv_aload_n hx hb dX2_copyFrom_105 rfl (lv_at hl 0 rfl) ?_
  refine z_get hx hb ht hown hK hP ziX2 rfl 3 (by decide) 10 (by decide) hw_1_109 rfl (v := .ref (q 7)) rfl dX2_copyFrom_106 ?_
  refine lv_iconst (v := nI 0) hx hb dX2_copyFrom_109 (by decide +kernel) ?_
  refine lv_bipush (v := nI 30) hx hb dX2_copyFrom_110 (by decide +kernel) ?_
  refine z_copyi hx hb (hml.trans hl.1.symm) ht hown hw_3_42 ⟨hw_3_44, hw_3_43, hw_1_18⟩ hK hP hD hS 69 7 (by decide) (by decide) 50 4 rfl (fun _ => rfl) rfl rfl (by decide +kernel) (by decide +kernel) (by decide +kernel) (by decide +kernel) (by decide +kernel) (by decide) (by decide +kernel) dX2_copyFrom_112 (fun g_16 H locs eg_16 hP hD hS => ?_)
  have hI_17 := xInv_cp hI_15 69 7 eg_16 (by decide) (by decide) rfl
  exact z_vret hx hb hr hlocks hP hD hS dX2_copyFrom_115 hI_17
set_option maxHeartbeats 4000000 in
set_option maxRecDepth 100000 in
theorem xk_X0_copyFrom_5 (l : Launch) (D : va_G) (q : Nat → Nat) (cA : Nat → ClassId) (F : Nat → Nat → Int32) (I R : Nat → Nat → Int32) (J : Nat → Nat → Int64) (hI : xInv F (I, R, J))  : zMv l D vwCl (zXtys cA) 81 q (zXd q cA) yX0_copyFrom cX0_copyFrom 2 none ({ frames := 1, cells := 0, slots := 0, locals := 64 } : Room) [.ref (q 13), .ref (q 70)] (I, R, J) (fun u => xInv F u) := by
  intro sz
  refine z_body (by decide +kernel) (Nat.le_of_ble_eq_true rfl) (fun p e s m below meth c ls hx hb hml hr ht hown hlocks hsz hK hP hD hS hl => ?_)
  have hA : ∀ a, s.heap.size ≤ a → zA 81 q sz a := fun a h => Or.inr (hsz ▸ h)
  have hl : lv_has ls 2 [(0, .ref (q 13)), (1, .ref (q 70))] := hl
  refine lv_aload_n hx hb dX0_copyFrom_0 rfl (lv_at hl 0 rfl) ?_
  refine lv_aload_n hx hb dX0_copyFrom_1 rfl (lv_at hl 1 rfl) ?_
  refine z_get hx hb ht hown hK hP ziX0 rfl 70 (by decide) 0 (by decide) hw_1_140 rfl (v := .int (I 70 0)) rfl dX0_copyFrom_2 ?_
  have f_1 : zR 0 60 (I 70 0) := xI hI 70 0
  refine z_putI hx hb ht hown hK hP hD hS ziX0 tyX0 tyX0_ok nmX0 rfl 13 (by decide) 0 (by decide) hw_1_140 rfl (v := I 70 0) rfl rfl rfl (Nat.le_of_ble_eq_true rfl) rfl dX0_copyFrom_5 (fun H locs hP hD hS => ?_)
  have hI_2 := xInv_I hI 13 0 (I 70 0) f_1 rfl
  refine lv_aload_n hx hb dX0_copyFrom_8 rfl (lv_at hl 1 rfl) ?_
  refine z_get hx hb ht hown hK hP ziX0 rfl 70 (by decide) 1 (by decide) hw_1_142 rfl (v := .ref (q 71)) rfl dX0_copyFrom_9 ?_
  refine lv_iconst (v := nI 0) hx hb dX0_copyFrom_12 (by decide +kernel) ?_
  refine lv_aload_n hx hb dX0_copyFrom_13 rfl (lv_at hl 0 rfl) ?_
  refine z_get hx hb ht hown hK hP ziX0 rfl 13 (by decide) 1 (by decide) hw_1_142 rfl (v := .ref (q 14)) rfl dX0_copyFrom_14 ?_
  refine lv_iconst (v := nI 0) hx hb dX0_copyFrom_17 (by decide +kernel) ?_
  refine lv_sipush (v := nI 240) hx hb dX0_copyFrom_18 (by decide +kernel) ?_
  refine z_copyi hx hb (hml.trans hl.1.symm) ht hown hw_5_149 ⟨hw_3_44, hw_3_43, hw_1_18⟩ hK hP hD hS 71 14 (by decide) (by decide) 51 9 rfl (fun _ => rfl) rfl rfl (by decide +kernel) (by decide +kernel) (by decide +kernel) (by decide +kernel) (by decide +kernel) (by decide) (by decide +kernel) dX0_copyFrom_21 (fun g_3 H locs eg_3 hP hD hS => ?_)
  have hI_4 := xInv_rec hI_2 71 14 eg_3 rfl rfl
  exact z_vret hx hb hr hlocks hP hD hS dX0_copyFrom_24 hI_4
set_option maxHeartbeats 4000000 in
set_option maxRecDepth 100000 in
theorem xk_X10_back (l : Launch) (D : va_G) (q : Nat → Nat) (cA : Nat → ClassId) (F : Nat → Nat → Int32) (I R : Nat → Nat → Int32) (J : Nat → Nat → Int64) (hI : xInv F (I, R, J)) (pa0 : Int32) : zMi l D vwCl (zXtys cA) 81 q (zXd q cA) yX10_back cX10_back 3 (some .int) ({ frames := 6, cells := 0, slots := 0, locals := 156 } : Room) [.ref (q 0), .int (pa0)] (I, R, J) (fun r u => ((pa0.toInt < 0 ∨ 2 < pa0.toInt) ∧ r = (-2) ∧ u = (I, R, J)) ∨ (¬ (pa0.toInt < 0 ∨ 2 < pa0.toInt) ∧ xkept F pa0 = nI 0 ∧ r = (-6) ∧ u = (I, R, J)) ∨ (¬ (pa0.toInt < 0 ∨ 2 < pa0.toInt) ∧ xkept F pa0 ≠ nI 0 ∧ r = nI 0 ∧ xInv F u)) := by
  intro sz
  refine z_body (by decide +kernel) (Nat.le_of_ble_eq_true rfl) (fun p e s m below meth c ls hx hb hml hr ht hown hlocks hsz hK hP hD hS hl => ?_)
  have hA : ∀ a, s.heap.size ≤ a → zA 81 q sz a := fun a h => Or.inr (hsz ▸ h)
  have hl : lv_has ls 3 [(0, .ref (q 0)), (1, .int (pa0))] := hl
  refine lv_iload_n hx hb dX10_back_0 rfl (lv_at hl 1 rfl) ?_
  refine lv_if_lt (tgt := 9) hx hb dX10_back_1 (by decide) (fun c_1 => ?_) (fun c_1 => ?_)
  · have t_c_1 := z_ltT c_1
    have f_2 : zR (-2147483648) (-1) (pa0) := zR_ltx t_c_1 (zR_any (pa0)) zk_z (by decide)
    refine lv_bipush (v := (-2)) hx hb dX10_back_9 (by decide +kernel) ?_
    exact z_iret (v := (-2)) hx hb hr hlocks hP hD hS dX10_back_11 (Or.inl ⟨(by obtain ⟨_, _⟩ := f_2; omega), rfl, rfl⟩)
  · have t_c_1 := z_ltF c_1
    have f_3 : zR 0 2147483647 (pa0) := zR_ley t_c_1 zk_z (zR_any (pa0)) (by decide)
    refine lv_iload_n hx hb dX10_back_4 rfl (lv_at hl 1 rfl) ?_
    refine lv_iconst (v := nI 3) hx hb dX10_back_5 (by decide +kernel) ?_
    refine lv_icmp_lt (tgt := 12) hx hb dX10_back_6 (by decide) (fun c_4 => ?_) (fun c_4 => ?_)
    · have t_c_4 := z_ltT c_4
      have f_5 : zR 0 2 (pa0) := zR_ltx t_c_4 f_3 zk_3 (by decide)
      refine lv_aload_n hx hb dX10_back_12 rfl (lv_at hl 0 rfl) ?_
      refine z_get hx hb ht hown hK hP ziX10 rfl 0 (by decide) 10 (by decide) hw_2_103 rfl (v := .ref (q 47)) rfl dX10_back_13 ?_
      refine lv_iload_n hx hb dX10_back_16 rfl (lv_at hl 1 rfl) ?_
      obtain ⟨n_6, hn_6, rfl⟩ := z_ex (x := pa0) (N := 3) (zR_w f_5 (a' := 0) (b' := 2) (by decide)).1 (Int.lt_of_le_of_lt (zR_w f_5 (a' := 0) (b' := 2) (by decide)).2 (by decide))
      rcases (show n_6 = 0 ∨ n_6 = 1 ∨ n_6 = 2 by omega) with rfl | rfl | rfl
      · refine va_aldq hx hb hK hP 47 36 (zw_at (by decide) rfl) rfl (vp_in_nI (by decide) (by decide)) dX10_back_17 ?_
        refine W.eq (g2 := F0 m 18 ls (.ref (q 48) :: [])) rfl ?_
        refine lv_astore_n (lv' := [(2, .ref (q 48)), (0, .ref (q 0)), (1, .int (nI 0))]) hx hb dX10_back_18 rfl hl (by decide) rfl (fun ls hl => ?_)
        refine lv_aload_n hx hb dX10_back_19 rfl (lv_at hl 0 rfl) ?_
        refine z_get hx hb ht hown hK hP ziX5 rfl 48 (by decide) 0 (by decide) hw_2_60 rfl (v := .int (I 48 0)) rfl dX10_back_20 ?_
        have f_7 : zR 0 1 (I 48 0) := xI hI 48 0
        refine lv_if_ne (tgt := 29) hx hb dX10_back_23 (by decide) (fun c_8 => ?_) (fun c_8 => ?_)
        · have t_c_8 := z_eqF c_8
          have f_9 : zR 1 1 (I 48 0) := zR_nex t_c_8 f_7 zk_z (by decide)
          refine lv_aload_n hx hb dX10_back_29 rfl (lv_at hl 1 rfl) ?_
          refine z_get hx hb ht hown hK hP ziX10 rfl 0 (by decide) 1 (by decide) hw_2_94 rfl (v := .ref (q 3)) rfl dX10_back_30 ?_
          refine lv_aload_n hx hb dX10_back_33 rfl (lv_at hl 0 rfl) ?_
          refine z_get hx hb ht hown hK hP ziX5 rfl 48 (by decide) 1 (by decide) hw_2_62 rfl (v := .ref (q 49)) rfl dX10_back_34 ?_
          refine z_callVv (k := 3) (As := [.ref (q 49)]) (rest := []) hx hb hml hown ht (xk_X2_copyFrom_4 l D q cA F _ _ _ hI ) hw_3_38 hmX2_copyFrom ⟨rfl, rfl⟩ (na := 1) rfl (by decide +kernel) (by decide) (by decide) rfl rfl hK hP hD hS hA hl.1 rfl (Nat.le_of_ble_eq_true rfl) ⟨Nat.zero_le _, Nat.zero_le _⟩ dX10_back_37 (fun I_10 R_10 J_10 H locs hp_10 hP hD hS _ _ => ?_)
          refine lv_aload_n hx hb dX10_back_40 rfl (lv_at hl 1 rfl) ?_
          refine z_get hx hb ht hown hK hP ziX10 rfl 0 (by decide) 3 (by decide) hw_2_96 rfl (v := .ref (q 13)) rfl dX10_back_41 ?_
          refine lv_aload_n hx hb dX10_back_44 rfl (lv_at hl 0 rfl) ?_
          refine z_get hx hb ht hown hK hP ziX5 rfl 48 (by decide) 2 (by decide) hw_2_64 rfl (v := .ref (q 54)) rfl dX10_back_45 ?_
          refine z_callVv (k := 13) (As := [.ref (q 54)]) (rest := []) hx hb hml hown ht (xk_X0_copyFrom_3 l D q cA F _ _ _ hp_10 ) hw_5_145 hmX0_copyFrom ⟨rfl, rfl⟩ (na := 1) rfl (by decide +kernel) (by decide) (by decide) rfl rfl hK hP hD hS hA hl.1 rfl (Nat.le_of_ble_eq_true rfl) ⟨Nat.zero_le _, Nat.zero_le _⟩ dX10_back_48 (fun I_11 R_11 J_11 H locs hp_11 hP hD hS _ _ => ?_)
          refine lv_aload_n hx hb dX10_back_51 rfl (lv_at hl 1 rfl) ?_
          refine z_get hx hb ht hown hK hP ziX10 rfl 0 (by decide) 3 (by decide) hw_2_96 rfl (v := .ref (q 13)) rfl dX10_back_52 ?_
          refine lv_aload_n hx hb dX10_back_55 rfl (lv_at hl 1 rfl) ?_
          refine z_get hx hb ht hown hK hP ziX10 rfl 0 (by decide) 4 (by decide) hw_2_97 rfl (v := .ref (q 15)) rfl dX10_back_56 ?_
          refine z_callVv (k := 13) (As := [.ref (q 15)]) (rest := []) hx hb hml hown ht (xk_X0_replay l D q cA F _ _ _ hp_11 ) hw_4_8 hmX0_replay ⟨rfl, rfl⟩ (na := 1) rfl (by decide +kernel) (by decide) (by decide) rfl rfl hK hP hD hS hA hl.1 rfl (Nat.le_of_ble_eq_true rfl) ⟨Nat.zero_le _, Nat.zero_le _⟩ dX10_back_59 (fun I_12 R_12 J_12 H locs hp_12 hP hD hS _ _ => ?_)
          refine lv_iconst (v := nI 0) hx hb dX10_back_62 (by decide +kernel) ?_
          exact z_iret (v := nI 0) hx hb hr hlocks hP hD hS dX10_back_63 (Or.inr (Or.inr ⟨(by obtain ⟨_, _⟩ := zk_0; omega), (fun h => t_c_8 (congrArg Int32.toInt ((xFr hI 48 0 rfl).trans h))), rfl, hp_12⟩))
        · have t_c_8 := z_eqT c_8
          have f_13 : zR 0 0 (I 48 0) := zR_eqx t_c_8 zk_z
          refine lv_bipush (v := (-6)) hx hb dX10_back_26 (by decide +kernel) ?_
          exact z_iret (v := (-6)) hx hb hr hlocks hP hD hS dX10_back_28 (Or.inr (Or.inl ⟨(by obtain ⟨_, _⟩ := zk_0; omega), (xFr hI 48 0 rfl).symm.trans (Int32.toInt_inj.mp t_c_8), rfl, rfl⟩))
      · refine va_aldq hx hb hK hP 47 36 (zw_at (by decide) rfl) rfl (vp_in_nI (by decide) (by decide)) dX10_back_17 ?_
        refine W.eq (g2 := F0 m 18 ls (.ref (q 56) :: [])) rfl ?_
        refine lv_astore_n (lv' := [(2, .ref (q 56)), (0, .ref (q 0)), (1, .int (nI 1))]) hx hb dX10_back_18 rfl hl (by decide) rfl (fun ls hl => ?_)
        refine lv_aload_n hx hb dX10_back_19 rfl (lv_at hl 0 rfl) ?_
        refine z_get hx hb ht hown hK hP ziX5 rfl 56 (by decide) 0 (by decide) hw_2_60 rfl (v := .int (I 56 0)) rfl dX10_back_20 ?_
        have f_14 : zR 0 1 (I 56 0) := xI hI 56 0
        refine lv_if_ne (tgt := 29) hx hb dX10_back_23 (by decide) (fun c_15 => ?_) (fun c_15 => ?_)
        · have t_c_15 := z_eqF c_15
          have f_16 : zR 1 1 (I 56 0) := zR_nex t_c_15 f_14 zk_z (by decide)
          refine lv_aload_n hx hb dX10_back_29 rfl (lv_at hl 1 rfl) ?_
          refine z_get hx hb ht hown hK hP ziX10 rfl 0 (by decide) 1 (by decide) hw_2_94 rfl (v := .ref (q 3)) rfl dX10_back_30 ?_
          refine lv_aload_n hx hb dX10_back_33 rfl (lv_at hl 0 rfl) ?_
          refine z_get hx hb ht hown hK hP ziX5 rfl 56 (by decide) 1 (by decide) hw_2_62 rfl (v := .ref (q 57)) rfl dX10_back_34 ?_
          refine z_callVv (k := 3) (As := [.ref (q 57)]) (rest := []) hx hb hml hown ht (xk_X2_copyFrom_5 l D q cA F _ _ _ hI ) hw_3_38 hmX2_copyFrom ⟨rfl, rfl⟩ (na := 1) rfl (by decide +kernel) (by decide) (by decide) rfl rfl hK hP hD hS hA hl.1 rfl (Nat.le_of_ble_eq_true rfl) ⟨Nat.zero_le _, Nat.zero_le _⟩ dX10_back_37 (fun I_17 R_17 J_17 H locs hp_17 hP hD hS _ _ => ?_)
          refine lv_aload_n hx hb dX10_back_40 rfl (lv_at hl 1 rfl) ?_
          refine z_get hx hb ht hown hK hP ziX10 rfl 0 (by decide) 3 (by decide) hw_2_96 rfl (v := .ref (q 13)) rfl dX10_back_41 ?_
          refine lv_aload_n hx hb dX10_back_44 rfl (lv_at hl 0 rfl) ?_
          refine z_get hx hb ht hown hK hP ziX5 rfl 56 (by decide) 2 (by decide) hw_2_64 rfl (v := .ref (q 62)) rfl dX10_back_45 ?_
          refine z_callVv (k := 13) (As := [.ref (q 62)]) (rest := []) hx hb hml hown ht (xk_X0_copyFrom_4 l D q cA F _ _ _ hp_17 ) hw_5_145 hmX0_copyFrom ⟨rfl, rfl⟩ (na := 1) rfl (by decide +kernel) (by decide) (by decide) rfl rfl hK hP hD hS hA hl.1 rfl (Nat.le_of_ble_eq_true rfl) ⟨Nat.zero_le _, Nat.zero_le _⟩ dX10_back_48 (fun I_18 R_18 J_18 H locs hp_18 hP hD hS _ _ => ?_)
          refine lv_aload_n hx hb dX10_back_51 rfl (lv_at hl 1 rfl) ?_
          refine z_get hx hb ht hown hK hP ziX10 rfl 0 (by decide) 3 (by decide) hw_2_96 rfl (v := .ref (q 13)) rfl dX10_back_52 ?_
          refine lv_aload_n hx hb dX10_back_55 rfl (lv_at hl 1 rfl) ?_
          refine z_get hx hb ht hown hK hP ziX10 rfl 0 (by decide) 4 (by decide) hw_2_97 rfl (v := .ref (q 15)) rfl dX10_back_56 ?_
          refine z_callVv (k := 13) (As := [.ref (q 15)]) (rest := []) hx hb hml hown ht (xk_X0_replay l D q cA F _ _ _ hp_18 ) hw_4_8 hmX0_replay ⟨rfl, rfl⟩ (na := 1) rfl (by decide +kernel) (by decide) (by decide) rfl rfl hK hP hD hS hA hl.1 rfl (Nat.le_of_ble_eq_true rfl) ⟨Nat.zero_le _, Nat.zero_le _⟩ dX10_back_59 (fun I_19 R_19 J_19 H locs hp_19 hP hD hS _ _ => ?_)
          refine lv_iconst (v := nI 0) hx hb dX10_back_62 (by decide +kernel) ?_
          exact z_iret (v := nI 0) hx hb hr hlocks hP hD hS dX10_back_63 (Or.inr (Or.inr ⟨(by obtain ⟨_, _⟩ := zk_1; omega), (fun h => t_c_15 (congrArg Int32.toInt ((xFr hI 56 0 rfl).trans h))), rfl, hp_19⟩))
        · have t_c_15 := z_eqT c_15
          have f_20 : zR 0 0 (I 56 0) := zR_eqx t_c_15 zk_z
          refine lv_bipush (v := (-6)) hx hb dX10_back_26 (by decide +kernel) ?_
          exact z_iret (v := (-6)) hx hb hr hlocks hP hD hS dX10_back_28 (Or.inr (Or.inl ⟨(by obtain ⟨_, _⟩ := zk_1; omega), (xFr hI 56 0 rfl).symm.trans (Int32.toInt_inj.mp t_c_15), rfl, rfl⟩))
      · refine va_aldq hx hb hK hP 47 36 (zw_at (by decide) rfl) rfl (vp_in_nI (by decide) (by decide)) dX10_back_17 ?_
        refine W.eq (g2 := F0 m 18 ls (.ref (q 64) :: [])) rfl ?_
        refine lv_astore_n (lv' := [(2, .ref (q 64)), (0, .ref (q 0)), (1, .int (nI 2))]) hx hb dX10_back_18 rfl hl (by decide) rfl (fun ls hl => ?_)
        refine lv_aload_n hx hb dX10_back_19 rfl (lv_at hl 0 rfl) ?_
        refine z_get hx hb ht hown hK hP ziX5 rfl 64 (by decide) 0 (by decide) hw_2_60 rfl (v := .int (I 64 0)) rfl dX10_back_20 ?_
        have f_21 : zR 0 1 (I 64 0) := xI hI 64 0
        refine lv_if_ne (tgt := 29) hx hb dX10_back_23 (by decide) (fun c_22 => ?_) (fun c_22 => ?_)
        · have t_c_22 := z_eqF c_22
          have f_23 : zR 1 1 (I 64 0) := zR_nex t_c_22 f_21 zk_z (by decide)
          refine lv_aload_n hx hb dX10_back_29 rfl (lv_at hl 1 rfl) ?_
          refine z_get hx hb ht hown hK hP ziX10 rfl 0 (by decide) 1 (by decide) hw_2_94 rfl (v := .ref (q 3)) rfl dX10_back_30 ?_
          refine lv_aload_n hx hb dX10_back_33 rfl (lv_at hl 0 rfl) ?_
          refine z_get hx hb ht hown hK hP ziX5 rfl 64 (by decide) 1 (by decide) hw_2_62 rfl (v := .ref (q 65)) rfl dX10_back_34 ?_
          refine z_callVv (k := 3) (As := [.ref (q 65)]) (rest := []) hx hb hml hown ht (xk_X2_copyFrom_6 l D q cA F _ _ _ hI ) hw_3_38 hmX2_copyFrom ⟨rfl, rfl⟩ (na := 1) rfl (by decide +kernel) (by decide) (by decide) rfl rfl hK hP hD hS hA hl.1 rfl (Nat.le_of_ble_eq_true rfl) ⟨Nat.zero_le _, Nat.zero_le _⟩ dX10_back_37 (fun I_24 R_24 J_24 H locs hp_24 hP hD hS _ _ => ?_)
          refine lv_aload_n hx hb dX10_back_40 rfl (lv_at hl 1 rfl) ?_
          refine z_get hx hb ht hown hK hP ziX10 rfl 0 (by decide) 3 (by decide) hw_2_96 rfl (v := .ref (q 13)) rfl dX10_back_41 ?_
          refine lv_aload_n hx hb dX10_back_44 rfl (lv_at hl 0 rfl) ?_
          refine z_get hx hb ht hown hK hP ziX5 rfl 64 (by decide) 2 (by decide) hw_2_64 rfl (v := .ref (q 70)) rfl dX10_back_45 ?_
          refine z_callVv (k := 13) (As := [.ref (q 70)]) (rest := []) hx hb hml hown ht (xk_X0_copyFrom_5 l D q cA F _ _ _ hp_24 ) hw_5_145 hmX0_copyFrom ⟨rfl, rfl⟩ (na := 1) rfl (by decide +kernel) (by decide) (by decide) rfl rfl hK hP hD hS hA hl.1 rfl (Nat.le_of_ble_eq_true rfl) ⟨Nat.zero_le _, Nat.zero_le _⟩ dX10_back_48 (fun I_25 R_25 J_25 H locs hp_25 hP hD hS _ _ => ?_)
          refine lv_aload_n hx hb dX10_back_51 rfl (lv_at hl 1 rfl) ?_
          refine z_get hx hb ht hown hK hP ziX10 rfl 0 (by decide) 3 (by decide) hw_2_96 rfl (v := .ref (q 13)) rfl dX10_back_52 ?_
          refine lv_aload_n hx hb dX10_back_55 rfl (lv_at hl 1 rfl) ?_
          refine z_get hx hb ht hown hK hP ziX10 rfl 0 (by decide) 4 (by decide) hw_2_97 rfl (v := .ref (q 15)) rfl dX10_back_56 ?_
          refine z_callVv (k := 13) (As := [.ref (q 15)]) (rest := []) hx hb hml hown ht (xk_X0_replay l D q cA F _ _ _ hp_25 ) hw_4_8 hmX0_replay ⟨rfl, rfl⟩ (na := 1) rfl (by decide +kernel) (by decide) (by decide) rfl rfl hK hP hD hS hA hl.1 rfl (Nat.le_of_ble_eq_true rfl) ⟨Nat.zero_le _, Nat.zero_le _⟩ dX10_back_59 (fun I_26 R_26 J_26 H locs hp_26 hP hD hS _ _ => ?_)
          refine lv_iconst (v := nI 0) hx hb dX10_back_62 (by decide +kernel) ?_
          exact z_iret (v := nI 0) hx hb hr hlocks hP hD hS dX10_back_63 (Or.inr (Or.inr ⟨(by obtain ⟨_, _⟩ := zk_2; omega), (fun h => t_c_22 (congrArg Int32.toInt ((xFr hI 64 0 rfl).trans h))), rfl, hp_26⟩))
        · have t_c_22 := z_eqT c_22
          have f_27 : zR 0 0 (I 64 0) := zR_eqx t_c_22 zk_z
          refine lv_bipush (v := (-6)) hx hb dX10_back_26 (by decide +kernel) ?_
          exact z_iret (v := (-6)) hx hb hr hlocks hP hD hS dX10_back_28 (Or.inr (Or.inl ⟨(by obtain ⟨_, _⟩ := zk_2; omega), (xFr hI 64 0 rfl).symm.trans (Int32.toInt_inj.mp t_c_22), rfl, rfl⟩))
    · have t_c_4 := z_ltF c_4
      have f_28 : zR 3 2147483647 (pa0) := zR_ley t_c_4 zk_3 f_3 (by decide)
      refine lv_bipush (v := (-2)) hx hb dX10_back_9 (by decide +kernel) ?_
      exact z_iret (v := (-2)) hx hb hr hlocks hP hD hS dX10_back_11 (Or.inl ⟨(by obtain ⟨_, _⟩ := f_28; omega), rfl, rfl⟩)
set_option maxHeartbeats 4000000 in
set_option maxRecDepth 100000 in
theorem xk_J7_fill_d0a16 (l : Launch) (D : va_G) (q : Nat → Nat) (cA : Nat → ClassId) (F : Nat → Nat → Int32) (I R : Nat → Nat → Int32) (J : Nat → Nat → Int64) (hI : xInv F (I, R, J)) (pa1 : Int64) : zMv l D vwCl (zXtys cA) 81 q (zXd q cA) yJ7_fill_d0a16 cJ7_fill_d0a16 5 none ({ frames := 0, cells := 0, slots := 0, locals := 0 } : Room) [.ref (q 74), .long (pa1)] (I, R, J) (fun u => xInv F u) := by
  intro sz
  refine z_body (by decide +kernel) (Nat.le_of_ble_eq_true rfl) (fun p e s m below meth c ls hx hb hml hr ht hown hlocks hsz hK hP hD hS hl => ?_)
  have hA : ∀ a, s.heap.size ≤ a → zA 81 q sz a := fun a h => Or.inr (hsz ▸ h)
  have hl : lv_has ls 5 [(0, .ref (q 74)), (1, .long (pa1))] := hl
  refine lv_iconst (v := nI 0) hx hb dJ7_fill_d0a16_0 (by decide +kernel) ?_
  refine lv_istore_n (lv' := [(3, .int (nI 0)), (0, .ref (q 74)), (1, .long (pa1))]) hx hb dJ7_fill_d0a16_1 rfl hl (by decide) rfl (fun ls hl => ?_)
  refine lv_aload_n hx hb dJ7_fill_d0a16_2 rfl (lv_at hl 1 rfl) ?_
  refine z_alen hx hb hK hP 74 (by decide) 53 rfl rfl dJ7_fill_d0a16_3 ?_
  refine lv_istore (lv' := [(4, .int (nI 60)), (3, .int (nI 0)), (0, .ref (q 74)), (1, .long (pa1))]) hx hb dJ7_fill_d0a16_4 hl (by decide) rfl (fun ls hl => ?_)
  have loop_22 : ∀ N : Nat, ∀ x_20 : Int32, zR 0 60 x_20 → ∀ J_21 : Nat → Nat → Int64, xInv F (I, R, J_21) → (2147483648 - (x_20).toInt).toNat < N → ∀ (H : Heap) (locs : List Loc), va_P D vwCl (zw 81 q (zXd q cA) I R J_21) H → va_D (zA 81 q sz) (zw 81 q (zXd q cA) I R J_21) → va_S (zA 81 q sz) s.heap H locs → ∀ ls : Array Slot, lv_has ls 5 [(0, .ref (q 74)), (1, .long (pa1)), (3, .int (x_20)), (4, .int (nI 60))] → W p l e ({ frames := 0, cells := 0, slots := 0, locals := 0 } : Room) s m ([.ref (q 74), .long (pa1)] : List Value).toArray below meth c H locs 0 0 (MQ below (va_Qv (fun u => xInv F u) (zB D vwCl 81 q (zXd q cA) sz) (zA 81 q sz)) ([.ref (q 74), .long (pa1)] : List Value).toArray s 0 0 (zA 81 q sz)) (F0 m 6 ls []) := by
    intro N
    induction N with
    | zero => intro x_20 hx_20 J_21 hI_21 hN; exact absurd hN (Nat.not_lt_zero _)
    | succ N ih_24 =>
      intro x_20 hx_20 J_21 hI_21 hN_23 H locs hP hD hS ls hl
      refine lv_iload_n hx hb dJ7_fill_d0a16_6 rfl (lv_at hl 2 rfl) ?_
      refine lv_iload hx hb dJ7_fill_d0a16_7 (lv_at hl 3 rfl) ?_
      refine lv_icmp_ge (tgt := 22) hx hb dJ7_fill_d0a16_9 (by decide) (fun c_25 => ?_) (fun c_25 => ?_)
      · have t_c_25 := z_leT c_25
        have f_26 : zR 60 60 (x_20) := zR_ley t_c_25 zk_60 hx_20 (by decide)
        exact z_vret hx hb hr hlocks hP hD hS dJ7_fill_d0a16_22 hI_21
      · have t_c_25 := z_leF c_25
        have f_27 : zR 0 59 (x_20) := zR_ltx t_c_25 hx_20 zk_60 (by decide)
        refine lv_aload_n hx hb dJ7_fill_d0a16_12 rfl (lv_at hl 0 rfl) ?_
        refine lv_iload_n hx hb dJ7_fill_d0a16_13 rfl (lv_at hl 2 rfl) ?_
        refine lv_lload_n hx hb dJ7_fill_d0a16_14 rfl (lv_at hl 1 rfl) ?_
        refine z_last hx hb hK hP hD hS 74 (by decide) 53 (fun _ => rfl) rfl (zR_vin f_27 (by decide)) dJ7_fill_d0a16_15 (fun H locs hP hD hS => ?_)
        have hI_28 := xInv_J (J2 := (zp J_21 74 (x_20).toNatClampNeg (pa1))) hI_21
        obtain ⟨v_29, ev_29⟩ : ∃ y : Int32, y = x_20 + nI 1 := ⟨_, rfl⟩
        have hv_29 : zR 1 60 v_29 := ev_29 ▸ zR_add f_27 zk_1 (by decide)
        have mv_29 : v_29.toInt = (x_20).toInt + 1 := by rw [ev_29, zR_addE f_27 zk_1 (by decide)]; rfl
        refine lv_iinc (v := v_29) (lv' := [(3, .int (v_29)), (0, .ref (q 74)), (1, .long (pa1)), (4, .int (nI 60))]) hx hb dJ7_fill_d0a16_16 hl (k := 2) rfl (ev_29 ▸ rfl) (by decide) rfl (fun ls hl => ?_)
        refine lv_goto (tgt := 6) hx hb dJ7_fill_d0a16_19 (by decide) ?_
        exact ih_24 (v_29) (zR_w hv_29 (by decide)) _ hI_28 (z2_up mv_29 (by decide) hN_23) _ _ hP hD hS _ (lv_sub hl [1, 2, 0, 3] rfl)
  exact loop_22 _ (nI 0) (zR_w zk_0 (by decide)) _ hI (Nat.lt_succ_self _) _ _ hP hD hS _ (lv_sub hl [2, 3, 1, 0] rfl)
set_option maxHeartbeats 4000000 in
set_option maxRecDepth 100000 in
theorem xk_X6_begin (l : Launch) (D : va_G) (q : Nat → Nat) (cA : Nat → ClassId) (F : Nat → Nat → Int32) (I R : Nat → Nat → Int32) (J : Nat → Nat → Int64) (hI : xInv F (I, R, J)) (pa0 : Int32) (hpa0 : zR 0 3 pa0) (pa1 : Int32) (hpa1 : zR 0 60 pa1) : zMv l D vwCl (zXtys cA) 81 q (zXd q cA) yX6_begin cX6_begin 3 none ({ frames := 1, cells := 0, slots := 0, locals := 24 } : Room) [.ref (q 73), .int (pa0), .int (pa1)] (I, R, J) (fun u => xInv (zp (zp F 73 0 (pa0)) 73 1 (pa1)) u) := by
  intro sz
  refine z_body (by decide +kernel) (Nat.le_of_ble_eq_true rfl) (fun p e s m below meth c ls hx hb hml hr ht hown hlocks hsz hK hP hD hS hl => ?_)
  have hA : ∀ a, s.heap.size ≤ a → zA 81 q sz a := fun a h => Or.inr (hsz ▸ h)
  have hl : lv_has ls 3 [(0, .ref (q 73)), (1, .int (pa0)), (2, .int (pa1))] := hl
  refine lv_aload_n hx hb dX6_begin_0 rfl (lv_at hl 0 rfl) ?_
  refine lv_iload_n hx hb dX6_begin_1 rfl (lv_at hl 1 rfl) ?_
  refine z_putI hx hb ht hown hK hP hD hS ziX6 tyX6 tyX6_ok nmX6 rfl 73 (by decide) 0 (by decide) hw_2_77 rfl (v := pa0) rfl rfl rfl (Nat.le_of_ble_eq_true rfl) rfl dX6_begin_2 (fun H locs hP hD hS => ?_)
  have hI_1 := xInv_F hI 73 0 (pa0) (zR_any (pa0))
  refine lv_aload_n hx hb dX6_begin_5 rfl (lv_at hl 0 rfl) ?_
  refine lv_iload_n hx hb dX6_begin_6 rfl (lv_at hl 2 rfl) ?_
  refine z_putI hx hb ht hown hK hP hD hS ziX6 tyX6 tyX6_ok nmX6 rfl 73 (by decide) 1 (by decide) hw_2_79 rfl (v := pa1) rfl rfl rfl (Nat.le_of_ble_eq_true rfl) rfl dX6_begin_7 (fun H locs hP hD hS => ?_)
  have hI_2 := xInv_F hI_1 73 1 (pa1) (zR_w hpa1 (by decide))
  refine lv_aload_n hx hb dX6_begin_10 rfl (lv_at hl 0 rfl) ?_
  refine z_get hx hb ht hown hK hP ziX6 rfl 73 (by decide) 2 (by decide) hw_2_82 rfl (v := .ref (q 74)) rfl dX6_begin_11 ?_
  refine lv_lconst (v := (0 : Int64)) hx hb dX6_begin_14 (by decide +kernel) ?_
  refine z_callSv (As := [.ref (q 74), .long ((0 : Int64))]) (rest := []) hx hb hml hown ht (xk_J7_fill_d0a16 l D q cA (zp (zp F 73 0 (pa0)) 73 1 (pa1)) _ _ _ hI_2 ((0 : Int64))) hw_5_162 hmJ7_fill_d0a16 ⟨rfl, rfl⟩ (na := 2) rfl (by decide +kernel) (by decide) hK hP hD hS hA hl.1 rfl (Nat.le_of_ble_eq_true rfl) ⟨Nat.zero_le _, Nat.zero_le _⟩ dX6_begin_15 (fun I_3 R_3 J_3 H locs hp_3 hP hD hS _ _ => ?_)
  exact z_vret hx hb hr hlocks hP hD hS dX6_begin_18 hp_3
set_option maxHeartbeats 4000000 in
set_option maxRecDepth 100000 in
theorem xk_J7_fill_d0a16_1 (l : Launch) (D : va_G) (q : Nat → Nat) (cA : Nat → ClassId) (F : Nat → Nat → Int32) (I R : Nat → Nat → Int32) (J : Nat → Nat → Int64) (hI : xInv F (I, R, J)) (pa1 : Int64) : zMv l D vwCl (zXtys cA) 81 q (zXd q cA) yJ7_fill_d0a16 cJ7_fill_d0a16 5 none ({ frames := 0, cells := 0, slots := 0, locals := 0 } : Room) [.ref (q 76), .long (pa1)] (I, R, J) (fun u => xInv F u) := by
  intro sz
  refine z_body (by decide +kernel) (Nat.le_of_ble_eq_true rfl) (fun p e s m below meth c ls hx hb hml hr ht hown hlocks hsz hK hP hD hS hl => ?_)
  have hA : ∀ a, s.heap.size ≤ a → zA 81 q sz a := fun a h => Or.inr (hsz ▸ h)
  have hl : lv_has ls 5 [(0, .ref (q 76)), (1, .long (pa1))] := hl
  refine lv_iconst (v := nI 0) hx hb dJ7_fill_d0a16_0 (by decide +kernel) ?_
  refine lv_istore_n (lv' := [(3, .int (nI 0)), (0, .ref (q 76)), (1, .long (pa1))]) hx hb dJ7_fill_d0a16_1 rfl hl (by decide) rfl (fun ls hl => ?_)
  refine lv_aload_n hx hb dJ7_fill_d0a16_2 rfl (lv_at hl 1 rfl) ?_
  refine z_alen hx hb hK hP 76 (by decide) 54 rfl rfl dJ7_fill_d0a16_3 ?_
  refine lv_istore (lv' := [(4, .int (nI 60)), (3, .int (nI 0)), (0, .ref (q 76)), (1, .long (pa1))]) hx hb dJ7_fill_d0a16_4 hl (by decide) rfl (fun ls hl => ?_)
  have loop_22 : ∀ N : Nat, ∀ x_20 : Int32, zR 0 60 x_20 → ∀ J_21 : Nat → Nat → Int64, xInv F (I, R, J_21) → (2147483648 - (x_20).toInt).toNat < N → ∀ (H : Heap) (locs : List Loc), va_P D vwCl (zw 81 q (zXd q cA) I R J_21) H → va_D (zA 81 q sz) (zw 81 q (zXd q cA) I R J_21) → va_S (zA 81 q sz) s.heap H locs → ∀ ls : Array Slot, lv_has ls 5 [(0, .ref (q 76)), (1, .long (pa1)), (3, .int (x_20)), (4, .int (nI 60))] → W p l e ({ frames := 0, cells := 0, slots := 0, locals := 0 } : Room) s m ([.ref (q 76), .long (pa1)] : List Value).toArray below meth c H locs 0 0 (MQ below (va_Qv (fun u => xInv F u) (zB D vwCl 81 q (zXd q cA) sz) (zA 81 q sz)) ([.ref (q 76), .long (pa1)] : List Value).toArray s 0 0 (zA 81 q sz)) (F0 m 6 ls []) := by
    intro N
    induction N with
    | zero => intro x_20 hx_20 J_21 hI_21 hN; exact absurd hN (Nat.not_lt_zero _)
    | succ N ih_24 =>
      intro x_20 hx_20 J_21 hI_21 hN_23 H locs hP hD hS ls hl
      refine lv_iload_n hx hb dJ7_fill_d0a16_6 rfl (lv_at hl 2 rfl) ?_
      refine lv_iload hx hb dJ7_fill_d0a16_7 (lv_at hl 3 rfl) ?_
      refine lv_icmp_ge (tgt := 22) hx hb dJ7_fill_d0a16_9 (by decide) (fun c_25 => ?_) (fun c_25 => ?_)
      · have t_c_25 := z_leT c_25
        have f_26 : zR 60 60 (x_20) := zR_ley t_c_25 zk_60 hx_20 (by decide)
        exact z_vret hx hb hr hlocks hP hD hS dJ7_fill_d0a16_22 hI_21
      · have t_c_25 := z_leF c_25
        have f_27 : zR 0 59 (x_20) := zR_ltx t_c_25 hx_20 zk_60 (by decide)
        refine lv_aload_n hx hb dJ7_fill_d0a16_12 rfl (lv_at hl 0 rfl) ?_
        refine lv_iload_n hx hb dJ7_fill_d0a16_13 rfl (lv_at hl 2 rfl) ?_
        refine lv_lload_n hx hb dJ7_fill_d0a16_14 rfl (lv_at hl 1 rfl) ?_
        refine z_last hx hb hK hP hD hS 76 (by decide) 54 (fun _ => rfl) rfl (zR_vin f_27 (by decide)) dJ7_fill_d0a16_15 (fun H locs hP hD hS => ?_)
        have hI_28 := xInv_J (J2 := (zp J_21 76 (x_20).toNatClampNeg (pa1))) hI_21
        obtain ⟨v_29, ev_29⟩ : ∃ y : Int32, y = x_20 + nI 1 := ⟨_, rfl⟩
        have hv_29 : zR 1 60 v_29 := ev_29 ▸ zR_add f_27 zk_1 (by decide)
        have mv_29 : v_29.toInt = (x_20).toInt + 1 := by rw [ev_29, zR_addE f_27 zk_1 (by decide)]; rfl
        refine lv_iinc (v := v_29) (lv' := [(3, .int (v_29)), (0, .ref (q 76)), (1, .long (pa1)), (4, .int (nI 60))]) hx hb dJ7_fill_d0a16_16 hl (k := 2) rfl (ev_29 ▸ rfl) (by decide) rfl (fun ls hl => ?_)
        refine lv_goto (tgt := 6) hx hb dJ7_fill_d0a16_19 (by decide) ?_
        exact ih_24 (v_29) (zR_w hv_29 (by decide)) _ hI_28 (z2_up mv_29 (by decide) hN_23) _ _ hP hD hS _ (lv_sub hl [1, 2, 0, 3] rfl)
  exact loop_22 _ (nI 0) (zR_w zk_0 (by decide)) _ hI (Nat.lt_succ_self _) _ _ hP hD hS _ (lv_sub hl [2, 3, 1, 0] rfl)
set_option maxHeartbeats 4000000 in
set_option maxRecDepth 100000 in
theorem xk_X6_begin_1 (l : Launch) (D : va_G) (q : Nat → Nat) (cA : Nat → ClassId) (F : Nat → Nat → Int32) (I R : Nat → Nat → Int32) (J : Nat → Nat → Int64) (hI : xInv F (I, R, J)) (pa0 : Int32) (hpa0 : zR 0 3 pa0) (pa1 : Int32) (hpa1 : zR 0 60 pa1) : zMv l D vwCl (zXtys cA) 81 q (zXd q cA) yX6_begin cX6_begin 3 none ({ frames := 1, cells := 0, slots := 0, locals := 24 } : Room) [.ref (q 75), .int (pa0), .int (pa1)] (I, R, J) (fun u => xInv (zp (zp F 75 0 (pa0)) 75 1 (pa1)) u) := by
  intro sz
  refine z_body (by decide +kernel) (Nat.le_of_ble_eq_true rfl) (fun p e s m below meth c ls hx hb hml hr ht hown hlocks hsz hK hP hD hS hl => ?_)
  have hA : ∀ a, s.heap.size ≤ a → zA 81 q sz a := fun a h => Or.inr (hsz ▸ h)
  have hl : lv_has ls 3 [(0, .ref (q 75)), (1, .int (pa0)), (2, .int (pa1))] := hl
  refine lv_aload_n hx hb dX6_begin_0 rfl (lv_at hl 0 rfl) ?_
  refine lv_iload_n hx hb dX6_begin_1 rfl (lv_at hl 1 rfl) ?_
  refine z_putI hx hb ht hown hK hP hD hS ziX6 tyX6 tyX6_ok nmX6 rfl 75 (by decide) 0 (by decide) hw_2_77 rfl (v := pa0) rfl rfl rfl (Nat.le_of_ble_eq_true rfl) rfl dX6_begin_2 (fun H locs hP hD hS => ?_)
  have hI_1 := xInv_F hI 75 0 (pa0) (zR_any (pa0))
  refine lv_aload_n hx hb dX6_begin_5 rfl (lv_at hl 0 rfl) ?_
  refine lv_iload_n hx hb dX6_begin_6 rfl (lv_at hl 2 rfl) ?_
  refine z_putI hx hb ht hown hK hP hD hS ziX6 tyX6 tyX6_ok nmX6 rfl 75 (by decide) 1 (by decide) hw_2_79 rfl (v := pa1) rfl rfl rfl (Nat.le_of_ble_eq_true rfl) rfl dX6_begin_7 (fun H locs hP hD hS => ?_)
  have hI_2 := xInv_F hI_1 75 1 (pa1) (zR_w hpa1 (by decide))
  refine lv_aload_n hx hb dX6_begin_10 rfl (lv_at hl 0 rfl) ?_
  refine z_get hx hb ht hown hK hP ziX6 rfl 75 (by decide) 2 (by decide) hw_2_82 rfl (v := .ref (q 76)) rfl dX6_begin_11 ?_
  refine lv_lconst (v := (0 : Int64)) hx hb dX6_begin_14 (by decide +kernel) ?_
  refine z_callSv (As := [.ref (q 76), .long ((0 : Int64))]) (rest := []) hx hb hml hown ht (xk_J7_fill_d0a16_1 l D q cA (zp (zp F 75 0 (pa0)) 75 1 (pa1)) _ _ _ hI_2 ((0 : Int64))) hw_5_162 hmJ7_fill_d0a16 ⟨rfl, rfl⟩ (na := 2) rfl (by decide +kernel) (by decide) hK hP hD hS hA hl.1 rfl (Nat.le_of_ble_eq_true rfl) ⟨Nat.zero_le _, Nat.zero_le _⟩ dX6_begin_15 (fun I_3 R_3 J_3 H locs hp_3 hP hD hS _ _ => ?_)
  exact z_vret hx hb hr hlocks hP hD hS dX6_begin_18 hp_3
set_option maxHeartbeats 4000000 in
set_option maxRecDepth 100000 in
theorem xk_J7_fill_d0a16_2 (l : Launch) (D : va_G) (q : Nat → Nat) (cA : Nat → ClassId) (F : Nat → Nat → Int32) (I R : Nat → Nat → Int32) (J : Nat → Nat → Int64) (hI : xInv F (I, R, J)) (pa1 : Int64) : zMv l D vwCl (zXtys cA) 81 q (zXd q cA) yJ7_fill_d0a16 cJ7_fill_d0a16 5 none ({ frames := 0, cells := 0, slots := 0, locals := 0 } : Room) [.ref (q 78), .long (pa1)] (I, R, J) (fun u => xInv F u) := by
  intro sz
  refine z_body (by decide +kernel) (Nat.le_of_ble_eq_true rfl) (fun p e s m below meth c ls hx hb hml hr ht hown hlocks hsz hK hP hD hS hl => ?_)
  have hA : ∀ a, s.heap.size ≤ a → zA 81 q sz a := fun a h => Or.inr (hsz ▸ h)
  have hl : lv_has ls 5 [(0, .ref (q 78)), (1, .long (pa1))] := hl
  refine lv_iconst (v := nI 0) hx hb dJ7_fill_d0a16_0 (by decide +kernel) ?_
  refine lv_istore_n (lv' := [(3, .int (nI 0)), (0, .ref (q 78)), (1, .long (pa1))]) hx hb dJ7_fill_d0a16_1 rfl hl (by decide) rfl (fun ls hl => ?_)
  refine lv_aload_n hx hb dJ7_fill_d0a16_2 rfl (lv_at hl 1 rfl) ?_
  refine z_alen hx hb hK hP 78 (by decide) 55 rfl rfl dJ7_fill_d0a16_3 ?_
  refine lv_istore (lv' := [(4, .int (nI 60)), (3, .int (nI 0)), (0, .ref (q 78)), (1, .long (pa1))]) hx hb dJ7_fill_d0a16_4 hl (by decide) rfl (fun ls hl => ?_)
  have loop_22 : ∀ N : Nat, ∀ x_20 : Int32, zR 0 60 x_20 → ∀ J_21 : Nat → Nat → Int64, xInv F (I, R, J_21) → (2147483648 - (x_20).toInt).toNat < N → ∀ (H : Heap) (locs : List Loc), va_P D vwCl (zw 81 q (zXd q cA) I R J_21) H → va_D (zA 81 q sz) (zw 81 q (zXd q cA) I R J_21) → va_S (zA 81 q sz) s.heap H locs → ∀ ls : Array Slot, lv_has ls 5 [(0, .ref (q 78)), (1, .long (pa1)), (3, .int (x_20)), (4, .int (nI 60))] → W p l e ({ frames := 0, cells := 0, slots := 0, locals := 0 } : Room) s m ([.ref (q 78), .long (pa1)] : List Value).toArray below meth c H locs 0 0 (MQ below (va_Qv (fun u => xInv F u) (zB D vwCl 81 q (zXd q cA) sz) (zA 81 q sz)) ([.ref (q 78), .long (pa1)] : List Value).toArray s 0 0 (zA 81 q sz)) (F0 m 6 ls []) := by
    intro N
    induction N with
    | zero => intro x_20 hx_20 J_21 hI_21 hN; exact absurd hN (Nat.not_lt_zero _)
    | succ N ih_24 =>
      intro x_20 hx_20 J_21 hI_21 hN_23 H locs hP hD hS ls hl
      refine lv_iload_n hx hb dJ7_fill_d0a16_6 rfl (lv_at hl 2 rfl) ?_
      refine lv_iload hx hb dJ7_fill_d0a16_7 (lv_at hl 3 rfl) ?_
      refine lv_icmp_ge (tgt := 22) hx hb dJ7_fill_d0a16_9 (by decide) (fun c_25 => ?_) (fun c_25 => ?_)
      · have t_c_25 := z_leT c_25
        have f_26 : zR 60 60 (x_20) := zR_ley t_c_25 zk_60 hx_20 (by decide)
        exact z_vret hx hb hr hlocks hP hD hS dJ7_fill_d0a16_22 hI_21
      · have t_c_25 := z_leF c_25
        have f_27 : zR 0 59 (x_20) := zR_ltx t_c_25 hx_20 zk_60 (by decide)
        refine lv_aload_n hx hb dJ7_fill_d0a16_12 rfl (lv_at hl 0 rfl) ?_
        refine lv_iload_n hx hb dJ7_fill_d0a16_13 rfl (lv_at hl 2 rfl) ?_
        refine lv_lload_n hx hb dJ7_fill_d0a16_14 rfl (lv_at hl 1 rfl) ?_
        refine z_last hx hb hK hP hD hS 78 (by decide) 55 (fun _ => rfl) rfl (zR_vin f_27 (by decide)) dJ7_fill_d0a16_15 (fun H locs hP hD hS => ?_)
        have hI_28 := xInv_J (J2 := (zp J_21 78 (x_20).toNatClampNeg (pa1))) hI_21
        obtain ⟨v_29, ev_29⟩ : ∃ y : Int32, y = x_20 + nI 1 := ⟨_, rfl⟩
        have hv_29 : zR 1 60 v_29 := ev_29 ▸ zR_add f_27 zk_1 (by decide)
        have mv_29 : v_29.toInt = (x_20).toInt + 1 := by rw [ev_29, zR_addE f_27 zk_1 (by decide)]; rfl
        refine lv_iinc (v := v_29) (lv' := [(3, .int (v_29)), (0, .ref (q 78)), (1, .long (pa1)), (4, .int (nI 60))]) hx hb dJ7_fill_d0a16_16 hl (k := 2) rfl (ev_29 ▸ rfl) (by decide) rfl (fun ls hl => ?_)
        refine lv_goto (tgt := 6) hx hb dJ7_fill_d0a16_19 (by decide) ?_
        exact ih_24 (v_29) (zR_w hv_29 (by decide)) _ hI_28 (z2_up mv_29 (by decide) hN_23) _ _ hP hD hS _ (lv_sub hl [1, 2, 0, 3] rfl)
  exact loop_22 _ (nI 0) (zR_w zk_0 (by decide)) _ hI (Nat.lt_succ_self _) _ _ hP hD hS _ (lv_sub hl [2, 3, 1, 0] rfl)
set_option maxHeartbeats 4000000 in
set_option maxRecDepth 100000 in
theorem xk_X6_begin_2 (l : Launch) (D : va_G) (q : Nat → Nat) (cA : Nat → ClassId) (F : Nat → Nat → Int32) (I R : Nat → Nat → Int32) (J : Nat → Nat → Int64) (hI : xInv F (I, R, J)) (pa0 : Int32) (hpa0 : zR 0 3 pa0) (pa1 : Int32) (hpa1 : zR 0 60 pa1) : zMv l D vwCl (zXtys cA) 81 q (zXd q cA) yX6_begin cX6_begin 3 none ({ frames := 1, cells := 0, slots := 0, locals := 24 } : Room) [.ref (q 77), .int (pa0), .int (pa1)] (I, R, J) (fun u => xInv (zp (zp F 77 0 (pa0)) 77 1 (pa1)) u) := by
  intro sz
  refine z_body (by decide +kernel) (Nat.le_of_ble_eq_true rfl) (fun p e s m below meth c ls hx hb hml hr ht hown hlocks hsz hK hP hD hS hl => ?_)
  have hA : ∀ a, s.heap.size ≤ a → zA 81 q sz a := fun a h => Or.inr (hsz ▸ h)
  have hl : lv_has ls 3 [(0, .ref (q 77)), (1, .int (pa0)), (2, .int (pa1))] := hl
  refine lv_aload_n hx hb dX6_begin_0 rfl (lv_at hl 0 rfl) ?_
  refine lv_iload_n hx hb dX6_begin_1 rfl (lv_at hl 1 rfl) ?_
  refine z_putI hx hb ht hown hK hP hD hS ziX6 tyX6 tyX6_ok nmX6 rfl 77 (by decide) 0 (by decide) hw_2_77 rfl (v := pa0) rfl rfl rfl (Nat.le_of_ble_eq_true rfl) rfl dX6_begin_2 (fun H locs hP hD hS => ?_)
  have hI_1 := xInv_F hI 77 0 (pa0) (zR_any (pa0))
  refine lv_aload_n hx hb dX6_begin_5 rfl (lv_at hl 0 rfl) ?_
  refine lv_iload_n hx hb dX6_begin_6 rfl (lv_at hl 2 rfl) ?_
  refine z_putI hx hb ht hown hK hP hD hS ziX6 tyX6 tyX6_ok nmX6 rfl 77 (by decide) 1 (by decide) hw_2_79 rfl (v := pa1) rfl rfl rfl (Nat.le_of_ble_eq_true rfl) rfl dX6_begin_7 (fun H locs hP hD hS => ?_)
  have hI_2 := xInv_F hI_1 77 1 (pa1) (zR_w hpa1 (by decide))
  refine lv_aload_n hx hb dX6_begin_10 rfl (lv_at hl 0 rfl) ?_
  refine z_get hx hb ht hown hK hP ziX6 rfl 77 (by decide) 2 (by decide) hw_2_82 rfl (v := .ref (q 78)) rfl dX6_begin_11 ?_
  refine lv_lconst (v := (0 : Int64)) hx hb dX6_begin_14 (by decide +kernel) ?_
  refine z_callSv (As := [.ref (q 78), .long ((0 : Int64))]) (rest := []) hx hb hml hown ht (xk_J7_fill_d0a16_2 l D q cA (zp (zp F 77 0 (pa0)) 77 1 (pa1)) _ _ _ hI_2 ((0 : Int64))) hw_5_162 hmJ7_fill_d0a16 ⟨rfl, rfl⟩ (na := 2) rfl (by decide +kernel) (by decide) hK hP hD hS hA hl.1 rfl (Nat.le_of_ble_eq_true rfl) ⟨Nat.zero_le _, Nat.zero_le _⟩ dX6_begin_15 (fun I_3 R_3 J_3 H locs hp_3 hP hD hS _ _ => ?_)
  exact z_vret hx hb hr hlocks hP hD hS dX6_begin_18 hp_3
set_option maxHeartbeats 4000000 in
set_option maxRecDepth 100000 in
theorem xk_J7_fill_d0a16_3 (l : Launch) (D : va_G) (q : Nat → Nat) (cA : Nat → ClassId) (F : Nat → Nat → Int32) (I R : Nat → Nat → Int32) (J : Nat → Nat → Int64) (hI : xInv F (I, R, J)) (pa1 : Int64) : zMv l D vwCl (zXtys cA) 81 q (zXd q cA) yJ7_fill_d0a16 cJ7_fill_d0a16 5 none ({ frames := 0, cells := 0, slots := 0, locals := 0 } : Room) [.ref (q 80), .long (pa1)] (I, R, J) (fun u => xInv F u) := by
  intro sz
  refine z_body (by decide +kernel) (Nat.le_of_ble_eq_true rfl) (fun p e s m below meth c ls hx hb hml hr ht hown hlocks hsz hK hP hD hS hl => ?_)
  have hA : ∀ a, s.heap.size ≤ a → zA 81 q sz a := fun a h => Or.inr (hsz ▸ h)
  have hl : lv_has ls 5 [(0, .ref (q 80)), (1, .long (pa1))] := hl
  refine lv_iconst (v := nI 0) hx hb dJ7_fill_d0a16_0 (by decide +kernel) ?_
  refine lv_istore_n (lv' := [(3, .int (nI 0)), (0, .ref (q 80)), (1, .long (pa1))]) hx hb dJ7_fill_d0a16_1 rfl hl (by decide) rfl (fun ls hl => ?_)
  refine lv_aload_n hx hb dJ7_fill_d0a16_2 rfl (lv_at hl 1 rfl) ?_
  refine z_alen hx hb hK hP 80 (by decide) 56 rfl rfl dJ7_fill_d0a16_3 ?_
  refine lv_istore (lv' := [(4, .int (nI 60)), (3, .int (nI 0)), (0, .ref (q 80)), (1, .long (pa1))]) hx hb dJ7_fill_d0a16_4 hl (by decide) rfl (fun ls hl => ?_)
  have loop_22 : ∀ N : Nat, ∀ x_20 : Int32, zR 0 60 x_20 → ∀ J_21 : Nat → Nat → Int64, xInv F (I, R, J_21) → (2147483648 - (x_20).toInt).toNat < N → ∀ (H : Heap) (locs : List Loc), va_P D vwCl (zw 81 q (zXd q cA) I R J_21) H → va_D (zA 81 q sz) (zw 81 q (zXd q cA) I R J_21) → va_S (zA 81 q sz) s.heap H locs → ∀ ls : Array Slot, lv_has ls 5 [(0, .ref (q 80)), (1, .long (pa1)), (3, .int (x_20)), (4, .int (nI 60))] → W p l e ({ frames := 0, cells := 0, slots := 0, locals := 0 } : Room) s m ([.ref (q 80), .long (pa1)] : List Value).toArray below meth c H locs 0 0 (MQ below (va_Qv (fun u => xInv F u) (zB D vwCl 81 q (zXd q cA) sz) (zA 81 q sz)) ([.ref (q 80), .long (pa1)] : List Value).toArray s 0 0 (zA 81 q sz)) (F0 m 6 ls []) := by
    intro N
    induction N with
    | zero => intro x_20 hx_20 J_21 hI_21 hN; exact absurd hN (Nat.not_lt_zero _)
    | succ N ih_24 =>
      intro x_20 hx_20 J_21 hI_21 hN_23 H locs hP hD hS ls hl
      refine lv_iload_n hx hb dJ7_fill_d0a16_6 rfl (lv_at hl 2 rfl) ?_
      refine lv_iload hx hb dJ7_fill_d0a16_7 (lv_at hl 3 rfl) ?_
      refine lv_icmp_ge (tgt := 22) hx hb dJ7_fill_d0a16_9 (by decide) (fun c_25 => ?_) (fun c_25 => ?_)
      · have t_c_25 := z_leT c_25
        have f_26 : zR 60 60 (x_20) := zR_ley t_c_25 zk_60 hx_20 (by decide)
        exact z_vret hx hb hr hlocks hP hD hS dJ7_fill_d0a16_22 hI_21
      · have t_c_25 := z_leF c_25
        have f_27 : zR 0 59 (x_20) := zR_ltx t_c_25 hx_20 zk_60 (by decide)
        refine lv_aload_n hx hb dJ7_fill_d0a16_12 rfl (lv_at hl 0 rfl) ?_
        refine lv_iload_n hx hb dJ7_fill_d0a16_13 rfl (lv_at hl 2 rfl) ?_
        refine lv_lload_n hx hb dJ7_fill_d0a16_14 rfl (lv_at hl 1 rfl) ?_
        refine z_last hx hb hK hP hD hS 80 (by decide) 56 (fun _ => rfl) rfl (zR_vin f_27 (by decide)) dJ7_fill_d0a16_15 (fun H locs hP hD hS => ?_)
        have hI_28 := xInv_J (J2 := (zp J_21 80 (x_20).toNatClampNeg (pa1))) hI_21
        obtain ⟨v_29, ev_29⟩ : ∃ y : Int32, y = x_20 + nI 1 := ⟨_, rfl⟩
        have hv_29 : zR 1 60 v_29 := ev_29 ▸ zR_add f_27 zk_1 (by decide)
        have mv_29 : v_29.toInt = (x_20).toInt + 1 := by rw [ev_29, zR_addE f_27 zk_1 (by decide)]; rfl
        refine lv_iinc (v := v_29) (lv' := [(3, .int (v_29)), (0, .ref (q 80)), (1, .long (pa1)), (4, .int (nI 60))]) hx hb dJ7_fill_d0a16_16 hl (k := 2) rfl (ev_29 ▸ rfl) (by decide) rfl (fun ls hl => ?_)
        refine lv_goto (tgt := 6) hx hb dJ7_fill_d0a16_19 (by decide) ?_
        exact ih_24 (v_29) (zR_w hv_29 (by decide)) _ hI_28 (z2_up mv_29 (by decide) hN_23) _ _ hP hD hS _ (lv_sub hl [1, 2, 0, 3] rfl)
  exact loop_22 _ (nI 0) (zR_w zk_0 (by decide)) _ hI (Nat.lt_succ_self _) _ _ hP hD hS _ (lv_sub hl [2, 3, 1, 0] rfl)
set_option maxHeartbeats 4000000 in
set_option maxRecDepth 100000 in
theorem xk_X6_begin_3 (l : Launch) (D : va_G) (q : Nat → Nat) (cA : Nat → ClassId) (F : Nat → Nat → Int32) (I R : Nat → Nat → Int32) (J : Nat → Nat → Int64) (hI : xInv F (I, R, J)) (pa0 : Int32) (hpa0 : zR 0 3 pa0) (pa1 : Int32) (hpa1 : zR 0 60 pa1) : zMv l D vwCl (zXtys cA) 81 q (zXd q cA) yX6_begin cX6_begin 3 none ({ frames := 1, cells := 0, slots := 0, locals := 24 } : Room) [.ref (q 79), .int (pa0), .int (pa1)] (I, R, J) (fun u => xInv (zp (zp F 79 0 (pa0)) 79 1 (pa1)) u) := by
  intro sz
  refine z_body (by decide +kernel) (Nat.le_of_ble_eq_true rfl) (fun p e s m below meth c ls hx hb hml hr ht hown hlocks hsz hK hP hD hS hl => ?_)
  have hA : ∀ a, s.heap.size ≤ a → zA 81 q sz a := fun a h => Or.inr (hsz ▸ h)
  have hl : lv_has ls 3 [(0, .ref (q 79)), (1, .int (pa0)), (2, .int (pa1))] := hl
  refine lv_aload_n hx hb dX6_begin_0 rfl (lv_at hl 0 rfl) ?_
  refine lv_iload_n hx hb dX6_begin_1 rfl (lv_at hl 1 rfl) ?_
  refine z_putI hx hb ht hown hK hP hD hS ziX6 tyX6 tyX6_ok nmX6 rfl 79 (by decide) 0 (by decide) hw_2_77 rfl (v := pa0) rfl rfl rfl (Nat.le_of_ble_eq_true rfl) rfl dX6_begin_2 (fun H locs hP hD hS => ?_)
  have hI_1 := xInv_F hI 79 0 (pa0) (zR_any (pa0))
  refine lv_aload_n hx hb dX6_begin_5 rfl (lv_at hl 0 rfl) ?_
  refine lv_iload_n hx hb dX6_begin_6 rfl (lv_at hl 2 rfl) ?_
  refine z_putI hx hb ht hown hK hP hD hS ziX6 tyX6 tyX6_ok nmX6 rfl 79 (by decide) 1 (by decide) hw_2_79 rfl (v := pa1) rfl rfl rfl (Nat.le_of_ble_eq_true rfl) rfl dX6_begin_7 (fun H locs hP hD hS => ?_)
  have hI_2 := xInv_F hI_1 79 1 (pa1) (zR_w hpa1 (by decide))
  refine lv_aload_n hx hb dX6_begin_10 rfl (lv_at hl 0 rfl) ?_
  refine z_get hx hb ht hown hK hP ziX6 rfl 79 (by decide) 2 (by decide) hw_2_82 rfl (v := .ref (q 80)) rfl dX6_begin_11 ?_
  refine lv_lconst (v := (0 : Int64)) hx hb dX6_begin_14 (by decide +kernel) ?_
  refine z_callSv (As := [.ref (q 80), .long ((0 : Int64))]) (rest := []) hx hb hml hown ht (xk_J7_fill_d0a16_3 l D q cA (zp (zp F 79 0 (pa0)) 79 1 (pa1)) _ _ _ hI_2 ((0 : Int64))) hw_5_162 hmJ7_fill_d0a16 ⟨rfl, rfl⟩ (na := 2) rfl (by decide +kernel) (by decide) hK hP hD hS hA hl.1 rfl (Nat.le_of_ble_eq_true rfl) ⟨Nat.zero_le _, Nat.zero_le _⟩ dX6_begin_15 (fun I_3 R_3 J_3 H locs hp_3 hP hD hS _ _ => ?_)
  exact z_vret hx hb hr hlocks hP hD hS dX6_begin_18 hp_3
set_option maxHeartbeats 4000000 in
set_option maxRecDepth 100000 in
theorem xk_X10_row (l : Launch) (D : va_G) (q : Nat → Nat) (cA : Nat → ClassId) (F : Nat → Nat → Int32) (I R : Nat → Nat → Int32) (J : Nat → Nat → Int64) (hI : xInv F (I, R, J)) (pa0 : Int32) (pa1 : Int32) (pa2 : Int32) : zMi l D vwCl (zXtys cA) 81 q (zXd q cA) yX10_row cX10_row 4 (some .int) ({ frames := 2, cells := 0, slots := 0, locals := 46 } : Room) [.ref (q 0), .int (pa0), .int (pa1), .int (pa2)] (I, R, J) (fun r u => ((pa0.toInt < 0 ∨ 3 < pa0.toInt ∨ pa1.toInt < 0 ∨ 3 < pa1.toInt ∨ 60 < pa2.toInt) ∧ r = (-2) ∧ u = (I, R, J)) ∨ (¬ (pa0.toInt < 0 ∨ 3 < pa0.toInt ∨ pa1.toInt < 0 ∨ 3 < pa1.toInt ∨ 60 < pa2.toInt) ∧ pa2.toInt < 0 ∧ r = (-3) ∧ u = (I, R, J)) ∨ (¬ (pa0.toInt < 0 ∨ 3 < pa0.toInt ∨ pa1.toInt < 0 ∨ 3 < pa1.toInt ∨ 60 < pa2.toInt) ∧ 0 ≤ pa2.toInt ∧ r = nI 0 ∧ xInv (xrow F pa0 pa1 pa2) u)) := by
  intro sz
  refine z_body (by decide +kernel) (Nat.le_of_ble_eq_true rfl) (fun p e s m below meth c ls hx hb hml hr ht hown hlocks hsz hK hP hD hS hl => ?_)
  have hA : ∀ a, s.heap.size ≤ a → zA 81 q sz a := fun a h => Or.inr (hsz ▸ h)
  have hl : lv_has ls 4 [(0, .ref (q 0)), (1, .int (pa0)), (2, .int (pa1)), (3, .int (pa2))] := hl
  refine lv_iload_n hx hb dX10_row_0 rfl (lv_at hl 1 rfl) ?_
  refine z_callSi (As := [.int (pa0)]) (rest := []) hx hb hml hown ht (xk_X10_isSlot l D q cA F _ _ _ hI (pa0)) hw_5_60 hmX10_isSlot ⟨rfl, rfl⟩ (na := 1) rfl (by decide +kernel) (by decide) hK hP hD hS hA hl.1 rfl (Nat.le_of_ble_eq_true rfl) ⟨Nat.zero_le _, Nat.zero_le _⟩ dX10_row_1 (fun r_1 I_1 R_1 J_1 H locs hp_1 hP hD hS _ _ => ?_)
  rcases hp_1 with ⟨rfl, hu_1, f0_1⟩ | ⟨rfl, hu_1, nn_1⟩
  · cases hu_1
    refine lv_if_eq (tgt := 22) hx hb dX10_row_4 (by decide) (fun c_0 => absurd c_0 (zD_ne zk_1 zk_z (by decide))) (fun _ => ?_)
    refine lv_iload_n hx hb dX10_row_7 rfl (lv_at hl 2 rfl) ?_
    refine lv_if_lt (tgt := 22) hx hb dX10_row_8 (by decide) (fun c_2 => ?_) (fun c_2 => ?_)
    · have t_c_2 := z_ltT c_2
      have f_3 : zR (-2147483648) (-1) (pa1) := zR_ltx t_c_2 (zR_any (pa1)) zk_z (by decide)
      refine lv_bipush (v := (-2)) hx hb dX10_row_22 (by decide +kernel) ?_
      exact z_iret (v := (-2)) hx hb hr hlocks hP hD hS dX10_row_24 (Or.inl ⟨(by obtain ⟨_, _⟩ := f0_1; obtain ⟨_, _⟩ := f_3; obtain ⟨_, _⟩ := (zR_any (pa2)); omega), rfl, rfl⟩)
    · have t_c_2 := z_ltF c_2
      have f_4 : zR 0 2147483647 (pa1) := zR_ley t_c_2 zk_z (zR_any (pa1)) (by decide)
      refine lv_iload_n hx hb dX10_row_11 rfl (lv_at hl 2 rfl) ?_
      refine lv_iconst (v := nI 3) hx hb dX10_row_12 (by decide +kernel) ?_
      refine lv_icmp_gt (tgt := 22) hx hb dX10_row_13 (by decide) (fun c_5 => ?_) (fun c_5 => ?_)
      · have t_c_5 := z_ltT c_5
        have f_6 : zR 4 2147483647 (pa1) := zR_lty t_c_5 zk_3 f_4 (by decide)
        refine lv_bipush (v := (-2)) hx hb dX10_row_22 (by decide +kernel) ?_
        exact z_iret (v := (-2)) hx hb hr hlocks hP hD hS dX10_row_24 (Or.inl ⟨(by obtain ⟨_, _⟩ := f0_1; obtain ⟨_, _⟩ := f_6; obtain ⟨_, _⟩ := (zR_any (pa2)); omega), rfl, rfl⟩)
      · have t_c_5 := z_ltF c_5
        have f_7 : zR 0 3 (pa1) := zR_lex t_c_5 f_4 zk_3 (by decide)
        refine lv_iload_n hx hb dX10_row_16 rfl (lv_at hl 3 rfl) ?_
        refine lv_bipush (v := nI 60) hx hb dX10_row_17 (by decide +kernel) ?_
        refine lv_icmp_le (tgt := 25) hx hb dX10_row_19 (by decide) (fun c_8 => ?_) (fun c_8 => ?_)
        · have t_c_8 := z_leT c_8
          have f_9 : zR (-2147483648) 60 (pa2) := zR_lex t_c_8 (zR_any (pa2)) zk_60 (by decide)
          refine lv_iload_n hx hb dX10_row_25 rfl (lv_at hl 3 rfl) ?_
          refine lv_if_ge (tgt := 32) hx hb dX10_row_26 (by decide) (fun c_10 => ?_) (fun c_10 => ?_)
          · have t_c_10 := z_leT c_10
            have f_11 : zR 0 60 (pa2) := zR_ley t_c_10 zk_z f_9 (by decide)
            refine lv_aload_n hx hb dX10_row_32 rfl (lv_at hl 0 rfl) ?_
            refine z_get hx hb ht hown hK hP ziX10 rfl 0 (by decide) 11 (by decide) hw_2_104 rfl (v := .ref (q 72)) rfl dX10_row_33 ?_
            refine lv_iload_n hx hb dX10_row_36 rfl (lv_at hl 1 rfl) ?_
            obtain ⟨n_12, hn_12, rfl⟩ := z_ex (x := pa0) (N := 4) (zR_w f0_1 (a' := 0) (b' := 3) (by decide)).1 (Int.lt_of_le_of_lt (zR_w f0_1 (a' := 0) (b' := 3) (by decide)).2 (by decide))
            rcases (show n_12 = 0 ∨ n_12 = 1 ∨ n_12 = 2 ∨ n_12 = 3 by omega) with rfl | rfl | rfl | rfl
            · refine va_aldq hx hb hK hP 72 52 (zw_at (by decide) rfl) rfl (vp_in_nI (by decide) (by decide)) dX10_row_37 ?_
              refine W.eq (g2 := F0 m 38 ls (.ref (q 73) :: [])) rfl ?_
              refine lv_iload_n hx hb dX10_row_38 rfl (lv_at hl 2 rfl) ?_
              refine lv_iload_n hx hb dX10_row_39 rfl (lv_at hl 3 rfl) ?_
              refine z_callVv (k := 73) (As := [.int (pa1), .int (pa2)]) (rest := []) hx hb hml hown ht (xk_X6_begin l D q cA F _ _ _ hI (pa1) f_7 (pa2) f_11) hw_5_158 hmX6_begin ⟨rfl, rfl⟩ (na := 2) rfl (by decide +kernel) (by decide) (by decide) rfl rfl hK hP hD hS hA hl.1 rfl (Nat.le_of_ble_eq_true rfl) ⟨Nat.zero_le _, Nat.zero_le _⟩ dX10_row_40 (fun I_13 R_13 J_13 H locs hp_13 hP hD hS _ _ => ?_)
              refine lv_iconst (v := nI 0) hx hb dX10_row_43 (by decide +kernel) ?_
              exact z_iret (v := nI 0) hx hb hr hlocks hP hD hS dX10_row_44 (Or.inr (Or.inr ⟨(by obtain ⟨_, _⟩ := zk_0; obtain ⟨_, _⟩ := f_7; obtain ⟨_, _⟩ := f_11; omega), (by obtain ⟨_, _⟩ := zk_0; obtain ⟨_, _⟩ := f_7; obtain ⟨_, _⟩ := f_11; omega), rfl, hp_13⟩))
            · refine va_aldq hx hb hK hP 72 52 (zw_at (by decide) rfl) rfl (vp_in_nI (by decide) (by decide)) dX10_row_37 ?_
              refine W.eq (g2 := F0 m 38 ls (.ref (q 75) :: [])) rfl ?_
              refine lv_iload_n hx hb dX10_row_38 rfl (lv_at hl 2 rfl) ?_
              refine lv_iload_n hx hb dX10_row_39 rfl (lv_at hl 3 rfl) ?_
              refine z_callVv (k := 75) (As := [.int (pa1), .int (pa2)]) (rest := []) hx hb hml hown ht (xk_X6_begin_1 l D q cA F _ _ _ hI (pa1) f_7 (pa2) f_11) hw_5_158 hmX6_begin ⟨rfl, rfl⟩ (na := 2) rfl (by decide +kernel) (by decide) (by decide) rfl rfl hK hP hD hS hA hl.1 rfl (Nat.le_of_ble_eq_true rfl) ⟨Nat.zero_le _, Nat.zero_le _⟩ dX10_row_40 (fun I_14 R_14 J_14 H locs hp_14 hP hD hS _ _ => ?_)
              refine lv_iconst (v := nI 0) hx hb dX10_row_43 (by decide +kernel) ?_
              exact z_iret (v := nI 0) hx hb hr hlocks hP hD hS dX10_row_44 (Or.inr (Or.inr ⟨(by obtain ⟨_, _⟩ := zk_1; obtain ⟨_, _⟩ := f_7; obtain ⟨_, _⟩ := f_11; omega), (by obtain ⟨_, _⟩ := zk_1; obtain ⟨_, _⟩ := f_7; obtain ⟨_, _⟩ := f_11; omega), rfl, hp_14⟩))
            · refine va_aldq hx hb hK hP 72 52 (zw_at (by decide) rfl) rfl (vp_in_nI (by decide) (by decide)) dX10_row_37 ?_
              refine W.eq (g2 := F0 m 38 ls (.ref (q 77) :: [])) rfl ?_
              refine lv_iload_n hx hb dX10_row_38 rfl (lv_at hl 2 rfl) ?_
              refine lv_iload_n hx hb dX10_row_39 rfl (lv_at hl 3 rfl) ?_
              refine z_callVv (k := 77) (As := [.int (pa1), .int (pa2)]) (rest := []) hx hb hml hown ht (xk_X6_begin_2 l D q cA F _ _ _ hI (pa1) f_7 (pa2) f_11) hw_5_158 hmX6_begin ⟨rfl, rfl⟩ (na := 2) rfl (by decide +kernel) (by decide) (by decide) rfl rfl hK hP hD hS hA hl.1 rfl (Nat.le_of_ble_eq_true rfl) ⟨Nat.zero_le _, Nat.zero_le _⟩ dX10_row_40 (fun I_15 R_15 J_15 H locs hp_15 hP hD hS _ _ => ?_)
              refine lv_iconst (v := nI 0) hx hb dX10_row_43 (by decide +kernel) ?_
              exact z_iret (v := nI 0) hx hb hr hlocks hP hD hS dX10_row_44 (Or.inr (Or.inr ⟨(by obtain ⟨_, _⟩ := zk_2; obtain ⟨_, _⟩ := f_7; obtain ⟨_, _⟩ := f_11; omega), (by obtain ⟨_, _⟩ := zk_2; obtain ⟨_, _⟩ := f_7; obtain ⟨_, _⟩ := f_11; omega), rfl, hp_15⟩))
            · refine va_aldq hx hb hK hP 72 52 (zw_at (by decide) rfl) rfl (vp_in_nI (by decide) (by decide)) dX10_row_37 ?_
              refine W.eq (g2 := F0 m 38 ls (.ref (q 79) :: [])) rfl ?_
              refine lv_iload_n hx hb dX10_row_38 rfl (lv_at hl 2 rfl) ?_
              refine lv_iload_n hx hb dX10_row_39 rfl (lv_at hl 3 rfl) ?_
              refine z_callVv (k := 79) (As := [.int (pa1), .int (pa2)]) (rest := []) hx hb hml hown ht (xk_X6_begin_3 l D q cA F _ _ _ hI (pa1) f_7 (pa2) f_11) hw_5_158 hmX6_begin ⟨rfl, rfl⟩ (na := 2) rfl (by decide +kernel) (by decide) (by decide) rfl rfl hK hP hD hS hA hl.1 rfl (Nat.le_of_ble_eq_true rfl) ⟨Nat.zero_le _, Nat.zero_le _⟩ dX10_row_40 (fun I_16 R_16 J_16 H locs hp_16 hP hD hS _ _ => ?_)
              refine lv_iconst (v := nI 0) hx hb dX10_row_43 (by decide +kernel) ?_
              exact z_iret (v := nI 0) hx hb hr hlocks hP hD hS dX10_row_44 (Or.inr (Or.inr ⟨(by obtain ⟨_, _⟩ := zk_3; obtain ⟨_, _⟩ := f_7; obtain ⟨_, _⟩ := f_11; omega), (by obtain ⟨_, _⟩ := zk_3; obtain ⟨_, _⟩ := f_7; obtain ⟨_, _⟩ := f_11; omega), rfl, hp_16⟩))
          · have t_c_10 := z_leF c_10
            have f_17 : zR (-2147483648) (-1) (pa2) := zR_ltx t_c_10 f_9 zk_z (by decide)
            refine lv_bipush (v := (-3)) hx hb dX10_row_29 (by decide +kernel) ?_
            exact z_iret (v := (-3)) hx hb hr hlocks hP hD hS dX10_row_31 (Or.inr (Or.inl ⟨(by obtain ⟨_, _⟩ := f0_1; obtain ⟨_, _⟩ := f_7; obtain ⟨_, _⟩ := f_17; omega), (by obtain ⟨_, _⟩ := f0_1; obtain ⟨_, _⟩ := f_7; obtain ⟨_, _⟩ := f_17; omega), rfl, rfl⟩))
        · have t_c_8 := z_leF c_8
          have f_18 : zR 61 2147483647 (pa2) := zR_lty t_c_8 zk_60 (zR_any (pa2)) (by decide)
          refine lv_bipush (v := (-2)) hx hb dX10_row_22 (by decide +kernel) ?_
          exact z_iret (v := (-2)) hx hb hr hlocks hP hD hS dX10_row_24 (Or.inl ⟨(by obtain ⟨_, _⟩ := f0_1; obtain ⟨_, _⟩ := f_7; obtain ⟨_, _⟩ := f_18; omega), rfl, rfl⟩)
  · cases hu_1
    refine lv_if_eq (tgt := 22) hx hb dX10_row_4 (by decide) (fun _ => ?_) (fun c_0 => absurd (zD_eq zk_0 zk_z) c_0)
    refine lv_bipush (v := (-2)) hx hb dX10_row_22 (by decide +kernel) ?_
    exact z_iret (v := (-2)) hx hb hr hlocks hP hD hS dX10_row_24 (Or.inl ⟨(by obtain ⟨_, _⟩ := (zR_any (pa0)); obtain ⟨_, _⟩ := (zR_any (pa1)); obtain ⟨_, _⟩ := (zR_any (pa2)); have _ := nn_1; omega), rfl, rfl⟩)
set_option maxHeartbeats 4000000 in
set_option maxRecDepth 100000 in
theorem xk_X6_put (l : Launch) (D : va_G) (q : Nat → Nat) (cA : Nat → ClassId) (F : Nat → Nat → Int32) (I R : Nat → Nat → Int32) (J : Nat → Nat → Int64) (hI : xInv F (I, R, J)) (pa0 : Int32) (hpa0 : zR 0 59 pa0) (pa1 : Int64) : zMv l D vwCl (zXtys cA) 81 q (zXd q cA) yX6_put cX6_put 4 none ({ frames := 0, cells := 0, slots := 0, locals := 0 } : Room) [.ref (q 73), .int (pa0), .long (pa1)] (I, R, J) (fun u => xInv F u) := by
  intro sz
  refine z_body (by decide +kernel) (Nat.le_of_ble_eq_true rfl) (fun p e s m below meth c ls hx hb hml hr ht hown hlocks hsz hK hP hD hS hl => ?_)
  have hA : ∀ a, s.heap.size ≤ a → zA 81 q sz a := fun a h => Or.inr (hsz ▸ h)
  have hl : lv_has ls 4 [(0, .ref (q 73)), (1, .int (pa0)), (2, .long (pa1))] := hl
  refine lv_aload_n hx hb dX6_put_0 rfl (lv_at hl 0 rfl) ?_
  refine z_get hx hb ht hown hK hP ziX6 rfl 73 (by decide) 0 (by decide) hw_2_77 rfl (v := .int (I 73 0)) rfl dX6_put_1 ?_
  rcases (show ((I 73 0).toInt < 0 ∨ 2 < (I 73 0).toInt) ∨ (I 73 0).toInt = 0 ∨ (I 73 0).toInt = 1 ∨ (I 73 0).toInt = 2 by omega) with c_1 | k_2 | k_2 | k_2
  · refine lv_tableOut (tgt := 70) hx hb dX6_put_4 c_1 (by decide) ?_
    refine lv_aload_n hx hb dX6_put_70 rfl (lv_at hl 0 rfl) ?_
    refine z_get hx hb ht hown hK hP ziX6 rfl 73 (by decide) 2 (by decide) hw_2_82 rfl (v := .ref (q 74)) rfl dX6_put_71 ?_
    refine lv_iload_n hx hb dX6_put_74 rfl (lv_at hl 1 rfl) ?_
    refine lv_lload_n hx hb dX6_put_75 rfl (lv_at hl 2 rfl) ?_
    refine z_last hx hb hK hP hD hS 74 (by decide) 53 (fun _ => rfl) rfl (zR_vin hpa0 (by decide)) dX6_put_76 (fun H locs hP hD hS => ?_)
    have hI_3 := xInv_J (J2 := (zp J 74 (pa0).toNatClampNeg (pa1))) hI
    exact z_vret hx hb hr hlocks hP hD hS dX6_put_77 hI_3
  · refine lv_tableIn (off := 28) (tgt := 32) hx hb dX6_put_4 (by omega) (by omega) (by rw [k_2]; decide +kernel) (by decide) ?_
    refine lv_aload_n hx hb dX6_put_32 rfl (lv_at hl 0 rfl) ?_
    refine z_get hx hb ht hown hK hP ziX6 rfl 73 (by decide) 2 (by decide) hw_2_82 rfl (v := .ref (q 74)) rfl dX6_put_33 ?_
    refine lv_iload_n hx hb dX6_put_36 rfl (lv_at hl 1 rfl) ?_
    refine lv_lload_n hx hb dX6_put_37 rfl (lv_at hl 2 rfl) ?_
    refine lv_l2i hx hb dX6_put_38 rfl ?_
    refine z_any (fun v_4 => ?_)
    refine lv_i2b hx hb dX6_put_39 rfl ?_
    refine z_any (fun v_5 => ?_)
    refine lv_i2l (v := (v_5).toInt64) hx hb dX6_put_40 rfl ?_
    refine z_last hx hb hK hP hD hS 74 (by decide) 53 (fun _ => rfl) rfl (zR_vin hpa0 (by decide)) dX6_put_41 (fun H locs hP hD hS => ?_)
    have hI_6 := xInv_J (J2 := (zp J 74 (pa0).toNatClampNeg ((v_5).toInt64))) hI
    refine lv_goto (tgt := 77) hx hb dX6_put_42 (by decide) ?_
    exact z_vret hx hb hr hlocks hP hD hS dX6_put_77 hI_6
  · refine lv_tableIn (off := 41) (tgt := 45) hx hb dX6_put_4 (by omega) (by omega) (by rw [k_2]; decide +kernel) (by decide) ?_
    refine lv_aload_n hx hb dX6_put_45 rfl (lv_at hl 0 rfl) ?_
    refine z_get hx hb ht hown hK hP ziX6 rfl 73 (by decide) 2 (by decide) hw_2_82 rfl (v := .ref (q 74)) rfl dX6_put_46 ?_
    refine lv_iload_n hx hb dX6_put_49 rfl (lv_at hl 1 rfl) ?_
    refine lv_lload_n hx hb dX6_put_50 rfl (lv_at hl 2 rfl) ?_
    refine lv_l2i hx hb dX6_put_51 rfl ?_
    refine z_any (fun v_7 => ?_)
    refine lv_i2s hx hb dX6_put_52 rfl ?_
    refine z_any (fun v_8 => ?_)
    refine lv_i2l (v := (v_8).toInt64) hx hb dX6_put_53 rfl ?_
    refine z_last hx hb hK hP hD hS 74 (by decide) 53 (fun _ => rfl) rfl (zR_vin hpa0 (by decide)) dX6_put_54 (fun H locs hP hD hS => ?_)
    have hI_9 := xInv_J (J2 := (zp J 74 (pa0).toNatClampNeg ((v_8).toInt64))) hI
    refine lv_goto (tgt := 77) hx hb dX6_put_55 (by decide) ?_
    exact z_vret hx hb hr hlocks hP hD hS dX6_put_77 hI_9
  · refine lv_tableIn (off := 54) (tgt := 58) hx hb dX6_put_4 (by omega) (by omega) (by rw [k_2]; decide +kernel) (by decide) ?_
    refine lv_aload_n hx hb dX6_put_58 rfl (lv_at hl 0 rfl) ?_
    refine z_get hx hb ht hown hK hP ziX6 rfl 73 (by decide) 2 (by decide) hw_2_82 rfl (v := .ref (q 74)) rfl dX6_put_59 ?_
    refine lv_iload_n hx hb dX6_put_62 rfl (lv_at hl 1 rfl) ?_
    refine lv_lload_n hx hb dX6_put_63 rfl (lv_at hl 2 rfl) ?_
    refine lv_l2i hx hb dX6_put_64 rfl ?_
    refine z_any (fun v_10 => ?_)
    refine lv_i2l (v := (v_10).toInt64) hx hb dX6_put_65 rfl ?_
    refine z_last hx hb hK hP hD hS 74 (by decide) 53 (fun _ => rfl) rfl (zR_vin hpa0 (by decide)) dX6_put_66 (fun H locs hP hD hS => ?_)
    have hI_11 := xInv_J (J2 := (zp J 74 (pa0).toNatClampNeg ((v_10).toInt64))) hI
    refine lv_goto (tgt := 77) hx hb dX6_put_67 (by decide) ?_
    exact z_vret hx hb hr hlocks hP hD hS dX6_put_77 hI_11
set_option maxHeartbeats 4000000 in
set_option maxRecDepth 100000 in
theorem xk_X6_put_1 (l : Launch) (D : va_G) (q : Nat → Nat) (cA : Nat → ClassId) (F : Nat → Nat → Int32) (I R : Nat → Nat → Int32) (J : Nat → Nat → Int64) (hI : xInv F (I, R, J)) (pa0 : Int32) (hpa0 : zR 0 59 pa0) (pa1 : Int64) : zMv l D vwCl (zXtys cA) 81 q (zXd q cA) yX6_put cX6_put 4 none ({ frames := 0, cells := 0, slots := 0, locals := 0 } : Room) [.ref (q 75), .int (pa0), .long (pa1)] (I, R, J) (fun u => xInv F u) := by
  intro sz
  refine z_body (by decide +kernel) (Nat.le_of_ble_eq_true rfl) (fun p e s m below meth c ls hx hb hml hr ht hown hlocks hsz hK hP hD hS hl => ?_)
  have hA : ∀ a, s.heap.size ≤ a → zA 81 q sz a := fun a h => Or.inr (hsz ▸ h)
  have hl : lv_has ls 4 [(0, .ref (q 75)), (1, .int (pa0)), (2, .long (pa1))] := hl
  refine lv_aload_n hx hb dX6_put_0 rfl (lv_at hl 0 rfl) ?_
  refine z_get hx hb ht hown hK hP ziX6 rfl 75 (by decide) 0 (by decide) hw_2_77 rfl (v := .int (I 75 0)) rfl dX6_put_1 ?_
  rcases (show ((I 75 0).toInt < 0 ∨ 2 < (I 75 0).toInt) ∨ (I 75 0).toInt = 0 ∨ (I 75 0).toInt = 1 ∨ (I 75 0).toInt = 2 by omega) with c_1 | k_2 | k_2 | k_2
  · refine lv_tableOut (tgt := 70) hx hb dX6_put_4 c_1 (by decide) ?_
    refine lv_aload_n hx hb dX6_put_70 rfl (lv_at hl 0 rfl) ?_
    refine z_get hx hb ht hown hK hP ziX6 rfl 75 (by decide) 2 (by decide) hw_2_82 rfl (v := .ref (q 76)) rfl dX6_put_71 ?_
    refine lv_iload_n hx hb dX6_put_74 rfl (lv_at hl 1 rfl) ?_
    refine lv_lload_n hx hb dX6_put_75 rfl (lv_at hl 2 rfl) ?_
    refine z_last hx hb hK hP hD hS 76 (by decide) 54 (fun _ => rfl) rfl (zR_vin hpa0 (by decide)) dX6_put_76 (fun H locs hP hD hS => ?_)
    have hI_3 := xInv_J (J2 := (zp J 76 (pa0).toNatClampNeg (pa1))) hI
    exact z_vret hx hb hr hlocks hP hD hS dX6_put_77 hI_3
  · refine lv_tableIn (off := 28) (tgt := 32) hx hb dX6_put_4 (by omega) (by omega) (by rw [k_2]; decide +kernel) (by decide) ?_
    refine lv_aload_n hx hb dX6_put_32 rfl (lv_at hl 0 rfl) ?_
    refine z_get hx hb ht hown hK hP ziX6 rfl 75 (by decide) 2 (by decide) hw_2_82 rfl (v := .ref (q 76)) rfl dX6_put_33 ?_
    refine lv_iload_n hx hb dX6_put_36 rfl (lv_at hl 1 rfl) ?_
    refine lv_lload_n hx hb dX6_put_37 rfl (lv_at hl 2 rfl) ?_
    refine lv_l2i hx hb dX6_put_38 rfl ?_
    refine z_any (fun v_4 => ?_)
    refine lv_i2b hx hb dX6_put_39 rfl ?_
    refine z_any (fun v_5 => ?_)
    refine lv_i2l (v := (v_5).toInt64) hx hb dX6_put_40 rfl ?_
    refine z_last hx hb hK hP hD hS 76 (by decide) 54 (fun _ => rfl) rfl (zR_vin hpa0 (by decide)) dX6_put_41 (fun H locs hP hD hS => ?_)
    have hI_6 := xInv_J (J2 := (zp J 76 (pa0).toNatClampNeg ((v_5).toInt64))) hI
    refine lv_goto (tgt := 77) hx hb dX6_put_42 (by decide) ?_
    exact z_vret hx hb hr hlocks hP hD hS dX6_put_77 hI_6
  · refine lv_tableIn (off := 41) (tgt := 45) hx hb dX6_put_4 (by omega) (by omega) (by rw [k_2]; decide +kernel) (by decide) ?_
    refine lv_aload_n hx hb dX6_put_45 rfl (lv_at hl 0 rfl) ?_
    refine z_get hx hb ht hown hK hP ziX6 rfl 75 (by decide) 2 (by decide) hw_2_82 rfl (v := .ref (q 76)) rfl dX6_put_46 ?_
    refine lv_iload_n hx hb dX6_put_49 rfl (lv_at hl 1 rfl) ?_
    refine lv_lload_n hx hb dX6_put_50 rfl (lv_at hl 2 rfl) ?_
    refine lv_l2i hx hb dX6_put_51 rfl ?_
    refine z_any (fun v_7 => ?_)
    refine lv_i2s hx hb dX6_put_52 rfl ?_
    refine z_any (fun v_8 => ?_)
    refine lv_i2l (v := (v_8).toInt64) hx hb dX6_put_53 rfl ?_
    refine z_last hx hb hK hP hD hS 76 (by decide) 54 (fun _ => rfl) rfl (zR_vin hpa0 (by decide)) dX6_put_54 (fun H locs hP hD hS => ?_)
    have hI_9 := xInv_J (J2 := (zp J 76 (pa0).toNatClampNeg ((v_8).toInt64))) hI
    refine lv_goto (tgt := 77) hx hb dX6_put_55 (by decide) ?_
    exact z_vret hx hb hr hlocks hP hD hS dX6_put_77 hI_9
  · refine lv_tableIn (off := 54) (tgt := 58) hx hb dX6_put_4 (by omega) (by omega) (by rw [k_2]; decide +kernel) (by decide) ?_
    refine lv_aload_n hx hb dX6_put_58 rfl (lv_at hl 0 rfl) ?_
    refine z_get hx hb ht hown hK hP ziX6 rfl 75 (by decide) 2 (by decide) hw_2_82 rfl (v := .ref (q 76)) rfl dX6_put_59 ?_
    refine lv_iload_n hx hb dX6_put_62 rfl (lv_at hl 1 rfl) ?_
    refine lv_lload_n hx hb dX6_put_63 rfl (lv_at hl 2 rfl) ?_
    refine lv_l2i hx hb dX6_put_64 rfl ?_
    refine z_any (fun v_10 => ?_)
    refine lv_i2l (v := (v_10).toInt64) hx hb dX6_put_65 rfl ?_
    refine z_last hx hb hK hP hD hS 76 (by decide) 54 (fun _ => rfl) rfl (zR_vin hpa0 (by decide)) dX6_put_66 (fun H locs hP hD hS => ?_)
    have hI_11 := xInv_J (J2 := (zp J 76 (pa0).toNatClampNeg ((v_10).toInt64))) hI
    refine lv_goto (tgt := 77) hx hb dX6_put_67 (by decide) ?_
    exact z_vret hx hb hr hlocks hP hD hS dX6_put_77 hI_11
set_option maxHeartbeats 4000000 in
set_option maxRecDepth 100000 in
theorem xk_X6_put_2 (l : Launch) (D : va_G) (q : Nat → Nat) (cA : Nat → ClassId) (F : Nat → Nat → Int32) (I R : Nat → Nat → Int32) (J : Nat → Nat → Int64) (hI : xInv F (I, R, J)) (pa0 : Int32) (hpa0 : zR 0 59 pa0) (pa1 : Int64) : zMv l D vwCl (zXtys cA) 81 q (zXd q cA) yX6_put cX6_put 4 none ({ frames := 0, cells := 0, slots := 0, locals := 0 } : Room) [.ref (q 77), .int (pa0), .long (pa1)] (I, R, J) (fun u => xInv F u) := by
  intro sz
  refine z_body (by decide +kernel) (Nat.le_of_ble_eq_true rfl) (fun p e s m below meth c ls hx hb hml hr ht hown hlocks hsz hK hP hD hS hl => ?_)
  have hA : ∀ a, s.heap.size ≤ a → zA 81 q sz a := fun a h => Or.inr (hsz ▸ h)
  have hl : lv_has ls 4 [(0, .ref (q 77)), (1, .int (pa0)), (2, .long (pa1))] := hl
  refine lv_aload_n hx hb dX6_put_0 rfl (lv_at hl 0 rfl) ?_
  refine z_get hx hb ht hown hK hP ziX6 rfl 77 (by decide) 0 (by decide) hw_2_77 rfl (v := .int (I 77 0)) rfl dX6_put_1 ?_
  rcases (show ((I 77 0).toInt < 0 ∨ 2 < (I 77 0).toInt) ∨ (I 77 0).toInt = 0 ∨ (I 77 0).toInt = 1 ∨ (I 77 0).toInt = 2 by omega) with c_1 | k_2 | k_2 | k_2
  · refine lv_tableOut (tgt := 70) hx hb dX6_put_4 c_1 (by decide) ?_
    refine lv_aload_n hx hb dX6_put_70 rfl (lv_at hl 0 rfl) ?_
    refine z_get hx hb ht hown hK hP ziX6 rfl 77 (by decide) 2 (by decide) hw_2_82 rfl (v := .ref (q 78)) rfl dX6_put_71 ?_
    refine lv_iload_n hx hb dX6_put_74 rfl (lv_at hl 1 rfl) ?_
    refine lv_lload_n hx hb dX6_put_75 rfl (lv_at hl 2 rfl) ?_
    refine z_last hx hb hK hP hD hS 78 (by decide) 55 (fun _ => rfl) rfl (zR_vin hpa0 (by decide)) dX6_put_76 (fun H locs hP hD hS => ?_)
    have hI_3 := xInv_J (J2 := (zp J 78 (pa0).toNatClampNeg (pa1))) hI
    exact z_vret hx hb hr hlocks hP hD hS dX6_put_77 hI_3
  · refine lv_tableIn (off := 28) (tgt := 32) hx hb dX6_put_4 (by omega) (by omega) (by rw [k_2]; decide +kernel) (by decide) ?_
    refine lv_aload_n hx hb dX6_put_32 rfl (lv_at hl 0 rfl) ?_
    refine z_get hx hb ht hown hK hP ziX6 rfl 77 (by decide) 2 (by decide) hw_2_82 rfl (v := .ref (q 78)) rfl dX6_put_33 ?_
    refine lv_iload_n hx hb dX6_put_36 rfl (lv_at hl 1 rfl) ?_
    refine lv_lload_n hx hb dX6_put_37 rfl (lv_at hl 2 rfl) ?_
    refine lv_l2i hx hb dX6_put_38 rfl ?_
    refine z_any (fun v_4 => ?_)
    refine lv_i2b hx hb dX6_put_39 rfl ?_
    refine z_any (fun v_5 => ?_)
    refine lv_i2l (v := (v_5).toInt64) hx hb dX6_put_40 rfl ?_
    refine z_last hx hb hK hP hD hS 78 (by decide) 55 (fun _ => rfl) rfl (zR_vin hpa0 (by decide)) dX6_put_41 (fun H locs hP hD hS => ?_)
    have hI_6 := xInv_J (J2 := (zp J 78 (pa0).toNatClampNeg ((v_5).toInt64))) hI
    refine lv_goto (tgt := 77) hx hb dX6_put_42 (by decide) ?_
    exact z_vret hx hb hr hlocks hP hD hS dX6_put_77 hI_6
  · refine lv_tableIn (off := 41) (tgt := 45) hx hb dX6_put_4 (by omega) (by omega) (by rw [k_2]; decide +kernel) (by decide) ?_
    refine lv_aload_n hx hb dX6_put_45 rfl (lv_at hl 0 rfl) ?_
    refine z_get hx hb ht hown hK hP ziX6 rfl 77 (by decide) 2 (by decide) hw_2_82 rfl (v := .ref (q 78)) rfl dX6_put_46 ?_
    refine lv_iload_n hx hb dX6_put_49 rfl (lv_at hl 1 rfl) ?_
    refine lv_lload_n hx hb dX6_put_50 rfl (lv_at hl 2 rfl) ?_
    refine lv_l2i hx hb dX6_put_51 rfl ?_
    refine z_any (fun v_7 => ?_)
    refine lv_i2s hx hb dX6_put_52 rfl ?_
    refine z_any (fun v_8 => ?_)
    refine lv_i2l (v := (v_8).toInt64) hx hb dX6_put_53 rfl ?_
    refine z_last hx hb hK hP hD hS 78 (by decide) 55 (fun _ => rfl) rfl (zR_vin hpa0 (by decide)) dX6_put_54 (fun H locs hP hD hS => ?_)
    have hI_9 := xInv_J (J2 := (zp J 78 (pa0).toNatClampNeg ((v_8).toInt64))) hI
    refine lv_goto (tgt := 77) hx hb dX6_put_55 (by decide) ?_
    exact z_vret hx hb hr hlocks hP hD hS dX6_put_77 hI_9
  · refine lv_tableIn (off := 54) (tgt := 58) hx hb dX6_put_4 (by omega) (by omega) (by rw [k_2]; decide +kernel) (by decide) ?_
    refine lv_aload_n hx hb dX6_put_58 rfl (lv_at hl 0 rfl) ?_
    refine z_get hx hb ht hown hK hP ziX6 rfl 77 (by decide) 2 (by decide) hw_2_82 rfl (v := .ref (q 78)) rfl dX6_put_59 ?_
    refine lv_iload_n hx hb dX6_put_62 rfl (lv_at hl 1 rfl) ?_
    refine lv_lload_n hx hb dX6_put_63 rfl (lv_at hl 2 rfl) ?_
    refine lv_l2i hx hb dX6_put_64 rfl ?_
    refine z_any (fun v_10 => ?_)
    refine lv_i2l (v := (v_10).toInt64) hx hb dX6_put_65 rfl ?_
    refine z_last hx hb hK hP hD hS 78 (by decide) 55 (fun _ => rfl) rfl (zR_vin hpa0 (by decide)) dX6_put_66 (fun H locs hP hD hS => ?_)
    have hI_11 := xInv_J (J2 := (zp J 78 (pa0).toNatClampNeg ((v_10).toInt64))) hI
    refine lv_goto (tgt := 77) hx hb dX6_put_67 (by decide) ?_
    exact z_vret hx hb hr hlocks hP hD hS dX6_put_77 hI_11
set_option maxHeartbeats 4000000 in
set_option maxRecDepth 100000 in
theorem xk_X6_put_3 (l : Launch) (D : va_G) (q : Nat → Nat) (cA : Nat → ClassId) (F : Nat → Nat → Int32) (I R : Nat → Nat → Int32) (J : Nat → Nat → Int64) (hI : xInv F (I, R, J)) (pa0 : Int32) (hpa0 : zR 0 59 pa0) (pa1 : Int64) : zMv l D vwCl (zXtys cA) 81 q (zXd q cA) yX6_put cX6_put 4 none ({ frames := 0, cells := 0, slots := 0, locals := 0 } : Room) [.ref (q 79), .int (pa0), .long (pa1)] (I, R, J) (fun u => xInv F u) := by
  intro sz
  refine z_body (by decide +kernel) (Nat.le_of_ble_eq_true rfl) (fun p e s m below meth c ls hx hb hml hr ht hown hlocks hsz hK hP hD hS hl => ?_)
  have hA : ∀ a, s.heap.size ≤ a → zA 81 q sz a := fun a h => Or.inr (hsz ▸ h)
  have hl : lv_has ls 4 [(0, .ref (q 79)), (1, .int (pa0)), (2, .long (pa1))] := hl
  refine lv_aload_n hx hb dX6_put_0 rfl (lv_at hl 0 rfl) ?_
  refine z_get hx hb ht hown hK hP ziX6 rfl 79 (by decide) 0 (by decide) hw_2_77 rfl (v := .int (I 79 0)) rfl dX6_put_1 ?_
  rcases (show ((I 79 0).toInt < 0 ∨ 2 < (I 79 0).toInt) ∨ (I 79 0).toInt = 0 ∨ (I 79 0).toInt = 1 ∨ (I 79 0).toInt = 2 by omega) with c_1 | k_2 | k_2 | k_2
  · refine lv_tableOut (tgt := 70) hx hb dX6_put_4 c_1 (by decide) ?_
    refine lv_aload_n hx hb dX6_put_70 rfl (lv_at hl 0 rfl) ?_
    refine z_get hx hb ht hown hK hP ziX6 rfl 79 (by decide) 2 (by decide) hw_2_82 rfl (v := .ref (q 80)) rfl dX6_put_71 ?_
    refine lv_iload_n hx hb dX6_put_74 rfl (lv_at hl 1 rfl) ?_
    refine lv_lload_n hx hb dX6_put_75 rfl (lv_at hl 2 rfl) ?_
    refine z_last hx hb hK hP hD hS 80 (by decide) 56 (fun _ => rfl) rfl (zR_vin hpa0 (by decide)) dX6_put_76 (fun H locs hP hD hS => ?_)
    have hI_3 := xInv_J (J2 := (zp J 80 (pa0).toNatClampNeg (pa1))) hI
    exact z_vret hx hb hr hlocks hP hD hS dX6_put_77 hI_3
  · refine lv_tableIn (off := 28) (tgt := 32) hx hb dX6_put_4 (by omega) (by omega) (by rw [k_2]; decide +kernel) (by decide) ?_
    refine lv_aload_n hx hb dX6_put_32 rfl (lv_at hl 0 rfl) ?_
    refine z_get hx hb ht hown hK hP ziX6 rfl 79 (by decide) 2 (by decide) hw_2_82 rfl (v := .ref (q 80)) rfl dX6_put_33 ?_
    refine lv_iload_n hx hb dX6_put_36 rfl (lv_at hl 1 rfl) ?_
    refine lv_lload_n hx hb dX6_put_37 rfl (lv_at hl 2 rfl) ?_
    refine lv_l2i hx hb dX6_put_38 rfl ?_
    refine z_any (fun v_4 => ?_)
    refine lv_i2b hx hb dX6_put_39 rfl ?_
    refine z_any (fun v_5 => ?_)
    refine lv_i2l (v := (v_5).toInt64) hx hb dX6_put_40 rfl ?_
    refine z_last hx hb hK hP hD hS 80 (by decide) 56 (fun _ => rfl) rfl (zR_vin hpa0 (by decide)) dX6_put_41 (fun H locs hP hD hS => ?_)
    have hI_6 := xInv_J (J2 := (zp J 80 (pa0).toNatClampNeg ((v_5).toInt64))) hI
    refine lv_goto (tgt := 77) hx hb dX6_put_42 (by decide) ?_
    exact z_vret hx hb hr hlocks hP hD hS dX6_put_77 hI_6
  · refine lv_tableIn (off := 41) (tgt := 45) hx hb dX6_put_4 (by omega) (by omega) (by rw [k_2]; decide +kernel) (by decide) ?_
    refine lv_aload_n hx hb dX6_put_45 rfl (lv_at hl 0 rfl) ?_
    refine z_get hx hb ht hown hK hP ziX6 rfl 79 (by decide) 2 (by decide) hw_2_82 rfl (v := .ref (q 80)) rfl dX6_put_46 ?_
    refine lv_iload_n hx hb dX6_put_49 rfl (lv_at hl 1 rfl) ?_
    refine lv_lload_n hx hb dX6_put_50 rfl (lv_at hl 2 rfl) ?_
    refine lv_l2i hx hb dX6_put_51 rfl ?_
    refine z_any (fun v_7 => ?_)
    refine lv_i2s hx hb dX6_put_52 rfl ?_
    refine z_any (fun v_8 => ?_)
    refine lv_i2l (v := (v_8).toInt64) hx hb dX6_put_53 rfl ?_
    refine z_last hx hb hK hP hD hS 80 (by decide) 56 (fun _ => rfl) rfl (zR_vin hpa0 (by decide)) dX6_put_54 (fun H locs hP hD hS => ?_)
    have hI_9 := xInv_J (J2 := (zp J 80 (pa0).toNatClampNeg ((v_8).toInt64))) hI
    refine lv_goto (tgt := 77) hx hb dX6_put_55 (by decide) ?_
    exact z_vret hx hb hr hlocks hP hD hS dX6_put_77 hI_9
  · refine lv_tableIn (off := 54) (tgt := 58) hx hb dX6_put_4 (by omega) (by omega) (by rw [k_2]; decide +kernel) (by decide) ?_
    refine lv_aload_n hx hb dX6_put_58 rfl (lv_at hl 0 rfl) ?_
    refine z_get hx hb ht hown hK hP ziX6 rfl 79 (by decide) 2 (by decide) hw_2_82 rfl (v := .ref (q 80)) rfl dX6_put_59 ?_
    refine lv_iload_n hx hb dX6_put_62 rfl (lv_at hl 1 rfl) ?_
    refine lv_lload_n hx hb dX6_put_63 rfl (lv_at hl 2 rfl) ?_
    refine lv_l2i hx hb dX6_put_64 rfl ?_
    refine z_any (fun v_10 => ?_)
    refine lv_i2l (v := (v_10).toInt64) hx hb dX6_put_65 rfl ?_
    refine z_last hx hb hK hP hD hS 80 (by decide) 56 (fun _ => rfl) rfl (zR_vin hpa0 (by decide)) dX6_put_66 (fun H locs hP hD hS => ?_)
    have hI_11 := xInv_J (J2 := (zp J 80 (pa0).toNatClampNeg ((v_10).toInt64))) hI
    refine lv_goto (tgt := 77) hx hb dX6_put_67 (by decide) ?_
    exact z_vret hx hb hr hlocks hP hD hS dX6_put_77 hI_11
set_option maxHeartbeats 4000000 in
set_option maxRecDepth 100000 in
theorem xk_X10_write (l : Launch) (D : va_G) (q : Nat → Nat) (cA : Nat → ClassId) (F : Nat → Nat → Int32) (I R : Nat → Nat → Int32) (J : Nat → Nat → Int64) (hI : xInv F (I, R, J)) (pa0 : Int32) (pa1 : Int32) (pa2 : Int64) : zMi l D vwCl (zXtys cA) 81 q (zXd q cA) yX10_write cX10_write 6 (some .int) ({ frames := 1, cells := 0, slots := 0, locals := 23 } : Room) [.ref (q 0), .int (pa0), .int (pa1), .long (pa2)] (I, R, J) (fun r u => ((pa0.toInt < 0 ∨ 3 < pa0.toInt) ∧ r = (-2) ∧ xInv F u) ∨ (¬ (pa0.toInt < 0 ∨ 3 < pa0.toInt) ∧ (xlen F pa0).toInt = -1 ∧ r = (-6) ∧ xInv F u) ∨ (¬ (pa0.toInt < 0 ∨ 3 < pa0.toInt) ∧ (xlen F pa0).toInt ≠ -1 ∧ (pa1.toInt < 0 ∨ (xlen F pa0).toInt ≤ pa1.toInt) ∧ r = (-7) ∧ xInv F u) ∨ (¬ (pa0.toInt < 0 ∨ 3 < pa0.toInt) ∧ (xlen F pa0).toInt ≠ -1 ∧ 0 ≤ pa1.toInt ∧ pa1.toInt < (xlen F pa0).toInt ∧ r = nI 0 ∧ xInv F u)) := by
  intro sz
  refine z_body (by decide +kernel) (Nat.le_of_ble_eq_true rfl) (fun p e s m below meth c ls hx hb hml hr ht hown hlocks hsz hK hP hD hS hl => ?_)
  have hA : ∀ a, s.heap.size ≤ a → zA 81 q sz a := fun a h => Or.inr (hsz ▸ h)
  have hl : lv_has ls 6 [(0, .ref (q 0)), (1, .int (pa0)), (2, .int (pa1)), (3, .long (pa2))] := hl
  refine lv_iload_n hx hb dX10_write_0 rfl (lv_at hl 1 rfl) ?_
  refine z_callSi (As := [.int (pa0)]) (rest := []) hx hb hml hown ht (xk_X10_isSlot l D q cA F _ _ _ hI (pa0)) hw_5_60 hmX10_isSlot ⟨rfl, rfl⟩ (na := 1) rfl (by decide +kernel) (by decide) hK hP hD hS hA hl.1 rfl (Nat.le_of_ble_eq_true rfl) ⟨Nat.zero_le _, Nat.zero_le _⟩ dX10_write_1 (fun r_1 I_1 R_1 J_1 H locs hp_1 hP hD hS _ _ => ?_)
  rcases hp_1 with ⟨rfl, hu_1, f0_1⟩ | ⟨rfl, hu_1, nn_1⟩
  · cases hu_1
    refine lv_if_ne (tgt := 10) hx hb dX10_write_4 (by decide) (fun _ => ?_) (fun c_0 => absurd c_0 (zD_ne zk_1 zk_z (by decide)))
    refine lv_aload_n hx hb dX10_write_10 rfl (lv_at hl 0 rfl) ?_
    refine z_get hx hb ht hown hK hP ziX10 rfl 0 (by decide) 11 (by decide) hw_2_104 rfl (v := .ref (q 72)) rfl dX10_write_11 ?_
    refine lv_iload_n hx hb dX10_write_14 rfl (lv_at hl 1 rfl) ?_
    obtain ⟨n_2, hn_2, rfl⟩ := z_ex (x := pa0) (N := 4) (zR_w f0_1 (a' := 0) (b' := 3) (by decide)).1 (Int.lt_of_le_of_lt (zR_w f0_1 (a' := 0) (b' := 3) (by decide)).2 (by decide))
    rcases (show n_2 = 0 ∨ n_2 = 1 ∨ n_2 = 2 ∨ n_2 = 3 by omega) with rfl | rfl | rfl | rfl
    · refine va_aldq hx hb hK hP 72 52 (zw_at (by decide) rfl) rfl (vp_in_nI (by decide) (by decide)) dX10_write_15 ?_
      refine W.eq (g2 := F0 m 16 ls (.ref (q 73) :: [])) rfl ?_
      refine lv_astore (lv' := [(5, .ref (q 73)), (0, .ref (q 0)), (1, .int (nI 0)), (2, .int (pa1)), (3, .long (pa2))]) hx hb dX10_write_16 hl (by decide) rfl (fun ls hl => ?_)
      refine lv_aload hx hb dX10_write_18 (lv_at hl 0 rfl) ?_
      refine z_callVi (k := 73) (As := []) (rest := []) hx hb hml hown ht (xk_X6_isThere l D q cA F _ _ _ hI ) hw_5_63 hmX6_isThere ⟨rfl, rfl⟩ (na := 0) rfl (by decide +kernel) (by decide) (by decide) rfl rfl hK hP hD hS hA hl.1 rfl (Nat.le_of_ble_eq_true rfl) ⟨Nat.zero_le _, Nat.zero_le _⟩ dX10_write_20 (fun r_3 I_3 R_3 J_3 H locs hp_3 hP hD hS _ _ => ?_)
      rcases hp_3 with ⟨rfl, hu_3, nn_3⟩ | ⟨rfl, hu_3, nn_3⟩
      · cases hu_3
        have f_4 : zR 0 60 (I 73 1) := x_there (xI hI 73 1) nn_3
        refine lv_if_ne (tgt := 29) hx hb dX10_write_23 (by decide) (fun _ => ?_) (fun c_0 => absurd c_0 (zD_ne zk_1 zk_z (by decide)))
        refine lv_iload_n hx hb dX10_write_29 rfl (lv_at hl 3 rfl) ?_
        refine lv_if_lt (tgt := 42) hx hb dX10_write_30 (by decide) (fun c_5 => ?_) (fun c_5 => ?_)
        · have t_c_5 := z_ltT c_5
          have f_6 : zR (-2147483648) (-1) (pa1) := zR_ltx t_c_5 (zR_any (pa1)) zk_z (by decide)
          refine lv_bipush (v := (-7)) hx hb dX10_write_42 (by decide +kernel) ?_
          exact z_iret (v := (-7)) hx hb hr hlocks hP hD hS dX10_write_44 (Or.inr (Or.inr (Or.inl ⟨(by obtain ⟨_, _⟩ := zk_0; omega), (show (F 73 1).toInt ≠ -1 from fun h => nn_3 ((congrArg Int32.toInt (xFr hI 73 1 rfl)).trans h)), (by show pa1.toInt < 0 ∨ (F 73 1).toInt ≤ pa1.toInt; have e9 : (I 73 1).toInt = (F 73 1).toInt := congrArg Int32.toInt (xFr hI 73 1 rfl); have z0 : (0 : Int32).toInt = 0 := (by decide +kernel); have _ := t_c_5; omega), rfl, hI⟩)))
        · have t_c_5 := z_ltF c_5
          have f_7 : zR 0 2147483647 (pa1) := zR_ley t_c_5 zk_z (zR_any (pa1)) (by decide)
          refine lv_iload_n hx hb dX10_write_33 rfl (lv_at hl 3 rfl) ?_
          refine lv_aload hx hb dX10_write_34 (lv_at hl 0 rfl) ?_
          refine z_get hx hb ht hown hK hP ziX6 rfl 73 (by decide) 1 (by decide) hw_2_81 rfl (v := .int (I 73 1)) rfl dX10_write_36 ?_
          refine lv_icmp_lt (tgt := 45) hx hb dX10_write_39 (by decide) (fun c_8 => ?_) (fun c_8 => ?_)
          · have t_c_8 := z_ltT c_8
            have f_9 : zR 0 59 (pa1) := zR_ltx t_c_8 f_7 f_4 (by decide)
            have f_10 : zR 1 60 (I 73 1) := zR_lty t_c_8 f_7 f_4 (by decide)
            refine lv_aload hx hb dX10_write_45 (lv_at hl 0 rfl) ?_
            refine lv_iload_n hx hb dX10_write_47 rfl (lv_at hl 3 rfl) ?_
            refine lv_lload_n hx hb dX10_write_48 rfl (lv_at hl 4 rfl) ?_
            refine z_callVv (k := 73) (As := [.int (pa1), .long (pa2)]) (rest := []) hx hb hml hown ht (xk_X6_put l D q cA F _ _ _ hI (pa1) f_9 (pa2)) hw_5_169 hmX6_put ⟨rfl, rfl⟩ (na := 2) rfl (by decide +kernel) (by decide) (by decide) rfl rfl hK hP hD hS hA hl.1 rfl (Nat.le_of_ble_eq_true rfl) ⟨Nat.zero_le _, Nat.zero_le _⟩ dX10_write_49 (fun I_11 R_11 J_11 H locs hp_11 hP hD hS _ _ => ?_)
            refine lv_iconst (v := nI 0) hx hb dX10_write_52 (by decide +kernel) ?_
            exact z_iret (v := nI 0) hx hb hr hlocks hP hD hS dX10_write_53 (Or.inr (Or.inr (Or.inr ⟨(by obtain ⟨_, _⟩ := zk_0; omega), (show (F 73 1).toInt ≠ -1 from fun h => nn_3 ((congrArg Int32.toInt (xFr hI 73 1 rfl)).trans h)), (by have e9 : (I 73 1).toInt = (F 73 1).toInt := congrArg Int32.toInt (xFr hI 73 1 rfl); have z0 : (0 : Int32).toInt = 0 := (by decide +kernel); have _ := t_c_5; have _ := t_c_8; omega), (by show pa1.toInt < (F 73 1).toInt; have e9 : (I 73 1).toInt = (F 73 1).toInt := congrArg Int32.toInt (xFr hI 73 1 rfl); have z0 : (0 : Int32).toInt = 0 := (by decide +kernel); have _ := t_c_5; have _ := t_c_8; omega), rfl, hp_11⟩)))
          · have t_c_8 := z_ltF c_8
            refine lv_bipush (v := (-7)) hx hb dX10_write_42 (by decide +kernel) ?_
            exact z_iret (v := (-7)) hx hb hr hlocks hP hD hS dX10_write_44 (Or.inr (Or.inr (Or.inl ⟨(by obtain ⟨_, _⟩ := zk_0; omega), (show (F 73 1).toInt ≠ -1 from fun h => nn_3 ((congrArg Int32.toInt (xFr hI 73 1 rfl)).trans h)), (by show pa1.toInt < 0 ∨ (F 73 1).toInt ≤ pa1.toInt; have e9 : (I 73 1).toInt = (F 73 1).toInt := congrArg Int32.toInt (xFr hI 73 1 rfl); have z0 : (0 : Int32).toInt = 0 := (by decide +kernel); have _ := t_c_5; have _ := t_c_8; omega), rfl, hI⟩)))
      · cases hu_3
        refine lv_if_ne (tgt := 29) hx hb dX10_write_23 (by decide) (fun c_0 => absurd (zD_eq zk_0 zk_z) c_0) (fun _ => ?_)
        refine lv_bipush (v := (-6)) hx hb dX10_write_26 (by decide +kernel) ?_
        exact z_iret (v := (-6)) hx hb hr hlocks hP hD hS dX10_write_28 (Or.inr (Or.inl ⟨(by obtain ⟨_, _⟩ := zk_0; omega), (show (F 73 1).toInt = -1 from (congrArg Int32.toInt (xFr hI 73 1 rfl)).symm.trans nn_3), rfl, hI⟩))
    · refine va_aldq hx hb hK hP 72 52 (zw_at (by decide) rfl) rfl (vp_in_nI (by decide) (by decide)) dX10_write_15 ?_
      refine W.eq (g2 := F0 m 16 ls (.ref (q 75) :: [])) rfl ?_
      refine lv_astore (lv' := [(5, .ref (q 75)), (0, .ref (q 0)), (1, .int (nI 1)), (2, .int (pa1)), (3, .long (pa2))]) hx hb dX10_write_16 hl (by decide) rfl (fun ls hl => ?_)
      refine lv_aload hx hb dX10_write_18 (lv_at hl 0 rfl) ?_
      refine z_callVi (k := 75) (As := []) (rest := []) hx hb hml hown ht (xk_X6_isThere_1 l D q cA F _ _ _ hI ) hw_5_63 hmX6_isThere ⟨rfl, rfl⟩ (na := 0) rfl (by decide +kernel) (by decide) (by decide) rfl rfl hK hP hD hS hA hl.1 rfl (Nat.le_of_ble_eq_true rfl) ⟨Nat.zero_le _, Nat.zero_le _⟩ dX10_write_20 (fun r_12 I_12 R_12 J_12 H locs hp_12 hP hD hS _ _ => ?_)
      rcases hp_12 with ⟨rfl, hu_12, nn_12⟩ | ⟨rfl, hu_12, nn_12⟩
      · cases hu_12
        have f_13 : zR 0 60 (I 75 1) := x_there (xI hI 75 1) nn_12
        refine lv_if_ne (tgt := 29) hx hb dX10_write_23 (by decide) (fun _ => ?_) (fun c_0 => absurd c_0 (zD_ne zk_1 zk_z (by decide)))
        refine lv_iload_n hx hb dX10_write_29 rfl (lv_at hl 3 rfl) ?_
        refine lv_if_lt (tgt := 42) hx hb dX10_write_30 (by decide) (fun c_14 => ?_) (fun c_14 => ?_)
        · have t_c_14 := z_ltT c_14
          have f_15 : zR (-2147483648) (-1) (pa1) := zR_ltx t_c_14 (zR_any (pa1)) zk_z (by decide)
          refine lv_bipush (v := (-7)) hx hb dX10_write_42 (by decide +kernel) ?_
          exact z_iret (v := (-7)) hx hb hr hlocks hP hD hS dX10_write_44 (Or.inr (Or.inr (Or.inl ⟨(by obtain ⟨_, _⟩ := zk_1; omega), (show (F 75 1).toInt ≠ -1 from fun h => nn_12 ((congrArg Int32.toInt (xFr hI 75 1 rfl)).trans h)), (by show pa1.toInt < 0 ∨ (F 75 1).toInt ≤ pa1.toInt; have e9 : (I 75 1).toInt = (F 75 1).toInt := congrArg Int32.toInt (xFr hI 75 1 rfl); have z0 : (0 : Int32).toInt = 0 := (by decide +kernel); have _ := t_c_14; omega), rfl, hI⟩)))
        · have t_c_14 := z_ltF c_14
          have f_16 : zR 0 2147483647 (pa1) := zR_ley t_c_14 zk_z (zR_any (pa1)) (by decide)
          refine lv_iload_n hx hb dX10_write_33 rfl (lv_at hl 3 rfl) ?_
          refine lv_aload hx hb dX10_write_34 (lv_at hl 0 rfl) ?_
          refine z_get hx hb ht hown hK hP ziX6 rfl 75 (by decide) 1 (by decide) hw_2_81 rfl (v := .int (I 75 1)) rfl dX10_write_36 ?_
          refine lv_icmp_lt (tgt := 45) hx hb dX10_write_39 (by decide) (fun c_17 => ?_) (fun c_17 => ?_)
          · have t_c_17 := z_ltT c_17
            have f_18 : zR 0 59 (pa1) := zR_ltx t_c_17 f_16 f_13 (by decide)
            have f_19 : zR 1 60 (I 75 1) := zR_lty t_c_17 f_16 f_13 (by decide)
            refine lv_aload hx hb dX10_write_45 (lv_at hl 0 rfl) ?_
            refine lv_iload_n hx hb dX10_write_47 rfl (lv_at hl 3 rfl) ?_
            refine lv_lload_n hx hb dX10_write_48 rfl (lv_at hl 4 rfl) ?_
            refine z_callVv (k := 75) (As := [.int (pa1), .long (pa2)]) (rest := []) hx hb hml hown ht (xk_X6_put_1 l D q cA F _ _ _ hI (pa1) f_18 (pa2)) hw_5_169 hmX6_put ⟨rfl, rfl⟩ (na := 2) rfl (by decide +kernel) (by decide) (by decide) rfl rfl hK hP hD hS hA hl.1 rfl (Nat.le_of_ble_eq_true rfl) ⟨Nat.zero_le _, Nat.zero_le _⟩ dX10_write_49 (fun I_20 R_20 J_20 H locs hp_20 hP hD hS _ _ => ?_)
            refine lv_iconst (v := nI 0) hx hb dX10_write_52 (by decide +kernel) ?_
            exact z_iret (v := nI 0) hx hb hr hlocks hP hD hS dX10_write_53 (Or.inr (Or.inr (Or.inr ⟨(by obtain ⟨_, _⟩ := zk_1; omega), (show (F 75 1).toInt ≠ -1 from fun h => nn_12 ((congrArg Int32.toInt (xFr hI 75 1 rfl)).trans h)), (by have e9 : (I 75 1).toInt = (F 75 1).toInt := congrArg Int32.toInt (xFr hI 75 1 rfl); have z0 : (0 : Int32).toInt = 0 := (by decide +kernel); have _ := t_c_14; have _ := t_c_17; omega), (by show pa1.toInt < (F 75 1).toInt; have e9 : (I 75 1).toInt = (F 75 1).toInt := congrArg Int32.toInt (xFr hI 75 1 rfl); have z0 : (0 : Int32).toInt = 0 := (by decide +kernel); have _ := t_c_14; have _ := t_c_17; omega), rfl, hp_20⟩)))
          · have t_c_17 := z_ltF c_17
            refine lv_bipush (v := (-7)) hx hb dX10_write_42 (by decide +kernel) ?_
            exact z_iret (v := (-7)) hx hb hr hlocks hP hD hS dX10_write_44 (Or.inr (Or.inr (Or.inl ⟨(by obtain ⟨_, _⟩ := zk_1; omega), (show (F 75 1).toInt ≠ -1 from fun h => nn_12 ((congrArg Int32.toInt (xFr hI 75 1 rfl)).trans h)), (by show pa1.toInt < 0 ∨ (F 75 1).toInt ≤ pa1.toInt; have e9 : (I 75 1).toInt = (F 75 1).toInt := congrArg Int32.toInt (xFr hI 75 1 rfl); have z0 : (0 : Int32).toInt = 0 := (by decide +kernel); have _ := t_c_14; have _ := t_c_17; omega), rfl, hI⟩)))
      · cases hu_12
        refine lv_if_ne (tgt := 29) hx hb dX10_write_23 (by decide) (fun c_0 => absurd (zD_eq zk_0 zk_z) c_0) (fun _ => ?_)
        refine lv_bipush (v := (-6)) hx hb dX10_write_26 (by decide +kernel) ?_
        exact z_iret (v := (-6)) hx hb hr hlocks hP hD hS dX10_write_28 (Or.inr (Or.inl ⟨(by obtain ⟨_, _⟩ := zk_1; omega), (show (F 75 1).toInt = -1 from (congrArg Int32.toInt (xFr hI 75 1 rfl)).symm.trans nn_12), rfl, hI⟩))
    · refine va_aldq hx hb hK hP 72 52 (zw_at (by decide) rfl) rfl (vp_in_nI (by decide) (by decide)) dX10_write_15 ?_
      refine W.eq (g2 := F0 m 16 ls (.ref (q 77) :: [])) rfl ?_
      refine lv_astore (lv' := [(5, .ref (q 77)), (0, .ref (q 0)), (1, .int (nI 2)), (2, .int (pa1)), (3, .long (pa2))]) hx hb dX10_write_16 hl (by decide) rfl (fun ls hl => ?_)
      refine lv_aload hx hb dX10_write_18 (lv_at hl 0 rfl) ?_
      refine z_callVi (k := 77) (As := []) (rest := []) hx hb hml hown ht (xk_X6_isThere_2 l D q cA F _ _ _ hI ) hw_5_63 hmX6_isThere ⟨rfl, rfl⟩ (na := 0) rfl (by decide +kernel) (by decide) (by decide) rfl rfl hK hP hD hS hA hl.1 rfl (Nat.le_of_ble_eq_true rfl) ⟨Nat.zero_le _, Nat.zero_le _⟩ dX10_write_20 (fun r_21 I_21 R_21 J_21 H locs hp_21 hP hD hS _ _ => ?_)
      rcases hp_21 with ⟨rfl, hu_21, nn_21⟩ | ⟨rfl, hu_21, nn_21⟩
      · cases hu_21
        have f_22 : zR 0 60 (I 77 1) := x_there (xI hI 77 1) nn_21
        refine lv_if_ne (tgt := 29) hx hb dX10_write_23 (by decide) (fun _ => ?_) (fun c_0 => absurd c_0 (zD_ne zk_1 zk_z (by decide)))
        refine lv_iload_n hx hb dX10_write_29 rfl (lv_at hl 3 rfl) ?_
        refine lv_if_lt (tgt := 42) hx hb dX10_write_30 (by decide) (fun c_23 => ?_) (fun c_23 => ?_)
        · have t_c_23 := z_ltT c_23
          have f_24 : zR (-2147483648) (-1) (pa1) := zR_ltx t_c_23 (zR_any (pa1)) zk_z (by decide)
          refine lv_bipush (v := (-7)) hx hb dX10_write_42 (by decide +kernel) ?_
          exact z_iret (v := (-7)) hx hb hr hlocks hP hD hS dX10_write_44 (Or.inr (Or.inr (Or.inl ⟨(by obtain ⟨_, _⟩ := zk_2; omega), (show (F 77 1).toInt ≠ -1 from fun h => nn_21 ((congrArg Int32.toInt (xFr hI 77 1 rfl)).trans h)), (by show pa1.toInt < 0 ∨ (F 77 1).toInt ≤ pa1.toInt; have e9 : (I 77 1).toInt = (F 77 1).toInt := congrArg Int32.toInt (xFr hI 77 1 rfl); have z0 : (0 : Int32).toInt = 0 := (by decide +kernel); have _ := t_c_23; omega), rfl, hI⟩)))
        · have t_c_23 := z_ltF c_23
          have f_25 : zR 0 2147483647 (pa1) := zR_ley t_c_23 zk_z (zR_any (pa1)) (by decide)
          refine lv_iload_n hx hb dX10_write_33 rfl (lv_at hl 3 rfl) ?_
          refine lv_aload hx hb dX10_write_34 (lv_at hl 0 rfl) ?_
          refine z_get hx hb ht hown hK hP ziX6 rfl 77 (by decide) 1 (by decide) hw_2_81 rfl (v := .int (I 77 1)) rfl dX10_write_36 ?_
          refine lv_icmp_lt (tgt := 45) hx hb dX10_write_39 (by decide) (fun c_26 => ?_) (fun c_26 => ?_)
          · have t_c_26 := z_ltT c_26
            have f_27 : zR 0 59 (pa1) := zR_ltx t_c_26 f_25 f_22 (by decide)
            have f_28 : zR 1 60 (I 77 1) := zR_lty t_c_26 f_25 f_22 (by decide)
            refine lv_aload hx hb dX10_write_45 (lv_at hl 0 rfl) ?_
            refine lv_iload_n hx hb dX10_write_47 rfl (lv_at hl 3 rfl) ?_
            refine lv_lload_n hx hb dX10_write_48 rfl (lv_at hl 4 rfl) ?_
            refine z_callVv (k := 77) (As := [.int (pa1), .long (pa2)]) (rest := []) hx hb hml hown ht (xk_X6_put_2 l D q cA F _ _ _ hI (pa1) f_27 (pa2)) hw_5_169 hmX6_put ⟨rfl, rfl⟩ (na := 2) rfl (by decide +kernel) (by decide) (by decide) rfl rfl hK hP hD hS hA hl.1 rfl (Nat.le_of_ble_eq_true rfl) ⟨Nat.zero_le _, Nat.zero_le _⟩ dX10_write_49 (fun I_29 R_29 J_29 H locs hp_29 hP hD hS _ _ => ?_)
            refine lv_iconst (v := nI 0) hx hb dX10_write_52 (by decide +kernel) ?_
            exact z_iret (v := nI 0) hx hb hr hlocks hP hD hS dX10_write_53 (Or.inr (Or.inr (Or.inr ⟨(by obtain ⟨_, _⟩ := zk_2; omega), (show (F 77 1).toInt ≠ -1 from fun h => nn_21 ((congrArg Int32.toInt (xFr hI 77 1 rfl)).trans h)), (by have e9 : (I 77 1).toInt = (F 77 1).toInt := congrArg Int32.toInt (xFr hI 77 1 rfl); have z0 : (0 : Int32).toInt = 0 := (by decide +kernel); have _ := t_c_23; have _ := t_c_26; omega), (by show pa1.toInt < (F 77 1).toInt; have e9 : (I 77 1).toInt = (F 77 1).toInt := congrArg Int32.toInt (xFr hI 77 1 rfl); have z0 : (0 : Int32).toInt = 0 := (by decide +kernel); have _ := t_c_23; have _ := t_c_26; omega), rfl, hp_29⟩)))
          · have t_c_26 := z_ltF c_26
            refine lv_bipush (v := (-7)) hx hb dX10_write_42 (by decide +kernel) ?_
            exact z_iret (v := (-7)) hx hb hr hlocks hP hD hS dX10_write_44 (Or.inr (Or.inr (Or.inl ⟨(by obtain ⟨_, _⟩ := zk_2; omega), (show (F 77 1).toInt ≠ -1 from fun h => nn_21 ((congrArg Int32.toInt (xFr hI 77 1 rfl)).trans h)), (by show pa1.toInt < 0 ∨ (F 77 1).toInt ≤ pa1.toInt; have e9 : (I 77 1).toInt = (F 77 1).toInt := congrArg Int32.toInt (xFr hI 77 1 rfl); have z0 : (0 : Int32).toInt = 0 := (by decide +kernel); have _ := t_c_23; have _ := t_c_26; omega), rfl, hI⟩)))
      · cases hu_21
        refine lv_if_ne (tgt := 29) hx hb dX10_write_23 (by decide) (fun c_0 => absurd (zD_eq zk_0 zk_z) c_0) (fun _ => ?_)
        refine lv_bipush (v := (-6)) hx hb dX10_write_26 (by decide +kernel) ?_
        exact z_iret (v := (-6)) hx hb hr hlocks hP hD hS dX10_write_28 (Or.inr (Or.inl ⟨(by obtain ⟨_, _⟩ := zk_2; omega), (show (F 77 1).toInt = -1 from (congrArg Int32.toInt (xFr hI 77 1 rfl)).symm.trans nn_21), rfl, hI⟩))
    · refine va_aldq hx hb hK hP 72 52 (zw_at (by decide) rfl) rfl (vp_in_nI (by decide) (by decide)) dX10_write_15 ?_
      refine W.eq (g2 := F0 m 16 ls (.ref (q 79) :: [])) rfl ?_
      refine lv_astore (lv' := [(5, .ref (q 79)), (0, .ref (q 0)), (1, .int (nI 3)), (2, .int (pa1)), (3, .long (pa2))]) hx hb dX10_write_16 hl (by decide) rfl (fun ls hl => ?_)
      refine lv_aload hx hb dX10_write_18 (lv_at hl 0 rfl) ?_
      refine z_callVi (k := 79) (As := []) (rest := []) hx hb hml hown ht (xk_X6_isThere_3 l D q cA F _ _ _ hI ) hw_5_63 hmX6_isThere ⟨rfl, rfl⟩ (na := 0) rfl (by decide +kernel) (by decide) (by decide) rfl rfl hK hP hD hS hA hl.1 rfl (Nat.le_of_ble_eq_true rfl) ⟨Nat.zero_le _, Nat.zero_le _⟩ dX10_write_20 (fun r_30 I_30 R_30 J_30 H locs hp_30 hP hD hS _ _ => ?_)
      rcases hp_30 with ⟨rfl, hu_30, nn_30⟩ | ⟨rfl, hu_30, nn_30⟩
      · cases hu_30
        have f_31 : zR 0 60 (I 79 1) := x_there (xI hI 79 1) nn_30
        refine lv_if_ne (tgt := 29) hx hb dX10_write_23 (by decide) (fun _ => ?_) (fun c_0 => absurd c_0 (zD_ne zk_1 zk_z (by decide)))
        refine lv_iload_n hx hb dX10_write_29 rfl (lv_at hl 3 rfl) ?_
        refine lv_if_lt (tgt := 42) hx hb dX10_write_30 (by decide) (fun c_32 => ?_) (fun c_32 => ?_)
        · have t_c_32 := z_ltT c_32
          have f_33 : zR (-2147483648) (-1) (pa1) := zR_ltx t_c_32 (zR_any (pa1)) zk_z (by decide)
          refine lv_bipush (v := (-7)) hx hb dX10_write_42 (by decide +kernel) ?_
          exact z_iret (v := (-7)) hx hb hr hlocks hP hD hS dX10_write_44 (Or.inr (Or.inr (Or.inl ⟨(by obtain ⟨_, _⟩ := zk_3; omega), (show (F 79 1).toInt ≠ -1 from fun h => nn_30 ((congrArg Int32.toInt (xFr hI 79 1 rfl)).trans h)), (by show pa1.toInt < 0 ∨ (F 79 1).toInt ≤ pa1.toInt; have e9 : (I 79 1).toInt = (F 79 1).toInt := congrArg Int32.toInt (xFr hI 79 1 rfl); have z0 : (0 : Int32).toInt = 0 := (by decide +kernel); have _ := t_c_32; omega), rfl, hI⟩)))
        · have t_c_32 := z_ltF c_32
          have f_34 : zR 0 2147483647 (pa1) := zR_ley t_c_32 zk_z (zR_any (pa1)) (by decide)
          refine lv_iload_n hx hb dX10_write_33 rfl (lv_at hl 3 rfl) ?_
          refine lv_aload hx hb dX10_write_34 (lv_at hl 0 rfl) ?_
          refine z_get hx hb ht hown hK hP ziX6 rfl 79 (by decide) 1 (by decide) hw_2_81 rfl (v := .int (I 79 1)) rfl dX10_write_36 ?_
          refine lv_icmp_lt (tgt := 45) hx hb dX10_write_39 (by decide) (fun c_35 => ?_) (fun c_35 => ?_)
          · have t_c_35 := z_ltT c_35
            have f_36 : zR 0 59 (pa1) := zR_ltx t_c_35 f_34 f_31 (by decide)
            have f_37 : zR 1 60 (I 79 1) := zR_lty t_c_35 f_34 f_31 (by decide)
            refine lv_aload hx hb dX10_write_45 (lv_at hl 0 rfl) ?_
            refine lv_iload_n hx hb dX10_write_47 rfl (lv_at hl 3 rfl) ?_
            refine lv_lload_n hx hb dX10_write_48 rfl (lv_at hl 4 rfl) ?_
            refine z_callVv (k := 79) (As := [.int (pa1), .long (pa2)]) (rest := []) hx hb hml hown ht (xk_X6_put_3 l D q cA F _ _ _ hI (pa1) f_36 (pa2)) hw_5_169 hmX6_put ⟨rfl, rfl⟩ (na := 2) rfl (by decide +kernel) (by decide) (by decide) rfl rfl hK hP hD hS hA hl.1 rfl (Nat.le_of_ble_eq_true rfl) ⟨Nat.zero_le _, Nat.zero_le _⟩ dX10_write_49 (fun I_38 R_38 J_38 H locs hp_38 hP hD hS _ _ => ?_)
            refine lv_iconst (v := nI 0) hx hb dX10_write_52 (by decide +kernel) ?_
            exact z_iret (v := nI 0) hx hb hr hlocks hP hD hS dX10_write_53 (Or.inr (Or.inr (Or.inr ⟨(by obtain ⟨_, _⟩ := zk_3; omega), (show (F 79 1).toInt ≠ -1 from fun h => nn_30 ((congrArg Int32.toInt (xFr hI 79 1 rfl)).trans h)), (by have e9 : (I 79 1).toInt = (F 79 1).toInt := congrArg Int32.toInt (xFr hI 79 1 rfl); have z0 : (0 : Int32).toInt = 0 := (by decide +kernel); have _ := t_c_32; have _ := t_c_35; omega), (by show pa1.toInt < (F 79 1).toInt; have e9 : (I 79 1).toInt = (F 79 1).toInt := congrArg Int32.toInt (xFr hI 79 1 rfl); have z0 : (0 : Int32).toInt = 0 := (by decide +kernel); have _ := t_c_32; have _ := t_c_35; omega), rfl, hp_38⟩)))
          · have t_c_35 := z_ltF c_35
            refine lv_bipush (v := (-7)) hx hb dX10_write_42 (by decide +kernel) ?_
            exact z_iret (v := (-7)) hx hb hr hlocks hP hD hS dX10_write_44 (Or.inr (Or.inr (Or.inl ⟨(by obtain ⟨_, _⟩ := zk_3; omega), (show (F 79 1).toInt ≠ -1 from fun h => nn_30 ((congrArg Int32.toInt (xFr hI 79 1 rfl)).trans h)), (by show pa1.toInt < 0 ∨ (F 79 1).toInt ≤ pa1.toInt; have e9 : (I 79 1).toInt = (F 79 1).toInt := congrArg Int32.toInt (xFr hI 79 1 rfl); have z0 : (0 : Int32).toInt = 0 := (by decide +kernel); have _ := t_c_32; have _ := t_c_35; omega), rfl, hI⟩)))
      · cases hu_30
        refine lv_if_ne (tgt := 29) hx hb dX10_write_23 (by decide) (fun c_0 => absurd (zD_eq zk_0 zk_z) c_0) (fun _ => ?_)
        refine lv_bipush (v := (-6)) hx hb dX10_write_26 (by decide +kernel) ?_
        exact z_iret (v := (-6)) hx hb hr hlocks hP hD hS dX10_write_28 (Or.inr (Or.inl ⟨(by obtain ⟨_, _⟩ := zk_3; omega), (show (F 79 1).toInt = -1 from (congrArg Int32.toInt (xFr hI 79 1 rfl)).symm.trans nn_30), rfl, hI⟩))
  · cases hu_1
    refine lv_if_ne (tgt := 10) hx hb dX10_write_4 (by decide) (fun c_0 => absurd (zD_eq zk_0 zk_z) c_0) (fun _ => ?_)
    refine lv_bipush (v := (-2)) hx hb dX10_write_7 (by decide +kernel) ?_
    exact z_iret (v := (-2)) hx hb hr hlocks hP hD hS dX10_write_9 (Or.inl ⟨(by obtain ⟨_, _⟩ := (zR_any (pa0)); have _ := nn_1; omega), rfl, hI⟩)
set_option maxHeartbeats 4000000 in
set_option maxRecDepth 100000 in
theorem xk_X6_spans (l : Launch) (D : va_G) (q : Nat → Nat) (cA : Nat → ClassId) (F : Nat → Nat → Int32) (I R : Nat → Nat → Int32) (J : Nat → Nat → Int64) (hI : xInv F (I, R, J)) (pa0 : Int32) (pa1 : Int32) : zMi l D vwCl (zXtys cA) 81 q (zXd q cA) yX6_spans cX6_spans 3 (some .boolean) ({ frames := 0, cells := 0, slots := 0, locals := 0 } : Room) [.ref (q 73), .int (pa0), .int (pa1)] (I, R, J) (fun r u => (r = nI 1 ∧ u = (I, R, J) ∧ 0 ≤ pa0.toInt ∧ 0 ≤ pa1.toInt ∧ pa0.toInt + pa1.toInt ≤ (I 73 1).toInt) ∨ (r = nI 0 ∧ u = (I, R, J) ∧ (pa0.toInt < 0 ∨ pa1.toInt < 0 ∨ (I 73 1).toInt < pa0.toInt + pa1.toInt))) := by
  intro sz
  refine z_body (by decide +kernel) (Nat.le_of_ble_eq_true rfl) (fun p e s m below meth c ls hx hb hml hr ht hown hlocks hsz hK hP hD hS hl => ?_)
  have hA : ∀ a, s.heap.size ≤ a → zA 81 q sz a := fun a h => Or.inr (hsz ▸ h)
  have hl : lv_has ls 3 [(0, .ref (q 73)), (1, .int (pa0)), (2, .int (pa1))] := hl
  refine lv_iload_n hx hb dX6_spans_0 rfl (lv_at hl 1 rfl) ?_
  refine lv_if_lt (tgt := 30) hx hb dX6_spans_1 (by decide) (fun c_1 => ?_) (fun c_1 => ?_)
  · have t_c_1 := z_ltT c_1
    have f_2 : zR (-2147483648) (-1) (pa0) := zR_ltx t_c_1 (zR_any (pa0)) zk_z (by decide)
    refine lv_iconst (v := nI 0) hx hb dX6_spans_30 (by decide +kernel) ?_
    exact z_zret (v := nI 0) hx hb hr hlocks hP hD hS (by decide +kernel) dX6_spans_31 (Or.inr ⟨rfl, rfl, (by have z0 : (0 : Int32).toInt = 0 := (by decide +kernel); have _ := t_c_1; obtain ⟨_, _⟩ := (show zR (-1) 60 (I 73 1) from xI hI 73 1); omega)⟩)
  · have t_c_1 := z_ltF c_1
    have f_3 : zR 0 2147483647 (pa0) := zR_ley t_c_1 zk_z (zR_any (pa0)) (by decide)
    refine lv_iload_n hx hb dX6_spans_4 rfl (lv_at hl 2 rfl) ?_
    refine lv_if_lt (tgt := 30) hx hb dX6_spans_5 (by decide) (fun c_4 => ?_) (fun c_4 => ?_)
    · have t_c_4 := z_ltT c_4
      have f_5 : zR (-2147483648) (-1) (pa1) := zR_ltx t_c_4 (zR_any (pa1)) zk_z (by decide)
      refine lv_iconst (v := nI 0) hx hb dX6_spans_30 (by decide +kernel) ?_
      exact z_zret (v := nI 0) hx hb hr hlocks hP hD hS (by decide +kernel) dX6_spans_31 (Or.inr ⟨rfl, rfl, (by have z0 : (0 : Int32).toInt = 0 := (by decide +kernel); have _ := t_c_1; have _ := t_c_4; obtain ⟨_, _⟩ := (show zR (-1) 60 (I 73 1) from xI hI 73 1); omega)⟩)
    · have t_c_4 := z_ltF c_4
      have f_6 : zR 0 2147483647 (pa1) := zR_ley t_c_4 zk_z (zR_any (pa1)) (by decide)
      refine lv_iload_n hx hb dX6_spans_8 rfl (lv_at hl 2 rfl) ?_
      refine lv_aload_n hx hb dX6_spans_9 rfl (lv_at hl 0 rfl) ?_
      refine z_get hx hb ht hown hK hP ziX6 rfl 73 (by decide) 1 (by decide) hw_2_79 rfl (v := .int (I 73 1)) rfl dX6_spans_10 ?_
      have f_7 : zR (-1) 60 (I 73 1) := xI hI 73 1
      refine lv_icmp_gt (tgt := 30) hx hb dX6_spans_13 (by decide) (fun c_8 => ?_) (fun c_8 => ?_)
      · have t_c_8 := z_ltT c_8
        refine lv_iconst (v := nI 0) hx hb dX6_spans_30 (by decide +kernel) ?_
        exact z_zret (v := nI 0) hx hb hr hlocks hP hD hS (by decide +kernel) dX6_spans_31 (Or.inr ⟨rfl, rfl, (by have z0 : (0 : Int32).toInt = 0 := (by decide +kernel); have _ := t_c_1; have _ := t_c_4; have _ := t_c_8; obtain ⟨_, _⟩ := (show zR (-1) 60 (I 73 1) from xI hI 73 1); omega)⟩)
      · have t_c_8 := z_ltF c_8
        have f_9 : zR 0 60 (pa1) := zR_lex t_c_8 f_6 f_7 (by decide)
        have f_10 : zR 0 60 (I 73 1) := zR_ley t_c_8 f_6 f_7 (by decide)
        refine lv_iload_n hx hb dX6_spans_16 rfl (lv_at hl 1 rfl) ?_
        refine lv_aload_n hx hb dX6_spans_17 rfl (lv_at hl 0 rfl) ?_
        refine z_get hx hb ht hown hK hP ziX6 rfl 73 (by decide) 1 (by decide) hw_2_79 rfl (v := .int (I 73 1)) rfl dX6_spans_18 ?_
        refine lv_iload_n hx hb dX6_spans_21 rfl (lv_at hl 2 rfl) ?_
        refine lv_isub hx hb dX6_spans_22 ?_
        refine lv_topi (fun v_11 ev_11 => ?_)
        have hv_11 : zR (-60) 60 v_11 := ev_11 ▸ zR_sub f_10 f_9 (by decide)
        refine lv_icmp_gt (tgt := 30) hx hb dX6_spans_23 (by decide) (fun c_12 => ?_) (fun c_12 => ?_)
        · have t_c_12 := z_ltT c_12
          refine lv_iconst (v := nI 0) hx hb dX6_spans_30 (by decide +kernel) ?_
          exact z_zret (v := nI 0) hx hb hr hlocks hP hD hS (by decide +kernel) dX6_spans_31 (Or.inr ⟨rfl, rfl, (by have z0 : (0 : Int32).toInt = 0 := (by decide +kernel); have _ := t_c_1; have _ := t_c_4; have _ := t_c_8; have _ := t_c_12; obtain ⟨_, _⟩ := (show zR (-1) 60 (I 73 1) from xI hI 73 1); have e1 := z2_sub (x := I 73 1) (y := pa1) (by omega) (by omega); have e2 := congrArg Int32.toInt ev_11; omega)⟩)
        · have t_c_12 := z_ltF c_12
          have f_13 : zR 0 60 (pa0) := zR_lex t_c_12 f_3 hv_11 (by decide)
          have f_14 : zR 0 60 (v_11) := zR_ley t_c_12 f_3 hv_11 (by decide)
          refine lv_iconst (v := nI 1) hx hb dX6_spans_26 (by decide +kernel) ?_
          refine lv_goto (tgt := 31) hx hb dX6_spans_27 (by decide) ?_
          exact z_zret (v := nI 1) hx hb hr hlocks hP hD hS (by decide +kernel) dX6_spans_31 (Or.inl ⟨rfl, rfl, (by have z0 : (0 : Int32).toInt = 0 := (by decide +kernel); have _ := t_c_1; have _ := t_c_4; have _ := t_c_8; have _ := t_c_12; obtain ⟨_, _⟩ := (show zR (-1) 60 (I 73 1) from xI hI 73 1); have e1 := z2_sub (x := I 73 1) (y := pa1) (by omega) (by omega); have e2 := congrArg Int32.toInt ev_11; omega), (by have z0 : (0 : Int32).toInt = 0 := (by decide +kernel); have _ := t_c_1; have _ := t_c_4; have _ := t_c_8; have _ := t_c_12; obtain ⟨_, _⟩ := (show zR (-1) 60 (I 73 1) from xI hI 73 1); have e1 := z2_sub (x := I 73 1) (y := pa1) (by omega) (by omega); have e2 := congrArg Int32.toInt ev_11; omega), (by have z0 : (0 : Int32).toInt = 0 := (by decide +kernel); have _ := t_c_1; have _ := t_c_4; have _ := t_c_8; have _ := t_c_12; obtain ⟨_, _⟩ := (show zR (-1) 60 (I 73 1) from xI hI 73 1); have e1 := z2_sub (x := I 73 1) (y := pa1) (by omega) (by omega); have e2 := congrArg Int32.toInt ev_11; omega)⟩)
