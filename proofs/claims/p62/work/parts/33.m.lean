set_option maxHeartbeats 4000000 in
set_option maxRecDepth 100000 in
theorem mk_X11_sell (l : Launch) (D : va_G) (q : Nat → Nat) (cA : Nat → ClassId) (F : Nat → Nat → Int32) (I R : Nat → Nat → Int32) (J : Nat → Nat → Int64) (hI : mInv F (I, R, J)) (pa0 : Int32) (pa1 : Int32) : zMi l D vwCl (zMtys cA) 25 q (zMd q cA) yX11_sell cX11_sell 3 (some .int) ({ frames := 7, cells := 0, slots := 0, locals := 176 } : Room) [.ref (q 0), .int (pa0), .int (pa1)] (I, R, J) (fun _ u => ∃ w9, mInv (zr F 1 w9) u) := by
  intro sz
  refine z_body (by decide +kernel) (Nat.le_of_ble_eq_true rfl) (fun p e s m below meth c ls hx hb hml hr ht hown hlocks hsz hK hP hD hS hl => ?_)
  have hA : ∀ a, s.heap.size ≤ a → zA 25 q sz a := fun a h => Or.inr (hsz ▸ h)
  have hl : lv_has ls 3 [(0, .ref (q 0)), (1, .int (pa0)), (2, .int (pa1))] := hl
  refine lv_aload_n hx hb dX11_sell_0 rfl (lv_at hl 0 rfl) ?_
  refine lv_iload_n hx hb dX11_sell_1 rfl (lv_at hl 1 rfl) ?_
  refine z_callVi (k := 0) (As := [.int (pa0)]) (rest := []) hx hb hml hown ht (mk_X11_isPaper l D q cA F _ _ _ hI (pa0)) hw_7_18 hmX11_isPaper ⟨rfl, rfl⟩ (na := 1) rfl (by decide +kernel) (by decide) (by decide) rfl rfl hK hP hD hS hA hl.1 rfl (Nat.le_of_ble_eq_true rfl) ⟨Nat.zero_le _, Nat.zero_le _⟩ dX11_sell_2 (fun r_1 I_1 R_1 J_1 H locs hp_1 hP hD hS _ _ => ?_)
  rcases hp_1 with ⟨rfl, hu_1, f0_1⟩ | ⟨rfl, hu_1⟩
  · obtain ⟨hv_1, hj_1⟩ := hu_1
    try dsimp only at hj_1
    subst J_1
    refine lv_if_eq (tgt := 17) hx hb dX11_sell_5 (by decide) (fun c_0 => absurd c_0 (zD_ne zk_1 zk_z (by decide))) (fun _ => ?_)
    refine lv_aload_n hx hb dX11_sell_8 rfl (lv_at hl 0 rfl) ?_
    refine lv_iload_n hx hb dX11_sell_9 rfl (lv_at hl 2 rfl) ?_
    refine lv_i2l (v := (pa1).toInt64) hx hb dX11_sell_10 rfl ?_
    refine z_callVi (k := 0) (As := [.long ((pa1).toInt64)]) (rest := []) hx hb hml hown ht (mk_X11_isHouse l D q cA F _ _ _ hv_1 ((pa1).toInt64) (zR_i2l (zR_any (pa1)))) hw_6_176 hmX11_isHouse ⟨rfl, rfl⟩ (na := 1) rfl (by decide +kernel) (by decide) (by decide) rfl rfl hK hP hD hS hA hl.1 rfl (Nat.le_of_ble_eq_true rfl) ⟨Nat.zero_le _, Nat.zero_le _⟩ dX11_sell_11 (fun r_2 I_2 R_2 J_2 H locs hp_2 hP hD hS _ _ => ?_)
    rcases hp_2 with ⟨rfl, hu_2, f0_2⟩ | ⟨rfl, hu_2⟩
    · cases hu_2
      have f_3 : zR 0 4 (pa1) := zL_back f0_2
      refine lv_if_ne (tgt := 20) hx hb dX11_sell_14 (by decide) (fun _ => ?_) (fun c_0 => absurd c_0 (zD_ne zk_1 zk_z (by decide)))
      refine lv_aload_n hx hb dX11_sell_20 rfl (lv_at hl 0 rfl) ?_
      refine lv_iload_n hx hb dX11_sell_21 rfl (lv_at hl 1 rfl) ?_
      refine z_callVi (k := 0) (As := [.int (pa0)]) (rest := []) hx hb hml hown ht (mk_X11_isOpen_1 l D q cA F _ _ _ hv_1 (pa0) f0_1) hw_6_230 hmX11_isOpen ⟨rfl, rfl⟩ (na := 1) rfl (by decide +kernel) (by decide) (by decide) rfl rfl hK hP hD hS hA hl.1 rfl (Nat.le_of_ble_eq_true rfl) ⟨Nat.zero_le _, Nat.zero_le _⟩ dX11_sell_22 (fun r_4 I_4 R_4 J_4 H locs hp_4 hP hD hS _ _ => ?_)
      rcases hp_4 with ⟨rfl, hu_4⟩ | ⟨rfl, hu_4⟩
      · cases hu_4
        refine lv_if_eq (tgt := 71) hx hb dX11_sell_25 (by decide) (fun c_0 => absurd c_0 (zD_ne zk_1 zk_z (by decide))) (fun _ => ?_)
        refine lv_aload_n hx hb dX11_sell_28 rfl (lv_at hl 0 rfl) ?_
        refine z_get hx hb ht hown hK hP ziX11 rfl 0 (by decide) 20 (by decide) hw_5_207 rfl (v := .ref (q 12)) rfl dX11_sell_29 ?_
        refine lv_iload_n hx hb dX11_sell_32 rfl (lv_at hl 1 rfl) ?_
        refine z_iald hx hb hK hP 12 (by decide) 11 rfl rfl (zR_vin f0_1 (by decide)) dX11_sell_33 ?_
        refine z_eqi (y := R_1 12 (pa0).toNatClampNeg) rfl ?_
        have f_5 : zR 0 4 (R_1 12 (pa0).toNatClampNeg) := mR hv_1 12 (pa0).toNatClampNeg
        refine lv_iload_n hx hb dX11_sell_34 rfl (lv_at hl 2 rfl) ?_
        refine lv_icmp_eq (tgt := 71) hx hb dX11_sell_35 (by decide) (fun c_6 => ?_) (fun c_6 => ?_)
        · have t_c_6 := z_eqT c_6
          refine lv_bipush (v := (-5)) hx hb dX11_sell_71 (by decide +kernel) ?_
          exact z_iret (v := (-5)) hx hb hr hlocks hP hD hS dX11_sell_73 ⟨_, mInv_E hv_1⟩
        · have t_c_6 := z_eqF c_6
          refine lv_aload_n hx hb dX11_sell_38 rfl (lv_at hl 0 rfl) ?_
          refine z_get hx hb ht hown hK hP ziX11 rfl 0 (by decide) 15 (by decide) hw_5_202 rfl (v := .ref (q 7)) rfl dX11_sell_39 ?_
          refine lv_iload_n hx hb dX11_sell_42 rfl (lv_at hl 2 rfl) ?_
          refine z_iald hx hb hK hP 7 (by decide) 6 rfl rfl (zR_vin f_3 (by decide)) dX11_sell_43 ?_
          refine z_eqi (y := R_1 7 (pa1).toNatClampNeg) rfl ?_
          refine lv_aload_n hx hb dX11_sell_44 rfl (lv_at hl 0 rfl) ?_
          refine lv_iload_n hx hb dX11_sell_45 rfl (lv_at hl 1 rfl) ?_
          refine z_callVi (k := 0) (As := [.int (pa0)]) (rest := [.int (R_1 7 (pa1).toNatClampNeg)]) hx hb hml hown ht (mk_X11_priceOf l D q cA F _ _ _ hv_1 (pa0) f0_1) hw_6_202 hmX11_priceOf ⟨rfl, rfl⟩ (na := 1) rfl (by decide +kernel) (by decide) (by decide) rfl rfl hK hP hD hS hA hl.1 rfl (Nat.le_of_ble_eq_true rfl) ⟨Nat.zero_le _, Nat.zero_le _⟩ dX11_sell_46 (fun r_7 I_7 R_7 J_7 H locs hp_7 hP hD hS _ _ => ?_)
          cases hp_7
          refine lv_icmp_lt (tgt := 71) hx hb dX11_sell_49 (by decide) (fun c_8 => ?_) (fun c_8 => ?_)
          · have t_c_8 := z_ltT c_8
            have f_9 : zR (-2147483648) 2147483646 (R_1 7 (pa1).toNatClampNeg) := zR_ltx t_c_8 (zR_any (R_1 7 (pa1).toNatClampNeg)) (zR_any (r_7)) (by decide)
            have f_10 : zR (-2147483647) 2147483647 (r_7) := zR_lty t_c_8 (zR_any (R_1 7 (pa1).toNatClampNeg)) (zR_any (r_7)) (by decide)
            refine lv_bipush (v := (-5)) hx hb dX11_sell_71 (by decide +kernel) ?_
            exact z_iret (v := (-5)) hx hb hr hlocks hP hD hS dX11_sell_73 ⟨_, mInv_E hv_1⟩
          · have t_c_8 := z_ltF c_8
            refine lv_aload_n hx hb dX11_sell_52 rfl (lv_at hl 0 rfl) ?_
            refine lv_iconst (v := nI 1) hx hb dX11_sell_53 (by decide +kernel) ?_
            refine lv_iload_n hx hb dX11_sell_54 rfl (lv_at hl 1 rfl) ?_
            refine lv_iload_n hx hb dX11_sell_55 rfl (lv_at hl 2 rfl) ?_
            refine lv_iconst (v := nI 0) hx hb dX11_sell_56 (by decide +kernel) ?_
            refine z_callVi (k := 0) (As := [.int (nI 1), .int (pa0), .int (pa1), .int (nI 0)]) (rest := []) hx hb hml hown ht (mk_X11_keepAct_1 l D q cA F _ _ _ hv_1 (pa0) f0_1 (pa1) f_3 (nI 0) (zR_w zk_0 (by decide))) hw_7_44 hmX11_keepAct ⟨rfl, rfl⟩ (na := 4) rfl (by decide +kernel) (by decide) (by decide) rfl rfl hK hP hD hS hA hl.1 rfl (Nat.le_of_ble_eq_true rfl) ⟨Nat.zero_le _, Nat.zero_le _⟩ dX11_sell_57 (fun r_11 I_11 R_11 J_11 H locs hp_11 hP hD hS _ _ => ?_)
            rcases hp_11 with ⟨rfl, hu_11⟩ | ⟨rfl, hu_11⟩
            · obtain ⟨w_11, hv_11⟩ := hu_11
              refine lv_if_eq (tgt := 71) hx hb dX11_sell_60 (by decide) (fun c_0 => absurd c_0 (zD_ne zk_1 zk_z (by decide))) (fun _ => ?_)
              refine lv_aload_n hx hb dX11_sell_63 rfl (lv_at hl 0 rfl) ?_
              refine lv_iload_n hx hb dX11_sell_64 rfl (lv_at hl 1 rfl) ?_
              refine z_callVi (k := 0) (As := [.int (pa0)]) (rest := []) hx hb hml hown ht (mk_X11_priceOf l D q cA (zr F 1 w_11) _ _ _ hv_11 (pa0) f0_1) hw_6_202 hmX11_priceOf ⟨rfl, rfl⟩ (na := 1) rfl (by decide +kernel) (by decide) (by decide) rfl rfl hK hP hD hS hA hl.1 rfl (Nat.le_of_ble_eq_true rfl) ⟨Nat.zero_le _, Nat.zero_le _⟩ dX11_sell_65 (fun r_12 I_12 R_12 J_12 H locs hp_12 hP hD hS _ _ => ?_)
              cases hp_12
              refine lv_goto (tgt := 73) hx hb dX11_sell_68 (by decide) ?_
              exact z_iret (v := r_12) hx hb hr hlocks hP hD hS dX11_sell_73 ⟨_, hv_11⟩
            · cases hu_11
              refine lv_if_eq (tgt := 71) hx hb dX11_sell_60 (by decide) (fun _ => ?_) (fun c_0 => absurd (zD_eq zk_0 zk_z) c_0)
              refine lv_bipush (v := (-5)) hx hb dX11_sell_71 (by decide +kernel) ?_
              exact z_iret (v := (-5)) hx hb hr hlocks hP hD hS dX11_sell_73 ⟨_, mInv_E hv_1⟩
      · cases hu_4
        refine lv_if_eq (tgt := 71) hx hb dX11_sell_25 (by decide) (fun _ => ?_) (fun c_0 => absurd (zD_eq zk_0 zk_z) c_0)
        refine lv_bipush (v := (-5)) hx hb dX11_sell_71 (by decide +kernel) ?_
        exact z_iret (v := (-5)) hx hb hr hlocks hP hD hS dX11_sell_73 ⟨_, mInv_E hv_1⟩
    · cases hu_2
      refine lv_if_ne (tgt := 20) hx hb dX11_sell_14 (by decide) (fun c_0 => absurd (zD_eq zk_0 zk_z) c_0) (fun _ => ?_)
      refine lv_bipush (v := (-2)) hx hb dX11_sell_17 (by decide +kernel) ?_
      exact z_iret (v := (-2)) hx hb hr hlocks hP hD hS dX11_sell_19 ⟨_, mInv_E hv_1⟩
  · obtain ⟨hv_1, hj_1⟩ := hu_1
    try dsimp only at hj_1
    subst J_1
    refine lv_if_eq (tgt := 17) hx hb dX11_sell_5 (by decide) (fun _ => ?_) (fun c_0 => absurd (zD_eq zk_0 zk_z) c_0)
    refine lv_bipush (v := (-2)) hx hb dX11_sell_17 (by decide +kernel) ?_
    exact z_iret (v := (-2)) hx hb hr hlocks hP hD hS dX11_sell_19 ⟨_, mInv_E hv_1⟩
set_option maxHeartbeats 4000000 in
set_option maxRecDepth 100000 in
theorem mk_X11_keepAct_2 (l : Launch) (D : va_G) (q : Nat → Nat) (cA : Nat → ClassId) (F : Nat → Nat → Int32) (I R : Nat → Nat → Int32) (J : Nat → Nat → Int64) (hI : mInv F (I, R, J)) (pa1 : Int32) (hpa1 : zR 0 23 pa1) (pa2 : Int32) (hpa2 : zR 0 1 pa2) (pa3 : Int32) (hpa3 : zR 0 1 pa3) : zMi l D vwCl (zMtys cA) 25 q (zMd q cA) yX11_keepAct cX11_keepAct 5 (some .boolean) ({ frames := 0, cells := 0, slots := 0, locals := 0 } : Room) [.ref (q 0), .int (nI 2), .int (pa1), .int (pa2), .int (pa3)] (I, R, J) (fun r u => (r = nI 1 ∧ ∃ w9, mInv (zr F 1 w9) u) ∨ (r = nI 0 ∧ u = (I, R, J))) := by
  intro sz
  refine z_body (by decide +kernel) (Nat.le_of_ble_eq_true rfl) (fun p e s m below meth c ls hx hb hml hr ht hown hlocks hsz hK hP hD hS hl => ?_)
  have hA : ∀ a, s.heap.size ≤ a → zA 25 q sz a := fun a h => Or.inr (hsz ▸ h)
  have hl : lv_has ls 5 [(0, .ref (q 0)), (1, .int (nI 2)), (2, .int (pa1)), (3, .int (pa2)), (4, .int (pa3))] := hl
  refine lv_aload_n hx hb dX11_keepAct_0 rfl (lv_at hl 0 rfl) ?_
  refine z_get hx hb ht hown hK hP ziX11 rfl 0 (by decide) 1 (by decide) hw_5_188 rfl (v := .ref (q 1)) rfl dX11_keepAct_1 ?_
  refine lv_bipush (v := nI 6) hx hb dX11_keepAct_4 (by decide +kernel) ?_
  refine z_iald hx hb hK hP 1 (by decide) 0 rfl rfl (zR_vin zk_6 (by decide)) dX11_keepAct_6 ?_
  refine z_eqi (y := R 1 (nI 6).toNatClampNeg) rfl ?_
  have f_1 : zR 0 60 (R 1 (nI 6).toNatClampNeg) := mR hI 1 6
  refine lv_bipush (v := nI 60) hx hb dX11_keepAct_7 (by decide +kernel) ?_
  refine lv_icmp_ne (tgt := 14) hx hb dX11_keepAct_9 (by decide) (fun c_2 => ?_) (fun c_2 => ?_)
  · have t_c_2 := z_eqF c_2
    have f_3 : zR 0 59 (R 1 (nI 6).toNatClampNeg) := zR_nex t_c_2 f_1 zk_60 (by decide)
    refine lv_aload_n hx hb dX11_keepAct_14 rfl (lv_at hl 0 rfl) ?_
    refine z_get hx hb ht hown hK hP ziX11 rfl 0 (by decide) 1 (by decide) hw_5_188 rfl (v := .ref (q 1)) rfl dX11_keepAct_15 ?_
    refine lv_bipush (v := nI 59) hx hb dX11_keepAct_18 (by decide +kernel) ?_
    refine lv_aload_n hx hb dX11_keepAct_20 rfl (lv_at hl 0 rfl) ?_
    refine z_get hx hb ht hown hK hP ziX11 rfl 0 (by decide) 1 (by decide) hw_5_188 rfl (v := .ref (q 1)) rfl dX11_keepAct_21 ?_
    refine lv_bipush (v := nI 6) hx hb dX11_keepAct_24 (by decide +kernel) ?_
    refine z_iald hx hb hK hP 1 (by decide) 0 rfl rfl (zR_vin zk_6 (by decide)) dX11_keepAct_26 ?_
    refine z_eqi (y := R 1 (nI 6).toNatClampNeg) rfl ?_
    refine lv_iadd hx hb dX11_keepAct_27 ?_
    refine z_cadd 59 118 zk_59 f_3 (by decide) (fun v_4 hv_4 mv_4 => ?_)
    refine lv_ldc (v := nI 1000000) hx hb hown (ht _ hw_6_189) dX11_keepAct_28 ?_
    refine lv_iload_n hx hb dX11_keepAct_30 rfl (lv_at hl 1 rfl) ?_
    refine lv_imul hx hb dX11_keepAct_31 ?_
    refine z_eqi (y := nI 2000000) (by decide +kernel) ?_
    refine lv_sipush (v := nI 10000) hx hb dX11_keepAct_32 (by decide +kernel) ?_
    refine lv_iload_n hx hb dX11_keepAct_35 rfl (lv_at hl 2 rfl) ?_
    refine lv_imul hx hb dX11_keepAct_36 ?_
    refine lv_topi (fun v_5 ev_5 => ?_)
    have hv_5 : zR 0 230000 v_5 := ev_5 ▸ zR_mul zk_10000 hpa1 (by decide)
    refine lv_iadd hx hb dX11_keepAct_37 ?_
    refine z_cadd 2000000 2230000 zk_2000000 hv_5 (by decide) (fun v_6 hv_6 mv_6 => ?_)
    refine lv_bipush (v := nI 100) hx hb dX11_keepAct_38 (by decide +kernel) ?_
    refine lv_iload_n hx hb dX11_keepAct_40 rfl (lv_at hl 3 rfl) ?_
    refine lv_imul hx hb dX11_keepAct_41 ?_
    refine lv_topi (fun v_7 ev_7 => ?_)
    have hv_7 : zR 0 100 v_7 := ev_7 ▸ zR_mul zk_100 hpa2 (by decide)
    refine lv_iadd hx hb dX11_keepAct_42 ?_
    refine lv_topi (fun v_8 ev_8 => ?_)
    have hv_8 : zR 2000000 2230100 v_8 := ev_8 ▸ zR_add hv_6 hv_7 (by decide)
    refine lv_iload hx hb dX11_keepAct_43 (lv_at hl 4 rfl) ?_
    refine lv_iadd hx hb dX11_keepAct_45 ?_
    refine lv_topi (fun v_9 ev_9 => ?_)
    have hv_9 : zR 2000000 2230101 v_9 := ev_9 ▸ zR_add hv_8 hpa3 (by decide)
    refine z_iast hx hb hK hP hD hS 1 (by decide) 0 (fun _ => rfl) rfl (zR_vin hv_4 (by decide)) dX11_keepAct_46 (fun H locs hP hD hS => ?_)
    refine lv_aload_n hx hb dX11_keepAct_47 rfl (lv_at hl 0 rfl) ?_
    refine z_get hx hb ht hown hK hP ziX11 rfl 0 (by decide) 1 (by decide) hw_5_188 rfl (v := .ref (q 1)) rfl dX11_keepAct_48 ?_
    refine lv_bipush (v := nI 6) hx hb dX11_keepAct_51 (by decide +kernel) ?_
    refine lv_dup2_11 hx hb dX11_keepAct_53 rfl rfl ?_
    refine z_iald hx hb hK hP 1 (by decide) 0 rfl rfl (zR_vin zk_6 (by decide)) dX11_keepAct_54 ?_
    refine z_eqi (y := R 1 (nI 6).toNatClampNeg) (mKeep_old hI mv_4) ?_
    refine lv_iconst (v := nI 1) hx hb dX11_keepAct_55 (by decide +kernel) ?_
    refine lv_iadd hx hb dX11_keepAct_56 ?_
    refine z_addc 1 60 f_3 zk_1 (by decide) (fun v_10 hv_10 mv_10 => ?_)
    refine z_iast hx hb hK hP hD hS 1 (by decide) 0 (fun _ => rfl) rfl (zR_vin zk_6 (by decide)) dX11_keepAct_57 (fun H locs hP hD hS => ?_)
    have e1_12 : (v_5).toInt = 10000 * (pa1).toInt := m_mulc zk_10000 hpa1 (by decide) ev_5
    have e2_12 : (v_7).toInt = 100 * (pa2).toInt := m_mulc zk_100 hpa2 (by decide) ev_7
    have e3_12 : (v_8).toInt = (v_6).toInt + (v_7).toInt := m_addv hv_6 hv_7 (by decide) ev_8
    have e4_12 : (v_9).toInt = (v_8).toInt + (pa3).toInt := m_addv hv_8 hpa3 (by decide) ev_9
    have ha_12 := mAct_of (v := v_9) (a := pa1) (b := pa2) (c := pa3) (k := 2) (by have _ := mv_6; omega) (by decide) hpa1 (zR_w hpa2 (by decide)) (zR_w hpa3 (by decide)) (fun h9 => by obtain ⟨_, _⟩ := hpa1; obtain ⟨_, _⟩ := hpa2; obtain ⟨_, _⟩ := hpa3; omega) (fun h9 => by obtain ⟨_, _⟩ := hpa1; obtain ⟨_, _⟩ := hpa2; obtain ⟨_, _⟩ := hpa3; omega) (fun h9 => by obtain ⟨_, _⟩ := hpa1; obtain ⟨_, _⟩ := hpa2; obtain ⟨_, _⟩ := hpa3; omega)
    have hI_11 := mInv_keep hI (fun h9 => t_c_2 (h9.trans (by decide +kernel))) mv_4 mv_10 ha_12.1 (fun h9 => absurd (ha_12.2.symm.trans h9) (by decide))
    refine lv_iconst (v := nI 1) hx hb dX11_keepAct_58 (by decide +kernel) ?_
    exact z_zret (v := nI 1) hx hb hr hlocks hP hD hS (by decide +kernel) dX11_keepAct_59 (Or.inl ⟨rfl, ⟨_, hI_11⟩⟩)
  · have t_c_2 := z_eqT c_2
    have f_13 : zR 60 60 (R 1 (nI 6).toNatClampNeg) := zR_eqx t_c_2 zk_60
    refine lv_iconst (v := nI 0) hx hb dX11_keepAct_12 (by decide +kernel) ?_
    exact z_zret (v := nI 0) hx hb hr hlocks hP hD hS (by decide +kernel) dX11_keepAct_13 (Or.inr ⟨rfl, rfl⟩)
set_option maxHeartbeats 4000000 in
set_option maxRecDepth 100000 in
theorem mk_X11_brings (l : Launch) (D : va_G) (q : Nat → Nat) (cA : Nat → ClassId) (F : Nat → Nat → Int32) (I R : Nat → Nat → Int32) (J : Nat → Nat → Int64) (hI : mInv F (I, R, J)) (pa0 : Int32) : zMi l D vwCl (zMtys cA) 25 q (zMd q cA) yX11_brings cX11_brings 2 (some .int) ({ frames := 7, cells := 0, slots := 0, locals := 176 } : Room) [.ref (q 0), .int (pa0)] (I, R, J) (fun r u => zR (-5) 4 r ∧ ∃ w9, mInv (zr F 1 w9) u) := by
  intro sz
  refine z_body (by decide +kernel) (Nat.le_of_ble_eq_true rfl) (fun p e s m below meth c ls hx hb hml hr ht hown hlocks hsz hK hP hD hS hl => ?_)
  have hA : ∀ a, s.heap.size ≤ a → zA 25 q sz a := fun a h => Or.inr (hsz ▸ h)
  have hl : lv_has ls 2 [(0, .ref (q 0)), (1, .int (pa0))] := hl
  refine lv_aload_n hx hb dX11_brings_0 rfl (lv_at hl 0 rfl) ?_
  refine lv_iload_n hx hb dX11_brings_1 rfl (lv_at hl 1 rfl) ?_
  refine z_callVi (k := 0) (As := [.int (pa0)]) (rest := []) hx hb hml hown ht (mk_X11_isPaper l D q cA F _ _ _ hI (pa0)) hw_7_18 hmX11_isPaper ⟨rfl, rfl⟩ (na := 1) rfl (by decide +kernel) (by decide) (by decide) rfl rfl hK hP hD hS hA hl.1 rfl (Nat.le_of_ble_eq_true rfl) ⟨Nat.zero_le _, Nat.zero_le _⟩ dX11_brings_2 (fun r_1 I_1 R_1 J_1 H locs hp_1 hP hD hS _ _ => ?_)
  rcases hp_1 with ⟨rfl, hu_1, f0_1⟩ | ⟨rfl, hu_1⟩
  · obtain ⟨hv_1, hj_1⟩ := hu_1
    try dsimp only at hj_1
    subst J_1
    refine lv_if_ne (tgt := 11) hx hb dX11_brings_5 (by decide) (fun _ => ?_) (fun c_0 => absurd c_0 (zD_ne zk_1 zk_z (by decide)))
    refine lv_aload_n hx hb dX11_brings_11 rfl (lv_at hl 0 rfl) ?_
    refine lv_iload_n hx hb dX11_brings_12 rfl (lv_at hl 1 rfl) ?_
    refine z_callVi (k := 0) (As := [.int (pa0)]) (rest := []) hx hb hml hown ht (mk_X11_isOpen_1 l D q cA F _ _ _ hv_1 (pa0) f0_1) hw_6_230 hmX11_isOpen ⟨rfl, rfl⟩ (na := 1) rfl (by decide +kernel) (by decide) (by decide) rfl rfl hK hP hD hS hA hl.1 rfl (Nat.le_of_ble_eq_true rfl) ⟨Nat.zero_le _, Nat.zero_le _⟩ dX11_brings_13 (fun r_2 I_2 R_2 J_2 H locs hp_2 hP hD hS _ _ => ?_)
    rcases hp_2 with ⟨rfl, hu_2⟩ | ⟨rfl, hu_2⟩
    · cases hu_2
      refine lv_if_eq (tgt := 59) hx hb dX11_brings_16 (by decide) (fun c_0 => absurd c_0 (zD_ne zk_1 zk_z (by decide))) (fun _ => ?_)
      refine lv_aload_n hx hb dX11_brings_19 rfl (lv_at hl 0 rfl) ?_
      refine z_get hx hb ht hown hK hP ziX11 rfl 0 (by decide) 17 (by decide) hw_5_204 rfl (v := .ref (q 9)) rfl dX11_brings_20 ?_
      refine lv_aload_n hx hb dX11_brings_23 rfl (lv_at hl 0 rfl) ?_
      refine z_get hx hb ht hown hK hP ziX11 rfl 0 (by decide) 19 (by decide) hw_5_206 rfl (v := .ref (q 11)) rfl dX11_brings_24 ?_
      refine lv_iload_n hx hb dX11_brings_27 rfl (lv_at hl 1 rfl) ?_
      refine z_iald hx hb hK hP 11 (by decide) 10 rfl rfl (zR_vin f0_1 (by decide)) dX11_brings_28 ?_
      refine z_eqi (y := R_1 11 (pa0).toNatClampNeg) rfl ?_
      have f_3 : zR 0 5 (R_1 11 (pa0).toNatClampNeg) := mR hv_1 11 (pa0).toNatClampNeg
      refine z_iald hx hb hK hP 9 (by decide) 8 rfl rfl (zR_vin f_3 (by decide)) dX11_brings_29 ?_
      refine z_eqi (y := R_1 9 (R_1 11 (pa0).toNatClampNeg).toNatClampNeg) rfl ?_
      have f_4 : zR 0 4 (R_1 9 (R_1 11 (pa0).toNatClampNeg).toNatClampNeg) := mR hv_1 9 (R_1 11 (pa0).toNatClampNeg).toNatClampNeg
      refine lv_aload_n hx hb dX11_brings_30 rfl (lv_at hl 0 rfl) ?_
      refine z_get hx hb ht hown hK hP ziX11 rfl 0 (by decide) 18 (by decide) hw_5_205 rfl (v := .ref (q 10)) rfl dX11_brings_31 ?_
      refine lv_iload_n hx hb dX11_brings_34 rfl (lv_at hl 1 rfl) ?_
      refine z_iald hx hb hK hP 10 (by decide) 9 rfl rfl (zR_vin f0_1 (by decide)) dX11_brings_35 ?_
      refine z_eqi (y := R_1 10 (pa0).toNatClampNeg) rfl ?_
      have f_5 : zR 0 4 (R_1 10 (pa0).toNatClampNeg) := mR hv_1 10 (pa0).toNatClampNeg
      refine lv_icmp_ne (tgt := 59) hx hb dX11_brings_36 (by decide) (fun c_6 => ?_) (fun c_6 => ?_)
      · have t_c_6 := z_eqF c_6
        refine lv_bipush (v := (-5)) hx hb dX11_brings_59 (by decide +kernel) ?_
        exact z_iret (v := (-5)) hx hb hr hlocks hP hD hS dX11_brings_61 ⟨(zR_w zk_m5 (by decide)), ⟨_, mInv_E hv_1⟩⟩
      · have t_c_6 := z_eqT c_6
        refine lv_aload_n hx hb dX11_brings_39 rfl (lv_at hl 0 rfl) ?_
        refine lv_iconst (v := nI 2) hx hb dX11_brings_40 (by decide +kernel) ?_
        refine lv_iload_n hx hb dX11_brings_41 rfl (lv_at hl 1 rfl) ?_
        refine lv_iconst (v := nI 0) hx hb dX11_brings_42 (by decide +kernel) ?_
        refine lv_iconst (v := nI 0) hx hb dX11_brings_43 (by decide +kernel) ?_
        refine z_callVi (k := 0) (As := [.int (nI 2), .int (pa0), .int (nI 0), .int (nI 0)]) (rest := []) hx hb hml hown ht (mk_X11_keepAct_2 l D q cA F _ _ _ hv_1 (pa0) f0_1 (nI 0) (zR_w zk_0 (by decide)) (nI 0) (zR_w zk_0 (by decide))) hw_7_44 hmX11_keepAct ⟨rfl, rfl⟩ (na := 4) rfl (by decide +kernel) (by decide) (by decide) rfl rfl hK hP hD hS hA hl.1 rfl (Nat.le_of_ble_eq_true rfl) ⟨Nat.zero_le _, Nat.zero_le _⟩ dX11_brings_44 (fun r_7 I_7 R_7 J_7 H locs hp_7 hP hD hS _ _ => ?_)
        rcases hp_7 with ⟨rfl, hu_7⟩ | ⟨rfl, hu_7⟩
        · obtain ⟨w_7, hv_7⟩ := hu_7
          refine lv_if_eq (tgt := 59) hx hb dX11_brings_47 (by decide) (fun c_0 => absurd c_0 (zD_ne zk_1 zk_z (by decide))) (fun _ => ?_)
          refine lv_aload_n hx hb dX11_brings_50 rfl (lv_at hl 0 rfl) ?_
          refine z_get hx hb ht hown hK hP ziX11 rfl 0 (by decide) 20 (by decide) hw_5_207 rfl (v := .ref (q 12)) rfl dX11_brings_51 ?_
          refine lv_iload_n hx hb dX11_brings_54 rfl (lv_at hl 1 rfl) ?_
          refine z_iald hx hb hK hP 12 (by decide) 11 rfl rfl (zR_vin f0_1 (by decide)) dX11_brings_55 ?_
          refine z_eqi (y := R_7 12 (pa0).toNatClampNeg) rfl ?_
          have f_8 : zR 0 4 (R_7 12 (pa0).toNatClampNeg) := mR hv_7 12 (pa0).toNatClampNeg
          refine lv_goto (tgt := 61) hx hb dX11_brings_56 (by decide) ?_
          exact z_iret (v := R_7 12 (pa0).toNatClampNeg) hx hb hr hlocks hP hD hS dX11_brings_61 ⟨(zR_w f_8 (by decide)), ⟨_, hv_7⟩⟩
        · cases hu_7
          refine lv_if_eq (tgt := 59) hx hb dX11_brings_47 (by decide) (fun _ => ?_) (fun c_0 => absurd (zD_eq zk_0 zk_z) c_0)
          refine lv_bipush (v := (-5)) hx hb dX11_brings_59 (by decide +kernel) ?_
          exact z_iret (v := (-5)) hx hb hr hlocks hP hD hS dX11_brings_61 ⟨(zR_w zk_m5 (by decide)), ⟨_, mInv_E hv_1⟩⟩
    · cases hu_2
      refine lv_if_eq (tgt := 59) hx hb dX11_brings_16 (by decide) (fun _ => ?_) (fun c_0 => absurd (zD_eq zk_0 zk_z) c_0)
      refine lv_bipush (v := (-5)) hx hb dX11_brings_59 (by decide +kernel) ?_
      exact z_iret (v := (-5)) hx hb hr hlocks hP hD hS dX11_brings_61 ⟨(zR_w zk_m5 (by decide)), ⟨_, mInv_E hv_1⟩⟩
  · obtain ⟨hv_1, hj_1⟩ := hu_1
    try dsimp only at hj_1
    subst J_1
    refine lv_if_ne (tgt := 11) hx hb dX11_brings_5 (by decide) (fun c_0 => absurd (zD_eq zk_0 zk_z) c_0) (fun _ => ?_)
    refine lv_bipush (v := (-2)) hx hb dX11_brings_8 (by decide +kernel) ?_
    exact z_iret (v := (-2)) hx hb hr hlocks hP hD hS dX11_brings_10 ⟨(zR_w zk_m2 (by decide)), ⟨_, mInv_E hv_1⟩⟩
set_option maxHeartbeats 4000000 in
set_option maxRecDepth 100000 in
theorem mk_X11_keepAct_3 (l : Launch) (D : va_G) (q : Nat → Nat) (cA : Nat → ClassId) (F : Nat → Nat → Int32) (I R : Nat → Nat → Int32) (J : Nat → Nat → Int64) (hI : mInv F (I, R, J)) (pa1 : Int32) (hpa1 : zR 0 23 pa1) (pa2 : Int32) (hpa2 : zR 0 1 pa2) (pa3 : Int32) (hpa3 : zR 0 1 pa3) : zMi l D vwCl (zMtys cA) 25 q (zMd q cA) yX11_keepAct cX11_keepAct 5 (some .boolean) ({ frames := 0, cells := 0, slots := 0, locals := 0 } : Room) [.ref (q 0), .int (nI 3), .int (pa1), .int (pa2), .int (pa3)] (I, R, J) (fun r u => (r = nI 1 ∧ ∃ w9, mInv (zr F 1 w9) u) ∨ (r = nI 0 ∧ u = (I, R, J))) := by
  intro sz
  refine z_body (by decide +kernel) (Nat.le_of_ble_eq_true rfl) (fun p e s m below meth c ls hx hb hml hr ht hown hlocks hsz hK hP hD hS hl => ?_)
  have hA : ∀ a, s.heap.size ≤ a → zA 25 q sz a := fun a h => Or.inr (hsz ▸ h)
  have hl : lv_has ls 5 [(0, .ref (q 0)), (1, .int (nI 3)), (2, .int (pa1)), (3, .int (pa2)), (4, .int (pa3))] := hl
  refine lv_aload_n hx hb dX11_keepAct_0 rfl (lv_at hl 0 rfl) ?_
  refine z_get hx hb ht hown hK hP ziX11 rfl 0 (by decide) 1 (by decide) hw_5_188 rfl (v := .ref (q 1)) rfl dX11_keepAct_1 ?_
  refine lv_bipush (v := nI 6) hx hb dX11_keepAct_4 (by decide +kernel) ?_
  refine z_iald hx hb hK hP 1 (by decide) 0 rfl rfl (zR_vin zk_6 (by decide)) dX11_keepAct_6 ?_
  refine z_eqi (y := R 1 (nI 6).toNatClampNeg) rfl ?_
  have f_1 : zR 0 60 (R 1 (nI 6).toNatClampNeg) := mR hI 1 6
  refine lv_bipush (v := nI 60) hx hb dX11_keepAct_7 (by decide +kernel) ?_
  refine lv_icmp_ne (tgt := 14) hx hb dX11_keepAct_9 (by decide) (fun c_2 => ?_) (fun c_2 => ?_)
  · have t_c_2 := z_eqF c_2
    have f_3 : zR 0 59 (R 1 (nI 6).toNatClampNeg) := zR_nex t_c_2 f_1 zk_60 (by decide)
    refine lv_aload_n hx hb dX11_keepAct_14 rfl (lv_at hl 0 rfl) ?_
    refine z_get hx hb ht hown hK hP ziX11 rfl 0 (by decide) 1 (by decide) hw_5_188 rfl (v := .ref (q 1)) rfl dX11_keepAct_15 ?_
    refine lv_bipush (v := nI 59) hx hb dX11_keepAct_18 (by decide +kernel) ?_
    refine lv_aload_n hx hb dX11_keepAct_20 rfl (lv_at hl 0 rfl) ?_
    refine z_get hx hb ht hown hK hP ziX11 rfl 0 (by decide) 1 (by decide) hw_5_188 rfl (v := .ref (q 1)) rfl dX11_keepAct_21 ?_
    refine lv_bipush (v := nI 6) hx hb dX11_keepAct_24 (by decide +kernel) ?_
    refine z_iald hx hb hK hP 1 (by decide) 0 rfl rfl (zR_vin zk_6 (by decide)) dX11_keepAct_26 ?_
    refine z_eqi (y := R 1 (nI 6).toNatClampNeg) rfl ?_
    refine lv_iadd hx hb dX11_keepAct_27 ?_
    refine z_cadd 59 118 zk_59 f_3 (by decide) (fun v_4 hv_4 mv_4 => ?_)
    refine lv_ldc (v := nI 1000000) hx hb hown (ht _ hw_6_189) dX11_keepAct_28 ?_
    refine lv_iload_n hx hb dX11_keepAct_30 rfl (lv_at hl 1 rfl) ?_
    refine lv_imul hx hb dX11_keepAct_31 ?_
    refine z_eqi (y := nI 3000000) (by decide +kernel) ?_
    refine lv_sipush (v := nI 10000) hx hb dX11_keepAct_32 (by decide +kernel) ?_
    refine lv_iload_n hx hb dX11_keepAct_35 rfl (lv_at hl 2 rfl) ?_
    refine lv_imul hx hb dX11_keepAct_36 ?_
    refine lv_topi (fun v_5 ev_5 => ?_)
    have hv_5 : zR 0 230000 v_5 := ev_5 ▸ zR_mul zk_10000 hpa1 (by decide)
    refine lv_iadd hx hb dX11_keepAct_37 ?_
    refine z_cadd 3000000 3230000 zk_3000000 hv_5 (by decide) (fun v_6 hv_6 mv_6 => ?_)
    refine lv_bipush (v := nI 100) hx hb dX11_keepAct_38 (by decide +kernel) ?_
    refine lv_iload_n hx hb dX11_keepAct_40 rfl (lv_at hl 3 rfl) ?_
    refine lv_imul hx hb dX11_keepAct_41 ?_
    refine lv_topi (fun v_7 ev_7 => ?_)
    have hv_7 : zR 0 100 v_7 := ev_7 ▸ zR_mul zk_100 hpa2 (by decide)
    refine lv_iadd hx hb dX11_keepAct_42 ?_
    refine lv_topi (fun v_8 ev_8 => ?_)
    have hv_8 : zR 3000000 3230100 v_8 := ev_8 ▸ zR_add hv_6 hv_7 (by decide)
    refine lv_iload hx hb dX11_keepAct_43 (lv_at hl 4 rfl) ?_
    refine lv_iadd hx hb dX11_keepAct_45 ?_
    refine lv_topi (fun v_9 ev_9 => ?_)
    have hv_9 : zR 3000000 3230101 v_9 := ev_9 ▸ zR_add hv_8 hpa3 (by decide)
    refine z_iast hx hb hK hP hD hS 1 (by decide) 0 (fun _ => rfl) rfl (zR_vin hv_4 (by decide)) dX11_keepAct_46 (fun H locs hP hD hS => ?_)
    refine lv_aload_n hx hb dX11_keepAct_47 rfl (lv_at hl 0 rfl) ?_
    refine z_get hx hb ht hown hK hP ziX11 rfl 0 (by decide) 1 (by decide) hw_5_188 rfl (v := .ref (q 1)) rfl dX11_keepAct_48 ?_
    refine lv_bipush (v := nI 6) hx hb dX11_keepAct_51 (by decide +kernel) ?_
    refine lv_dup2_11 hx hb dX11_keepAct_53 rfl rfl ?_
    refine z_iald hx hb hK hP 1 (by decide) 0 rfl rfl (zR_vin zk_6 (by decide)) dX11_keepAct_54 ?_
    refine z_eqi (y := R 1 (nI 6).toNatClampNeg) (mKeep_old hI mv_4) ?_
    refine lv_iconst (v := nI 1) hx hb dX11_keepAct_55 (by decide +kernel) ?_
    refine lv_iadd hx hb dX11_keepAct_56 ?_
    refine z_addc 1 60 f_3 zk_1 (by decide) (fun v_10 hv_10 mv_10 => ?_)
    refine z_iast hx hb hK hP hD hS 1 (by decide) 0 (fun _ => rfl) rfl (zR_vin zk_6 (by decide)) dX11_keepAct_57 (fun H locs hP hD hS => ?_)
    have e1_12 : (v_5).toInt = 10000 * (pa1).toInt := m_mulc zk_10000 hpa1 (by decide) ev_5
    have e2_12 : (v_7).toInt = 100 * (pa2).toInt := m_mulc zk_100 hpa2 (by decide) ev_7
    have e3_12 : (v_8).toInt = (v_6).toInt + (v_7).toInt := m_addv hv_6 hv_7 (by decide) ev_8
    have e4_12 : (v_9).toInt = (v_8).toInt + (pa3).toInt := m_addv hv_8 hpa3 (by decide) ev_9
    have ha_12 := mAct_of (v := v_9) (a := pa1) (b := pa2) (c := pa3) (k := 3) (by have _ := mv_6; omega) (by decide) hpa1 (zR_w hpa2 (by decide)) (zR_w hpa3 (by decide)) (fun h9 => by obtain ⟨_, _⟩ := hpa1; obtain ⟨_, _⟩ := hpa2; obtain ⟨_, _⟩ := hpa3; omega) (fun h9 => by obtain ⟨_, _⟩ := hpa1; obtain ⟨_, _⟩ := hpa2; obtain ⟨_, _⟩ := hpa3; omega) (fun h9 => by obtain ⟨_, _⟩ := hpa1; obtain ⟨_, _⟩ := hpa2; obtain ⟨_, _⟩ := hpa3; omega)
    have hI_11 := mInv_keep hI (fun h9 => t_c_2 (h9.trans (by decide +kernel))) mv_4 mv_10 ha_12.1 (fun h9 => absurd (ha_12.2.symm.trans h9) (by decide))
    refine lv_iconst (v := nI 1) hx hb dX11_keepAct_58 (by decide +kernel) ?_
    exact z_zret (v := nI 1) hx hb hr hlocks hP hD hS (by decide +kernel) dX11_keepAct_59 (Or.inl ⟨rfl, ⟨_, hI_11⟩⟩)
  · have t_c_2 := z_eqT c_2
    have f_13 : zR 60 60 (R 1 (nI 6).toNatClampNeg) := zR_eqx t_c_2 zk_60
    refine lv_iconst (v := nI 0) hx hb dX11_keepAct_12 (by decide +kernel) ?_
    exact z_zret (v := nI 0) hx hb hr hlocks hP hD hS (by decide +kernel) dX11_keepAct_13 (Or.inr ⟨rfl, rfl⟩)
set_option maxHeartbeats 4000000 in
set_option maxRecDepth 100000 in
theorem mk_X11_openSet (l : Launch) (D : va_G) (q : Nat → Nat) (cA : Nat → ClassId) (F : Nat → Nat → Int32) (I R : Nat → Nat → Int32) (J : Nat → Nat → Int64) (hI : mInv F (I, R, J))  : zMi l D vwCl (zMtys cA) 25 q (zMd q cA) yX11_openSet cX11_openSet 3 (some .int) ({ frames := 1, cells := 0, slots := 0, locals := 21 } : Room) [.ref (q 0)] (I, R, J) (fun r u => zR 0 16777215 r ∧ u = (I, R, J)) := by
  intro sz
  refine z_body (by decide +kernel) (Nat.le_of_ble_eq_true rfl) (fun p e s m below meth c ls hx hb hml hr ht hown hlocks hsz hK hP hD hS hl => ?_)
  have hA : ∀ a, s.heap.size ≤ a → zA 25 q sz a := fun a h => Or.inr (hsz ▸ h)
  have hl : lv_has ls 3 [(0, .ref (q 0))] := hl
  refine lv_iconst (v := nI 0) hx hb dX11_openSet_0 (by decide +kernel) ?_
  refine lv_istore_n (lv' := [(1, .int (nI 0)), (0, .ref (q 0))]) hx hb dX11_openSet_1 rfl hl (by decide) rfl (fun ls hl => ?_)
  refine lv_iconst (v := nI 0) hx hb dX11_openSet_2 (by decide +kernel) ?_
  refine lv_istore_n (lv' := [(2, .int (nI 0)), (1, .int (nI 0)), (0, .ref (q 0))]) hx hb dX11_openSet_3 rfl hl (by decide) rfl (fun ls hl => ?_)
  have loop_54 : ∀ N : Nat, ∀ x_52 : Int32, zR 0 16777215 x_52 → ∀ x_53 : Int32, zR 0 24 x_53 → (2147483648 - (x_53).toInt).toNat < N → ∀ (H : Heap) (locs : List Loc), va_P D vwCl (zw 25 q (zMd q cA) I R J) H → va_D (zA 25 q sz) (zw 25 q (zMd q cA) I R J) → va_S (zA 25 q sz) s.heap H locs → ∀ ls : Array Slot, lv_has ls 3 [(0, .ref (q 0)), (1, .int (x_52)), (2, .int (x_53))] → W p l e ({ frames := 1, cells := 0, slots := 0, locals := 21 } : Room) s m ([.ref (q 0)] : List Value).toArray below meth c H locs 0 0 (MQ below (va_Qi (fun r u => zR 0 16777215 r ∧ u = (I, R, J)) (zB D vwCl 25 q (zMd q cA) sz) (zA 25 q sz)) ([.ref (q 0)] : List Value).toArray s 0 0 (zA 25 q sz)) (F0 m 4 ls []) := by
    intro N
    induction N with
    | zero => intro x_52 hx_52 x_53 hx_53 hN; exact absurd hN (Nat.not_lt_zero _)
    | succ N ih_56 =>
      intro x_52 hx_52 x_53 hx_53 hN_55 H locs hP hD hS ls hl
      refine lv_iload_n hx hb dX11_openSet_4 rfl (lv_at hl 2 rfl) ?_
      refine lv_aload_n hx hb dX11_openSet_5 rfl (lv_at hl 0 rfl) ?_
      refine z_get hx hb ht hown hK hP ziX11 rfl 0 (by decide) 26 (by decide) hw_5_213 rfl (v := .int (I 0 26)) rfl dX11_openSet_6 ?_
      have f_57 : zR 0 24 (I 0 26) := mI hI 0 26
      refine lv_icmp_ge (tgt := 36) hx hb dX11_openSet_9 (by decide) (fun c_58 => ?_) (fun c_58 => ?_)
      · have t_c_58 := z_leT c_58
        refine lv_iload_n hx hb dX11_openSet_36 rfl (lv_at hl 1 rfl) ?_
        exact z_iret (v := x_52) hx hb hr hlocks hP hD hS dX11_openSet_37 ⟨hx_52, rfl⟩
      · have t_c_58 := z_leF c_58
        have f_59 : zR 0 23 (x_53) := zR_ltx t_c_58 hx_53 f_57 (by decide)
        have f_60 : zR 1 24 (I 0 26) := zR_lty t_c_58 hx_53 f_57 (by decide)
        refine lv_iload_n hx hb dX11_openSet_12 rfl (lv_at hl 1 rfl) ?_
        refine lv_aload_n hx hb dX11_openSet_13 rfl (lv_at hl 0 rfl) ?_
        refine lv_iload_n hx hb dX11_openSet_14 rfl (lv_at hl 2 rfl) ?_
        have t_64 : ∀ x_63 : Int32, zR 0 8388608 x_63 → ∀ (H : Heap) (locs : List Loc), va_P D vwCl (zw 25 q (zMd q cA) I R J) H → va_D (zA 25 q sz) (zw 25 q (zMd q cA) I R J) → va_S (zA 25 q sz) s.heap H locs → ∀ ls : Array Slot, lv_has ls 3 [(0, .ref (q 0)), (1, .int (x_52)), (2, .int (x_53))] → W p l e ({ frames := 1, cells := 0, slots := 0, locals := 21 } : Room) s m ([.ref (q 0)] : List Value).toArray below meth c H locs 0 0 (MQ below (va_Qi (fun r u => zR 0 16777215 r ∧ u = (I, R, J)) (zB D vwCl 25 q (zMd q cA) sz) (zA 25 q sz)) ([.ref (q 0)] : List Value).toArray s 0 0 (zA 25 q sz)) (F0 m 28 ls [.int (x_63), .int (x_52)]) := by
          intro x_63 hx_63 H locs hP hD hS ls hl
          refine lv_ior hx hb dX11_openSet_28 ?_
          refine z_rng (a := 0) (b := 16777215) (zR_or 24 hx_52 hx_63 (by decide)) (fun v_65 hv_65 => ?_)
          refine lv_istore_n (lv' := [(1, .int (v_65)), (0, .ref (q 0)), (2, .int (x_53))]) hx hb dX11_openSet_29 rfl hl (by decide) rfl (fun ls hl => ?_)
          obtain ⟨v_66, ev_66⟩ : ∃ y : Int32, y = x_53 + nI 1 := ⟨_, rfl⟩
          have hv_66 : zR 1 24 v_66 := ev_66 ▸ zR_add f_59 zk_1 (by decide)
          have mv_66 : v_66.toInt = (x_53).toInt + 1 := by rw [ev_66, zR_addE f_59 zk_1 (by decide)]; rfl
          refine lv_iinc (v := v_66) (lv' := [(2, .int (v_66)), (1, .int (v_65)), (0, .ref (q 0))]) hx hb dX11_openSet_30 hl (k := 2) rfl (ev_66 ▸ rfl) (by decide) rfl (fun ls hl => ?_)
          refine lv_goto (tgt := 4) hx hb dX11_openSet_33 (by decide) ?_
          exact ih_56 (v_65) hv_65 (v_66) (zR_w hv_66 (by decide)) (z2_up mv_66 (by decide) hN_55) _ _ hP hD hS _ (lv_sub hl [2, 1, 0] rfl)
        refine z_callVi (k := 0) (As := [.int (x_53)]) (rest := [.int (x_52)]) hx hb hml hown ht (mk_X11_isOpen_1 l D q cA F _ _ _ hI (x_53) f_59) hw_6_230 hmX11_isOpen ⟨rfl, rfl⟩ (na := 1) rfl (by decide +kernel) (by decide) (by decide) rfl rfl hK hP hD hS hA hl.1 rfl (Nat.le_of_ble_eq_true rfl) ⟨Nat.zero_le _, Nat.zero_le _⟩ dX11_openSet_15 (fun r_61 I_61 R_61 J_61 H locs hp_61 hP hD hS _ _ => ?_)
        rcases hp_61 with ⟨rfl, hu_61⟩ | ⟨rfl, hu_61⟩
        · cases hu_61
          refine lv_if_eq (tgt := 27) hx hb dX11_openSet_18 (by decide) (fun c_0 => absurd c_0 (zD_ne zk_1 zk_z (by decide))) (fun _ => ?_)
          refine lv_iconst (v := nI 1) hx hb dX11_openSet_21 (by decide +kernel) ?_
          refine lv_iload_n hx hb dX11_openSet_22 rfl (lv_at hl 2 rfl) ?_
          refine lv_ishl hx hb dX11_openSet_23 ?_
          refine z_rng (a := 1) (b := 8388608) (zR_shl1 23 f_59 (by decide)) (fun v_67 hv_67 => ?_)
          refine lv_goto (tgt := 28) hx hb dX11_openSet_24 (by decide) ?_
          exact t_64 (v_67) (zR_w hv_67 (by decide)) _ _ hP hD hS _ (lv_sub hl [0, 1, 2] rfl)
        · cases hu_61
          refine lv_if_eq (tgt := 27) hx hb dX11_openSet_18 (by decide) (fun _ => ?_) (fun c_0 => absurd (zD_eq zk_0 zk_z) c_0)
          refine lv_iconst (v := nI 0) hx hb dX11_openSet_27 (by decide +kernel) ?_
          exact t_64 (nI 0) (zR_w zk_0 (by decide)) _ _ hP hD hS _ (lv_sub hl [0, 1, 2] rfl)
  exact loop_54 _ (nI 0) (zR_w zk_0 (by decide)) (nI 0) (zR_w zk_0 (by decide)) (Nat.lt_succ_self _) _ _ hP hD hS _ (lv_sub hl [2, 1, 0] rfl)
set_option maxHeartbeats 4000000 in
set_option maxRecDepth 100000 in
theorem mk_X11_bits (l : Launch) (D : va_G) (q : Nat → Nat) (cA : Nat → ClassId) (F : Nat → Nat → Int32) (I R : Nat → Nat → Int32) (J : Nat → Nat → Int64) (hI : mInv F (I, R, J)) (pa0 : Int32) : zMi l D vwCl (zMtys cA) 25 q (zMd q cA) yX11_bits cX11_bits 3 (some .int) ({ frames := 0, cells := 0, slots := 0, locals := 0 } : Room) [.int (pa0)] (I, R, J) (fun _ u => u = (I, R, J)) := by
  intro sz
  refine z_body (by decide +kernel) (Nat.le_of_ble_eq_true rfl) (fun p e s m below meth c ls hx hb hml hr ht hown hlocks hsz hK hP hD hS hl => ?_)
  have hA : ∀ a, s.heap.size ≤ a → zA 25 q sz a := fun a h => Or.inr (hsz ▸ h)
  have hl : lv_has ls 3 [(0, .int (pa0))] := hl
  refine lv_iconst (v := nI 0) hx hb dX11_bits_0 (by decide +kernel) ?_
  refine lv_istore_n (lv' := [(1, .int (nI 0)), (0, .int (pa0))]) hx hb dX11_bits_1 rfl hl (by decide) rfl (fun ls hl => ?_)
  refine lv_iconst (v := nI 0) hx hb dX11_bits_2 (by decide +kernel) ?_
  refine lv_istore_n (lv' := [(2, .int (nI 0)), (1, .int (nI 0)), (0, .int (pa0))]) hx hb dX11_bits_3 rfl hl (by decide) rfl (fun ls hl => ?_)
  have loop_93 : ∀ N : Nat, ∀ x_91 : Int32, ∀ x_92 : Int32, zR 0 24 x_92 → (2147483648 - (x_92).toInt).toNat < N → ∀ (H : Heap) (locs : List Loc), va_P D vwCl (zw 25 q (zMd q cA) I R J) H → va_D (zA 25 q sz) (zw 25 q (zMd q cA) I R J) → va_S (zA 25 q sz) s.heap H locs → ∀ ls : Array Slot, lv_has ls 3 [(0, .int (pa0)), (1, .int (x_91)), (2, .int (x_92))] → W p l e ({ frames := 0, cells := 0, slots := 0, locals := 0 } : Room) s m ([.int (pa0)] : List Value).toArray below meth c H locs 0 0 (MQ below (va_Qi (fun _ u => u = (I, R, J)) (zB D vwCl 25 q (zMd q cA) sz) (zA 25 q sz)) ([.int (pa0)] : List Value).toArray s 0 0 (zA 25 q sz)) (F0 m 4 ls []) := by
    intro N
    induction N with
    | zero => intro x_91 x_92 hx_92 hN; exact absurd hN (Nat.not_lt_zero _)
    | succ N ih_95 =>
      intro x_91 x_92 hx_92 hN_94 H locs hP hD hS ls hl
      refine lv_iload_n hx hb dX11_bits_4 rfl (lv_at hl 2 rfl) ?_
      refine lv_bipush (v := nI 24) hx hb dX11_bits_5 (by decide +kernel) ?_
      refine lv_icmp_ge (tgt := 24) hx hb dX11_bits_7 (by decide) (fun c_96 => ?_) (fun c_96 => ?_)
      · have t_c_96 := z_leT c_96
        have f_97 : zR 24 24 (x_92) := zR_ley t_c_96 zk_24 hx_92 (by decide)
        refine lv_iload_n hx hb dX11_bits_24 rfl (lv_at hl 1 rfl) ?_
        exact z_iret (v := x_91) hx hb hr hlocks hP hD hS dX11_bits_25 rfl
      · have t_c_96 := z_leF c_96
        have f_98 : zR 0 23 (x_92) := zR_ltx t_c_96 hx_92 zk_24 (by decide)
        refine lv_iload_n hx hb dX11_bits_10 rfl (lv_at hl 1 rfl) ?_
        refine lv_iload_n hx hb dX11_bits_11 rfl (lv_at hl 0 rfl) ?_
        refine lv_iload_n hx hb dX11_bits_12 rfl (lv_at hl 2 rfl) ?_
        refine lv_ishr hx hb dX11_bits_13 ?_
        refine z_any (fun v_99 => ?_)
        refine lv_iconst (v := nI 1) hx hb dX11_bits_14 (by decide +kernel) ?_
        refine lv_iand hx hb dX11_bits_15 ?_
        refine z_rng (a := 0) (b := 1) (zR_andr zk_1 (by decide)) (fun v_100 hv_100 => ?_)
        refine lv_iadd hx hb dX11_bits_16 ?_
        refine z_any (fun v_101 => ?_)
        refine lv_istore_n (lv' := [(1, .int (v_101)), (0, .int (pa0)), (2, .int (x_92))]) hx hb dX11_bits_17 rfl hl (by decide) rfl (fun ls hl => ?_)
        obtain ⟨v_102, ev_102⟩ : ∃ y : Int32, y = x_92 + nI 1 := ⟨_, rfl⟩
        have hv_102 : zR 1 24 v_102 := ev_102 ▸ zR_add f_98 zk_1 (by decide)
        have mv_102 : v_102.toInt = (x_92).toInt + 1 := by rw [ev_102, zR_addE f_98 zk_1 (by decide)]; rfl
        refine lv_iinc (v := v_102) (lv' := [(2, .int (v_102)), (1, .int (v_101)), (0, .int (pa0))]) hx hb dX11_bits_18 hl (k := 2) rfl (ev_102 ▸ rfl) (by decide) rfl (fun ls hl => ?_)
        refine lv_goto (tgt := 4) hx hb dX11_bits_21 (by decide) ?_
        exact ih_95 (v_101) (v_102) (zR_w hv_102 (by decide)) (z2_up mv_102 (by decide) hN_94) _ _ hP hD hS _ (lv_sub hl [2, 1, 0] rfl)
  exact loop_93 _ (nI 0) (nI 0) (zR_w zk_0 (by decide)) (Nat.lt_succ_self _) _ _ hP hD hS _ (lv_sub hl [2, 1, 0] rfl)
set_option maxHeartbeats 4000000 in
set_option maxRecDepth 100000 in
theorem mk_X11_strike (l : Launch) (D : va_G) (q : Nat → Nat) (cA : Nat → ClassId) (F : Nat → Nat → Int32) (I R : Nat → Nat → Int32) (J : Nat → Nat → Int64) (hI : mInv F (I, R, J)) (pa0 : Int32) : zMi l D vwCl (zMtys cA) 25 q (zMd q cA) yX11_strike cX11_strike 2 (some .int) ({ frames := 7, cells := 0, slots := 0, locals := 176 } : Room) [.ref (q 0), .int (pa0)] (I, R, J) (fun _ u => ∃ w9, mInv (zr F 1 w9) u) := by
  intro sz
  refine z_body (by decide +kernel) (Nat.le_of_ble_eq_true rfl) (fun p e s m below meth c ls hx hb hml hr ht hown hlocks hsz hK hP hD hS hl => ?_)
  have hA : ∀ a, s.heap.size ≤ a → zA 25 q sz a := fun a h => Or.inr (hsz ▸ h)
  have hl : lv_has ls 2 [(0, .ref (q 0)), (1, .int (pa0))] := hl
  refine lv_aload_n hx hb dX11_strike_0 rfl (lv_at hl 0 rfl) ?_
  refine lv_iload_n hx hb dX11_strike_1 rfl (lv_at hl 1 rfl) ?_
  refine z_callVi (k := 0) (As := [.int (pa0)]) (rest := []) hx hb hml hown ht (mk_X11_isPaper l D q cA F _ _ _ hI (pa0)) hw_7_18 hmX11_isPaper ⟨rfl, rfl⟩ (na := 1) rfl (by decide +kernel) (by decide) (by decide) rfl rfl hK hP hD hS hA hl.1 rfl (Nat.le_of_ble_eq_true rfl) ⟨Nat.zero_le _, Nat.zero_le _⟩ dX11_strike_2 (fun r_1 I_1 R_1 J_1 H locs hp_1 hP hD hS _ _ => ?_)
  rcases hp_1 with ⟨rfl, hu_1, f0_1⟩ | ⟨rfl, hu_1⟩
  · obtain ⟨hv_1, hj_1⟩ := hu_1
    try dsimp only at hj_1
    subst J_1
    refine lv_if_ne (tgt := 11) hx hb dX11_strike_5 (by decide) (fun _ => ?_) (fun c_0 => absurd c_0 (zD_ne zk_1 zk_z (by decide)))
    refine lv_aload_n hx hb dX11_strike_11 rfl (lv_at hl 0 rfl) ?_
    refine lv_iload_n hx hb dX11_strike_12 rfl (lv_at hl 1 rfl) ?_
    refine z_callVi (k := 0) (As := [.int (pa0)]) (rest := []) hx hb hml hown ht (mk_X11_isOpen_1 l D q cA F _ _ _ hv_1 (pa0) f0_1) hw_6_230 hmX11_isOpen ⟨rfl, rfl⟩ (na := 1) rfl (by decide +kernel) (by decide) (by decide) rfl rfl hK hP hD hS hA hl.1 rfl (Nat.le_of_ble_eq_true rfl) ⟨Nat.zero_le _, Nat.zero_le _⟩ dX11_strike_13 (fun r_2 I_2 R_2 J_2 H locs hp_2 hP hD hS _ _ => ?_)
    rcases hp_2 with ⟨rfl, hu_2⟩ | ⟨rfl, hu_2⟩
    · cases hu_2
      refine lv_if_eq (tgt := 42) hx hb dX11_strike_16 (by decide) (fun c_0 => absurd c_0 (zD_ne zk_1 zk_z (by decide))) (fun _ => ?_)
      refine lv_aload_n hx hb dX11_strike_19 rfl (lv_at hl 0 rfl) ?_
      refine lv_iconst (v := nI 3) hx hb dX11_strike_20 (by decide +kernel) ?_
      refine lv_iload_n hx hb dX11_strike_21 rfl (lv_at hl 1 rfl) ?_
      refine lv_iconst (v := nI 0) hx hb dX11_strike_22 (by decide +kernel) ?_
      refine lv_iconst (v := nI 0) hx hb dX11_strike_23 (by decide +kernel) ?_
      refine z_callVi (k := 0) (As := [.int (nI 3), .int (pa0), .int (nI 0), .int (nI 0)]) (rest := []) hx hb hml hown ht (mk_X11_keepAct_3 l D q cA F _ _ _ hv_1 (pa0) f0_1 (nI 0) (zR_w zk_0 (by decide)) (nI 0) (zR_w zk_0 (by decide))) hw_7_44 hmX11_keepAct ⟨rfl, rfl⟩ (na := 4) rfl (by decide +kernel) (by decide) (by decide) rfl rfl hK hP hD hS hA hl.1 rfl (Nat.le_of_ble_eq_true rfl) ⟨Nat.zero_le _, Nat.zero_le _⟩ dX11_strike_24 (fun r_3 I_3 R_3 J_3 H locs hp_3 hP hD hS _ _ => ?_)
      rcases hp_3 with ⟨rfl, hu_3⟩ | ⟨rfl, hu_3⟩
      · obtain ⟨w_3, hv_3⟩ := hu_3
        refine lv_if_eq (tgt := 42) hx hb dX11_strike_27 (by decide) (fun c_0 => absurd c_0 (zD_ne zk_1 zk_z (by decide))) (fun _ => ?_)
        refine lv_aload_n hx hb dX11_strike_30 rfl (lv_at hl 0 rfl) ?_
        refine z_callVi (k := 0) (As := []) (rest := []) hx hb hml hown ht (mk_X11_openSet l D q cA (zr F 1 w_3) _ _ _ hv_3 ) hw_7_60 hmX11_openSet ⟨rfl, rfl⟩ (na := 0) rfl (by decide +kernel) (by decide) (by decide) rfl rfl hK hP hD hS hA hl.1 rfl (Nat.le_of_ble_eq_true rfl) ⟨Nat.zero_le _, Nat.zero_le _⟩ dX11_strike_31 (fun r_4 I_4 R_4 J_4 H locs hp_4 hP hD hS _ _ => ?_)
        obtain ⟨hr_4, hu_4⟩ := hp_4
        cases hu_4
        refine z_callSi (As := [.int (r_4)]) (rest := []) hx hb hml hown ht (mk_X11_bits l D q cA (zr F 1 w_3) _ _ _ hv_3 (r_4)) hw_7_64 hmX11_bits ⟨rfl, rfl⟩ (na := 1) rfl (by decide +kernel) (by decide) hK hP hD hS hA hl.1 rfl (Nat.le_of_ble_eq_true rfl) ⟨Nat.zero_le _, Nat.zero_le _⟩ dX11_strike_34 (fun r_5 I_5 R_5 J_5 H locs hp_5 hP hD hS _ _ => ?_)
        cases hp_5
        refine lv_iconst (v := nI 1) hx hb dX11_strike_37 (by decide +kernel) ?_
        refine lv_isub hx hb dX11_strike_38 ?_
        refine z_any (fun v_6 => ?_)
        refine lv_goto (tgt := 44) hx hb dX11_strike_39 (by decide) ?_
        exact z_iret (v := v_6) hx hb hr hlocks hP hD hS dX11_strike_44 ⟨_, hv_3⟩
      · cases hu_3
        refine lv_if_eq (tgt := 42) hx hb dX11_strike_27 (by decide) (fun _ => ?_) (fun c_0 => absurd (zD_eq zk_0 zk_z) c_0)
        refine lv_bipush (v := (-5)) hx hb dX11_strike_42 (by decide +kernel) ?_
        exact z_iret (v := (-5)) hx hb hr hlocks hP hD hS dX11_strike_44 ⟨_, mInv_E hv_1⟩
    · cases hu_2
      refine lv_if_eq (tgt := 42) hx hb dX11_strike_16 (by decide) (fun _ => ?_) (fun c_0 => absurd (zD_eq zk_0 zk_z) c_0)
      refine lv_bipush (v := (-5)) hx hb dX11_strike_42 (by decide +kernel) ?_
      exact z_iret (v := (-5)) hx hb hr hlocks hP hD hS dX11_strike_44 ⟨_, mInv_E hv_1⟩
  · obtain ⟨hv_1, hj_1⟩ := hu_1
    try dsimp only at hj_1
    subst J_1
    refine lv_if_ne (tgt := 11) hx hb dX11_strike_5 (by decide) (fun c_0 => absurd (zD_eq zk_0 zk_z) c_0) (fun _ => ?_)
    refine lv_bipush (v := (-2)) hx hb dX11_strike_8 (by decide +kernel) ?_
    exact z_iret (v := (-2)) hx hb hr hlocks hP hD hS dX11_strike_10 ⟨_, mInv_E hv_1⟩
set_option maxHeartbeats 4000000 in
set_option maxRecDepth 100000 in
theorem mk_X11_keepAct_4 (l : Launch) (D : va_G) (q : Nat → Nat) (cA : Nat → ClassId) (F : Nat → Nat → Int32) (I R : Nat → Nat → Int32) (J : Nat → Nat → Int64) (hI : mInv F (I, R, J)) (pa1 : Int32) (hpa1 : zR 0 4 pa1) (pa2 : Int32) (hpa2 : zR 0 1 pa2) (pa3 : Int32) (hpa3 : zR 0 1 pa3) : zMi l D vwCl (zMtys cA) 25 q (zMd q cA) yX11_keepAct cX11_keepAct 5 (some .boolean) ({ frames := 0, cells := 0, slots := 0, locals := 0 } : Room) [.ref (q 0), .int (nI 4), .int (pa1), .int (pa2), .int (pa3)] (I, R, J) (fun r u => (r = nI 1 ∧ ∃ w9, mInv (zr F 1 w9) u) ∨ (r = nI 0 ∧ u = (I, R, J))) := by
  intro sz
  refine z_body (by decide +kernel) (Nat.le_of_ble_eq_true rfl) (fun p e s m below meth c ls hx hb hml hr ht hown hlocks hsz hK hP hD hS hl => ?_)
  have hA : ∀ a, s.heap.size ≤ a → zA 25 q sz a := fun a h => Or.inr (hsz ▸ h)
  have hl : lv_has ls 5 [(0, .ref (q 0)), (1, .int (nI 4)), (2, .int (pa1)), (3, .int (pa2)), (4, .int (pa3))] := hl
  refine lv_aload_n hx hb dX11_keepAct_0 rfl (lv_at hl 0 rfl) ?_
  refine z_get hx hb ht hown hK hP ziX11 rfl 0 (by decide) 1 (by decide) hw_5_188 rfl (v := .ref (q 1)) rfl dX11_keepAct_1 ?_
  refine lv_bipush (v := nI 6) hx hb dX11_keepAct_4 (by decide +kernel) ?_
  refine z_iald hx hb hK hP 1 (by decide) 0 rfl rfl (zR_vin zk_6 (by decide)) dX11_keepAct_6 ?_
  refine z_eqi (y := R 1 (nI 6).toNatClampNeg) rfl ?_
  have f_1 : zR 0 60 (R 1 (nI 6).toNatClampNeg) := mR hI 1 6
  refine lv_bipush (v := nI 60) hx hb dX11_keepAct_7 (by decide +kernel) ?_
  refine lv_icmp_ne (tgt := 14) hx hb dX11_keepAct_9 (by decide) (fun c_2 => ?_) (fun c_2 => ?_)
  · have t_c_2 := z_eqF c_2
    have f_3 : zR 0 59 (R 1 (nI 6).toNatClampNeg) := zR_nex t_c_2 f_1 zk_60 (by decide)
    refine lv_aload_n hx hb dX11_keepAct_14 rfl (lv_at hl 0 rfl) ?_
    refine z_get hx hb ht hown hK hP ziX11 rfl 0 (by decide) 1 (by decide) hw_5_188 rfl (v := .ref (q 1)) rfl dX11_keepAct_15 ?_
    refine lv_bipush (v := nI 59) hx hb dX11_keepAct_18 (by decide +kernel) ?_
    refine lv_aload_n hx hb dX11_keepAct_20 rfl (lv_at hl 0 rfl) ?_
    refine z_get hx hb ht hown hK hP ziX11 rfl 0 (by decide) 1 (by decide) hw_5_188 rfl (v := .ref (q 1)) rfl dX11_keepAct_21 ?_
    refine lv_bipush (v := nI 6) hx hb dX11_keepAct_24 (by decide +kernel) ?_
    refine z_iald hx hb hK hP 1 (by decide) 0 rfl rfl (zR_vin zk_6 (by decide)) dX11_keepAct_26 ?_
    refine z_eqi (y := R 1 (nI 6).toNatClampNeg) rfl ?_
    refine lv_iadd hx hb dX11_keepAct_27 ?_
    refine z_cadd 59 118 zk_59 f_3 (by decide) (fun v_4 hv_4 mv_4 => ?_)
    refine lv_ldc (v := nI 1000000) hx hb hown (ht _ hw_6_189) dX11_keepAct_28 ?_
    refine lv_iload_n hx hb dX11_keepAct_30 rfl (lv_at hl 1 rfl) ?_
    refine lv_imul hx hb dX11_keepAct_31 ?_
    refine z_eqi (y := nI 4000000) (by decide +kernel) ?_
    refine lv_sipush (v := nI 10000) hx hb dX11_keepAct_32 (by decide +kernel) ?_
    refine lv_iload_n hx hb dX11_keepAct_35 rfl (lv_at hl 2 rfl) ?_
    refine lv_imul hx hb dX11_keepAct_36 ?_
    refine lv_topi (fun v_5 ev_5 => ?_)
    have hv_5 : zR 0 40000 v_5 := ev_5 ▸ zR_mul zk_10000 hpa1 (by decide)
    refine lv_iadd hx hb dX11_keepAct_37 ?_
    refine z_cadd 4000000 4040000 zk_4000000 hv_5 (by decide) (fun v_6 hv_6 mv_6 => ?_)
    refine lv_bipush (v := nI 100) hx hb dX11_keepAct_38 (by decide +kernel) ?_
    refine lv_iload_n hx hb dX11_keepAct_40 rfl (lv_at hl 3 rfl) ?_
    refine lv_imul hx hb dX11_keepAct_41 ?_
    refine lv_topi (fun v_7 ev_7 => ?_)
    have hv_7 : zR 0 100 v_7 := ev_7 ▸ zR_mul zk_100 hpa2 (by decide)
    refine lv_iadd hx hb dX11_keepAct_42 ?_
    refine lv_topi (fun v_8 ev_8 => ?_)
    have hv_8 : zR 4000000 4040100 v_8 := ev_8 ▸ zR_add hv_6 hv_7 (by decide)
    refine lv_iload hx hb dX11_keepAct_43 (lv_at hl 4 rfl) ?_
    refine lv_iadd hx hb dX11_keepAct_45 ?_
    refine lv_topi (fun v_9 ev_9 => ?_)
    have hv_9 : zR 4000000 4040101 v_9 := ev_9 ▸ zR_add hv_8 hpa3 (by decide)
    refine z_iast hx hb hK hP hD hS 1 (by decide) 0 (fun _ => rfl) rfl (zR_vin hv_4 (by decide)) dX11_keepAct_46 (fun H locs hP hD hS => ?_)
    refine lv_aload_n hx hb dX11_keepAct_47 rfl (lv_at hl 0 rfl) ?_
    refine z_get hx hb ht hown hK hP ziX11 rfl 0 (by decide) 1 (by decide) hw_5_188 rfl (v := .ref (q 1)) rfl dX11_keepAct_48 ?_
    refine lv_bipush (v := nI 6) hx hb dX11_keepAct_51 (by decide +kernel) ?_
    refine lv_dup2_11 hx hb dX11_keepAct_53 rfl rfl ?_
    refine z_iald hx hb hK hP 1 (by decide) 0 rfl rfl (zR_vin zk_6 (by decide)) dX11_keepAct_54 ?_
    refine z_eqi (y := R 1 (nI 6).toNatClampNeg) (mKeep_old hI mv_4) ?_
    refine lv_iconst (v := nI 1) hx hb dX11_keepAct_55 (by decide +kernel) ?_
    refine lv_iadd hx hb dX11_keepAct_56 ?_
    refine z_addc 1 60 f_3 zk_1 (by decide) (fun v_10 hv_10 mv_10 => ?_)
    refine z_iast hx hb hK hP hD hS 1 (by decide) 0 (fun _ => rfl) rfl (zR_vin zk_6 (by decide)) dX11_keepAct_57 (fun H locs hP hD hS => ?_)
    have e1_12 : (v_5).toInt = 10000 * (pa1).toInt := m_mulc zk_10000 hpa1 (by decide) ev_5
    have e2_12 : (v_7).toInt = 100 * (pa2).toInt := m_mulc zk_100 hpa2 (by decide) ev_7
    have e3_12 : (v_8).toInt = (v_6).toInt + (v_7).toInt := m_addv hv_6 hv_7 (by decide) ev_8
    have e4_12 : (v_9).toInt = (v_8).toInt + (pa3).toInt := m_addv hv_8 hpa3 (by decide) ev_9
    have ha_12 := mAct_of (v := v_9) (a := pa1) (b := pa2) (c := pa3) (k := 4) (by have _ := mv_6; omega) (by decide) (zR_w hpa1 (by decide)) (zR_w hpa2 (by decide)) (zR_w hpa3 (by decide)) (fun h9 => by obtain ⟨_, _⟩ := hpa1; obtain ⟨_, _⟩ := hpa2; obtain ⟨_, _⟩ := hpa3; omega) (fun h9 => by obtain ⟨_, _⟩ := hpa1; obtain ⟨_, _⟩ := hpa2; obtain ⟨_, _⟩ := hpa3; omega) (fun h9 => by obtain ⟨_, _⟩ := hpa1; obtain ⟨_, _⟩ := hpa2; obtain ⟨_, _⟩ := hpa3; omega)
    have hI_11 := mInv_keep hI (fun h9 => t_c_2 (h9.trans (by decide +kernel))) mv_4 mv_10 ha_12.1 (fun h9 => absurd (ha_12.2.symm.trans h9) (by decide))
    refine lv_iconst (v := nI 1) hx hb dX11_keepAct_58 (by decide +kernel) ?_
    exact z_zret (v := nI 1) hx hb hr hlocks hP hD hS (by decide +kernel) dX11_keepAct_59 (Or.inl ⟨rfl, ⟨_, hI_11⟩⟩)
  · have t_c_2 := z_eqT c_2
    have f_13 : zR 60 60 (R 1 (nI 6).toNatClampNeg) := zR_eqx t_c_2 zk_60
    refine lv_iconst (v := nI 0) hx hb dX11_keepAct_12 (by decide +kernel) ?_
    exact z_zret (v := nI 0) hx hb hr hlocks hP hD hS (by decide +kernel) dX11_keepAct_13 (Or.inr ⟨rfl, rfl⟩)
set_option maxHeartbeats 4000000 in
set_option maxRecDepth 100000 in
theorem mk_X11_lock (l : Launch) (D : va_G) (q : Nat → Nat) (cA : Nat → ClassId) (F : Nat → Nat → Int32) (I R : Nat → Nat → Int32) (J : Nat → Nat → Int64) (hI : mInv F (I, R, J)) (pa0 : Int32) (pa1 : Int32) : zMi l D vwCl (zMtys cA) 25 q (zMd q cA) yX11_lock cX11_lock 3 (some .int) ({ frames := 6, cells := 0, slots := 0, locals := 155 } : Room) [.ref (q 0), .int (pa0), .int (pa1)] (I, R, J) (fun _ u => ∃ w9, mInv (zr F 1 w9) u) := by
  intro sz
  refine z_body (by decide +kernel) (Nat.le_of_ble_eq_true rfl) (fun p e s m below meth c ls hx hb hml hr ht hown hlocks hsz hK hP hD hS hl => ?_)
  have hA : ∀ a, s.heap.size ≤ a → zA 25 q sz a := fun a h => Or.inr (hsz ▸ h)
  have hl : lv_has ls 3 [(0, .ref (q 0)), (1, .int (pa0)), (2, .int (pa1))] := hl
  refine lv_aload_n hx hb dX11_lock_0 rfl (lv_at hl 0 rfl) ?_
  refine lv_iload_n hx hb dX11_lock_1 rfl (lv_at hl 1 rfl) ?_
  refine lv_i2l (v := (pa0).toInt64) hx hb dX11_lock_2 rfl ?_
  refine z_callVi (k := 0) (As := [.long ((pa0).toInt64)]) (rest := []) hx hb hml hown ht (mk_X11_isHouse l D q cA F _ _ _ hI ((pa0).toInt64) (zR_i2l (zR_any (pa0)))) hw_6_176 hmX11_isHouse ⟨rfl, rfl⟩ (na := 1) rfl (by decide +kernel) (by decide) (by decide) rfl rfl hK hP hD hS hA hl.1 rfl (Nat.le_of_ble_eq_true rfl) ⟨Nat.zero_le _, Nat.zero_le _⟩ dX11_lock_3 (fun r_1 I_1 R_1 J_1 H locs hp_1 hP hD hS _ _ => ?_)
  rcases hp_1 with ⟨rfl, hu_1, f0_1⟩ | ⟨rfl, hu_1⟩
  · cases hu_1
    have f_2 : zR 0 4 (pa0) := zL_back f0_1
    refine lv_if_eq (tgt := 19) hx hb dX11_lock_6 (by decide) (fun c_0 => absurd c_0 (zD_ne zk_1 zk_z (by decide))) (fun _ => ?_)
    refine lv_iload_n hx hb dX11_lock_9 rfl (lv_at hl 2 rfl) ?_
    refine lv_i2l (v := (pa1).toInt64) hx hb dX11_lock_10 rfl ?_
    refine lv_lconst (v := (0 : Int64)) hx hb dX11_lock_11 (by decide +kernel) ?_
    refine lv_lconst (v := (1 : Int64)) hx hb dX11_lock_12 (by decide +kernel) ?_
    refine z_callSi (As := [.long ((pa1).toInt64), .long ((0 : Int64)), .long ((1 : Int64))]) (rest := []) hx hb hml hown ht (mk_X11_in l D q cA F _ _ _ hI ((pa1).toInt64) ((0 : Int64)) ((1 : Int64))) hw_6_86 hmX11_in ⟨rfl, rfl⟩ (na := 3) rfl (by decide +kernel) (by decide) hK hP hD hS hA hl.1 rfl (Nat.le_of_ble_eq_true rfl) ⟨Nat.zero_le _, Nat.zero_le _⟩ dX11_lock_13 (fun r_3 I_3 R_3 J_3 H locs hp_3 hP hD hS _ _ => ?_)
    rcases hp_3 with ⟨rfl, hu_3, h1_3, h2_3⟩ | ⟨rfl, hu_3, h1_3 | h2_3⟩
    · cases hu_3
      have f_4 : zL 0 2147483647 ((pa1).toInt64) := zL_ley h1_3 zkl_0 (zR_i2l (zR_any (pa1))) (by decide)
      have f_5 : zR 0 2147483647 (pa1) := zL_back f_4
      have f_6 : zL 0 1 ((pa1).toInt64) := zL_lex h2_3 f_4 zkl_1 (by decide)
      have f_7 : zR 0 1 (pa1) := zL_back f_6
      refine lv_if_ne (tgt := 22) hx hb dX11_lock_16 (by decide) (fun _ => ?_) (fun c_0 => absurd c_0 (zD_ne zk_1 zk_z (by decide)))
      refine lv_aload_n hx hb dX11_lock_22 rfl (lv_at hl 0 rfl) ?_
      refine z_callVv (k := 0) (As := []) (rest := []) hx hb hml hown ht (mk_X11_asItIs l D q cA F _ _ _ hI ) hw_6_181 hmX11_asItIs ⟨rfl, rfl⟩ (na := 0) rfl (by decide +kernel) (by decide) (by decide) rfl rfl hK hP hD hS hA hl.1 rfl (Nat.le_of_ble_eq_true rfl) ⟨Nat.zero_le _, Nat.zero_le _⟩ dX11_lock_23 (fun I_8 R_8 J_8 H locs hp_8 hP hD hS _ _ => ?_)
      obtain ⟨hv_8, hj_8, hs_8⟩ := hp_8
      try dsimp only at hj_8
      subst J_8
      refine lv_aload_n hx hb dX11_lock_26 rfl (lv_at hl 0 rfl) ?_
      refine lv_iconst (v := nI 4) hx hb dX11_lock_27 (by decide +kernel) ?_
      refine lv_iload_n hx hb dX11_lock_28 rfl (lv_at hl 1 rfl) ?_
      refine lv_iload_n hx hb dX11_lock_29 rfl (lv_at hl 2 rfl) ?_
      refine lv_iconst (v := nI 0) hx hb dX11_lock_30 (by decide +kernel) ?_
      refine z_callVi (k := 0) (As := [.int (nI 4), .int (pa0), .int (pa1), .int (nI 0)]) (rest := []) hx hb hml hown ht (mk_X11_keepAct_4 l D q cA F _ _ _ hv_8 (pa0) f_2 (pa1) f_7 (nI 0) (zR_w zk_0 (by decide))) hw_7_44 hmX11_keepAct ⟨rfl, rfl⟩ (na := 4) rfl (by decide +kernel) (by decide) (by decide) rfl rfl hK hP hD hS hA hl.1 rfl (Nat.le_of_ble_eq_true rfl) ⟨Nat.zero_le _, Nat.zero_le _⟩ dX11_lock_31 (fun r_9 I_9 R_9 J_9 H locs hp_9 hP hD hS _ _ => ?_)
      rcases hp_9 with ⟨rfl, hu_9⟩ | ⟨rfl, hu_9⟩
      · obtain ⟨w_9, hv_9⟩ := hu_9
        refine lv_if_eq (tgt := 46) hx hb dX11_lock_34 (by decide) (fun c_0 => absurd c_0 (zD_ne zk_1 zk_z (by decide))) (fun _ => ?_)
        refine lv_aload_n hx hb dX11_lock_37 rfl (lv_at hl 0 rfl) ?_
        refine z_get hx hb ht hown hK hP ziX11 rfl 0 (by decide) 16 (by decide) hw_5_203 rfl (v := .ref (q 8)) rfl dX11_lock_38 ?_
        refine lv_iload_n hx hb dX11_lock_41 rfl (lv_at hl 1 rfl) ?_
        refine z_iald hx hb hK hP 8 (by decide) 7 rfl rfl (zR_vin f_2 (by decide)) dX11_lock_42 ?_
        refine z_eqi (y := R_9 8 (pa0).toNatClampNeg) rfl ?_
        refine lv_goto (tgt := 48) hx hb dX11_lock_43 (by decide) ?_
        exact z_iret (v := R_9 8 (pa0).toNatClampNeg) hx hb hr hlocks hP hD hS dX11_lock_48 ⟨_, hv_9⟩
      · cases hu_9
        refine lv_if_eq (tgt := 46) hx hb dX11_lock_34 (by decide) (fun _ => ?_) (fun c_0 => absurd (zD_eq zk_0 zk_z) c_0)
        refine lv_bipush (v := (-5)) hx hb dX11_lock_46 (by decide +kernel) ?_
        exact z_iret (v := (-5)) hx hb hr hlocks hP hD hS dX11_lock_48 ⟨_, mInv_E hv_8⟩
    · cases hu_3
      have f_10 : zL (-2147483648) (-1) ((pa1).toInt64) := zL_ltx h1_3 (zR_i2l (zR_any (pa1))) zkl_0 (by decide)
      have f_11 : zR (-2147483648) (-1) (pa1) := zL_back f_10
      refine lv_if_ne (tgt := 22) hx hb dX11_lock_16 (by decide) (fun c_0 => absurd (zD_eq zk_0 zk_z) c_0) (fun _ => ?_)
      refine lv_bipush (v := (-2)) hx hb dX11_lock_19 (by decide +kernel) ?_
      exact z_iret (v := (-2)) hx hb hr hlocks hP hD hS dX11_lock_21 ⟨_, mInv_E hI⟩
    · cases hu_3
      have f_12 : zL 2 2147483647 ((pa1).toInt64) := zL_lty h2_3 zkl_1 (zR_i2l (zR_any (pa1))) (by decide)
      have f_13 : zR 2 2147483647 (pa1) := zL_back f_12
      refine lv_if_ne (tgt := 22) hx hb dX11_lock_16 (by decide) (fun c_0 => absurd (zD_eq zk_0 zk_z) c_0) (fun _ => ?_)
      refine lv_bipush (v := (-2)) hx hb dX11_lock_19 (by decide +kernel) ?_
      exact z_iret (v := (-2)) hx hb hr hlocks hP hD hS dX11_lock_21 ⟨_, mInv_E hI⟩
  · cases hu_1
    refine lv_if_eq (tgt := 19) hx hb dX11_lock_6 (by decide) (fun _ => ?_) (fun c_0 => absurd (zD_eq zk_0 zk_z) c_0)
    refine lv_bipush (v := (-2)) hx hb dX11_lock_19 (by decide +kernel) ?_
    exact z_iret (v := (-2)) hx hb hr hlocks hP hD hS dX11_lock_21 ⟨_, mInv_E hI⟩
set_option maxHeartbeats 4000000 in
set_option maxRecDepth 100000 in
theorem mk_X11_isCity (l : Launch) (D : va_G) (q : Nat → Nat) (cA : Nat → ClassId) (F : Nat → Nat → Int32) (I R : Nat → Nat → Int32) (J : Nat → Nat → Int64) (hI : mInv F (I, R, J))  : zMi l D vwCl (zMtys cA) 25 q (zMd q cA) yX11_isCity cX11_isCity 1 (some .boolean) ({ frames := 0, cells := 0, slots := 0, locals := 0 } : Room) [.ref (q 0)] (I, R, J) (fun r u => (r = nI 1 ∧ u = (I, R, J)) ∨ (r = nI 0 ∧ u = (I, R, J))) := by
  intro sz
  refine z_body (by decide +kernel) (Nat.le_of_ble_eq_true rfl) (fun p e s m below meth c ls hx hb hml hr ht hown hlocks hsz hK hP hD hS hl => ?_)
  have hA : ∀ a, s.heap.size ≤ a → zA 25 q sz a := fun a h => Or.inr (hsz ▸ h)
  have hl : lv_has ls 1 [(0, .ref (q 0))] := hl
  refine lv_aload_n hx hb dX11_isCity_0 rfl (lv_at hl 0 rfl) ?_
  refine z_get hx hb ht hown hK hP ziX11 rfl 0 (by decide) 1 (by decide) hw_5_188 rfl (v := .ref (q 1)) rfl dX11_isCity_1 ?_
  refine lv_iconst (v := nI 5) hx hb dX11_isCity_4 (by decide +kernel) ?_
  refine z_iald hx hb hK hP 1 (by decide) 0 rfl rfl (zR_vin zk_5 (by decide)) dX11_isCity_5 ?_
  refine z_eqi (y := R 1 (nI 5).toNatClampNeg) rfl ?_
  refine lv_if_le (tgt := 13) hx hb dX11_isCity_6 (by decide) (fun c_1 => ?_) (fun c_1 => ?_)
  · have t_c_1 := z_leT c_1
    have f_2 : zR (-2147483648) 0 (R 1 (nI 5).toNatClampNeg) := zR_lex t_c_1 (zR_any (R 1 (nI 5).toNatClampNeg)) zk_z (by decide)
    refine lv_iconst (v := nI 0) hx hb dX11_isCity_13 (by decide +kernel) ?_
    exact z_zret (v := nI 0) hx hb hr hlocks hP hD hS (by decide +kernel) dX11_isCity_14 (Or.inr ⟨rfl, rfl⟩)
  · have t_c_1 := z_leF c_1
    have f_3 : zR 1 2147483647 (R 1 (nI 5).toNatClampNeg) := zR_lty t_c_1 zk_z (zR_any (R 1 (nI 5).toNatClampNeg)) (by decide)
    refine lv_iconst (v := nI 1) hx hb dX11_isCity_9 (by decide +kernel) ?_
    refine lv_goto (tgt := 14) hx hb dX11_isCity_10 (by decide) ?_
    exact z_zret (v := nI 1) hx hb hr hlocks hP hD hS (by decide +kernel) dX11_isCity_14 (Or.inl ⟨rfl, rfl⟩)
set_option maxHeartbeats 4000000 in
set_option maxRecDepth 100000 in
theorem mk_X11_keepAct_5 (l : Launch) (D : va_G) (q : Nat → Nat) (cA : Nat → ClassId) (F : Nat → Nat → Int32) (I R : Nat → Nat → Int32) (J : Nat → Nat → Int64) (hI : mInv F (I, R, J)) (pa1 : Int32) (hpa1 : zR 0 1 pa1) (pa2 : Int32) (hpa2 : zR 0 1 pa2) (pa3 : Int32) (hpa3 : zR 0 1 pa3) : zMi l D vwCl (zMtys cA) 25 q (zMd q cA) yX11_keepAct cX11_keepAct 5 (some .boolean) ({ frames := 0, cells := 0, slots := 0, locals := 0 } : Room) [.ref (q 0), .int (nI 5), .int (pa1), .int (pa2), .int (pa3)] (I, R, J) (fun r u => (r = nI 1 ∧ ∃ w9, mInv (zr F 1 w9) u) ∨ (r = nI 0 ∧ u = (I, R, J))) := by
  intro sz
  refine z_body (by decide +kernel) (Nat.le_of_ble_eq_true rfl) (fun p e s m below meth c ls hx hb hml hr ht hown hlocks hsz hK hP hD hS hl => ?_)
  have hA : ∀ a, s.heap.size ≤ a → zA 25 q sz a := fun a h => Or.inr (hsz ▸ h)
  have hl : lv_has ls 5 [(0, .ref (q 0)), (1, .int (nI 5)), (2, .int (pa1)), (3, .int (pa2)), (4, .int (pa3))] := hl
  refine lv_aload_n hx hb dX11_keepAct_0 rfl (lv_at hl 0 rfl) ?_
  refine z_get hx hb ht hown hK hP ziX11 rfl 0 (by decide) 1 (by decide) hw_5_188 rfl (v := .ref (q 1)) rfl dX11_keepAct_1 ?_
  refine lv_bipush (v := nI 6) hx hb dX11_keepAct_4 (by decide +kernel) ?_
  refine z_iald hx hb hK hP 1 (by decide) 0 rfl rfl (zR_vin zk_6 (by decide)) dX11_keepAct_6 ?_
  refine z_eqi (y := R 1 (nI 6).toNatClampNeg) rfl ?_
  have f_1 : zR 0 60 (R 1 (nI 6).toNatClampNeg) := mR hI 1 6
  refine lv_bipush (v := nI 60) hx hb dX11_keepAct_7 (by decide +kernel) ?_
  refine lv_icmp_ne (tgt := 14) hx hb dX11_keepAct_9 (by decide) (fun c_2 => ?_) (fun c_2 => ?_)
  · have t_c_2 := z_eqF c_2
    have f_3 : zR 0 59 (R 1 (nI 6).toNatClampNeg) := zR_nex t_c_2 f_1 zk_60 (by decide)
    refine lv_aload_n hx hb dX11_keepAct_14 rfl (lv_at hl 0 rfl) ?_
    refine z_get hx hb ht hown hK hP ziX11 rfl 0 (by decide) 1 (by decide) hw_5_188 rfl (v := .ref (q 1)) rfl dX11_keepAct_15 ?_
    refine lv_bipush (v := nI 59) hx hb dX11_keepAct_18 (by decide +kernel) ?_
    refine lv_aload_n hx hb dX11_keepAct_20 rfl (lv_at hl 0 rfl) ?_
    refine z_get hx hb ht hown hK hP ziX11 rfl 0 (by decide) 1 (by decide) hw_5_188 rfl (v := .ref (q 1)) rfl dX11_keepAct_21 ?_
    refine lv_bipush (v := nI 6) hx hb dX11_keepAct_24 (by decide +kernel) ?_
    refine z_iald hx hb hK hP 1 (by decide) 0 rfl rfl (zR_vin zk_6 (by decide)) dX11_keepAct_26 ?_
    refine z_eqi (y := R 1 (nI 6).toNatClampNeg) rfl ?_
    refine lv_iadd hx hb dX11_keepAct_27 ?_
    refine z_cadd 59 118 zk_59 f_3 (by decide) (fun v_4 hv_4 mv_4 => ?_)
    refine lv_ldc (v := nI 1000000) hx hb hown (ht _ hw_6_189) dX11_keepAct_28 ?_
    refine lv_iload_n hx hb dX11_keepAct_30 rfl (lv_at hl 1 rfl) ?_
    refine lv_imul hx hb dX11_keepAct_31 ?_
    refine z_eqi (y := nI 5000000) (by decide +kernel) ?_
    refine lv_sipush (v := nI 10000) hx hb dX11_keepAct_32 (by decide +kernel) ?_
    refine lv_iload_n hx hb dX11_keepAct_35 rfl (lv_at hl 2 rfl) ?_
    refine lv_imul hx hb dX11_keepAct_36 ?_
    refine lv_topi (fun v_5 ev_5 => ?_)
    have hv_5 : zR 0 10000 v_5 := ev_5 ▸ zR_mul zk_10000 hpa1 (by decide)
    refine lv_iadd hx hb dX11_keepAct_37 ?_
    refine z_cadd 5000000 5010000 zk_5000000 hv_5 (by decide) (fun v_6 hv_6 mv_6 => ?_)
    refine lv_bipush (v := nI 100) hx hb dX11_keepAct_38 (by decide +kernel) ?_
    refine lv_iload_n hx hb dX11_keepAct_40 rfl (lv_at hl 3 rfl) ?_
    refine lv_imul hx hb dX11_keepAct_41 ?_
    refine lv_topi (fun v_7 ev_7 => ?_)
    have hv_7 : zR 0 100 v_7 := ev_7 ▸ zR_mul zk_100 hpa2 (by decide)
    refine lv_iadd hx hb dX11_keepAct_42 ?_
    refine lv_topi (fun v_8 ev_8 => ?_)
    have hv_8 : zR 5000000 5010100 v_8 := ev_8 ▸ zR_add hv_6 hv_7 (by decide)
    refine lv_iload hx hb dX11_keepAct_43 (lv_at hl 4 rfl) ?_
    refine lv_iadd hx hb dX11_keepAct_45 ?_
    refine lv_topi (fun v_9 ev_9 => ?_)
    have hv_9 : zR 5000000 5010101 v_9 := ev_9 ▸ zR_add hv_8 hpa3 (by decide)
    refine z_iast hx hb hK hP hD hS 1 (by decide) 0 (fun _ => rfl) rfl (zR_vin hv_4 (by decide)) dX11_keepAct_46 (fun H locs hP hD hS => ?_)
    refine lv_aload_n hx hb dX11_keepAct_47 rfl (lv_at hl 0 rfl) ?_
    refine z_get hx hb ht hown hK hP ziX11 rfl 0 (by decide) 1 (by decide) hw_5_188 rfl (v := .ref (q 1)) rfl dX11_keepAct_48 ?_
    refine lv_bipush (v := nI 6) hx hb dX11_keepAct_51 (by decide +kernel) ?_
    refine lv_dup2_11 hx hb dX11_keepAct_53 rfl rfl ?_
    refine z_iald hx hb hK hP 1 (by decide) 0 rfl rfl (zR_vin zk_6 (by decide)) dX11_keepAct_54 ?_
    refine z_eqi (y := R 1 (nI 6).toNatClampNeg) (mKeep_old hI mv_4) ?_
    refine lv_iconst (v := nI 1) hx hb dX11_keepAct_55 (by decide +kernel) ?_
    refine lv_iadd hx hb dX11_keepAct_56 ?_
    refine z_addc 1 60 f_3 zk_1 (by decide) (fun v_10 hv_10 mv_10 => ?_)
    refine z_iast hx hb hK hP hD hS 1 (by decide) 0 (fun _ => rfl) rfl (zR_vin zk_6 (by decide)) dX11_keepAct_57 (fun H locs hP hD hS => ?_)
    have e1_12 : (v_5).toInt = 10000 * (pa1).toInt := m_mulc zk_10000 hpa1 (by decide) ev_5
    have e2_12 : (v_7).toInt = 100 * (pa2).toInt := m_mulc zk_100 hpa2 (by decide) ev_7
    have e3_12 : (v_8).toInt = (v_6).toInt + (v_7).toInt := m_addv hv_6 hv_7 (by decide) ev_8
    have e4_12 : (v_9).toInt = (v_8).toInt + (pa3).toInt := m_addv hv_8 hpa3 (by decide) ev_9
    have ha_12 := mAct_of (v := v_9) (a := pa1) (b := pa2) (c := pa3) (k := 5) (by have _ := mv_6; omega) (by decide) (zR_w hpa1 (by decide)) (zR_w hpa2 (by decide)) (zR_w hpa3 (by decide)) (fun h9 => by obtain ⟨_, _⟩ := hpa1; obtain ⟨_, _⟩ := hpa2; obtain ⟨_, _⟩ := hpa3; omega) (fun h9 => by obtain ⟨_, _⟩ := hpa1; obtain ⟨_, _⟩ := hpa2; obtain ⟨_, _⟩ := hpa3; omega) (fun h9 => by obtain ⟨_, _⟩ := hpa1; obtain ⟨_, _⟩ := hpa2; obtain ⟨_, _⟩ := hpa3; omega)
    have hI_11 := mInv_keep hI (fun h9 => t_c_2 (h9.trans (by decide +kernel))) mv_4 mv_10 ha_12.1 (fun h9 => absurd (ha_12.2.symm.trans h9) (by decide))
    refine lv_iconst (v := nI 1) hx hb dX11_keepAct_58 (by decide +kernel) ?_
    exact z_zret (v := nI 1) hx hb hr hlocks hP hD hS (by decide +kernel) dX11_keepAct_59 (Or.inl ⟨rfl, ⟨_, hI_11⟩⟩)
  · have t_c_2 := z_eqT c_2
    have f_13 : zR 60 60 (R 1 (nI 6).toNatClampNeg) := zR_eqx t_c_2 zk_60
    refine lv_iconst (v := nI 0) hx hb dX11_keepAct_12 (by decide +kernel) ?_
    exact z_zret (v := nI 0) hx hb hr hlocks hP hD hS (by decide +kernel) dX11_keepAct_13 (Or.inr ⟨rfl, rfl⟩)
set_option maxHeartbeats 4000000 in
set_option maxRecDepth 100000 in
theorem mk_X11_night (l : Launch) (D : va_G) (q : Nat → Nat) (cA : Nat → ClassId) (F : Nat → Nat → Int32) (I R : Nat → Nat → Int32) (J : Nat → Nat → Int64) (hI : mInv F (I, R, J))  : zMi l D vwCl (zMtys cA) 25 q (zMd q cA) yX11_night cX11_night 1 (some .int) ({ frames := 6, cells := 0, slots := 0, locals := 155 } : Room) [.ref (q 0)] (I, R, J) (fun _ u => ∃ w9, mInv (zr F 1 w9) u) := by
  intro sz
  refine z_body (by decide +kernel) (Nat.le_of_ble_eq_true rfl) (fun p e s m below meth c ls hx hb hml hr ht hown hlocks hsz hK hP hD hS hl => ?_)
  have hA : ∀ a, s.heap.size ≤ a → zA 25 q sz a := fun a h => Or.inr (hsz ▸ h)
  have hl : lv_has ls 1 [(0, .ref (q 0))] := hl
  refine lv_aload_n hx hb dX11_night_0 rfl (lv_at hl 0 rfl) ?_
  refine z_callVi (k := 0) (As := []) (rest := []) hx hb hml hown ht (mk_X11_isCity l D q cA F _ _ _ hI ) hw_7_75 hmX11_isCity ⟨rfl, rfl⟩ (na := 0) rfl (by decide +kernel) (by decide) (by decide) rfl rfl hK hP hD hS hA hl.1 rfl (Nat.le_of_ble_eq_true rfl) ⟨Nat.zero_le _, Nat.zero_le _⟩ dX11_night_1 (fun r_1 I_1 R_1 J_1 H locs hp_1 hP hD hS _ _ => ?_)
  rcases hp_1 with ⟨rfl, hu_1⟩ | ⟨rfl, hu_1⟩
  · cases hu_1
    refine lv_if_ne (tgt := 10) hx hb dX11_night_4 (by decide) (fun _ => ?_) (fun c_0 => absurd c_0 (zD_ne zk_1 zk_z (by decide)))
    refine lv_aload_n hx hb dX11_night_10 rfl (lv_at hl 0 rfl) ?_
    refine z_callVv (k := 0) (As := []) (rest := []) hx hb hml hown ht (mk_X11_asItIs l D q cA F _ _ _ hI ) hw_6_181 hmX11_asItIs ⟨rfl, rfl⟩ (na := 0) rfl (by decide +kernel) (by decide) (by decide) rfl rfl hK hP hD hS hA hl.1 rfl (Nat.le_of_ble_eq_true rfl) ⟨Nat.zero_le _, Nat.zero_le _⟩ dX11_night_11 (fun I_2 R_2 J_2 H locs hp_2 hP hD hS _ _ => ?_)
    obtain ⟨hv_2, hj_2, hs_2⟩ := hp_2
    try dsimp only at hj_2
    subst J_2
    refine lv_aload_n hx hb dX11_night_14 rfl (lv_at hl 0 rfl) ?_
    refine lv_iconst (v := nI 5) hx hb dX11_night_15 (by decide +kernel) ?_
    refine lv_iconst (v := nI 0) hx hb dX11_night_16 (by decide +kernel) ?_
    refine lv_iconst (v := nI 0) hx hb dX11_night_17 (by decide +kernel) ?_
    refine lv_iconst (v := nI 0) hx hb dX11_night_18 (by decide +kernel) ?_
    refine z_callVi (k := 0) (As := [.int (nI 5), .int (nI 0), .int (nI 0), .int (nI 0)]) (rest := []) hx hb hml hown ht (mk_X11_keepAct_5 l D q cA F _ _ _ hv_2 (nI 0) (zR_w zk_0 (by decide)) (nI 0) (zR_w zk_0 (by decide)) (nI 0) (zR_w zk_0 (by decide))) hw_7_44 hmX11_keepAct ⟨rfl, rfl⟩ (na := 4) rfl (by decide +kernel) (by decide) (by decide) rfl rfl hK hP hD hS hA hl.1 rfl (Nat.le_of_ble_eq_true rfl) ⟨Nat.zero_le _, Nat.zero_le _⟩ dX11_night_19 (fun r_3 I_3 R_3 J_3 H locs hp_3 hP hD hS _ _ => ?_)
    rcases hp_3 with ⟨rfl, hu_3⟩ | ⟨rfl, hu_3⟩
    · obtain ⟨w_3, hv_3⟩ := hu_3
      refine lv_if_eq (tgt := 32) hx hb dX11_night_22 (by decide) (fun c_0 => absurd c_0 (zD_ne zk_1 zk_z (by decide))) (fun _ => ?_)
      refine lv_aload_n hx hb dX11_night_25 rfl (lv_at hl 0 rfl) ?_
      refine z_callVi (k := 0) (As := []) (rest := []) hx hb hml hown ht (mk_X11_night0 l D q cA (zr F 1 w_3) _ _ _ hv_3 ) hw_6_222 hmX11_night0 ⟨rfl, rfl⟩ (na := 0) rfl (by decide +kernel) (by decide) (by decide) rfl rfl hK hP hD hS hA hl.1 rfl (Nat.le_of_ble_eq_true rfl) ⟨Nat.zero_le _, Nat.zero_le _⟩ dX11_night_26 (fun r_4 I_4 R_4 J_4 H locs hp_4 hP hD hS _ _ => ?_)
      obtain ⟨hv_4, hj_4, hk26_4⟩ := hp_4
      try dsimp only at hj_4
      subst J_4
      refine lv_goto (tgt := 34) hx hb dX11_night_29 (by decide) ?_
      exact z_iret (v := r_4) hx hb hr hlocks hP hD hS dX11_night_34 ⟨_, hv_4⟩
    · cases hu_3
      refine lv_if_eq (tgt := 32) hx hb dX11_night_22 (by decide) (fun _ => ?_) (fun c_0 => absurd (zD_eq zk_0 zk_z) c_0)
      refine lv_bipush (v := (-5)) hx hb dX11_night_32 (by decide +kernel) ?_
      exact z_iret (v := (-5)) hx hb hr hlocks hP hD hS dX11_night_34 ⟨_, mInv_E hv_2⟩
  · cases hu_1
    refine lv_if_ne (tgt := 10) hx hb dX11_night_4 (by decide) (fun c_0 => absurd (zD_eq zk_0 zk_z) c_0) (fun _ => ?_)
    refine lv_bipush (v := (-2)) hx hb dX11_night_7 (by decide +kernel) ?_
    exact z_iret (v := (-2)) hx hb hr hlocks hP hD hS dX11_night_9 ⟨_, mInv_E hI⟩
set_option maxHeartbeats 4000000 in
set_option maxRecDepth 100000 in
theorem mk_X11_undo (l : Launch) (D : va_G) (q : Nat → Nat) (cA : Nat → ClassId) (F : Nat → Nat → Int32) (I R : Nat → Nat → Int32) (J : Nat → Nat → Int64) (hI : mInv F (I, R, J))  : zMi l D vwCl (zMtys cA) 25 q (zMd q cA) yX11_undo cX11_undo 1 (some .int) ({ frames := 1, cells := 0, slots := 0, locals := 20 } : Room) [.ref (q 0)] (I, R, J) (fun _ u => ∃ w9, mInv (zr F 1 w9) u) := by
  intro sz
  refine z_body (by decide +kernel) (Nat.le_of_ble_eq_true rfl) (fun p e s m below meth c ls hx hb hml hr ht hown hlocks hsz hK hP hD hS hl => ?_)
  have hA : ∀ a, s.heap.size ≤ a → zA 25 q sz a := fun a h => Or.inr (hsz ▸ h)
  have hl : lv_has ls 1 [(0, .ref (q 0))] := hl
  refine lv_aload_n hx hb dX11_undo_0 rfl (lv_at hl 0 rfl) ?_
  refine z_callVi (k := 0) (As := []) (rest := []) hx hb hml hown ht (mk_X11_isCity l D q cA F _ _ _ hI ) hw_7_75 hmX11_isCity ⟨rfl, rfl⟩ (na := 0) rfl (by decide +kernel) (by decide) (by decide) rfl rfl hK hP hD hS hA hl.1 rfl (Nat.le_of_ble_eq_true rfl) ⟨Nat.zero_le _, Nat.zero_le _⟩ dX11_undo_1 (fun r_1 I_1 R_1 J_1 H locs hp_1 hP hD hS _ _ => ?_)
  rcases hp_1 with ⟨rfl, hu_1⟩ | ⟨rfl, hu_1⟩
  · cases hu_1
    refine lv_if_ne (tgt := 10) hx hb dX11_undo_4 (by decide) (fun _ => ?_) (fun c_0 => absurd c_0 (zD_ne zk_1 zk_z (by decide)))
    refine lv_aload_n hx hb dX11_undo_10 rfl (lv_at hl 0 rfl) ?_
    refine z_get hx hb ht hown hK hP ziX11 rfl 0 (by decide) 1 (by decide) hw_5_188 rfl (v := .ref (q 1)) rfl dX11_undo_11 ?_
    refine lv_bipush (v := nI 6) hx hb dX11_undo_14 (by decide +kernel) ?_
    refine z_iald hx hb hK hP 1 (by decide) 0 rfl rfl (zR_vin zk_6 (by decide)) dX11_undo_16 ?_
    refine z_eqi (y := R 1 (nI 6).toNatClampNeg) rfl ?_
    have f_2 : zR 0 60 (R 1 (nI 6).toNatClampNeg) := mR hI 1 6
    refine lv_if_ne (tgt := 23) hx hb dX11_undo_17 (by decide) (fun c_3 => ?_) (fun c_3 => ?_)
    · have t_c_3 := z_eqF c_3
      have f_4 : zR 1 60 (R 1 (nI 6).toNatClampNeg) := zR_nex t_c_3 f_2 zk_z (by decide)
      refine lv_aload_n hx hb dX11_undo_23 rfl (lv_at hl 0 rfl) ?_
      refine z_get hx hb ht hown hK hP ziX11 rfl 0 (by decide) 1 (by decide) hw_5_188 rfl (v := .ref (q 1)) rfl dX11_undo_24 ?_
      refine lv_bipush (v := nI 6) hx hb dX11_undo_27 (by decide +kernel) ?_
      refine lv_dup2_11 hx hb dX11_undo_29 rfl rfl ?_
      refine z_iald hx hb hK hP 1 (by decide) 0 rfl rfl (zR_vin zk_6 (by decide)) dX11_undo_30 ?_
      refine z_eqi (y := R 1 (nI 6).toNatClampNeg) rfl ?_
      refine lv_iconst (v := nI 1) hx hb dX11_undo_31 (by decide +kernel) ?_
      refine lv_isub hx hb dX11_undo_32 ?_
      refine z_subc 0 59 (-1) f_4 zk_1 (by decide) (fun v_5 hv_5 mv_5 => ?_)
      refine z_iast hx hb hK hP hD hS 1 (by decide) 0 (fun _ => rfl) rfl (zR_vin zk_6 (by decide)) dX11_undo_33 (fun H locs hP hD hS => ?_)
      have hI_6 := mInv_wd hI (v_5) (zR_w hv_5 (a' := 0) (b' := 59) (by decide)).1 (m_less mv_5)
      refine lv_aload_n hx hb dX11_undo_34 rfl (lv_at hl 0 rfl) ?_
      refine z_get hx hb ht hown hK hP ziX11 rfl 0 (by decide) 1 (by decide) hw_5_188 rfl (v := .ref (q 1)) rfl dX11_undo_35 ?_
      refine lv_bipush (v := nI 6) hx hb dX11_undo_38 (by decide +kernel) ?_
      refine z_iald hx hb hK hP 1 (by decide) 0 rfl rfl (zR_vin zk_6 (by decide)) dX11_undo_40 ?_
      refine z_any (fun v_7 => ?_)
      exact z_iret (v := v_7) hx hb hr hlocks hP hD hS dX11_undo_41 ⟨_, hI_6⟩
    · have t_c_3 := z_eqT c_3
      have f_8 : zR 0 0 (R 1 (nI 6).toNatClampNeg) := zR_eqx t_c_3 zk_z
      refine lv_bipush (v := (-5)) hx hb dX11_undo_20 (by decide +kernel) ?_
      exact z_iret (v := (-5)) hx hb hr hlocks hP hD hS dX11_undo_22 ⟨_, mInv_E hI⟩
  · cases hu_1
    refine lv_if_ne (tgt := 10) hx hb dX11_undo_4 (by decide) (fun c_0 => absurd (zD_eq zk_0 zk_z) c_0) (fun _ => ?_)
    refine lv_bipush (v := (-2)) hx hb dX11_undo_7 (by decide +kernel) ?_
    exact z_iret (v := (-2)) hx hb hr hlocks hP hD hS dX11_undo_9 ⟨_, mInv_E hI⟩
set_option maxHeartbeats 4000000 in
set_option maxRecDepth 100000 in
theorem mk_X11_anew (l : Launch) (D : va_G) (q : Nat → Nat) (cA : Nat → ClassId) (F : Nat → Nat → Int32) (I R : Nat → Nat → Int32) (J : Nat → Nat → Int64) (hI : mInv F (I, R, J))  : zMi l D vwCl (zMtys cA) 25 q (zMd q cA) yX11_anew cX11_anew 2 (some .int) ({ frames := 1, cells := 0, slots := 0, locals := 20 } : Room) [.ref (q 0)] (I, R, J) (fun r u => zR (-2) 60 r ∧ ∃ w9, mInv (zr F 1 w9) u) := by
  intro sz
  refine z_body (by decide +kernel) (Nat.le_of_ble_eq_true rfl) (fun p e s m below meth c ls hx hb hml hr ht hown hlocks hsz hK hP hD hS hl => ?_)
  have hA : ∀ a, s.heap.size ≤ a → zA 25 q sz a := fun a h => Or.inr (hsz ▸ h)
  have hl : lv_has ls 2 [(0, .ref (q 0))] := hl
  refine lv_aload_n hx hb dX11_anew_0 rfl (lv_at hl 0 rfl) ?_
  refine z_callVi (k := 0) (As := []) (rest := []) hx hb hml hown ht (mk_X11_isCity l D q cA F _ _ _ hI ) hw_7_75 hmX11_isCity ⟨rfl, rfl⟩ (na := 0) rfl (by decide +kernel) (by decide) (by decide) rfl rfl hK hP hD hS hA hl.1 rfl (Nat.le_of_ble_eq_true rfl) ⟨Nat.zero_le _, Nat.zero_le _⟩ dX11_anew_1 (fun r_1 I_1 R_1 J_1 H locs hp_1 hP hD hS _ _ => ?_)
  rcases hp_1 with ⟨rfl, hu_1⟩ | ⟨rfl, hu_1⟩
  · cases hu_1
    refine lv_if_ne (tgt := 10) hx hb dX11_anew_4 (by decide) (fun _ => ?_) (fun c_0 => absurd c_0 (zD_ne zk_1 zk_z (by decide)))
    refine lv_aload_n hx hb dX11_anew_10 rfl (lv_at hl 0 rfl) ?_
    refine z_get hx hb ht hown hK hP ziX11 rfl 0 (by decide) 1 (by decide) hw_5_188 rfl (v := .ref (q 1)) rfl dX11_anew_11 ?_
    refine lv_bipush (v := nI 6) hx hb dX11_anew_14 (by decide +kernel) ?_
    refine z_iald hx hb hK hP 1 (by decide) 0 rfl rfl (zR_vin zk_6 (by decide)) dX11_anew_16 ?_
    refine z_eqi (y := R 1 (nI 6).toNatClampNeg) rfl ?_
    have f_2 : zR 0 60 (R 1 (nI 6).toNatClampNeg) := mR hI 1 6
    refine lv_istore_n (lv' := [(1, .int (R 1 (nI 6).toNatClampNeg)), (0, .ref (q 0))]) hx hb dX11_anew_17 rfl hl (by decide) rfl (fun ls hl => ?_)
    refine lv_aload_n hx hb dX11_anew_18 rfl (lv_at hl 1 rfl) ?_
    refine z_get hx hb ht hown hK hP ziX11 rfl 0 (by decide) 1 (by decide) hw_5_188 rfl (v := .ref (q 1)) rfl dX11_anew_19 ?_
    refine lv_bipush (v := nI 6) hx hb dX11_anew_22 (by decide +kernel) ?_
    refine lv_iconst (v := nI 0) hx hb dX11_anew_24 (by decide +kernel) ?_
    refine z_iast hx hb hK hP hD hS 1 (by decide) 0 (fun _ => rfl) rfl (zR_vin zk_6 (by decide)) dX11_anew_25 (fun H locs hP hD hS => ?_)
    have hI_3 := mInv_wd hI (nI 0) (by decide +kernel) (m_le0 (mR hI 1 6))
    refine lv_iload_n hx hb dX11_anew_26 rfl (lv_at hl 0 rfl) ?_
    exact z_iret (v := R 1 (nI 6).toNatClampNeg) hx hb hr hlocks hP hD hS dX11_anew_27 ⟨(zR_w f_2 (by decide)), ⟨_, hI_3⟩⟩
  · cases hu_1
    refine lv_if_ne (tgt := 10) hx hb dX11_anew_4 (by decide) (fun c_0 => absurd (zD_eq zk_0 zk_z) c_0) (fun _ => ?_)
    refine lv_bipush (v := (-2)) hx hb dX11_anew_7 (by decide +kernel) ?_
    exact z_iret (v := (-2)) hx hb hr hlocks hP hD hS dX11_anew_9 ⟨(zR_w zk_m2 (by decide)), ⟨_, mInv_E hI⟩⟩
set_option maxHeartbeats 4000000 in
set_option maxRecDepth 100000 in
theorem mk_X11_now (l : Launch) (D : va_G) (q : Nat → Nat) (cA : Nat → ClassId) (F : Nat → Nat → Int32) (I R : Nat → Nat → Int32) (J : Nat → Nat → Int64) (hI : mInv F (I, R, J)) (pa0 : Int32) : zMi l D vwCl (zMtys cA) 25 q (zMd q cA) yX11_now cX11_now 4 (some .int) ({ frames := 6, cells := 0, slots := 0, locals := 155 } : Room) [.ref (q 0), .int (pa0)] (I, R, J) (fun _ u => (mInv F u ∧ u.2.2 = J)) := by
  intro sz
  refine z_body (by decide +kernel) (Nat.le_of_ble_eq_true rfl) (fun p e s m below meth c ls hx hb hml hr ht hown hlocks hsz hK hP hD hS hl => ?_)
  have hA : ∀ a, s.heap.size ≤ a → zA 25 q sz a := fun a h => Or.inr (hsz ▸ h)
  have hl : lv_has ls 4 [(0, .ref (q 0)), (1, .int (pa0))] := hl
  refine lv_aload_n hx hb dX11_now_0 rfl (lv_at hl 0 rfl) ?_
  refine z_callVi (k := 0) (As := []) (rest := []) hx hb hml hown ht (mk_X11_isCity l D q cA F _ _ _ hI ) hw_7_75 hmX11_isCity ⟨rfl, rfl⟩ (na := 0) rfl (by decide +kernel) (by decide) (by decide) rfl rfl hK hP hD hS hA hl.1 rfl (Nat.le_of_ble_eq_true rfl) ⟨Nat.zero_le _, Nat.zero_le _⟩ dX11_now_1 (fun r_1 I_1 R_1 J_1 H locs hp_1 hP hD hS _ _ => ?_)
  rcases hp_1 with ⟨rfl, hu_1⟩ | ⟨rfl, hu_1⟩
  · cases hu_1
    refine lv_if_eq (tgt := 19) hx hb dX11_now_4 (by decide) (fun c_0 => absurd c_0 (zD_ne zk_1 zk_z (by decide))) (fun _ => ?_)
    refine lv_iload_n hx hb dX11_now_7 rfl (lv_at hl 1 rfl) ?_
    refine lv_i2l (v := (pa0).toInt64) hx hb dX11_now_8 rfl ?_
    refine lv_lconst (v := (0 : Int64)) hx hb dX11_now_9 (by decide +kernel) ?_
    refine lv_ldc2 (v := (3 : Int64)) hx hb hown (ht _ hw_7_91) dX11_now_10 ?_
    refine z_callSi (As := [.long ((pa0).toInt64), .long ((0 : Int64)), .long ((3 : Int64))]) (rest := []) hx hb hml hown ht (mk_X11_in l D q cA F _ _ _ hI ((pa0).toInt64) ((0 : Int64)) ((3 : Int64))) hw_6_86 hmX11_in ⟨rfl, rfl⟩ (na := 3) rfl (by decide +kernel) (by decide) hK hP hD hS hA hl.1 rfl (Nat.le_of_ble_eq_true rfl) ⟨Nat.zero_le _, Nat.zero_le _⟩ dX11_now_13 (fun r_2 I_2 R_2 J_2 H locs hp_2 hP hD hS _ _ => ?_)
    rcases hp_2 with ⟨rfl, hu_2, h1_2, h2_2⟩ | ⟨rfl, hu_2, h1_2 | h2_2⟩
    · cases hu_2
      have f_3 : zL 0 2147483647 ((pa0).toInt64) := zL_ley h1_2 zkl_0 (zR_i2l (zR_any (pa0))) (by decide)
      have f_4 : zR 0 2147483647 (pa0) := zL_back f_3
      have f_5 : zL 0 3 ((pa0).toInt64) := zL_lex h2_2 f_3 zkl_3 (by decide)
      have f_6 : zR 0 3 (pa0) := zL_back f_5
      refine lv_if_ne (tgt := 22) hx hb dX11_now_16 (by decide) (fun _ => ?_) (fun c_0 => absurd c_0 (zD_ne zk_1 zk_z (by decide)))
      refine lv_aload_n hx hb dX11_now_22 rfl (lv_at hl 0 rfl) ?_
      refine z_callVv (k := 0) (As := []) (rest := []) hx hb hml hown ht (mk_X11_asItIs l D q cA F _ _ _ hI ) hw_6_181 hmX11_asItIs ⟨rfl, rfl⟩ (na := 0) rfl (by decide +kernel) (by decide) (by decide) rfl rfl hK hP hD hS hA hl.1 rfl (Nat.le_of_ble_eq_true rfl) ⟨Nat.zero_le _, Nat.zero_le _⟩ dX11_now_23 (fun I_7 R_7 J_7 H locs hp_7 hP hD hS _ _ => ?_)
      obtain ⟨hv_7, hj_7, hs_7⟩ := hp_7
      try dsimp only at hj_7
      subst J_7
      refine lv_iload_n hx hb dX11_now_26 rfl (lv_at hl 1 rfl) ?_
      refine lv_if_ne (tgt := 35) hx hb dX11_now_27 (by decide) (fun c_8 => ?_) (fun c_8 => ?_)
      · have t_c_8 := z_eqF c_8
        have f_9 : zR 1 3 (pa0) := zR_nex t_c_8 f_6 zk_z (by decide)
        refine lv_iload_n hx hb dX11_now_35 rfl (lv_at hl 1 rfl) ?_
        refine lv_iconst (v := nI 1) hx hb dX11_now_36 (by decide +kernel) ?_
        refine lv_icmp_ne (tgt := 45) hx hb dX11_now_37 (by decide) (fun c_10 => ?_) (fun c_10 => ?_)
        · have t_c_10 := z_eqF c_10
          have f_11 : zR 2 3 (pa0) := zR_nex t_c_10 f_9 zk_1 (by decide)
          refine lv_iconst (v := nI 0) hx hb dX11_now_45 (by decide +kernel) ?_
          refine lv_istore_n (lv' := [(2, .int (nI 0)), (0, .ref (q 0)), (1, .int (pa0))]) hx hb dX11_now_46 rfl hl (by decide) rfl (fun ls hl => ?_)
          refine lv_iconst (v := nI 0) hx hb dX11_now_47 (by decide +kernel) ?_
          refine lv_istore_n (lv' := [(3, .int (nI 0)), (2, .int (nI 0)), (0, .ref (q 0)), (1, .int (pa0))]) hx hb dX11_now_48 rfl hl (by decide) rfl (fun ls hl => ?_)
          have t_165 : ∀ x_163 : Int32, ∀ x_164 : Int32, zR 0 24 x_164 → ∀ (H : Heap) (locs : List Loc), va_P D vwCl (zw 25 q (zMd q cA) I_7 R_7 J) H → va_D (zA 25 q sz) (zw 25 q (zMd q cA) I_7 R_7 J) → va_S (zA 25 q sz) s.heap H locs → ∀ ls : Array Slot, lv_has ls 4 [(0, .ref (q 0)), (1, .int (pa0)), (2, .int (x_163)), (3, .int (x_164))] → W p l e ({ frames := 6, cells := 0, slots := 0, locals := 155 } : Room) s m ([.ref (q 0), .int (pa0)] : List Value).toArray below meth c H locs 0 0 (MQ below (va_Qi (fun _ u => (mInv F u ∧ u.2.2 = J)) (zB D vwCl 25 q (zMd q cA) sz) (zA 25 q sz)) ([.ref (q 0), .int (pa0)] : List Value).toArray s 0 0 (zA 25 q sz)) (F0 m 86 ls []) := by
            intro x_163 x_164 hx_164 H locs hP hD hS ls hl
            refine lv_iconst (v := nI 0) hx hb dX11_now_86 (by decide +kernel) ?_
            refine lv_istore_n (lv' := [(3, .int (nI 0)), (0, .ref (q 0)), (1, .int (pa0)), (2, .int (x_163))]) hx hb dX11_now_87 rfl hl (by decide) rfl (fun ls hl => ?_)
            have t_209 : ∀ x_207 : Int32, ∀ x_208 : Int32, zR 0 5 x_208 → ∀ (H : Heap) (locs : List Loc), va_P D vwCl (zw 25 q (zMd q cA) I_7 R_7 J) H → va_D (zA 25 q sz) (zw 25 q (zMd q cA) I_7 R_7 J) → va_S (zA 25 q sz) s.heap H locs → ∀ ls : Array Slot, lv_has ls 4 [(0, .ref (q 0)), (1, .int (pa0)), (2, .int (x_207)), (3, .int (x_208))] → W p l e ({ frames := 6, cells := 0, slots := 0, locals := 155 } : Room) s m ([.ref (q 0), .int (pa0)] : List Value).toArray below meth c H locs 0 0 (MQ below (va_Qi (fun _ u => (mInv F u ∧ u.2.2 = J)) (zB D vwCl 25 q (zMd q cA) sz) (zA 25 q sz)) ([.ref (q 0), .int (pa0)] : List Value).toArray s 0 0 (zA 25 q sz)) (F0 m 118 ls []) := by
              intro x_207 x_208 hx_208 H locs hP hD hS ls hl
              refine lv_iload_n hx hb dX11_now_118 rfl (lv_at hl 2 rfl) ?_
              exact z_iret (v := x_207) hx hb hr hlocks hP hD hS dX11_now_119 ⟨hv_7, rfl⟩
            have loop_212 : ∀ N : Nat, ∀ x_210 : Int32, ∀ x_211 : Int32, zR 0 5 x_211 → (2147483648 - (x_211).toInt).toNat < N → ∀ (H : Heap) (locs : List Loc), va_P D vwCl (zw 25 q (zMd q cA) I_7 R_7 J) H → va_D (zA 25 q sz) (zw 25 q (zMd q cA) I_7 R_7 J) → va_S (zA 25 q sz) s.heap H locs → ∀ ls : Array Slot, lv_has ls 4 [(0, .ref (q 0)), (1, .int (pa0)), (2, .int (x_210)), (3, .int (x_211))] → W p l e ({ frames := 6, cells := 0, slots := 0, locals := 155 } : Room) s m ([.ref (q 0), .int (pa0)] : List Value).toArray below meth c H locs 0 0 (MQ below (va_Qi (fun _ u => (mInv F u ∧ u.2.2 = J)) (zB D vwCl 25 q (zMd q cA) sz) (zA 25 q sz)) ([.ref (q 0), .int (pa0)] : List Value).toArray s 0 0 (zA 25 q sz)) (F0 m 88 ls []) := by
              intro N
              induction N with
              | zero => intro x_210 x_211 hx_211 hN; exact absurd hN (Nat.not_lt_zero _)
              | succ N ih_214 =>
                intro x_210 x_211 hx_211 hN_213 H locs hP hD hS ls hl
                refine lv_iload_n hx hb dX11_now_88 rfl (lv_at hl 3 rfl) ?_
                refine lv_aload_n hx hb dX11_now_89 rfl (lv_at hl 0 rfl) ?_
                refine z_get hx hb ht hown hK hP ziX11 rfl 0 (by decide) 1 (by decide) hw_5_188 rfl (v := .ref (q 1)) rfl dX11_now_90 ?_
                refine lv_iconst (v := nI 3) hx hb dX11_now_93 (by decide +kernel) ?_
                refine z_iald hx hb hK hP 1 (by decide) 0 rfl rfl (zR_vin zk_3 (by decide)) dX11_now_94 ?_
                refine z_eqi (y := R_7 1 (nI 3).toNatClampNeg) rfl ?_
                have f_215 : zR 0 5 (R_7 1 (nI 3).toNatClampNeg) := mR hv_7 1 3
                refine lv_icmp_ge (tgt := 118) hx hb dX11_now_95 (by decide) (fun c_216 => ?_) (fun c_216 => ?_)
                · have t_c_216 := z_leT c_216
                  exact t_209 (x_210) (x_211) hx_211 _ _ hP hD hS _ (lv_sub hl [0, 1, 2, 3] rfl)
                · have t_c_216 := z_leF c_216
                  have f_217 : zR 0 4 (x_211) := zR_ltx t_c_216 hx_211 f_215 (by decide)
                  have f_218 : zR 1 5 (R_7 1 (nI 3).toNatClampNeg) := zR_lty t_c_216 hx_211 f_215 (by decide)
                  refine lv_iload_n hx hb dX11_now_98 rfl (lv_at hl 1 rfl) ?_
                  refine lv_iconst (v := nI 3) hx hb dX11_now_99 (by decide +kernel) ?_
                  refine lv_icmp_ne (tgt := 118) hx hb dX11_now_100 (by decide) (fun c_219 => ?_) (fun c_219 => ?_)
                  · have t_c_219 := z_eqF c_219
                    have f_220 : zR 2 2 (pa0) := zR_nex t_c_219 f_11 zk_3 (by decide)
                    exact t_209 (x_210) (x_211) (zR_w f_217 (by decide)) _ _ hP hD hS _ (lv_sub hl [0, 1, 2, 3] rfl)
                  · have t_c_219 := z_eqT c_219
                    have f_221 : zR 3 3 (pa0) := zR_eqx t_c_219 zk_3
                    refine lv_iload_n hx hb dX11_now_103 rfl (lv_at hl 2 rfl) ?_
                    refine lv_aload_n hx hb dX11_now_104 rfl (lv_at hl 0 rfl) ?_
                    refine z_get hx hb ht hown hK hP ziX11 rfl 0 (by decide) 15 (by decide) hw_5_202 rfl (v := .ref (q 7)) rfl dX11_now_105 ?_
                    refine lv_iload_n hx hb dX11_now_108 rfl (lv_at hl 3 rfl) ?_
                    refine z_iald hx hb hK hP 7 (by decide) 6 rfl rfl (zR_vin f_217 (by decide)) dX11_now_109 ?_
                    refine z_eqi (y := R_7 7 (x_211).toNatClampNeg) rfl ?_
                    refine lv_iadd hx hb dX11_now_110 ?_
                    refine z_any (fun v_222 => ?_)
                    refine lv_istore_n (lv' := [(2, .int (v_222)), (0, .ref (q 0)), (1, .int (pa0)), (3, .int (x_211))]) hx hb dX11_now_111 rfl hl (by decide) rfl (fun ls hl => ?_)
                    obtain ⟨v_223, ev_223⟩ : ∃ y : Int32, y = x_211 + nI 1 := ⟨_, rfl⟩
                    have hv_223 : zR 1 5 v_223 := ev_223 ▸ zR_add f_217 zk_1 (by decide)
                    have mv_223 : v_223.toInt = (x_211).toInt + 1 := by rw [ev_223, zR_addE f_217 zk_1 (by decide)]; rfl
                    refine lv_iinc (v := v_223) (lv' := [(3, .int (v_223)), (2, .int (v_222)), (0, .ref (q 0)), (1, .int (pa0))]) hx hb dX11_now_112 hl (k := 3) rfl (ev_223 ▸ rfl) (by decide) rfl (fun ls hl => ?_)
                    refine lv_goto (tgt := 88) hx hb dX11_now_115 (by decide) ?_
                    exact ih_214 (v_222) (v_223) (zR_w hv_223 (by decide)) (z2_up mv_223 (by decide) hN_213) _ _ hP hD hS _ (lv_sub hl [2, 3, 1, 0] rfl)
            exact loop_212 _ (x_163) (nI 0) (zR_w zk_0 (by decide)) (Nat.lt_succ_self _) _ _ hP hD hS _ (lv_sub hl [1, 2, 3, 0] rfl)
          have loop_226 : ∀ N : Nat, ∀ x_224 : Int32, ∀ x_225 : Int32, zR 0 24 x_225 → (2147483648 - (x_225).toInt).toNat < N → ∀ (H : Heap) (locs : List Loc), va_P D vwCl (zw 25 q (zMd q cA) I_7 R_7 J) H → va_D (zA 25 q sz) (zw 25 q (zMd q cA) I_7 R_7 J) → va_S (zA 25 q sz) s.heap H locs → ∀ ls : Array Slot, lv_has ls 4 [(0, .ref (q 0)), (1, .int (pa0)), (2, .int (x_224)), (3, .int (x_225))] → W p l e ({ frames := 6, cells := 0, slots := 0, locals := 155 } : Room) s m ([.ref (q 0), .int (pa0)] : List Value).toArray below meth c H locs 0 0 (MQ below (va_Qi (fun _ u => (mInv F u ∧ u.2.2 = J)) (zB D vwCl 25 q (zMd q cA) sz) (zA 25 q sz)) ([.ref (q 0), .int (pa0)] : List Value).toArray s 0 0 (zA 25 q sz)) (F0 m 49 ls []) := by
            intro N
            induction N with
            | zero => intro x_224 x_225 hx_225 hN; exact absurd hN (Nat.not_lt_zero _)
            | succ N ih_228 =>
              intro x_224 x_225 hx_225 hN_227 H locs hP hD hS ls hl
              refine lv_iload_n hx hb dX11_now_49 rfl (lv_at hl 3 rfl) ?_
              refine lv_aload_n hx hb dX11_now_50 rfl (lv_at hl 0 rfl) ?_
              refine z_get hx hb ht hown hK hP ziX11 rfl 0 (by decide) 26 (by decide) hw_5_213 rfl (v := .int (I_7 0 26)) rfl dX11_now_51 ?_
              have f_229 : zR 0 24 (I_7 0 26) := mI hv_7 0 26
              refine lv_icmp_ge (tgt := 86) hx hb dX11_now_54 (by decide) (fun c_230 => ?_) (fun c_230 => ?_)
              · have t_c_230 := z_leT c_230
                exact t_165 (x_224) (x_225) hx_225 _ _ hP hD hS _ (lv_sub hl [0, 1, 2, 3] rfl)
              · have t_c_230 := z_leF c_230
                have f_231 : zR 0 23 (x_225) := zR_ltx t_c_230 hx_225 f_229 (by decide)
                have f_232 : zR 1 24 (I_7 0 26) := zR_lty t_c_230 hx_225 f_229 (by decide)
                refine lv_iload_n hx hb dX11_now_57 rfl (lv_at hl 1 rfl) ?_
                refine lv_iconst (v := nI 2) hx hb dX11_now_58 (by decide +kernel) ?_
                refine lv_icmp_ne (tgt := 86) hx hb dX11_now_59 (by decide) (fun c_233 => ?_) (fun c_233 => ?_)
                · have t_c_233 := z_eqF c_233
                  have f_234 : zR 3 3 (pa0) := zR_nex t_c_233 f_11 zk_2 (by decide)
                  exact t_165 (x_224) (x_225) (zR_w f_231 (by decide)) _ _ hP hD hS _ (lv_sub hl [0, 1, 2, 3] rfl)
                · have t_c_233 := z_eqT c_233
                  have f_235 : zR 2 2 (pa0) := zR_eqx t_c_233 zk_2
                  refine lv_iload_n hx hb dX11_now_62 rfl (lv_at hl 2 rfl) ?_
                  refine lv_aload_n hx hb dX11_now_63 rfl (lv_at hl 0 rfl) ?_
                  refine z_get hx hb ht hown hK hP ziX11 rfl 0 (by decide) 22 (by decide) hw_5_209 rfl (v := .ref (q 14)) rfl dX11_now_64 ?_
                  refine lv_iload_n hx hb dX11_now_67 rfl (lv_at hl 3 rfl) ?_
                  refine z_iald hx hb hK hP 14 (by decide) 13 rfl rfl (zR_vin f_231 (by decide)) dX11_now_68 ?_
                  refine z_eqi (y := R_7 14 (x_225).toNatClampNeg) rfl ?_
                  refine lv_iconst (v := nI 3) hx hb dX11_now_69 (by decide +kernel) ?_
                  have t_239 : ∀ x_238 : Int32, zR 0 1 x_238 → ∀ (H : Heap) (locs : List Loc), va_P D vwCl (zw 25 q (zMd q cA) I_7 R_7 J) H → va_D (zA 25 q sz) (zw 25 q (zMd q cA) I_7 R_7 J) → va_S (zA 25 q sz) s.heap H locs → ∀ ls : Array Slot, lv_has ls 4 [(0, .ref (q 0)), (1, .int (pa0)), (2, .int (x_224)), (3, .int (x_225))] → W p l e ({ frames := 6, cells := 0, slots := 0, locals := 155 } : Room) s m ([.ref (q 0), .int (pa0)] : List Value).toArray below meth c H locs 0 0 (MQ below (va_Qi (fun _ u => (mInv F u ∧ u.2.2 = J)) (zB D vwCl 25 q (zMd q cA) sz) (zA 25 q sz)) ([.ref (q 0), .int (pa0)] : List Value).toArray s 0 0 (zA 25 q sz)) (F0 m 78 ls [.int (x_238), .int (x_224)]) := by
                    intro x_238 hx_238 H locs hP hD hS ls hl
                    refine lv_iadd hx hb dX11_now_78 ?_
                    refine z_any (fun v_240 => ?_)
                    refine lv_istore_n (lv' := [(2, .int (v_240)), (0, .ref (q 0)), (1, .int (pa0)), (3, .int (x_225))]) hx hb dX11_now_79 rfl hl (by decide) rfl (fun ls hl => ?_)
                    obtain ⟨v_241, ev_241⟩ : ∃ y : Int32, y = x_225 + nI 1 := ⟨_, rfl⟩
                    have hv_241 : zR 1 24 v_241 := ev_241 ▸ zR_add f_231 zk_1 (by decide)
                    have mv_241 : v_241.toInt = (x_225).toInt + 1 := by rw [ev_241, zR_addE f_231 zk_1 (by decide)]; rfl
                    refine lv_iinc (v := v_241) (lv' := [(3, .int (v_241)), (2, .int (v_240)), (0, .ref (q 0)), (1, .int (pa0))]) hx hb dX11_now_80 hl (k := 3) rfl (ev_241 ▸ rfl) (by decide) rfl (fun ls hl => ?_)
                    refine lv_goto (tgt := 49) hx hb dX11_now_83 (by decide) ?_
                    exact ih_228 (v_240) (v_241) (zR_w hv_241 (by decide)) (z2_up mv_241 (by decide) hN_227) _ _ hP hD hS _ (lv_sub hl [2, 3, 1, 0] rfl)
                  refine lv_icmp_ne (tgt := 77) hx hb dX11_now_70 (by decide) (fun c_236 => ?_) (fun c_236 => ?_)
                  · have t_c_236 := z_eqF c_236
                    refine lv_iconst (v := nI 0) hx hb dX11_now_77 (by decide +kernel) ?_
                    exact t_239 (nI 0) (zR_w zk_0 (by decide)) _ _ hP hD hS _ (lv_sub hl [0, 1, 2, 3] rfl)
                  · have t_c_236 := z_eqT c_236
                    have f_242 : zR 3 3 (R_7 14 (x_225).toNatClampNeg) := zR_eqx t_c_236 zk_3
                    refine lv_iconst (v := nI 1) hx hb dX11_now_73 (by decide +kernel) ?_
                    refine lv_goto (tgt := 78) hx hb dX11_now_74 (by decide) ?_
                    exact t_239 (nI 1) (zR_w zk_1 (by decide)) _ _ hP hD hS _ (lv_sub hl [0, 1, 2, 3] rfl)
          exact loop_226 _ (nI 0) (nI 0) (zR_w zk_0 (by decide)) (Nat.lt_succ_self _) _ _ hP hD hS _ (lv_sub hl [2, 3, 1, 0] rfl)
        · have t_c_10 := z_eqT c_10
          have f_243 : zR 1 1 (pa0) := zR_eqx t_c_10 zk_1
          refine lv_aload_n hx hb dX11_now_40 rfl (lv_at hl 0 rfl) ?_
          refine z_callVi (k := 0) (As := []) (rest := []) hx hb hml hown ht (mk_X11_openSet l D q cA F _ _ _ hv_7 ) hw_7_60 hmX11_openSet ⟨rfl, rfl⟩ (na := 0) rfl (by decide +kernel) (by decide) (by decide) rfl rfl hK hP hD hS hA hl.1 rfl (Nat.le_of_ble_eq_true rfl) ⟨Nat.zero_le _, Nat.zero_le _⟩ dX11_now_41 (fun r_244 I_244 R_244 J_244 H locs hp_244 hP hD hS _ _ => ?_)
          obtain ⟨hr_244, hu_244⟩ := hp_244
          cases hu_244
          exact z_iret (v := r_244) hx hb hr hlocks hP hD hS dX11_now_44 ⟨hv_7, rfl⟩
      · have t_c_8 := z_eqT c_8
        have f_245 : zR 0 0 (pa0) := zR_eqx t_c_8 zk_z
        refine lv_aload_n hx hb dX11_now_30 rfl (lv_at hl 0 rfl) ?_
        refine z_get hx hb ht hown hK hP ziX11 rfl 0 (by decide) 27 (by decide) hw_5_214 rfl (v := .int (I_7 0 27)) rfl dX11_now_31 ?_
        exact z_iret (v := I_7 0 27) hx hb hr hlocks hP hD hS dX11_now_34 ⟨hv_7, rfl⟩
    · cases hu_2
      have f_246 : zL (-2147483648) (-1) ((pa0).toInt64) := zL_ltx h1_2 (zR_i2l (zR_any (pa0))) zkl_0 (by decide)
      have f_247 : zR (-2147483648) (-1) (pa0) := zL_back f_246
      refine lv_if_ne (tgt := 22) hx hb dX11_now_16 (by decide) (fun c_0 => absurd (zD_eq zk_0 zk_z) c_0) (fun _ => ?_)
      refine lv_bipush (v := (-2)) hx hb dX11_now_19 (by decide +kernel) ?_
      exact z_iret (v := (-2)) hx hb hr hlocks hP hD hS dX11_now_21 ⟨hI, rfl⟩
    · cases hu_2
      have f_248 : zL 4 2147483647 ((pa0).toInt64) := zL_lty h2_2 zkl_3 (zR_i2l (zR_any (pa0))) (by decide)
      have f_249 : zR 4 2147483647 (pa0) := zL_back f_248
      refine lv_if_ne (tgt := 22) hx hb dX11_now_16 (by decide) (fun c_0 => absurd (zD_eq zk_0 zk_z) c_0) (fun _ => ?_)
      refine lv_bipush (v := (-2)) hx hb dX11_now_19 (by decide +kernel) ?_
      exact z_iret (v := (-2)) hx hb hr hlocks hP hD hS dX11_now_21 ⟨hI, rfl⟩
  · cases hu_1
    refine lv_if_eq (tgt := 19) hx hb dX11_now_4 (by decide) (fun _ => ?_) (fun c_0 => absurd (zD_eq zk_0 zk_z) c_0)
    refine lv_bipush (v := (-2)) hx hb dX11_now_19 (by decide +kernel) ?_
    exact z_iret (v := (-2)) hx hb hr hlocks hP hD hS dX11_now_21 ⟨hI, rfl⟩
set_option maxHeartbeats 4000000 in
set_option maxRecDepth 100000 in
theorem mk_X11_wasInChain (l : Launch) (D : va_G) (q : Nat → Nat) (cA : Nat → ClassId) (F : Nat → Nat → Int32) (I R : Nat → Nat → Int32) (J : Nat → Nat → Int64) (hI : mInv F (I, R, J)) (pa0 : Int32) (hpa0 : zR 0 4 pa0) : zMi l D vwCl (zMtys cA) 25 q (zMd q cA) yX11_wasInChain cX11_wasInChain 3 (some .boolean) ({ frames := 0, cells := 0, slots := 0, locals := 0 } : Room) [.ref (q 0), .int (pa0)] (I, R, J) (fun r u => (r = nI 1 ∧ u = (I, R, J) ∧ True) ∨ (r = nI 0 ∧ u = (I, R, J) ∧ mNone (R 18) (I 0 31) pa0)) := by
  intro sz
  refine z_body (by decide +kernel) (Nat.le_of_ble_eq_true rfl) (fun p e s m below meth c ls hx hb hml hr ht hown hlocks hsz hK hP hD hS hl => ?_)
  have hA : ∀ a, s.heap.size ≤ a → zA 25 q sz a := fun a h => Or.inr (hsz ▸ h)
  have hl : lv_has ls 3 [(0, .ref (q 0)), (1, .int (pa0))] := hl
  refine lv_iconst (v := nI 0) hx hb dX11_wasInChain_0 (by decide +kernel) ?_
  refine lv_istore_n (lv' := [(2, .int (nI 0)), (0, .ref (q 0)), (1, .int (pa0))]) hx hb dX11_wasInChain_1 rfl hl (by decide) rfl (fun ls hl => ?_)
  have loop_37 : ∀ N : Nat, ∀ x_35 : Int32, zR 0 5 x_35 → (mNone (R 18) (x_35) pa0) → (2147483648 - (x_35).toInt).toNat < N → ∀ (H : Heap) (locs : List Loc), va_P D vwCl (zw 25 q (zMd q cA) I R J) H → va_D (zA 25 q sz) (zw 25 q (zMd q cA) I R J) → va_S (zA 25 q sz) s.heap H locs → ∀ ls : Array Slot, lv_has ls 3 [(0, .ref (q 0)), (1, .int (pa0)), (2, .int (x_35))] → W p l e ({ frames := 0, cells := 0, slots := 0, locals := 0 } : Room) s m ([.ref (q 0), .int (pa0)] : List Value).toArray below meth c H locs 0 0 (MQ below (va_Qi (fun r u => (r = nI 1 ∧ u = (I, R, J) ∧ True) ∨ (r = nI 0 ∧ u = (I, R, J) ∧ mNone (R 18) (I 0 31) pa0)) (zB D vwCl 25 q (zMd q cA) sz) (zA 25 q sz)) ([.ref (q 0), .int (pa0)] : List Value).toArray s 0 0 (zA 25 q sz)) (F0 m 2 ls []) := by
    intro N
    induction N with
    | zero => intro x_35 hx_35 hx_36 hN; exact absurd hN (Nat.not_lt_zero _)
    | succ N ih_39 =>
      intro x_35 hx_35 hx_36 hN_38 H locs hP hD hS ls hl
      refine lv_iload_n hx hb dX11_wasInChain_2 rfl (lv_at hl 2 rfl) ?_
      refine lv_aload_n hx hb dX11_wasInChain_3 rfl (lv_at hl 0 rfl) ?_
      refine z_get hx hb ht hown hK hP ziX11 rfl 0 (by decide) 31 (by decide) hw_5_218 rfl (v := .int (I 0 31)) rfl dX11_wasInChain_4 ?_
      have f_40 : zR 0 5 (I 0 31) := mI hI 0 31
      refine lv_icmp_ge (tgt := 28) hx hb dX11_wasInChain_7 (by decide) (fun c_41 => ?_) (fun c_41 => ?_)
      · have t_c_41 := z_leT c_41
        refine lv_iconst (v := nI 0) hx hb dX11_wasInChain_28 (by decide +kernel) ?_
        exact z_zret (v := nI 0) hx hb hr hlocks hP hD hS (by decide +kernel) dX11_wasInChain_29 (Or.inr ⟨rfl, rfl, mNone_end hx_36 t_c_41⟩)
      · have t_c_41 := z_leF c_41
        have f_42 : zR 0 4 (x_35) := zR_ltx t_c_41 hx_35 f_40 (by decide)
        have f_43 : zR 1 5 (I 0 31) := zR_lty t_c_41 hx_35 f_40 (by decide)
        refine lv_aload_n hx hb dX11_wasInChain_10 rfl (lv_at hl 0 rfl) ?_
        refine z_get hx hb ht hown hK hP ziX11 rfl 0 (by decide) 30 (by decide) hw_5_217 rfl (v := .ref (q 18)) rfl dX11_wasInChain_11 ?_
        refine lv_iload_n hx hb dX11_wasInChain_14 rfl (lv_at hl 2 rfl) ?_
        refine z_iald hx hb hK hP 18 (by decide) 17 rfl rfl (zR_vin f_42 (by decide)) dX11_wasInChain_15 ?_
        refine z_eqi (y := R 18 (x_35).toNatClampNeg) rfl ?_
        have f_44 : zR 0 4 (R 18 (x_35).toNatClampNeg) := mR hI 18 (x_35).toNatClampNeg
        refine lv_iload_n hx hb dX11_wasInChain_16 rfl (lv_at hl 1 rfl) ?_
        refine lv_icmp_ne (tgt := 22) hx hb dX11_wasInChain_17 (by decide) (fun c_45 => ?_) (fun c_45 => ?_)
        · have t_c_45 := z_eqF c_45
          obtain ⟨v_46, ev_46⟩ : ∃ y : Int32, y = x_35 + nI 1 := ⟨_, rfl⟩
          have hv_46 : zR 1 5 v_46 := ev_46 ▸ zR_add f_42 zk_1 (by decide)
          have mv_46 : v_46.toInt = (x_35).toInt + 1 := by rw [ev_46, zR_addE f_42 zk_1 (by decide)]; rfl
          refine lv_iinc (v := v_46) (lv' := [(2, .int (v_46)), (0, .ref (q 0)), (1, .int (pa0))]) hx hb dX11_wasInChain_22 hl (k := 2) rfl (ev_46 ▸ rfl) (by decide) rfl (fun ls hl => ?_)
          refine lv_goto (tgt := 2) hx hb dX11_wasInChain_25 (by decide) ?_
          exact ih_39 (v_46) (zR_w hv_46 (by decide)) (mNone_s hx_36 mv_46 t_c_45) (z2_up mv_46 (by decide) hN_38) _ _ hP hD hS _ (lv_sub hl [1, 2, 0] rfl)
        · have t_c_45 := z_eqT c_45
          refine lv_iconst (v := nI 1) hx hb dX11_wasInChain_20 (by decide +kernel) ?_
          exact z_zret (v := nI 1) hx hb hr hlocks hP hD hS (by decide +kernel) dX11_wasInChain_21 (Or.inl ⟨rfl, rfl, trivial⟩)
  exact loop_37 _ (nI 0) (zR_w zk_0 (by decide)) mNone_0 (Nat.lt_succ_self _) _ _ hP hD hS _ (lv_sub hl [1, 2, 0] rfl)
set_option maxHeartbeats 4000000 in
set_option maxRecDepth 100000 in
theorem mk_X11_leadsTo (l : Launch) (D : va_G) (q : Nat → Nat) (cA : Nat → ClassId) (F : Nat → Nat → Int32) (I R : Nat → Nat → Int32) (J : Nat → Nat → Int64) (hI : mInv F (I, R, J)) (pa0 : Int32) (hpa0 : zR 0 4 pa0) (pa1 : Int32) (hpa1 : zR 0 5 pa1) : zMi l D vwCl (zMtys cA) 25 q (zMd q cA) yX11_leadsTo cX11_leadsTo 4 (some .int) ({ frames := 1, cells := 0, slots := 0, locals := 21 } : Room) [.ref (q 0), .int (pa0), .int (pa1)] (I, R, J) (fun r u => zR (-1) 4 r ∧ u = (I, R, J)) := by
  intro sz
  refine z_body (by decide +kernel) (Nat.le_of_ble_eq_true rfl) (fun p e s m below meth c ls hx hb hml hr ht hown hlocks hsz hK hP hD hS hl => ?_)
  have hA : ∀ a, s.heap.size ≤ a → zA 25 q sz a := fun a h => Or.inr (hsz ▸ h)
  have hl : lv_has ls 4 [(0, .ref (q 0)), (1, .int (pa0)), (2, .int (pa1))] := hl
  refine lv_aload_n hx hb dX11_leadsTo_0 rfl (lv_at hl 0 rfl) ?_
  refine z_get hx hb ht hown hK hP ziX11 rfl 0 (by decide) 26 (by decide) hw_5_213 rfl (v := .int (I 0 26)) rfl dX11_leadsTo_1 ?_
  have f_1 : zR 0 24 (I 0 26) := mI hI 0 26
  refine lv_iconst (v := nI 1) hx hb dX11_leadsTo_4 (by decide +kernel) ?_
  refine lv_isub hx hb dX11_leadsTo_5 ?_
  refine z_subc (-1) 23 (-1) f_1 zk_1 (by decide) (fun v_2 hv_2 mv_2 => ?_)
  refine lv_istore_n (lv' := [(3, .int (v_2)), (0, .ref (q 0)), (1, .int (pa0)), (2, .int (pa1))]) hx hb dX11_leadsTo_6 rfl hl (by decide) rfl (fun ls hl => ?_)
  have loop_33 : ∀ N : Nat, ∀ x_32 : Int32, zR (-1) 23 x_32 → ((x_32).toInt + 2147483649).toNat < N → ∀ (H : Heap) (locs : List Loc), va_P D vwCl (zw 25 q (zMd q cA) I R J) H → va_D (zA 25 q sz) (zw 25 q (zMd q cA) I R J) → va_S (zA 25 q sz) s.heap H locs → ∀ ls : Array Slot, lv_has ls 4 [(0, .ref (q 0)), (1, .int (pa0)), (2, .int (pa1)), (3, .int (x_32))] → W p l e ({ frames := 1, cells := 0, slots := 0, locals := 21 } : Room) s m ([.ref (q 0), .int (pa0), .int (pa1)] : List Value).toArray below meth c H locs 0 0 (MQ below (va_Qi (fun r u => zR (-1) 4 r ∧ u = (I, R, J)) (zB D vwCl 25 q (zMd q cA) sz) (zA 25 q sz)) ([.ref (q 0), .int (pa0), .int (pa1)] : List Value).toArray s 0 0 (zA 25 q sz)) (F0 m 7 ls []) := by
    intro N
    induction N with
    | zero => intro x_32 hx_32 hN; exact absurd hN (Nat.not_lt_zero _)
    | succ N ih_35 =>
      intro x_32 hx_32 hN_34 H locs hP hD hS ls hl
      refine lv_iload_n hx hb dX11_leadsTo_7 rfl (lv_at hl 3 rfl) ?_
      refine lv_if_lt (tgt := 62) hx hb dX11_leadsTo_8 (by decide) (fun c_36 => ?_) (fun c_36 => ?_)
      · have t_c_36 := z_ltT c_36
        have f_37 : zR (-1) (-1) (x_32) := zR_ltx t_c_36 hx_32 zk_z (by decide)
        refine lv_iconst (v := (-1)) hx hb dX11_leadsTo_62 (by decide +kernel) ?_
        exact z_iret (v := (-1)) hx hb hr hlocks hP hD hS dX11_leadsTo_63 ⟨(zR_w zk_m1 (by decide)), rfl⟩
      · have t_c_36 := z_ltF c_36
        have f_38 : zR 0 23 (x_32) := zR_ley t_c_36 zk_z hx_32 (by decide)
        refine lv_aload_n hx hb dX11_leadsTo_11 rfl (lv_at hl 0 rfl) ?_
        refine lv_iload_n hx hb dX11_leadsTo_12 rfl (lv_at hl 3 rfl) ?_
        refine z_callVi (k := 0) (As := [.int (x_32)]) (rest := []) hx hb hml hown ht (mk_X11_isOpen_1 l D q cA F _ _ _ hI (x_32) f_38) hw_6_230 hmX11_isOpen ⟨rfl, rfl⟩ (na := 1) rfl (by decide +kernel) (by decide) (by decide) rfl rfl hK hP hD hS hA hl.1 rfl (Nat.le_of_ble_eq_true rfl) ⟨Nat.zero_le _, Nat.zero_le _⟩ dX11_leadsTo_13 (fun r_39 I_39 R_39 J_39 H locs hp_39 hP hD hS _ _ => ?_)
        rcases hp_39 with ⟨rfl, hu_39⟩ | ⟨rfl, hu_39⟩
        · cases hu_39
          refine lv_if_eq (tgt := 56) hx hb dX11_leadsTo_16 (by decide) (fun c_0 => absurd c_0 (zD_ne zk_1 zk_z (by decide))) (fun _ => ?_)
          refine lv_aload_n hx hb dX11_leadsTo_19 rfl (lv_at hl 0 rfl) ?_
          refine z_get hx hb ht hown hK hP ziX11 rfl 0 (by decide) 18 (by decide) hw_5_205 rfl (v := .ref (q 10)) rfl dX11_leadsTo_20 ?_
          refine lv_iload_n hx hb dX11_leadsTo_23 rfl (lv_at hl 3 rfl) ?_
          refine z_iald hx hb hK hP 10 (by decide) 9 rfl rfl (zR_vin f_38 (by decide)) dX11_leadsTo_24 ?_
          refine z_eqi (y := R 10 (x_32).toNatClampNeg) rfl ?_
          have f_40 : zR 0 4 (R 10 (x_32).toNatClampNeg) := mR hI 10 (x_32).toNatClampNeg
          refine lv_iload_n hx hb dX11_leadsTo_25 rfl (lv_at hl 1 rfl) ?_
          refine lv_icmp_ne (tgt := 56) hx hb dX11_leadsTo_26 (by decide) (fun c_41 => ?_) (fun c_41 => ?_)
          · have t_c_41 := z_eqF c_41
            obtain ⟨v_42, ev_42⟩ : ∃ y : Int32, y = x_32 + (-1) := ⟨_, rfl⟩
            have hv_42 : zR (-1) 22 v_42 := ev_42 ▸ zR_add f_38 zk_m1 (by decide)
            have mv_42 : v_42.toInt = (x_32).toInt + (-1) := by rw [ev_42, zR_addE f_38 zk_m1 (by decide)]; rfl
            refine lv_iinc (v := v_42) (lv' := [(3, .int (v_42)), (0, .ref (q 0)), (1, .int (pa0)), (2, .int (pa1))]) hx hb dX11_leadsTo_56 hl (k := 3) rfl (ev_42 ▸ rfl) (by decide) rfl (fun ls hl => ?_)
            refine lv_goto (tgt := 7) hx hb dX11_leadsTo_59 (by decide) ?_
            exact ih_35 (v_42) (zR_w hv_42 (by decide)) (z2_dn mv_42 (by decide) hN_34) _ _ hP hD hS _ (lv_sub hl [1, 2, 3, 0] rfl)
          · have t_c_41 := z_eqT c_41
            refine lv_aload_n hx hb dX11_leadsTo_29 rfl (lv_at hl 0 rfl) ?_
            refine z_get hx hb ht hown hK hP ziX11 rfl 0 (by decide) 19 (by decide) hw_5_206 rfl (v := .ref (q 11)) rfl dX11_leadsTo_30 ?_
            refine lv_iload_n hx hb dX11_leadsTo_33 rfl (lv_at hl 3 rfl) ?_
            refine z_iald hx hb hK hP 11 (by decide) 10 rfl rfl (zR_vin f_38 (by decide)) dX11_leadsTo_34 ?_
            refine z_eqi (y := R 11 (x_32).toNatClampNeg) rfl ?_
            have f_43 : zR 0 5 (R 11 (x_32).toNatClampNeg) := mR hI 11 (x_32).toNatClampNeg
            refine lv_iload_n hx hb dX11_leadsTo_35 rfl (lv_at hl 2 rfl) ?_
            refine lv_icmp_ne (tgt := 56) hx hb dX11_leadsTo_36 (by decide) (fun c_44 => ?_) (fun c_44 => ?_)
            · have t_c_44 := z_eqF c_44
              obtain ⟨v_45, ev_45⟩ : ∃ y : Int32, y = x_32 + (-1) := ⟨_, rfl⟩
              have hv_45 : zR (-1) 22 v_45 := ev_45 ▸ zR_add f_38 zk_m1 (by decide)
              have mv_45 : v_45.toInt = (x_32).toInt + (-1) := by rw [ev_45, zR_addE f_38 zk_m1 (by decide)]; rfl
              refine lv_iinc (v := v_45) (lv' := [(3, .int (v_45)), (0, .ref (q 0)), (1, .int (pa0)), (2, .int (pa1))]) hx hb dX11_leadsTo_56 hl (k := 3) rfl (ev_45 ▸ rfl) (by decide) rfl (fun ls hl => ?_)
              refine lv_goto (tgt := 7) hx hb dX11_leadsTo_59 (by decide) ?_
              exact ih_35 (v_45) (zR_w hv_45 (by decide)) (z2_dn mv_45 (by decide) hN_34) _ _ hP hD hS _ (lv_sub hl [1, 2, 3, 0] rfl)
            · have t_c_44 := z_eqT c_44
              refine lv_aload_n hx hb dX11_leadsTo_39 rfl (lv_at hl 0 rfl) ?_
              refine z_get hx hb ht hown hK hP ziX11 rfl 0 (by decide) 20 (by decide) hw_5_207 rfl (v := .ref (q 12)) rfl dX11_leadsTo_40 ?_
              refine lv_iload_n hx hb dX11_leadsTo_43 rfl (lv_at hl 3 rfl) ?_
              refine z_iald hx hb hK hP 12 (by decide) 11 rfl rfl (zR_vin f_38 (by decide)) dX11_leadsTo_44 ?_
              refine z_eqi (y := R 12 (x_32).toNatClampNeg) rfl ?_
              have f_46 : zR 0 4 (R 12 (x_32).toNatClampNeg) := mR hI 12 (x_32).toNatClampNeg
              refine lv_iload_n hx hb dX11_leadsTo_45 rfl (lv_at hl 1 rfl) ?_
              refine lv_icmp_eq (tgt := 56) hx hb dX11_leadsTo_46 (by decide) (fun c_47 => ?_) (fun c_47 => ?_)
              · have t_c_47 := z_eqT c_47
                obtain ⟨v_48, ev_48⟩ : ∃ y : Int32, y = x_32 + (-1) := ⟨_, rfl⟩
                have hv_48 : zR (-1) 22 v_48 := ev_48 ▸ zR_add f_38 zk_m1 (by decide)
                have mv_48 : v_48.toInt = (x_32).toInt + (-1) := by rw [ev_48, zR_addE f_38 zk_m1 (by decide)]; rfl
                refine lv_iinc (v := v_48) (lv' := [(3, .int (v_48)), (0, .ref (q 0)), (1, .int (pa0)), (2, .int (pa1))]) hx hb dX11_leadsTo_56 hl (k := 3) rfl (ev_48 ▸ rfl) (by decide) rfl (fun ls hl => ?_)
                refine lv_goto (tgt := 7) hx hb dX11_leadsTo_59 (by decide) ?_
                exact ih_35 (v_48) (zR_w hv_48 (by decide)) (z2_dn mv_48 (by decide) hN_34) _ _ hP hD hS _ (lv_sub hl [1, 2, 3, 0] rfl)
              · have t_c_47 := z_eqF c_47
                refine lv_aload_n hx hb dX11_leadsTo_49 rfl (lv_at hl 0 rfl) ?_
                refine z_get hx hb ht hown hK hP ziX11 rfl 0 (by decide) 20 (by decide) hw_5_207 rfl (v := .ref (q 12)) rfl dX11_leadsTo_50 ?_
                refine lv_iload_n hx hb dX11_leadsTo_53 rfl (lv_at hl 3 rfl) ?_
                refine z_iald hx hb hK hP 12 (by decide) 11 rfl rfl (zR_vin f_38 (by decide)) dX11_leadsTo_54 ?_
                refine z_eqi (y := R 12 (x_32).toNatClampNeg) rfl ?_
                exact z_iret (v := R 12 (x_32).toNatClampNeg) hx hb hr hlocks hP hD hS dX11_leadsTo_55 ⟨(zR_w f_46 (by decide)), rfl⟩
        · cases hu_39
          refine lv_if_eq (tgt := 56) hx hb dX11_leadsTo_16 (by decide) (fun _ => ?_) (fun c_0 => absurd (zD_eq zk_0 zk_z) c_0)
          obtain ⟨v_49, ev_49⟩ : ∃ y : Int32, y = x_32 + (-1) := ⟨_, rfl⟩
          have hv_49 : zR (-1) 22 v_49 := ev_49 ▸ zR_add f_38 zk_m1 (by decide)
          have mv_49 : v_49.toInt = (x_32).toInt + (-1) := by rw [ev_49, zR_addE f_38 zk_m1 (by decide)]; rfl
          refine lv_iinc (v := v_49) (lv' := [(3, .int (v_49)), (0, .ref (q 0)), (1, .int (pa0)), (2, .int (pa1))]) hx hb dX11_leadsTo_56 hl (k := 3) rfl (ev_49 ▸ rfl) (by decide) rfl (fun ls hl => ?_)
          refine lv_goto (tgt := 7) hx hb dX11_leadsTo_59 (by decide) ?_
          exact ih_35 (v_49) (zR_w hv_49 (by decide)) (z2_dn mv_49 (by decide) hN_34) _ _ hP hD hS _ (lv_sub hl [1, 2, 3, 0] rfl)
  exact loop_33 _ (v_2) hv_2 (Nat.lt_succ_self _) _ _ hP hD hS _ (lv_sub hl [1, 2, 3, 0] rfl)
set_option maxHeartbeats 4000000 in
set_option maxRecDepth 100000 in
theorem mk_X11_layChain (l : Launch) (D : va_G) (q : Nat → Nat) (cA : Nat → ClassId) (F : Nat → Nat → Int32) (I R : Nat → Nat → Int32) (J : Nat → Nat → Int64) (hI : mInv F (I, R, J)) (pa0 : Int32) (hpa0 : zR 0 5 pa0) : zMi l D vwCl (zMtys cA) 25 q (zMd q cA) yX11_layChain cX11_layChain 3 (some .int) ({ frames := 2, cells := 0, slots := 0, locals := 44 } : Room) [.ref (q 0), .int (pa0)] (I, R, J) (fun r u => zR (-1) 4 r ∧ (mInv F u ∧ u.2.2 = J)) := by
  intro sz
  refine z_body (by decide +kernel) (Nat.le_of_ble_eq_true rfl) (fun p e s m below meth c ls hx hb hml hr ht hown hlocks hsz hK hP hD hS hl => ?_)
  have hA : ∀ a, s.heap.size ≤ a → zA 25 q sz a := fun a h => Or.inr (hsz ▸ h)
  have hl : lv_has ls 3 [(0, .ref (q 0)), (1, .int (pa0))] := hl
  refine lv_aload_n hx hb dX11_layChain_0 rfl (lv_at hl 0 rfl) ?_
  refine lv_iconst (v := nI 0) hx hb dX11_layChain_1 (by decide +kernel) ?_
  refine z_putI hx hb ht hown hK hP hD hS ziX11 tyX11 tyX11_ok nmX11 rfl 0 (by decide) 31 (by decide) hw_5_218 rfl (v := nI 0) rfl rfl rfl (Nat.le_of_ble_eq_true rfl) rfl dX11_layChain_2 (fun H locs hP hD hS => ?_)
  have hI_1 := mInv_I hI 0 31 (nI 0) (zR_w zk_0 (by decide)) rfl
  refine lv_aload_n hx hb dX11_layChain_5 rfl (lv_at hl 0 rfl) ?_
  refine z_get hx hb ht hown hK hP ziX11 rfl 0 (by decide) 17 (by decide) hw_5_204 rfl (v := .ref (q 9)) rfl dX11_layChain_6 ?_
  refine lv_iload_n hx hb dX11_layChain_9 rfl (lv_at hl 1 rfl) ?_
  refine z_iald hx hb hK hP 9 (by decide) 8 rfl rfl (zR_vin hpa0 (by decide)) dX11_layChain_10 ?_
  refine z_eqi (y := R 9 (pa0).toNatClampNeg) rfl ?_
  have f_2 : zR 0 4 (R 9 (pa0).toNatClampNeg) := mR hI 9 (pa0).toNatClampNeg
  refine lv_istore_n (lv' := [(2, .int (R 9 (pa0).toNatClampNeg)), (0, .ref (q 0)), (1, .int (pa0))]) hx hb dX11_layChain_11 rfl hl (by decide) rfl (fun ls hl => ?_)
  have loop_27 : ∀ N : Nat, ∀ x_24 : Int32, zR (-1) 4 x_24 → ∀ I_25 : Nat → Nat → Int32, ∀ R_25 : Nat → Nat → Int32, mInv F (I_25, R_25, J) → (mDis (R_25 18) (I_25 0 31) ∧ ((x_24).toInt = -1 → 1 ≤ (I_25 0 31).toInt)) → (6 - (I_25 0 31).toInt).toNat < N → ∀ (H : Heap) (locs : List Loc), va_P D vwCl (zw 25 q (zMd q cA) I_25 R_25 J) H → va_D (zA 25 q sz) (zw 25 q (zMd q cA) I_25 R_25 J) → va_S (zA 25 q sz) s.heap H locs → ∀ ls : Array Slot, lv_has ls 3 [(0, .ref (q 0)), (1, .int (pa0)), (2, .int (x_24))] → W p l e ({ frames := 2, cells := 0, slots := 0, locals := 44 } : Room) s m ([.ref (q 0), .int (pa0)] : List Value).toArray below meth c H locs 0 0 (MQ below (va_Qi (fun r u => zR (-1) 4 r ∧ (mInv F u ∧ u.2.2 = J)) (zB D vwCl 25 q (zMd q cA) sz) (zA 25 q sz)) ([.ref (q 0), .int (pa0)] : List Value).toArray s 0 0 (zA 25 q sz)) (F0 m 12 ls []) := by
    intro N
    induction N with
    | zero => intro x_24 hx_24 I_25 R_25 hI_25 hx_26 hN; exact absurd hN (Nat.not_lt_zero _)
    | succ N ih_29 =>
      intro x_24 hx_24 I_25 R_25 hI_25 hx_26 hN_28 H locs hP hD hS ls hl
      refine lv_iload_n hx hb dX11_layChain_12 rfl (lv_at hl 2 rfl) ?_
      refine lv_iconst (v := (-1)) hx hb dX11_layChain_13 (by decide +kernel) ?_
      refine lv_icmp_eq (tgt := 57) hx hb dX11_layChain_14 (by decide) (fun c_30 => ?_) (fun c_30 => ?_)
      · have t_c_30 := z_eqT c_30
        have f_31 : zR (-1) (-1) (x_24) := zR_eqx t_c_30 zk_m1
        have f_32 : zR 1 5 (I_25 0 31) := m_ge1 (mI hI_25 0 31) (hx_26.2 (t_c_30.trans (by decide +kernel)))
        refine lv_aload_n hx hb dX11_layChain_57 rfl (lv_at hl 0 rfl) ?_
        refine z_get hx hb ht hown hK hP ziX11 rfl 0 (by decide) 30 (by decide) hw_5_217 rfl (v := .ref (q 18)) rfl dX11_layChain_58 ?_
        refine lv_aload_n hx hb dX11_layChain_61 rfl (lv_at hl 0 rfl) ?_
        refine z_get hx hb ht hown hK hP ziX11 rfl 0 (by decide) 31 (by decide) hw_5_218 rfl (v := .int (I_25 0 31)) rfl dX11_layChain_62 ?_
        refine lv_iconst (v := nI 1) hx hb dX11_layChain_65 (by decide +kernel) ?_
        refine lv_isub hx hb dX11_layChain_66 ?_
        refine z_subc 0 4 (-1) f_32 zk_1 (by decide) (fun v_33 hv_33 mv_33 => ?_)
        refine z_iald hx hb hK hP 18 (by decide) 17 rfl rfl (zR_vin hv_33 (by decide)) dX11_layChain_67 ?_
        refine z_eqi (y := R_25 18 (v_33).toNatClampNeg) rfl ?_
        have f_34 : zR 0 4 (R_25 18 (v_33).toNatClampNeg) := mR hI_25 18 (v_33).toNatClampNeg
        exact z_iret (v := R_25 18 (v_33).toNatClampNeg) hx hb hr hlocks hP hD hS dX11_layChain_68 ⟨(zR_w f_34 (by decide)), ⟨hI_25, rfl⟩⟩
      · have t_c_30 := z_eqF c_30
        have f_35 : zR 0 4 (x_24) := zR_nex t_c_30 hx_24 zk_m1 (by decide)
        refine lv_aload_n hx hb dX11_layChain_17 rfl (lv_at hl 0 rfl) ?_
        refine lv_iload_n hx hb dX11_layChain_18 rfl (lv_at hl 2 rfl) ?_
        refine z_callVi (k := 0) (As := [.int (x_24)]) (rest := []) hx hb hml hown ht (mk_X11_wasInChain l D q cA F _ _ _ hI_25 (x_24) f_35) hw_7_100 hmX11_wasInChain ⟨rfl, rfl⟩ (na := 1) rfl (by decide +kernel) (by decide) (by decide) rfl rfl hK hP hD hS hA hl.1 rfl (Nat.le_of_ble_eq_true rfl) ⟨Nat.zero_le _, Nat.zero_le _⟩ dX11_layChain_19 (fun r_36 I_36 R_36 J_36 H locs hp_36 hP hD hS _ _ => ?_)
        rcases hp_36 with ⟨rfl, hu_36, nn_36⟩ | ⟨rfl, hu_36, nn_36⟩
        · cases hu_36
          refine lv_if_eq (tgt := 27) hx hb dX11_layChain_22 (by decide) (fun c_0 => absurd c_0 (zD_ne zk_1 zk_z (by decide))) (fun _ => ?_)
          refine lv_iconst (v := (-1)) hx hb dX11_layChain_25 (by decide +kernel) ?_
          exact z_iret (v := (-1)) hx hb hr hlocks hP hD hS dX11_layChain_26 ⟨(zR_w zk_m1 (by decide)), ⟨hI_25, rfl⟩⟩
        · cases hu_36
          refine lv_if_eq (tgt := 27) hx hb dX11_layChain_22 (by decide) (fun _ => ?_) (fun c_0 => absurd (zD_eq zk_0 zk_z) c_0)
          have f_37 : zR 0 4 (I_25 0 31) := mDis_room (mI hI_25 0 31) (fun j => mR hI_25 18 j) hx_26.1 nn_36 f_35
          refine lv_aload_n hx hb dX11_layChain_27 rfl (lv_at hl 0 rfl) ?_
          refine z_get hx hb ht hown hK hP ziX11 rfl 0 (by decide) 30 (by decide) hw_5_217 rfl (v := .ref (q 18)) rfl dX11_layChain_28 ?_
          refine lv_aload_n hx hb dX11_layChain_31 rfl (lv_at hl 0 rfl) ?_
          refine z_get hx hb ht hown hK hP ziX11 rfl 0 (by decide) 31 (by decide) hw_5_218 rfl (v := .int (I_25 0 31)) rfl dX11_layChain_32 ?_
          refine lv_iload_n hx hb dX11_layChain_35 rfl (lv_at hl 2 rfl) ?_
          refine z_iast hx hb hK hP hD hS 18 (by decide) 17 (fun _ => rfl) rfl (zR_vin f_37 (by decide)) dX11_layChain_36 (fun H locs hP hD hS => ?_)
          have hI_38 := mInv_R hI_25 18 (I_25 0 31).toNatClampNeg (x_24) f_35 rfl
          refine lv_aload_n hx hb dX11_layChain_37 rfl (lv_at hl 0 rfl) ?_
          refine lv_dup hx hb dX11_layChain_38 rfl ?_
          refine z_get hx hb ht hown hK hP ziX11 rfl 0 (by decide) 31 (by decide) hw_5_218 rfl (v := .int (I_25 0 31)) rfl dX11_layChain_39 ?_
          refine lv_iconst (v := nI 1) hx hb dX11_layChain_42 (by decide +kernel) ?_
          refine lv_iadd hx hb dX11_layChain_43 ?_
          refine z_addc 1 5 f_37 zk_1 (by decide) (fun v_39 hv_39 mv_39 => ?_)
          refine z_putI hx hb ht hown hK hP hD hS ziX11 tyX11 tyX11_ok nmX11 rfl 0 (by decide) 31 (by decide) hw_5_218 rfl (v := v_39) rfl rfl rfl (Nat.le_of_ble_eq_true rfl) rfl dX11_layChain_44 (fun H locs hP hD hS => ?_)
          have hI_40 := mInv_I hI_38 0 31 (v_39) (zR_w hv_39 (by decide)) rfl
          refine lv_aload_n hx hb dX11_layChain_47 rfl (lv_at hl 0 rfl) ?_
          refine lv_iload_n hx hb dX11_layChain_48 rfl (lv_at hl 2 rfl) ?_
          refine lv_iload_n hx hb dX11_layChain_49 rfl (lv_at hl 1 rfl) ?_
          refine z_callVi (k := 0) (As := [.int (x_24), .int (pa0)]) (rest := []) hx hb hml hown ht (mk_X11_leadsTo l D q cA F _ _ _ hI_40 (x_24) f_35 (pa0) hpa0) hw_7_104 hmX11_leadsTo ⟨rfl, rfl⟩ (na := 2) rfl (by decide +kernel) (by decide) (by decide) rfl rfl hK hP hD hS hA hl.1 rfl (Nat.le_of_ble_eq_true rfl) ⟨Nat.zero_le _, Nat.zero_le _⟩ dX11_layChain_50 (fun r_41 I_41 R_41 J_41 H locs hp_41 hP hD hS _ _ => ?_)
          obtain ⟨hr_41, hu_41⟩ := hp_41
          cases hu_41
          refine lv_istore_n (lv' := [(2, .int (r_41)), (0, .ref (q 0)), (1, .int (pa0))]) hx hb dX11_layChain_53 rfl hl (by decide) rfl (fun ls hl => ?_)
          refine lv_goto (tgt := 12) hx hb dX11_layChain_54 (by decide) ?_
          exact ih_29 (r_41) hr_41 _ _ hI_40 ⟨mDis_s hx_26.1 nn_36 mv_39 f_37, fun _ => m_one mv_39 f_37⟩ (m_six mv_39 hN_28 f_37) _ _ hP hD hS _ (lv_sub hl [1, 2, 0] rfl)
  exact loop_27 _ (R 9 (pa0).toNatClampNeg) (zR_w f_2 (by decide)) _ _ hI_1 ⟨mDis_0, fun h9 => absurd h9 (m_ne1 f_2)⟩ (Nat.lt_succ_self _) _ _ hP hD hS _ (lv_sub hl [1, 2, 0] rfl)
set_option maxHeartbeats 4000000 in
set_option maxRecDepth 100000 in
theorem mk_X11_owner (l : Launch) (D : va_G) (q : Nat → Nat) (cA : Nat → ClassId) (F : Nat → Nat → Int32) (I R : Nat → Nat → Int32) (J : Nat → Nat → Int64) (hI : mInv F (I, R, J)) (pa0 : Int32) : zMi l D vwCl (zMtys cA) 25 q (zMd q cA) yX11_owner cX11_owner 2 (some .int) ({ frames := 6, cells := 0, slots := 0, locals := 155 } : Room) [.ref (q 0), .int (pa0)] (I, R, J) (fun r u => zR (-2) 4 r ∧ (mInv F u ∧ u.2.2 = J)) := by
  intro sz
  refine z_body (by decide +kernel) (Nat.le_of_ble_eq_true rfl) (fun p e s m below meth c ls hx hb hml hr ht hown hlocks hsz hK hP hD hS hl => ?_)
  have hA : ∀ a, s.heap.size ≤ a → zA 25 q sz a := fun a h => Or.inr (hsz ▸ h)
  have hl : lv_has ls 2 [(0, .ref (q 0)), (1, .int (pa0))] := hl
  refine lv_aload_n hx hb dX11_owner_0 rfl (lv_at hl 0 rfl) ?_
  refine lv_iload_n hx hb dX11_owner_1 rfl (lv_at hl 1 rfl) ?_
  refine lv_i2l (v := (pa0).toInt64) hx hb dX11_owner_2 rfl ?_
  refine z_callVi (k := 0) (As := [.long ((pa0).toInt64)]) (rest := []) hx hb hml hown ht (mk_X11_isThing l D q cA F _ _ _ hI ((pa0).toInt64) (zR_i2l (zR_any (pa0)))) hw_6_238 hmX11_isThing ⟨rfl, rfl⟩ (na := 1) rfl (by decide +kernel) (by decide) (by decide) rfl rfl hK hP hD hS hA hl.1 rfl (Nat.le_of_ble_eq_true rfl) ⟨Nat.zero_le _, Nat.zero_le _⟩ dX11_owner_3 (fun r_1 I_1 R_1 J_1 H locs hp_1 hP hD hS _ _ => ?_)
  rcases hp_1 with ⟨rfl, hu_1, f0_1⟩ | ⟨rfl, hu_1⟩
  · cases hu_1
    have f_2 : zR 0 5 (pa0) := zL_back f0_1
    refine lv_if_ne (tgt := 12) hx hb dX11_owner_6 (by decide) (fun _ => ?_) (fun c_0 => absurd c_0 (zD_ne zk_1 zk_z (by decide)))
    refine lv_aload_n hx hb dX11_owner_12 rfl (lv_at hl 0 rfl) ?_
    refine z_callVv (k := 0) (As := []) (rest := []) hx hb hml hown ht (mk_X11_asItIs l D q cA F _ _ _ hI ) hw_6_181 hmX11_asItIs ⟨rfl, rfl⟩ (na := 0) rfl (by decide +kernel) (by decide) (by decide) rfl rfl hK hP hD hS hA hl.1 rfl (Nat.le_of_ble_eq_true rfl) ⟨Nat.zero_le _, Nat.zero_le _⟩ dX11_owner_13 (fun I_3 R_3 J_3 H locs hp_3 hP hD hS _ _ => ?_)
    obtain ⟨hv_3, hj_3, hs_3⟩ := hp_3
    try dsimp only at hj_3
    subst J_3
    refine lv_aload_n hx hb dX11_owner_16 rfl (lv_at hl 0 rfl) ?_
    refine lv_iload_n hx hb dX11_owner_17 rfl (lv_at hl 1 rfl) ?_
    refine z_callVi (k := 0) (As := [.int (pa0)]) (rest := []) hx hb hml hown ht (mk_X11_layChain l D q cA F _ _ _ hv_3 (pa0) f_2) hw_7_96 hmX11_layChain ⟨rfl, rfl⟩ (na := 1) rfl (by decide +kernel) (by decide) (by decide) rfl rfl hK hP hD hS hA hl.1 rfl (Nat.le_of_ble_eq_true rfl) ⟨Nat.zero_le _, Nat.zero_le _⟩ dX11_owner_18 (fun r_4 I_4 R_4 J_4 H locs hp_4 hP hD hS _ _ => ?_)
    obtain ⟨hr_4, hu_4⟩ := hp_4
    obtain ⟨hv_4, hj_4⟩ := hu_4
    try dsimp only at hj_4
    subst J_4
    exact z_iret (v := r_4) hx hb hr hlocks hP hD hS dX11_owner_21 ⟨(zR_w hr_4 (by decide)), ⟨hv_4, rfl⟩⟩
  · cases hu_1
    refine lv_if_ne (tgt := 12) hx hb dX11_owner_6 (by decide) (fun c_0 => absurd (zD_eq zk_0 zk_z) c_0) (fun _ => ?_)
    refine lv_bipush (v := (-2)) hx hb dX11_owner_9 (by decide +kernel) ?_
    exact z_iret (v := (-2)) hx hb hr hlocks hP hD hS dX11_owner_11 ⟨(zR_w zk_m2 (by decide)), ⟨hI, rfl⟩⟩
set_option maxHeartbeats 4000000 in
set_option maxRecDepth 100000 in
theorem mk_X11_chain (l : Launch) (D : va_G) (q : Nat → Nat) (cA : Nat → ClassId) (F : Nat → Nat → Int32) (I R : Nat → Nat → Int32) (J : Nat → Nat → Int64) (hI : mInv F (I, R, J)) (pa0 : Int32) (pa1 : Int32) : zMi l D vwCl (zMtys cA) 25 q (zMd q cA) yX11_chain cX11_chain 3 (some .int) ({ frames := 6, cells := 0, slots := 0, locals := 155 } : Room) [.ref (q 0), .int (pa0), .int (pa1)] (I, R, J) (fun r u => zR (-2) 4 r ∧ (mInv F u ∧ u.2.2 = J)) := by
  intro sz
  refine z_body (by decide +kernel) (Nat.le_of_ble_eq_true rfl) (fun p e s m below meth c ls hx hb hml hr ht hown hlocks hsz hK hP hD hS hl => ?_)
  have hA : ∀ a, s.heap.size ≤ a → zA 25 q sz a := fun a h => Or.inr (hsz ▸ h)
  have hl : lv_has ls 3 [(0, .ref (q 0)), (1, .int (pa0)), (2, .int (pa1))] := hl
  refine lv_aload_n hx hb dX11_chain_0 rfl (lv_at hl 0 rfl) ?_
  refine lv_iload_n hx hb dX11_chain_1 rfl (lv_at hl 1 rfl) ?_
  refine lv_i2l (v := (pa0).toInt64) hx hb dX11_chain_2 rfl ?_
  refine z_callVi (k := 0) (As := [.long ((pa0).toInt64)]) (rest := []) hx hb hml hown ht (mk_X11_isThing l D q cA F _ _ _ hI ((pa0).toInt64) (zR_i2l (zR_any (pa0)))) hw_6_238 hmX11_isThing ⟨rfl, rfl⟩ (na := 1) rfl (by decide +kernel) (by decide) (by decide) rfl rfl hK hP hD hS hA hl.1 rfl (Nat.le_of_ble_eq_true rfl) ⟨Nat.zero_le _, Nat.zero_le _⟩ dX11_chain_3 (fun r_1 I_1 R_1 J_1 H locs hp_1 hP hD hS _ _ => ?_)
  rcases hp_1 with ⟨rfl, hu_1, f0_1⟩ | ⟨rfl, hu_1⟩
  · cases hu_1
    have f_2 : zR 0 5 (pa0) := zL_back f0_1
    refine lv_if_ne (tgt := 12) hx hb dX11_chain_6 (by decide) (fun _ => ?_) (fun c_0 => absurd c_0 (zD_ne zk_1 zk_z (by decide)))
    refine lv_aload_n hx hb dX11_chain_12 rfl (lv_at hl 0 rfl) ?_
    refine z_callVv (k := 0) (As := []) (rest := []) hx hb hml hown ht (mk_X11_asItIs l D q cA F _ _ _ hI ) hw_6_181 hmX11_asItIs ⟨rfl, rfl⟩ (na := 0) rfl (by decide +kernel) (by decide) (by decide) rfl rfl hK hP hD hS hA hl.1 rfl (Nat.le_of_ble_eq_true rfl) ⟨Nat.zero_le _, Nat.zero_le _⟩ dX11_chain_13 (fun I_3 R_3 J_3 H locs hp_3 hP hD hS _ _ => ?_)
    obtain ⟨hv_3, hj_3, hs_3⟩ := hp_3
    try dsimp only at hj_3
    subst J_3
    refine lv_aload_n hx hb dX11_chain_16 rfl (lv_at hl 0 rfl) ?_
    refine lv_iload_n hx hb dX11_chain_17 rfl (lv_at hl 1 rfl) ?_
    refine z_callVi (k := 0) (As := [.int (pa0)]) (rest := []) hx hb hml hown ht (mk_X11_layChain l D q cA F _ _ _ hv_3 (pa0) f_2) hw_7_96 hmX11_layChain ⟨rfl, rfl⟩ (na := 1) rfl (by decide +kernel) (by decide) (by decide) rfl rfl hK hP hD hS hA hl.1 rfl (Nat.le_of_ble_eq_true rfl) ⟨Nat.zero_le _, Nat.zero_le _⟩ dX11_chain_18 (fun r_4 I_4 R_4 J_4 H locs hp_4 hP hD hS _ _ => ?_)
    obtain ⟨hr_4, hu_4⟩ := hp_4
    obtain ⟨hv_4, hj_4⟩ := hu_4
    try dsimp only at hj_4
    subst J_4
    refine lv_pop hx hb dX11_chain_21 rfl ?_
    refine lv_iload_n hx hb dX11_chain_22 rfl (lv_at hl 2 rfl) ?_
    refine lv_i2l (v := (pa1).toInt64) hx hb dX11_chain_23 rfl ?_
    refine lv_lconst (v := (0 : Int64)) hx hb dX11_chain_24 (by decide +kernel) ?_
    refine lv_aload_n hx hb dX11_chain_25 rfl (lv_at hl 0 rfl) ?_
    refine z_get hx hb ht hown hK hP ziX11 rfl 0 (by decide) 31 (by decide) hw_5_218 rfl (v := .int (I_4 0 31)) rfl dX11_chain_26 ?_
    have f_5 : zR 0 5 (I_4 0 31) := mI hv_4 0 31
    refine lv_iconst (v := nI 1) hx hb dX11_chain_29 (by decide +kernel) ?_
    refine lv_isub hx hb dX11_chain_30 ?_
    refine z_subc (-1) 4 (-1) f_5 zk_1 (by decide) (fun v_6 hv_6 mv_6 => ?_)
    refine lv_i2l (v := (v_6).toInt64) hx hb dX11_chain_31 rfl ?_
    refine z_callSi (As := [.long ((pa1).toInt64), .long ((0 : Int64)), .long ((v_6).toInt64)]) (rest := []) hx hb hml hown ht (mk_X11_in l D q cA F _ _ _ hv_4 ((pa1).toInt64) ((0 : Int64)) ((v_6).toInt64)) hw_6_86 hmX11_in ⟨rfl, rfl⟩ (na := 3) rfl (by decide +kernel) (by decide) hK hP hD hS hA hl.1 rfl (Nat.le_of_ble_eq_true rfl) ⟨Nat.zero_le _, Nat.zero_le _⟩ dX11_chain_32 (fun r_7 I_7 R_7 J_7 H locs hp_7 hP hD hS _ _ => ?_)
    rcases hp_7 with ⟨rfl, hu_7, h1_7, h2_7⟩ | ⟨rfl, hu_7, h1_7 | h2_7⟩
    · cases hu_7
      have f_8 : zL 0 2147483647 ((pa1).toInt64) := zL_ley h1_7 zkl_0 (zR_i2l (zR_any (pa1))) (by decide)
      have f_9 : zR 0 2147483647 (pa1) := zL_back f_8
      have f_10 : zL 0 4 ((pa1).toInt64) := zL_lex h2_7 f_8 (zR_i2l hv_6) (by decide)
      have f_11 : zR 0 4 (pa1) := zL_back f_10
      have f_12 : zL 0 4 ((v_6).toInt64) := zL_ley h2_7 f_8 (zR_i2l hv_6) (by decide)
      have f_13 : zR 0 4 (v_6) := zL_back f_12
      refine lv_if_eq (tgt := 47) hx hb dX11_chain_35 (by decide) (fun c_0 => absurd c_0 (zD_ne zk_1 zk_z (by decide))) (fun _ => ?_)
      refine lv_aload_n hx hb dX11_chain_38 rfl (lv_at hl 0 rfl) ?_
      refine z_get hx hb ht hown hK hP ziX11 rfl 0 (by decide) 30 (by decide) hw_5_217 rfl (v := .ref (q 18)) rfl dX11_chain_39 ?_
      refine lv_iload_n hx hb dX11_chain_42 rfl (lv_at hl 2 rfl) ?_
      refine z_iald hx hb hK hP 18 (by decide) 17 rfl rfl (zR_vin f_11 (by decide)) dX11_chain_43 ?_
      refine z_eqi (y := R_4 18 (pa1).toNatClampNeg) rfl ?_
      have f_14 : zR 0 4 (R_4 18 (pa1).toNatClampNeg) := mR hv_4 18 (pa1).toNatClampNeg
      refine lv_goto (tgt := 48) hx hb dX11_chain_44 (by decide) ?_
      exact z_iret (v := R_4 18 (pa1).toNatClampNeg) hx hb hr hlocks hP hD hS dX11_chain_48 ⟨(zR_w f_14 (by decide)), ⟨hv_4, rfl⟩⟩
    · cases hu_7
      have f_15 : zL (-2147483648) (-1) ((pa1).toInt64) := zL_ltx h1_7 (zR_i2l (zR_any (pa1))) zkl_0 (by decide)
      have f_16 : zR (-2147483648) (-1) (pa1) := zL_back f_15
      refine lv_if_eq (tgt := 47) hx hb dX11_chain_35 (by decide) (fun _ => ?_) (fun c_0 => absurd (zD_eq zk_0 zk_z) c_0)
      refine lv_iconst (v := (-1)) hx hb dX11_chain_47 (by decide +kernel) ?_
      exact z_iret (v := (-1)) hx hb hr hlocks hP hD hS dX11_chain_48 ⟨(zR_w zk_m1 (by decide)), ⟨hv_4, rfl⟩⟩
    · cases hu_7
      have f_17 : zL 0 2147483647 ((pa1).toInt64) := zL_lty h2_7 (zR_i2l hv_6) (zR_i2l (zR_any (pa1))) (by decide)
      have f_18 : zR 0 2147483647 (pa1) := zL_back f_17
      refine lv_if_eq (tgt := 47) hx hb dX11_chain_35 (by decide) (fun _ => ?_) (fun c_0 => absurd (zD_eq zk_0 zk_z) c_0)
      refine lv_iconst (v := (-1)) hx hb dX11_chain_47 (by decide +kernel) ?_
      exact z_iret (v := (-1)) hx hb hr hlocks hP hD hS dX11_chain_48 ⟨(zR_w zk_m1 (by decide)), ⟨hv_4, rfl⟩⟩
  · cases hu_1
    refine lv_if_ne (tgt := 12) hx hb dX11_chain_6 (by decide) (fun c_0 => absurd (zD_eq zk_0 zk_z) c_0) (fun _ => ?_)
    refine lv_bipush (v := (-2)) hx hb dX11_chain_9 (by decide +kernel) ?_
    exact z_iret (v := (-2)) hx hb hr hlocks hP hD hS dX11_chain_11 ⟨(zR_w zk_m2 (by decide)), ⟨hI, rfl⟩⟩
set_option maxHeartbeats 4000000 in
set_option maxRecDepth 100000 in
theorem mk_X11_rings (l : Launch) (D : va_G) (q : Nat → Nat) (cA : Nat → ClassId) (F : Nat → Nat → Int32) (I R : Nat → Nat → Int32) (J : Nat → Nat → Int64) (hI : mInv F (I, R, J))  : zMi l D vwCl (zMtys cA) 25 q (zMd q cA) yX11_rings cX11_rings 3 (some .int) ({ frames := 6, cells := 0, slots := 0, locals := 155 } : Room) [.ref (q 0)] (I, R, J) (fun r u => zR (-2) 63 r ∧ (mInv F u ∧ u.2.2 = J)) := by
  intro sz
  refine z_body (by decide +kernel) (Nat.le_of_ble_eq_true rfl) (fun p e s m below meth c ls hx hb hml hr ht hown hlocks hsz hK hP hD hS hl => ?_)
  have hA : ∀ a, s.heap.size ≤ a → zA 25 q sz a := fun a h => Or.inr (hsz ▸ h)
  have hl : lv_has ls 3 [(0, .ref (q 0))] := hl
  refine lv_aload_n hx hb dX11_rings_0 rfl (lv_at hl 0 rfl) ?_
  refine z_callVi (k := 0) (As := []) (rest := []) hx hb hml hown ht (mk_X11_isCity l D q cA F _ _ _ hI ) hw_7_75 hmX11_isCity ⟨rfl, rfl⟩ (na := 0) rfl (by decide +kernel) (by decide) (by decide) rfl rfl hK hP hD hS hA hl.1 rfl (Nat.le_of_ble_eq_true rfl) ⟨Nat.zero_le _, Nat.zero_le _⟩ dX11_rings_1 (fun r_1 I_1 R_1 J_1 H locs hp_1 hP hD hS _ _ => ?_)
  rcases hp_1 with ⟨rfl, hu_1⟩ | ⟨rfl, hu_1⟩
  · cases hu_1
    refine lv_if_ne (tgt := 10) hx hb dX11_rings_4 (by decide) (fun _ => ?_) (fun c_0 => absurd c_0 (zD_ne zk_1 zk_z (by decide)))
    refine lv_aload_n hx hb dX11_rings_10 rfl (lv_at hl 0 rfl) ?_
    refine z_callVv (k := 0) (As := []) (rest := []) hx hb hml hown ht (mk_X11_asItIs l D q cA F _ _ _ hI ) hw_6_181 hmX11_asItIs ⟨rfl, rfl⟩ (na := 0) rfl (by decide +kernel) (by decide) (by decide) rfl rfl hK hP hD hS hA hl.1 rfl (Nat.le_of_ble_eq_true rfl) ⟨Nat.zero_le _, Nat.zero_le _⟩ dX11_rings_11 (fun I_2 R_2 J_2 H locs hp_2 hP hD hS _ _ => ?_)
    obtain ⟨hv_2, hj_2, hs_2⟩ := hp_2
    try dsimp only at hj_2
    subst J_2
    refine lv_iconst (v := nI 0) hx hb dX11_rings_14 (by decide +kernel) ?_
    refine lv_istore_n (lv' := [(1, .int (nI 0)), (0, .ref (q 0))]) hx hb dX11_rings_15 rfl hl (by decide) rfl (fun ls hl => ?_)
    refine lv_iconst (v := nI 0) hx hb dX11_rings_16 (by decide +kernel) ?_
    refine lv_istore_n (lv' := [(2, .int (nI 0)), (1, .int (nI 0)), (0, .ref (q 0))]) hx hb dX11_rings_17 rfl hl (by decide) rfl (fun ls hl => ?_)
    have loop_76 : ∀ N : Nat, ∀ x_73 : Int32, zR 0 63 x_73 → ∀ x_74 : Int32, zR 0 6 x_74 → ∀ I_75 : Nat → Nat → Int32, ∀ R_75 : Nat → Nat → Int32, mInv F (I_75, R_75, J) → (2147483648 - (x_74).toInt).toNat < N → ∀ (H : Heap) (locs : List Loc), va_P D vwCl (zw 25 q (zMd q cA) I_75 R_75 J) H → va_D (zA 25 q sz) (zw 25 q (zMd q cA) I_75 R_75 J) → va_S (zA 25 q sz) s.heap H locs → ∀ ls : Array Slot, lv_has ls 3 [(0, .ref (q 0)), (1, .int (x_73)), (2, .int (x_74))] → W p l e ({ frames := 6, cells := 0, slots := 0, locals := 155 } : Room) s m ([.ref (q 0)] : List Value).toArray below meth c H locs 0 0 (MQ below (va_Qi (fun r u => zR (-2) 63 r ∧ (mInv F u ∧ u.2.2 = J)) (zB D vwCl 25 q (zMd q cA) sz) (zA 25 q sz)) ([.ref (q 0)] : List Value).toArray s 0 0 (zA 25 q sz)) (F0 m 18 ls []) := by
      intro N
      induction N with
      | zero => intro x_73 hx_73 x_74 hx_74 I_75 R_75 hI_75 hN; exact absurd hN (Nat.not_lt_zero _)
      | succ N ih_78 =>
        intro x_73 hx_73 x_74 hx_74 I_75 R_75 hI_75 hN_77 H locs hP hD hS ls hl
        refine lv_iload_n hx hb dX11_rings_18 rfl (lv_at hl 2 rfl) ?_
        refine lv_aload_n hx hb dX11_rings_19 rfl (lv_at hl 0 rfl) ?_
        refine z_get hx hb ht hown hK hP ziX11 rfl 0 (by decide) 1 (by decide) hw_5_188 rfl (v := .ref (q 1)) rfl dX11_rings_20 ?_
        refine lv_iconst (v := nI 4) hx hb dX11_rings_23 (by decide +kernel) ?_
        refine z_iald hx hb hK hP 1 (by decide) 0 rfl rfl (zR_vin zk_4 (by decide)) dX11_rings_24 ?_
        refine z_eqi (y := R_75 1 (nI 4).toNatClampNeg) rfl ?_
        have f_79 : zR 0 6 (R_75 1 (nI 4).toNatClampNeg) := mR hI_75 1 4
        refine lv_icmp_ge (tgt := 53) hx hb dX11_rings_25 (by decide) (fun c_80 => ?_) (fun c_80 => ?_)
        · have t_c_80 := z_leT c_80
          refine lv_iload_n hx hb dX11_rings_53 rfl (lv_at hl 1 rfl) ?_
          exact z_iret (v := x_73) hx hb hr hlocks hP hD hS dX11_rings_54 ⟨(zR_w hx_73 (by decide)), ⟨hI_75, rfl⟩⟩
        · have t_c_80 := z_leF c_80
          have f_81 : zR 0 5 (x_74) := zR_ltx t_c_80 hx_74 f_79 (by decide)
          have f_82 : zR 1 6 (R_75 1 (nI 4).toNatClampNeg) := zR_lty t_c_80 hx_74 f_79 (by decide)
          refine lv_iload_n hx hb dX11_rings_28 rfl (lv_at hl 1 rfl) ?_
          refine lv_aload_n hx hb dX11_rings_29 rfl (lv_at hl 0 rfl) ?_
          refine lv_iload_n hx hb dX11_rings_30 rfl (lv_at hl 2 rfl) ?_
          refine z_callVi (k := 0) (As := [.int (x_74)]) (rest := [.int (x_73)]) hx hb hml hown ht (mk_X11_layChain l D q cA F _ _ _ hI_75 (x_74) f_81) hw_7_96 hmX11_layChain ⟨rfl, rfl⟩ (na := 1) rfl (by decide +kernel) (by decide) (by decide) rfl rfl hK hP hD hS hA hl.1 rfl (Nat.le_of_ble_eq_true rfl) ⟨Nat.zero_le _, Nat.zero_le _⟩ dX11_rings_31 (fun r_83 I_83 R_83 J_83 H locs hp_83 hP hD hS _ _ => ?_)
          obtain ⟨hr_83, hu_83⟩ := hp_83
          obtain ⟨hv_83, hj_83⟩ := hu_83
          try dsimp only at hj_83
          subst J_83
          refine lv_iconst (v := (-1)) hx hb dX11_rings_34 (by decide +kernel) ?_
          have t_89 : ∀ x_88 : Int32, zR 0 32 x_88 → ∀ (H : Heap) (locs : List Loc), va_P D vwCl (zw 25 q (zMd q cA) I_83 R_83 J) H → va_D (zA 25 q sz) (zw 25 q (zMd q cA) I_83 R_83 J) → va_S (zA 25 q sz) s.heap H locs → ∀ ls : Array Slot, lv_has ls 3 [(0, .ref (q 0)), (1, .int (x_73)), (2, .int (x_74))] → W p l e ({ frames := 6, cells := 0, slots := 0, locals := 155 } : Room) s m ([.ref (q 0)] : List Value).toArray below meth c H locs 0 0 (MQ below (va_Qi (fun r u => zR (-2) 63 r ∧ (mInv F u ∧ u.2.2 = J)) (zB D vwCl 25 q (zMd q cA) sz) (zA 25 q sz)) ([.ref (q 0)] : List Value).toArray s 0 0 (zA 25 q sz)) (F0 m 45 ls [.int (x_88), .int (x_73)]) := by
            intro x_88 hx_88 H locs hP hD hS ls hl
            refine lv_ior hx hb dX11_rings_45 ?_
            refine z_rng (a := 0) (b := 63) (zR_or 6 hx_73 hx_88 (by decide)) (fun v_90 hv_90 => ?_)
            refine lv_istore_n (lv' := [(1, .int (v_90)), (0, .ref (q 0)), (2, .int (x_74))]) hx hb dX11_rings_46 rfl hl (by decide) rfl (fun ls hl => ?_)
            obtain ⟨v_91, ev_91⟩ : ∃ y : Int32, y = x_74 + nI 1 := ⟨_, rfl⟩
            have hv_91 : zR 1 6 v_91 := ev_91 ▸ zR_add f_81 zk_1 (by decide)
            have mv_91 : v_91.toInt = (x_74).toInt + 1 := by rw [ev_91, zR_addE f_81 zk_1 (by decide)]; rfl
            refine lv_iinc (v := v_91) (lv' := [(2, .int (v_91)), (1, .int (v_90)), (0, .ref (q 0))]) hx hb dX11_rings_47 hl (k := 2) rfl (ev_91 ▸ rfl) (by decide) rfl (fun ls hl => ?_)
            refine lv_goto (tgt := 18) hx hb dX11_rings_50 (by decide) ?_
            exact ih_78 (v_90) hv_90 (v_91) (zR_w hv_91 (by decide)) _ _ hv_83 (z2_up mv_91 (by decide) hN_77) _ _ hP hD hS _ (lv_sub hl [2, 1, 0] rfl)
          refine lv_icmp_ne (tgt := 44) hx hb dX11_rings_35 (by decide) (fun c_84 => ?_) (fun c_84 => ?_)
          · have t_c_84 := z_eqF c_84
            have f_92 : zR 0 4 (r_83) := zR_nex t_c_84 hr_83 zk_m1 (by decide)
            refine lv_iconst (v := nI 0) hx hb dX11_rings_44 (by decide +kernel) ?_
            exact t_89 (nI 0) (zR_w zk_0 (by decide)) _ _ hP hD hS _ (lv_sub hl [0, 1, 2] rfl)
          · have t_c_84 := z_eqT c_84
            have f_93 : zR (-1) (-1) (r_83) := zR_eqx t_c_84 zk_m1
            refine lv_iconst (v := nI 1) hx hb dX11_rings_38 (by decide +kernel) ?_
            refine lv_iload_n hx hb dX11_rings_39 rfl (lv_at hl 2 rfl) ?_
            refine lv_ishl hx hb dX11_rings_40 ?_
            refine z_rng (a := 1) (b := 32) (zR_shl1 5 f_81 (by decide)) (fun v_94 hv_94 => ?_)
            refine lv_goto (tgt := 45) hx hb dX11_rings_41 (by decide) ?_
            exact t_89 (v_94) (zR_w hv_94 (by decide)) _ _ hP hD hS _ (lv_sub hl [0, 1, 2] rfl)
    exact loop_76 _ (nI 0) (zR_w zk_0 (by decide)) (nI 0) (zR_w zk_0 (by decide)) _ _ hv_2 (Nat.lt_succ_self _) _ _ hP hD hS _ (lv_sub hl [2, 1, 0] rfl)
  · cases hu_1
    refine lv_if_ne (tgt := 10) hx hb dX11_rings_4 (by decide) (fun c_0 => absurd (zD_eq zk_0 zk_z) c_0) (fun _ => ?_)
    refine lv_bipush (v := (-2)) hx hb dX11_rings_7 (by decide +kernel) ?_
    exact z_iret (v := (-2)) hx hb hr hlocks hP hD hS dX11_rings_9 ⟨(zR_w zk_m2 (by decide)), ⟨hI, rfl⟩⟩
set_option maxHeartbeats 4000000 in
set_option maxRecDepth 100000 in
theorem mk_X11_owns (l : Launch) (D : va_G) (q : Nat → Nat) (cA : Nat → ClassId) (F : Nat → Nat → Int32) (I R : Nat → Nat → Int32) (J : Nat → Nat → Int64) (hI : mInv F (I, R, J)) (pa0 : Int32) : zMi l D vwCl (zMtys cA) 25 q (zMd q cA) yX11_owns cX11_owns 4 (some .int) ({ frames := 6, cells := 0, slots := 0, locals := 155 } : Room) [.ref (q 0), .int (pa0)] (I, R, J) (fun r u => zR (-2) 63 r ∧ (mInv F u ∧ u.2.2 = J)) := by
  intro sz
  refine z_body (by decide +kernel) (Nat.le_of_ble_eq_true rfl) (fun p e s m below meth c ls hx hb hml hr ht hown hlocks hsz hK hP hD hS hl => ?_)
  have hA : ∀ a, s.heap.size ≤ a → zA 25 q sz a := fun a h => Or.inr (hsz ▸ h)
  have hl : lv_has ls 4 [(0, .ref (q 0)), (1, .int (pa0))] := hl
  refine lv_aload_n hx hb dX11_owns_0 rfl (lv_at hl 0 rfl) ?_
  refine lv_iload_n hx hb dX11_owns_1 rfl (lv_at hl 1 rfl) ?_
  refine lv_i2l (v := (pa0).toInt64) hx hb dX11_owns_2 rfl ?_
  refine z_callVi (k := 0) (As := [.long ((pa0).toInt64)]) (rest := []) hx hb hml hown ht (mk_X11_isHouse l D q cA F _ _ _ hI ((pa0).toInt64) (zR_i2l (zR_any (pa0)))) hw_6_176 hmX11_isHouse ⟨rfl, rfl⟩ (na := 1) rfl (by decide +kernel) (by decide) (by decide) rfl rfl hK hP hD hS hA hl.1 rfl (Nat.le_of_ble_eq_true rfl) ⟨Nat.zero_le _, Nat.zero_le _⟩ dX11_owns_3 (fun r_1 I_1 R_1 J_1 H locs hp_1 hP hD hS _ _ => ?_)
  rcases hp_1 with ⟨rfl, hu_1, f0_1⟩ | ⟨rfl, hu_1⟩
  · cases hu_1
    have f_2 : zR 0 4 (pa0) := zL_back f0_1
    refine lv_if_ne (tgt := 12) hx hb dX11_owns_6 (by decide) (fun _ => ?_) (fun c_0 => absurd c_0 (zD_ne zk_1 zk_z (by decide)))
    refine lv_aload_n hx hb dX11_owns_12 rfl (lv_at hl 0 rfl) ?_
    refine z_callVv (k := 0) (As := []) (rest := []) hx hb hml hown ht (mk_X11_asItIs l D q cA F _ _ _ hI ) hw_6_181 hmX11_asItIs ⟨rfl, rfl⟩ (na := 0) rfl (by decide +kernel) (by decide) (by decide) rfl rfl hK hP hD hS hA hl.1 rfl (Nat.le_of_ble_eq_true rfl) ⟨Nat.zero_le _, Nat.zero_le _⟩ dX11_owns_13 (fun I_3 R_3 J_3 H locs hp_3 hP hD hS _ _ => ?_)
    obtain ⟨hv_3, hj_3, hs_3⟩ := hp_3
    try dsimp only at hj_3
    subst J_3
    refine lv_iconst (v := nI 0) hx hb dX11_owns_16 (by decide +kernel) ?_
    refine lv_istore_n (lv' := [(2, .int (nI 0)), (0, .ref (q 0)), (1, .int (pa0))]) hx hb dX11_owns_17 rfl hl (by decide) rfl (fun ls hl => ?_)
    refine lv_iconst (v := nI 0) hx hb dX11_owns_18 (by decide +kernel) ?_
    refine lv_istore_n (lv' := [(3, .int (nI 0)), (2, .int (nI 0)), (0, .ref (q 0)), (1, .int (pa0))]) hx hb dX11_owns_19 rfl hl (by decide) rfl (fun ls hl => ?_)
    have loop_72 : ∀ N : Nat, ∀ x_69 : Int32, zR 0 63 x_69 → ∀ x_70 : Int32, zR 0 6 x_70 → ∀ I_71 : Nat → Nat → Int32, ∀ R_71 : Nat → Nat → Int32, mInv F (I_71, R_71, J) → (2147483648 - (x_70).toInt).toNat < N → ∀ (H : Heap) (locs : List Loc), va_P D vwCl (zw 25 q (zMd q cA) I_71 R_71 J) H → va_D (zA 25 q sz) (zw 25 q (zMd q cA) I_71 R_71 J) → va_S (zA 25 q sz) s.heap H locs → ∀ ls : Array Slot, lv_has ls 4 [(0, .ref (q 0)), (1, .int (pa0)), (2, .int (x_69)), (3, .int (x_70))] → W p l e ({ frames := 6, cells := 0, slots := 0, locals := 155 } : Room) s m ([.ref (q 0), .int (pa0)] : List Value).toArray below meth c H locs 0 0 (MQ below (va_Qi (fun r u => zR (-2) 63 r ∧ (mInv F u ∧ u.2.2 = J)) (zB D vwCl 25 q (zMd q cA) sz) (zA 25 q sz)) ([.ref (q 0), .int (pa0)] : List Value).toArray s 0 0 (zA 25 q sz)) (F0 m 20 ls []) := by
      intro N
      induction N with
      | zero => intro x_69 hx_69 x_70 hx_70 I_71 R_71 hI_71 hN; exact absurd hN (Nat.not_lt_zero _)
      | succ N ih_74 =>
        intro x_69 hx_69 x_70 hx_70 I_71 R_71 hI_71 hN_73 H locs hP hD hS ls hl
        refine lv_iload_n hx hb dX11_owns_20 rfl (lv_at hl 3 rfl) ?_
        refine lv_aload_n hx hb dX11_owns_21 rfl (lv_at hl 0 rfl) ?_
        refine z_get hx hb ht hown hK hP ziX11 rfl 0 (by decide) 1 (by decide) hw_5_188 rfl (v := .ref (q 1)) rfl dX11_owns_22 ?_
        refine lv_iconst (v := nI 4) hx hb dX11_owns_25 (by decide +kernel) ?_
        refine z_iald hx hb hK hP 1 (by decide) 0 rfl rfl (zR_vin zk_4 (by decide)) dX11_owns_26 ?_
        refine z_eqi (y := R_71 1 (nI 4).toNatClampNeg) rfl ?_
        have f_75 : zR 0 6 (R_71 1 (nI 4).toNatClampNeg) := mR hI_71 1 4
        refine lv_icmp_ge (tgt := 55) hx hb dX11_owns_27 (by decide) (fun c_76 => ?_) (fun c_76 => ?_)
        · have t_c_76 := z_leT c_76
          refine lv_iload_n hx hb dX11_owns_55 rfl (lv_at hl 2 rfl) ?_
          exact z_iret (v := x_69) hx hb hr hlocks hP hD hS dX11_owns_56 ⟨(zR_w hx_69 (by decide)), ⟨hI_71, rfl⟩⟩
        · have t_c_76 := z_leF c_76
          have f_77 : zR 0 5 (x_70) := zR_ltx t_c_76 hx_70 f_75 (by decide)
          have f_78 : zR 1 6 (R_71 1 (nI 4).toNatClampNeg) := zR_lty t_c_76 hx_70 f_75 (by decide)
          refine lv_iload_n hx hb dX11_owns_30 rfl (lv_at hl 2 rfl) ?_
          refine lv_aload_n hx hb dX11_owns_31 rfl (lv_at hl 0 rfl) ?_
          refine lv_iload_n hx hb dX11_owns_32 rfl (lv_at hl 3 rfl) ?_
          refine z_callVi (k := 0) (As := [.int (x_70)]) (rest := [.int (x_69)]) hx hb hml hown ht (mk_X11_layChain l D q cA F _ _ _ hI_71 (x_70) f_77) hw_7_96 hmX11_layChain ⟨rfl, rfl⟩ (na := 1) rfl (by decide +kernel) (by decide) (by decide) rfl rfl hK hP hD hS hA hl.1 rfl (Nat.le_of_ble_eq_true rfl) ⟨Nat.zero_le _, Nat.zero_le _⟩ dX11_owns_33 (fun r_79 I_79 R_79 J_79 H locs hp_79 hP hD hS _ _ => ?_)
          obtain ⟨hr_79, hu_79⟩ := hp_79
          obtain ⟨hv_79, hj_79⟩ := hu_79
          try dsimp only at hj_79
          subst J_79
          refine lv_iload_n hx hb dX11_owns_36 rfl (lv_at hl 1 rfl) ?_
          have t_84 : ∀ x_83 : Int32, zR 0 32 x_83 → ∀ (H : Heap) (locs : List Loc), va_P D vwCl (zw 25 q (zMd q cA) I_79 R_79 J) H → va_D (zA 25 q sz) (zw 25 q (zMd q cA) I_79 R_79 J) → va_S (zA 25 q sz) s.heap H locs → ∀ ls : Array Slot, lv_has ls 4 [(0, .ref (q 0)), (1, .int (pa0)), (2, .int (x_69)), (3, .int (x_70))] → W p l e ({ frames := 6, cells := 0, slots := 0, locals := 155 } : Room) s m ([.ref (q 0), .int (pa0)] : List Value).toArray below meth c H locs 0 0 (MQ below (va_Qi (fun r u => zR (-2) 63 r ∧ (mInv F u ∧ u.2.2 = J)) (zB D vwCl 25 q (zMd q cA) sz) (zA 25 q sz)) ([.ref (q 0), .int (pa0)] : List Value).toArray s 0 0 (zA 25 q sz)) (F0 m 47 ls [.int (x_83), .int (x_69)]) := by
            intro x_83 hx_83 H locs hP hD hS ls hl
            refine lv_ior hx hb dX11_owns_47 ?_
            refine z_rng (a := 0) (b := 63) (zR_or 6 hx_69 hx_83 (by decide)) (fun v_85 hv_85 => ?_)
            refine lv_istore_n (lv' := [(2, .int (v_85)), (0, .ref (q 0)), (1, .int (pa0)), (3, .int (x_70))]) hx hb dX11_owns_48 rfl hl (by decide) rfl (fun ls hl => ?_)
            obtain ⟨v_86, ev_86⟩ : ∃ y : Int32, y = x_70 + nI 1 := ⟨_, rfl⟩
            have hv_86 : zR 1 6 v_86 := ev_86 ▸ zR_add f_77 zk_1 (by decide)
            have mv_86 : v_86.toInt = (x_70).toInt + 1 := by rw [ev_86, zR_addE f_77 zk_1 (by decide)]; rfl
            refine lv_iinc (v := v_86) (lv' := [(3, .int (v_86)), (2, .int (v_85)), (0, .ref (q 0)), (1, .int (pa0))]) hx hb dX11_owns_49 hl (k := 3) rfl (ev_86 ▸ rfl) (by decide) rfl (fun ls hl => ?_)
            refine lv_goto (tgt := 20) hx hb dX11_owns_52 (by decide) ?_
            exact ih_74 (v_85) hv_85 (v_86) (zR_w hv_86 (by decide)) _ _ hv_79 (z2_up mv_86 (by decide) hN_73) _ _ hP hD hS _ (lv_sub hl [2, 3, 1, 0] rfl)
          refine lv_icmp_ne (tgt := 46) hx hb dX11_owns_37 (by decide) (fun c_80 => ?_) (fun c_80 => ?_)
          · have t_c_80 := z_eqF c_80
            refine lv_iconst (v := nI 0) hx hb dX11_owns_46 (by decide +kernel) ?_
            exact t_84 (nI 0) (zR_w zk_0 (by decide)) _ _ hP hD hS _ (lv_sub hl [0, 1, 2, 3] rfl)
          · have t_c_80 := z_eqT c_80
            have f_87 : zR 0 4 (r_79) := zR_eqx t_c_80 f_2
            refine lv_iconst (v := nI 1) hx hb dX11_owns_40 (by decide +kernel) ?_
            refine lv_iload_n hx hb dX11_owns_41 rfl (lv_at hl 3 rfl) ?_
            refine lv_ishl hx hb dX11_owns_42 ?_
            refine z_rng (a := 1) (b := 32) (zR_shl1 5 f_77 (by decide)) (fun v_88 hv_88 => ?_)
            refine lv_goto (tgt := 47) hx hb dX11_owns_43 (by decide) ?_
            exact t_84 (v_88) (zR_w hv_88 (by decide)) _ _ hP hD hS _ (lv_sub hl [0, 1, 2, 3] rfl)
    exact loop_72 _ (nI 0) (zR_w zk_0 (by decide)) (nI 0) (zR_w zk_0 (by decide)) _ _ hv_3 (Nat.lt_succ_self _) _ _ hP hD hS _ (lv_sub hl [2, 3, 1, 0] rfl)
  · cases hu_1
    refine lv_if_ne (tgt := 12) hx hb dX11_owns_6 (by decide) (fun c_0 => absurd (zD_eq zk_0 zk_z) c_0) (fun _ => ?_)
    refine lv_bipush (v := (-2)) hx hb dX11_owns_9 (by decide +kernel) ?_
    exact z_iret (v := (-2)) hx hb hr hlocks hP hD hS dX11_owns_11 ⟨(zR_w zk_m2 (by decide)), ⟨hI, rfl⟩⟩
set_option maxHeartbeats 4000000 in
set_option maxRecDepth 100000 in
theorem mk_X11_isEdge_1 (l : Launch) (D : va_G) (q : Nat → Nat) (cA : Nat → ClassId) (F : Nat → Nat → Int32) (I R : Nat → Nat → Int32) (J : Nat → Nat → Int64) (hI : mInv F (I, R, J)) (pa0 : Int32) (hpa0 : zR 0 23 pa0) (pa1 : Int32) (hpa1 : zR 0 5 pa1) : zMi l D vwCl (zMtys cA) 25 q (zMd q cA) yX11_isEdge cX11_isEdge 3 (some .boolean) ({ frames := 1, cells := 0, slots := 0, locals := 21 } : Room) [.ref (q 0), .int (pa0), .int (pa1)] (I, R, J) (fun r u => (r = nI 1 ∧ u = (I, R, J)) ∨ (r = nI 0 ∧ u = (I, R, J))) := by
  intro sz
  refine z_body (by decide +kernel) (Nat.le_of_ble_eq_true rfl) (fun p e s m below meth c ls hx hb hml hr ht hown hlocks hsz hK hP hD hS hl => ?_)
  have hA : ∀ a, s.heap.size ≤ a → zA 25 q sz a := fun a h => Or.inr (hsz ▸ h)
  have hl : lv_has ls 3 [(0, .ref (q 0)), (1, .int (pa0)), (2, .int (pa1))] := hl
  refine lv_aload_n hx hb dX11_isEdge_0 rfl (lv_at hl 0 rfl) ?_
  refine lv_iload_n hx hb dX11_isEdge_1 rfl (lv_at hl 1 rfl) ?_
  refine z_callVi (k := 0) (As := [.int (pa0)]) (rest := []) hx hb hml hown ht (mk_X11_isOpen_1 l D q cA F _ _ _ hI (pa0) hpa0) hw_6_230 hmX11_isOpen ⟨rfl, rfl⟩ (na := 1) rfl (by decide +kernel) (by decide) (by decide) rfl rfl hK hP hD hS hA hl.1 rfl (Nat.le_of_ble_eq_true rfl) ⟨Nat.zero_le _, Nat.zero_le _⟩ dX11_isEdge_2 (fun r_1 I_1 R_1 J_1 H locs hp_1 hP hD hS _ _ => ?_)
  rcases hp_1 with ⟨rfl, hu_1⟩ | ⟨rfl, hu_1⟩
  · cases hu_1
    refine lv_if_eq (tgt := 37) hx hb dX11_isEdge_5 (by decide) (fun c_0 => absurd c_0 (zD_ne zk_1 zk_z (by decide))) (fun _ => ?_)
    refine lv_aload_n hx hb dX11_isEdge_8 rfl (lv_at hl 0 rfl) ?_
    refine z_get hx hb ht hown hK hP ziX11 rfl 0 (by decide) 19 (by decide) hw_5_206 rfl (v := .ref (q 11)) rfl dX11_isEdge_9 ?_
    refine lv_iload_n hx hb dX11_isEdge_12 rfl (lv_at hl 1 rfl) ?_
    refine z_iald hx hb hK hP 11 (by decide) 10 rfl rfl (zR_vin hpa0 (by decide)) dX11_isEdge_13 ?_
    refine z_eqi (y := R 11 (pa0).toNatClampNeg) rfl ?_
    have f_2 : zR 0 5 (R 11 (pa0).toNatClampNeg) := mR hI 11 (pa0).toNatClampNeg
    refine lv_iload_n hx hb dX11_isEdge_14 rfl (lv_at hl 2 rfl) ?_
    refine lv_icmp_ne (tgt := 37) hx hb dX11_isEdge_15 (by decide) (fun c_3 => ?_) (fun c_3 => ?_)
    · have t_c_3 := z_eqF c_3
      refine lv_iconst (v := nI 0) hx hb dX11_isEdge_37 (by decide +kernel) ?_
      exact z_zret (v := nI 0) hx hb hr hlocks hP hD hS (by decide +kernel) dX11_isEdge_38 (Or.inr ⟨rfl, rfl⟩)
    · have t_c_3 := z_eqT c_3
      refine lv_aload_n hx hb dX11_isEdge_18 rfl (lv_at hl 0 rfl) ?_
      refine z_get hx hb ht hown hK hP ziX11 rfl 0 (by decide) 20 (by decide) hw_5_207 rfl (v := .ref (q 12)) rfl dX11_isEdge_19 ?_
      refine lv_iload_n hx hb dX11_isEdge_22 rfl (lv_at hl 1 rfl) ?_
      refine z_iald hx hb hK hP 12 (by decide) 11 rfl rfl (zR_vin hpa0 (by decide)) dX11_isEdge_23 ?_
      refine z_eqi (y := R 12 (pa0).toNatClampNeg) rfl ?_
      have f_4 : zR 0 4 (R 12 (pa0).toNatClampNeg) := mR hI 12 (pa0).toNatClampNeg
      refine lv_aload_n hx hb dX11_isEdge_24 rfl (lv_at hl 0 rfl) ?_
      refine z_get hx hb ht hown hK hP ziX11 rfl 0 (by decide) 18 (by decide) hw_5_205 rfl (v := .ref (q 10)) rfl dX11_isEdge_25 ?_
      refine lv_iload_n hx hb dX11_isEdge_28 rfl (lv_at hl 1 rfl) ?_
      refine z_iald hx hb hK hP 10 (by decide) 9 rfl rfl (zR_vin hpa0 (by decide)) dX11_isEdge_29 ?_
      refine z_eqi (y := R 10 (pa0).toNatClampNeg) rfl ?_
      have f_5 : zR 0 4 (R 10 (pa0).toNatClampNeg) := mR hI 10 (pa0).toNatClampNeg
      refine lv_icmp_eq (tgt := 37) hx hb dX11_isEdge_30 (by decide) (fun c_6 => ?_) (fun c_6 => ?_)
      · have t_c_6 := z_eqT c_6
        refine lv_iconst (v := nI 0) hx hb dX11_isEdge_37 (by decide +kernel) ?_
        exact z_zret (v := nI 0) hx hb hr hlocks hP hD hS (by decide +kernel) dX11_isEdge_38 (Or.inr ⟨rfl, rfl⟩)
      · have t_c_6 := z_eqF c_6
        refine lv_iconst (v := nI 1) hx hb dX11_isEdge_33 (by decide +kernel) ?_
        refine lv_goto (tgt := 38) hx hb dX11_isEdge_34 (by decide) ?_
        exact z_zret (v := nI 1) hx hb hr hlocks hP hD hS (by decide +kernel) dX11_isEdge_38 (Or.inl ⟨rfl, rfl⟩)
  · cases hu_1
    refine lv_if_eq (tgt := 37) hx hb dX11_isEdge_5 (by decide) (fun _ => ?_) (fun c_0 => absurd (zD_eq zk_0 zk_z) c_0)
    refine lv_iconst (v := nI 0) hx hb dX11_isEdge_37 (by decide +kernel) ?_
    exact z_zret (v := nI 0) hx hb hr hlocks hP hD hS (by decide +kernel) dX11_isEdge_38 (Or.inr ⟨rfl, rfl⟩)
set_option maxHeartbeats 4000000 in
set_option maxRecDepth 100000 in
theorem mk_X11_twice (l : Launch) (D : va_G) (q : Nat → Nat) (cA : Nat → ClassId) (F : Nat → Nat → Int32) (I R : Nat → Nat → Int32) (J : Nat → Nat → Int64) (hI : mInv F (I, R, J))  : zMi l D vwCl (zMtys cA) 25 q (zMd q cA) yX11_twice cX11_twice 4 (some .int) ({ frames := 6, cells := 0, slots := 0, locals := 155 } : Room) [.ref (q 0)] (I, R, J) (fun _ u => (mInv F u ∧ u.2.2 = J)) := by
  intro sz
  refine z_body (by decide +kernel) (Nat.le_of_ble_eq_true rfl) (fun p e s m below meth c ls hx hb hml hr ht hown hlocks hsz hK hP hD hS hl => ?_)
  have hA : ∀ a, s.heap.size ≤ a → zA 25 q sz a := fun a h => Or.inr (hsz ▸ h)
  have hl : lv_has ls 4 [(0, .ref (q 0))] := hl
  refine lv_aload_n hx hb dX11_twice_0 rfl (lv_at hl 0 rfl) ?_
  refine z_callVi (k := 0) (As := []) (rest := []) hx hb hml hown ht (mk_X11_isCity l D q cA F _ _ _ hI ) hw_7_75 hmX11_isCity ⟨rfl, rfl⟩ (na := 0) rfl (by decide +kernel) (by decide) (by decide) rfl rfl hK hP hD hS hA hl.1 rfl (Nat.le_of_ble_eq_true rfl) ⟨Nat.zero_le _, Nat.zero_le _⟩ dX11_twice_1 (fun r_1 I_1 R_1 J_1 H locs hp_1 hP hD hS _ _ => ?_)
  rcases hp_1 with ⟨rfl, hu_1⟩ | ⟨rfl, hu_1⟩
  · cases hu_1
    refine lv_if_ne (tgt := 10) hx hb dX11_twice_4 (by decide) (fun _ => ?_) (fun c_0 => absurd c_0 (zD_ne zk_1 zk_z (by decide)))
    refine lv_aload_n hx hb dX11_twice_10 rfl (lv_at hl 0 rfl) ?_
    refine z_callVv (k := 0) (As := []) (rest := []) hx hb hml hown ht (mk_X11_asItIs l D q cA F _ _ _ hI ) hw_6_181 hmX11_asItIs ⟨rfl, rfl⟩ (na := 0) rfl (by decide +kernel) (by decide) (by decide) rfl rfl hK hP hD hS hA hl.1 rfl (Nat.le_of_ble_eq_true rfl) ⟨Nat.zero_le _, Nat.zero_le _⟩ dX11_twice_11 (fun I_2 R_2 J_2 H locs hp_2 hP hD hS _ _ => ?_)
    obtain ⟨hv_2, hj_2, hs_2⟩ := hp_2
    try dsimp only at hj_2
    subst J_2
    refine lv_iconst (v := nI 0) hx hb dX11_twice_14 (by decide +kernel) ?_
    refine lv_istore_n (lv' := [(1, .int (nI 0)), (0, .ref (q 0))]) hx hb dX11_twice_15 rfl hl (by decide) rfl (fun ls hl => ?_)
    refine lv_iconst (v := nI 0) hx hb dX11_twice_16 (by decide +kernel) ?_
    refine lv_istore_n (lv' := [(2, .int (nI 0)), (1, .int (nI 0)), (0, .ref (q 0))]) hx hb dX11_twice_17 rfl hl (by decide) rfl (fun ls hl => ?_)
    have loop_207 : ∀ N : Nat, ∀ x_205 : Int32, ∀ x_206 : Int32, zR 0 24 x_206 → (2147483648 - (x_206).toInt).toNat < N → ∀ (H : Heap) (locs : List Loc), va_P D vwCl (zw 25 q (zMd q cA) I_2 R_2 J) H → va_D (zA 25 q sz) (zw 25 q (zMd q cA) I_2 R_2 J) → va_S (zA 25 q sz) s.heap H locs → ∀ ls : Array Slot, lv_has ls 4 [(0, .ref (q 0)), (1, .int (x_205)), (2, .int (x_206))] → W p l e ({ frames := 6, cells := 0, slots := 0, locals := 155 } : Room) s m ([.ref (q 0)] : List Value).toArray below meth c H locs 0 0 (MQ below (va_Qi (fun _ u => (mInv F u ∧ u.2.2 = J)) (zB D vwCl 25 q (zMd q cA) sz) (zA 25 q sz)) ([.ref (q 0)] : List Value).toArray s 0 0 (zA 25 q sz)) (F0 m 18 ls []) := by
      intro N
      induction N with
      | zero => intro x_205 x_206 hx_206 hN; exact absurd hN (Nat.not_lt_zero _)
      | succ N ih_209 =>
        intro x_205 x_206 hx_206 hN_208 H locs hP hD hS ls hl
        refine lv_iload_n hx hb dX11_twice_18 rfl (lv_at hl 2 rfl) ?_
        refine lv_aload_n hx hb dX11_twice_19 rfl (lv_at hl 0 rfl) ?_
        refine z_get hx hb ht hown hK hP ziX11 rfl 0 (by decide) 26 (by decide) hw_5_213 rfl (v := .int (I_2 0 26)) rfl dX11_twice_20 ?_
        have f_210 : zR 0 24 (I_2 0 26) := mI hv_2 0 26
        refine lv_icmp_ge (tgt := 91) hx hb dX11_twice_23 (by decide) (fun c_211 => ?_) (fun c_211 => ?_)
        · have t_c_211 := z_leT c_211
          refine lv_iload_n hx hb dX11_twice_91 rfl (lv_at hl 1 rfl) ?_
          exact z_iret (v := x_205) hx hb hr hlocks hP hD hS dX11_twice_92 ⟨hv_2, rfl⟩
        · have t_c_211 := z_leF c_211
          have f_212 : zR 0 23 (x_206) := zR_ltx t_c_211 hx_206 f_210 (by decide)
          have f_213 : zR 1 24 (I_2 0 26) := zR_lty t_c_211 hx_206 f_210 (by decide)
          refine lv_iconst (v := nI 0) hx hb dX11_twice_26 (by decide +kernel) ?_
          refine lv_istore_n (lv' := [(3, .int (nI 0)), (0, .ref (q 0)), (1, .int (x_205)), (2, .int (x_206))]) hx hb dX11_twice_27 rfl hl (by decide) rfl (fun ls hl => ?_)
          have loop_269 : ∀ N : Nat, ∀ x_267 : Int32, ∀ x_268 : Int32, zR 0 23 x_268 → (2147483648 - (x_268).toInt).toNat < N → ∀ (H : Heap) (locs : List Loc), va_P D vwCl (zw 25 q (zMd q cA) I_2 R_2 J) H → va_D (zA 25 q sz) (zw 25 q (zMd q cA) I_2 R_2 J) → va_S (zA 25 q sz) s.heap H locs → ∀ ls : Array Slot, lv_has ls 4 [(0, .ref (q 0)), (1, .int (x_267)), (2, .int (x_206)), (3, .int (x_268))] → W p l e ({ frames := 6, cells := 0, slots := 0, locals := 155 } : Room) s m ([.ref (q 0)] : List Value).toArray below meth c H locs 0 0 (MQ below (va_Qi (fun _ u => (mInv F u ∧ u.2.2 = J)) (zB D vwCl 25 q (zMd q cA) sz) (zA 25 q sz)) ([.ref (q 0)] : List Value).toArray s 0 0 (zA 25 q sz)) (F0 m 28 ls []) := by
            intro N
            induction N with
            | zero => intro x_267 x_268 hx_268 hN; exact absurd hN (Nat.not_lt_zero _)
            | succ N ih_271 =>
              intro x_267 x_268 hx_268 hN_270 H locs hP hD hS ls hl
              refine lv_iload_n hx hb dX11_twice_28 rfl (lv_at hl 3 rfl) ?_
              refine lv_iload_n hx hb dX11_twice_29 rfl (lv_at hl 2 rfl) ?_
              refine lv_icmp_ge (tgt := 85) hx hb dX11_twice_30 (by decide) (fun c_272 => ?_) (fun c_272 => ?_)
              · have t_c_272 := z_leT c_272
                obtain ⟨v_284, ev_284⟩ : ∃ y : Int32, y = x_206 + nI 1 := ⟨_, rfl⟩
                have hv_284 : zR 1 24 v_284 := ev_284 ▸ zR_add f_212 zk_1 (by decide)
                have mv_284 : v_284.toInt = (x_206).toInt + 1 := by rw [ev_284, zR_addE f_212 zk_1 (by decide)]; rfl
                refine lv_iinc (v := v_284) (lv' := [(2, .int (v_284)), (0, .ref (q 0)), (1, .int (x_267)), (3, .int (x_268))]) hx hb dX11_twice_85 hl (k := 2) rfl (ev_284 ▸ rfl) (by decide) rfl (fun ls hl => ?_)
                refine lv_goto (tgt := 18) hx hb dX11_twice_88 (by decide) ?_
                exact ih_209 (x_267) (v_284) (zR_w hv_284 (by decide)) (z2_up mv_284 (by decide) hN_208) _ _ hP hD hS _ (lv_sub hl [1, 2, 0] rfl)
              · have t_c_272 := z_leF c_272
                have f_285 : zR 0 22 (x_268) := zR_ltx t_c_272 hx_268 f_212 (by decide)
                have f_286 : zR 1 23 (x_206) := zR_lty t_c_272 hx_268 f_212 (by decide)
                refine lv_aload_n hx hb dX11_twice_33 rfl (lv_at hl 0 rfl) ?_
                refine lv_iload_n hx hb dX11_twice_34 rfl (lv_at hl 2 rfl) ?_
                refine lv_aload_n hx hb dX11_twice_35 rfl (lv_at hl 0 rfl) ?_
                refine z_get hx hb ht hown hK hP ziX11 rfl 0 (by decide) 19 (by decide) hw_5_206 rfl (v := .ref (q 11)) rfl dX11_twice_36 ?_
                refine lv_iload_n hx hb dX11_twice_39 rfl (lv_at hl 2 rfl) ?_
                refine z_iald hx hb hK hP 11 (by decide) 10 rfl rfl (zR_vin f_286 (by decide)) dX11_twice_40 ?_
                refine z_eqi (y := R_2 11 (x_206).toNatClampNeg) rfl ?_
                have f_287 : zR 0 5 (R_2 11 (x_206).toNatClampNeg) := mR hv_2 11 (x_206).toNatClampNeg
                have t_295 : ∀ x_294 : Int32, ∀ (H : Heap) (locs : List Loc), va_P D vwCl (zw 25 q (zMd q cA) I_2 R_2 J) H → va_D (zA 25 q sz) (zw 25 q (zMd q cA) I_2 R_2 J) → va_S (zA 25 q sz) s.heap H locs → ∀ ls : Array Slot, lv_has ls 4 [(0, .ref (q 0)), (1, .int (x_294)), (2, .int (x_206)), (3, .int (x_268))] → W p l e ({ frames := 6, cells := 0, slots := 0, locals := 155 } : Room) s m ([.ref (q 0)] : List Value).toArray below meth c H locs 0 0 (MQ below (va_Qi (fun _ u => (mInv F u ∧ u.2.2 = J)) (zB D vwCl 25 q (zMd q cA) sz) (zA 25 q sz)) ([.ref (q 0)] : List Value).toArray s 0 0 (zA 25 q sz)) (F0 m 79 ls []) := by
                  intro x_294 H locs hP hD hS ls hl
                  obtain ⟨v_296, ev_296⟩ : ∃ y : Int32, y = x_268 + nI 1 := ⟨_, rfl⟩
                  have hv_296 : zR 1 23 v_296 := ev_296 ▸ zR_add f_285 zk_1 (by decide)
                  have mv_296 : v_296.toInt = (x_268).toInt + 1 := by rw [ev_296, zR_addE f_285 zk_1 (by decide)]; rfl
                  refine lv_iinc (v := v_296) (lv' := [(3, .int (v_296)), (0, .ref (q 0)), (1, .int (x_294)), (2, .int (x_206))]) hx hb dX11_twice_79 hl (k := 3) rfl (ev_296 ▸ rfl) (by decide) rfl (fun ls hl => ?_)
                  refine lv_goto (tgt := 28) hx hb dX11_twice_82 (by decide) ?_
                  exact ih_271 (x_294) (v_296) (zR_w hv_296 (by decide)) (z2_up mv_296 (by decide) hN_270) _ _ hP hD hS _ (lv_sub hl [1, 2, 3, 0] rfl)
                refine z_callVi (k := 0) (As := [.int (x_206), .int (R_2 11 (x_206).toNatClampNeg)]) (rest := []) hx hb hml hown ht (mk_X11_isEdge_1 l D q cA F _ _ _ hv_2 (x_206) (zR_w f_286 (by decide)) (R_2 11 (x_206).toNatClampNeg) f_287) hw_7_124 hmX11_isEdge ⟨rfl, rfl⟩ (na := 2) rfl (by decide +kernel) (by decide) (by decide) rfl rfl hK hP hD hS hA hl.1 rfl (Nat.le_of_ble_eq_true rfl) ⟨Nat.zero_le _, Nat.zero_le _⟩ dX11_twice_41 (fun r_288 I_288 R_288 J_288 H locs hp_288 hP hD hS _ _ => ?_)
                rcases hp_288 with ⟨rfl, hu_288⟩ | ⟨rfl, hu_288⟩
                · cases hu_288
                  refine lv_if_eq (tgt := 79) hx hb dX11_twice_44 (by decide) (fun c_0 => absurd c_0 (zD_ne zk_1 zk_z (by decide))) (fun _ => ?_)
                  refine lv_aload_n hx hb dX11_twice_47 rfl (lv_at hl 0 rfl) ?_
                  refine lv_iload_n hx hb dX11_twice_48 rfl (lv_at hl 3 rfl) ?_
                  refine lv_aload_n hx hb dX11_twice_49 rfl (lv_at hl 0 rfl) ?_
                  refine z_get hx hb ht hown hK hP ziX11 rfl 0 (by decide) 19 (by decide) hw_5_206 rfl (v := .ref (q 11)) rfl dX11_twice_50 ?_
                  refine lv_iload_n hx hb dX11_twice_53 rfl (lv_at hl 2 rfl) ?_
                  refine z_iald hx hb hK hP 11 (by decide) 10 rfl rfl (zR_vin f_286 (by decide)) dX11_twice_54 ?_
                  refine z_eqi (y := R_2 11 (x_206).toNatClampNeg) rfl ?_
                  refine z_callVi (k := 0) (As := [.int (x_268), .int (R_2 11 (x_206).toNatClampNeg)]) (rest := []) hx hb hml hown ht (mk_X11_isEdge_1 l D q cA F _ _ _ hv_2 (x_268) (zR_w f_285 (by decide)) (R_2 11 (x_206).toNatClampNeg) f_287) hw_7_124 hmX11_isEdge ⟨rfl, rfl⟩ (na := 2) rfl (by decide +kernel) (by decide) (by decide) rfl rfl hK hP hD hS hA hl.1 rfl (Nat.le_of_ble_eq_true rfl) ⟨Nat.zero_le _, Nat.zero_le _⟩ dX11_twice_55 (fun r_297 I_297 R_297 J_297 H locs hp_297 hP hD hS _ _ => ?_)
                  rcases hp_297 with ⟨rfl, hu_297⟩ | ⟨rfl, hu_297⟩
                  · cases hu_297
                    refine lv_if_eq (tgt := 79) hx hb dX11_twice_58 (by decide) (fun c_0 => absurd c_0 (zD_ne zk_1 zk_z (by decide))) (fun _ => ?_)
                    refine lv_aload_n hx hb dX11_twice_61 rfl (lv_at hl 0 rfl) ?_
                    refine z_get hx hb ht hown hK hP ziX11 rfl 0 (by decide) 18 (by decide) hw_5_205 rfl (v := .ref (q 10)) rfl dX11_twice_62 ?_
                    refine lv_iload_n hx hb dX11_twice_65 rfl (lv_at hl 2 rfl) ?_
                    refine z_iald hx hb hK hP 10 (by decide) 9 rfl rfl (zR_vin f_286 (by decide)) dX11_twice_66 ?_
                    refine z_eqi (y := R_2 10 (x_206).toNatClampNeg) rfl ?_
                    have f_298 : zR 0 4 (R_2 10 (x_206).toNatClampNeg) := mR hv_2 10 (x_206).toNatClampNeg
                    refine lv_aload_n hx hb dX11_twice_67 rfl (lv_at hl 0 rfl) ?_
                    refine z_get hx hb ht hown hK hP ziX11 rfl 0 (by decide) 18 (by decide) hw_5_205 rfl (v := .ref (q 10)) rfl dX11_twice_68 ?_
                    refine lv_iload_n hx hb dX11_twice_71 rfl (lv_at hl 3 rfl) ?_
                    refine z_iald hx hb hK hP 10 (by decide) 9 rfl rfl (zR_vin f_285 (by decide)) dX11_twice_72 ?_
                    refine z_eqi (y := R_2 10 (x_268).toNatClampNeg) rfl ?_
                    have f_299 : zR 0 4 (R_2 10 (x_268).toNatClampNeg) := mR hv_2 10 (x_268).toNatClampNeg
                    refine lv_icmp_ne (tgt := 79) hx hb dX11_twice_73 (by decide) (fun c_300 => ?_) (fun c_300 => ?_)
                    · have t_c_300 := z_eqF c_300
                      exact t_295 (x_267) _ _ hP hD hS _ (lv_sub hl [0, 1, 2, 3] rfl)
                    · have t_c_300 := z_eqT c_300
                      obtain ⟨v_301, ev_301⟩ : ∃ y : Int32, y = x_267 + nI 1 := ⟨_, rfl⟩
                      refine lv_iinc (v := v_301) (lv' := [(1, .int (v_301)), (0, .ref (q 0)), (2, .int (x_206)), (3, .int (x_268))]) hx hb dX11_twice_76 hl (k := 1) rfl (ev_301 ▸ rfl) (by decide) rfl (fun ls hl => ?_)
                      exact t_295 (v_301) _ _ hP hD hS _ (lv_sub hl [1, 0, 2, 3] rfl)
                  · cases hu_297
                    refine lv_if_eq (tgt := 79) hx hb dX11_twice_58 (by decide) (fun _ => ?_) (fun c_0 => absurd (zD_eq zk_0 zk_z) c_0)
                    exact t_295 (x_267) _ _ hP hD hS _ (lv_sub hl [0, 1, 2, 3] rfl)
                · cases hu_288
                  refine lv_if_eq (tgt := 79) hx hb dX11_twice_44 (by decide) (fun _ => ?_) (fun c_0 => absurd (zD_eq zk_0 zk_z) c_0)
                  exact t_295 (x_267) _ _ hP hD hS _ (lv_sub hl [0, 1, 2, 3] rfl)
          exact loop_269 _ (x_205) (nI 0) (zR_w zk_0 (by decide)) (Nat.lt_succ_self _) _ _ hP hD hS _ (lv_sub hl [1, 2, 3, 0] rfl)
    exact loop_207 _ (nI 0) (nI 0) (zR_w zk_0 (by decide)) (Nat.lt_succ_self _) _ _ hP hD hS _ (lv_sub hl [2, 1, 0] rfl)
  · cases hu_1
    refine lv_if_ne (tgt := 10) hx hb dX11_twice_4 (by decide) (fun c_0 => absurd (zD_eq zk_0 zk_z) c_0) (fun _ => ?_)
    refine lv_bipush (v := (-2)) hx hb dX11_twice_7 (by decide +kernel) ?_
    exact z_iret (v := (-2)) hx hb hr hlocks hP hD hS dX11_twice_9 ⟨hI, rfl⟩
set_option maxHeartbeats 4000000 in
set_option maxRecDepth 100000 in
theorem mk_X11_leadRound (l : Launch) (D : va_G) (q : Nat → Nat) (cA : Nat → ClassId) (F : Nat → Nat → Int32) (I R : Nat → Nat → Int32) (J : Nat → Nat → Int64) (hI : mInv F (I, R, J))  : zMi l D vwCl (zMtys cA) 25 q (zMd q cA) yX11_leadRound cX11_leadRound 4 (some .boolean) ({ frames := 0, cells := 0, slots := 0, locals := 0 } : Room) [.ref (q 0)] (I, R, J) (fun r u => (r = nI 1 ∧ u = (I, R, J)) ∨ (r = nI 0 ∧ u = (I, R, J))) := by
  intro sz
  refine z_body (by decide +kernel) (Nat.le_of_ble_eq_true rfl) (fun p e s m below meth c ls hx hb hml hr ht hown hlocks hsz hK hP hD hS hl => ?_)
  have hA : ∀ a, s.heap.size ≤ a → zA 25 q sz a := fun a h => Or.inr (hsz ▸ h)
  have hl : lv_has ls 4 [(0, .ref (q 0))] := hl
  refine lv_iconst (v := nI 0) hx hb dX11_leadRound_0 (by decide +kernel) ?_
  refine lv_istore_n (lv' := [(1, .int (nI 0)), (0, .ref (q 0))]) hx hb dX11_leadRound_1 rfl hl (by decide) rfl (fun ls hl => ?_)
  have loop_236 : ∀ N : Nat, ∀ x_235 : Int32, zR 0 5 x_235 → (2147483648 - (x_235).toInt).toNat < N → ∀ (H : Heap) (locs : List Loc), va_P D vwCl (zw 25 q (zMd q cA) I R J) H → va_D (zA 25 q sz) (zw 25 q (zMd q cA) I R J) → va_S (zA 25 q sz) s.heap H locs → ∀ ls : Array Slot, lv_has ls 4 [(0, .ref (q 0)), (1, .int (x_235))] → W p l e ({ frames := 0, cells := 0, slots := 0, locals := 0 } : Room) s m ([.ref (q 0)] : List Value).toArray below meth c H locs 0 0 (MQ below (va_Qi (fun r u => (r = nI 1 ∧ u = (I, R, J)) ∨ (r = nI 0 ∧ u = (I, R, J))) (zB D vwCl 25 q (zMd q cA) sz) (zA 25 q sz)) ([.ref (q 0)] : List Value).toArray s 0 0 (zA 25 q sz)) (F0 m 2 ls []) := by
    intro N
    induction N with
    | zero => intro x_235 hx_235 hN; exact absurd hN (Nat.not_lt_zero _)
    | succ N ih_238 =>
      intro x_235 hx_235 hN_237 H locs hP hD hS ls hl
      refine lv_iload_n hx hb dX11_leadRound_2 rfl (lv_at hl 1 rfl) ?_
      refine lv_aload_n hx hb dX11_leadRound_3 rfl (lv_at hl 0 rfl) ?_
      refine z_get hx hb ht hown hK hP ziX11 rfl 0 (by decide) 1 (by decide) hw_5_188 rfl (v := .ref (q 1)) rfl dX11_leadRound_4 ?_
      refine lv_iconst (v := nI 3) hx hb dX11_leadRound_7 (by decide +kernel) ?_
      refine z_iald hx hb hK hP 1 (by decide) 0 rfl rfl (zR_vin zk_3 (by decide)) dX11_leadRound_8 ?_
      refine z_eqi (y := R 1 (nI 3).toNatClampNeg) rfl ?_
      have f_239 : zR 0 5 (R 1 (nI 3).toNatClampNeg) := mR hI 1 3
      refine lv_icmp_ge (tgt := 71) hx hb dX11_leadRound_9 (by decide) (fun c_240 => ?_) (fun c_240 => ?_)
      · have t_c_240 := z_leT c_240
        refine lv_iconst (v := nI 0) hx hb dX11_leadRound_71 (by decide +kernel) ?_
        exact z_zret (v := nI 0) hx hb hr hlocks hP hD hS (by decide +kernel) dX11_leadRound_72 (Or.inr ⟨rfl, rfl⟩)
      · have t_c_240 := z_leF c_240
        have f_241 : zR 0 4 (x_235) := zR_ltx t_c_240 hx_235 f_239 (by decide)
        have f_242 : zR 1 5 (R 1 (nI 3).toNatClampNeg) := zR_lty t_c_240 hx_235 f_239 (by decide)
        refine lv_iload_n hx hb dX11_leadRound_12 rfl (lv_at hl 1 rfl) ?_
        refine lv_istore_n (lv' := [(2, .int (x_235)), (0, .ref (q 0)), (1, .int (x_235))]) hx hb dX11_leadRound_13 rfl hl (by decide) rfl (fun ls hl => ?_)
        refine lv_iconst (v := nI 0) hx hb dX11_leadRound_14 (by decide +kernel) ?_
        refine lv_istore_n (lv' := [(3, .int (nI 0)), (2, .int (x_235)), (0, .ref (q 0)), (1, .int (x_235))]) hx hb dX11_leadRound_15 rfl hl (by decide) rfl (fun ls hl => ?_)
        have t_293 : ∀ x_291 : Int32, zR (-1) 4 x_291 → ∀ x_292 : Int32, zR 0 6 x_292 → ∀ (H : Heap) (locs : List Loc), va_P D vwCl (zw 25 q (zMd q cA) I R J) H → va_D (zA 25 q sz) (zw 25 q (zMd q cA) I R J) → va_S (zA 25 q sz) s.heap H locs → ∀ ls : Array Slot, lv_has ls 4 [(0, .ref (q 0)), (1, .int (x_235)), (2, .int (x_291)), (3, .int (x_292))] → W p l e ({ frames := 0, cells := 0, slots := 0, locals := 0 } : Room) s m ([.ref (q 0)] : List Value).toArray below meth c H locs 0 0 (MQ below (va_Qi (fun r u => (r = nI 1 ∧ u = (I, R, J)) ∨ (r = nI 0 ∧ u = (I, R, J))) (zB D vwCl 25 q (zMd q cA) sz) (zA 25 q sz)) ([.ref (q 0)] : List Value).toArray s 0 0 (zA 25 q sz)) (F0 m 58 ls []) := by
          intro x_291 hx_291 x_292 hx_292 H locs hP hD hS ls hl
          refine lv_iload_n hx hb dX11_leadRound_58 rfl (lv_at hl 2 rfl) ?_
          refine lv_iconst (v := (-1)) hx hb dX11_leadRound_59 (by decide +kernel) ?_
          refine lv_icmp_eq (tgt := 65) hx hb dX11_leadRound_60 (by decide) (fun c_294 => ?_) (fun c_294 => ?_)
          · have t_c_294 := z_eqT c_294
            have f_295 : zR (-1) (-1) (x_291) := zR_eqx t_c_294 zk_m1
            obtain ⟨v_296, ev_296⟩ : ∃ y : Int32, y = x_235 + nI 1 := ⟨_, rfl⟩
            have hv_296 : zR 1 5 v_296 := ev_296 ▸ zR_add f_241 zk_1 (by decide)
            have mv_296 : v_296.toInt = (x_235).toInt + 1 := by rw [ev_296, zR_addE f_241 zk_1 (by decide)]; rfl
            refine lv_iinc (v := v_296) (lv' := [(1, .int (v_296)), (0, .ref (q 0)), (2, .int (x_291)), (3, .int (x_292))]) hx hb dX11_leadRound_65 hl (k := 1) rfl (ev_296 ▸ rfl) (by decide) rfl (fun ls hl => ?_)
            refine lv_goto (tgt := 2) hx hb dX11_leadRound_68 (by decide) ?_
            exact ih_238 (v_296) (zR_w hv_296 (by decide)) (z2_up mv_296 (by decide) hN_237) _ _ hP hD hS _ (lv_sub hl [1, 0] rfl)
          · have t_c_294 := z_eqF c_294
            have f_297 : zR 0 4 (x_291) := zR_nex t_c_294 hx_291 zk_m1 (by decide)
            refine lv_iconst (v := nI 1) hx hb dX11_leadRound_63 (by decide +kernel) ?_
            exact z_zret (v := nI 1) hx hb hr hlocks hP hD hS (by decide +kernel) dX11_leadRound_64 (Or.inl ⟨rfl, rfl⟩)
        have loop_300 : ∀ N : Nat, ∀ x_298 : Int32, zR (-1) 4 x_298 → ∀ x_299 : Int32, zR 0 6 x_299 → (2147483648 - (x_299).toInt).toNat < N → ∀ (H : Heap) (locs : List Loc), va_P D vwCl (zw 25 q (zMd q cA) I R J) H → va_D (zA 25 q sz) (zw 25 q (zMd q cA) I R J) → va_S (zA 25 q sz) s.heap H locs → ∀ ls : Array Slot, lv_has ls 4 [(0, .ref (q 0)), (1, .int (x_235)), (2, .int (x_298)), (3, .int (x_299))] → W p l e ({ frames := 0, cells := 0, slots := 0, locals := 0 } : Room) s m ([.ref (q 0)] : List Value).toArray below meth c H locs 0 0 (MQ below (va_Qi (fun r u => (r = nI 1 ∧ u = (I, R, J)) ∨ (r = nI 0 ∧ u = (I, R, J))) (zB D vwCl 25 q (zMd q cA) sz) (zA 25 q sz)) ([.ref (q 0)] : List Value).toArray s 0 0 (zA 25 q sz)) (F0 m 16 ls []) := by
          intro N
          induction N with
          | zero => intro x_298 hx_298 x_299 hx_299 hN; exact absurd hN (Nat.not_lt_zero _)
          | succ N ih_302 =>
            intro x_298 hx_298 x_299 hx_299 hN_301 H locs hP hD hS ls hl
            refine lv_iload_n hx hb dX11_leadRound_16 rfl (lv_at hl 3 rfl) ?_
            refine lv_iconst (v := nI 5) hx hb dX11_leadRound_17 (by decide +kernel) ?_
            refine lv_icmp_gt (tgt := 58) hx hb dX11_leadRound_18 (by decide) (fun c_303 => ?_) (fun c_303 => ?_)
            · have t_c_303 := z_ltT c_303
              have f_304 : zR 6 6 (x_299) := zR_lty t_c_303 zk_5 hx_299 (by decide)
              exact t_293 (x_298) hx_298 (x_299) (zR_w f_304 (by decide)) _ _ hP hD hS _ (lv_sub hl [0, 1, 2, 3] rfl)
            · have t_c_303 := z_ltF c_303
              have f_305 : zR 0 5 (x_299) := zR_lex t_c_303 hx_299 zk_5 (by decide)
              refine lv_iload_n hx hb dX11_leadRound_21 rfl (lv_at hl 2 rfl) ?_
              refine lv_iconst (v := (-1)) hx hb dX11_leadRound_22 (by decide +kernel) ?_
              refine lv_icmp_eq (tgt := 58) hx hb dX11_leadRound_23 (by decide) (fun c_306 => ?_) (fun c_306 => ?_)
              · have t_c_306 := z_eqT c_306
                have f_307 : zR (-1) (-1) (x_298) := zR_eqx t_c_306 zk_m1
                exact t_293 (x_298) (zR_w f_307 (by decide)) (x_299) (zR_w f_305 (by decide)) _ _ hP hD hS _ (lv_sub hl [0, 1, 2, 3] rfl)
              · have t_c_306 := z_eqF c_306
                have f_308 : zR 0 4 (x_298) := zR_nex t_c_306 hx_298 zk_m1 (by decide)
                refine lv_aload_n hx hb dX11_leadRound_26 rfl (lv_at hl 0 rfl) ?_
                refine z_get hx hb ht hown hK hP ziX11 rfl 0 (by decide) 32 (by decide) hw_5_219 rfl (v := .ref (q 19)) rfl dX11_leadRound_27 ?_
                refine lv_iload_n hx hb dX11_leadRound_30 rfl (lv_at hl 2 rfl) ?_
                refine z_iald hx hb hK hP 19 (by decide) 18 rfl rfl (zR_vin f_308 (by decide)) dX11_leadRound_31 ?_
                refine z_eqi (y := R 19 (x_298).toNatClampNeg) rfl ?_
                have f_309 : zR (-1) 23 (R 19 (x_298).toNatClampNeg) := mR hI 19 (x_298).toNatClampNeg
                refine lv_iconst (v := (-1)) hx hb dX11_leadRound_32 (by decide +kernel) ?_
                have t_315 : ∀ x_314 : Int32, zR (-1) 4 x_314 → ∀ (H : Heap) (locs : List Loc), va_P D vwCl (zw 25 q (zMd q cA) I R J) H → va_D (zA 25 q sz) (zw 25 q (zMd q cA) I R J) → va_S (zA 25 q sz) s.heap H locs → ∀ ls : Array Slot, lv_has ls 4 [(0, .ref (q 0)), (1, .int (x_235)), (2, .int (x_298)), (3, .int (x_299))] → W p l e ({ frames := 0, cells := 0, slots := 0, locals := 0 } : Room) s m ([.ref (q 0)] : List Value).toArray below meth c H locs 0 0 (MQ below (va_Qi (fun r u => (r = nI 1 ∧ u = (I, R, J)) ∨ (r = nI 0 ∧ u = (I, R, J))) (zB D vwCl 25 q (zMd q cA) sz) (zA 25 q sz)) ([.ref (q 0)] : List Value).toArray s 0 0 (zA 25 q sz)) (F0 m 51 ls [.int (x_314)]) := by
                  intro x_314 hx_314 H locs hP hD hS ls hl
                  refine lv_istore_n (lv' := [(2, .int (x_314)), (0, .ref (q 0)), (1, .int (x_235)), (3, .int (x_299))]) hx hb dX11_leadRound_51 rfl hl (by decide) rfl (fun ls hl => ?_)
                  obtain ⟨v_316, ev_316⟩ : ∃ y : Int32, y = x_299 + nI 1 := ⟨_, rfl⟩
                  have hv_316 : zR 1 6 v_316 := ev_316 ▸ zR_add f_305 zk_1 (by decide)
                  have mv_316 : v_316.toInt = (x_299).toInt + 1 := by rw [ev_316, zR_addE f_305 zk_1 (by decide)]; rfl
                  refine lv_iinc (v := v_316) (lv' := [(3, .int (v_316)), (2, .int (x_314)), (0, .ref (q 0)), (1, .int (x_235))]) hx hb dX11_leadRound_52 hl (k := 3) rfl (ev_316 ▸ rfl) (by decide) rfl (fun ls hl => ?_)
                  refine lv_goto (tgt := 16) hx hb dX11_leadRound_55 (by decide) ?_
                  exact ih_302 (x_314) hx_314 (v_316) (zR_w hv_316 (by decide)) (z2_up mv_316 (by decide) hN_301) _ _ hP hD hS _ (lv_sub hl [2, 3, 1, 0] rfl)
                refine lv_icmp_ne (tgt := 40) hx hb dX11_leadRound_33 (by decide) (fun c_310 => ?_) (fun c_310 => ?_)
                · have t_c_310 := z_eqF c_310
                  have f_317 : zR 0 23 (R 19 (x_298).toNatClampNeg) := zR_nex t_c_310 f_309 zk_m1 (by decide)
                  refine lv_aload_n hx hb dX11_leadRound_40 rfl (lv_at hl 0 rfl) ?_
                  refine z_get hx hb ht hown hK hP ziX11 rfl 0 (by decide) 20 (by decide) hw_5_207 rfl (v := .ref (q 12)) rfl dX11_leadRound_41 ?_
                  refine lv_aload_n hx hb dX11_leadRound_44 rfl (lv_at hl 0 rfl) ?_
                  refine z_get hx hb ht hown hK hP ziX11 rfl 0 (by decide) 32 (by decide) hw_5_219 rfl (v := .ref (q 19)) rfl dX11_leadRound_45 ?_
                  refine lv_iload_n hx hb dX11_leadRound_48 rfl (lv_at hl 2 rfl) ?_
                  refine z_iald hx hb hK hP 19 (by decide) 18 rfl rfl (zR_vin f_308 (by decide)) dX11_leadRound_49 ?_
                  refine z_eqi (y := R 19 (x_298).toNatClampNeg) rfl ?_
                  refine z_iald hx hb hK hP 12 (by decide) 11 rfl rfl (zR_vin f_317 (by decide)) dX11_leadRound_50 ?_
                  refine z_eqi (y := R 12 (R 19 (x_298).toNatClampNeg).toNatClampNeg) rfl ?_
                  have f_318 : zR 0 4 (R 12 (R 19 (x_298).toNatClampNeg).toNatClampNeg) := mR hI 12 (R 19 (x_298).toNatClampNeg).toNatClampNeg
                  exact t_315 (R 12 (R 19 (x_298).toNatClampNeg).toNatClampNeg) (zR_w f_318 (by decide)) _ _ hP hD hS _ (lv_sub hl [0, 1, 2, 3] rfl)
                · have t_c_310 := z_eqT c_310
                  have f_319 : zR (-1) (-1) (R 19 (x_298).toNatClampNeg) := zR_eqx t_c_310 zk_m1
                  refine lv_iconst (v := (-1)) hx hb dX11_leadRound_36 (by decide +kernel) ?_
                  refine lv_goto (tgt := 51) hx hb dX11_leadRound_37 (by decide) ?_
                  exact t_315 ((-1)) (zR_w zk_m1 (by decide)) _ _ hP hD hS _ (lv_sub hl [0, 1, 2, 3] rfl)
        exact loop_300 _ (x_235) (zR_w f_241 (by decide)) (nI 0) (zR_w zk_0 (by decide)) (Nat.lt_succ_self _) _ _ hP hD hS _ (lv_sub hl [2, 3, 1, 0] rfl)
  exact loop_236 _ (nI 0) (zR_w zk_0 (by decide)) (Nat.lt_succ_self _) _ _ hP hD hS _ (lv_sub hl [1, 0] rfl)
set_option maxHeartbeats 4000000 in
set_option maxRecDepth 100000 in
theorem mk_X11_latest_3 (l : Launch) (D : va_G) (q : Nat → Nat) (cA : Nat → ClassId) (F : Nat → Nat → Int32) (I R : Nat → Nat → Int32) (J : Nat → Nat → Int64) (hI : mInv F (I, R, J)) (pa0 : Int32) (hpa0 : zR 0 4 pa0) (pa1 : Int32) (hpa1 : zR 0 5 pa1) (pa2 : Int32) (hpa2 : zR 0 5 pa2) : zMi l D vwCl (zMtys cA) 25 q (zMd q cA) yX11_latest cX11_latest 5 (some .int) ({ frames := 2, cells := 0, slots := 0, locals := 43 } : Room) [.ref (q 0), .int (pa0), .int (pa1), .int (pa2)] (I, R, J) (fun r u => zR (-1) 23 r ∧ u = (I, R, J)) := by
  intro sz
  refine z_body (by decide +kernel) (Nat.le_of_ble_eq_true rfl) (fun p e s m below meth c ls hx hb hml hr ht hown hlocks hsz hK hP hD hS hl => ?_)
  have hA : ∀ a, s.heap.size ≤ a → zA 25 q sz a := fun a h => Or.inr (hsz ▸ h)
  have hl : lv_has ls 5 [(0, .ref (q 0)), (1, .int (pa0)), (2, .int (pa1)), (3, .int (pa2))] := hl
  refine lv_aload_n hx hb dX11_latest_0 rfl (lv_at hl 0 rfl) ?_
  refine z_get hx hb ht hown hK hP ziX11 rfl 0 (by decide) 26 (by decide) hw_5_213 rfl (v := .int (I 0 26)) rfl dX11_latest_1 ?_
  have f_1 : zR 0 24 (I 0 26) := mI hI 0 26
  refine lv_iconst (v := nI 1) hx hb dX11_latest_4 (by decide +kernel) ?_
  refine lv_isub hx hb dX11_latest_5 ?_
  refine z_subc (-1) 23 (-1) f_1 zk_1 (by decide) (fun v_2 hv_2 mv_2 => ?_)
  refine lv_istore (lv' := [(4, .int (v_2)), (0, .ref (q 0)), (1, .int (pa0)), (2, .int (pa1)), (3, .int (pa2))]) hx hb dX11_latest_6 hl (by decide) rfl (fun ls hl => ?_)
  have loop_29 : ∀ N : Nat, ∀ x_28 : Int32, zR (-1) 23 x_28 → ((x_28).toInt + 2147483649).toNat < N → ∀ (H : Heap) (locs : List Loc), va_P D vwCl (zw 25 q (zMd q cA) I R J) H → va_D (zA 25 q sz) (zw 25 q (zMd q cA) I R J) → va_S (zA 25 q sz) s.heap H locs → ∀ ls : Array Slot, lv_has ls 5 [(0, .ref (q 0)), (1, .int (pa0)), (2, .int (pa1)), (3, .int (pa2)), (4, .int (x_28))] → W p l e ({ frames := 2, cells := 0, slots := 0, locals := 43 } : Room) s m ([.ref (q 0), .int (pa0), .int (pa1), .int (pa2)] : List Value).toArray below meth c H locs 0 0 (MQ below (va_Qi (fun r u => zR (-1) 23 r ∧ u = (I, R, J)) (zB D vwCl 25 q (zMd q cA) sz) (zA 25 q sz)) ([.ref (q 0), .int (pa0), .int (pa1), .int (pa2)] : List Value).toArray s 0 0 (zA 25 q sz)) (F0 m 8 ls []) := by
    intro N
    induction N with
    | zero => intro x_28 hx_28 hN; exact absurd hN (Nat.not_lt_zero _)
    | succ N ih_31 =>
      intro x_28 hx_28 hN_30 H locs hP hD hS ls hl
      refine lv_iload hx hb dX11_latest_8 (lv_at hl 4 rfl) ?_
      refine lv_if_lt (tgt := 54) hx hb dX11_latest_10 (by decide) (fun c_32 => ?_) (fun c_32 => ?_)
      · have t_c_32 := z_ltT c_32
        have f_33 : zR (-1) (-1) (x_28) := zR_ltx t_c_32 hx_28 zk_z (by decide)
        refine lv_iconst (v := (-1)) hx hb dX11_latest_54 (by decide +kernel) ?_
        exact z_iret (v := (-1)) hx hb hr hlocks hP hD hS dX11_latest_55 ⟨(zR_w zk_m1 (by decide)), rfl⟩
      · have t_c_32 := z_ltF c_32
        have f_34 : zR 0 23 (x_28) := zR_ley t_c_32 zk_z hx_28 (by decide)
        refine lv_aload_n hx hb dX11_latest_13 rfl (lv_at hl 0 rfl) ?_
        refine lv_iload hx hb dX11_latest_14 (lv_at hl 4 rfl) ?_
        refine lv_iload_n hx hb dX11_latest_16 rfl (lv_at hl 3 rfl) ?_
        refine z_callVi (k := 0) (As := [.int (x_28), .int (pa2)]) (rest := []) hx hb hml hown ht (mk_X11_isEdge_1 l D q cA F _ _ _ hI (x_28) f_34 (pa2) hpa2) hw_7_124 hmX11_isEdge ⟨rfl, rfl⟩ (na := 2) rfl (by decide +kernel) (by decide) (by decide) rfl rfl hK hP hD hS hA hl.1 rfl (Nat.le_of_ble_eq_true rfl) ⟨Nat.zero_le _, Nat.zero_le _⟩ dX11_latest_17 (fun r_35 I_35 R_35 J_35 H locs hp_35 hP hD hS _ _ => ?_)
        rcases hp_35 with ⟨rfl, hu_35⟩ | ⟨rfl, hu_35⟩
        · cases hu_35
          refine lv_if_eq (tgt := 48) hx hb dX11_latest_20 (by decide) (fun c_0 => absurd c_0 (zD_ne zk_1 zk_z (by decide))) (fun _ => ?_)
          refine lv_aload_n hx hb dX11_latest_23 rfl (lv_at hl 0 rfl) ?_
          refine z_get hx hb ht hown hK hP ziX11 rfl 0 (by decide) 18 (by decide) hw_5_205 rfl (v := .ref (q 10)) rfl dX11_latest_24 ?_
          refine lv_iload hx hb dX11_latest_27 (lv_at hl 4 rfl) ?_
          refine z_iald hx hb hK hP 10 (by decide) 9 rfl rfl (zR_vin f_34 (by decide)) dX11_latest_29 ?_
          refine z_eqi (y := R 10 (x_28).toNatClampNeg) rfl ?_
          have f_36 : zR 0 4 (R 10 (x_28).toNatClampNeg) := mR hI 10 (x_28).toNatClampNeg
          refine lv_iload_n hx hb dX11_latest_30 rfl (lv_at hl 1 rfl) ?_
          refine lv_icmp_ne (tgt := 48) hx hb dX11_latest_31 (by decide) (fun c_37 => ?_) (fun c_37 => ?_)
          · have t_c_37 := z_eqF c_37
            obtain ⟨v_38, ev_38⟩ : ∃ y : Int32, y = x_28 + (-1) := ⟨_, rfl⟩
            have hv_38 : zR (-1) 22 v_38 := ev_38 ▸ zR_add f_34 zk_m1 (by decide)
            have mv_38 : v_38.toInt = (x_28).toInt + (-1) := by rw [ev_38, zR_addE f_34 zk_m1 (by decide)]; rfl
            refine lv_iinc (v := v_38) (lv' := [(4, .int (v_38)), (0, .ref (q 0)), (1, .int (pa0)), (2, .int (pa1)), (3, .int (pa2))]) hx hb dX11_latest_48 hl (k := 4) rfl (ev_38 ▸ rfl) (by decide) rfl (fun ls hl => ?_)
            refine lv_goto (tgt := 8) hx hb dX11_latest_51 (by decide) ?_
            exact ih_31 (v_38) (zR_w hv_38 (by decide)) (z2_dn mv_38 (by decide) hN_30) _ _ hP hD hS _ (lv_sub hl [1, 2, 3, 4, 0] rfl)
          · have t_c_37 := z_eqT c_37
            refine lv_aload_n hx hb dX11_latest_34 rfl (lv_at hl 0 rfl) ?_
            refine z_get hx hb ht hown hK hP ziX11 rfl 0 (by decide) 20 (by decide) hw_5_207 rfl (v := .ref (q 12)) rfl dX11_latest_35 ?_
            refine lv_iload hx hb dX11_latest_38 (lv_at hl 4 rfl) ?_
            refine z_iald hx hb hK hP 12 (by decide) 11 rfl rfl (zR_vin f_34 (by decide)) dX11_latest_40 ?_
            refine z_eqi (y := R 12 (x_28).toNatClampNeg) rfl ?_
            have f_39 : zR 0 4 (R 12 (x_28).toNatClampNeg) := mR hI 12 (x_28).toNatClampNeg
            refine lv_iload_n hx hb dX11_latest_41 rfl (lv_at hl 2 rfl) ?_
            refine lv_icmp_ne (tgt := 48) hx hb dX11_latest_42 (by decide) (fun c_40 => ?_) (fun c_40 => ?_)
            · have t_c_40 := z_eqF c_40
              obtain ⟨v_41, ev_41⟩ : ∃ y : Int32, y = x_28 + (-1) := ⟨_, rfl⟩
              have hv_41 : zR (-1) 22 v_41 := ev_41 ▸ zR_add f_34 zk_m1 (by decide)
              have mv_41 : v_41.toInt = (x_28).toInt + (-1) := by rw [ev_41, zR_addE f_34 zk_m1 (by decide)]; rfl
              refine lv_iinc (v := v_41) (lv' := [(4, .int (v_41)), (0, .ref (q 0)), (1, .int (pa0)), (2, .int (pa1)), (3, .int (pa2))]) hx hb dX11_latest_48 hl (k := 4) rfl (ev_41 ▸ rfl) (by decide) rfl (fun ls hl => ?_)
              refine lv_goto (tgt := 8) hx hb dX11_latest_51 (by decide) ?_
              exact ih_31 (v_41) (zR_w hv_41 (by decide)) (z2_dn mv_41 (by decide) hN_30) _ _ hP hD hS _ (lv_sub hl [1, 2, 3, 4, 0] rfl)
            · have t_c_40 := z_eqT c_40
              have f_42 : zR 0 4 (pa1) := zR_eqy t_c_40 f_39
              refine lv_iload hx hb dX11_latest_45 (lv_at hl 4 rfl) ?_
              exact z_iret (v := x_28) hx hb hr hlocks hP hD hS dX11_latest_47 ⟨(zR_w f_34 (by decide)), rfl⟩
        · cases hu_35
          refine lv_if_eq (tgt := 48) hx hb dX11_latest_20 (by decide) (fun _ => ?_) (fun c_0 => absurd (zD_eq zk_0 zk_z) c_0)
          obtain ⟨v_43, ev_43⟩ : ∃ y : Int32, y = x_28 + (-1) := ⟨_, rfl⟩
          have hv_43 : zR (-1) 22 v_43 := ev_43 ▸ zR_add f_34 zk_m1 (by decide)
          have mv_43 : v_43.toInt = (x_28).toInt + (-1) := by rw [ev_43, zR_addE f_34 zk_m1 (by decide)]; rfl
          refine lv_iinc (v := v_43) (lv' := [(4, .int (v_43)), (0, .ref (q 0)), (1, .int (pa0)), (2, .int (pa1)), (3, .int (pa2))]) hx hb dX11_latest_48 hl (k := 4) rfl (ev_43 ▸ rfl) (by decide) rfl (fun ls hl => ?_)
          refine lv_goto (tgt := 8) hx hb dX11_latest_51 (by decide) ?_
          exact ih_31 (v_43) (zR_w hv_43 (by decide)) (z2_dn mv_43 (by decide) hN_30) _ _ hP hD hS _ (lv_sub hl [1, 2, 3, 4, 0] rfl)
  exact loop_29 _ (v_2) hv_2 (Nat.lt_succ_self _) _ _ hP hD hS _ (lv_sub hl [1, 2, 3, 4, 0] rfl)
set_option maxHeartbeats 4000000 in
set_option maxRecDepth 100000 in
theorem mk_X11_staying_1 (l : Launch) (D : va_G) (q : Nat → Nat) (cA : Nat → ClassId) (F : Nat → Nat → Int32) (I R : Nat → Nat → Int32) (J : Nat → Nat → Int64) (hI : mInv F (I, R, J)) (pa0 : Int32) (hpa0 : zR 0 5 pa0) : zMi l D vwCl (zMtys cA) 25 q (zMd q cA) yX11_staying cX11_staying 11 (some .int) ({ frames := 3, cells := 0, slots := 0, locals := 67 } : Room) [.ref (q 0), .int (pa0)] (I, R, J) (fun _ u => (mInv F u ∧ u.2.2 = J)) := by
  intro sz
  refine z_body (by decide +kernel) (Nat.le_of_ble_eq_true rfl) (fun p e s m below meth c ls hx hb hml hr ht hown hlocks hsz hK hP hD hS hl => ?_)
  have hA : ∀ a, s.heap.size ≤ a → zA 25 q sz a := fun a h => Or.inr (hsz ▸ h)
  have hl : lv_has ls 11 [(0, .ref (q 0)), (1, .int (pa0))] := hl
  refine lv_iconst (v := nI 0) hx hb dX11_staying_0 (by decide +kernel) ?_
  refine lv_istore_n (lv' := [(2, .int (nI 0)), (0, .ref (q 0)), (1, .int (pa0))]) hx hb dX11_staying_1 rfl hl (by decide) rfl (fun ls hl => ?_)
  refine lv_iconst (v := nI 1) hx hb dX11_staying_2 (by decide +kernel) ?_
  refine lv_istore_n (lv' := [(3, .int (nI 1)), (2, .int (nI 0)), (0, .ref (q 0)), (1, .int (pa0))]) hx hb dX11_staying_3 rfl hl (by decide) rfl (fun ls hl => ?_)
  refine lv_aload_n hx hb dX11_staying_4 rfl (lv_at hl 2 rfl) ?_
  refine z_get hx hb ht hown hK hP ziX11 rfl 0 (by decide) 1 (by decide) hw_5_188 rfl (v := .ref (q 1)) rfl dX11_staying_5 ?_
  refine lv_iconst (v := nI 3) hx hb dX11_staying_8 (by decide +kernel) ?_
  refine z_iald hx hb hK hP 1 (by decide) 0 rfl rfl (zR_vin zk_3 (by decide)) dX11_staying_9 ?_
  refine z_eqi (y := R 1 (nI 3).toNatClampNeg) rfl ?_
  have f_1 : zR 0 5 (R 1 (nI 3).toNatClampNeg) := mR hI 1 3
  refine lv_istore (lv' := [(4, .int (R 1 (nI 3).toNatClampNeg)), (3, .int (nI 1)), (2, .int (nI 0)), (0, .ref (q 0)), (1, .int (pa0))]) hx hb dX11_staying_10 hl (by decide) rfl (fun ls hl => ?_)
  refine lv_iconst (v := nI 0) hx hb dX11_staying_12 (by decide +kernel) ?_
  refine lv_istore (lv' := [(5, .int (nI 0)), (4, .int (R 1 (nI 3).toNatClampNeg)), (3, .int (nI 1)), (2, .int (nI 0)), (0, .ref (q 0)), (1, .int (pa0))]) hx hb dX11_staying_13 hl (by decide) rfl (fun ls hl => ?_)
  have loop_81 : ∀ N : Nat, ∀ x_79 : Int32, ∀ x_80 : Int32, zR 0 5 x_80 → (2147483648 - (x_80).toInt).toNat < N → ∀ (H : Heap) (locs : List Loc), va_P D vwCl (zw 25 q (zMd q cA) I R J) H → va_D (zA 25 q sz) (zw 25 q (zMd q cA) I R J) → va_S (zA 25 q sz) s.heap H locs → ∀ ls : Array Slot, lv_has ls 11 [(0, .ref (q 0)), (1, .int (pa0)), (2, .int (nI 0)), (3, .int (x_79)), (4, .int (R 1 (nI 3).toNatClampNeg)), (5, .int (x_80))] → W p l e ({ frames := 3, cells := 0, slots := 0, locals := 67 } : Room) s m ([.ref (q 0), .int (pa0)] : List Value).toArray below meth c H locs 0 0 (MQ below (va_Qi (fun _ u => (mInv F u ∧ u.2.2 = J)) (zB D vwCl 25 q (zMd q cA) sz) (zA 25 q sz)) ([.ref (q 0), .int (pa0)] : List Value).toArray s 0 0 (zA 25 q sz)) (F0 m 15 ls []) := by
    intro N
    induction N with
    | zero => intro x_79 x_80 hx_80 hN; exact absurd hN (Nat.not_lt_zero _)
    | succ N ih_83 =>
      intro x_79 x_80 hx_80 hN_82 H locs hP hD hS ls hl
      refine lv_iload hx hb dX11_staying_15 (lv_at hl 5 rfl) ?_
      refine lv_iload hx hb dX11_staying_17 (lv_at hl 4 rfl) ?_
      refine lv_icmp_ge (tgt := 35) hx hb dX11_staying_19 (by decide) (fun c_84 => ?_) (fun c_84 => ?_)
      · have t_c_84 := z_leT c_84
        refine lv_iconst (v := nI 0) hx hb dX11_staying_35 (by decide +kernel) ?_
        refine lv_istore (lv' := [(5, .int (nI 0)), (0, .ref (q 0)), (1, .int (pa0)), (2, .int (nI 0)), (3, .int (x_79)), (4, .int (R 1 (nI 3).toNatClampNeg))]) hx hb dX11_staying_36 hl (by decide) rfl (fun ls hl => ?_)
        have loop_745 : ∀ N : Nat, ∀ x_742 : Int32, ∀ x_743 : Int32, zR 0 2147483647 x_743 → ∀ R_744 : Nat → Nat → Int32, mInv F (I, R_744, J) → (2147483648 - (x_743).toInt).toNat < N → ∀ (H : Heap) (locs : List Loc), va_P D vwCl (zw 25 q (zMd q cA) I R_744 J) H → va_D (zA 25 q sz) (zw 25 q (zMd q cA) I R_744 J) → va_S (zA 25 q sz) s.heap H locs → ∀ ls : Array Slot, lv_has ls 11 [(0, .ref (q 0)), (1, .int (pa0)), (2, .int (x_742)), (3, .int (x_79)), (4, .int (R 1 (nI 3).toNatClampNeg)), (5, .int (x_743))] → W p l e ({ frames := 3, cells := 0, slots := 0, locals := 67 } : Room) s m ([.ref (q 0), .int (pa0)] : List Value).toArray below meth c H locs 0 0 (MQ below (va_Qi (fun _ u => (mInv F u ∧ u.2.2 = J)) (zB D vwCl 25 q (zMd q cA) sz) (zA 25 q sz)) ([.ref (q 0), .int (pa0)] : List Value).toArray s 0 0 (zA 25 q sz)) (F0 m 38 ls []) := by
          intro N
          induction N with
          | zero => intro x_742 x_743 hx_743 R_744 hI_744 hN; exact absurd hN (Nat.not_lt_zero _)
          | succ N ih_747 =>
            intro x_742 x_743 hx_743 R_744 hI_744 hN_746 H locs hP hD hS ls hl
            refine lv_iload hx hb dX11_staying_38 (lv_at hl 5 rfl) ?_
            refine lv_iload_n hx hb dX11_staying_40 rfl (lv_at hl 3 rfl) ?_
            refine lv_icmp_ge (tgt := 225) hx hb dX11_staying_41 (by decide) (fun c_748 => ?_) (fun c_748 => ?_)
            · have t_c_748 := z_leT c_748
              refine lv_iload_n hx hb dX11_staying_225 rfl (lv_at hl 2 rfl) ?_
              exact z_iret (v := x_742) hx hb hr hlocks hP hD hS dX11_staying_226 ⟨hI_744, rfl⟩
            · have t_c_748 := z_leF c_748
              have f_749 : zR 0 2147483646 (x_743) := zR_ltx t_c_748 hx_743 (zR_any (x_79)) (by decide)
              have f_750 : zR 1 2147483647 (x_79) := zR_lty t_c_748 hx_743 (zR_any (x_79)) (by decide)
              refine lv_iload hx hb dX11_staying_44 (lv_at hl 5 rfl) ?_
              refine lv_istore (lv' := [(6, .int (x_743)), (0, .ref (q 0)), (1, .int (pa0)), (2, .int (x_742)), (3, .int (x_79)), (4, .int (R 1 (nI 3).toNatClampNeg)), (5, .int (x_743))]) hx hb dX11_staying_46 hl (by decide) rfl (fun ls hl => ?_)
              refine lv_iconst (v := nI 0) hx hb dX11_staying_48 (by decide +kernel) ?_
              refine lv_istore (lv' := [(7, .int (nI 0)), (6, .int (x_743)), (0, .ref (q 0)), (1, .int (pa0)), (2, .int (x_742)), (3, .int (x_79)), (4, .int (R 1 (nI 3).toNatClampNeg)), (5, .int (x_743))]) hx hb dX11_staying_49 hl (by decide) rfl (fun ls hl => ?_)
              refine lv_iconst (v := nI 1) hx hb dX11_staying_51 (by decide +kernel) ?_
              refine lv_istore (lv' := [(8, .int (nI 1)), (7, .int (nI 0)), (6, .int (x_743)), (0, .ref (q 0)), (1, .int (pa0)), (2, .int (x_742)), (3, .int (x_79)), (4, .int (R 1 (nI 3).toNatClampNeg)), (5, .int (x_743))]) hx hb dX11_staying_52 hl (by decide) rfl (fun ls hl => ?_)
              refine lv_iconst (v := nI 0) hx hb dX11_staying_54 (by decide +kernel) ?_
              refine lv_istore (lv' := [(9, .int (nI 0)), (8, .int (nI 1)), (7, .int (nI 0)), (6, .int (x_743)), (0, .ref (q 0)), (1, .int (pa0)), (2, .int (x_742)), (3, .int (x_79)), (4, .int (R 1 (nI 3).toNatClampNeg)), (5, .int (x_743))]) hx hb dX11_staying_55 hl (by decide) rfl (fun ls hl => ?_)
              have loop_891 : ∀ N : Nat, ∀ x_886 : Int32, zR 0 2147483646 x_886 → ∀ x_887 : Int32, ∀ x_888 : Int32, zR 0 1 x_888 → ∀ x_889 : Int32, zR 0 5 x_889 → ∀ R_890 : Nat → Nat → Int32, mInv F (I, R_890, J) → (2147483648 - (x_889).toInt).toNat < N → ∀ (H : Heap) (locs : List Loc), va_P D vwCl (zw 25 q (zMd q cA) I R_890 J) H → va_D (zA 25 q sz) (zw 25 q (zMd q cA) I R_890 J) → va_S (zA 25 q sz) s.heap H locs → ∀ ls : Array Slot, lv_has ls 11 [(0, .ref (q 0)), (1, .int (pa0)), (2, .int (x_742)), (3, .int (x_79)), (4, .int (R 1 (nI 3).toNatClampNeg)), (5, .int (x_743)), (6, .int (x_886)), (7, .int (x_887)), (8, .int (x_888)), (9, .int (x_889))] → W p l e ({ frames := 3, cells := 0, slots := 0, locals := 67 } : Room) s m ([.ref (q 0), .int (pa0)] : List Value).toArray below meth c H locs 0 0 (MQ below (va_Qi (fun _ u => (mInv F u ∧ u.2.2 = J)) (zB D vwCl 25 q (zMd q cA) sz) (zA 25 q sz)) ([.ref (q 0), .int (pa0)] : List Value).toArray s 0 0 (zA 25 q sz)) (F0 m 57 ls []) := by
                intro N
                induction N with
                | zero => intro x_886 hx_886 x_887 x_888 hx_888 x_889 hx_889 R_890 hI_890 hN; exact absurd hN (Nat.not_lt_zero _)
                | succ N ih_893 =>
                  intro x_886 hx_886 x_887 x_888 hx_888 x_889 hx_889 R_890 hI_890 hN_892 H locs hP hD hS ls hl
                  refine lv_iload hx hb dX11_staying_57 (lv_at hl 9 rfl) ?_
                  refine lv_iload hx hb dX11_staying_59 (lv_at hl 4 rfl) ?_
                  refine lv_icmp_ge (tgt := 174) hx hb dX11_staying_61 (by decide) (fun c_894 => ?_) (fun c_894 => ?_)
                  · have t_c_894 := z_leT c_894
                    refine lv_iload hx hb dX11_staying_174 (lv_at hl 8 rfl) ?_
                    have t_942 : ∀ x_941 : Int32, ∀ (H : Heap) (locs : List Loc), va_P D vwCl (zw 25 q (zMd q cA) I R_890 J) H → va_D (zA 25 q sz) (zw 25 q (zMd q cA) I R_890 J) → va_S (zA 25 q sz) s.heap H locs → ∀ ls : Array Slot, lv_has ls 11 [(0, .ref (q 0)), (1, .int (pa0)), (2, .int (x_941)), (3, .int (x_79)), (4, .int (R 1 (nI 3).toNatClampNeg)), (5, .int (x_743)), (6, .int (x_886)), (7, .int (x_887)), (8, .int (x_888)), (9, .int (x_889))] → W p l e ({ frames := 3, cells := 0, slots := 0, locals := 67 } : Room) s m ([.ref (q 0), .int (pa0)] : List Value).toArray below meth c H locs 0 0 (MQ below (va_Qi (fun _ u => (mInv F u ∧ u.2.2 = J)) (zB D vwCl 25 q (zMd q cA) sz) (zA 25 q sz)) ([.ref (q 0), .int (pa0)] : List Value).toArray s 0 0 (zA 25 q sz)) (F0 m 219 ls []) := by
                      intro x_941 H locs hP hD hS ls hl
                      obtain ⟨v_943, ev_943⟩ : ∃ y : Int32, y = x_743 + nI 1 := ⟨_, rfl⟩
                      have hv_943 : zR 1 2147483647 v_943 := ev_943 ▸ zR_add f_749 zk_1 (by decide)
                      have mv_943 : v_943.toInt = (x_743).toInt + 1 := by rw [ev_943, zR_addE f_749 zk_1 (by decide)]; rfl
                      refine lv_iinc (v := v_943) (lv' := [(5, .int (v_943)), (0, .ref (q 0)), (1, .int (pa0)), (2, .int (x_941)), (3, .int (x_79)), (4, .int (R 1 (nI 3).toNatClampNeg)), (6, .int (x_886)), (7, .int (x_887)), (8, .int (x_888)), (9, .int (x_889))]) hx hb dX11_staying_219 hl (k := 5) rfl (ev_943 ▸ rfl) (by decide) rfl (fun ls hl => ?_)
                      refine lv_goto (tgt := 38) hx hb dX11_staying_222 (by decide) ?_
                      exact ih_747 (x_941) (v_943) (zR_w hv_943 (by decide)) _ hI_890 (z2_up mv_943 (by decide) hN_746) _ _ hP hD hS _ (lv_sub hl [1, 2, 3, 4, 5, 0] rfl)
                    refine lv_if_eq (tgt := 219) hx hb dX11_staying_176 (by decide) (fun c_925 => ?_) (fun c_925 => ?_)
                    · have t_c_925 := z_eqT c_925
                      have f_944 : zR 0 0 (x_888) := zR_eqx t_c_925 zk_z
                      exact t_942 (x_742) _ _ hP hD hS _ (lv_sub hl [0, 1, 2, 3, 4, 5, 6, 7, 8, 9] rfl)
                    · have t_c_925 := z_eqF c_925
                      have f_945 : zR 1 1 (x_888) := zR_nex t_c_925 hx_888 zk_z (by decide)
                      refine lv_iload hx hb dX11_staying_179 (lv_at hl 7 rfl) ?_
                      refine z_callSi (As := [.int (x_887)]) (rest := []) hx hb hml hown ht (mk_X11_bits l D q cA F _ _ _ hI_890 (x_887)) hw_7_64 hmX11_bits ⟨rfl, rfl⟩ (na := 1) rfl (by decide +kernel) (by decide) hK hP hD hS hA hl.1 rfl (Nat.le_of_ble_eq_true rfl) ⟨Nat.zero_le _, Nat.zero_le _⟩ dX11_staying_181 (fun r_946 I_946 R_946 J_946 H locs hp_946 hP hD hS _ _ => ?_)
                      cases hp_946
                      refine lv_iload_n hx hb dX11_staying_184 rfl (lv_at hl 2 rfl) ?_
                      refine z_callSi (As := [.int (x_742)]) (rest := [.int (r_946)]) hx hb hml hown ht (mk_X11_bits l D q cA F _ _ _ hI_890 (x_742)) hw_7_64 hmX11_bits ⟨rfl, rfl⟩ (na := 1) rfl (by decide +kernel) (by decide) hK hP hD hS hA hl.1 rfl (Nat.le_of_ble_eq_true rfl) ⟨Nat.zero_le _, Nat.zero_le _⟩ dX11_staying_185 (fun r_947 I_947 R_947 J_947 H locs hp_947 hP hD hS _ _ => ?_)
                      cases hp_947
                      refine lv_icmp_gt (tgt := 209) hx hb dX11_staying_188 (by decide) (fun c_948 => ?_) (fun c_948 => ?_)
                      · have t_c_948 := z_ltT c_948
                        have f_949 : zR (-2147483648) 2147483646 (r_947) := zR_ltx t_c_948 (zR_any (r_947)) (zR_any (r_946)) (by decide)
                        have f_950 : zR (-2147483647) 2147483647 (r_946) := zR_lty t_c_948 (zR_any (r_947)) (zR_any (r_946)) (by decide)
                        refine lv_aload_n hx hb dX11_staying_209 rfl (lv_at hl 0 rfl) ?_
                        refine z_callVi (k := 0) (As := []) (rest := []) hx hb hml hown ht (mk_X11_leadRound l D q cA F _ _ _ hI_890 ) hw_7_144 hmX11_leadRound ⟨rfl, rfl⟩ (na := 0) rfl (by decide +kernel) (by decide) (by decide) rfl rfl hK hP hD hS hA hl.1 rfl (Nat.le_of_ble_eq_true rfl) ⟨Nat.zero_le _, Nat.zero_le _⟩ dX11_staying_210 (fun r_951 I_951 R_951 J_951 H locs hp_951 hP hD hS _ _ => ?_)
                        rcases hp_951 with ⟨rfl, hu_951⟩ | ⟨rfl, hu_951⟩
                        · cases hu_951
                          refine lv_if_ne (tgt := 219) hx hb dX11_staying_213 (by decide) (fun _ => ?_) (fun c_0 => absurd c_0 (zD_ne zk_1 zk_z (by decide)))
                          exact t_942 (x_742) _ _ hP hD hS _ (lv_sub hl [0, 1, 2, 3, 4, 5, 6, 7, 8, 9] rfl)
                        · cases hu_951
                          refine lv_if_ne (tgt := 219) hx hb dX11_staying_213 (by decide) (fun c_0 => absurd (zD_eq zk_0 zk_z) c_0) (fun _ => ?_)
                          refine lv_iload hx hb dX11_staying_216 (lv_at hl 7 rfl) ?_
                          refine lv_istore_n (lv' := [(2, .int (x_887)), (0, .ref (q 0)), (1, .int (pa0)), (3, .int (x_79)), (4, .int (R 1 (nI 3).toNatClampNeg)), (5, .int (x_743)), (6, .int (x_886)), (7, .int (x_887)), (8, .int (x_888)), (9, .int (x_889))]) hx hb dX11_staying_218 rfl hl (by decide) rfl (fun ls hl => ?_)
                          exact t_942 (x_887) _ _ hP hD hS _ (lv_sub hl [1, 2, 0, 3, 4, 5, 6, 7, 8, 9] rfl)
                      · have t_c_948 := z_ltF c_948
                        refine lv_iload hx hb dX11_staying_191 (lv_at hl 7 rfl) ?_
                        refine z_callSi (As := [.int (x_887)]) (rest := []) hx hb hml hown ht (mk_X11_bits l D q cA F _ _ _ hI_890 (x_887)) hw_7_64 hmX11_bits ⟨rfl, rfl⟩ (na := 1) rfl (by decide +kernel) (by decide) hK hP hD hS hA hl.1 rfl (Nat.le_of_ble_eq_true rfl) ⟨Nat.zero_le _, Nat.zero_le _⟩ dX11_staying_193 (fun r_952 I_952 R_952 J_952 H locs hp_952 hP hD hS _ _ => ?_)
                        cases hp_952
                        refine lv_iload_n hx hb dX11_staying_196 rfl (lv_at hl 2 rfl) ?_
                        refine z_callSi (As := [.int (x_742)]) (rest := [.int (r_952)]) hx hb hml hown ht (mk_X11_bits l D q cA F _ _ _ hI_890 (x_742)) hw_7_64 hmX11_bits ⟨rfl, rfl⟩ (na := 1) rfl (by decide +kernel) (by decide) hK hP hD hS hA hl.1 rfl (Nat.le_of_ble_eq_true rfl) ⟨Nat.zero_le _, Nat.zero_le _⟩ dX11_staying_197 (fun r_953 I_953 R_953 J_953 H locs hp_953 hP hD hS _ _ => ?_)
                        cases hp_953
                        refine lv_icmp_ne (tgt := 219) hx hb dX11_staying_200 (by decide) (fun c_954 => ?_) (fun c_954 => ?_)
                        · have t_c_954 := z_eqF c_954
                          exact t_942 (x_742) _ _ hP hD hS _ (lv_sub hl [0, 1, 2, 3, 4, 5, 6, 7, 8, 9] rfl)
                        · have t_c_954 := z_eqT c_954
                          refine lv_iload hx hb dX11_staying_203 (lv_at hl 7 rfl) ?_
                          refine lv_iload_n hx hb dX11_staying_205 rfl (lv_at hl 2 rfl) ?_
                          refine lv_icmp_le (tgt := 219) hx hb dX11_staying_206 (by decide) (fun c_955 => ?_) (fun c_955 => ?_)
                          · have t_c_955 := z_leT c_955
                            exact t_942 (x_742) _ _ hP hD hS _ (lv_sub hl [0, 1, 2, 3, 4, 5, 6, 7, 8, 9] rfl)
                          · have t_c_955 := z_leF c_955
                            have f_956 : zR (-2147483648) 2147483646 (x_742) := zR_ltx t_c_955 (zR_any (x_742)) (zR_any (x_887)) (by decide)
                            have f_957 : zR (-2147483647) 2147483647 (x_887) := zR_lty t_c_955 (zR_any (x_742)) (zR_any (x_887)) (by decide)
                            refine lv_aload_n hx hb dX11_staying_209 rfl (lv_at hl 0 rfl) ?_
                            refine z_callVi (k := 0) (As := []) (rest := []) hx hb hml hown ht (mk_X11_leadRound l D q cA F _ _ _ hI_890 ) hw_7_144 hmX11_leadRound ⟨rfl, rfl⟩ (na := 0) rfl (by decide +kernel) (by decide) (by decide) rfl rfl hK hP hD hS hA hl.1 rfl (Nat.le_of_ble_eq_true rfl) ⟨Nat.zero_le _, Nat.zero_le _⟩ dX11_staying_210 (fun r_958 I_958 R_958 J_958 H locs hp_958 hP hD hS _ _ => ?_)
                            rcases hp_958 with ⟨rfl, hu_958⟩ | ⟨rfl, hu_958⟩
                            · cases hu_958
                              refine lv_if_ne (tgt := 219) hx hb dX11_staying_213 (by decide) (fun _ => ?_) (fun c_0 => absurd c_0 (zD_ne zk_1 zk_z (by decide)))
                              exact t_942 (x_742) _ _ hP hD hS _ (lv_sub hl [0, 1, 2, 3, 4, 5, 6, 7, 8, 9] rfl)
                            · cases hu_958
                              refine lv_if_ne (tgt := 219) hx hb dX11_staying_213 (by decide) (fun c_0 => absurd (zD_eq zk_0 zk_z) c_0) (fun _ => ?_)
                              refine lv_iload hx hb dX11_staying_216 (lv_at hl 7 rfl) ?_
                              refine lv_istore_n (lv' := [(2, .int (x_887)), (0, .ref (q 0)), (1, .int (pa0)), (3, .int (x_79)), (4, .int (R 1 (nI 3).toNatClampNeg)), (5, .int (x_743)), (6, .int (x_886)), (7, .int (x_887)), (8, .int (x_888)), (9, .int (x_889))]) hx hb dX11_staying_218 rfl hl (by decide) rfl (fun ls hl => ?_)
                              exact t_942 (x_887) _ _ hP hD hS _ (lv_sub hl [1, 2, 0, 3, 4, 5, 6, 7, 8, 9] rfl)
                  · have t_c_894 := z_leF c_894
                    have f_959 : zR 0 4 (x_889) := zR_ltx t_c_894 hx_889 f_1 (by decide)
                    have f_960 : zR 1 5 (R 1 (nI 3).toNatClampNeg) := zR_lty t_c_894 hx_889 f_1 (by decide)
                    refine lv_iload hx hb dX11_staying_64 (lv_at hl 6 rfl) ?_
                    refine lv_iload hx hb dX11_staying_66 (lv_at hl 4 rfl) ?_
                    refine lv_iconst (v := nI 1) hx hb dX11_staying_68 (by decide +kernel) ?_
                    refine lv_iadd hx hb dX11_staying_69 ?_
                    refine z_addc 2 6 f_960 zk_1 (by decide) (fun v_961 hv_961 mv_961 => ?_)
                    refine lv_irem hx hb dX11_staying_70 (zR_ne0 hv_961 (by decide)) ?_
                    refine z_rng (a := 0) (b := 5) (zR_rem hx_886 hv_961 (by decide)) (fun v_962 hv_962 => ?_)
                    refine lv_istore (lv' := [(10, .int (v_962)), (0, .ref (q 0)), (1, .int (pa0)), (2, .int (x_742)), (3, .int (x_79)), (4, .int (R 1 (nI 3).toNatClampNeg)), (5, .int (x_743)), (6, .int (x_886)), (7, .int (x_887)), (8, .int (x_888)), (9, .int (x_889))]) hx hb dX11_staying_71 hl (by decide) rfl (fun ls hl => ?_)
                    refine lv_iload hx hb dX11_staying_73 (lv_at hl 7 rfl) ?_
                    refine lv_iload hx hb dX11_staying_75 (lv_at hl 5 rfl) ?_
                    refine lv_iconst (v := nI 1) hx hb dX11_staying_77 (by decide +kernel) ?_
                    refine lv_iadd hx hb dX11_staying_78 ?_
                    refine z_addc 2 6 f_960 zk_1 (by decide) (fun v_963 hv_963 mv_963 => ?_)
                    refine lv_idiv hx hb dX11_staying_79 (zR_ne0 hv_963 (by decide)) ?_
                    refine z_rng (a := 0) (b := 2147483646) (zR_div hx_886 hv_963 (by decide)) (fun v_964 hv_964 => ?_)
                    refine lv_istore (lv' := [(6, .int (v_964)), (10, .int (v_962)), (0, .ref (q 0)), (1, .int (pa0)), (2, .int (x_742)), (3, .int (x_79)), (4, .int (R 1 (nI 3).toNatClampNeg)), (5, .int (x_743)), (7, .int (x_887)), (8, .int (x_888)), (9, .int (x_889))]) hx hb dX11_staying_80 hl (by decide) rfl (fun ls hl => ?_)
                    refine lv_aload_n hx hb dX11_staying_82 rfl (lv_at hl 2 rfl) ?_
                    refine z_get hx hb ht hown hK hP ziX11 rfl 0 (by decide) 32 (by decide) hw_5_219 rfl (v := .ref (q 19)) rfl dX11_staying_83 ?_
                    refine lv_iload hx hb dX11_staying_86 (lv_at hl 10 rfl) ?_
                    refine lv_iload hx hb dX11_staying_88 (lv_at hl 1 rfl) ?_
                    refine lv_iload hx hb dX11_staying_90 (lv_at hl 6 rfl) ?_
                    have t_969 : ∀ x_968 : Int32, zR (-1) 23 x_968 → ∀ (H : Heap) (locs : List Loc), va_P D vwCl (zw 25 q (zMd q cA) I R_890 J) H → va_D (zA 25 q sz) (zw 25 q (zMd q cA) I R_890 J) → va_S (zA 25 q sz) s.heap H locs → ∀ ls : Array Slot, lv_has ls 11 [(0, .ref (q 0)), (1, .int (pa0)), (2, .int (x_742)), (3, .int (x_79)), (4, .int (R 1 (nI 3).toNatClampNeg)), (5, .int (x_743)), (6, .int (v_964)), (7, .int (x_887)), (8, .int (x_888)), (9, .int (x_889)), (10, .int (v_962))] → W p l e ({ frames := 3, cells := 0, slots := 0, locals := 67 } : Room) s m ([.ref (q 0), .int (pa0)] : List Value).toArray below meth c H locs 0 0 (MQ below (va_Qi (fun _ u => (mInv F u ∧ u.2.2 = J)) (zB D vwCl 25 q (zMd q cA) sz) (zA 25 q sz)) ([.ref (q 0), .int (pa0)] : List Value).toArray s 0 0 (zA 25 q sz)) (F0 m 108 ls [.int (x_968), .int (x_889), .ref (q 19)]) := by
                      intro x_968 hx_968 H locs hP hD hS ls hl
                      refine z_iast hx hb hK hP hD hS 19 (by decide) 18 (fun _ => rfl) rfl (zR_vin f_959 (by decide)) dX11_staying_108 (fun H locs hP hD hS => ?_)
                      have hI_970 := mInv_R hI_890 19 (x_889).toNatClampNeg (x_968) hx_968 rfl
                      refine lv_iload hx hb dX11_staying_109 (lv_at hl 8 rfl) ?_
                      have t_981 : ∀ x_980 : Int32, zR 0 1 x_980 → ∀ (H : Heap) (locs : List Loc), va_P D vwCl (zw 25 q (zMd q cA) I (zp R_890 19 (x_889).toNatClampNeg (x_968)) J) H → va_D (zA 25 q sz) (zw 25 q (zMd q cA) I (zp R_890 19 (x_889).toNatClampNeg (x_968)) J) → va_S (zA 25 q sz) s.heap H locs → ∀ ls : Array Slot, lv_has ls 11 [(0, .ref (q 0)), (1, .int (pa0)), (2, .int (x_742)), (3, .int (x_79)), (4, .int (R 1 (nI 3).toNatClampNeg)), (5, .int (x_743)), (6, .int (v_964)), (7, .int (x_887)), (8, .int (x_888)), (9, .int (x_889)), (10, .int (v_962))] → W p l e ({ frames := 3, cells := 0, slots := 0, locals := 67 } : Room) s m ([.ref (q 0), .int (pa0)] : List Value).toArray below meth c H locs 0 0 (MQ below (va_Qi (fun _ u => (mInv F u ∧ u.2.2 = J)) (zB D vwCl 25 q (zMd q cA) sz) (zA 25 q sz)) ([.ref (q 0), .int (pa0)] : List Value).toArray s 0 0 (zA 25 q sz)) (F0 m 137 ls [.int (x_980)]) := by
                        intro x_980 hx_980 H locs hP hD hS ls hl
                        refine lv_istore (lv' := [(8, .int (x_980)), (0, .ref (q 0)), (1, .int (pa0)), (2, .int (x_742)), (3, .int (x_79)), (4, .int (R 1 (nI 3).toNatClampNeg)), (5, .int (x_743)), (6, .int (v_964)), (7, .int (x_887)), (9, .int (x_889)), (10, .int (v_962))]) hx hb dX11_staying_137 hl (by decide) rfl (fun ls hl => ?_)
                        refine lv_iload hx hb dX11_staying_139 (lv_at hl 8 rfl) ?_
                        refine lv_aload_n hx hb dX11_staying_141 rfl (lv_at hl 1 rfl) ?_
                        refine z_get hx hb ht hown hK hP ziX11 rfl 0 (by decide) 32 (by decide) hw_5_219 rfl (v := .ref (q 19)) rfl dX11_staying_142 ?_
                        refine lv_iload hx hb dX11_staying_145 (lv_at hl 9 rfl) ?_
                        refine z_iald hx hb hK hP 19 (by decide) 18 rfl rfl (zR_vin f_959 (by decide)) dX11_staying_147 ?_
                        refine z_rng (a := (-1)) (b := 23) (mR hI_970 19 (x_889).toNatClampNeg) (fun v_982 hv_982 => ?_)
                        refine lv_iconst (v := (-1)) hx hb dX11_staying_148 (by decide +kernel) ?_
                        have t_989 : ∀ x_988 : Int32, ∀ (H : Heap) (locs : List Loc), va_P D vwCl (zw 25 q (zMd q cA) I (zp R_890 19 (x_889).toNatClampNeg (x_968)) J) H → va_D (zA 25 q sz) (zw 25 q (zMd q cA) I (zp R_890 19 (x_889).toNatClampNeg (x_968)) J) → va_S (zA 25 q sz) s.heap H locs → ∀ ls : Array Slot, lv_has ls 11 [(0, .ref (q 0)), (1, .int (pa0)), (2, .int (x_742)), (3, .int (x_79)), (4, .int (R 1 (nI 3).toNatClampNeg)), (5, .int (x_743)), (6, .int (v_964)), (7, .int (x_887)), (8, .int (x_980)), (9, .int (x_889)), (10, .int (v_962))] → W p l e ({ frames := 3, cells := 0, slots := 0, locals := 67 } : Room) s m ([.ref (q 0), .int (pa0)] : List Value).toArray below meth c H locs 0 0 (MQ below (va_Qi (fun _ u => (mInv F u ∧ u.2.2 = J)) (zB D vwCl 25 q (zMd q cA) sz) (zA 25 q sz)) ([.ref (q 0), .int (pa0)] : List Value).toArray s 0 0 (zA 25 q sz)) (F0 m 165 ls [.int (x_988), .int (x_887)]) := by
                          intro x_988 H locs hP hD hS ls hl
                          refine lv_ior hx hb dX11_staying_165 ?_
                          refine z_any (fun v_990 => ?_)
                          refine lv_istore (lv' := [(7, .int (v_990)), (0, .ref (q 0)), (1, .int (pa0)), (2, .int (x_742)), (3, .int (x_79)), (4, .int (R 1 (nI 3).toNatClampNeg)), (5, .int (x_743)), (6, .int (v_964)), (8, .int (x_980)), (9, .int (x_889)), (10, .int (v_962))]) hx hb dX11_staying_166 hl (by decide) rfl (fun ls hl => ?_)
                          obtain ⟨v_991, ev_991⟩ : ∃ y : Int32, y = x_889 + nI 1 := ⟨_, rfl⟩
                          have hv_991 : zR 1 5 v_991 := ev_991 ▸ zR_add f_959 zk_1 (by decide)
                          have mv_991 : v_991.toInt = (x_889).toInt + 1 := by rw [ev_991, zR_addE f_959 zk_1 (by decide)]; rfl
                          refine lv_iinc (v := v_991) (lv' := [(9, .int (v_991)), (7, .int (v_990)), (0, .ref (q 0)), (1, .int (pa0)), (2, .int (x_742)), (3, .int (x_79)), (4, .int (R 1 (nI 3).toNatClampNeg)), (5, .int (x_743)), (6, .int (v_964)), (8, .int (x_980)), (10, .int (v_962))]) hx hb dX11_staying_168 hl (k := 9) rfl (ev_991 ▸ rfl) (by decide) rfl (fun ls hl => ?_)
                          refine lv_goto (tgt := 57) hx hb dX11_staying_171 (by decide) ?_
                          exact ih_893 (v_964) hv_964 (v_990) (x_980) hx_980 (v_991) (zR_w hv_991 (by decide)) _ hI_970 (z2_up mv_991 (by decide) hN_892) _ _ hP hD hS _ (lv_sub hl [2, 3, 4, 5, 6, 7, 8, 1, 9, 0] rfl)
                        refine lv_icmp_ne (tgt := 156) hx hb dX11_staying_149 (by decide) (fun c_983 => ?_) (fun c_983 => ?_)
                        · have t_c_983 := z_eqF c_983
                          have f_992 : zR 0 23 (v_982) := zR_nex t_c_983 hv_982 zk_m1 (by decide)
                          refine lv_iconst (v := nI 1) hx hb dX11_staying_156 (by decide +kernel) ?_
                          refine lv_aload_n hx hb dX11_staying_157 rfl (lv_at hl 1 rfl) ?_
                          refine z_get hx hb ht hown hK hP ziX11 rfl 0 (by decide) 32 (by decide) hw_5_219 rfl (v := .ref (q 19)) rfl dX11_staying_158 ?_
                          refine lv_iload hx hb dX11_staying_161 (lv_at hl 9 rfl) ?_
                          refine z_iald hx hb hK hP 19 (by decide) 18 rfl rfl (zR_vin f_959 (by decide)) dX11_staying_163 ?_
                          refine z_rng (a := (-1)) (b := 23) (mR hI_970 19 (x_889).toNatClampNeg) (fun v_993 hv_993 => ?_)
                          refine lv_ishl hx hb dX11_staying_164 ?_
                          refine z_any (fun v_994 => ?_)
                          exact t_989 (v_994) _ _ hP hD hS _ (lv_sub hl [1, 2, 3, 4, 5, 6, 7, 8, 0, 9, 10] rfl)
                        · have t_c_983 := z_eqT c_983
                          have f_995 : zR (-1) (-1) (v_982) := zR_eqx t_c_983 zk_m1
                          refine lv_iconst (v := nI 0) hx hb dX11_staying_152 (by decide +kernel) ?_
                          refine lv_goto (tgt := 165) hx hb dX11_staying_153 (by decide) ?_
                          exact t_989 (nI 0) _ _ hP hD hS _ (lv_sub hl [1, 2, 3, 4, 5, 6, 7, 8, 0, 9, 10] rfl)
                      refine lv_if_eq (tgt := 136) hx hb dX11_staying_111 (by decide) (fun c_971 => ?_) (fun c_971 => ?_)
                      · have t_c_971 := z_eqT c_971
                        have f_996 : zR 0 0 (x_888) := zR_eqx t_c_971 zk_z
                        refine lv_iconst (v := nI 0) hx hb dX11_staying_136 (by decide +kernel) ?_
                        exact t_981 (nI 0) (zR_w zk_0 (by decide)) _ _ hP hD hS _ (lv_sub hl [0, 1, 2, 3, 4, 5, 6, 7, 8, 9, 10] rfl)
                      · have t_c_971 := z_eqF c_971
                        have f_997 : zR 1 1 (x_888) := zR_nex t_c_971 hx_888 zk_z (by decide)
                        refine lv_iload hx hb dX11_staying_114 (lv_at hl 10 rfl) ?_
                        refine lv_iload hx hb dX11_staying_116 (lv_at hl 4 rfl) ?_
                        refine lv_icmp_eq (tgt := 132) hx hb dX11_staying_118 (by decide) (fun c_998 => ?_) (fun c_998 => ?_)
                        · have t_c_998 := z_eqT c_998
                          have f_999 : zR 1 5 (v_962) := zR_eqx t_c_998 f_960
                          refine lv_iconst (v := nI 1) hx hb dX11_staying_132 (by decide +kernel) ?_
                          refine lv_goto (tgt := 137) hx hb dX11_staying_133 (by decide) ?_
                          exact t_981 (nI 1) (zR_w zk_1 (by decide)) _ _ hP hD hS _ (lv_sub hl [0, 1, 2, 3, 4, 5, 6, 7, 8, 9, 10] rfl)
                        · have t_c_998 := z_eqF c_998
                          refine lv_aload_n hx hb dX11_staying_121 rfl (lv_at hl 0 rfl) ?_
                          refine z_get hx hb ht hown hK hP ziX11 rfl 0 (by decide) 32 (by decide) hw_5_219 rfl (v := .ref (q 19)) rfl dX11_staying_122 ?_
                          refine lv_iload hx hb dX11_staying_125 (lv_at hl 9 rfl) ?_
                          refine z_iald hx hb hK hP 19 (by decide) 18 rfl rfl (zR_vin f_959 (by decide)) dX11_staying_127 ?_
                          refine z_rng (a := (-1)) (b := 23) (mR hI_970 19 (x_889).toNatClampNeg) (fun v_1000 hv_1000 => ?_)
                          refine lv_iconst (v := (-1)) hx hb dX11_staying_128 (by decide +kernel) ?_
                          refine lv_icmp_eq (tgt := 136) hx hb dX11_staying_129 (by decide) (fun c_1001 => ?_) (fun c_1001 => ?_)
                          · have t_c_1001 := z_eqT c_1001
                            have f_1002 : zR (-1) (-1) (v_1000) := zR_eqx t_c_1001 zk_m1
                            refine lv_iconst (v := nI 0) hx hb dX11_staying_136 (by decide +kernel) ?_
                            exact t_981 (nI 0) (zR_w zk_0 (by decide)) _ _ hP hD hS _ (lv_sub hl [0, 1, 2, 3, 4, 5, 6, 7, 8, 9, 10] rfl)
                          · have t_c_1001 := z_eqF c_1001
                            have f_1003 : zR 0 23 (v_1000) := zR_nex t_c_1001 hv_1000 zk_m1 (by decide)
                            refine lv_iconst (v := nI 1) hx hb dX11_staying_132 (by decide +kernel) ?_
                            refine lv_goto (tgt := 137) hx hb dX11_staying_133 (by decide) ?_
                            exact t_981 (nI 1) (zR_w zk_1 (by decide)) _ _ hP hD hS _ (lv_sub hl [0, 1, 2, 3, 4, 5, 6, 7, 8, 9, 10] rfl)
                    refine lv_icmp_ne (tgt := 99) hx hb dX11_staying_92 (by decide) (fun c_965 => ?_) (fun c_965 => ?_)
                    · have t_c_965 := z_eqF c_965
                      refine lv_aload_n hx hb dX11_staying_99 rfl (lv_at hl 2 rfl) ?_
                      refine lv_iload hx hb dX11_staying_100 (lv_at hl 10 rfl) ?_
                      refine lv_iload hx hb dX11_staying_102 (lv_at hl 1 rfl) ?_
                      refine lv_iload_n hx hb dX11_staying_104 rfl (lv_at hl 3 rfl) ?_
                      refine z_callVi (k := 0) (As := [.int (x_889), .int (v_962), .int (pa0)]) (rest := [.int (x_889), .ref (q 19)]) hx hb hml hown ht (mk_X11_latest_3 l D q cA F _ _ _ hI_890 (x_889) f_959 (v_962) hv_962 (pa0) hpa0) hw_7_140 hmX11_latest ⟨rfl, rfl⟩ (na := 3) rfl (by decide +kernel) (by decide) (by decide) rfl rfl hK hP hD hS hA hl.1 rfl (Nat.le_of_ble_eq_true rfl) ⟨Nat.zero_le _, Nat.zero_le _⟩ dX11_staying_105 (fun r_1004 I_1004 R_1004 J_1004 H locs hp_1004 hP hD hS _ _ => ?_)
                      obtain ⟨hr_1004, hu_1004⟩ := hp_1004
                      cases hu_1004
                      exact t_969 (r_1004) hr_1004 _ _ hP hD hS _ (lv_sub hl [2, 3, 4, 5, 6, 7, 0, 8, 9, 10, 1] rfl)
                    · have t_c_965 := z_eqT c_965
                      have f_1005 : zR 1 5 (v_962) := zR_eqx t_c_965 f_960
                      refine lv_iconst (v := (-1)) hx hb dX11_staying_95 (by decide +kernel) ?_
                      refine lv_goto (tgt := 108) hx hb dX11_staying_96 (by decide) ?_
                      exact t_969 ((-1)) (zR_w zk_m1 (by decide)) _ _ hP hD hS _ (lv_sub hl [2, 3, 4, 5, 6, 7, 0, 8, 9, 10, 1] rfl)
              exact loop_891 _ (x_743) f_749 (nI 0) (nI 1) (zR_w zk_1 (by decide)) (nI 0) (zR_w zk_0 (by decide)) _ hI_744 (Nat.lt_succ_self _) _ _ hP hD hS _ (lv_sub hl [4, 5, 6, 7, 8, 9, 3, 2, 1, 0] rfl)
        exact loop_745 _ (nI 0) (nI 0) (zR_w zk_0 (by decide)) _ hI (Nat.lt_succ_self _) _ _ hP hD hS _ (lv_sub hl [1, 2, 3, 4, 5, 0] rfl)
      · have t_c_84 := z_leF c_84
        have f_1006 : zR 0 4 (x_80) := zR_ltx t_c_84 hx_80 f_1 (by decide)
        have f_1007 : zR 1 5 (R 1 (nI 3).toNatClampNeg) := zR_lty t_c_84 hx_80 f_1 (by decide)
        refine lv_iload_n hx hb dX11_staying_22 rfl (lv_at hl 3 rfl) ?_
        refine lv_iload hx hb dX11_staying_23 (lv_at hl 4 rfl) ?_
        refine lv_iconst (v := nI 1) hx hb dX11_staying_25 (by decide +kernel) ?_
        refine lv_iadd hx hb dX11_staying_26 ?_
        refine z_addc 2 6 f_1007 zk_1 (by decide) (fun v_1008 hv_1008 mv_1008 => ?_)
        refine lv_imul hx hb dX11_staying_27 ?_
        refine z_any (fun v_1009 => ?_)
        refine lv_istore_n (lv' := [(3, .int (v_1009)), (0, .ref (q 0)), (1, .int (pa0)), (2, .int (nI 0)), (4, .int (R 1 (nI 3).toNatClampNeg)), (5, .int (x_80))]) hx hb dX11_staying_28 rfl hl (by decide) rfl (fun ls hl => ?_)
        obtain ⟨v_1010, ev_1010⟩ : ∃ y : Int32, y = x_80 + nI 1 := ⟨_, rfl⟩
        have hv_1010 : zR 1 5 v_1010 := ev_1010 ▸ zR_add f_1006 zk_1 (by decide)
        have mv_1010 : v_1010.toInt = (x_80).toInt + 1 := by rw [ev_1010, zR_addE f_1006 zk_1 (by decide)]; rfl
        refine lv_iinc (v := v_1010) (lv' := [(5, .int (v_1010)), (3, .int (v_1009)), (0, .ref (q 0)), (1, .int (pa0)), (2, .int (nI 0)), (4, .int (R 1 (nI 3).toNatClampNeg))]) hx hb dX11_staying_29 hl (k := 5) rfl (ev_1010 ▸ rfl) (by decide) rfl (fun ls hl => ?_)
        refine lv_goto (tgt := 15) hx hb dX11_staying_32 (by decide) ?_
        exact ih_83 (v_1009) (v_1010) (zR_w hv_1010 (by decide)) (z2_up mv_1010 (by decide) hN_82) _ _ hP hD hS _ (lv_sub hl [2, 3, 4, 1, 5, 0] rfl)
  exact loop_81 _ (nI 1) (nI 0) (zR_w zk_0 (by decide)) (Nat.lt_succ_self _) _ _ hP hD hS _ (lv_sub hl [4, 5, 3, 2, 1, 0] rfl)
set_option maxHeartbeats 4000000 in
set_option maxRecDepth 100000 in
theorem mk_X11_struckOf (l : Launch) (D : va_G) (q : Nat → Nat) (cA : Nat → ClassId) (F : Nat → Nat → Int32) (I R : Nat → Nat → Int32) (J : Nat → Nat → Int64) (hI : mInv F (I, R, J))  : zMi l D vwCl (zMtys cA) 25 q (zMd q cA) yX11_struckOf cX11_struckOf 5 (some .int) ({ frames := 6, cells := 0, slots := 0, locals := 155 } : Room) [.ref (q 0)] (I, R, J) (fun r u => zR 0 16777215 r ∧ (mInv F u ∧ u.2.2 = J)) := by
  intro sz
  refine z_body (by decide +kernel) (Nat.le_of_ble_eq_true rfl) (fun p e s m below meth c ls hx hb hml hr ht hown hlocks hsz hK hP hD hS hl => ?_)
  have hA : ∀ a, s.heap.size ≤ a → zA 25 q sz a := fun a h => Or.inr (hsz ▸ h)
  have hl : lv_has ls 5 [(0, .ref (q 0))] := hl
  refine lv_aload_n hx hb dX11_struckOf_0 rfl (lv_at hl 0 rfl) ?_
  refine z_callVv (k := 0) (As := []) (rest := []) hx hb hml hown ht (mk_X11_asItIs l D q cA F _ _ _ hI ) hw_6_181 hmX11_asItIs ⟨rfl, rfl⟩ (na := 0) rfl (by decide +kernel) (by decide) (by decide) rfl rfl hK hP hD hS hA hl.1 rfl (Nat.le_of_ble_eq_true rfl) ⟨Nat.zero_le _, Nat.zero_le _⟩ dX11_struckOf_1 (fun I_1 R_1 J_1 H locs hp_1 hP hD hS _ _ => ?_)
  obtain ⟨hv_1, hj_1, hs_1⟩ := hp_1
  try dsimp only at hj_1
  subst J_1
  refine lv_iconst (v := nI 0) hx hb dX11_struckOf_4 (by decide +kernel) ?_
  refine lv_istore_n (lv' := [(1, .int (nI 0)), (0, .ref (q 0))]) hx hb dX11_struckOf_5 rfl hl (by decide) rfl (fun ls hl => ?_)
  refine lv_iconst (v := nI 0) hx hb dX11_struckOf_6 (by decide +kernel) ?_
  refine lv_istore_n (lv' := [(2, .int (nI 0)), (1, .int (nI 0)), (0, .ref (q 0))]) hx hb dX11_struckOf_7 rfl hl (by decide) rfl (fun ls hl => ?_)
  have loop_281 : ∀ N : Nat, ∀ x_278 : Int32, zR 0 16777215 x_278 → ∀ x_279 : Int32, zR 0 6 x_279 → ∀ I_280 : Nat → Nat → Int32, ∀ R_280 : Nat → Nat → Int32, mInv F (I_280, R_280, J) → (2147483648 - (x_279).toInt).toNat < N → ∀ (H : Heap) (locs : List Loc), va_P D vwCl (zw 25 q (zMd q cA) I_280 R_280 J) H → va_D (zA 25 q sz) (zw 25 q (zMd q cA) I_280 R_280 J) → va_S (zA 25 q sz) s.heap H locs → ∀ ls : Array Slot, lv_has ls 5 [(0, .ref (q 0)), (1, .int (x_278)), (2, .int (x_279))] → W p l e ({ frames := 6, cells := 0, slots := 0, locals := 155 } : Room) s m ([.ref (q 0)] : List Value).toArray below meth c H locs 0 0 (MQ below (va_Qi (fun r u => zR 0 16777215 r ∧ (mInv F u ∧ u.2.2 = J)) (zB D vwCl 25 q (zMd q cA) sz) (zA 25 q sz)) ([.ref (q 0)] : List Value).toArray s 0 0 (zA 25 q sz)) (F0 m 8 ls []) := by
    intro N
    induction N with
    | zero => intro x_278 hx_278 x_279 hx_279 I_280 R_280 hI_280 hN; exact absurd hN (Nat.not_lt_zero _)
    | succ N ih_283 =>
      intro x_278 hx_278 x_279 hx_279 I_280 R_280 hI_280 hN_282 H locs hP hD hS ls hl
      refine lv_iload_n hx hb dX11_struckOf_8 rfl (lv_at hl 2 rfl) ?_
      refine lv_aload_n hx hb dX11_struckOf_9 rfl (lv_at hl 0 rfl) ?_
      refine z_get hx hb ht hown hK hP ziX11 rfl 0 (by decide) 1 (by decide) hw_5_188 rfl (v := .ref (q 1)) rfl dX11_struckOf_10 ?_
      refine lv_iconst (v := nI 4) hx hb dX11_struckOf_13 (by decide +kernel) ?_
      refine z_iald hx hb hK hP 1 (by decide) 0 rfl rfl (zR_vin zk_4 (by decide)) dX11_struckOf_14 ?_
      refine z_eqi (y := R_280 1 (nI 4).toNatClampNeg) rfl ?_
      have f_284 : zR 0 6 (R_280 1 (nI 4).toNatClampNeg) := mR hI_280 1 4
      refine lv_icmp_ge (tgt := 81) hx hb dX11_struckOf_15 (by decide) (fun c_285 => ?_) (fun c_285 => ?_)
      · have t_c_285 := z_leT c_285
        refine lv_iload_n hx hb dX11_struckOf_81 rfl (lv_at hl 1 rfl) ?_
        exact z_iret (v := x_278) hx hb hr hlocks hP hD hS dX11_struckOf_82 ⟨hx_278, ⟨hI_280, rfl⟩⟩
      · have t_c_285 := z_leF c_285
        have f_286 : zR 0 5 (x_279) := zR_ltx t_c_285 hx_279 f_284 (by decide)
        have f_287 : zR 1 6 (R_280 1 (nI 4).toNatClampNeg) := zR_lty t_c_285 hx_279 f_284 (by decide)
        refine lv_iconst (v := nI 0) hx hb dX11_struckOf_18 (by decide +kernel) ?_
        refine lv_istore_n (lv' := [(3, .int (nI 0)), (0, .ref (q 0)), (1, .int (x_278)), (2, .int (x_279))]) hx hb dX11_struckOf_19 rfl hl (by decide) rfl (fun ls hl => ?_)
        refine lv_iconst (v := nI 0) hx hb dX11_struckOf_20 (by decide +kernel) ?_
        refine lv_istore (lv' := [(4, .int (nI 0)), (3, .int (nI 0)), (0, .ref (q 0)), (1, .int (x_278)), (2, .int (x_279))]) hx hb dX11_struckOf_21 hl (by decide) rfl (fun ls hl => ?_)
        have loop_341 : ∀ N : Nat, ∀ x_339 : Int32, zR 0 16777215 x_339 → ∀ x_340 : Int32, zR 0 24 x_340 → (2147483648 - (x_340).toInt).toNat < N → ∀ (H : Heap) (locs : List Loc), va_P D vwCl (zw 25 q (zMd q cA) I_280 R_280 J) H → va_D (zA 25 q sz) (zw 25 q (zMd q cA) I_280 R_280 J) → va_S (zA 25 q sz) s.heap H locs → ∀ ls : Array Slot, lv_has ls 5 [(0, .ref (q 0)), (1, .int (x_278)), (2, .int (x_279)), (3, .int (x_339)), (4, .int (x_340))] → W p l e ({ frames := 6, cells := 0, slots := 0, locals := 155 } : Room) s m ([.ref (q 0)] : List Value).toArray below meth c H locs 0 0 (MQ below (va_Qi (fun r u => zR 0 16777215 r ∧ (mInv F u ∧ u.2.2 = J)) (zB D vwCl 25 q (zMd q cA) sz) (zA 25 q sz)) ([.ref (q 0)] : List Value).toArray s 0 0 (zA 25 q sz)) (F0 m 23 ls []) := by
          intro N
          induction N with
          | zero => intro x_339 hx_339 x_340 hx_340 hN; exact absurd hN (Nat.not_lt_zero _)
          | succ N ih_343 =>
            intro x_339 hx_339 x_340 hx_340 hN_342 H locs hP hD hS ls hl
            refine lv_iload hx hb dX11_struckOf_23 (lv_at hl 4 rfl) ?_
            refine lv_aload_n hx hb dX11_struckOf_25 rfl (lv_at hl 0 rfl) ?_
            refine z_get hx hb ht hown hK hP ziX11 rfl 0 (by decide) 26 (by decide) hw_5_213 rfl (v := .int (I_280 0 26)) rfl dX11_struckOf_26 ?_
            have f_344 : zR 0 24 (I_280 0 26) := mI hI_280 0 26
            refine lv_icmp_ge (tgt := 59) hx hb dX11_struckOf_29 (by decide) (fun c_345 => ?_) (fun c_345 => ?_)
            · have t_c_345 := z_leT c_345
              refine lv_iload_n hx hb dX11_struckOf_59 rfl (lv_at hl 3 rfl) ?_
              have t_362 : ∀ x_360 : Int32, zR 0 16777215 x_360 → ∀ I_361 : Nat → Nat → Int32, ∀ R_361 : Nat → Nat → Int32, mInv F (I_361, R_361, J) → ∀ (H : Heap) (locs : List Loc), va_P D vwCl (zw 25 q (zMd q cA) I_361 R_361 J) H → va_D (zA 25 q sz) (zw 25 q (zMd q cA) I_361 R_361 J) → va_S (zA 25 q sz) s.heap H locs → ∀ ls : Array Slot, lv_has ls 5 [(0, .ref (q 0)), (1, .int (x_360)), (2, .int (x_279)), (3, .int (x_339)), (4, .int (x_340))] → W p l e ({ frames := 6, cells := 0, slots := 0, locals := 155 } : Room) s m ([.ref (q 0)] : List Value).toArray below meth c H locs 0 0 (MQ below (va_Qi (fun r u => zR 0 16777215 r ∧ (mInv F u ∧ u.2.2 = J)) (zB D vwCl 25 q (zMd q cA) sz) (zA 25 q sz)) ([.ref (q 0)] : List Value).toArray s 0 0 (zA 25 q sz)) (F0 m 75 ls []) := by
                intro x_360 hx_360 I_361 R_361 hI_361 H locs hP hD hS ls hl
                obtain ⟨v_363, ev_363⟩ : ∃ y : Int32, y = x_279 + nI 1 := ⟨_, rfl⟩
                have hv_363 : zR 1 6 v_363 := ev_363 ▸ zR_add f_286 zk_1 (by decide)
                have mv_363 : v_363.toInt = (x_279).toInt + 1 := by rw [ev_363, zR_addE f_286 zk_1 (by decide)]; rfl
                refine lv_iinc (v := v_363) (lv' := [(2, .int (v_363)), (0, .ref (q 0)), (1, .int (x_360)), (3, .int (x_339)), (4, .int (x_340))]) hx hb dX11_struckOf_75 hl (k := 2) rfl (ev_363 ▸ rfl) (by decide) rfl (fun ls hl => ?_)
                refine lv_goto (tgt := 8) hx hb dX11_struckOf_78 (by decide) ?_
                exact ih_283 (x_360) hx_360 (v_363) (zR_w hv_363 (by decide)) _ _ hI_361 (z2_up mv_363 (by decide) hN_282) _ _ hP hD hS _ (lv_sub hl [1, 2, 0] rfl)
              refine lv_if_eq (tgt := 75) hx hb dX11_struckOf_60 (by decide) (fun c_353 => ?_) (fun c_353 => ?_)
              · have t_c_353 := z_eqT c_353
                have f_364 : zR 0 0 (x_339) := zR_eqx t_c_353 zk_z
                exact t_362 (x_278) hx_278 _ _ hI_280 _ _ hP hD hS _ (lv_sub hl [0, 1, 2, 3, 4] rfl)
              · have t_c_353 := z_eqF c_353
                have f_365 : zR 1 16777215 (x_339) := zR_nex t_c_353 hx_339 zk_z (by decide)
                refine lv_iload_n hx hb dX11_struckOf_63 rfl (lv_at hl 1 rfl) ?_
                refine lv_iload_n hx hb dX11_struckOf_64 rfl (lv_at hl 3 rfl) ?_
                refine lv_aload_n hx hb dX11_struckOf_65 rfl (lv_at hl 0 rfl) ?_
                refine lv_iload_n hx hb dX11_struckOf_66 rfl (lv_at hl 2 rfl) ?_
                refine z_callVi (k := 0) (As := [.int (x_279)]) (rest := [.int (x_339), .int (x_278)]) hx hb hml hown ht (mk_X11_staying_1 l D q cA F _ _ _ hI_280 (x_279) f_286) hw_7_136 hmX11_staying ⟨rfl, rfl⟩ (na := 1) rfl (by decide +kernel) (by decide) (by decide) rfl rfl hK hP hD hS hA hl.1 rfl (Nat.le_of_ble_eq_true rfl) ⟨Nat.zero_le _, Nat.zero_le _⟩ dX11_struckOf_67 (fun r_366 I_366 R_366 J_366 H locs hp_366 hP hD hS _ _ => ?_)
                obtain ⟨hv_366, hj_366⟩ := hp_366
                try dsimp only at hj_366
                subst J_366
                refine lv_iconst (v := (-1)) hx hb dX11_struckOf_70 (by decide +kernel) ?_
                refine lv_ixor hx hb dX11_struckOf_71 ?_
                refine z_any (fun v_367 => ?_)
                refine lv_iand hx hb dX11_struckOf_72 ?_
                refine z_rng (a := 0) (b := 16777215) (zR_andl f_365 (by decide)) (fun v_368 hv_368 => ?_)
                refine lv_ior hx hb dX11_struckOf_73 ?_
                refine z_rng (a := 0) (b := 16777215) (zR_or 24 hx_278 hv_368 (by decide)) (fun v_369 hv_369 => ?_)
                refine lv_istore_n (lv' := [(1, .int (v_369)), (0, .ref (q 0)), (2, .int (x_279)), (3, .int (x_339)), (4, .int (x_340))]) hx hb dX11_struckOf_74 rfl hl (by decide) rfl (fun ls hl => ?_)
                exact t_362 (v_369) hv_369 _ _ hv_366 _ _ hP hD hS _ (lv_sub hl [1, 0, 2, 3, 4] rfl)
            · have t_c_345 := z_leF c_345
              have f_370 : zR 0 23 (x_340) := zR_ltx t_c_345 hx_340 f_344 (by decide)
              have f_371 : zR 1 24 (I_280 0 26) := zR_lty t_c_345 hx_340 f_344 (by decide)
              refine lv_iload_n hx hb dX11_struckOf_32 rfl (lv_at hl 3 rfl) ?_
              refine lv_aload_n hx hb dX11_struckOf_33 rfl (lv_at hl 0 rfl) ?_
              refine lv_iload hx hb dX11_struckOf_34 (lv_at hl 4 rfl) ?_
              refine lv_iload_n hx hb dX11_struckOf_36 rfl (lv_at hl 2 rfl) ?_
              have t_375 : ∀ x_374 : Int32, zR 0 8388608 x_374 → ∀ (H : Heap) (locs : List Loc), va_P D vwCl (zw 25 q (zMd q cA) I_280 R_280 J) H → va_D (zA 25 q sz) (zw 25 q (zMd q cA) I_280 R_280 J) → va_S (zA 25 q sz) s.heap H locs → ∀ ls : Array Slot, lv_has ls 5 [(0, .ref (q 0)), (1, .int (x_278)), (2, .int (x_279)), (3, .int (x_339)), (4, .int (x_340))] → W p l e ({ frames := 6, cells := 0, slots := 0, locals := 155 } : Room) s m ([.ref (q 0)] : List Value).toArray below meth c H locs 0 0 (MQ below (va_Qi (fun r u => zR 0 16777215 r ∧ (mInv F u ∧ u.2.2 = J)) (zB D vwCl 25 q (zMd q cA) sz) (zA 25 q sz)) ([.ref (q 0)] : List Value).toArray s 0 0 (zA 25 q sz)) (F0 m 51 ls [.int (x_374), .int (x_339)]) := by
                intro x_374 hx_374 H locs hP hD hS ls hl
                refine lv_ior hx hb dX11_struckOf_51 ?_
                refine z_rng (a := 0) (b := 16777215) (zR_or 24 hx_339 hx_374 (by decide)) (fun v_376 hv_376 => ?_)
                refine lv_istore_n (lv' := [(3, .int (v_376)), (0, .ref (q 0)), (1, .int (x_278)), (2, .int (x_279)), (4, .int (x_340))]) hx hb dX11_struckOf_52 rfl hl (by decide) rfl (fun ls hl => ?_)
                obtain ⟨v_377, ev_377⟩ : ∃ y : Int32, y = x_340 + nI 1 := ⟨_, rfl⟩
                have hv_377 : zR 1 24 v_377 := ev_377 ▸ zR_add f_370 zk_1 (by decide)
                have mv_377 : v_377.toInt = (x_340).toInt + 1 := by rw [ev_377, zR_addE f_370 zk_1 (by decide)]; rfl
                refine lv_iinc (v := v_377) (lv' := [(4, .int (v_377)), (3, .int (v_376)), (0, .ref (q 0)), (1, .int (x_278)), (2, .int (x_279))]) hx hb dX11_struckOf_53 hl (k := 4) rfl (ev_377 ▸ rfl) (by decide) rfl (fun ls hl => ?_)
                refine lv_goto (tgt := 23) hx hb dX11_struckOf_56 (by decide) ?_
                exact ih_343 (v_376) hv_376 (v_377) (zR_w hv_377 (by decide)) (z2_up mv_377 (by decide) hN_342) _ _ hP hD hS _ (lv_sub hl [2, 3, 4, 1, 0] rfl)
              refine z_callVi (k := 0) (As := [.int (x_340), .int (x_279)]) (rest := [.int (x_339)]) hx hb hml hown ht (mk_X11_isEdge_1 l D q cA F _ _ _ hI_280 (x_340) f_370 (x_279) f_286) hw_7_124 hmX11_isEdge ⟨rfl, rfl⟩ (na := 2) rfl (by decide +kernel) (by decide) (by decide) rfl rfl hK hP hD hS hA hl.1 rfl (Nat.le_of_ble_eq_true rfl) ⟨Nat.zero_le _, Nat.zero_le _⟩ dX11_struckOf_37 (fun r_372 I_372 R_372 J_372 H locs hp_372 hP hD hS _ _ => ?_)
              rcases hp_372 with ⟨rfl, hu_372⟩ | ⟨rfl, hu_372⟩
              · cases hu_372
                refine lv_if_eq (tgt := 50) hx hb dX11_struckOf_40 (by decide) (fun c_0 => absurd c_0 (zD_ne zk_1 zk_z (by decide))) (fun _ => ?_)
                refine lv_iconst (v := nI 1) hx hb dX11_struckOf_43 (by decide +kernel) ?_
                refine lv_iload hx hb dX11_struckOf_44 (lv_at hl 4 rfl) ?_
                refine lv_ishl hx hb dX11_struckOf_46 ?_
                refine z_rng (a := 1) (b := 8388608) (zR_shl1 23 f_370 (by decide)) (fun v_378 hv_378 => ?_)
                refine lv_goto (tgt := 51) hx hb dX11_struckOf_47 (by decide) ?_
                exact t_375 (v_378) (zR_w hv_378 (by decide)) _ _ hP hD hS _ (lv_sub hl [0, 1, 2, 3, 4] rfl)
              · cases hu_372
                refine lv_if_eq (tgt := 50) hx hb dX11_struckOf_40 (by decide) (fun _ => ?_) (fun c_0 => absurd (zD_eq zk_0 zk_z) c_0)
                refine lv_iconst (v := nI 0) hx hb dX11_struckOf_50 (by decide +kernel) ?_
                exact t_375 (nI 0) (zR_w zk_0 (by decide)) _ _ hP hD hS _ (lv_sub hl [0, 1, 2, 3, 4] rfl)
        exact loop_341 _ (nI 0) (zR_w zk_0 (by decide)) (nI 0) (zR_w zk_0 (by decide)) (Nat.lt_succ_self _) _ _ hP hD hS _ (lv_sub hl [2, 3, 4, 1, 0] rfl)
  exact loop_281 _ (nI 0) (zR_w zk_0 (by decide)) (nI 0) (zR_w zk_0 (by decide)) _ _ hv_1 (Nat.lt_succ_self _) _ _ hP hD hS _ (lv_sub hl [2, 1, 0] rfl)
set_option maxHeartbeats 4000000 in
set_option maxRecDepth 100000 in
theorem mk_X11_strikes (l : Launch) (D : va_G) (q : Nat → Nat) (cA : Nat → ClassId) (F : Nat → Nat → Int32) (I R : Nat → Nat → Int32) (J : Nat → Nat → Int64) (hI : mInv F (I, R, J))  : zMi l D vwCl (zMtys cA) 25 q (zMd q cA) yX11_strikes cX11_strikes 1 (some .int) ({ frames := 7, cells := 0, slots := 0, locals := 179 } : Room) [.ref (q 0)] (I, R, J) (fun _ u => (mInv F u ∧ u.2.2 = J)) := by
  intro sz
  refine z_body (by decide +kernel) (Nat.le_of_ble_eq_true rfl) (fun p e s m below meth c ls hx hb hml hr ht hown hlocks hsz hK hP hD hS hl => ?_)
  have hA : ∀ a, s.heap.size ≤ a → zA 25 q sz a := fun a h => Or.inr (hsz ▸ h)
  have hl : lv_has ls 1 [(0, .ref (q 0))] := hl
  refine lv_aload_n hx hb dX11_strikes_0 rfl (lv_at hl 0 rfl) ?_
  refine z_callVi (k := 0) (As := []) (rest := []) hx hb hml hown ht (mk_X11_isCity l D q cA F _ _ _ hI ) hw_7_75 hmX11_isCity ⟨rfl, rfl⟩ (na := 0) rfl (by decide +kernel) (by decide) (by decide) rfl rfl hK hP hD hS hA hl.1 rfl (Nat.le_of_ble_eq_true rfl) ⟨Nat.zero_le _, Nat.zero_le _⟩ dX11_strikes_1 (fun r_1 I_1 R_1 J_1 H locs hp_1 hP hD hS _ _ => ?_)
  rcases hp_1 with ⟨rfl, hu_1⟩ | ⟨rfl, hu_1⟩
  · cases hu_1
    refine lv_if_eq (tgt := 17) hx hb dX11_strikes_4 (by decide) (fun c_0 => absurd c_0 (zD_ne zk_1 zk_z (by decide))) (fun _ => ?_)
    refine lv_aload_n hx hb dX11_strikes_7 rfl (lv_at hl 0 rfl) ?_
    refine z_callVi (k := 0) (As := []) (rest := []) hx hb hml hown ht (mk_X11_struckOf l D q cA F _ _ _ hI ) hw_7_132 hmX11_struckOf ⟨rfl, rfl⟩ (na := 0) rfl (by decide +kernel) (by decide) (by decide) rfl rfl hK hP hD hS hA hl.1 rfl (Nat.le_of_ble_eq_true rfl) ⟨Nat.zero_le _, Nat.zero_le _⟩ dX11_strikes_8 (fun r_2 I_2 R_2 J_2 H locs hp_2 hP hD hS _ _ => ?_)
    obtain ⟨hr_2, hu_2⟩ := hp_2
    obtain ⟨hv_2, hj_2⟩ := hu_2
    try dsimp only at hj_2
    subst J_2
    refine z_callSi (As := [.int (r_2)]) (rest := []) hx hb hml hown ht (mk_X11_bits l D q cA F _ _ _ hv_2 (r_2)) hw_7_64 hmX11_bits ⟨rfl, rfl⟩ (na := 1) rfl (by decide +kernel) (by decide) hK hP hD hS hA hl.1 rfl (Nat.le_of_ble_eq_true rfl) ⟨Nat.zero_le _, Nat.zero_le _⟩ dX11_strikes_11 (fun r_3 I_3 R_3 J_3 H locs hp_3 hP hD hS _ _ => ?_)
    cases hp_3
    refine lv_goto (tgt := 19) hx hb dX11_strikes_14 (by decide) ?_
    exact z_iret (v := r_3) hx hb hr hlocks hP hD hS dX11_strikes_19 ⟨hv_2, rfl⟩
  · cases hu_1
    refine lv_if_eq (tgt := 17) hx hb dX11_strikes_4 (by decide) (fun _ => ?_) (fun c_0 => absurd (zD_eq zk_0 zk_z) c_0)
    refine lv_bipush (v := (-2)) hx hb dX11_strikes_17 (by decide +kernel) ?_
    exact z_iret (v := (-2)) hx hb hr hlocks hP hD hS dX11_strikes_19 ⟨hI, rfl⟩
set_option maxHeartbeats 4000000 in
set_option maxRecDepth 100000 in
theorem mk_X11_struck (l : Launch) (D : va_G) (q : Nat → Nat) (cA : Nat → ClassId) (F : Nat → Nat → Int32) (I R : Nat → Nat → Int32) (J : Nat → Nat → Int64) (hI : mInv F (I, R, J))  : zMi l D vwCl (zMtys cA) 25 q (zMd q cA) yX11_struck cX11_struck 1 (some .int) ({ frames := 7, cells := 0, slots := 0, locals := 179 } : Room) [.ref (q 0)] (I, R, J) (fun r u => zR (-2) 16777215 r ∧ (mInv F u ∧ u.2.2 = J)) := by
  intro sz
  refine z_body (by decide +kernel) (Nat.le_of_ble_eq_true rfl) (fun p e s m below meth c ls hx hb hml hr ht hown hlocks hsz hK hP hD hS hl => ?_)
  have hA : ∀ a, s.heap.size ≤ a → zA 25 q sz a := fun a h => Or.inr (hsz ▸ h)
  have hl : lv_has ls 1 [(0, .ref (q 0))] := hl
  refine lv_aload_n hx hb dX11_struck_0 rfl (lv_at hl 0 rfl) ?_
  refine z_callVi (k := 0) (As := []) (rest := []) hx hb hml hown ht (mk_X11_isCity l D q cA F _ _ _ hI ) hw_7_75 hmX11_isCity ⟨rfl, rfl⟩ (na := 0) rfl (by decide +kernel) (by decide) (by decide) rfl rfl hK hP hD hS hA hl.1 rfl (Nat.le_of_ble_eq_true rfl) ⟨Nat.zero_le _, Nat.zero_le _⟩ dX11_struck_1 (fun r_1 I_1 R_1 J_1 H locs hp_1 hP hD hS _ _ => ?_)
  rcases hp_1 with ⟨rfl, hu_1⟩ | ⟨rfl, hu_1⟩
  · cases hu_1
    refine lv_if_eq (tgt := 14) hx hb dX11_struck_4 (by decide) (fun c_0 => absurd c_0 (zD_ne zk_1 zk_z (by decide))) (fun _ => ?_)
    refine lv_aload_n hx hb dX11_struck_7 rfl (lv_at hl 0 rfl) ?_
    refine z_callVi (k := 0) (As := []) (rest := []) hx hb hml hown ht (mk_X11_struckOf l D q cA F _ _ _ hI ) hw_7_132 hmX11_struckOf ⟨rfl, rfl⟩ (na := 0) rfl (by decide +kernel) (by decide) (by decide) rfl rfl hK hP hD hS hA hl.1 rfl (Nat.le_of_ble_eq_true rfl) ⟨Nat.zero_le _, Nat.zero_le _⟩ dX11_struck_8 (fun r_2 I_2 R_2 J_2 H locs hp_2 hP hD hS _ _ => ?_)
    obtain ⟨hr_2, hu_2⟩ := hp_2
    obtain ⟨hv_2, hj_2⟩ := hu_2
    try dsimp only at hj_2
    subst J_2
    refine lv_goto (tgt := 16) hx hb dX11_struck_11 (by decide) ?_
    exact z_iret (v := r_2) hx hb hr hlocks hP hD hS dX11_struck_16 ⟨(zR_w hr_2 (by decide)), ⟨hv_2, rfl⟩⟩
  · cases hu_1
    refine lv_if_eq (tgt := 14) hx hb dX11_struck_4 (by decide) (fun _ => ?_) (fun c_0 => absurd (zD_eq zk_0 zk_z) c_0)
    refine lv_bipush (v := (-2)) hx hb dX11_struck_14 (by decide +kernel) ?_
    exact z_iret (v := (-2)) hx hb hr hlocks hP hD hS dX11_struck_16 ⟨(zR_w zk_m2 (by decide)), ⟨hI, rfl⟩⟩
set_option maxHeartbeats 4000000 in
set_option maxRecDepth 100000 in
theorem mk_X11_trail (l : Launch) (D : va_G) (q : Nat → Nat) (cA : Nat → ClassId) (F : Nat → Nat → Int32) (I R : Nat → Nat → Int32) (J : Nat → Nat → Int64) (hI : mInv F (I, R, J)) (pa0 : Int32) (pa1 : Int32) : zMi l D vwCl (zMtys cA) 25 q (zMd q cA) yX11_trail cX11_trail 3 (some .int) ({ frames := 6, cells := 0, slots := 0, locals := 155 } : Room) [.ref (q 0), .int (pa0), .int (pa1)] (I, R, J) (fun _ u => (mInv F u ∧ u.2.2 = J)) := by
  intro sz
  refine z_body (by decide +kernel) (Nat.le_of_ble_eq_true rfl) (fun p e s m below meth c ls hx hb hml hr ht hown hlocks hsz hK hP hD hS hl => ?_)
  have hA : ∀ a, s.heap.size ≤ a → zA 25 q sz a := fun a h => Or.inr (hsz ▸ h)
  have hl : lv_has ls 3 [(0, .ref (q 0)), (1, .int (pa0)), (2, .int (pa1))] := hl
  refine lv_aload_n hx hb dX11_trail_0 rfl (lv_at hl 0 rfl) ?_
  refine lv_iload_n hx hb dX11_trail_1 rfl (lv_at hl 1 rfl) ?_
  refine lv_i2l (v := (pa0).toInt64) hx hb dX11_trail_2 rfl ?_
  refine z_callVi (k := 0) (As := [.long ((pa0).toInt64)]) (rest := []) hx hb hml hown ht (mk_X11_isThing l D q cA F _ _ _ hI ((pa0).toInt64) (zR_i2l (zR_any (pa0)))) hw_6_238 hmX11_isThing ⟨rfl, rfl⟩ (na := 1) rfl (by decide +kernel) (by decide) (by decide) rfl rfl hK hP hD hS hA hl.1 rfl (Nat.le_of_ble_eq_true rfl) ⟨Nat.zero_le _, Nat.zero_le _⟩ dX11_trail_3 (fun r_1 I_1 R_1 J_1 H locs hp_1 hP hD hS _ _ => ?_)
  rcases hp_1 with ⟨rfl, hu_1, f0_1⟩ | ⟨rfl, hu_1⟩
  · cases hu_1
    have f_2 : zR 0 5 (pa0) := zL_back f0_1
    refine lv_if_ne (tgt := 12) hx hb dX11_trail_6 (by decide) (fun _ => ?_) (fun c_0 => absurd c_0 (zD_ne zk_1 zk_z (by decide)))
    refine lv_aload_n hx hb dX11_trail_12 rfl (lv_at hl 0 rfl) ?_
    refine z_callVv (k := 0) (As := []) (rest := []) hx hb hml hown ht (mk_X11_asItIs l D q cA F _ _ _ hI ) hw_6_181 hmX11_asItIs ⟨rfl, rfl⟩ (na := 0) rfl (by decide +kernel) (by decide) (by decide) rfl rfl hK hP hD hS hA hl.1 rfl (Nat.le_of_ble_eq_true rfl) ⟨Nat.zero_le _, Nat.zero_le _⟩ dX11_trail_13 (fun I_3 R_3 J_3 H locs hp_3 hP hD hS _ _ => ?_)
    obtain ⟨hv_3, hj_3, hs_3⟩ := hp_3
    try dsimp only at hj_3
    subst J_3
    refine lv_iload_n hx hb dX11_trail_16 rfl (lv_at hl 2 rfl) ?_
    refine lv_i2l (v := (pa1).toInt64) hx hb dX11_trail_17 rfl ?_
    refine lv_lconst (v := (0 : Int64)) hx hb dX11_trail_18 (by decide +kernel) ?_
    refine lv_aload_n hx hb dX11_trail_19 rfl (lv_at hl 0 rfl) ?_
    refine z_get hx hb ht hown hK hP ziX11 rfl 0 (by decide) 25 (by decide) hw_5_212 rfl (v := .ref (q 17)) rfl dX11_trail_20 ?_
    refine lv_iload_n hx hb dX11_trail_23 rfl (lv_at hl 1 rfl) ?_
    refine z_iald hx hb hK hP 17 (by decide) 16 rfl rfl (zR_vin f_2 (by decide)) dX11_trail_24 ?_
    refine z_eqi (y := R_3 17 (pa0).toNatClampNeg) rfl ?_
    have f_4 : zR 0 146 (R_3 17 (pa0).toNatClampNeg) := mR hv_3 17 (pa0).toNatClampNeg
    refine lv_iconst (v := nI 1) hx hb dX11_trail_25 (by decide +kernel) ?_
    refine lv_isub hx hb dX11_trail_26 ?_
    refine z_subc (-1) 145 (-1) f_4 zk_1 (by decide) (fun v_5 hv_5 mv_5 => ?_)
    refine lv_i2l (v := (v_5).toInt64) hx hb dX11_trail_27 rfl ?_
    refine z_callSi (As := [.long ((pa1).toInt64), .long ((0 : Int64)), .long ((v_5).toInt64)]) (rest := []) hx hb hml hown ht (mk_X11_in l D q cA F _ _ _ hv_3 ((pa1).toInt64) ((0 : Int64)) ((v_5).toInt64)) hw_6_86 hmX11_in ⟨rfl, rfl⟩ (na := 3) rfl (by decide +kernel) (by decide) hK hP hD hS hA hl.1 rfl (Nat.le_of_ble_eq_true rfl) ⟨Nat.zero_le _, Nat.zero_le _⟩ dX11_trail_28 (fun r_6 I_6 R_6 J_6 H locs hp_6 hP hD hS _ _ => ?_)
    rcases hp_6 with ⟨rfl, hu_6, h1_6, h2_6⟩ | ⟨rfl, hu_6, h1_6 | h2_6⟩
    · cases hu_6
      have f_7 : zL 0 2147483647 ((pa1).toInt64) := zL_ley h1_6 zkl_0 (zR_i2l (zR_any (pa1))) (by decide)
      have f_8 : zR 0 2147483647 (pa1) := zL_back f_7
      have f_9 : zL 0 145 ((pa1).toInt64) := zL_lex h2_6 f_7 (zR_i2l hv_5) (by decide)
      have f_10 : zR 0 145 (pa1) := zL_back f_9
      have f_11 : zL 0 145 ((v_5).toInt64) := zL_ley h2_6 f_7 (zR_i2l hv_5) (by decide)
      have f_12 : zR 0 145 (v_5) := zL_back f_11
      refine lv_if_eq (tgt := 49) hx hb dX11_trail_31 (by decide) (fun c_0 => absurd c_0 (zD_ne zk_1 zk_z (by decide))) (fun _ => ?_)
      refine lv_aload_n hx hb dX11_trail_34 rfl (lv_at hl 0 rfl) ?_
      refine z_get hx hb ht hown hK hP ziX11 rfl 0 (by decide) 24 (by decide) hw_5_211 rfl (v := .ref (q 16)) rfl dX11_trail_35 ?_
      refine lv_sipush (v := nI 146) hx hb dX11_trail_38 (by decide +kernel) ?_
      refine lv_iload_n hx hb dX11_trail_41 rfl (lv_at hl 1 rfl) ?_
      refine lv_imul hx hb dX11_trail_42 ?_
      refine z_rng (a := 0) (b := 730) (zR_mul zk_146 f_2 (by decide)) (fun v_13 hv_13 => ?_)
      refine lv_iload_n hx hb dX11_trail_43 rfl (lv_at hl 2 rfl) ?_
      refine lv_iadd hx hb dX11_trail_44 ?_
      refine z_rng (a := 0) (b := 875) (zR_add hv_13 f_10 (by decide)) (fun v_14 hv_14 => ?_)
      refine z_iald hx hb hK hP 16 (by decide) 15 rfl rfl (zR_vin hv_14 (by decide)) dX11_trail_45 ?_
      refine z_eqi (y := R_3 16 (v_14).toNatClampNeg) rfl ?_
      refine lv_goto (tgt := 50) hx hb dX11_trail_46 (by decide) ?_
      exact z_iret (v := R_3 16 (v_14).toNatClampNeg) hx hb hr hlocks hP hD hS dX11_trail_50 ⟨hv_3, rfl⟩
    · cases hu_6
      have f_15 : zL (-2147483648) (-1) ((pa1).toInt64) := zL_ltx h1_6 (zR_i2l (zR_any (pa1))) zkl_0 (by decide)
      have f_16 : zR (-2147483648) (-1) (pa1) := zL_back f_15
      refine lv_if_eq (tgt := 49) hx hb dX11_trail_31 (by decide) (fun _ => ?_) (fun c_0 => absurd (zD_eq zk_0 zk_z) c_0)
      refine lv_iconst (v := (-1)) hx hb dX11_trail_49 (by decide +kernel) ?_
      exact z_iret (v := (-1)) hx hb hr hlocks hP hD hS dX11_trail_50 ⟨hv_3, rfl⟩
    · cases hu_6
      have f_17 : zL 0 2147483647 ((pa1).toInt64) := zL_lty h2_6 (zR_i2l hv_5) (zR_i2l (zR_any (pa1))) (by decide)
      have f_18 : zR 0 2147483647 (pa1) := zL_back f_17
      refine lv_if_eq (tgt := 49) hx hb dX11_trail_31 (by decide) (fun _ => ?_) (fun c_0 => absurd (zD_eq zk_0 zk_z) c_0)
      refine lv_iconst (v := (-1)) hx hb dX11_trail_49 (by decide +kernel) ?_
      exact z_iret (v := (-1)) hx hb hr hlocks hP hD hS dX11_trail_50 ⟨hv_3, rfl⟩
  · cases hu_1
    refine lv_if_ne (tgt := 12) hx hb dX11_trail_6 (by decide) (fun c_0 => absurd (zD_eq zk_0 zk_z) c_0) (fun _ => ?_)
    refine lv_bipush (v := (-2)) hx hb dX11_trail_9 (by decide +kernel) ?_
    exact z_iret (v := (-2)) hx hb hr hlocks hP hD hS dX11_trail_11 ⟨hI, rfl⟩
set_option maxHeartbeats 4000000 in
set_option maxRecDepth 100000 in
theorem mk_X11_went (l : Launch) (D : va_G) (q : Nat → Nat) (cA : Nat → ClassId) (F : Nat → Nat → Int32) (I R : Nat → Nat → Int32) (J : Nat → Nat → Int64) (hI : mInv F (I, R, J)) (pa0 : Int32) : zMi l D vwCl (zMtys cA) 25 q (zMd q cA) yX11_went cX11_went 2 (some .int) ({ frames := 6, cells := 0, slots := 0, locals := 155 } : Room) [.ref (q 0), .int (pa0)] (I, R, J) (fun r u => zR (-2) 145 r ∧ (mInv F u ∧ u.2.2 = J)) := by
  intro sz
  refine z_body (by decide +kernel) (Nat.le_of_ble_eq_true rfl) (fun p e s m below meth c ls hx hb hml hr ht hown hlocks hsz hK hP hD hS hl => ?_)
  have hA : ∀ a, s.heap.size ≤ a → zA 25 q sz a := fun a h => Or.inr (hsz ▸ h)
  have hl : lv_has ls 2 [(0, .ref (q 0)), (1, .int (pa0))] := hl
  refine lv_aload_n hx hb dX11_went_0 rfl (lv_at hl 0 rfl) ?_
  refine lv_iload_n hx hb dX11_went_1 rfl (lv_at hl 1 rfl) ?_
  refine lv_i2l (v := (pa0).toInt64) hx hb dX11_went_2 rfl ?_
  refine z_callVi (k := 0) (As := [.long ((pa0).toInt64)]) (rest := []) hx hb hml hown ht (mk_X11_isThing l D q cA F _ _ _ hI ((pa0).toInt64) (zR_i2l (zR_any (pa0)))) hw_6_238 hmX11_isThing ⟨rfl, rfl⟩ (na := 1) rfl (by decide +kernel) (by decide) (by decide) rfl rfl hK hP hD hS hA hl.1 rfl (Nat.le_of_ble_eq_true rfl) ⟨Nat.zero_le _, Nat.zero_le _⟩ dX11_went_3 (fun r_1 I_1 R_1 J_1 H locs hp_1 hP hD hS _ _ => ?_)
  rcases hp_1 with ⟨rfl, hu_1, f0_1⟩ | ⟨rfl, hu_1⟩
  · cases hu_1
    have f_2 : zR 0 5 (pa0) := zL_back f0_1
    refine lv_if_ne (tgt := 12) hx hb dX11_went_6 (by decide) (fun _ => ?_) (fun c_0 => absurd c_0 (zD_ne zk_1 zk_z (by decide)))
    refine lv_aload_n hx hb dX11_went_12 rfl (lv_at hl 0 rfl) ?_
    refine z_callVv (k := 0) (As := []) (rest := []) hx hb hml hown ht (mk_X11_asItIs l D q cA F _ _ _ hI ) hw_6_181 hmX11_asItIs ⟨rfl, rfl⟩ (na := 0) rfl (by decide +kernel) (by decide) (by decide) rfl rfl hK hP hD hS hA hl.1 rfl (Nat.le_of_ble_eq_true rfl) ⟨Nat.zero_le _, Nat.zero_le _⟩ dX11_went_13 (fun I_3 R_3 J_3 H locs hp_3 hP hD hS _ _ => ?_)
    obtain ⟨hv_3, hj_3, hs_3⟩ := hp_3
    try dsimp only at hj_3
    subst J_3
    refine lv_aload_n hx hb dX11_went_16 rfl (lv_at hl 0 rfl) ?_
    refine z_get hx hb ht hown hK hP ziX11 rfl 0 (by decide) 25 (by decide) hw_5_212 rfl (v := .ref (q 17)) rfl dX11_went_17 ?_
    refine lv_iload_n hx hb dX11_went_20 rfl (lv_at hl 1 rfl) ?_
    refine z_iald hx hb hK hP 17 (by decide) 16 rfl rfl (zR_vin f_2 (by decide)) dX11_went_21 ?_
    refine z_eqi (y := R_3 17 (pa0).toNatClampNeg) rfl ?_
    have f_4 : zR 0 146 (R_3 17 (pa0).toNatClampNeg) := mR hv_3 17 (pa0).toNatClampNeg
    refine lv_iconst (v := nI 1) hx hb dX11_went_22 (by decide +kernel) ?_
    refine lv_isub hx hb dX11_went_23 ?_
    refine z_subc (-1) 145 (-1) f_4 zk_1 (by decide) (fun v_5 hv_5 mv_5 => ?_)
    exact z_iret (v := v_5) hx hb hr hlocks hP hD hS dX11_went_24 ⟨(zR_w hv_5 (by decide)), ⟨hv_3, rfl⟩⟩
  · cases hu_1
    refine lv_if_ne (tgt := 12) hx hb dX11_went_6 (by decide) (fun c_0 => absurd (zD_eq zk_0 zk_z) c_0) (fun _ => ?_)
    refine lv_bipush (v := (-2)) hx hb dX11_went_9 (by decide +kernel) ?_
    exact z_iret (v := (-2)) hx hb hr hlocks hP hD hS dX11_went_11 ⟨(zR_w zk_m2 (by decide)), ⟨hI, rfl⟩⟩
set_option maxHeartbeats 4000000 in
set_option maxRecDepth 100000 in
theorem mk_X11_liesFor (l : Launch) (D : va_G) (q : Nat → Nat) (cA : Nat → ClassId) (F : Nat → Nat → Int32) (I R : Nat → Nat → Int32) (J : Nat → Nat → Int64) (hI : mInv F (I, R, J)) (pa0 : Int32) (hpa0 : zR 0 4 pa0) : zMi l D vwCl (zMtys cA) 25 q (zMd q cA) yX11_liesFor cX11_liesFor 4 (some .int) ({ frames := 0, cells := 0, slots := 0, locals := 0 } : Room) [.ref (q 0), .int (pa0)] (I, R, J) (fun r u => zR 0 63 r ∧ u = (I, R, J)) := by
  intro sz
  refine z_body (by decide +kernel) (Nat.le_of_ble_eq_true rfl) (fun p e s m below meth c ls hx hb hml hr ht hown hlocks hsz hK hP hD hS hl => ?_)
  have hA : ∀ a, s.heap.size ≤ a → zA 25 q sz a := fun a h => Or.inr (hsz ▸ h)
  have hl : lv_has ls 4 [(0, .ref (q 0)), (1, .int (pa0))] := hl
  refine lv_iconst (v := nI 0) hx hb dX11_liesFor_0 (by decide +kernel) ?_
  refine lv_istore_n (lv' := [(2, .int (nI 0)), (0, .ref (q 0)), (1, .int (pa0))]) hx hb dX11_liesFor_1 rfl hl (by decide) rfl (fun ls hl => ?_)
  refine lv_iconst (v := nI 0) hx hb dX11_liesFor_2 (by decide +kernel) ?_
  refine lv_istore_n (lv' := [(3, .int (nI 0)), (2, .int (nI 0)), (0, .ref (q 0)), (1, .int (pa0))]) hx hb dX11_liesFor_3 rfl hl (by decide) rfl (fun ls hl => ?_)
  have loop_69 : ∀ N : Nat, ∀ x_67 : Int32, zR 0 63 x_67 → ∀ x_68 : Int32, zR 0 6 x_68 → (2147483648 - (x_68).toInt).toNat < N → ∀ (H : Heap) (locs : List Loc), va_P D vwCl (zw 25 q (zMd q cA) I R J) H → va_D (zA 25 q sz) (zw 25 q (zMd q cA) I R J) → va_S (zA 25 q sz) s.heap H locs → ∀ ls : Array Slot, lv_has ls 4 [(0, .ref (q 0)), (1, .int (pa0)), (2, .int (x_67)), (3, .int (x_68))] → W p l e ({ frames := 0, cells := 0, slots := 0, locals := 0 } : Room) s m ([.ref (q 0), .int (pa0)] : List Value).toArray below meth c H locs 0 0 (MQ below (va_Qi (fun r u => zR 0 63 r ∧ u = (I, R, J)) (zB D vwCl 25 q (zMd q cA) sz) (zA 25 q sz)) ([.ref (q 0), .int (pa0)] : List Value).toArray s 0 0 (zA 25 q sz)) (F0 m 4 ls []) := by
    intro N
    induction N with
    | zero => intro x_67 hx_67 x_68 hx_68 hN; exact absurd hN (Nat.not_lt_zero _)
    | succ N ih_71 =>
      intro x_67 hx_67 x_68 hx_68 hN_70 H locs hP hD hS ls hl
      refine lv_iload_n hx hb dX11_liesFor_4 rfl (lv_at hl 3 rfl) ?_
      refine lv_aload_n hx hb dX11_liesFor_5 rfl (lv_at hl 0 rfl) ?_
      refine z_get hx hb ht hown hK hP ziX11 rfl 0 (by decide) 1 (by decide) hw_5_188 rfl (v := .ref (q 1)) rfl dX11_liesFor_6 ?_
      refine lv_iconst (v := nI 4) hx hb dX11_liesFor_9 (by decide +kernel) ?_
      refine z_iald hx hb hK hP 1 (by decide) 0 rfl rfl (zR_vin zk_4 (by decide)) dX11_liesFor_10 ?_
      refine z_eqi (y := R 1 (nI 4).toNatClampNeg) rfl ?_
      have f_72 : zR 0 6 (R 1 (nI 4).toNatClampNeg) := mR hI 1 4
      refine lv_icmp_ge (tgt := 54) hx hb dX11_liesFor_11 (by decide) (fun c_73 => ?_) (fun c_73 => ?_)
      · have t_c_73 := z_leT c_73
        refine lv_iload_n hx hb dX11_liesFor_54 rfl (lv_at hl 2 rfl) ?_
        exact z_iret (v := x_67) hx hb hr hlocks hP hD hS dX11_liesFor_55 ⟨hx_67, rfl⟩
      · have t_c_73 := z_leF c_73
        have f_74 : zR 0 5 (x_68) := zR_ltx t_c_73 hx_68 f_72 (by decide)
        have f_75 : zR 1 6 (R 1 (nI 4).toNatClampNeg) := zR_lty t_c_73 hx_68 f_72 (by decide)
        refine lv_iload_n hx hb dX11_liesFor_14 rfl (lv_at hl 2 rfl) ?_
        refine lv_aload_n hx hb dX11_liesFor_15 rfl (lv_at hl 0 rfl) ?_
        refine z_get hx hb ht hown hK hP ziX11 rfl 0 (by decide) 17 (by decide) hw_5_204 rfl (v := .ref (q 9)) rfl dX11_liesFor_16 ?_
        refine lv_iload_n hx hb dX11_liesFor_19 rfl (lv_at hl 3 rfl) ?_
        refine z_iald hx hb hK hP 9 (by decide) 8 rfl rfl (zR_vin f_74 (by decide)) dX11_liesFor_20 ?_
        refine z_eqi (y := R 9 (x_68).toNatClampNeg) rfl ?_
        have f_76 : zR 0 4 (R 9 (x_68).toNatClampNeg) := mR hI 9 (x_68).toNatClampNeg
        refine lv_iload_n hx hb dX11_liesFor_21 rfl (lv_at hl 1 rfl) ?_
        have t_82 : ∀ x_81 : Int32, zR 0 32 x_81 → ∀ (H : Heap) (locs : List Loc), va_P D vwCl (zw 25 q (zMd q cA) I R J) H → va_D (zA 25 q sz) (zw 25 q (zMd q cA) I R J) → va_S (zA 25 q sz) s.heap H locs → ∀ ls : Array Slot, lv_has ls 4 [(0, .ref (q 0)), (1, .int (pa0)), (2, .int (x_67)), (3, .int (x_68))] → W p l e ({ frames := 0, cells := 0, slots := 0, locals := 0 } : Room) s m ([.ref (q 0), .int (pa0)] : List Value).toArray below meth c H locs 0 0 (MQ below (va_Qi (fun r u => zR 0 63 r ∧ u = (I, R, J)) (zB D vwCl 25 q (zMd q cA) sz) (zA 25 q sz)) ([.ref (q 0), .int (pa0)] : List Value).toArray s 0 0 (zA 25 q sz)) (F0 m 46 ls [.int (x_81), .int (x_67)]) := by
          intro x_81 hx_81 H locs hP hD hS ls hl
          refine lv_ior hx hb dX11_liesFor_46 ?_
          refine z_rng (a := 0) (b := 63) (zR_or 6 hx_67 hx_81 (by decide)) (fun v_83 hv_83 => ?_)
          refine lv_istore_n (lv' := [(2, .int (v_83)), (0, .ref (q 0)), (1, .int (pa0)), (3, .int (x_68))]) hx hb dX11_liesFor_47 rfl hl (by decide) rfl (fun ls hl => ?_)
          obtain ⟨v_84, ev_84⟩ : ∃ y : Int32, y = x_68 + nI 1 := ⟨_, rfl⟩
          have hv_84 : zR 1 6 v_84 := ev_84 ▸ zR_add f_74 zk_1 (by decide)
          have mv_84 : v_84.toInt = (x_68).toInt + 1 := by rw [ev_84, zR_addE f_74 zk_1 (by decide)]; rfl
          refine lv_iinc (v := v_84) (lv' := [(3, .int (v_84)), (2, .int (v_83)), (0, .ref (q 0)), (1, .int (pa0))]) hx hb dX11_liesFor_48 hl (k := 3) rfl (ev_84 ▸ rfl) (by decide) rfl (fun ls hl => ?_)
          refine lv_goto (tgt := 4) hx hb dX11_liesFor_51 (by decide) ?_
          exact ih_71 (v_83) hv_83 (v_84) (zR_w hv_84 (by decide)) (z2_up mv_84 (by decide) hN_70) _ _ hP hD hS _ (lv_sub hl [2, 3, 1, 0] rfl)
        refine lv_icmp_eq (tgt := 45) hx hb dX11_liesFor_22 (by decide) (fun c_77 => ?_) (fun c_77 => ?_)
        · have t_c_77 := z_eqT c_77
          refine lv_iconst (v := nI 0) hx hb dX11_liesFor_45 (by decide +kernel) ?_
          exact t_82 (nI 0) (zR_w zk_0 (by decide)) _ _ hP hD hS _ (lv_sub hl [0, 1, 2, 3] rfl)
        · have t_c_77 := z_eqF c_77
          refine lv_aload_n hx hb dX11_liesFor_25 rfl (lv_at hl 0 rfl) ?_
          refine z_get hx hb ht hown hK hP ziX11 rfl 0 (by decide) 16 (by decide) hw_5_203 rfl (v := .ref (q 8)) rfl dX11_liesFor_26 ?_
          refine lv_aload_n hx hb dX11_liesFor_29 rfl (lv_at hl 0 rfl) ?_
          refine z_get hx hb ht hown hK hP ziX11 rfl 0 (by decide) 17 (by decide) hw_5_204 rfl (v := .ref (q 9)) rfl dX11_liesFor_30 ?_
          refine lv_iload_n hx hb dX11_liesFor_33 rfl (lv_at hl 3 rfl) ?_
          refine z_iald hx hb hK hP 9 (by decide) 8 rfl rfl (zR_vin f_74 (by decide)) dX11_liesFor_34 ?_
          refine z_eqi (y := R 9 (x_68).toNatClampNeg) rfl ?_
          refine z_iald hx hb hK hP 8 (by decide) 7 rfl rfl (zR_vin f_76 (by decide)) dX11_liesFor_35 ?_
          refine z_eqi (y := R 8 (R 9 (x_68).toNatClampNeg).toNatClampNeg) rfl ?_
          refine lv_if_ne (tgt := 45) hx hb dX11_liesFor_36 (by decide) (fun c_85 => ?_) (fun c_85 => ?_)
          · have t_c_85 := z_eqF c_85
            refine lv_iconst (v := nI 0) hx hb dX11_liesFor_45 (by decide +kernel) ?_
            exact t_82 (nI 0) (zR_w zk_0 (by decide)) _ _ hP hD hS _ (lv_sub hl [0, 1, 2, 3] rfl)
          · have t_c_85 := z_eqT c_85
            have f_86 : zR 0 0 (R 8 (R 9 (x_68).toNatClampNeg).toNatClampNeg) := zR_eqx t_c_85 zk_z
            refine lv_iconst (v := nI 1) hx hb dX11_liesFor_39 (by decide +kernel) ?_
            refine lv_iload_n hx hb dX11_liesFor_40 rfl (lv_at hl 3 rfl) ?_
            refine lv_ishl hx hb dX11_liesFor_41 ?_
            refine z_rng (a := 1) (b := 32) (zR_shl1 5 f_74 (by decide)) (fun v_87 hv_87 => ?_)
            refine lv_goto (tgt := 46) hx hb dX11_liesFor_42 (by decide) ?_
            exact t_82 (v_87) (zR_w hv_87 (by decide)) _ _ hP hD hS _ (lv_sub hl [0, 1, 2, 3] rfl)
  exact loop_69 _ (nI 0) (zR_w zk_0 (by decide)) (nI 0) (zR_w zk_0 (by decide)) (Nat.lt_succ_self _) _ _ hP hD hS _ (lv_sub hl [2, 3, 1, 0] rfl)
set_option maxHeartbeats 4000000 in
set_option maxRecDepth 100000 in
theorem mk_X11_lies (l : Launch) (D : va_G) (q : Nat → Nat) (cA : Nat → ClassId) (F : Nat → Nat → Int32) (I R : Nat → Nat → Int32) (J : Nat → Nat → Int64) (hI : mInv F (I, R, J)) (pa0 : Int32) : zMi l D vwCl (zMtys cA) 25 q (zMd q cA) yX11_lies cX11_lies 2 (some .int) ({ frames := 6, cells := 0, slots := 0, locals := 155 } : Room) [.ref (q 0), .int (pa0)] (I, R, J) (fun r u => zR (-2) 63 r ∧ (mInv F u ∧ u.2.2 = J)) := by
  intro sz
  refine z_body (by decide +kernel) (Nat.le_of_ble_eq_true rfl) (fun p e s m below meth c ls hx hb hml hr ht hown hlocks hsz hK hP hD hS hl => ?_)
  have hA : ∀ a, s.heap.size ≤ a → zA 25 q sz a := fun a h => Or.inr (hsz ▸ h)
  have hl : lv_has ls 2 [(0, .ref (q 0)), (1, .int (pa0))] := hl
  refine lv_aload_n hx hb dX11_lies_0 rfl (lv_at hl 0 rfl) ?_
  refine lv_iload_n hx hb dX11_lies_1 rfl (lv_at hl 1 rfl) ?_
  refine lv_i2l (v := (pa0).toInt64) hx hb dX11_lies_2 rfl ?_
  refine z_callVi (k := 0) (As := [.long ((pa0).toInt64)]) (rest := []) hx hb hml hown ht (mk_X11_isHouse l D q cA F _ _ _ hI ((pa0).toInt64) (zR_i2l (zR_any (pa0)))) hw_6_176 hmX11_isHouse ⟨rfl, rfl⟩ (na := 1) rfl (by decide +kernel) (by decide) (by decide) rfl rfl hK hP hD hS hA hl.1 rfl (Nat.le_of_ble_eq_true rfl) ⟨Nat.zero_le _, Nat.zero_le _⟩ dX11_lies_3 (fun r_1 I_1 R_1 J_1 H locs hp_1 hP hD hS _ _ => ?_)
  rcases hp_1 with ⟨rfl, hu_1, f0_1⟩ | ⟨rfl, hu_1⟩
  · cases hu_1
    have f_2 : zR 0 4 (pa0) := zL_back f0_1
    refine lv_if_ne (tgt := 12) hx hb dX11_lies_6 (by decide) (fun _ => ?_) (fun c_0 => absurd c_0 (zD_ne zk_1 zk_z (by decide)))
    refine lv_aload_n hx hb dX11_lies_12 rfl (lv_at hl 0 rfl) ?_
    refine z_callVv (k := 0) (As := []) (rest := []) hx hb hml hown ht (mk_X11_asItIs l D q cA F _ _ _ hI ) hw_6_181 hmX11_asItIs ⟨rfl, rfl⟩ (na := 0) rfl (by decide +kernel) (by decide) (by decide) rfl rfl hK hP hD hS hA hl.1 rfl (Nat.le_of_ble_eq_true rfl) ⟨Nat.zero_le _, Nat.zero_le _⟩ dX11_lies_13 (fun I_3 R_3 J_3 H locs hp_3 hP hD hS _ _ => ?_)
    obtain ⟨hv_3, hj_3, hs_3⟩ := hp_3
    try dsimp only at hj_3
    subst J_3
    refine lv_aload_n hx hb dX11_lies_16 rfl (lv_at hl 0 rfl) ?_
    refine lv_iload_n hx hb dX11_lies_17 rfl (lv_at hl 1 rfl) ?_
    refine z_callVi (k := 0) (As := [.int (pa0)]) (rest := []) hx hb hml hown ht (mk_X11_liesFor l D q cA F _ _ _ hv_3 (pa0) f_2) hw_7_164 hmX11_liesFor ⟨rfl, rfl⟩ (na := 1) rfl (by decide +kernel) (by decide) (by decide) rfl rfl hK hP hD hS hA hl.1 rfl (Nat.le_of_ble_eq_true rfl) ⟨Nat.zero_le _, Nat.zero_le _⟩ dX11_lies_18 (fun r_4 I_4 R_4 J_4 H locs hp_4 hP hD hS _ _ => ?_)
    obtain ⟨hr_4, hu_4⟩ := hp_4
    cases hu_4
    exact z_iret (v := r_4) hx hb hr hlocks hP hD hS dX11_lies_21 ⟨(zR_w hr_4 (by decide)), ⟨hv_3, rfl⟩⟩
  · cases hu_1
    refine lv_if_ne (tgt := 12) hx hb dX11_lies_6 (by decide) (fun c_0 => absurd (zD_eq zk_0 zk_z) c_0) (fun _ => ?_)
    refine lv_bipush (v := (-2)) hx hb dX11_lies_9 (by decide +kernel) ?_
    exact z_iret (v := (-2)) hx hb hr hlocks hP hD hS dX11_lies_11 ⟨(zR_w zk_m2 (by decide)), ⟨hI, rfl⟩⟩
set_option maxHeartbeats 4000000 in
set_option maxRecDepth 100000 in
theorem mk_X11_poorest (l : Launch) (D : va_G) (q : Nat → Nat) (cA : Nat → ClassId) (F : Nat → Nat → Int32) (I R : Nat → Nat → Int32) (J : Nat → Nat → Int64) (hI : mInv F (I, R, J))  : zMi l D vwCl (zMtys cA) 25 q (zMd q cA) yX11_poorest cX11_poorest 3 (some .int) ({ frames := 6, cells := 0, slots := 0, locals := 155 } : Room) [.ref (q 0)] (I, R, J) (fun r u => zR (-2) 4 r ∧ (mInv F u ∧ u.2.2 = J)) := by
  intro sz
  refine z_body (by decide +kernel) (Nat.le_of_ble_eq_true rfl) (fun p e s m below meth c ls hx hb hml hr ht hown hlocks hsz hK hP hD hS hl => ?_)
  have hA : ∀ a, s.heap.size ≤ a → zA 25 q sz a := fun a h => Or.inr (hsz ▸ h)
  have hl : lv_has ls 3 [(0, .ref (q 0))] := hl
  refine lv_aload_n hx hb dX11_poorest_0 rfl (lv_at hl 0 rfl) ?_
  refine z_callVi (k := 0) (As := []) (rest := []) hx hb hml hown ht (mk_X11_isCity l D q cA F _ _ _ hI ) hw_7_75 hmX11_isCity ⟨rfl, rfl⟩ (na := 0) rfl (by decide +kernel) (by decide) (by decide) rfl rfl hK hP hD hS hA hl.1 rfl (Nat.le_of_ble_eq_true rfl) ⟨Nat.zero_le _, Nat.zero_le _⟩ dX11_poorest_1 (fun r_1 I_1 R_1 J_1 H locs hp_1 hP hD hS _ _ => ?_)
  rcases hp_1 with ⟨rfl, hu_1⟩ | ⟨rfl, hu_1⟩
  · cases hu_1
    refine lv_if_ne (tgt := 10) hx hb dX11_poorest_4 (by decide) (fun _ => ?_) (fun c_0 => absurd c_0 (zD_ne zk_1 zk_z (by decide)))
    refine lv_aload_n hx hb dX11_poorest_10 rfl (lv_at hl 0 rfl) ?_
    refine z_callVv (k := 0) (As := []) (rest := []) hx hb hml hown ht (mk_X11_asItIs l D q cA F _ _ _ hI ) hw_6_181 hmX11_asItIs ⟨rfl, rfl⟩ (na := 0) rfl (by decide +kernel) (by decide) (by decide) rfl rfl hK hP hD hS hA hl.1 rfl (Nat.le_of_ble_eq_true rfl) ⟨Nat.zero_le _, Nat.zero_le _⟩ dX11_poorest_11 (fun I_2 R_2 J_2 H locs hp_2 hP hD hS _ _ => ?_)
    obtain ⟨hv_2, hj_2, hs_2⟩ := hp_2
    try dsimp only at hj_2
    subst J_2
    refine lv_iconst (v := (-1)) hx hb dX11_poorest_14 (by decide +kernel) ?_
    refine lv_istore_n (lv' := [(1, .int ((-1))), (0, .ref (q 0))]) hx hb dX11_poorest_15 rfl hl (by decide) rfl (fun ls hl => ?_)
    refine lv_iconst (v := nI 0) hx hb dX11_poorest_16 (by decide +kernel) ?_
    refine lv_istore_n (lv' := [(2, .int (nI 0)), (1, .int ((-1))), (0, .ref (q 0))]) hx hb dX11_poorest_17 rfl hl (by decide) rfl (fun ls hl => ?_)
    have loop_73 : ∀ N : Nat, ∀ x_71 : Int32, zR (-1) 4 x_71 → ∀ x_72 : Int32, zR 0 5 x_72 → (2147483648 - (x_72).toInt).toNat < N → ∀ (H : Heap) (locs : List Loc), va_P D vwCl (zw 25 q (zMd q cA) I_2 R_2 J) H → va_D (zA 25 q sz) (zw 25 q (zMd q cA) I_2 R_2 J) → va_S (zA 25 q sz) s.heap H locs → ∀ ls : Array Slot, lv_has ls 3 [(0, .ref (q 0)), (1, .int (x_71)), (2, .int (x_72))] → W p l e ({ frames := 6, cells := 0, slots := 0, locals := 155 } : Room) s m ([.ref (q 0)] : List Value).toArray below meth c H locs 0 0 (MQ below (va_Qi (fun r u => zR (-2) 4 r ∧ (mInv F u ∧ u.2.2 = J)) (zB D vwCl 25 q (zMd q cA) sz) (zA 25 q sz)) ([.ref (q 0)] : List Value).toArray s 0 0 (zA 25 q sz)) (F0 m 18 ls []) := by
      intro N
      induction N with
      | zero => intro x_71 hx_71 x_72 hx_72 hN; exact absurd hN (Nat.not_lt_zero _)
      | succ N ih_75 =>
        intro x_71 hx_71 x_72 hx_72 hN_74 H locs hP hD hS ls hl
        refine lv_iload_n hx hb dX11_poorest_18 rfl (lv_at hl 2 rfl) ?_
        refine lv_aload_n hx hb dX11_poorest_19 rfl (lv_at hl 0 rfl) ?_
        refine z_get hx hb ht hown hK hP ziX11 rfl 0 (by decide) 1 (by decide) hw_5_188 rfl (v := .ref (q 1)) rfl dX11_poorest_20 ?_
        refine lv_iconst (v := nI 3) hx hb dX11_poorest_23 (by decide +kernel) ?_
        refine z_iald hx hb hK hP 1 (by decide) 0 rfl rfl (zR_vin zk_3 (by decide)) dX11_poorest_24 ?_
        refine z_eqi (y := R_2 1 (nI 3).toNatClampNeg) rfl ?_
        have f_76 : zR 0 5 (R_2 1 (nI 3).toNatClampNeg) := mR hv_2 1 3
        refine lv_icmp_ge (tgt := 58) hx hb dX11_poorest_25 (by decide) (fun c_77 => ?_) (fun c_77 => ?_)
        · have t_c_77 := z_leT c_77
          refine lv_iload_n hx hb dX11_poorest_58 rfl (lv_at hl 1 rfl) ?_
          exact z_iret (v := x_71) hx hb hr hlocks hP hD hS dX11_poorest_59 ⟨(zR_w hx_71 (by decide)), ⟨hv_2, rfl⟩⟩
        · have t_c_77 := z_leF c_77
          have f_78 : zR 0 4 (x_72) := zR_ltx t_c_77 hx_72 f_76 (by decide)
          have f_79 : zR 1 5 (R_2 1 (nI 3).toNatClampNeg) := zR_lty t_c_77 hx_72 f_76 (by decide)
          refine lv_iload_n hx hb dX11_poorest_28 rfl (lv_at hl 1 rfl) ?_
          refine lv_iconst (v := (-1)) hx hb dX11_poorest_29 (by decide +kernel) ?_
          have t_89 : ∀ x_88 : Int32, zR 0 4 x_88 → ∀ (H : Heap) (locs : List Loc), va_P D vwCl (zw 25 q (zMd q cA) I_2 R_2 J) H → va_D (zA 25 q sz) (zw 25 q (zMd q cA) I_2 R_2 J) → va_S (zA 25 q sz) s.heap H locs → ∀ ls : Array Slot, lv_has ls 3 [(0, .ref (q 0)), (1, .int (x_71)), (2, .int (x_72))] → W p l e ({ frames := 6, cells := 0, slots := 0, locals := 155 } : Room) s m ([.ref (q 0)] : List Value).toArray below meth c H locs 0 0 (MQ below (va_Qi (fun r u => zR (-2) 4 r ∧ (mInv F u ∧ u.2.2 = J)) (zB D vwCl 25 q (zMd q cA) sz) (zA 25 q sz)) ([.ref (q 0)] : List Value).toArray s 0 0 (zA 25 q sz)) (F0 m 51 ls [.int (x_88)]) := by
            intro x_88 hx_88 H locs hP hD hS ls hl
            refine lv_istore_n (lv' := [(1, .int (x_88)), (0, .ref (q 0)), (2, .int (x_72))]) hx hb dX11_poorest_51 rfl hl (by decide) rfl (fun ls hl => ?_)
            obtain ⟨v_90, ev_90⟩ : ∃ y : Int32, y = x_72 + nI 1 := ⟨_, rfl⟩
            have hv_90 : zR 1 5 v_90 := ev_90 ▸ zR_add f_78 zk_1 (by decide)
            have mv_90 : v_90.toInt = (x_72).toInt + 1 := by rw [ev_90, zR_addE f_78 zk_1 (by decide)]; rfl
            refine lv_iinc (v := v_90) (lv' := [(2, .int (v_90)), (1, .int (x_88)), (0, .ref (q 0))]) hx hb dX11_poorest_52 hl (k := 2) rfl (ev_90 ▸ rfl) (by decide) rfl (fun ls hl => ?_)
            refine lv_goto (tgt := 18) hx hb dX11_poorest_55 (by decide) ?_
            exact ih_75 (x_88) (zR_w hx_88 (by decide)) (v_90) (zR_w hv_90 (by decide)) (z2_up mv_90 (by decide) hN_74) _ _ hP hD hS _ (lv_sub hl [2, 1, 0] rfl)
          refine lv_icmp_eq (tgt := 46) hx hb dX11_poorest_30 (by decide) (fun c_80 => ?_) (fun c_80 => ?_)
          · have t_c_80 := z_eqT c_80
            have f_91 : zR (-1) (-1) (x_71) := zR_eqx t_c_80 zk_m1
            refine lv_iload_n hx hb dX11_poorest_46 rfl (lv_at hl 2 rfl) ?_
            refine lv_goto (tgt := 51) hx hb dX11_poorest_47 (by decide) ?_
            exact t_89 (x_72) f_78 _ _ hP hD hS _ (lv_sub hl [0, 1, 2] rfl)
          · have t_c_80 := z_eqF c_80
            have f_92 : zR 0 4 (x_71) := zR_nex t_c_80 hx_71 zk_m1 (by decide)
            refine lv_aload_n hx hb dX11_poorest_33 rfl (lv_at hl 0 rfl) ?_
            refine lv_iload_n hx hb dX11_poorest_34 rfl (lv_at hl 2 rfl) ?_
            refine z_callVi (k := 0) (As := [.int (x_72)]) (rest := []) hx hb hml hown ht (mk_X11_netOf l D q cA F _ _ _ hv_2 (x_72) f_78) hw_7_31 hmX11_netOf ⟨rfl, rfl⟩ (na := 1) rfl (by decide +kernel) (by decide) (by decide) rfl rfl hK hP hD hS hA hl.1 rfl (Nat.le_of_ble_eq_true rfl) ⟨Nat.zero_le _, Nat.zero_le _⟩ dX11_poorest_35 (fun r_93 I_93 R_93 J_93 H locs hp_93 hP hD hS _ _ => ?_)
            cases hp_93
            refine lv_aload_n hx hb dX11_poorest_38 rfl (lv_at hl 0 rfl) ?_
            refine lv_iload_n hx hb dX11_poorest_39 rfl (lv_at hl 1 rfl) ?_
            refine z_callVi (k := 0) (As := [.int (x_71)]) (rest := [.int (r_93)]) hx hb hml hown ht (mk_X11_netOf l D q cA F _ _ _ hv_2 (x_71) f_92) hw_7_31 hmX11_netOf ⟨rfl, rfl⟩ (na := 1) rfl (by decide +kernel) (by decide) (by decide) rfl rfl hK hP hD hS hA hl.1 rfl (Nat.le_of_ble_eq_true rfl) ⟨Nat.zero_le _, Nat.zero_le _⟩ dX11_poorest_40 (fun r_94 I_94 R_94 J_94 H locs hp_94 hP hD hS _ _ => ?_)
            cases hp_94
            refine lv_icmp_ge (tgt := 50) hx hb dX11_poorest_43 (by decide) (fun c_95 => ?_) (fun c_95 => ?_)
            · have t_c_95 := z_leT c_95
              refine lv_iload_n hx hb dX11_poorest_50 rfl (lv_at hl 1 rfl) ?_
              exact t_89 (x_71) f_92 _ _ hP hD hS _ (lv_sub hl [0, 1, 2] rfl)
            · have t_c_95 := z_leF c_95
              have f_96 : zR (-2147483648) 2147483646 (r_93) := zR_ltx t_c_95 (zR_any (r_93)) (zR_any (r_94)) (by decide)
              have f_97 : zR (-2147483647) 2147483647 (r_94) := zR_lty t_c_95 (zR_any (r_93)) (zR_any (r_94)) (by decide)
              refine lv_iload_n hx hb dX11_poorest_46 rfl (lv_at hl 2 rfl) ?_
              refine lv_goto (tgt := 51) hx hb dX11_poorest_47 (by decide) ?_
              exact t_89 (x_72) f_78 _ _ hP hD hS _ (lv_sub hl [0, 1, 2] rfl)
    exact loop_73 _ ((-1)) (zR_w zk_m1 (by decide)) (nI 0) (zR_w zk_0 (by decide)) (Nat.lt_succ_self _) _ _ hP hD hS _ (lv_sub hl [2, 1, 0] rfl)
  · cases hu_1
    refine lv_if_ne (tgt := 10) hx hb dX11_poorest_4 (by decide) (fun c_0 => absurd (zD_eq zk_0 zk_z) c_0) (fun _ => ?_)
    refine lv_bipush (v := (-2)) hx hb dX11_poorest_7 (by decide +kernel) ?_
    exact z_iret (v := (-2)) hx hb hr hlocks hP hD hS dX11_poorest_9 ⟨(zR_w zk_m2 (by decide)), ⟨hI, rfl⟩⟩
set_option maxHeartbeats 4000000 in
set_option maxRecDepth 100000 in
theorem mk_X11_dueOn (l : Launch) (D : va_G) (q : Nat → Nat) (cA : Nat → ClassId) (F : Nat → Nat → Int32) (I R : Nat → Nat → Int32) (J : Nat → Nat → Int64) (hI : mInv F (I, R, J)) (pa0 : Int32) (hpa0 : zR 0 60 pa0) : zMi l D vwCl (zMtys cA) 25 q (zMd q cA) yX11_dueOn cX11_dueOn 4 (some .int) ({ frames := 1, cells := 0, slots := 0, locals := 21 } : Room) [.ref (q 0), .int (pa0)] (I, R, J) (fun r u => zR 0 16777215 r ∧ u = (I, R, J)) := by
  intro sz
  refine z_body (by decide +kernel) (Nat.le_of_ble_eq_true rfl) (fun p e s m below meth c ls hx hb hml hr ht hown hlocks hsz hK hP hD hS hl => ?_)
  have hA : ∀ a, s.heap.size ≤ a → zA 25 q sz a := fun a h => Or.inr (hsz ▸ h)
  have hl : lv_has ls 4 [(0, .ref (q 0)), (1, .int (pa0))] := hl
  refine lv_iconst (v := nI 0) hx hb dX11_dueOn_0 (by decide +kernel) ?_
  refine lv_istore_n (lv' := [(2, .int (nI 0)), (0, .ref (q 0)), (1, .int (pa0))]) hx hb dX11_dueOn_1 rfl hl (by decide) rfl (fun ls hl => ?_)
  refine lv_iconst (v := nI 0) hx hb dX11_dueOn_2 (by decide +kernel) ?_
  refine lv_istore_n (lv' := [(3, .int (nI 0)), (2, .int (nI 0)), (0, .ref (q 0)), (1, .int (pa0))]) hx hb dX11_dueOn_3 rfl hl (by decide) rfl (fun ls hl => ?_)
  have loop_64 : ∀ N : Nat, ∀ x_62 : Int32, zR 0 16777215 x_62 → ∀ x_63 : Int32, zR 0 24 x_63 → (2147483648 - (x_63).toInt).toNat < N → ∀ (H : Heap) (locs : List Loc), va_P D vwCl (zw 25 q (zMd q cA) I R J) H → va_D (zA 25 q sz) (zw 25 q (zMd q cA) I R J) → va_S (zA 25 q sz) s.heap H locs → ∀ ls : Array Slot, lv_has ls 4 [(0, .ref (q 0)), (1, .int (pa0)), (2, .int (x_62)), (3, .int (x_63))] → W p l e ({ frames := 1, cells := 0, slots := 0, locals := 21 } : Room) s m ([.ref (q 0), .int (pa0)] : List Value).toArray below meth c H locs 0 0 (MQ below (va_Qi (fun r u => zR 0 16777215 r ∧ u = (I, R, J)) (zB D vwCl 25 q (zMd q cA) sz) (zA 25 q sz)) ([.ref (q 0), .int (pa0)] : List Value).toArray s 0 0 (zA 25 q sz)) (F0 m 4 ls []) := by
    intro N
    induction N with
    | zero => intro x_62 hx_62 x_63 hx_63 hN; exact absurd hN (Nat.not_lt_zero _)
    | succ N ih_66 =>
      intro x_62 hx_62 x_63 hx_63 hN_65 H locs hP hD hS ls hl
      refine lv_iload_n hx hb dX11_dueOn_4 rfl (lv_at hl 3 rfl) ?_
      refine lv_aload_n hx hb dX11_dueOn_5 rfl (lv_at hl 0 rfl) ?_
      refine z_get hx hb ht hown hK hP ziX11 rfl 0 (by decide) 26 (by decide) hw_5_213 rfl (v := .int (I 0 26)) rfl dX11_dueOn_6 ?_
      have f_67 : zR 0 24 (I 0 26) := mI hI 0 26
      refine lv_icmp_ge (tgt := 46) hx hb dX11_dueOn_9 (by decide) (fun c_68 => ?_) (fun c_68 => ?_)
      · have t_c_68 := z_leT c_68
        refine lv_iload_n hx hb dX11_dueOn_46 rfl (lv_at hl 2 rfl) ?_
        exact z_iret (v := x_62) hx hb hr hlocks hP hD hS dX11_dueOn_47 ⟨hx_62, rfl⟩
      · have t_c_68 := z_leF c_68
        have f_69 : zR 0 23 (x_63) := zR_ltx t_c_68 hx_63 f_67 (by decide)
        have f_70 : zR 1 24 (I 0 26) := zR_lty t_c_68 hx_63 f_67 (by decide)
        refine lv_iload_n hx hb dX11_dueOn_12 rfl (lv_at hl 2 rfl) ?_
        refine lv_aload_n hx hb dX11_dueOn_13 rfl (lv_at hl 0 rfl) ?_
        refine lv_iload_n hx hb dX11_dueOn_14 rfl (lv_at hl 3 rfl) ?_
        have t_76 : ∀ x_75 : Int32, zR 0 8388608 x_75 → ∀ (H : Heap) (locs : List Loc), va_P D vwCl (zw 25 q (zMd q cA) I R J) H → va_D (zA 25 q sz) (zw 25 q (zMd q cA) I R J) → va_S (zA 25 q sz) s.heap H locs → ∀ ls : Array Slot, lv_has ls 4 [(0, .ref (q 0)), (1, .int (pa0)), (2, .int (x_62)), (3, .int (x_63))] → W p l e ({ frames := 1, cells := 0, slots := 0, locals := 21 } : Room) s m ([.ref (q 0), .int (pa0)] : List Value).toArray below meth c H locs 0 0 (MQ below (va_Qi (fun r u => zR 0 16777215 r ∧ u = (I, R, J)) (zB D vwCl 25 q (zMd q cA) sz) (zA 25 q sz)) ([.ref (q 0), .int (pa0)] : List Value).toArray s 0 0 (zA 25 q sz)) (F0 m 38 ls [.int (x_75), .int (x_62)]) := by
          intro x_75 hx_75 H locs hP hD hS ls hl
          refine lv_ior hx hb dX11_dueOn_38 ?_
          refine z_rng (a := 0) (b := 16777215) (zR_or 24 hx_62 hx_75 (by decide)) (fun v_77 hv_77 => ?_)
          refine lv_istore_n (lv' := [(2, .int (v_77)), (0, .ref (q 0)), (1, .int (pa0)), (3, .int (x_63))]) hx hb dX11_dueOn_39 rfl hl (by decide) rfl (fun ls hl => ?_)
          obtain ⟨v_78, ev_78⟩ : ∃ y : Int32, y = x_63 + nI 1 := ⟨_, rfl⟩
          have hv_78 : zR 1 24 v_78 := ev_78 ▸ zR_add f_69 zk_1 (by decide)
          have mv_78 : v_78.toInt = (x_63).toInt + 1 := by rw [ev_78, zR_addE f_69 zk_1 (by decide)]; rfl
          refine lv_iinc (v := v_78) (lv' := [(3, .int (v_78)), (2, .int (v_77)), (0, .ref (q 0)), (1, .int (pa0))]) hx hb dX11_dueOn_40 hl (k := 3) rfl (ev_78 ▸ rfl) (by decide) rfl (fun ls hl => ?_)
          refine lv_goto (tgt := 4) hx hb dX11_dueOn_43 (by decide) ?_
          exact ih_66 (v_77) hv_77 (v_78) (zR_w hv_78 (by decide)) (z2_up mv_78 (by decide) hN_65) _ _ hP hD hS _ (lv_sub hl [2, 3, 1, 0] rfl)
        refine z_callVi (k := 0) (As := [.int (x_63)]) (rest := [.int (x_62)]) hx hb hml hown ht (mk_X11_isOpen_1 l D q cA F _ _ _ hI (x_63) f_69) hw_6_230 hmX11_isOpen ⟨rfl, rfl⟩ (na := 1) rfl (by decide +kernel) (by decide) (by decide) rfl rfl hK hP hD hS hA hl.1 rfl (Nat.le_of_ble_eq_true rfl) ⟨Nat.zero_le _, Nat.zero_le _⟩ dX11_dueOn_15 (fun r_71 I_71 R_71 J_71 H locs hp_71 hP hD hS _ _ => ?_)
        rcases hp_71 with ⟨rfl, hu_71⟩ | ⟨rfl, hu_71⟩
        · cases hu_71
          refine lv_if_eq (tgt := 37) hx hb dX11_dueOn_18 (by decide) (fun c_0 => absurd c_0 (zD_ne zk_1 zk_z (by decide))) (fun _ => ?_)
          refine lv_aload_n hx hb dX11_dueOn_21 rfl (lv_at hl 0 rfl) ?_
          refine z_get hx hb ht hown hK hP ziX11 rfl 0 (by decide) 21 (by decide) hw_5_208 rfl (v := .ref (q 13)) rfl dX11_dueOn_22 ?_
          refine lv_iload_n hx hb dX11_dueOn_25 rfl (lv_at hl 3 rfl) ?_
          refine z_iald hx hb hK hP 13 (by decide) 12 rfl rfl (zR_vin f_69 (by decide)) dX11_dueOn_26 ?_
          refine z_eqi (y := R 13 (x_63).toNatClampNeg) rfl ?_
          refine lv_iload_n hx hb dX11_dueOn_27 rfl (lv_at hl 1 rfl) ?_
          refine lv_icmp_ne (tgt := 37) hx hb dX11_dueOn_28 (by decide) (fun c_79 => ?_) (fun c_79 => ?_)
          · have t_c_79 := z_eqF c_79
            refine lv_iconst (v := nI 0) hx hb dX11_dueOn_37 (by decide +kernel) ?_
            exact t_76 (nI 0) (zR_w zk_0 (by decide)) _ _ hP hD hS _ (lv_sub hl [0, 1, 2, 3] rfl)
          · have t_c_79 := z_eqT c_79
            have f_80 : zR 0 60 (R 13 (x_63).toNatClampNeg) := zR_eqx t_c_79 hpa0
            refine lv_iconst (v := nI 1) hx hb dX11_dueOn_31 (by decide +kernel) ?_
            refine lv_iload_n hx hb dX11_dueOn_32 rfl (lv_at hl 3 rfl) ?_
            refine lv_ishl hx hb dX11_dueOn_33 ?_
            refine z_rng (a := 1) (b := 8388608) (zR_shl1 23 f_69 (by decide)) (fun v_81 hv_81 => ?_)
            refine lv_goto (tgt := 38) hx hb dX11_dueOn_34 (by decide) ?_
            exact t_76 (v_81) (zR_w hv_81 (by decide)) _ _ hP hD hS _ (lv_sub hl [0, 1, 2, 3] rfl)
        · cases hu_71
          refine lv_if_eq (tgt := 37) hx hb dX11_dueOn_18 (by decide) (fun _ => ?_) (fun c_0 => absurd (zD_eq zk_0 zk_z) c_0)
          refine lv_iconst (v := nI 0) hx hb dX11_dueOn_37 (by decide +kernel) ?_
          exact t_76 (nI 0) (zR_w zk_0 (by decide)) _ _ hP hD hS _ (lv_sub hl [0, 1, 2, 3] rfl)
  exact loop_64 _ (nI 0) (zR_w zk_0 (by decide)) (nI 0) (zR_w zk_0 (by decide)) (Nat.lt_succ_self _) _ _ hP hD hS _ (lv_sub hl [2, 3, 1, 0] rfl)
set_option maxHeartbeats 4000000 in
set_option maxRecDepth 100000 in
theorem mk_X11_due (l : Launch) (D : va_G) (q : Nat → Nat) (cA : Nat → ClassId) (F : Nat → Nat → Int32) (I R : Nat → Nat → Int32) (J : Nat → Nat → Int64) (hI : mInv F (I, R, J)) (pa0 : Int32) : zMi l D vwCl (zMtys cA) 25 q (zMd q cA) yX11_due cX11_due 2 (some .int) ({ frames := 6, cells := 0, slots := 0, locals := 155 } : Room) [.ref (q 0), .int (pa0)] (I, R, J) (fun r u => zR (-2) 16777215 r ∧ (mInv F u ∧ u.2.2 = J)) := by
  intro sz
  refine z_body (by decide +kernel) (Nat.le_of_ble_eq_true rfl) (fun p e s m below meth c ls hx hb hml hr ht hown hlocks hsz hK hP hD hS hl => ?_)
  have hA : ∀ a, s.heap.size ≤ a → zA 25 q sz a := fun a h => Or.inr (hsz ▸ h)
  have hl : lv_has ls 2 [(0, .ref (q 0)), (1, .int (pa0))] := hl
  refine lv_aload_n hx hb dX11_due_0 rfl (lv_at hl 0 rfl) ?_
  refine z_callVi (k := 0) (As := []) (rest := []) hx hb hml hown ht (mk_X11_isCity l D q cA F _ _ _ hI ) hw_7_75 hmX11_isCity ⟨rfl, rfl⟩ (na := 0) rfl (by decide +kernel) (by decide) (by decide) rfl rfl hK hP hD hS hA hl.1 rfl (Nat.le_of_ble_eq_true rfl) ⟨Nat.zero_le _, Nat.zero_le _⟩ dX11_due_1 (fun r_1 I_1 R_1 J_1 H locs hp_1 hP hD hS _ _ => ?_)
  rcases hp_1 with ⟨rfl, hu_1⟩ | ⟨rfl, hu_1⟩
  · cases hu_1
    refine lv_if_eq (tgt := 19) hx hb dX11_due_4 (by decide) (fun c_0 => absurd c_0 (zD_ne zk_1 zk_z (by decide))) (fun _ => ?_)
    refine lv_iload_n hx hb dX11_due_7 rfl (lv_at hl 1 rfl) ?_
    refine lv_i2l (v := (pa0).toInt64) hx hb dX11_due_8 rfl ?_
    refine lv_lconst (v := (0 : Int64)) hx hb dX11_due_9 (by decide +kernel) ?_
    refine lv_ldc2 (v := (60 : Int64)) hx hb hown (ht _ hw_7_39) dX11_due_10 ?_
    refine z_callSi (As := [.long ((pa0).toInt64), .long ((0 : Int64)), .long ((60 : Int64))]) (rest := []) hx hb hml hown ht (mk_X11_in l D q cA F _ _ _ hI ((pa0).toInt64) ((0 : Int64)) ((60 : Int64))) hw_6_86 hmX11_in ⟨rfl, rfl⟩ (na := 3) rfl (by decide +kernel) (by decide) hK hP hD hS hA hl.1 rfl (Nat.le_of_ble_eq_true rfl) ⟨Nat.zero_le _, Nat.zero_le _⟩ dX11_due_13 (fun r_2 I_2 R_2 J_2 H locs hp_2 hP hD hS _ _ => ?_)
    rcases hp_2 with ⟨rfl, hu_2, h1_2, h2_2⟩ | ⟨rfl, hu_2, h1_2 | h2_2⟩
    · cases hu_2
      have f_3 : zL 0 2147483647 ((pa0).toInt64) := zL_ley h1_2 zkl_0 (zR_i2l (zR_any (pa0))) (by decide)
      have f_4 : zR 0 2147483647 (pa0) := zL_back f_3
      have f_5 : zL 0 60 ((pa0).toInt64) := zL_lex h2_2 f_3 zkl_60 (by decide)
      have f_6 : zR 0 60 (pa0) := zL_back f_5
      refine lv_if_ne (tgt := 22) hx hb dX11_due_16 (by decide) (fun _ => ?_) (fun c_0 => absurd c_0 (zD_ne zk_1 zk_z (by decide)))
      refine lv_aload_n hx hb dX11_due_22 rfl (lv_at hl 0 rfl) ?_
      refine z_callVv (k := 0) (As := []) (rest := []) hx hb hml hown ht (mk_X11_asItIs l D q cA F _ _ _ hI ) hw_6_181 hmX11_asItIs ⟨rfl, rfl⟩ (na := 0) rfl (by decide +kernel) (by decide) (by decide) rfl rfl hK hP hD hS hA hl.1 rfl (Nat.le_of_ble_eq_true rfl) ⟨Nat.zero_le _, Nat.zero_le _⟩ dX11_due_23 (fun I_7 R_7 J_7 H locs hp_7 hP hD hS _ _ => ?_)
      obtain ⟨hv_7, hj_7, hs_7⟩ := hp_7
      try dsimp only at hj_7
      subst J_7
      refine lv_aload_n hx hb dX11_due_26 rfl (lv_at hl 0 rfl) ?_
      refine lv_iload_n hx hb dX11_due_27 rfl (lv_at hl 1 rfl) ?_
      refine z_callVi (k := 0) (As := [.int (pa0)]) (rest := []) hx hb hml hown ht (mk_X11_dueOn l D q cA F _ _ _ hv_7 (pa0) f_6) hw_7_176 hmX11_dueOn ⟨rfl, rfl⟩ (na := 1) rfl (by decide +kernel) (by decide) (by decide) rfl rfl hK hP hD hS hA hl.1 rfl (Nat.le_of_ble_eq_true rfl) ⟨Nat.zero_le _, Nat.zero_le _⟩ dX11_due_28 (fun r_8 I_8 R_8 J_8 H locs hp_8 hP hD hS _ _ => ?_)
      obtain ⟨hr_8, hu_8⟩ := hp_8
      cases hu_8
      exact z_iret (v := r_8) hx hb hr hlocks hP hD hS dX11_due_31 ⟨(zR_w hr_8 (by decide)), ⟨hv_7, rfl⟩⟩
    · cases hu_2
      have f_9 : zL (-2147483648) (-1) ((pa0).toInt64) := zL_ltx h1_2 (zR_i2l (zR_any (pa0))) zkl_0 (by decide)
      have f_10 : zR (-2147483648) (-1) (pa0) := zL_back f_9
      refine lv_if_ne (tgt := 22) hx hb dX11_due_16 (by decide) (fun c_0 => absurd (zD_eq zk_0 zk_z) c_0) (fun _ => ?_)
      refine lv_bipush (v := (-2)) hx hb dX11_due_19 (by decide +kernel) ?_
      exact z_iret (v := (-2)) hx hb hr hlocks hP hD hS dX11_due_21 ⟨(zR_w zk_m2 (by decide)), ⟨hI, rfl⟩⟩
    · cases hu_2
      have f_11 : zL 61 2147483647 ((pa0).toInt64) := zL_lty h2_2 zkl_60 (zR_i2l (zR_any (pa0))) (by decide)
      have f_12 : zR 61 2147483647 (pa0) := zL_back f_11
      refine lv_if_ne (tgt := 22) hx hb dX11_due_16 (by decide) (fun c_0 => absurd (zD_eq zk_0 zk_z) c_0) (fun _ => ?_)
      refine lv_bipush (v := (-2)) hx hb dX11_due_19 (by decide +kernel) ?_
      exact z_iret (v := (-2)) hx hb hr hlocks hP hD hS dX11_due_21 ⟨(zR_w zk_m2 (by decide)), ⟨hI, rfl⟩⟩
  · cases hu_1
    refine lv_if_eq (tgt := 19) hx hb dX11_due_4 (by decide) (fun _ => ?_) (fun c_0 => absurd (zD_eq zk_0 zk_z) c_0)
    refine lv_bipush (v := (-2)) hx hb dX11_due_19 (by decide +kernel) ?_
    exact z_iret (v := (-2)) hx hb hr hlocks hP hD hS dX11_due_21 ⟨(zR_w zk_m2 (by decide)), ⟨hI, rfl⟩⟩
set_option maxHeartbeats 4000000 in
set_option maxRecDepth 100000 in
theorem mk_X11_monday (l : Launch) (D : va_G) (q : Nat → Nat) (cA : Nat → ClassId) (F : Nat → Nat → Int32) (I R : Nat → Nat → Int32) (J : Nat → Nat → Int64) (hI : mInv F (I, R, J))  : zMi l D vwCl (zMtys cA) 25 q (zMd q cA) yX11_monday cX11_monday 4 (some .int) ({ frames := 6, cells := 0, slots := 0, locals := 155 } : Room) [.ref (q 0)] (I, R, J) (fun r u => zR (-2) 60 r ∧ (mInv F u ∧ u.2.2 = J)) := by
  intro sz
  refine z_body (by decide +kernel) (Nat.le_of_ble_eq_true rfl) (fun p e s m below meth c ls hx hb hml hr ht hown hlocks hsz hK hP hD hS hl => ?_)
  have hA : ∀ a, s.heap.size ≤ a → zA 25 q sz a := fun a h => Or.inr (hsz ▸ h)
  have hl : lv_has ls 4 [(0, .ref (q 0))] := hl
  refine lv_aload_n hx hb dX11_monday_0 rfl (lv_at hl 0 rfl) ?_
  refine z_callVi (k := 0) (As := []) (rest := []) hx hb hml hown ht (mk_X11_isCity l D q cA F _ _ _ hI ) hw_7_75 hmX11_isCity ⟨rfl, rfl⟩ (na := 0) rfl (by decide +kernel) (by decide) (by decide) rfl rfl hK hP hD hS hA hl.1 rfl (Nat.le_of_ble_eq_true rfl) ⟨Nat.zero_le _, Nat.zero_le _⟩ dX11_monday_1 (fun r_1 I_1 R_1 J_1 H locs hp_1 hP hD hS _ _ => ?_)
  rcases hp_1 with ⟨rfl, hu_1⟩ | ⟨rfl, hu_1⟩
  · cases hu_1
    refine lv_if_ne (tgt := 10) hx hb dX11_monday_4 (by decide) (fun _ => ?_) (fun c_0 => absurd c_0 (zD_ne zk_1 zk_z (by decide)))
    refine lv_aload_n hx hb dX11_monday_10 rfl (lv_at hl 0 rfl) ?_
    refine z_callVv (k := 0) (As := []) (rest := []) hx hb hml hown ht (mk_X11_asItIs l D q cA F _ _ _ hI ) hw_6_181 hmX11_asItIs ⟨rfl, rfl⟩ (na := 0) rfl (by decide +kernel) (by decide) (by decide) rfl rfl hK hP hD hS hA hl.1 rfl (Nat.le_of_ble_eq_true rfl) ⟨Nat.zero_le _, Nat.zero_le _⟩ dX11_monday_11 (fun I_2 R_2 J_2 H locs hp_2 hP hD hS _ _ => ?_)
    obtain ⟨hv_2, hj_2, hs_2⟩ := hp_2
    try dsimp only at hj_2
    subst J_2
    refine lv_iconst (v := (-1)) hx hb dX11_monday_14 (by decide +kernel) ?_
    refine lv_istore_n (lv' := [(1, .int ((-1))), (0, .ref (q 0))]) hx hb dX11_monday_15 rfl hl (by decide) rfl (fun ls hl => ?_)
    refine lv_iconst (v := nI 0) hx hb dX11_monday_16 (by decide +kernel) ?_
    refine lv_istore_n (lv' := [(2, .int (nI 0)), (1, .int ((-1))), (0, .ref (q 0))]) hx hb dX11_monday_17 rfl hl (by decide) rfl (fun ls hl => ?_)
    refine lv_iconst (v := nI 0) hx hb dX11_monday_18 (by decide +kernel) ?_
    refine lv_istore_n (lv' := [(3, .int (nI 0)), (2, .int (nI 0)), (1, .int ((-1))), (0, .ref (q 0))]) hx hb dX11_monday_19 rfl hl (by decide) rfl (fun ls hl => ?_)
    have loop_76 : ∀ N : Nat, ∀ x_73 : Int32, zR (-1) 60 x_73 → ∀ x_74 : Int32, ∀ x_75 : Int32, zR 0 61 x_75 → (2147483648 - (x_75).toInt).toNat < N → ∀ (H : Heap) (locs : List Loc), va_P D vwCl (zw 25 q (zMd q cA) I_2 R_2 J) H → va_D (zA 25 q sz) (zw 25 q (zMd q cA) I_2 R_2 J) → va_S (zA 25 q sz) s.heap H locs → ∀ ls : Array Slot, lv_has ls 4 [(0, .ref (q 0)), (1, .int (x_73)), (2, .int (x_74)), (3, .int (x_75))] → W p l e ({ frames := 6, cells := 0, slots := 0, locals := 155 } : Room) s m ([.ref (q 0)] : List Value).toArray below meth c H locs 0 0 (MQ below (va_Qi (fun r u => zR (-2) 60 r ∧ (mInv F u ∧ u.2.2 = J)) (zB D vwCl 25 q (zMd q cA) sz) (zA 25 q sz)) ([.ref (q 0)] : List Value).toArray s 0 0 (zA 25 q sz)) (F0 m 20 ls []) := by
      intro N
      induction N with
      | zero => intro x_73 hx_73 x_74 x_75 hx_75 hN; exact absurd hN (Nat.not_lt_zero _)
      | succ N ih_78 =>
        intro x_73 hx_73 x_74 x_75 hx_75 hN_77 H locs hP hD hS ls hl
        refine lv_iload_n hx hb dX11_monday_20 rfl (lv_at hl 3 rfl) ?_
        refine lv_bipush (v := nI 60) hx hb dX11_monday_21 (by decide +kernel) ?_
        refine lv_icmp_gt (tgt := 58) hx hb dX11_monday_23 (by decide) (fun c_79 => ?_) (fun c_79 => ?_)
        · have t_c_79 := z_ltT c_79
          have f_80 : zR 61 61 (x_75) := zR_lty t_c_79 zk_60 hx_75 (by decide)
          refine lv_iload_n hx hb dX11_monday_58 rfl (lv_at hl 1 rfl) ?_
          exact z_iret (v := x_73) hx hb hr hlocks hP hD hS dX11_monday_59 ⟨(zR_w hx_73 (by decide)), ⟨hv_2, rfl⟩⟩
        · have t_c_79 := z_ltF c_79
          have f_81 : zR 0 60 (x_75) := zR_lex t_c_79 hx_75 zk_60 (by decide)
          refine lv_aload_n hx hb dX11_monday_26 rfl (lv_at hl 0 rfl) ?_
          refine lv_iload_n hx hb dX11_monday_27 rfl (lv_at hl 3 rfl) ?_
          refine z_callVi (k := 0) (As := [.int (x_75)]) (rest := []) hx hb hml hown ht (mk_X11_dueOn l D q cA F _ _ _ hv_2 (x_75) f_81) hw_7_176 hmX11_dueOn ⟨rfl, rfl⟩ (na := 1) rfl (by decide +kernel) (by decide) (by decide) rfl rfl hK hP hD hS hA hl.1 rfl (Nat.le_of_ble_eq_true rfl) ⟨Nat.zero_le _, Nat.zero_le _⟩ dX11_monday_28 (fun r_82 I_82 R_82 J_82 H locs hp_82 hP hD hS _ _ => ?_)
          obtain ⟨hr_82, hu_82⟩ := hp_82
          cases hu_82
          refine z_callSi (As := [.int (r_82)]) (rest := []) hx hb hml hown ht (mk_X11_bits l D q cA F _ _ _ hv_2 (r_82)) hw_7_64 hmX11_bits ⟨rfl, rfl⟩ (na := 1) rfl (by decide +kernel) (by decide) hK hP hD hS hA hl.1 rfl (Nat.le_of_ble_eq_true rfl) ⟨Nat.zero_le _, Nat.zero_le _⟩ dX11_monday_31 (fun r_83 I_83 R_83 J_83 H locs hp_83 hP hD hS _ _ => ?_)
          cases hp_83
          refine lv_iload_n hx hb dX11_monday_34 rfl (lv_at hl 2 rfl) ?_
          have t_91 : ∀ x_89 : Int32, zR (-1) 60 x_89 → ∀ x_90 : Int32, ∀ (H : Heap) (locs : List Loc), va_P D vwCl (zw 25 q (zMd q cA) I_2 R_2 J) H → va_D (zA 25 q sz) (zw 25 q (zMd q cA) I_2 R_2 J) → va_S (zA 25 q sz) s.heap H locs → ∀ ls : Array Slot, lv_has ls 4 [(0, .ref (q 0)), (1, .int (x_89)), (2, .int (x_90)), (3, .int (x_75))] → W p l e ({ frames := 6, cells := 0, slots := 0, locals := 155 } : Room) s m ([.ref (q 0)] : List Value).toArray below meth c H locs 0 0 (MQ below (va_Qi (fun r u => zR (-2) 60 r ∧ (mInv F u ∧ u.2.2 = J)) (zB D vwCl 25 q (zMd q cA) sz) (zA 25 q sz)) ([.ref (q 0)] : List Value).toArray s 0 0 (zA 25 q sz)) (F0 m 52 ls []) := by
            intro x_89 hx_89 x_90 H locs hP hD hS ls hl
            obtain ⟨v_92, ev_92⟩ : ∃ y : Int32, y = x_75 + nI 1 := ⟨_, rfl⟩
            have hv_92 : zR 1 61 v_92 := ev_92 ▸ zR_add f_81 zk_1 (by decide)
            have mv_92 : v_92.toInt = (x_75).toInt + 1 := by rw [ev_92, zR_addE f_81 zk_1 (by decide)]; rfl
            refine lv_iinc (v := v_92) (lv' := [(3, .int (v_92)), (0, .ref (q 0)), (1, .int (x_89)), (2, .int (x_90))]) hx hb dX11_monday_52 hl (k := 3) rfl (ev_92 ▸ rfl) (by decide) rfl (fun ls hl => ?_)
            refine lv_goto (tgt := 20) hx hb dX11_monday_55 (by decide) ?_
            exact ih_78 (x_89) hx_89 (x_90) (v_92) (zR_w hv_92 (by decide)) (z2_up mv_92 (by decide) hN_77) _ _ hP hD hS _ (lv_sub hl [1, 2, 3, 0] rfl)
          refine lv_icmp_gt (tgt := 41) hx hb dX11_monday_35 (by decide) (fun c_84 => ?_) (fun c_84 => ?_)
          · have t_c_84 := z_ltT c_84
            have f_93 : zR (-2147483648) 2147483646 (x_74) := zR_ltx t_c_84 (zR_any (x_74)) (zR_any (r_83)) (by decide)
            have f_94 : zR (-2147483647) 2147483647 (r_83) := zR_lty t_c_84 (zR_any (x_74)) (zR_any (r_83)) (by decide)
            refine lv_aload_n hx hb dX11_monday_41 rfl (lv_at hl 0 rfl) ?_
            refine lv_iload_n hx hb dX11_monday_42 rfl (lv_at hl 3 rfl) ?_
            refine z_callVi (k := 0) (As := [.int (x_75)]) (rest := []) hx hb hml hown ht (mk_X11_dueOn l D q cA F _ _ _ hv_2 (x_75) f_81) hw_7_176 hmX11_dueOn ⟨rfl, rfl⟩ (na := 1) rfl (by decide +kernel) (by decide) (by decide) rfl rfl hK hP hD hS hA hl.1 rfl (Nat.le_of_ble_eq_true rfl) ⟨Nat.zero_le _, Nat.zero_le _⟩ dX11_monday_43 (fun r_95 I_95 R_95 J_95 H locs hp_95 hP hD hS _ _ => ?_)
            obtain ⟨hr_95, hu_95⟩ := hp_95
            cases hu_95
            refine z_callSi (As := [.int (r_95)]) (rest := []) hx hb hml hown ht (mk_X11_bits l D q cA F _ _ _ hv_2 (r_95)) hw_7_64 hmX11_bits ⟨rfl, rfl⟩ (na := 1) rfl (by decide +kernel) (by decide) hK hP hD hS hA hl.1 rfl (Nat.le_of_ble_eq_true rfl) ⟨Nat.zero_le _, Nat.zero_le _⟩ dX11_monday_46 (fun r_96 I_96 R_96 J_96 H locs hp_96 hP hD hS _ _ => ?_)
            cases hp_96
            refine lv_istore_n (lv' := [(2, .int (r_96)), (0, .ref (q 0)), (1, .int (x_73)), (3, .int (x_75))]) hx hb dX11_monday_49 rfl hl (by decide) rfl (fun ls hl => ?_)
            refine lv_iload_n hx hb dX11_monday_50 rfl (lv_at hl 3 rfl) ?_
            refine lv_istore_n (lv' := [(1, .int (x_75)), (2, .int (r_96)), (0, .ref (q 0)), (3, .int (x_75))]) hx hb dX11_monday_51 rfl hl (by decide) rfl (fun ls hl => ?_)
            exact t_91 (x_75) (zR_w f_81 (by decide)) (r_96) _ _ hP hD hS _ (lv_sub hl [2, 0, 1, 3] rfl)
          · have t_c_84 := z_ltF c_84
            refine lv_goto (tgt := 52) hx hb dX11_monday_38 (by decide) ?_
            exact t_91 (x_73) hx_73 (x_74) _ _ hP hD hS _ (lv_sub hl [0, 1, 2, 3] rfl)
    exact loop_76 _ ((-1)) (zR_w zk_m1 (by decide)) (nI 0) (nI 0) (zR_w zk_0 (by decide)) (Nat.lt_succ_self _) _ _ hP hD hS _ (lv_sub hl [3, 2, 1, 0] rfl)
  · cases hu_1
    refine lv_if_ne (tgt := 10) hx hb dX11_monday_4 (by decide) (fun c_0 => absurd (zD_eq zk_0 zk_z) c_0) (fun _ => ?_)
    refine lv_bipush (v := (-2)) hx hb dX11_monday_7 (by decide +kernel) ?_
    exact z_iret (v := (-2)) hx hb hr hlocks hP hD hS dX11_monday_9 ⟨(zR_w zk_m2 (by decide)), ⟨hI, rfl⟩⟩
set_option maxHeartbeats 4000000 in
set_option maxRecDepth 100000 in
theorem mk_X11_lacks (l : Launch) (D : va_G) (q : Nat → Nat) (cA : Nat → ClassId) (F : Nat → Nat → Int32) (I R : Nat → Nat → Int32) (J : Nat → Nat → Int64) (hI : mInv F (I, R, J)) (pa0 : Int32) : zMi l D vwCl (zMtys cA) 25 q (zMd q cA) yX11_lacks cX11_lacks 4 (some .int) ({ frames := 6, cells := 0, slots := 0, locals := 155 } : Room) [.ref (q 0), .int (pa0)] (I, R, J) (fun _ u => (mInv F u ∧ u.2.2 = J)) := by
  intro sz
  refine z_body (by decide +kernel) (Nat.le_of_ble_eq_true rfl) (fun p e s m below meth c ls hx hb hml hr ht hown hlocks hsz hK hP hD hS hl => ?_)
  have hA : ∀ a, s.heap.size ≤ a → zA 25 q sz a := fun a h => Or.inr (hsz ▸ h)
  have hl : lv_has ls 4 [(0, .ref (q 0)), (1, .int (pa0))] := hl
  refine lv_aload_n hx hb dX11_lacks_0 rfl (lv_at hl 0 rfl) ?_
  refine lv_iload_n hx hb dX11_lacks_1 rfl (lv_at hl 1 rfl) ?_
  refine lv_i2l (v := (pa0).toInt64) hx hb dX11_lacks_2 rfl ?_
  refine z_callVi (k := 0) (As := [.long ((pa0).toInt64)]) (rest := []) hx hb hml hown ht (mk_X11_isHouse l D q cA F _ _ _ hI ((pa0).toInt64) (zR_i2l (zR_any (pa0)))) hw_6_176 hmX11_isHouse ⟨rfl, rfl⟩ (na := 1) rfl (by decide +kernel) (by decide) (by decide) rfl rfl hK hP hD hS hA hl.1 rfl (Nat.le_of_ble_eq_true rfl) ⟨Nat.zero_le _, Nat.zero_le _⟩ dX11_lacks_3 (fun r_1 I_1 R_1 J_1 H locs hp_1 hP hD hS _ _ => ?_)
  rcases hp_1 with ⟨rfl, hu_1, f0_1⟩ | ⟨rfl, hu_1⟩
  · cases hu_1
    have f_2 : zR 0 4 (pa0) := zL_back f0_1
    refine lv_if_ne (tgt := 12) hx hb dX11_lacks_6 (by decide) (fun _ => ?_) (fun c_0 => absurd c_0 (zD_ne zk_1 zk_z (by decide)))
    refine lv_aload_n hx hb dX11_lacks_12 rfl (lv_at hl 0 rfl) ?_
    refine z_callVv (k := 0) (As := []) (rest := []) hx hb hml hown ht (mk_X11_asItIs l D q cA F _ _ _ hI ) hw_6_181 hmX11_asItIs ⟨rfl, rfl⟩ (na := 0) rfl (by decide +kernel) (by decide) (by decide) rfl rfl hK hP hD hS hA hl.1 rfl (Nat.le_of_ble_eq_true rfl) ⟨Nat.zero_le _, Nat.zero_le _⟩ dX11_lacks_13 (fun I_3 R_3 J_3 H locs hp_3 hP hD hS _ _ => ?_)
    obtain ⟨hv_3, hj_3, hs_3⟩ := hp_3
    try dsimp only at hj_3
    subst J_3
    refine lv_iconst (v := nI 0) hx hb dX11_lacks_16 (by decide +kernel) ?_
    refine lv_istore_n (lv' := [(2, .int (nI 0)), (0, .ref (q 0)), (1, .int (pa0))]) hx hb dX11_lacks_17 rfl hl (by decide) rfl (fun ls hl => ?_)
    refine lv_iconst (v := nI 0) hx hb dX11_lacks_18 (by decide +kernel) ?_
    refine lv_istore_n (lv' := [(3, .int (nI 0)), (2, .int (nI 0)), (0, .ref (q 0)), (1, .int (pa0))]) hx hb dX11_lacks_19 rfl hl (by decide) rfl (fun ls hl => ?_)
    have loop_67 : ∀ N : Nat, ∀ x_65 : Int32, ∀ x_66 : Int32, zR 0 24 x_66 → (2147483648 - (x_66).toInt).toNat < N → ∀ (H : Heap) (locs : List Loc), va_P D vwCl (zw 25 q (zMd q cA) I_3 R_3 J) H → va_D (zA 25 q sz) (zw 25 q (zMd q cA) I_3 R_3 J) → va_S (zA 25 q sz) s.heap H locs → ∀ ls : Array Slot, lv_has ls 4 [(0, .ref (q 0)), (1, .int (pa0)), (2, .int (x_65)), (3, .int (x_66))] → W p l e ({ frames := 6, cells := 0, slots := 0, locals := 155 } : Room) s m ([.ref (q 0), .int (pa0)] : List Value).toArray below meth c H locs 0 0 (MQ below (va_Qi (fun _ u => (mInv F u ∧ u.2.2 = J)) (zB D vwCl 25 q (zMd q cA) sz) (zA 25 q sz)) ([.ref (q 0), .int (pa0)] : List Value).toArray s 0 0 (zA 25 q sz)) (F0 m 20 ls []) := by
      intro N
      induction N with
      | zero => intro x_65 x_66 hx_66 hN; exact absurd hN (Nat.not_lt_zero _)
      | succ N ih_69 =>
        intro x_65 x_66 hx_66 hN_68 H locs hP hD hS ls hl
        refine lv_iload_n hx hb dX11_lacks_20 rfl (lv_at hl 3 rfl) ?_
        refine lv_aload_n hx hb dX11_lacks_21 rfl (lv_at hl 0 rfl) ?_
        refine z_get hx hb ht hown hK hP ziX11 rfl 0 (by decide) 26 (by decide) hw_5_213 rfl (v := .int (I_3 0 26)) rfl dX11_lacks_22 ?_
        have f_70 : zR 0 24 (I_3 0 26) := mI hv_3 0 26
        refine lv_icmp_ge (tgt := 79) hx hb dX11_lacks_25 (by decide) (fun c_71 => ?_) (fun c_71 => ?_)
        · have t_c_71 := z_leT c_71
          refine lv_iload_n hx hb dX11_lacks_79 rfl (lv_at hl 2 rfl) ?_
          exact z_iret (v := x_65) hx hb hr hlocks hP hD hS dX11_lacks_80 ⟨hv_3, rfl⟩
        · have t_c_71 := z_leF c_71
          have f_72 : zR 0 23 (x_66) := zR_ltx t_c_71 hx_66 f_70 (by decide)
          have f_73 : zR 1 24 (I_3 0 26) := zR_lty t_c_71 hx_66 f_70 (by decide)
          refine lv_iload_n hx hb dX11_lacks_28 rfl (lv_at hl 2 rfl) ?_
          refine lv_aload_n hx hb dX11_lacks_29 rfl (lv_at hl 0 rfl) ?_
          refine lv_iload_n hx hb dX11_lacks_30 rfl (lv_at hl 3 rfl) ?_
          have t_82 : ∀ x_81 : Int32, ∀ (H : Heap) (locs : List Loc), va_P D vwCl (zw 25 q (zMd q cA) I_3 R_3 J) H → va_D (zA 25 q sz) (zw 25 q (zMd q cA) I_3 R_3 J) → va_S (zA 25 q sz) s.heap H locs → ∀ ls : Array Slot, lv_has ls 4 [(0, .ref (q 0)), (1, .int (pa0)), (2, .int (x_65)), (3, .int (x_66))] → W p l e ({ frames := 6, cells := 0, slots := 0, locals := 155 } : Room) s m ([.ref (q 0), .int (pa0)] : List Value).toArray below meth c H locs 0 0 (MQ below (va_Qi (fun _ u => (mInv F u ∧ u.2.2 = J)) (zB D vwCl 25 q (zMd q cA) sz) (zA 25 q sz)) ([.ref (q 0), .int (pa0)] : List Value).toArray s 0 0 (zA 25 q sz)) (F0 m 71 ls [.int (x_81), .int (x_65)]) := by
            intro x_81 H locs hP hD hS ls hl
            refine lv_iadd hx hb dX11_lacks_71 ?_
            refine z_any (fun v_83 => ?_)
            refine lv_istore_n (lv' := [(2, .int (v_83)), (0, .ref (q 0)), (1, .int (pa0)), (3, .int (x_66))]) hx hb dX11_lacks_72 rfl hl (by decide) rfl (fun ls hl => ?_)
            obtain ⟨v_84, ev_84⟩ : ∃ y : Int32, y = x_66 + nI 1 := ⟨_, rfl⟩
            have hv_84 : zR 1 24 v_84 := ev_84 ▸ zR_add f_72 zk_1 (by decide)
            have mv_84 : v_84.toInt = (x_66).toInt + 1 := by rw [ev_84, zR_addE f_72 zk_1 (by decide)]; rfl
            refine lv_iinc (v := v_84) (lv' := [(3, .int (v_84)), (2, .int (v_83)), (0, .ref (q 0)), (1, .int (pa0))]) hx hb dX11_lacks_73 hl (k := 3) rfl (ev_84 ▸ rfl) (by decide) rfl (fun ls hl => ?_)
            refine lv_goto (tgt := 20) hx hb dX11_lacks_76 (by decide) ?_
            exact ih_69 (v_83) (v_84) (zR_w hv_84 (by decide)) (z2_up mv_84 (by decide) hN_68) _ _ hP hD hS _ (lv_sub hl [2, 3, 1, 0] rfl)
          refine z_callVi (k := 0) (As := [.int (x_66)]) (rest := [.int (x_65)]) hx hb hml hown ht (mk_X11_isOpen_1 l D q cA F _ _ _ hv_3 (x_66) f_72) hw_6_230 hmX11_isOpen ⟨rfl, rfl⟩ (na := 1) rfl (by decide +kernel) (by decide) (by decide) rfl rfl hK hP hD hS hA hl.1 rfl (Nat.le_of_ble_eq_true rfl) ⟨Nat.zero_le _, Nat.zero_le _⟩ dX11_lacks_31 (fun r_74 I_74 R_74 J_74 H locs hp_74 hP hD hS _ _ => ?_)
          rcases hp_74 with ⟨rfl, hu_74⟩ | ⟨rfl, hu_74⟩
          · cases hu_74
            refine lv_if_eq (tgt := 70) hx hb dX11_lacks_34 (by decide) (fun c_0 => absurd c_0 (zD_ne zk_1 zk_z (by decide))) (fun _ => ?_)
            refine lv_aload_n hx hb dX11_lacks_37 rfl (lv_at hl 0 rfl) ?_
            refine z_get hx hb ht hown hK hP ziX11 rfl 0 (by decide) 18 (by decide) hw_5_205 rfl (v := .ref (q 10)) rfl dX11_lacks_38 ?_
            refine lv_iload_n hx hb dX11_lacks_41 rfl (lv_at hl 3 rfl) ?_
            refine z_iald hx hb hK hP 10 (by decide) 9 rfl rfl (zR_vin f_72 (by decide)) dX11_lacks_42 ?_
            refine z_eqi (y := R_3 10 (x_66).toNatClampNeg) rfl ?_
            have f_85 : zR 0 4 (R_3 10 (x_66).toNatClampNeg) := mR hv_3 10 (x_66).toNatClampNeg
            refine lv_iload_n hx hb dX11_lacks_43 rfl (lv_at hl 1 rfl) ?_
            refine lv_icmp_ne (tgt := 70) hx hb dX11_lacks_44 (by decide) (fun c_86 => ?_) (fun c_86 => ?_)
            · have t_c_86 := z_eqF c_86
              refine lv_iconst (v := nI 0) hx hb dX11_lacks_70 (by decide +kernel) ?_
              exact t_82 (nI 0) _ _ hP hD hS _ (lv_sub hl [0, 1, 2, 3] rfl)
            · have t_c_86 := z_eqT c_86
              refine lv_aload_n hx hb dX11_lacks_47 rfl (lv_at hl 0 rfl) ?_
              refine z_get hx hb ht hown hK hP ziX11 rfl 0 (by decide) 17 (by decide) hw_5_204 rfl (v := .ref (q 9)) rfl dX11_lacks_48 ?_
              refine lv_aload_n hx hb dX11_lacks_51 rfl (lv_at hl 0 rfl) ?_
              refine z_get hx hb ht hown hK hP ziX11 rfl 0 (by decide) 19 (by decide) hw_5_206 rfl (v := .ref (q 11)) rfl dX11_lacks_52 ?_
              refine lv_iload_n hx hb dX11_lacks_55 rfl (lv_at hl 3 rfl) ?_
              refine z_iald hx hb hK hP 11 (by decide) 10 rfl rfl (zR_vin f_72 (by decide)) dX11_lacks_56 ?_
              refine z_eqi (y := R_3 11 (x_66).toNatClampNeg) rfl ?_
              have f_87 : zR 0 5 (R_3 11 (x_66).toNatClampNeg) := mR hv_3 11 (x_66).toNatClampNeg
              refine z_iald hx hb hK hP 9 (by decide) 8 rfl rfl (zR_vin f_87 (by decide)) dX11_lacks_57 ?_
              refine z_eqi (y := R_3 9 (R_3 11 (x_66).toNatClampNeg).toNatClampNeg) rfl ?_
              have f_88 : zR 0 4 (R_3 9 (R_3 11 (x_66).toNatClampNeg).toNatClampNeg) := mR hv_3 9 (R_3 11 (x_66).toNatClampNeg).toNatClampNeg
              refine lv_iload_n hx hb dX11_lacks_58 rfl (lv_at hl 1 rfl) ?_
              refine lv_icmp_eq (tgt := 70) hx hb dX11_lacks_59 (by decide) (fun c_89 => ?_) (fun c_89 => ?_)
              · have t_c_89 := z_eqT c_89
                refine lv_iconst (v := nI 0) hx hb dX11_lacks_70 (by decide +kernel) ?_
                exact t_82 (nI 0) _ _ hP hD hS _ (lv_sub hl [0, 1, 2, 3] rfl)
              · have t_c_89 := z_eqF c_89
                refine lv_aload_n hx hb dX11_lacks_62 rfl (lv_at hl 0 rfl) ?_
                refine lv_iload_n hx hb dX11_lacks_63 rfl (lv_at hl 3 rfl) ?_
                refine z_callVi (k := 0) (As := [.int (x_66)]) (rest := [.int (x_65)]) hx hb hml hown ht (mk_X11_worthP_1 l D q cA F _ _ _ hv_3 (x_66) f_72) hw_6_206 hmX11_worthP ⟨rfl, rfl⟩ (na := 1) rfl (by decide +kernel) (by decide) (by decide) rfl rfl hK hP hD hS hA hl.1 rfl (Nat.le_of_ble_eq_true rfl) ⟨Nat.zero_le _, Nat.zero_le _⟩ dX11_lacks_64 (fun r_90 I_90 R_90 J_90 H locs hp_90 hP hD hS _ _ => ?_)
                cases hp_90
                refine lv_goto (tgt := 71) hx hb dX11_lacks_67 (by decide) ?_
                exact t_82 (r_90) _ _ hP hD hS _ (lv_sub hl [0, 1, 2, 3] rfl)
          · cases hu_74
            refine lv_if_eq (tgt := 70) hx hb dX11_lacks_34 (by decide) (fun _ => ?_) (fun c_0 => absurd (zD_eq zk_0 zk_z) c_0)
            refine lv_iconst (v := nI 0) hx hb dX11_lacks_70 (by decide +kernel) ?_
            exact t_82 (nI 0) _ _ hP hD hS _ (lv_sub hl [0, 1, 2, 3] rfl)
    exact loop_67 _ (nI 0) (nI 0) (zR_w zk_0 (by decide)) (Nat.lt_succ_self _) _ _ hP hD hS _ (lv_sub hl [2, 3, 1, 0] rfl)
  · cases hu_1
    refine lv_if_ne (tgt := 12) hx hb dX11_lacks_6 (by decide) (fun c_0 => absurd (zD_eq zk_0 zk_z) c_0) (fun _ => ?_)
    refine lv_bipush (v := (-2)) hx hb dX11_lacks_9 (by decide +kernel) ?_
    exact z_iret (v := (-2)) hx hb hr hlocks hP hD hS dX11_lacks_11 ⟨hI, rfl⟩
