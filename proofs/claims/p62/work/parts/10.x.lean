set_option maxHeartbeats 4000000 in
set_option maxRecDepth 100000 in
theorem xk_X7_hasRoom (l : Launch) (D : va_G) (q : Nat → Nat) (cA : Nat → ClassId) (F : Nat → Nat → Int32) (I R : Nat → Nat → Int32) (J : Nat → Nat → Int64) (hI : xInv F (I, R, J))  : zMi l D vwCl (zXtys cA) 81 q (zXd q cA) yX7_hasRoom cX7_hasRoom 1 (some .boolean) ({ frames := 0, cells := 0, slots := 0, locals := 0 } : Room) [.ref (q 1)] (I, R, J) (fun r u => (r = nI 1 ∧ u = (I, R, J)) ∨ (r = nI 0 ∧ u = (I, R, J))) := by
  intro sz
  refine z_body (by decide +kernel) (Nat.le_of_ble_eq_true rfl) (fun p e s m below meth c ls hx hb hml hr ht hown hlocks hsz hK hP hD hS hl => ?_)
  have hA : ∀ a, s.heap.size ≤ a → zA 81 q sz a := fun a h => Or.inr (hsz ▸ h)
  have hl : lv_has ls 1 [(0, .ref (q 1))] := hl
  refine lv_aload_n hx hb dX7_hasRoom_0 rfl (lv_at hl 0 rfl) ?_
  refine z_get hx hb ht hown hK hP ziX7 rfl 1 (by decide) 1 (by decide) hw_1_36 rfl (v := .int (I 1 1)) rfl dX7_hasRoom_1 ?_
  have f_1 : zR 0 800 (I 1 1) := xI hI 1 1
  refine lv_bipush (v := nI 20) hx hb dX7_hasRoom_4 (by decide +kernel) ?_
  refine lv_iadd hx hb dX7_hasRoom_6 ?_
  refine z_addc 20 820 f_1 zk_20 (by decide) (fun v_2 hv_2 mv_2 => ?_)
  refine lv_sipush (v := nI 800) hx hb dX7_hasRoom_7 (by decide +kernel) ?_
  refine lv_icmp_gt (tgt := 17) hx hb dX7_hasRoom_10 (by decide) (fun c_3 => ?_) (fun c_3 => ?_)
  · have t_c_3 := z_ltT c_3
    have f_4 : zR 801 820 (v_2) := zR_lty t_c_3 zk_800 hv_2 (by decide)
    have f_5 : zR 781 800 (I 1 1) := zR_shift mv_2 f_4 (by decide)
    refine lv_iconst (v := nI 0) hx hb dX7_hasRoom_17 (by decide +kernel) ?_
    exact z_zret (v := nI 0) hx hb hr hlocks hP hD hS (by decide +kernel) dX7_hasRoom_18 (Or.inr ⟨rfl, rfl⟩)
  · have t_c_3 := z_ltF c_3
    have f_6 : zR 20 800 (v_2) := zR_lex t_c_3 hv_2 zk_800 (by decide)
    have f_7 : zR 0 780 (I 1 1) := zR_shift mv_2 f_6 (by decide)
    refine lv_iconst (v := nI 1) hx hb dX7_hasRoom_13 (by decide +kernel) ?_
    refine lv_goto (tgt := 18) hx hb dX7_hasRoom_14 (by decide) ?_
    exact z_zret (v := nI 1) hx hb hr hlocks hP hD hS (by decide +kernel) dX7_hasRoom_18 (Or.inl ⟨rfl, rfl⟩)
set_option maxHeartbeats 4000000 in
set_option maxRecDepth 100000 in
theorem xk_X7_add (l : Launch) (D : va_G) (q : Nat → Nat) (cA : Nat → ClassId) (F : Nat → Nat → Int32) (I R : Nat → Nat → Int32) (J : Nat → Nat → Int64) (hI : xInv F (I, R, J)) (pa0 : Int32) : zMv l D vwCl (zXtys cA) 81 q (zXd q cA) yX7_add cX7_add 3 none ({ frames := 0, cells := 0, slots := 0, locals := 0 } : Room) [.ref (q 1), .int (pa0)] (I, R, J) (fun u => xInv F u) := by
  intro sz
  refine z_body (by decide +kernel) (Nat.le_of_ble_eq_true rfl) (fun p e s m below meth c ls hx hb hml hr ht hown hlocks hsz hK hP hD hS hl => ?_)
  have hA : ∀ a, s.heap.size ≤ a → zA 81 q sz a := fun a h => Or.inr (hsz ▸ h)
  have hl : lv_has ls 3 [(0, .ref (q 1)), (1, .int (pa0))] := hl
  refine lv_bipush (v := nI 24) hx hb dX7_add_0 (by decide +kernel) ?_
  refine lv_istore_n (lv' := [(2, .int (nI 24)), (0, .ref (q 1)), (1, .int (pa0))]) hx hb dX7_add_2 rfl hl (by decide) rfl (fun ls hl => ?_)
  have t_54 : ∀ x_52 : Int32, zR (-8) 24 x_52 → ∀ I_53 : Nat → Nat → Int32, ∀ R_53 : Nat → Nat → Int32, xInv F (I_53, R_53, J) → ∀ (H : Heap) (locs : List Loc), va_P D vwCl (zw 81 q (zXd q cA) I_53 R_53 J) H → va_D (zA 81 q sz) (zw 81 q (zXd q cA) I_53 R_53 J) → va_S (zA 81 q sz) s.heap H locs → ∀ ls : Array Slot, lv_has ls 3 [(0, .ref (q 1)), (1, .int (pa0)), (2, .int (x_52))] → W p l e ({ frames := 0, cells := 0, slots := 0, locals := 0 } : Room) s m ([.ref (q 1), .int (pa0)] : List Value).toArray below meth c H locs 0 0 (MQ below (va_Qv (fun u => xInv F u) (zB D vwCl 81 q (zXd q cA) sz) (zA 81 q sz)) ([.ref (q 1), .int (pa0)] : List Value).toArray s 0 0 (zA 81 q sz)) (F0 m 46 ls []) := by
    intro x_52 hx_52 I_53 R_53 hI_53 H locs hP hD hS ls hl
    exact z_vret hx hb hr hlocks hP hD hS dX7_add_46 hI_53
  have loop_57 : ∀ N : Nat, ∀ x_55 : Int32, zR (-8) 24 x_55 → ∀ I_56 : Nat → Nat → Int32, ∀ R_56 : Nat → Nat → Int32, xInv F (I_56, R_56, J) → ((x_55).toInt + 2147483649).toNat < N → ∀ (H : Heap) (locs : List Loc), va_P D vwCl (zw 81 q (zXd q cA) I_56 R_56 J) H → va_D (zA 81 q sz) (zw 81 q (zXd q cA) I_56 R_56 J) → va_S (zA 81 q sz) s.heap H locs → ∀ ls : Array Slot, lv_has ls 3 [(0, .ref (q 1)), (1, .int (pa0)), (2, .int (x_55))] → W p l e ({ frames := 0, cells := 0, slots := 0, locals := 0 } : Room) s m ([.ref (q 1), .int (pa0)] : List Value).toArray below meth c H locs 0 0 (MQ below (va_Qv (fun u => xInv F u) (zB D vwCl 81 q (zXd q cA) sz) (zA 81 q sz)) ([.ref (q 1), .int (pa0)] : List Value).toArray s 0 0 (zA 81 q sz)) (F0 m 3 ls []) := by
    intro N
    induction N with
    | zero => intro x_55 hx_55 I_56 R_56 hI_56 hN; exact absurd hN (Nat.not_lt_zero _)
    | succ N ih_59 =>
      intro x_55 hx_55 I_56 R_56 hI_56 hN_58 H locs hP hD hS ls hl
      refine lv_iload_n hx hb dX7_add_3 rfl (lv_at hl 2 rfl) ?_
      refine lv_if_lt (tgt := 46) hx hb dX7_add_4 (by decide) (fun c_60 => ?_) (fun c_60 => ?_)
      · have t_c_60 := z_ltT c_60
        have f_61 : zR (-8) (-1) (x_55) := zR_ltx t_c_60 hx_55 zk_z (by decide)
        exact t_54 (x_55) (zR_w f_61 (by decide)) _ _ hI_56 _ _ hP hD hS _ (lv_sub hl [0, 1, 2] rfl)
      · have t_c_60 := z_ltF c_60
        have f_62 : zR 0 24 (x_55) := zR_ley t_c_60 zk_z hx_55 (by decide)
        refine lv_aload_n hx hb dX7_add_7 rfl (lv_at hl 0 rfl) ?_
        refine z_get hx hb ht hown hK hP ziX7 rfl 1 (by decide) 1 (by decide) hw_1_36 rfl (v := .int (I_56 1 1)) rfl dX7_add_8 ?_
        have f_63 : zR 0 800 (I_56 1 1) := xI hI_56 1 1
        refine lv_sipush (v := nI 800) hx hb dX7_add_11 (by decide +kernel) ?_
        refine lv_icmp_ge (tgt := 46) hx hb dX7_add_14 (by decide) (fun c_64 => ?_) (fun c_64 => ?_)
        · have t_c_64 := z_leT c_64
          have f_65 : zR 800 800 (I_56 1 1) := zR_ley t_c_64 zk_800 f_63 (by decide)
          exact t_54 (x_55) (zR_w f_62 (by decide)) _ _ hI_56 _ _ hP hD hS _ (lv_sub hl [0, 1, 2] rfl)
        · have t_c_64 := z_leF c_64
          have f_66 : zR 0 799 (I_56 1 1) := zR_ltx t_c_64 f_63 zk_800 (by decide)
          refine lv_aload_n hx hb dX7_add_17 rfl (lv_at hl 0 rfl) ?_
          refine z_get hx hb ht hown hK hP ziX7 rfl 1 (by decide) 0 (by decide) hw_1_35 rfl (v := .ref (q 2)) rfl dX7_add_18 ?_
          refine lv_aload_n hx hb dX7_add_21 rfl (lv_at hl 0 rfl) ?_
          refine z_get hx hb ht hown hK hP ziX7 rfl 1 (by decide) 1 (by decide) hw_1_36 rfl (v := .int (I_56 1 1)) rfl dX7_add_22 ?_
          refine lv_iload_n hx hb dX7_add_25 rfl (lv_at hl 1 rfl) ?_
          refine lv_iload_n hx hb dX7_add_26 rfl (lv_at hl 2 rfl) ?_
          refine lv_ishr hx hb dX7_add_27 ?_
          refine z_any (fun v_67 => ?_)
          refine lv_i2b hx hb dX7_add_28 rfl ?_
          refine z_any (fun v_68 => ?_)
          refine z_bast hx hb hK hP hD hS 2 (by decide) 0 (fun _ => rfl) rfl (zR_vin f_66 (by decide)) dX7_add_29 (fun H locs hP hD hS => ?_)
          have hI_69 := xInv_R hI_56 2 (I_56 1 1).toNatClampNeg (vp_nar .byte (v_68)) (zR_any _) rfl
          refine lv_aload_n hx hb dX7_add_30 rfl (lv_at hl 0 rfl) ?_
          refine lv_dup hx hb dX7_add_31 rfl ?_
          refine z_get hx hb ht hown hK hP ziX7 rfl 1 (by decide) 1 (by decide) hw_1_36 rfl (v := .int (I_56 1 1)) rfl dX7_add_32 ?_
          refine lv_iconst (v := nI 1) hx hb dX7_add_35 (by decide +kernel) ?_
          refine lv_iadd hx hb dX7_add_36 ?_
          refine z_addc 1 800 f_66 zk_1 (by decide) (fun v_70 hv_70 mv_70 => ?_)
          refine z_putI hx hb ht hown hK hP hD hS ziX7 tyX7 tyX7_ok nmX7 rfl 1 (by decide) 1 (by decide) hw_1_36 rfl (v := v_70) rfl rfl rfl (Nat.le_of_ble_eq_true rfl) rfl dX7_add_37 (fun H locs hP hD hS => ?_)
          have hI_71 := xInv_I hI_69 1 1 (v_70) (zR_w hv_70 (by decide)) rfl
          obtain ⟨v_72, ev_72⟩ : ∃ y : Int32, y = x_55 + (-8) := ⟨_, rfl⟩
          have hv_72 : zR (-8) 16 v_72 := ev_72 ▸ zR_add f_62 zk_m8 (by decide)
          have mv_72 : v_72.toInt = (x_55).toInt + (-8) := by rw [ev_72, zR_addE f_62 zk_m8 (by decide)]; rfl
          refine lv_iinc (v := v_72) (lv' := [(2, .int (v_72)), (0, .ref (q 1)), (1, .int (pa0))]) hx hb dX7_add_40 hl (k := 2) rfl (ev_72 ▸ rfl) (by decide) rfl (fun ls hl => ?_)
          refine lv_goto (tgt := 3) hx hb dX7_add_43 (by decide) ?_
          exact ih_59 (v_72) (zR_w hv_72 (by decide)) _ _ hI_71 (z2_dn mv_72 (by decide) hN_58) _ _ hP hD hS _ (lv_sub hl [1, 2, 0] rfl)
  exact loop_57 _ (nI 24) (zR_w zk_24 (by decide)) _ _ hI (Nat.lt_succ_self _) _ _ hP hD hS _ (lv_sub hl [1, 2, 0] rfl)
set_option maxHeartbeats 4000000 in
set_option maxRecDepth 100000 in
theorem xk_X10_feed (l : Launch) (D : va_G) (q : Nat → Nat) (cA : Nat → ClassId) (F : Nat → Nat → Int32) (I R : Nat → Nat → Int32) (J : Nat → Nat → Int64) (hI : xInv F (I, R, J)) (pa0 : Int32) (pa1 : Int32) (pa2 : Int32) (pa3 : Int32) (pa4 : Int32) : zMi l D vwCl (zXtys cA) 81 q (zXd q cA) yX10_feed cX10_feed 6 (some .int) ({ frames := 1, cells := 0, slots := 0, locals := 22 } : Room) [.ref (q 0), .int (pa0), .int (pa1), .int (pa2), .int (pa3), .int (pa4)] (I, R, J) (fun r u => zR (-1) 800 r ∧ xInv F u) := by
  intro sz
  refine z_body (by decide +kernel) (Nat.le_of_ble_eq_true rfl) (fun p e s m below meth c ls hx hb hml hr ht hown hlocks hsz hK hP hD hS hl => ?_)
  have hA : ∀ a, s.heap.size ≤ a → zA 81 q sz a := fun a h => Or.inr (hsz ▸ h)
  have hl : lv_has ls 6 [(0, .ref (q 0)), (1, .int (pa0)), (2, .int (pa1)), (3, .int (pa2)), (4, .int (pa3)), (5, .int (pa4))] := hl
  refine lv_aload_n hx hb dX10_feed_0 rfl (lv_at hl 0 rfl) ?_
  refine z_get hx hb ht hown hK hP ziX10 rfl 0 (by decide) 0 (by decide) hw_2_93 rfl (v := .ref (q 1)) rfl dX10_feed_1 ?_
  refine z_callVi (k := 1) (As := []) (rest := []) hx hb hml hown ht (xk_X7_hasRoom l D q cA F _ _ _ hI ) hw_2_134 hmX7_hasRoom ⟨rfl, rfl⟩ (na := 0) rfl (by decide +kernel) (by decide) (by decide) rfl rfl hK hP hD hS hA hl.1 rfl (Nat.le_of_ble_eq_true rfl) ⟨Nat.zero_le _, Nat.zero_le _⟩ dX10_feed_4 (fun r_1 I_1 R_1 J_1 H locs hp_1 hP hD hS _ _ => ?_)
  rcases hp_1 with ⟨rfl, hu_1⟩ | ⟨rfl, hu_1⟩
  · cases hu_1
    refine lv_if_ne (tgt := 12) hx hb dX10_feed_7 (by decide) (fun _ => ?_) (fun c_0 => absurd c_0 (zD_ne zk_1 zk_z (by decide)))
    refine lv_aload_n hx hb dX10_feed_12 rfl (lv_at hl 0 rfl) ?_
    refine z_get hx hb ht hown hK hP ziX10 rfl 0 (by decide) 0 (by decide) hw_2_93 rfl (v := .ref (q 1)) rfl dX10_feed_13 ?_
    refine lv_iload_n hx hb dX10_feed_16 rfl (lv_at hl 1 rfl) ?_
    refine z_callVv (k := 1) (As := [.int (pa0)]) (rest := []) hx hb hml hown ht (xk_X7_add l D q cA F _ _ _ hI (pa0)) hw_2_138 hmX7_add ⟨rfl, rfl⟩ (na := 1) rfl (by decide +kernel) (by decide) (by decide) rfl rfl hK hP hD hS hA hl.1 rfl (Nat.le_of_ble_eq_true rfl) ⟨Nat.zero_le _, Nat.zero_le _⟩ dX10_feed_17 (fun I_2 R_2 J_2 H locs hp_2 hP hD hS _ _ => ?_)
    refine lv_aload_n hx hb dX10_feed_20 rfl (lv_at hl 0 rfl) ?_
    refine z_get hx hb ht hown hK hP ziX10 rfl 0 (by decide) 0 (by decide) hw_2_93 rfl (v := .ref (q 1)) rfl dX10_feed_21 ?_
    refine lv_iload_n hx hb dX10_feed_24 rfl (lv_at hl 2 rfl) ?_
    refine z_callVv (k := 1) (As := [.int (pa1)]) (rest := []) hx hb hml hown ht (xk_X7_add l D q cA F _ _ _ hp_2 (pa1)) hw_2_138 hmX7_add ⟨rfl, rfl⟩ (na := 1) rfl (by decide +kernel) (by decide) (by decide) rfl rfl hK hP hD hS hA hl.1 rfl (Nat.le_of_ble_eq_true rfl) ⟨Nat.zero_le _, Nat.zero_le _⟩ dX10_feed_25 (fun I_3 R_3 J_3 H locs hp_3 hP hD hS _ _ => ?_)
    refine lv_aload_n hx hb dX10_feed_28 rfl (lv_at hl 0 rfl) ?_
    refine z_get hx hb ht hown hK hP ziX10 rfl 0 (by decide) 0 (by decide) hw_2_93 rfl (v := .ref (q 1)) rfl dX10_feed_29 ?_
    refine lv_iload_n hx hb dX10_feed_32 rfl (lv_at hl 3 rfl) ?_
    refine z_callVv (k := 1) (As := [.int (pa2)]) (rest := []) hx hb hml hown ht (xk_X7_add l D q cA F _ _ _ hp_3 (pa2)) hw_2_138 hmX7_add ⟨rfl, rfl⟩ (na := 1) rfl (by decide +kernel) (by decide) (by decide) rfl rfl hK hP hD hS hA hl.1 rfl (Nat.le_of_ble_eq_true rfl) ⟨Nat.zero_le _, Nat.zero_le _⟩ dX10_feed_33 (fun I_4 R_4 J_4 H locs hp_4 hP hD hS _ _ => ?_)
    refine lv_aload_n hx hb dX10_feed_36 rfl (lv_at hl 0 rfl) ?_
    refine z_get hx hb ht hown hK hP ziX10 rfl 0 (by decide) 0 (by decide) hw_2_93 rfl (v := .ref (q 1)) rfl dX10_feed_37 ?_
    refine lv_iload hx hb dX10_feed_40 (lv_at hl 4 rfl) ?_
    refine z_callVv (k := 1) (As := [.int (pa3)]) (rest := []) hx hb hml hown ht (xk_X7_add l D q cA F _ _ _ hp_4 (pa3)) hw_2_138 hmX7_add ⟨rfl, rfl⟩ (na := 1) rfl (by decide +kernel) (by decide) (by decide) rfl rfl hK hP hD hS hA hl.1 rfl (Nat.le_of_ble_eq_true rfl) ⟨Nat.zero_le _, Nat.zero_le _⟩ dX10_feed_42 (fun I_5 R_5 J_5 H locs hp_5 hP hD hS _ _ => ?_)
    refine lv_aload_n hx hb dX10_feed_45 rfl (lv_at hl 0 rfl) ?_
    refine z_get hx hb ht hown hK hP ziX10 rfl 0 (by decide) 0 (by decide) hw_2_93 rfl (v := .ref (q 1)) rfl dX10_feed_46 ?_
    refine lv_iload hx hb dX10_feed_49 (lv_at hl 5 rfl) ?_
    refine z_callVv (k := 1) (As := [.int (pa4)]) (rest := []) hx hb hml hown ht (xk_X7_add l D q cA F _ _ _ hp_5 (pa4)) hw_2_138 hmX7_add ⟨rfl, rfl⟩ (na := 1) rfl (by decide +kernel) (by decide) (by decide) rfl rfl hK hP hD hS hA hl.1 rfl (Nat.le_of_ble_eq_true rfl) ⟨Nat.zero_le _, Nat.zero_le _⟩ dX10_feed_51 (fun I_6 R_6 J_6 H locs hp_6 hP hD hS _ _ => ?_)
    refine lv_aload_n hx hb dX10_feed_54 rfl (lv_at hl 0 rfl) ?_
    refine z_get hx hb ht hown hK hP ziX10 rfl 0 (by decide) 0 (by decide) hw_2_93 rfl (v := .ref (q 1)) rfl dX10_feed_55 ?_
    refine z_get hx hb ht hown hK hP ziX7 rfl 1 (by decide) 1 (by decide) hw_1_37 rfl (v := .int (I_6 1 1)) rfl dX10_feed_58 ?_
    have f_7 : zR 0 800 (I_6 1 1) := xI hp_6 1 1
    exact z_iret (v := I_6 1 1) hx hb hr hlocks hP hD hS dX10_feed_61 ⟨(zR_w f_7 (by decide)), hp_6⟩
  · cases hu_1
    refine lv_if_ne (tgt := 12) hx hb dX10_feed_7 (by decide) (fun c_0 => absurd (zD_eq zk_0 zk_z) c_0) (fun _ => ?_)
    refine lv_iconst (v := (-1)) hx hb dX10_feed_10 (by decide +kernel) ?_
    exact z_iret (v := (-1)) hx hb hr hlocks hP hD hS dX10_feed_11 ⟨(zR_w zk_m1 (by decide)), hI⟩
set_option maxHeartbeats 4000000 in
set_option maxRecDepth 100000 in
theorem xk_X10_end (l : Launch) (D : va_G) (q : Nat → Nat) (cA : Nat → ClassId) (F : Nat → Nat → Int32) (I R : Nat → Nat → Int32) (J : Nat → Nat → Int64) (hI : xInv F (I, R, J)) (pa0 : Int32) : zMi l D vwCl (zXtys cA) 81 q (zXd q cA) yX10_end cX10_end 2 (some .int) ({ frames := 0, cells := 0, slots := 0, locals := 0 } : Room) [.ref (q 0), .int (pa0)] (I, R, J) (fun r u => zR (-1) 800 r ∧ xInv F u) := by
  intro sz
  refine z_body (by decide +kernel) (Nat.le_of_ble_eq_true rfl) (fun p e s m below meth c ls hx hb hml hr ht hown hlocks hsz hK hP hD hS hl => ?_)
  have hA : ∀ a, s.heap.size ≤ a → zA 81 q sz a := fun a h => Or.inr (hsz ▸ h)
  have hl : lv_has ls 2 [(0, .ref (q 0)), (1, .int (pa0))] := hl
  refine lv_iload_n hx hb dX10_end_0 rfl (lv_at hl 1 rfl) ?_
  refine lv_if_lt (tgt := 15) hx hb dX10_end_1 (by decide) (fun c_1 => ?_) (fun c_1 => ?_)
  · have t_c_1 := z_ltT c_1
    have f_2 : zR (-2147483648) (-1) (pa0) := zR_ltx t_c_1 (zR_any (pa0)) zk_z (by decide)
    refine lv_iconst (v := (-1)) hx hb dX10_end_15 (by decide +kernel) ?_
    exact z_iret (v := (-1)) hx hb hr hlocks hP hD hS dX10_end_16 ⟨(zR_w zk_m1 (by decide)), hI⟩
  · have t_c_1 := z_ltF c_1
    have f_3 : zR 0 2147483647 (pa0) := zR_ley t_c_1 zk_z (zR_any (pa0)) (by decide)
    refine lv_iload_n hx hb dX10_end_4 rfl (lv_at hl 1 rfl) ?_
    refine lv_aload_n hx hb dX10_end_5 rfl (lv_at hl 0 rfl) ?_
    refine z_get hx hb ht hown hK hP ziX10 rfl 0 (by decide) 0 (by decide) hw_2_93 rfl (v := .ref (q 1)) rfl dX10_end_6 ?_
    refine z_get hx hb ht hown hK hP ziX7 rfl 1 (by decide) 1 (by decide) hw_1_37 rfl (v := .int (I 1 1)) rfl dX10_end_9 ?_
    have f_4 : zR 0 800 (I 1 1) := xI hI 1 1
    refine lv_icmp_le (tgt := 17) hx hb dX10_end_12 (by decide) (fun c_5 => ?_) (fun c_5 => ?_)
    · have t_c_5 := z_leT c_5
      have f_6 : zR 0 800 (pa0) := zR_lex t_c_5 f_3 f_4 (by decide)
      refine lv_aload_n hx hb dX10_end_17 rfl (lv_at hl 0 rfl) ?_
      refine z_get hx hb ht hown hK hP ziX10 rfl 0 (by decide) 0 (by decide) hw_2_93 rfl (v := .ref (q 1)) rfl dX10_end_18 ?_
      refine lv_iload_n hx hb dX10_end_21 rfl (lv_at hl 1 rfl) ?_
      refine z_putI hx hb ht hown hK hP hD hS ziX7 tyX7 tyX7_ok nmX7 rfl 1 (by decide) 1 (by decide) hw_1_37 rfl (v := pa0) rfl rfl rfl (Nat.le_of_ble_eq_true rfl) rfl dX10_end_22 (fun H locs hP hD hS => ?_)
      have hI_7 := xInv_I hI 1 1 (pa0) f_6 rfl
      refine lv_iload_n hx hb dX10_end_25 rfl (lv_at hl 1 rfl) ?_
      exact z_iret (v := pa0) hx hb hr hlocks hP hD hS dX10_end_26 ⟨(zR_w f_6 (by decide)), hI_7⟩
    · have t_c_5 := z_leF c_5
      have f_8 : zR 1 2147483647 (pa0) := zR_lty t_c_5 f_4 f_3 (by decide)
      refine lv_iconst (v := (-1)) hx hb dX10_end_15 (by decide +kernel) ?_
      exact z_iret (v := (-1)) hx hb hr hlocks hP hD hS dX10_end_16 ⟨(zR_w zk_m1 (by decide)), hI⟩
set_option maxHeartbeats 4000000 in
set_option maxRecDepth 100000 in
theorem xk_J7_fill_53178 (l : Launch) (D : va_G) (q : Nat → Nat) (cA : Nat → ClassId) (F : Nat → Nat → Int32) (I R : Nat → Nat → Int32) (J : Nat → Nat → Int64) (hI : xInv F (I, R, J)) (pa1 : Int32) (hpa1 : zR 0 1 pa1) : zMv l D vwCl (zXtys cA) 81 q (zXd q cA) yJ7_fill_53178 cJ7_fill_53178 4 none ({ frames := 0, cells := 0, slots := 0, locals := 0 } : Room) [.ref (q 12), .int (pa1)] (I, R, J) (fun u => xInv F u) := by
  intro sz
  refine z_body (by decide +kernel) (Nat.le_of_ble_eq_true rfl) (fun p e s m below meth c ls hx hb hml hr ht hown hlocks hsz hK hP hD hS hl => ?_)
  have hA : ∀ a, s.heap.size ≤ a → zA 81 q sz a := fun a h => Or.inr (hsz ▸ h)
  have hl : lv_has ls 4 [(0, .ref (q 12)), (1, .int (pa1))] := hl
  refine lv_iconst (v := nI 0) hx hb dJ7_fill_53178_0 (by decide +kernel) ?_
  refine lv_istore_n (lv' := [(2, .int (nI 0)), (0, .ref (q 12)), (1, .int (pa1))]) hx hb dJ7_fill_53178_1 rfl hl (by decide) rfl (fun ls hl => ?_)
  refine lv_aload_n hx hb dJ7_fill_53178_2 rfl (lv_at hl 1 rfl) ?_
  refine z_alen hx hb hK hP 12 (by decide) 8 rfl rfl dJ7_fill_53178_3 ?_
  refine lv_istore_n (lv' := [(3, .int (nI 30)), (2, .int (nI 0)), (0, .ref (q 12)), (1, .int (pa1))]) hx hb dJ7_fill_53178_4 rfl hl (by decide) rfl (fun ls hl => ?_)
  have loop_22 : ∀ N : Nat, ∀ x_20 : Int32, zR 0 30 x_20 → ∀ R_21 : Nat → Nat → Int32, xInv F (I, R_21, J) → (2147483648 - (x_20).toInt).toNat < N → ∀ (H : Heap) (locs : List Loc), va_P D vwCl (zw 81 q (zXd q cA) I R_21 J) H → va_D (zA 81 q sz) (zw 81 q (zXd q cA) I R_21 J) → va_S (zA 81 q sz) s.heap H locs → ∀ ls : Array Slot, lv_has ls 4 [(0, .ref (q 12)), (1, .int (pa1)), (2, .int (x_20)), (3, .int (nI 30))] → W p l e ({ frames := 0, cells := 0, slots := 0, locals := 0 } : Room) s m ([.ref (q 12), .int (pa1)] : List Value).toArray below meth c H locs 0 0 (MQ below (va_Qv (fun u => xInv F u) (zB D vwCl 81 q (zXd q cA) sz) (zA 81 q sz)) ([.ref (q 12), .int (pa1)] : List Value).toArray s 0 0 (zA 81 q sz)) (F0 m 5 ls []) := by
    intro N
    induction N with
    | zero => intro x_20 hx_20 R_21 hI_21 hN; exact absurd hN (Nat.not_lt_zero _)
    | succ N ih_24 =>
      intro x_20 hx_20 R_21 hI_21 hN_23 H locs hP hD hS ls hl
      refine lv_iload_n hx hb dJ7_fill_53178_5 rfl (lv_at hl 2 rfl) ?_
      refine lv_iload_n hx hb dJ7_fill_53178_6 rfl (lv_at hl 3 rfl) ?_
      refine lv_icmp_ge (tgt := 20) hx hb dJ7_fill_53178_7 (by decide) (fun c_25 => ?_) (fun c_25 => ?_)
      · have t_c_25 := z_leT c_25
        have f_26 : zR 30 30 (x_20) := zR_ley t_c_25 zk_30 hx_20 (by decide)
        exact z_vret hx hb hr hlocks hP hD hS dJ7_fill_53178_20 hI_21
      · have t_c_25 := z_leF c_25
        have f_27 : zR 0 29 (x_20) := zR_ltx t_c_25 hx_20 zk_30 (by decide)
        refine lv_aload_n hx hb dJ7_fill_53178_10 rfl (lv_at hl 0 rfl) ?_
        refine lv_iload_n hx hb dJ7_fill_53178_11 rfl (lv_at hl 2 rfl) ?_
        refine lv_iload_n hx hb dJ7_fill_53178_12 rfl (lv_at hl 1 rfl) ?_
        refine z_iast hx hb hK hP hD hS 12 (by decide) 8 (fun _ => rfl) rfl (zR_vin f_27 (by decide)) dJ7_fill_53178_13 (fun H locs hP hD hS => ?_)
        have hI_28 := xInv_R hI_21 12 (x_20).toNatClampNeg (pa1) (zR_any _) rfl
        obtain ⟨v_29, ev_29⟩ : ∃ y : Int32, y = x_20 + nI 1 := ⟨_, rfl⟩
        have hv_29 : zR 1 30 v_29 := ev_29 ▸ zR_add f_27 zk_1 (by decide)
        have mv_29 : v_29.toInt = (x_20).toInt + 1 := by rw [ev_29, zR_addE f_27 zk_1 (by decide)]; rfl
        refine lv_iinc (v := v_29) (lv' := [(2, .int (v_29)), (0, .ref (q 12)), (1, .int (pa1)), (3, .int (nI 30))]) hx hb dJ7_fill_53178_14 hl (k := 2) rfl (ev_29 ▸ rfl) (by decide) rfl (fun ls hl => ?_)
        refine lv_goto (tgt := 5) hx hb dJ7_fill_53178_17 (by decide) ?_
        exact ih_24 (v_29) (zR_w hv_29 (by decide)) _ hI_28 (z2_up mv_29 (by decide) hN_23) _ _ hP hD hS _ (lv_sub hl [1, 2, 0, 3] rfl)
  exact loop_22 _ (nI 0) (zR_w zk_0 (by decide)) _ hI (Nat.lt_succ_self _) _ _ hP hD hS _ (lv_sub hl [2, 3, 1, 0] rfl)
set_option maxHeartbeats 4000000 in
set_option maxRecDepth 100000 in
theorem xk_X2_clear (l : Launch) (D : va_G) (q : Nat → Nat) (cA : Nat → ClassId) (F : Nat → Nat → Int32) (I R : Nat → Nat → Int32) (J : Nat → Nat → Int64) (hI : xInv F (I, R, J))  : zMv l D vwCl (zXtys cA) 81 q (zXd q cA) yX2_clear cX2_clear 1 none ({ frames := 1, cells := 0, slots := 0, locals := 23 } : Room) [.ref (q 8)] (I, R, J) (fun u => xInv F u) := by
  intro sz
  refine z_body (by decide +kernel) (Nat.le_of_ble_eq_true rfl) (fun p e s m below meth c ls hx hb hml hr ht hown hlocks hsz hK hP hD hS hl => ?_)
  have hA : ∀ a, s.heap.size ≤ a → zA 81 q sz a := fun a h => Or.inr (hsz ▸ h)
  have hl : lv_has ls 1 [(0, .ref (q 8))] := hl
  refine lv_aload_n hx hb dX2_clear_0 rfl (lv_at hl 0 rfl) ?_
  refine lv_iconst (v := nI 0) hx hb dX2_clear_1 (by decide +kernel) ?_
  refine z_putI hx hb ht hown hK hP hD hS ziX2 tyX2 tyX2_ok nmX2 rfl 8 (by decide) 0 (by decide) hw_1_67 rfl (v := nI 0) rfl rfl rfl (Nat.le_of_ble_eq_true rfl) rfl dX2_clear_2 (fun H locs hP hD hS => ?_)
  have hI_1 := xInv_I hI 8 0 (nI 0) (zR_any (nI 0)) rfl
  refine lv_aload_n hx hb dX2_clear_5 rfl (lv_at hl 0 rfl) ?_
  refine lv_iconst (v := nI 0) hx hb dX2_clear_6 (by decide +kernel) ?_
  refine z_putI hx hb ht hown hK hP hD hS ziX2 tyX2 tyX2_ok nmX2 rfl 8 (by decide) 1 (by decide) hw_1_70 rfl (v := nI 0) rfl rfl rfl (Nat.le_of_ble_eq_true rfl) rfl dX2_clear_7 (fun H locs hP hD hS => ?_)
  have hI_2 := xInv_I hI_1 8 1 (nI 0) (zR_any (nI 0)) rfl
  refine lv_aload_n hx hb dX2_clear_10 rfl (lv_at hl 0 rfl) ?_
  refine lv_iconst (v := nI 0) hx hb dX2_clear_11 (by decide +kernel) ?_
  refine z_putI hx hb ht hown hK hP hD hS ziX2 tyX2 tyX2_ok nmX2 rfl 8 (by decide) 2 (by decide) hw_1_74 rfl (v := nI 0) rfl rfl rfl (Nat.le_of_ble_eq_true rfl) rfl dX2_clear_12 (fun H locs hP hD hS => ?_)
  have hI_3 := xInv_I hI_2 8 2 (nI 0) (zR_any (nI 0)) rfl
  refine lv_aload_n hx hb dX2_clear_15 rfl (lv_at hl 0 rfl) ?_
  refine lv_iconst (v := nI 0) hx hb dX2_clear_16 (by decide +kernel) ?_
  refine z_putI hx hb ht hown hK hP hD hS ziX2 tyX2 tyX2_ok nmX2 rfl 8 (by decide) 3 (by decide) hw_1_78 rfl (v := nI 0) rfl rfl rfl (Nat.le_of_ble_eq_true rfl) rfl dX2_clear_17 (fun H locs hP hD hS => ?_)
  have hI_4 := xInv_I hI_3 8 3 (nI 0) (zR_any (nI 0)) rfl
  refine lv_aload_n hx hb dX2_clear_20 rfl (lv_at hl 0 rfl) ?_
  refine lv_iconst (v := nI 0) hx hb dX2_clear_21 (by decide +kernel) ?_
  refine z_putI hx hb ht hown hK hP hD hS ziX2 tyX2 tyX2_ok nmX2 rfl 8 (by decide) 4 (by decide) hw_1_81 rfl (v := nI 0) rfl rfl rfl (Nat.le_of_ble_eq_true rfl) rfl dX2_clear_22 (fun H locs hP hD hS => ?_)
  have hI_5 := xInv_I hI_4 8 4 (nI 0) (zR_w zk_0 (by decide)) rfl
  refine lv_aload_n hx hb dX2_clear_25 rfl (lv_at hl 0 rfl) ?_
  refine lv_iconst (v := nI 0) hx hb dX2_clear_26 (by decide +kernel) ?_
  refine z_putI hx hb ht hown hK hP hD hS ziX2 tyX2 tyX2_ok nmX2 rfl 8 (by decide) 5 (by decide) hw_1_87 rfl (v := nI 0) rfl rfl rfl (Nat.le_of_ble_eq_true rfl) rfl dX2_clear_27 (fun H locs hP hD hS => ?_)
  have hI_6 := xInv_I hI_5 8 5 (nI 0) (zR_w zk_0 (by decide)) rfl
  refine lv_aload_n hx hb dX2_clear_30 rfl (lv_at hl 0 rfl) ?_
  refine lv_iconst (v := nI 0) hx hb dX2_clear_31 (by decide +kernel) ?_
  refine z_putI hx hb ht hown hK hP hD hS ziX2 tyX2 tyX2_ok nmX2 rfl 8 (by decide) 6 (by decide) hw_1_95 rfl (v := nI 0) rfl rfl rfl (Nat.le_of_ble_eq_true rfl) rfl dX2_clear_32 (fun H locs hP hD hS => ?_)
  have hI_7 := xInv_I hI_6 8 6 (nI 0) (zR_any (nI 0)) rfl
  refine lv_aload_n hx hb dX2_clear_35 rfl (lv_at hl 0 rfl) ?_
  refine z_get hx hb ht hown hK hP ziX2 rfl 8 (by decide) 10 (by decide) hw_1_109 rfl (v := .ref (q 12)) rfl dX2_clear_36 ?_
  refine lv_iconst (v := nI 0) hx hb dX2_clear_39 (by decide +kernel) ?_
  refine z_callSv (As := [.ref (q 12), .int (nI 0)]) (rest := []) hx hb hml hown ht (xk_J7_fill_53178 l D q cA F _ _ _ hI_7 (nI 0) (zR_w zk_0 (by decide))) hw_2_158 hmJ7_fill_53178 ⟨rfl, rfl⟩ (na := 2) rfl (by decide +kernel) (by decide) hK hP hD hS hA hl.1 rfl (Nat.le_of_ble_eq_true rfl) ⟨Nat.zero_le _, Nat.zero_le _⟩ dX2_clear_40 (fun I_8 R_8 J_8 H locs hp_8 hP hD hS _ _ => ?_)
  exact z_vret hx hb hr hlocks hP hD hS dX2_clear_43 hp_8
set_option maxHeartbeats 4000000 in
set_option maxRecDepth 100000 in
theorem xk_X7_isBlank (l : Launch) (D : va_G) (q : Nat → Nat) (cA : Nat → ClassId) (F : Nat → Nat → Int32) (I R : Nat → Nat → Int32) (J : Nat → Nat → Int64) (hI : xInv F (I, R, J)) (pa0 : Int32) : zMi l D vwCl (zXtys cA) 81 q (zXd q cA) yX7_isBlank cX7_isBlank 1 (some .boolean) ({ frames := 0, cells := 0, slots := 0, locals := 0 } : Room) [.int (pa0)] (I, R, J) (fun r u => (r = nI 1 ∧ u = (I, R, J) ∧ zR 10 32 pa0) ∨ (r = nI 0 ∧ u = (I, R, J))) := by
  intro sz
  refine z_body (by decide +kernel) (Nat.le_of_ble_eq_true rfl) (fun p e s m below meth c ls hx hb hml hr ht hown hlocks hsz hK hP hD hS hl => ?_)
  have hA : ∀ a, s.heap.size ≤ a → zA 81 q sz a := fun a h => Or.inr (hsz ▸ h)
  have hl : lv_has ls 1 [(0, .int (pa0))] := hl
  refine lv_iload_n hx hb dX7_isBlank_0 rfl (lv_at hl 0 rfl) ?_
  refine lv_bipush (v := nI 32) hx hb dX7_isBlank_1 (by decide +kernel) ?_
  refine lv_icmp_eq (tgt := 12) hx hb dX7_isBlank_3 (by decide) (fun c_1 => ?_) (fun c_1 => ?_)
  · have t_c_1 := z_eqT c_1
    have f_2 : zR 32 32 (pa0) := zR_eqx t_c_1 zk_32
    refine lv_iconst (v := nI 1) hx hb dX7_isBlank_12 (by decide +kernel) ?_
    refine lv_goto (tgt := 17) hx hb dX7_isBlank_13 (by decide) ?_
    exact z_zret (v := nI 1) hx hb hr hlocks hP hD hS (by decide +kernel) dX7_isBlank_17 (Or.inl ⟨rfl, rfl, (zR_w f_2 (by decide))⟩)
  · have t_c_1 := z_eqF c_1
    refine lv_iload_n hx hb dX7_isBlank_6 rfl (lv_at hl 0 rfl) ?_
    refine lv_bipush (v := nI 10) hx hb dX7_isBlank_7 (by decide +kernel) ?_
    refine lv_icmp_ne (tgt := 16) hx hb dX7_isBlank_9 (by decide) (fun c_3 => ?_) (fun c_3 => ?_)
    · have t_c_3 := z_eqF c_3
      refine lv_iconst (v := nI 0) hx hb dX7_isBlank_16 (by decide +kernel) ?_
      exact z_zret (v := nI 0) hx hb hr hlocks hP hD hS (by decide +kernel) dX7_isBlank_17 (Or.inr ⟨rfl, rfl⟩)
    · have t_c_3 := z_eqT c_3
      have f_4 : zR 10 10 (pa0) := zR_eqx t_c_3 zk_10
      refine lv_iconst (v := nI 1) hx hb dX7_isBlank_12 (by decide +kernel) ?_
      refine lv_goto (tgt := 17) hx hb dX7_isBlank_13 (by decide) ?_
      exact z_zret (v := nI 1) hx hb hr hlocks hP hD hS (by decide +kernel) dX7_isBlank_17 (Or.inl ⟨rfl, rfl, (zR_w f_4 (by decide))⟩)
set_option maxHeartbeats 4000000 in
set_option maxRecDepth 100000 in
theorem xk_X7_isLetter (l : Launch) (D : va_G) (q : Nat → Nat) (cA : Nat → ClassId) (F : Nat → Nat → Int32) (I R : Nat → Nat → Int32) (J : Nat → Nat → Int64) (hI : xInv F (I, R, J)) (pa0 : Int32) : zMi l D vwCl (zXtys cA) 81 q (zXd q cA) yX7_isLetter cX7_isLetter 1 (some .boolean) ({ frames := 0, cells := 0, slots := 0, locals := 0 } : Room) [.int (pa0)] (I, R, J) (fun r u => (r = nI 1 ∧ u = (I, R, J) ∧ zR 97 122 pa0) ∨ (r = nI 0 ∧ u = (I, R, J) ∧ (pa0.toInt < 97 ∨ 122 < pa0.toInt))) := by
  intro sz
  refine z_body (by decide +kernel) (Nat.le_of_ble_eq_true rfl) (fun p e s m below meth c ls hx hb hml hr ht hown hlocks hsz hK hP hD hS hl => ?_)
  have hA : ∀ a, s.heap.size ≤ a → zA 81 q sz a := fun a h => Or.inr (hsz ▸ h)
  have hl : lv_has ls 1 [(0, .int (pa0))] := hl
  refine lv_iload_n hx hb dX7_isLetter_0 rfl (lv_at hl 0 rfl) ?_
  refine lv_bipush (v := nI 97) hx hb dX7_isLetter_1 (by decide +kernel) ?_
  refine lv_icmp_lt (tgt := 16) hx hb dX7_isLetter_3 (by decide) (fun c_1 => ?_) (fun c_1 => ?_)
  · have t_c_1 := z_ltT c_1
    have f_2 : zR (-2147483648) 96 (pa0) := zR_ltx t_c_1 (zR_any (pa0)) zk_97 (by decide)
    refine lv_iconst (v := nI 0) hx hb dX7_isLetter_16 (by decide +kernel) ?_
    exact z_zret (v := nI 0) hx hb hr hlocks hP hD hS (by decide +kernel) dX7_isLetter_17 (Or.inr ⟨rfl, rfl, (Or.inl (Int.lt_of_le_of_lt f_2.2 (by decide)))⟩)
  · have t_c_1 := z_ltF c_1
    have f_3 : zR 97 2147483647 (pa0) := zR_ley t_c_1 zk_97 (zR_any (pa0)) (by decide)
    refine lv_iload_n hx hb dX7_isLetter_6 rfl (lv_at hl 0 rfl) ?_
    refine lv_bipush (v := nI 122) hx hb dX7_isLetter_7 (by decide +kernel) ?_
    refine lv_icmp_gt (tgt := 16) hx hb dX7_isLetter_9 (by decide) (fun c_4 => ?_) (fun c_4 => ?_)
    · have t_c_4 := z_ltT c_4
      have f_5 : zR 123 2147483647 (pa0) := zR_lty t_c_4 zk_122 f_3 (by decide)
      refine lv_iconst (v := nI 0) hx hb dX7_isLetter_16 (by decide +kernel) ?_
      exact z_zret (v := nI 0) hx hb hr hlocks hP hD hS (by decide +kernel) dX7_isLetter_17 (Or.inr ⟨rfl, rfl, (Or.inr (Int.lt_of_lt_of_le (by decide) f_5.1))⟩)
    · have t_c_4 := z_ltF c_4
      have f_6 : zR 97 122 (pa0) := zR_lex t_c_4 f_3 zk_122 (by decide)
      refine lv_iconst (v := nI 1) hx hb dX7_isLetter_12 (by decide +kernel) ?_
      refine lv_goto (tgt := 17) hx hb dX7_isLetter_13 (by decide) ?_
      exact z_zret (v := nI 1) hx hb hr hlocks hP hD hS (by decide +kernel) dX7_isLetter_17 (Or.inl ⟨rfl, rfl, f_6⟩)
set_option maxHeartbeats 4000000 in
set_option maxRecDepth 100000 in
theorem xk_X7_isDigit (l : Launch) (D : va_G) (q : Nat → Nat) (cA : Nat → ClassId) (F : Nat → Nat → Int32) (I R : Nat → Nat → Int32) (J : Nat → Nat → Int64) (hI : xInv F (I, R, J)) (pa0 : Int32) : zMi l D vwCl (zXtys cA) 81 q (zXd q cA) yX7_isDigit cX7_isDigit 1 (some .boolean) ({ frames := 0, cells := 0, slots := 0, locals := 0 } : Room) [.int (pa0)] (I, R, J) (fun r u => (r = nI 1 ∧ u = (I, R, J) ∧ zR 48 57 pa0) ∨ (r = nI 0 ∧ u = (I, R, J) ∧ (pa0.toInt < 48 ∨ 57 < pa0.toInt))) := by
  intro sz
  refine z_body (by decide +kernel) (Nat.le_of_ble_eq_true rfl) (fun p e s m below meth c ls hx hb hml hr ht hown hlocks hsz hK hP hD hS hl => ?_)
  have hA : ∀ a, s.heap.size ≤ a → zA 81 q sz a := fun a h => Or.inr (hsz ▸ h)
  have hl : lv_has ls 1 [(0, .int (pa0))] := hl
  refine lv_iload_n hx hb dX7_isDigit_0 rfl (lv_at hl 0 rfl) ?_
  refine lv_bipush (v := nI 48) hx hb dX7_isDigit_1 (by decide +kernel) ?_
  refine lv_icmp_lt (tgt := 16) hx hb dX7_isDigit_3 (by decide) (fun c_1 => ?_) (fun c_1 => ?_)
  · have t_c_1 := z_ltT c_1
    have f_2 : zR (-2147483648) 47 (pa0) := zR_ltx t_c_1 (zR_any (pa0)) zk_48 (by decide)
    refine lv_iconst (v := nI 0) hx hb dX7_isDigit_16 (by decide +kernel) ?_
    exact z_zret (v := nI 0) hx hb hr hlocks hP hD hS (by decide +kernel) dX7_isDigit_17 (Or.inr ⟨rfl, rfl, (Or.inl (Int.lt_of_le_of_lt f_2.2 (by decide)))⟩)
  · have t_c_1 := z_ltF c_1
    have f_3 : zR 48 2147483647 (pa0) := zR_ley t_c_1 zk_48 (zR_any (pa0)) (by decide)
    refine lv_iload_n hx hb dX7_isDigit_6 rfl (lv_at hl 0 rfl) ?_
    refine lv_bipush (v := nI 57) hx hb dX7_isDigit_7 (by decide +kernel) ?_
    refine lv_icmp_gt (tgt := 16) hx hb dX7_isDigit_9 (by decide) (fun c_4 => ?_) (fun c_4 => ?_)
    · have t_c_4 := z_ltT c_4
      have f_5 : zR 58 2147483647 (pa0) := zR_lty t_c_4 zk_57 f_3 (by decide)
      refine lv_iconst (v := nI 0) hx hb dX7_isDigit_16 (by decide +kernel) ?_
      exact z_zret (v := nI 0) hx hb hr hlocks hP hD hS (by decide +kernel) dX7_isDigit_17 (Or.inr ⟨rfl, rfl, (Or.inr (Int.lt_of_lt_of_le (by decide) f_5.1))⟩)
    · have t_c_4 := z_ltF c_4
      have f_6 : zR 48 57 (pa0) := zR_lex t_c_4 f_3 zk_57 (by decide)
      refine lv_iconst (v := nI 1) hx hb dX7_isDigit_12 (by decide +kernel) ?_
      refine lv_goto (tgt := 17) hx hb dX7_isDigit_13 (by decide) ?_
      exact z_zret (v := nI 1) hx hb hr hlocks hP hD hS (by decide +kernel) dX7_isDigit_17 (Or.inl ⟨rfl, rfl, f_6⟩)
set_option maxHeartbeats 4000000 in
set_option maxRecDepth 100000 in
theorem xk_X7_step (l : Launch) (D : va_G) (q : Nat → Nat) (cA : Nat → ClassId) (F : Nat → Nat → Int32) (I R : Nat → Nat → Int32) (J : Nat → Nat → Int64) (hI : xInv F (I, R, J))  : zMv l D vwCl (zXtys cA) 81 q (zXd q cA) yX7_step cX7_step 1 none ({ frames := 1, cells := 0, slots := 0, locals := 20 } : Room) [.ref (q 1)] (I, R, J) (fun u => (xInv F u ∧ (∀ k, k ≠ 1 → u.1 k = I k) ∧ u.2 = (R, J))) := by
  intro sz
  refine z_body (by decide +kernel) (Nat.le_of_ble_eq_true rfl) (fun p e s m below meth c ls hx hb hml hr ht hown hlocks hsz hK hP hD hS hl => ?_)
  have hA : ∀ a, s.heap.size ≤ a → zA 81 q sz a := fun a h => Or.inr (hsz ▸ h)
  have hl : lv_has ls 1 [(0, .ref (q 1))] := hl
  have t_21 : ∀ I_20 : Nat → Nat → Int32, xInv F (I_20, R, J) → (∀ k, k ≠ 1 → I_20 k = I k) → ∀ (H : Heap) (locs : List Loc), va_P D vwCl (zw 81 q (zXd q cA) I_20 R J) H → va_D (zA 81 q sz) (zw 81 q (zXd q cA) I_20 R J) → va_S (zA 81 q sz) s.heap H locs → ∀ ls : Array Slot, lv_has ls 1 [(0, .ref (q 1))] → W p l e ({ frames := 1, cells := 0, slots := 0, locals := 20 } : Room) s m ([.ref (q 1)] : List Value).toArray below meth c H locs 0 0 (MQ below (va_Qv (fun u => (xInv F u ∧ (∀ k, k ≠ 1 → u.1 k = I k) ∧ u.2 = (R, J))) (zB D vwCl 81 q (zXd q cA) sz) (zA 81 q sz)) ([.ref (q 1)] : List Value).toArray s 0 0 (zA 81 q sz)) (F0 m 39 ls []) := by
    intro I_20 hI_20 hf_20 H locs hP hD hS ls hl
    refine lv_aload_n hx hb dX7_step_39 rfl (lv_at hl 0 rfl) ?_
    refine lv_aload_n hx hb dX7_step_40 rfl (lv_at hl 0 rfl) ?_
    refine z_get hx hb ht hown hK hP ziX7 rfl 1 (by decide) 6 (by decide) hw_1_44 rfl (v := .int (I_20 1 6)) rfl dX7_step_41 ?_
    have f_22 : zR 0 800 (I_20 1 6) := xI hI_20 1 6
    refine z_putI hx hb ht hown hK hP hD hS ziX7 tyX7 tyX7_ok nmX7 rfl 1 (by decide) 5 (by decide) hw_1_43 rfl (v := I_20 1 6) rfl rfl rfl (Nat.le_of_ble_eq_true rfl) rfl dX7_step_44 (fun H locs hP hD hS => ?_)
    have hI_23 := xInv_I hI_20 1 5 (I_20 1 6) f_22 rfl
    have hf_24 : ∀ k, k ≠ 1 → (zp I_20 1 5 (I_20 1 6)) k = I k := fun k h => (zp_nk h).trans (hf_20 k h)
    refine lv_aload_n hx hb dX7_step_47 rfl (lv_at hl 0 rfl) ?_
    refine z_get hx hb ht hown hK hP ziX7 rfl 1 (by decide) 6 (by decide) hw_1_44 rfl (v := .int (I_20 1 6)) rfl dX7_step_48 ?_
    refine lv_aload_n hx hb dX7_step_51 rfl (lv_at hl 0 rfl) ?_
    refine z_get hx hb ht hown hK hP ziX7 rfl 1 (by decide) 1 (by decide) hw_1_36 rfl (v := .int (I_20 1 1)) rfl dX7_step_52 ?_
    have f_25 : zR 0 800 (I_20 1 1) := xI hI_20 1 1
    refine lv_icmp_lt (tgt := 66) hx hb dX7_step_55 (by decide) (fun c_26 => ?_) (fun c_26 => ?_)
    · have t_c_26 := z_ltT c_26
      have f_27 : zR 0 799 (I_20 1 6) := zR_ltx t_c_26 f_22 f_25 (by decide)
      have f_28 : zR 1 800 (I_20 1 1) := zR_lty t_c_26 f_22 f_25 (by decide)
      refine lv_aload_n hx hb dX7_step_66 rfl (lv_at hl 0 rfl) ?_
      refine z_get hx hb ht hown hK hP ziX7 rfl 1 (by decide) 0 (by decide) hw_1_35 rfl (v := .ref (q 2)) rfl dX7_step_67 ?_
      refine lv_aload_n hx hb dX7_step_70 rfl (lv_at hl 0 rfl) ?_
      refine z_get hx hb ht hown hK hP ziX7 rfl 1 (by decide) 6 (by decide) hw_1_44 rfl (v := .int (I_20 1 6)) rfl dX7_step_71 ?_
      refine z_bald hx hb hK hP 2 (by decide) 0 rfl rfl (zR_vin f_27 (by decide)) dX7_step_74 ?_
      refine z_eqi (y := R 2 (I_20 1 6).toNatClampNeg) rfl ?_
      refine z_callSi (As := [.int (R 2 (I_20 1 6).toNatClampNeg)]) (rest := []) hx hb hml hown ht (xk_X7_isLetter l D q cA F _ _ _ hI_23 (R 2 (I_20 1 6).toNatClampNeg)) hw_2_168 hmX7_isLetter ⟨rfl, rfl⟩ (na := 1) rfl (by decide +kernel) (by decide) hK hP hD hS hA hl.1 rfl (Nat.le_of_ble_eq_true rfl) ⟨Nat.zero_le _, Nat.zero_le _⟩ dX7_step_75 (fun r_29 I_29 R_29 J_29 H locs hp_29 hP hD hS _ _ => ?_)
      rcases hp_29 with ⟨rfl, hu_29, f0_29⟩ | ⟨rfl, hu_29, nn_29⟩
      · cases hu_29
        refine lv_if_eq (tgt := 125) hx hb dX7_step_78 (by decide) (fun c_0 => absurd c_0 (zD_ne zk_1 zk_z (by decide))) (fun _ => ?_)
        refine lv_aload_n hx hb dX7_step_81 rfl (lv_at hl 0 rfl) ?_
        refine lv_iconst (v := nI 1) hx hb dX7_step_82 (by decide +kernel) ?_
        refine z_putI hx hb ht hown hK hP hD hS ziX7 tyX7 tyX7_ok nmX7 rfl 1 (by decide) 4 (by decide) hw_1_42 rfl (v := nI 1) rfl rfl rfl (Nat.le_of_ble_eq_true rfl) rfl dX7_step_83 (fun H locs hP hD hS => ?_)
        have hI_30 := xInv_I hI_23 1 4 (nI 1) (zR_any (nI 1)) rfl
        have hf_31 : ∀ k, k ≠ 1 → (zp (zp I_20 1 5 (I_20 1 6)) 1 4 (nI 1)) k = I k := fun k h => (zp_nk h).trans (hf_24 k h)
        have t_50 : ∀ I_49 : Nat → Nat → Int32, xInv F (I_49, R, J) → (∀ k, k ≠ 1 → I_49 k = I k) → ∀ (H : Heap) (locs : List Loc), va_P D vwCl (zw 81 q (zXd q cA) I_49 R J) H → va_D (zA 81 q sz) (zw 81 q (zXd q cA) I_49 R J) → va_S (zA 81 q sz) s.heap H locs → ∀ ls : Array Slot, lv_has ls 1 [(0, .ref (q 1))] → W p l e ({ frames := 1, cells := 0, slots := 0, locals := 20 } : Room) s m ([.ref (q 1)] : List Value).toArray below meth c H locs 0 0 (MQ below (va_Qv (fun u => (xInv F u ∧ (∀ k, k ≠ 1 → u.1 k = I k) ∧ u.2 = (R, J))) (zB D vwCl 81 q (zXd q cA) sz) (zA 81 q sz)) ([.ref (q 1)] : List Value).toArray s 0 0 (zA 81 q sz)) (F0 m 217 ls []) := by
          intro I_49 hI_49 hf_49 H locs hP hD hS ls hl
          exact z_vret hx hb hr hlocks hP hD hS dX7_step_217 ⟨hI_49, hf_49, rfl⟩
        have loop_52 : ∀ N : Nat, ∀ I_51 : Nat → Nat → Int32, xInv F (I_51, R, J) → (∀ k, k ≠ 1 → I_51 k = I k) → (2147483648 - (I_51 1 6).toInt).toNat < N → ∀ (H : Heap) (locs : List Loc), va_P D vwCl (zw 81 q (zXd q cA) I_51 R J) H → va_D (zA 81 q sz) (zw 81 q (zXd q cA) I_51 R J) → va_S (zA 81 q sz) s.heap H locs → ∀ ls : Array Slot, lv_has ls 1 [(0, .ref (q 1))] → W p l e ({ frames := 1, cells := 0, slots := 0, locals := 20 } : Room) s m ([.ref (q 1)] : List Value).toArray below meth c H locs 0 0 (MQ below (va_Qv (fun u => (xInv F u ∧ (∀ k, k ≠ 1 → u.1 k = I k) ∧ u.2 = (R, J))) (zB D vwCl 81 q (zXd q cA) sz) (zA 81 q sz)) ([.ref (q 1)] : List Value).toArray s 0 0 (zA 81 q sz)) (F0 m 86 ls []) := by
          intro N
          induction N with
          | zero => intro I_51 hI_51 hf_51 hN; exact absurd hN (Nat.not_lt_zero _)
          | succ N ih_54 =>
            intro I_51 hI_51 hf_51 hN_53 H locs hP hD hS ls hl
            refine lv_aload_n hx hb dX7_step_86 rfl (lv_at hl 0 rfl) ?_
            refine z_get hx hb ht hown hK hP ziX7 rfl 1 (by decide) 6 (by decide) hw_1_44 rfl (v := .int (I_51 1 6)) rfl dX7_step_87 ?_
            have f_55 : zR 0 800 (I_51 1 6) := xI hI_51 1 6
            refine lv_aload_n hx hb dX7_step_90 rfl (lv_at hl 0 rfl) ?_
            refine z_get hx hb ht hown hK hP ziX7 rfl 1 (by decide) 1 (by decide) hw_1_36 rfl (v := .int (I_51 1 1)) rfl dX7_step_91 ?_
            have f_56 : zR 0 800 (I_51 1 1) := xI hI_51 1 1
            refine lv_icmp_ge (tgt := 217) hx hb dX7_step_94 (by decide) (fun c_57 => ?_) (fun c_57 => ?_)
            · have t_c_57 := z_leT c_57
              exact t_50 _ hI_51 hf_51 _ _ hP hD hS _ (lv_sub hl [0] rfl)
            · have t_c_57 := z_leF c_57
              have f_58 : zR 0 799 (I_51 1 6) := zR_ltx t_c_57 f_55 f_56 (by decide)
              have f_59 : zR 1 800 (I_51 1 1) := zR_lty t_c_57 f_55 f_56 (by decide)
              refine lv_aload_n hx hb dX7_step_97 rfl (lv_at hl 0 rfl) ?_
              refine z_get hx hb ht hown hK hP ziX7 rfl 1 (by decide) 0 (by decide) hw_1_35 rfl (v := .ref (q 2)) rfl dX7_step_98 ?_
              refine lv_aload_n hx hb dX7_step_101 rfl (lv_at hl 0 rfl) ?_
              refine z_get hx hb ht hown hK hP ziX7 rfl 1 (by decide) 6 (by decide) hw_1_44 rfl (v := .int (I_51 1 6)) rfl dX7_step_102 ?_
              refine z_bald hx hb hK hP 2 (by decide) 0 rfl rfl (zR_vin f_58 (by decide)) dX7_step_105 ?_
              refine z_eqi (y := R 2 (I_51 1 6).toNatClampNeg) rfl ?_
              refine z_callSi (As := [.int (R 2 (I_51 1 6).toNatClampNeg)]) (rest := []) hx hb hml hown ht (xk_X7_isLetter l D q cA F _ _ _ hI_51 (R 2 (I_51 1 6).toNatClampNeg)) hw_2_168 hmX7_isLetter ⟨rfl, rfl⟩ (na := 1) rfl (by decide +kernel) (by decide) hK hP hD hS hA hl.1 rfl (Nat.le_of_ble_eq_true rfl) ⟨Nat.zero_le _, Nat.zero_le _⟩ dX7_step_106 (fun r_60 I_60 R_60 J_60 H locs hp_60 hP hD hS _ _ => ?_)
              rcases hp_60 with ⟨rfl, hu_60, f0_60⟩ | ⟨rfl, hu_60, nn_60⟩
              · cases hu_60
                refine lv_if_eq (tgt := 217) hx hb dX7_step_109 (by decide) (fun c_0 => absurd c_0 (zD_ne zk_1 zk_z (by decide))) (fun _ => ?_)
                refine lv_aload_n hx hb dX7_step_112 rfl (lv_at hl 0 rfl) ?_
                refine lv_dup hx hb dX7_step_113 rfl ?_
                refine z_get hx hb ht hown hK hP ziX7 rfl 1 (by decide) 6 (by decide) hw_1_44 rfl (v := .int (I_51 1 6)) rfl dX7_step_114 ?_
                refine lv_iconst (v := nI 1) hx hb dX7_step_117 (by decide +kernel) ?_
                refine lv_iadd hx hb dX7_step_118 ?_
                refine z_addc 1 800 f_58 zk_1 (by decide) (fun v_61 hv_61 mv_61 => ?_)
                refine z_putI hx hb ht hown hK hP hD hS ziX7 tyX7 tyX7_ok nmX7 rfl 1 (by decide) 6 (by decide) hw_1_44 rfl (v := v_61) rfl rfl rfl (Nat.le_of_ble_eq_true rfl) rfl dX7_step_119 (fun H locs hP hD hS => ?_)
                have hI_62 := xInv_I hI_51 1 6 (v_61) (zR_w hv_61 (by decide)) rfl
                have hf_63 : ∀ k, k ≠ 1 → (zp I_51 1 6 (v_61)) k = I k := fun k h => (zp_nk h).trans (hf_51 k h)
                refine lv_goto (tgt := 86) hx hb dX7_step_122 (by decide) ?_
                exact ih_54 _ hI_62 hf_63 (z2_up mv_61 (by decide) hN_53) _ _ hP hD hS _ (lv_sub hl [0] rfl)
              · cases hu_60
                refine lv_if_eq (tgt := 217) hx hb dX7_step_109 (by decide) (fun _ => ?_) (fun c_0 => absurd (zD_eq zk_0 zk_z) c_0)
                exact t_50 _ hI_51 hf_51 _ _ hP hD hS _ (lv_sub hl [0] rfl)
        exact loop_52 _ _ hI_30 hf_31 (Nat.lt_succ_self _) _ _ hP hD hS _ (lv_sub hl [0] rfl)
      · cases hu_29
        refine lv_if_eq (tgt := 125) hx hb dX7_step_78 (by decide) (fun _ => ?_) (fun c_0 => absurd (zD_eq zk_0 zk_z) c_0)
        refine lv_aload_n hx hb dX7_step_125 rfl (lv_at hl 0 rfl) ?_
        refine z_get hx hb ht hown hK hP ziX7 rfl 1 (by decide) 0 (by decide) hw_1_35 rfl (v := .ref (q 2)) rfl dX7_step_126 ?_
        refine lv_aload_n hx hb dX7_step_129 rfl (lv_at hl 0 rfl) ?_
        refine z_get hx hb ht hown hK hP ziX7 rfl 1 (by decide) 6 (by decide) hw_1_44 rfl (v := .int (I_20 1 6)) rfl dX7_step_130 ?_
        refine z_bald hx hb hK hP 2 (by decide) 0 rfl rfl (zR_vin f_27 (by decide)) dX7_step_133 ?_
        refine z_eqi (y := R 2 (I_20 1 6).toNatClampNeg) rfl ?_
        refine z_callSi (As := [.int (R 2 (I_20 1 6).toNatClampNeg)]) (rest := []) hx hb hml hown ht (xk_X7_isDigit l D q cA F _ _ _ hI_23 (R 2 (I_20 1 6).toNatClampNeg)) hw_2_171 hmX7_isDigit ⟨rfl, rfl⟩ (na := 1) rfl (by decide +kernel) (by decide) hK hP hD hS hA hl.1 rfl (Nat.le_of_ble_eq_true rfl) ⟨Nat.zero_le _, Nat.zero_le _⟩ dX7_step_134 (fun r_64 I_64 R_64 J_64 H locs hp_64 hP hD hS _ _ => ?_)
        rcases hp_64 with ⟨rfl, hu_64, f0_64⟩ | ⟨rfl, hu_64, nn_64⟩
        · cases hu_64
          refine lv_if_eq (tgt := 184) hx hb dX7_step_137 (by decide) (fun c_0 => absurd c_0 (zD_ne zk_1 zk_z (by decide))) (fun _ => ?_)
          refine lv_aload_n hx hb dX7_step_140 rfl (lv_at hl 0 rfl) ?_
          refine lv_iconst (v := nI 2) hx hb dX7_step_141 (by decide +kernel) ?_
          refine z_putI hx hb ht hown hK hP hD hS ziX7 tyX7 tyX7_ok nmX7 rfl 1 (by decide) 4 (by decide) hw_1_42 rfl (v := nI 2) rfl rfl rfl (Nat.le_of_ble_eq_true rfl) rfl dX7_step_142 (fun H locs hP hD hS => ?_)
          have hI_65 := xInv_I hI_23 1 4 (nI 2) (zR_any (nI 2)) rfl
          have hf_66 : ∀ k, k ≠ 1 → (zp (zp I_20 1 5 (I_20 1 6)) 1 4 (nI 2)) k = I k := fun k h => (zp_nk h).trans (hf_24 k h)
          have t_85 : ∀ I_84 : Nat → Nat → Int32, xInv F (I_84, R, J) → (∀ k, k ≠ 1 → I_84 k = I k) → ∀ (H : Heap) (locs : List Loc), va_P D vwCl (zw 81 q (zXd q cA) I_84 R J) H → va_D (zA 81 q sz) (zw 81 q (zXd q cA) I_84 R J) → va_S (zA 81 q sz) s.heap H locs → ∀ ls : Array Slot, lv_has ls 1 [(0, .ref (q 1))] → W p l e ({ frames := 1, cells := 0, slots := 0, locals := 20 } : Room) s m ([.ref (q 1)] : List Value).toArray below meth c H locs 0 0 (MQ below (va_Qv (fun u => (xInv F u ∧ (∀ k, k ≠ 1 → u.1 k = I k) ∧ u.2 = (R, J))) (zB D vwCl 81 q (zXd q cA) sz) (zA 81 q sz)) ([.ref (q 1)] : List Value).toArray s 0 0 (zA 81 q sz)) (F0 m 217 ls []) := by
            intro I_84 hI_84 hf_84 H locs hP hD hS ls hl
            exact z_vret hx hb hr hlocks hP hD hS dX7_step_217 ⟨hI_84, hf_84, rfl⟩
          have loop_87 : ∀ N : Nat, ∀ I_86 : Nat → Nat → Int32, xInv F (I_86, R, J) → (∀ k, k ≠ 1 → I_86 k = I k) → (2147483648 - (I_86 1 6).toInt).toNat < N → ∀ (H : Heap) (locs : List Loc), va_P D vwCl (zw 81 q (zXd q cA) I_86 R J) H → va_D (zA 81 q sz) (zw 81 q (zXd q cA) I_86 R J) → va_S (zA 81 q sz) s.heap H locs → ∀ ls : Array Slot, lv_has ls 1 [(0, .ref (q 1))] → W p l e ({ frames := 1, cells := 0, slots := 0, locals := 20 } : Room) s m ([.ref (q 1)] : List Value).toArray below meth c H locs 0 0 (MQ below (va_Qv (fun u => (xInv F u ∧ (∀ k, k ≠ 1 → u.1 k = I k) ∧ u.2 = (R, J))) (zB D vwCl 81 q (zXd q cA) sz) (zA 81 q sz)) ([.ref (q 1)] : List Value).toArray s 0 0 (zA 81 q sz)) (F0 m 145 ls []) := by
            intro N
            induction N with
            | zero => intro I_86 hI_86 hf_86 hN; exact absurd hN (Nat.not_lt_zero _)
            | succ N ih_89 =>
              intro I_86 hI_86 hf_86 hN_88 H locs hP hD hS ls hl
              refine lv_aload_n hx hb dX7_step_145 rfl (lv_at hl 0 rfl) ?_
              refine z_get hx hb ht hown hK hP ziX7 rfl 1 (by decide) 6 (by decide) hw_1_44 rfl (v := .int (I_86 1 6)) rfl dX7_step_146 ?_
              have f_90 : zR 0 800 (I_86 1 6) := xI hI_86 1 6
              refine lv_aload_n hx hb dX7_step_149 rfl (lv_at hl 0 rfl) ?_
              refine z_get hx hb ht hown hK hP ziX7 rfl 1 (by decide) 1 (by decide) hw_1_36 rfl (v := .int (I_86 1 1)) rfl dX7_step_150 ?_
              have f_91 : zR 0 800 (I_86 1 1) := xI hI_86 1 1
              refine lv_icmp_ge (tgt := 217) hx hb dX7_step_153 (by decide) (fun c_92 => ?_) (fun c_92 => ?_)
              · have t_c_92 := z_leT c_92
                exact t_85 _ hI_86 hf_86 _ _ hP hD hS _ (lv_sub hl [0] rfl)
              · have t_c_92 := z_leF c_92
                have f_93 : zR 0 799 (I_86 1 6) := zR_ltx t_c_92 f_90 f_91 (by decide)
                have f_94 : zR 1 800 (I_86 1 1) := zR_lty t_c_92 f_90 f_91 (by decide)
                refine lv_aload_n hx hb dX7_step_156 rfl (lv_at hl 0 rfl) ?_
                refine z_get hx hb ht hown hK hP ziX7 rfl 1 (by decide) 0 (by decide) hw_1_35 rfl (v := .ref (q 2)) rfl dX7_step_157 ?_
                refine lv_aload_n hx hb dX7_step_160 rfl (lv_at hl 0 rfl) ?_
                refine z_get hx hb ht hown hK hP ziX7 rfl 1 (by decide) 6 (by decide) hw_1_44 rfl (v := .int (I_86 1 6)) rfl dX7_step_161 ?_
                refine z_bald hx hb hK hP 2 (by decide) 0 rfl rfl (zR_vin f_93 (by decide)) dX7_step_164 ?_
                refine z_eqi (y := R 2 (I_86 1 6).toNatClampNeg) rfl ?_
                refine z_callSi (As := [.int (R 2 (I_86 1 6).toNatClampNeg)]) (rest := []) hx hb hml hown ht (xk_X7_isDigit l D q cA F _ _ _ hI_86 (R 2 (I_86 1 6).toNatClampNeg)) hw_2_171 hmX7_isDigit ⟨rfl, rfl⟩ (na := 1) rfl (by decide +kernel) (by decide) hK hP hD hS hA hl.1 rfl (Nat.le_of_ble_eq_true rfl) ⟨Nat.zero_le _, Nat.zero_le _⟩ dX7_step_165 (fun r_95 I_95 R_95 J_95 H locs hp_95 hP hD hS _ _ => ?_)
                rcases hp_95 with ⟨rfl, hu_95, f0_95⟩ | ⟨rfl, hu_95, nn_95⟩
                · cases hu_95
                  refine lv_if_eq (tgt := 217) hx hb dX7_step_168 (by decide) (fun c_0 => absurd c_0 (zD_ne zk_1 zk_z (by decide))) (fun _ => ?_)
                  refine lv_aload_n hx hb dX7_step_171 rfl (lv_at hl 0 rfl) ?_
                  refine lv_dup hx hb dX7_step_172 rfl ?_
                  refine z_get hx hb ht hown hK hP ziX7 rfl 1 (by decide) 6 (by decide) hw_1_44 rfl (v := .int (I_86 1 6)) rfl dX7_step_173 ?_
                  refine lv_iconst (v := nI 1) hx hb dX7_step_176 (by decide +kernel) ?_
                  refine lv_iadd hx hb dX7_step_177 ?_
                  refine z_addc 1 800 f_93 zk_1 (by decide) (fun v_96 hv_96 mv_96 => ?_)
                  refine z_putI hx hb ht hown hK hP hD hS ziX7 tyX7 tyX7_ok nmX7 rfl 1 (by decide) 6 (by decide) hw_1_44 rfl (v := v_96) rfl rfl rfl (Nat.le_of_ble_eq_true rfl) rfl dX7_step_178 (fun H locs hP hD hS => ?_)
                  have hI_97 := xInv_I hI_86 1 6 (v_96) (zR_w hv_96 (by decide)) rfl
                  have hf_98 : ∀ k, k ≠ 1 → (zp I_86 1 6 (v_96)) k = I k := fun k h => (zp_nk h).trans (hf_86 k h)
                  refine lv_goto (tgt := 145) hx hb dX7_step_181 (by decide) ?_
                  exact ih_89 _ hI_97 hf_98 (z2_up mv_96 (by decide) hN_88) _ _ hP hD hS _ (lv_sub hl [0] rfl)
                · cases hu_95
                  refine lv_if_eq (tgt := 217) hx hb dX7_step_168 (by decide) (fun _ => ?_) (fun c_0 => absurd (zD_eq zk_0 zk_z) c_0)
                  exact t_85 _ hI_86 hf_86 _ _ hP hD hS _ (lv_sub hl [0] rfl)
          exact loop_87 _ _ hI_65 hf_66 (Nat.lt_succ_self _) _ _ hP hD hS _ (lv_sub hl [0] rfl)
        · cases hu_64
          refine lv_if_eq (tgt := 184) hx hb dX7_step_137 (by decide) (fun _ => ?_) (fun c_0 => absurd (zD_eq zk_0 zk_z) c_0)
          refine lv_aload_n hx hb dX7_step_184 rfl (lv_at hl 0 rfl) ?_
          refine lv_aload_n hx hb dX7_step_185 rfl (lv_at hl 0 rfl) ?_
          refine z_get hx hb ht hown hK hP ziX7 rfl 1 (by decide) 0 (by decide) hw_1_35 rfl (v := .ref (q 2)) rfl dX7_step_186 ?_
          refine lv_aload_n hx hb dX7_step_189 rfl (lv_at hl 0 rfl) ?_
          refine z_get hx hb ht hown hK hP ziX7 rfl 1 (by decide) 6 (by decide) hw_1_44 rfl (v := .int (I_20 1 6)) rfl dX7_step_190 ?_
          refine z_bald hx hb hK hP 2 (by decide) 0 rfl rfl (zR_vin f_27 (by decide)) dX7_step_193 ?_
          refine z_eqi (y := R 2 (I_20 1 6).toNatClampNeg) rfl ?_
          refine lv_bipush (v := nI 59) hx hb dX7_step_194 (by decide +kernel) ?_
          have t_102 : ∀ x_101 : Int32, zR 3 4 x_101 → ∀ (H : Heap) (locs : List Loc), va_P D vwCl (zw 81 q (zXd q cA) (zp I_20 1 5 (I_20 1 6)) R J) H → va_D (zA 81 q sz) (zw 81 q (zXd q cA) (zp I_20 1 5 (I_20 1 6)) R J) → va_S (zA 81 q sz) s.heap H locs → ∀ ls : Array Slot, lv_has ls 1 [(0, .ref (q 1))] → W p l e ({ frames := 1, cells := 0, slots := 0, locals := 20 } : Room) s m ([.ref (q 1)] : List Value).toArray below meth c H locs 0 0 (MQ below (va_Qv (fun u => (xInv F u ∧ (∀ k, k ≠ 1 → u.1 k = I k) ∧ u.2 = (R, J))) (zB D vwCl 81 q (zXd q cA) sz) (zA 81 q sz)) ([.ref (q 1)] : List Value).toArray s 0 0 (zA 81 q sz)) (F0 m 204 ls [.int (x_101), .ref (q 1)]) := by
            intro x_101 hx_101 H locs hP hD hS ls hl
            refine z_putI hx hb ht hown hK hP hD hS ziX7 tyX7 tyX7_ok nmX7 rfl 1 (by decide) 4 (by decide) hw_1_42 rfl (v := x_101) rfl rfl rfl (Nat.le_of_ble_eq_true rfl) rfl dX7_step_204 (fun H locs hP hD hS => ?_)
            have hI_103 := xInv_I hI_23 1 4 (x_101) (zR_any (x_101)) rfl
            have hf_104 : ∀ k, k ≠ 1 → (zp (zp I_20 1 5 (I_20 1 6)) 1 4 (x_101)) k = I k := fun k h => (zp_nk h).trans (hf_24 k h)
            refine lv_aload_n hx hb dX7_step_207 rfl (lv_at hl 0 rfl) ?_
            refine lv_dup hx hb dX7_step_208 rfl ?_
            refine z_get hx hb ht hown hK hP ziX7 rfl 1 (by decide) 6 (by decide) hw_1_44 rfl (v := .int (I_20 1 6)) rfl dX7_step_209 ?_
            refine lv_iconst (v := nI 1) hx hb dX7_step_212 (by decide +kernel) ?_
            refine lv_iadd hx hb dX7_step_213 ?_
            refine z_addc 1 800 f_27 zk_1 (by decide) (fun v_105 hv_105 mv_105 => ?_)
            refine z_putI hx hb ht hown hK hP hD hS ziX7 tyX7 tyX7_ok nmX7 rfl 1 (by decide) 6 (by decide) hw_1_44 rfl (v := v_105) rfl rfl rfl (Nat.le_of_ble_eq_true rfl) rfl dX7_step_214 (fun H locs hP hD hS => ?_)
            have hI_106 := xInv_I hI_103 1 6 (v_105) (zR_w hv_105 (by decide)) rfl
            have hf_107 : ∀ k, k ≠ 1 → (zp (zp (zp I_20 1 5 (I_20 1 6)) 1 4 (x_101)) 1 6 (v_105)) k = I k := fun k h => (zp_nk h).trans (hf_104 k h)
            exact z_vret hx hb hr hlocks hP hD hS dX7_step_217 ⟨hI_106, hf_107, rfl⟩
          refine lv_icmp_ne (tgt := 203) hx hb dX7_step_196 (by decide) (fun c_99 => ?_) (fun c_99 => ?_)
          · have t_c_99 := z_eqF c_99
            refine lv_iconst (v := nI 4) hx hb dX7_step_203 (by decide +kernel) ?_
            exact t_102 (nI 4) (zR_w zk_4 (by decide)) _ _ hP hD hS _ (lv_sub hl [0] rfl)
          · have t_c_99 := z_eqT c_99
            have f_108 : zR 59 59 (R 2 (I_20 1 6).toNatClampNeg) := zR_eqx t_c_99 zk_59
            refine lv_iconst (v := nI 3) hx hb dX7_step_199 (by decide +kernel) ?_
            refine lv_goto (tgt := 204) hx hb dX7_step_200 (by decide) ?_
            exact t_102 (nI 3) (zR_w zk_3 (by decide)) _ _ hP hD hS _ (lv_sub hl [0] rfl)
    · have t_c_26 := z_ltF c_26
      refine lv_aload_n hx hb dX7_step_58 rfl (lv_at hl 0 rfl) ?_
      refine lv_iconst (v := nI 0) hx hb dX7_step_59 (by decide +kernel) ?_
      refine z_putI hx hb ht hown hK hP hD hS ziX7 tyX7 tyX7_ok nmX7 rfl 1 (by decide) 4 (by decide) hw_1_42 rfl (v := nI 0) rfl rfl rfl (Nat.le_of_ble_eq_true rfl) rfl dX7_step_60 (fun H locs hP hD hS => ?_)
      have hI_109 := xInv_I hI_23 1 4 (nI 0) (zR_any (nI 0)) rfl
      have hf_110 : ∀ k, k ≠ 1 → (zp (zp I_20 1 5 (I_20 1 6)) 1 4 (nI 0)) k = I k := fun k h => (zp_nk h).trans (hf_24 k h)
      refine lv_goto (tgt := 217) hx hb dX7_step_63 (by decide) ?_
      exact z_vret hx hb hr hlocks hP hD hS dX7_step_217 ⟨hI_109, hf_110, rfl⟩
  have loop_112 : ∀ N : Nat, ∀ I_111 : Nat → Nat → Int32, xInv F (I_111, R, J) → (∀ k, k ≠ 1 → I_111 k = I k) → (2147483648 - (I_111 1 6).toInt).toNat < N → ∀ (H : Heap) (locs : List Loc), va_P D vwCl (zw 81 q (zXd q cA) I_111 R J) H → va_D (zA 81 q sz) (zw 81 q (zXd q cA) I_111 R J) → va_S (zA 81 q sz) s.heap H locs → ∀ ls : Array Slot, lv_has ls 1 [(0, .ref (q 1))] → W p l e ({ frames := 1, cells := 0, slots := 0, locals := 20 } : Room) s m ([.ref (q 1)] : List Value).toArray below meth c H locs 0 0 (MQ below (va_Qv (fun u => (xInv F u ∧ (∀ k, k ≠ 1 → u.1 k = I k) ∧ u.2 = (R, J))) (zB D vwCl 81 q (zXd q cA) sz) (zA 81 q sz)) ([.ref (q 1)] : List Value).toArray s 0 0 (zA 81 q sz)) (F0 m 0 ls []) := by
    intro N
    induction N with
    | zero => intro I_111 hI_111 hf_111 hN; exact absurd hN (Nat.not_lt_zero _)
    | succ N ih_114 =>
      intro I_111 hI_111 hf_111 hN_113 H locs hP hD hS ls hl
      refine lv_aload_n hx hb dX7_step_0 rfl (lv_at hl 0 rfl) ?_
      refine z_get hx hb ht hown hK hP ziX7 rfl 1 (by decide) 6 (by decide) hw_1_44 rfl (v := .int (I_111 1 6)) rfl dX7_step_1 ?_
      have f_115 : zR 0 800 (I_111 1 6) := xI hI_111 1 6
      refine lv_aload_n hx hb dX7_step_4 rfl (lv_at hl 0 rfl) ?_
      refine z_get hx hb ht hown hK hP ziX7 rfl 1 (by decide) 1 (by decide) hw_1_36 rfl (v := .int (I_111 1 1)) rfl dX7_step_5 ?_
      have f_116 : zR 0 800 (I_111 1 1) := xI hI_111 1 1
      refine lv_icmp_ge (tgt := 39) hx hb dX7_step_8 (by decide) (fun c_117 => ?_) (fun c_117 => ?_)
      · have t_c_117 := z_leT c_117
        exact t_21 _ hI_111 hf_111 _ _ hP hD hS _ (lv_sub hl [0] rfl)
      · have t_c_117 := z_leF c_117
        have f_118 : zR 0 799 (I_111 1 6) := zR_ltx t_c_117 f_115 f_116 (by decide)
        have f_119 : zR 1 800 (I_111 1 1) := zR_lty t_c_117 f_115 f_116 (by decide)
        refine lv_aload_n hx hb dX7_step_11 rfl (lv_at hl 0 rfl) ?_
        refine z_get hx hb ht hown hK hP ziX7 rfl 1 (by decide) 0 (by decide) hw_1_35 rfl (v := .ref (q 2)) rfl dX7_step_12 ?_
        refine lv_aload_n hx hb dX7_step_15 rfl (lv_at hl 0 rfl) ?_
        refine z_get hx hb ht hown hK hP ziX7 rfl 1 (by decide) 6 (by decide) hw_1_44 rfl (v := .int (I_111 1 6)) rfl dX7_step_16 ?_
        refine z_bald hx hb hK hP 2 (by decide) 0 rfl rfl (zR_vin f_118 (by decide)) dX7_step_19 ?_
        refine z_eqi (y := R 2 (I_111 1 6).toNatClampNeg) rfl ?_
        refine z_callSi (As := [.int (R 2 (I_111 1 6).toNatClampNeg)]) (rest := []) hx hb hml hown ht (xk_X7_isBlank l D q cA F _ _ _ hI_111 (R 2 (I_111 1 6).toNatClampNeg)) hw_2_165 hmX7_isBlank ⟨rfl, rfl⟩ (na := 1) rfl (by decide +kernel) (by decide) hK hP hD hS hA hl.1 rfl (Nat.le_of_ble_eq_true rfl) ⟨Nat.zero_le _, Nat.zero_le _⟩ dX7_step_20 (fun r_120 I_120 R_120 J_120 H locs hp_120 hP hD hS _ _ => ?_)
        rcases hp_120 with ⟨rfl, hu_120, f0_120⟩ | ⟨rfl, hu_120⟩
        · cases hu_120
          refine lv_if_eq (tgt := 39) hx hb dX7_step_23 (by decide) (fun c_0 => absurd c_0 (zD_ne zk_1 zk_z (by decide))) (fun _ => ?_)
          refine lv_aload_n hx hb dX7_step_26 rfl (lv_at hl 0 rfl) ?_
          refine lv_dup hx hb dX7_step_27 rfl ?_
          refine z_get hx hb ht hown hK hP ziX7 rfl 1 (by decide) 6 (by decide) hw_1_44 rfl (v := .int (I_111 1 6)) rfl dX7_step_28 ?_
          refine lv_iconst (v := nI 1) hx hb dX7_step_31 (by decide +kernel) ?_
          refine lv_iadd hx hb dX7_step_32 ?_
          refine z_addc 1 800 f_118 zk_1 (by decide) (fun v_121 hv_121 mv_121 => ?_)
          refine z_putI hx hb ht hown hK hP hD hS ziX7 tyX7 tyX7_ok nmX7 rfl 1 (by decide) 6 (by decide) hw_1_44 rfl (v := v_121) rfl rfl rfl (Nat.le_of_ble_eq_true rfl) rfl dX7_step_33 (fun H locs hP hD hS => ?_)
          have hI_122 := xInv_I hI_111 1 6 (v_121) (zR_w hv_121 (by decide)) rfl
          have hf_123 : ∀ k, k ≠ 1 → (zp I_111 1 6 (v_121)) k = I k := fun k h => (zp_nk h).trans (hf_111 k h)
          refine lv_goto (tgt := 0) hx hb dX7_step_36 (by decide) ?_
          exact ih_114 _ hI_122 hf_123 (z2_up mv_121 (by decide) hN_113) _ _ hP hD hS _ (lv_sub hl [0] rfl)
        · cases hu_120
          refine lv_if_eq (tgt := 39) hx hb dX7_step_23 (by decide) (fun _ => ?_) (fun c_0 => absurd (zD_eq zk_0 zk_z) c_0)
          exact t_21 _ hI_111 hf_111 _ _ hP hD hS _ (lv_sub hl [0] rfl)
  exact loop_112 _ _ hI (fun (_ : Nat) _ => rfl) (Nat.lt_succ_self _) _ _ hP hD hS _ (lv_sub hl [0] rfl)
set_option maxHeartbeats 4000000 in
set_option maxRecDepth 100000 in
theorem xk_J0_coder_7d493 (l : Launch) (D : va_G) (q : Nat → Nat) (cA : Nat → ClassId) (ad av : Nat → Nat) (t9 : Nat) (F : Nat → Nat → Int32) (I R : Nat → Nat → Int32) (J : Nat → Nat → Int64) (hI : xInv F (I, R, J))  : zNi (zSS zXRs 81 q ad av t9) l D vwCl (zXtys cA) 81 q (zXd q cA) yJ0_coder_7d493 cJ0_coder_7d493 1 (some .byte) ({ frames := 0, cells := 0, slots := 0, locals := 0 } : Room) [.ref (ad 4)] (I, R, J) (fun r u => r = nI 0 ∧ u = (I, R, J)) := by
  intro sz
  refine z_bodyN (by decide +kernel) (Nat.le_of_ble_eq_true rfl) (fun p e s m below meth c ls hx hb hml hr ht hown hlocks hsz hK hP hD hS hN hl => ?_)
  have hA : ∀ a, s.heap.size ≤ a → zA 81 q sz a := fun a h => Or.inr (hsz ▸ h)
  have hl : lv_has ls 1 [(0, .ref (ad 4))] := hl
  have hZ : zSz zXRs 81 q ad av t9 sz s := hsz ▸ hN
  refine va_gets hx hb hZ.2.1 hS hown (ht _ hw_2_195) (fun _ h => h) dJ0_coder_7d493_0 ?_
  refine z_eqi (y := nI 1) rfl ?_
  refine lv_if_eq (tgt := 13) hx hb dJ0_coder_7d493_3 (by decide) (fun c_0 => absurd c_0 (zD_ne zk_1 zk_z (by decide))) (fun _ => ?_)
  refine lv_aload_n hx hb dJ0_coder_7d493_6 rfl (lv_at hl 0 rfl) ?_
  refine vk_getf hx hb (hZ.1.1 4 (by decide)).2.1 hS hown (ht _ hw_8_165) (fun _ h => h) dJ0_coder_7d493_7 ?_
  refine z_eqi (y := nI 0) rfl ?_
  refine lv_goto (tgt := 14) hx hb dJ0_coder_7d493_10 (by decide) ?_
  exact z_zret (v := nI 0) hx hb hr hlocks hP hD hS (by decide +kernel) dJ0_coder_7d493_14 ⟨rfl, rfl⟩
set_option maxHeartbeats 4000000 in
set_option maxRecDepth 100000 in
theorem xk_J0_length_8abf5 (l : Launch) (D : va_G) (q : Nat → Nat) (cA : Nat → ClassId) (ad av : Nat → Nat) (t9 : Nat) (F : Nat → Nat → Int32) (I R : Nat → Nat → Int32) (J : Nat → Nat → Int64) (hI : xInv F (I, R, J))  : zNi (zSS zXRs 81 q ad av t9) l D vwCl (zXtys cA) 81 q (zXd q cA) yJ0_length_8abf5 cJ0_length_8abf5 1 (some .int) ({ frames := 1, cells := 0, slots := 0, locals := 20 } : Room) [.ref (ad 4)] (I, R, J) (fun r u => r = nI 5 ∧ u = (I, R, J)) := by
  intro sz
  refine z_bodyN (by decide +kernel) (Nat.le_of_ble_eq_true rfl) (fun p e s m below meth c ls hx hb hml hr ht hown hlocks hsz hK hP hD hS hN hl => ?_)
  have hA : ∀ a, s.heap.size ≤ a → zA 81 q sz a := fun a h => Or.inr (hsz ▸ h)
  have hl : lv_has ls 1 [(0, .ref (ad 4))] := hl
  have hZ : zSz zXRs 81 q ad av t9 sz s := hsz ▸ hN
  refine lv_aload_n hx hb dJ0_length_8abf5_0 rfl (lv_at hl 0 rfl) ?_
  refine vk_getf hx hb (hZ.1.1 4 (by decide)).2.2.1 hS hown (ht _ hw_8_164) (fun _ h => h) dJ0_length_8abf5_1 ?_
  refine va_tlen hx hb (hZ.1.1 4 (by decide)).2.2.2 hS (v := nI 5) rfl dJ0_length_8abf5_4 ?_
  refine lv_aload_n hx hb dJ0_length_8abf5_5 rfl (lv_at hl 0 rfl) ?_
  refine z_cNXi (As := []) (rest := [.int (nI 5)]) hx hb hml hown ht (xk_J0_coder_7d493 l D q cA ad av t9 F _ _ _ hI ) hw_2_191 hmJ0_coder_7d493 ⟨rfl, rfl⟩ (na := 0) rfl (by decide +kernel) (by decide) (vk_recv hZ.1 (by decide) hS) hK hP hD hS hA (zSS_c (Rs := zXRs) (t9 := t9) (fun _ _ _ => zXRs_c)) (zSS_w (Rs := zXRs) (t9 := t9) (fun _ _ _ => zXRs_w) hN hsz hS) hl.1 rfl (Nat.le_of_ble_eq_true rfl) ⟨Nat.zero_le _, Nat.zero_le _⟩ dJ0_length_8abf5_6 (fun r_1 I_1 R_1 J_1 H locs hp_1 hP hD hS _ _ => ?_)
  obtain ⟨rfl, hu_1⟩ := hp_1
  cases hu_1
  refine lv_ishr hx hb dJ0_length_8abf5_9 ?_
  refine z_eqi (y := nI 5) (by decide +kernel) ?_
  exact z_iret (v := nI 5) hx hb hr hlocks hP hD hS dJ0_length_8abf5_10 ⟨rfl, rfl⟩
set_option maxHeartbeats 4000000 in
set_option maxRecDepth 100000 in
theorem xk_J0_isLatin1_aae02 (l : Launch) (D : va_G) (q : Nat → Nat) (cA : Nat → ClassId) (ad av : Nat → Nat) (t9 : Nat) (F : Nat → Nat → Int32) (I R : Nat → Nat → Int32) (J : Nat → Nat → Int64) (hI : xInv F (I, R, J))  : zNi (zSS zXRs 81 q ad av t9) l D vwCl (zXtys cA) 81 q (zXd q cA) yJ0_isLatin1_aae02 cJ0_isLatin1_aae02 1 (some .boolean) ({ frames := 0, cells := 0, slots := 0, locals := 0 } : Room) [.ref (ad 4)] (I, R, J) (fun r u => (r = nI 1 ∧ u = (I, R, J))) := by
  intro sz
  refine z_bodyN (by decide +kernel) (Nat.le_of_ble_eq_true rfl) (fun p e s m below meth c ls hx hb hml hr ht hown hlocks hsz hK hP hD hS hN hl => ?_)
  have hA : ∀ a, s.heap.size ≤ a → zA 81 q sz a := fun a h => Or.inr (hsz ▸ h)
  have hl : lv_has ls 1 [(0, .ref (ad 4))] := hl
  have hZ : zSz zXRs 81 q ad av t9 sz s := hsz ▸ hN
  refine va_gets hx hb hZ.2.1 hS hown (ht _ hw_2_195) (fun _ h => h) dJ0_isLatin1_aae02_0 ?_
  refine z_eqi (y := nI 1) rfl ?_
  refine lv_if_eq (tgt := 17) hx hb dJ0_isLatin1_aae02_3 (by decide) (fun c_0 => absurd c_0 (zD_ne zk_1 zk_z (by decide))) (fun _ => ?_)
  refine lv_aload_n hx hb dJ0_isLatin1_aae02_6 rfl (lv_at hl 0 rfl) ?_
  refine vk_getf hx hb (hZ.1.1 4 (by decide)).2.1 hS hown (ht _ hw_8_165) (fun _ h => h) dJ0_isLatin1_aae02_7 ?_
  refine z_eqi (y := nI 0) rfl ?_
  refine lv_if_ne (tgt := 17) hx hb dJ0_isLatin1_aae02_10 (by decide) (fun c_0 => absurd (zD_eq zk_0 zk_z) c_0) (fun _ => ?_)
  refine lv_iconst (v := nI 1) hx hb dJ0_isLatin1_aae02_13 (by decide +kernel) ?_
  refine lv_goto (tgt := 18) hx hb dJ0_isLatin1_aae02_14 (by decide) ?_
  exact z_zret (v := nI 1) hx hb hr hlocks hP hD hS (by decide +kernel) dJ0_isLatin1_aae02_18 ⟨rfl, rfl⟩
set_option maxHeartbeats 4000000 in
set_option maxRecDepth 100000 in
theorem xk_J3_checkIndex_8e157_2 (l : Launch) (D : va_G) (q : Nat → Nat) (cA : Nat → ClassId) (ad av : Nat → Nat) (t9 : Nat) (F : Nat → Nat → Int32) (I R : Nat → Nat → Int32) (J : Nat → Nat → Int64) (hI : xInv F (I, R, J)) (pa0 : Int32) (hpa0 : zR 0 4 pa0) : zNi (zSS zXRs 81 q ad av t9) l D vwCl (zXtys cA) 81 q (zXd q cA) yJ3_checkIndex_8e157 cJ3_checkIndex_8e157 3 (some .int) ({ frames := 0, cells := 0, slots := 0, locals := 0 } : Room) [.int (pa0), .int (nI 5), .null] (I, R, J) (fun r u => zR 0 4 r ∧ u = (I, R, J)) := by
  intro sz
  refine z_bodyN (by decide +kernel) (Nat.le_of_ble_eq_true rfl) (fun p e s m below meth c ls hx hb hml hr ht hown hlocks hsz hK hP hD hS hN hl => ?_)
  have hA : ∀ a, s.heap.size ≤ a → zA 81 q sz a := fun a h => Or.inr (hsz ▸ h)
  have hl : lv_has ls 3 [(0, .int (pa0)), (1, .int (nI 5)), (2, .null)] := hl
  have hZ : zSz zXRs 81 q ad av t9 sz s := hsz ▸ hN
  refine lv_iload_n hx hb dJ3_checkIndex_8e157_0 rfl (lv_at hl 0 rfl) ?_
  refine lv_if_lt (tgt := 9) hx hb dJ3_checkIndex_8e157_1 (by decide) (fun c_0 => absurd c_0 (zD_nlt hpa0 zk_z (by decide))) (fun _ => ?_)
  refine lv_iload_n hx hb dJ3_checkIndex_8e157_4 rfl (lv_at hl 0 rfl) ?_
  refine lv_iload_n hx hb dJ3_checkIndex_8e157_5 rfl (lv_at hl 1 rfl) ?_
  refine lv_icmp_lt (tgt := 16) hx hb dJ3_checkIndex_8e157_6 (by decide) (fun _ => ?_) (fun c_0 => absurd (zD_lt hpa0 zk_5 (by decide)) c_0)
  refine lv_iload_n hx hb dJ3_checkIndex_8e157_16 rfl (lv_at hl 0 rfl) ?_
  exact z_iret (v := pa0) hx hb hr hlocks hP hD hS dJ3_checkIndex_8e157_17 ⟨hpa0, rfl⟩
set_option maxHeartbeats 4000000 in
set_option maxRecDepth 100000 in
theorem xk_J3_checkIndex_8e157_3 (l : Launch) (D : va_G) (q : Nat → Nat) (cA : Nat → ClassId) (ad av : Nat → Nat) (t9 : Nat) (F : Nat → Nat → Int32) (I R : Nat → Nat → Int32) (J : Nat → Nat → Int64) (hI : xInv F (I, R, J)) (pa0 : Int32) (hpa0 : zR 0 4 pa0) : zNi (zSS zXRs 81 q ad av t9) l D vwCl (zXtys cA) 81 q (zXd q cA) yJ3_checkIndex_8e157 cJ3_checkIndex_8e157 3 (some .int) ({ frames := 0, cells := 0, slots := 0, locals := 0 } : Room) [.int (pa0), .int (nI 5), .ref (t9)] (I, R, J) (fun r u => zR 0 4 r ∧ u = (I, R, J)) := by
  intro sz
  refine z_bodyN (by decide +kernel) (Nat.le_of_ble_eq_true rfl) (fun p e s m below meth c ls hx hb hml hr ht hown hlocks hsz hK hP hD hS hN hl => ?_)
  have hA : ∀ a, s.heap.size ≤ a → zA 81 q sz a := fun a h => Or.inr (hsz ▸ h)
  have hl : lv_has ls 3 [(0, .int (pa0)), (1, .int (nI 5)), (2, .ref (t9))] := hl
  have hZ : zSz zXRs 81 q ad av t9 sz s := hsz ▸ hN
  refine lv_iload_n hx hb dJ3_checkIndex_8e157_0 rfl (lv_at hl 0 rfl) ?_
  refine lv_if_lt (tgt := 9) hx hb dJ3_checkIndex_8e157_1 (by decide) (fun c_0 => absurd c_0 (zD_nlt hpa0 zk_z (by decide))) (fun _ => ?_)
  refine lv_iload_n hx hb dJ3_checkIndex_8e157_4 rfl (lv_at hl 0 rfl) ?_
  refine lv_iload_n hx hb dJ3_checkIndex_8e157_5 rfl (lv_at hl 1 rfl) ?_
  refine lv_icmp_lt (tgt := 16) hx hb dJ3_checkIndex_8e157_6 (by decide) (fun _ => ?_) (fun c_0 => absurd (zD_lt hpa0 zk_5 (by decide)) c_0)
  refine lv_iload_n hx hb dJ3_checkIndex_8e157_16 rfl (lv_at hl 0 rfl) ?_
  exact z_iret (v := pa0) hx hb hr hlocks hP hD hS dJ3_checkIndex_8e157_17 ⟨hpa0, rfl⟩
set_option maxHeartbeats 4000000 in
set_option maxRecDepth 100000 in
theorem xk_J0_checkIndex_df160_1 (l : Launch) (D : va_G) (q : Nat → Nat) (cA : Nat → ClassId) (ad av : Nat → Nat) (t9 : Nat) (F : Nat → Nat → Int32) (I R : Nat → Nat → Int32) (J : Nat → Nat → Int64) (hI : xInv F (I, R, J)) (pa0 : Int32) (hpa0 : zR 0 4 pa0) : zNv (zSS zXRs 81 q ad av t9) l D vwCl (zXtys cA) 81 q (zXd q cA) yJ0_checkIndex_df160 cJ0_checkIndex_df160 2 none ({ frames := 1, cells := 0, slots := 0, locals := 22 } : Room) [.int (pa0), .int (nI 5)] (I, R, J) (fun u => u = (I, R, J)) := by
  intro sz
  refine z_bodyN (by decide +kernel) (Nat.le_of_ble_eq_true rfl) (fun p e s m below meth c ls hx hb hml hr ht hown hlocks hsz hK hP hD hS hN hl => ?_)
  have hA : ∀ a, s.heap.size ≤ a → zA 81 q sz a := fun a h => Or.inr (hsz ▸ h)
  have hl : lv_has ls 2 [(0, .int (pa0)), (1, .int (nI 5))] := hl
  have hZ : zSz zXRs 81 q ad av t9 sz s := hsz ▸ hN
  refine lv_iload_n hx hb dJ0_checkIndex_df160_0 rfl (lv_at hl 0 rfl) ?_
  refine lv_iload_n hx hb dJ0_checkIndex_df160_1 rfl (lv_at hl 1 rfl) ?_
  rcases hZ.2.2.1 with hz9 | ⟨t9, hz9⟩
  · refine va_gets hx hb hz9 hS hown (ht _ hw_2_211) (fun _ h => h) dJ0_checkIndex_df160_2 ?_
    refine z_cNSi (As := [.int (pa0), .int (nI 5), .null]) (rest := []) hx hb hml hown ht (xk_J3_checkIndex_8e157_2 l D q cA ad av t9 F _ _ _ hI (pa0) hpa0) hw_2_213 hmJ3_checkIndex_8e157 ⟨rfl, rfl⟩ (na := 3) rfl (by decide +kernel) (by decide) hK hP hD hS hA (zSS_c (Rs := zXRs) (t9 := t9) (fun _ _ _ => zXRs_c)) (zSS_w (Rs := zXRs) (t9 := t9) (fun _ _ _ => zXRs_w) hN hsz hS) hl.1 rfl (Nat.le_of_ble_eq_true rfl) ⟨Nat.zero_le _, Nat.zero_le _⟩ dJ0_checkIndex_df160_5 (fun r_1 I_1 R_1 J_1 H locs hp_1 hP hD hS _ _ => ?_)
    obtain ⟨hr_1, hu_1⟩ := hp_1
    cases hu_1
    refine lv_pop hx hb dJ0_checkIndex_df160_8 rfl ?_
    exact z_vret hx hb hr hlocks hP hD hS dJ0_checkIndex_df160_9 rfl
  · refine va_gets hx hb hz9 hS hown (ht _ hw_2_211) (fun _ h => h) dJ0_checkIndex_df160_2 ?_
    refine z_cNSi (As := [.int (pa0), .int (nI 5), .ref (t9)]) (rest := []) hx hb hml hown ht (xk_J3_checkIndex_8e157_3 l D q cA ad av t9 F _ _ _ hI (pa0) hpa0) hw_2_213 hmJ3_checkIndex_8e157 ⟨rfl, rfl⟩ (na := 3) rfl (by decide +kernel) (by decide) hK hP hD hS hA (zSS_c (Rs := zXRs) (t9 := t9) (fun _ _ _ => zXRs_c)) (zSS_w (Rs := zXRs) (t9 := t9) (fun _ _ _ => zXRs_w) hN hsz hS) hl.1 rfl (Nat.le_of_ble_eq_true rfl) ⟨Nat.zero_le _, Nat.zero_le _⟩ dJ0_checkIndex_df160_5 (fun r_2 I_2 R_2 J_2 H locs hp_2 hP hD hS _ _ => ?_)
    obtain ⟨hr_2, hu_2⟩ := hp_2
    cases hu_2
    refine lv_pop hx hb dJ0_checkIndex_df160_8 rfl ?_
    exact z_vret hx hb hr hlocks hP hD hS dJ0_checkIndex_df160_9 rfl
set_option maxHeartbeats 4000000 in
set_option maxRecDepth 100000 in
theorem xk_J1_charAt_3b067_1 (l : Launch) (D : va_G) (q : Nat → Nat) (cA : Nat → ClassId) (ad av : Nat → Nat) (t9 : Nat) (F : Nat → Nat → Int32) (I R : Nat → Nat → Int32) (J : Nat → Nat → Int64) (hI : xInv F (I, R, J)) (pa1 : Int32) (hpa1 : zR 0 4 pa1) : zNi (zSS zXRs 81 q ad av t9) l D vwCl (zXtys cA) 81 q (zXd q cA) yJ1_charAt_3b067 cJ1_charAt_3b067 2 (some .char) ({ frames := 2, cells := 0, slots := 0, locals := 43 } : Room) [.ref (av 4), .int (pa1)] (I, R, J) (fun r u => zR 0 65535 r ∧ u = (I, R, J)) := by
  intro sz
  refine z_bodyN (by decide +kernel) (Nat.le_of_ble_eq_true rfl) (fun p e s m below meth c ls hx hb hml hr ht hown hlocks hsz hK hP hD hS hN hl => ?_)
  have hA : ∀ a, s.heap.size ≤ a → zA 81 q sz a := fun a h => Or.inr (hsz ▸ h)
  have hl : lv_has ls 2 [(0, .ref (av 4)), (1, .int (pa1))] := hl
  have hZ : zSz zXRs 81 q ad av t9 sz s := hsz ▸ hN
  refine lv_iload_n hx hb dJ1_charAt_3b067_0 rfl (lv_at hl 1 rfl) ?_
  refine lv_aload_n hx hb dJ1_charAt_3b067_1 rfl (lv_at hl 0 rfl) ?_
  refine va_tlen hx hb (hZ.1.1 4 (by decide)).2.2.2 hS (v := nI 5) rfl dJ1_charAt_3b067_2 ?_
  refine z_cNSv (As := [.int (pa1), .int (nI 5)]) (rest := []) hx hb hml hown ht (xk_J0_checkIndex_df160_1 l D q cA ad av t9 F _ _ _ hI (pa1) hpa1) hw_2_208 hmJ0_checkIndex_df160 ⟨rfl, rfl⟩ (na := 2) rfl (by decide +kernel) (by decide) hK hP hD hS hA (zSS_c (Rs := zXRs) (t9 := t9) (fun _ _ _ => zXRs_c)) (zSS_w (Rs := zXRs) (t9 := t9) (fun _ _ _ => zXRs_w) hN hsz hS) hl.1 rfl (Nat.le_of_ble_eq_true rfl) ⟨Nat.zero_le _, Nat.zero_le _⟩ dJ1_charAt_3b067_3 (fun I_1 R_1 J_1 H locs hp_1 hP hD hS _ _ => ?_)
  cases hp_1
  refine lv_aload_n hx hb dJ1_charAt_3b067_6 rfl (lv_at hl 0 rfl) ?_
  refine lv_iload_n hx hb dJ1_charAt_3b067_7 rfl (lv_at hl 1 rfl) ?_
  refine va_tb hx hb (hZ.1.1 4 (by decide)).2.2.2 hS (zR_vin hpa1 (by decide)) rfl dJ1_charAt_3b067_8 ?_
  refine z_any (fun v_2 => ?_)
  refine lv_sipush (v := nI 255) hx hb dJ1_charAt_3b067_9 (by decide +kernel) ?_
  refine lv_iand hx hb dJ1_charAt_3b067_12 ?_
  refine z_rng (a := 0) (b := 255) (zR_andr zk_255 (by decide)) (fun v_3 hv_3 => ?_)
  refine lv_i2c hx hb dJ1_charAt_3b067_13 rfl ?_
  refine z_rng (a := 0) (b := 65535) (zR_i2c _) (fun v_4 hv_4 => ?_)
  exact z_zret (v := v_4) hx hb hr hlocks hP hD hS (zR_char hv_4) dJ1_charAt_3b067_14 ⟨hv_4, rfl⟩
set_option maxHeartbeats 4000000 in
set_option maxRecDepth 100000 in
theorem xk_J0_charAt_5068e_1 (l : Launch) (D : va_G) (q : Nat → Nat) (cA : Nat → ClassId) (ad av : Nat → Nat) (t9 : Nat) (F : Nat → Nat → Int32) (I R : Nat → Nat → Int32) (J : Nat → Nat → Int64) (hI : xInv F (I, R, J)) (pa0 : Int32) (hpa0 : zR 0 4 pa0) : zNi (zSS zXRs 81 q ad av t9) l D vwCl (zXtys cA) 81 q (zXd q cA) yJ0_charAt_5068e cJ0_charAt_5068e 2 (some .char) ({ frames := 3, cells := 0, slots := 0, locals := 64 } : Room) [.ref (ad 4), .int (pa0)] (I, R, J) (fun r u => zR 0 65535 r ∧ u = (I, R, J)) := by
  intro sz
  refine z_bodyN (by decide +kernel) (Nat.le_of_ble_eq_true rfl) (fun p e s m below meth c ls hx hb hml hr ht hown hlocks hsz hK hP hD hS hN hl => ?_)
  have hA : ∀ a, s.heap.size ≤ a → zA 81 q sz a := fun a h => Or.inr (hsz ▸ h)
  have hl : lv_has ls 2 [(0, .ref (ad 4)), (1, .int (pa0))] := hl
  have hZ : zSz zXRs 81 q ad av t9 sz s := hsz ▸ hN
  refine lv_aload_n hx hb dJ0_charAt_5068e_0 rfl (lv_at hl 0 rfl) ?_
  refine z_cNXi (As := []) (rest := []) hx hb hml hown ht (xk_J0_isLatin1_aae02 l D q cA ad av t9 F _ _ _ hI ) hw_2_201 hmJ0_isLatin1_aae02 ⟨rfl, rfl⟩ (na := 0) rfl (by decide +kernel) (by decide) (vk_recv hZ.1 (by decide) hS) hK hP hD hS hA (zSS_c (Rs := zXRs) (t9 := t9) (fun _ _ _ => zXRs_c)) (zSS_w (Rs := zXRs) (t9 := t9) (fun _ _ _ => zXRs_w) hN hsz hS) hl.1 rfl (Nat.le_of_ble_eq_true rfl) ⟨Nat.zero_le _, Nat.zero_le _⟩ dJ0_charAt_5068e_1 (fun r_1 I_1 R_1 J_1 H locs hp_1 hP hD hS _ _ => ?_)
  obtain ⟨rfl, hu_1⟩ := hp_1
  cases hu_1
  refine lv_if_eq (tgt := 16) hx hb dJ0_charAt_5068e_4 (by decide) (fun c_0 => absurd c_0 (zD_ne zk_1 zk_z (by decide))) (fun _ => ?_)
  refine lv_aload_n hx hb dJ0_charAt_5068e_7 rfl (lv_at hl 0 rfl) ?_
  refine vk_getf hx hb (hZ.1.1 4 (by decide)).2.2.1 hS hown (ht _ hw_8_164) (fun _ h => h) dJ0_charAt_5068e_8 ?_
  refine lv_iload_n hx hb dJ0_charAt_5068e_11 rfl (lv_at hl 1 rfl) ?_
  refine z_cNSi (As := [.ref (av 4), .int (pa0)]) (rest := []) hx hb hml hown ht (xk_J1_charAt_3b067_1 l D q cA ad av t9 F _ _ _ hI (pa0) hpa0) hw_2_205 hmJ1_charAt_3b067 ⟨rfl, rfl⟩ (na := 2) rfl (by decide +kernel) (by decide) hK hP hD hS hA (zSS_c (Rs := zXRs) (t9 := t9) (fun _ _ _ => zXRs_c)) (zSS_w (Rs := zXRs) (t9 := t9) (fun _ _ _ => zXRs_w) hN hsz hS) hl.1 rfl (Nat.le_of_ble_eq_true rfl) ⟨Nat.zero_le _, Nat.zero_le _⟩ dJ0_charAt_5068e_12 (fun r_2 I_2 R_2 J_2 H locs hp_2 hP hD hS _ _ => ?_)
  obtain ⟨hr_2, hu_2⟩ := hp_2
  cases hu_2
  exact z_zret (v := r_2) hx hb hr hlocks hP hD hS (zR_char hr_2) dJ0_charAt_5068e_15 ⟨hr_2, rfl⟩
set_option maxHeartbeats 4000000 in
set_option maxRecDepth 100000 in
theorem xk_X7_isWord (l : Launch) (D : va_G) (q : Nat → Nat) (cA : Nat → ClassId) (ad av : Nat → Nat) (t9 : Nat) (F : Nat → Nat → Int32) (I R : Nat → Nat → Int32) (J : Nat → Nat → Int64) (hI : xInv F (I, R, J))  : zNi (zSS zXRs 81 q ad av t9) l D vwCl (zXtys cA) 81 q (zXd q cA) yX7_isWord cX7_isWord 3 (some .boolean) ({ frames := 4, cells := 0, slots := 0, locals := 85 } : Room) [.ref (q 1), .ref (ad 4)] (I, R, J) (fun r u => (r = nI 1 ∧ u = (I, R, J)) ∨ (r = nI 0 ∧ u = (I, R, J))) := by
  intro sz
  refine z_bodyN (by decide +kernel) (Nat.le_of_ble_eq_true rfl) (fun p e s m below meth c ls hx hb hml hr ht hown hlocks hsz hK hP hD hS hN hl => ?_)
  have hA : ∀ a, s.heap.size ≤ a → zA 81 q sz a := fun a h => Or.inr (hsz ▸ h)
  have hl : lv_has ls 3 [(0, .ref (q 1)), (1, .ref (ad 4))] := hl
  have hZ : zSz zXRs 81 q ad av t9 sz s := hsz ▸ hN
  refine lv_aload_n hx hb dX7_isWord_0 rfl (lv_at hl 0 rfl) ?_
  refine z_get hx hb ht hown hK hP ziX7 rfl 1 (by decide) 4 (by decide) hw_1_42 rfl (v := .int (I 1 4)) rfl dX7_isWord_1 ?_
  refine lv_iconst (v := nI 1) hx hb dX7_isWord_4 (by decide +kernel) ?_
  refine lv_icmp_ne (tgt := 24) hx hb dX7_isWord_5 (by decide) (fun c_1 => ?_) (fun c_1 => ?_)
  · have t_c_1 := z_eqF c_1
    refine lv_iconst (v := nI 0) hx hb dX7_isWord_24 (by decide +kernel) ?_
    exact z_zret (v := nI 0) hx hb hr hlocks hP hD hS (by decide +kernel) dX7_isWord_25 (Or.inr ⟨rfl, rfl⟩)
  · have t_c_1 := z_eqT c_1
    have f_2 : zR 1 1 (I 1 4) := zR_eqx t_c_1 zk_1
    refine lv_aload_n hx hb dX7_isWord_8 rfl (lv_at hl 0 rfl) ?_
    refine z_get hx hb ht hown hK hP ziX7 rfl 1 (by decide) 6 (by decide) hw_1_44 rfl (v := .int (I 1 6)) rfl dX7_isWord_9 ?_
    have f_3 : zR 0 800 (I 1 6) := xI hI 1 6
    refine lv_aload_n hx hb dX7_isWord_12 rfl (lv_at hl 0 rfl) ?_
    refine z_get hx hb ht hown hK hP ziX7 rfl 1 (by decide) 5 (by decide) hw_1_43 rfl (v := .int (I 1 5)) rfl dX7_isWord_13 ?_
    have f_4 : zR 0 800 (I 1 5) := xI hI 1 5
    refine lv_isub hx hb dX7_isWord_16 ?_
    refine lv_topi (fun v_5 ev_5 => ?_)
    have hv_5 : zR (-800) 800 v_5 := ev_5 ▸ zR_sub f_3 f_4 (by decide)
    refine lv_aload_n hx hb dX7_isWord_17 rfl (lv_at hl 1 rfl) ?_
    refine z_cNXi (As := []) (rest := [.int (v_5)]) hx hb hml hown ht (xk_J0_length_8abf5 l D q cA ad av t9 F _ _ _ hI ) hw_2_187 hmJ0_length_8abf5 ⟨rfl, rfl⟩ (na := 0) rfl (by decide +kernel) (by decide) (vk_recv hZ.1 (by decide) hS) hK hP hD hS hA (zSS_c (Rs := zXRs) (t9 := t9) (fun _ _ _ => zXRs_c)) (zSS_w (Rs := zXRs) (t9 := t9) (fun _ _ _ => zXRs_w) hN hsz hS) hl.1 rfl (Nat.le_of_ble_eq_true rfl) ⟨Nat.zero_le _, Nat.zero_le _⟩ dX7_isWord_18 (fun r_6 I_6 R_6 J_6 H locs hp_6 hP hD hS _ _ => ?_)
    obtain ⟨rfl, hu_6⟩ := hp_6
    cases hu_6
    refine lv_icmp_eq (tgt := 26) hx hb dX7_isWord_21 (by decide) (fun c_7 => ?_) (fun c_7 => ?_)
    · have t_c_7 := z_eqT c_7
      have f_8 : zR 5 5 (v_5) := zR_eqx t_c_7 zk_5
      have f_9 : zR 0 795 (I 1 5) := z_start f_3 f_4 ev_5 f_8 (by decide)
      refine lv_iconst (v := nI 0) hx hb dX7_isWord_26 (by decide +kernel) ?_
      refine lv_istore_n (lv' := [(2, .int (nI 0)), (0, .ref (q 1)), (1, .ref (ad 4))]) hx hb dX7_isWord_27 rfl hl (by decide) rfl (fun ls hl => ?_)
      have loop_43 : ∀ N : Nat, ∀ x_42 : Int32, zR 0 5 x_42 → (2147483648 - (x_42).toInt).toNat < N → ∀ (H : Heap) (locs : List Loc), va_P D vwCl (zw 81 q (zXd q cA) I R J) H → va_D (zA 81 q sz) (zw 81 q (zXd q cA) I R J) → va_S (zA 81 q sz) s.heap H locs → ∀ ls : Array Slot, lv_has ls 3 [(0, .ref (q 1)), (1, .ref (ad 4)), (2, .int (x_42))] → W p l e ({ frames := 4, cells := 0, slots := 0, locals := 85 } : Room) s m ([.ref (q 1), .ref (ad 4)] : List Value).toArray below meth c H locs 0 0 (MQ below (va_Qi (fun r u => (r = nI 1 ∧ u = (I, R, J)) ∨ (r = nI 0 ∧ u = (I, R, J))) (zB D vwCl 81 q (zXd q cA) sz) (zA 81 q sz)) ([.ref (q 1), .ref (ad 4)] : List Value).toArray s 0 0 (zA 81 q sz)) (F0 m 28 ls []) := by
        intro N
        induction N with
        | zero => intro x_42 hx_42 hN; exact absurd hN (Nat.not_lt_zero _)
        | succ N ih_45 =>
          intro x_42 hx_42 hN_44 H locs hP hD hS ls hl
          refine lv_iload_n hx hb dX7_isWord_28 rfl (lv_at hl 2 rfl) ?_
          refine lv_aload_n hx hb dX7_isWord_29 rfl (lv_at hl 1 rfl) ?_
          refine z_cNXi (As := []) (rest := [.int (x_42)]) hx hb hml hown ht (xk_J0_length_8abf5 l D q cA ad av t9 F _ _ _ hI ) hw_2_187 hmJ0_length_8abf5 ⟨rfl, rfl⟩ (na := 0) rfl (by decide +kernel) (by decide) (vk_recv hZ.1 (by decide) hS) hK hP hD hS hA (zSS_c (Rs := zXRs) (t9 := t9) (fun _ _ _ => zXRs_c)) (zSS_w (Rs := zXRs) (t9 := t9) (fun _ _ _ => zXRs_w) hN hsz hS) hl.1 rfl (Nat.le_of_ble_eq_true rfl) ⟨Nat.zero_le _, Nat.zero_le _⟩ dX7_isWord_30 (fun r_46 I_46 R_46 J_46 H locs hp_46 hP hD hS _ _ => ?_)
          obtain ⟨rfl, hu_46⟩ := hp_46
          cases hu_46
          refine lv_icmp_ge (tgt := 63) hx hb dX7_isWord_33 (by decide) (fun c_47 => ?_) (fun c_47 => ?_)
          · have t_c_47 := z_leT c_47
            have f_48 : zR 5 5 (x_42) := zR_ley t_c_47 zk_5 hx_42 (by decide)
            refine lv_iconst (v := nI 1) hx hb dX7_isWord_63 (by decide +kernel) ?_
            exact z_zret (v := nI 1) hx hb hr hlocks hP hD hS (by decide +kernel) dX7_isWord_64 (Or.inl ⟨rfl, rfl⟩)
          · have t_c_47 := z_leF c_47
            have f_49 : zR 0 4 (x_42) := zR_ltx t_c_47 hx_42 zk_5 (by decide)
            refine lv_aload_n hx hb dX7_isWord_36 rfl (lv_at hl 0 rfl) ?_
            refine z_get hx hb ht hown hK hP ziX7 rfl 1 (by decide) 0 (by decide) hw_1_35 rfl (v := .ref (q 2)) rfl dX7_isWord_37 ?_
            refine lv_aload_n hx hb dX7_isWord_40 rfl (lv_at hl 0 rfl) ?_
            refine z_get hx hb ht hown hK hP ziX7 rfl 1 (by decide) 5 (by decide) hw_1_43 rfl (v := .int (I 1 5)) rfl dX7_isWord_41 ?_
            refine lv_iload_n hx hb dX7_isWord_44 rfl (lv_at hl 2 rfl) ?_
            refine lv_iadd hx hb dX7_isWord_45 ?_
            refine z_rng (a := 0) (b := 799) (zR_add f_9 f_49 (by decide)) (fun v_50 hv_50 => ?_)
            refine z_bald hx hb hK hP 2 (by decide) 0 rfl rfl (zR_vin hv_50 (by decide)) dX7_isWord_46 ?_
            refine z_eqi (y := R 2 (v_50).toNatClampNeg) rfl ?_
            refine lv_aload_n hx hb dX7_isWord_47 rfl (lv_at hl 1 rfl) ?_
            refine lv_iload_n hx hb dX7_isWord_48 rfl (lv_at hl 2 rfl) ?_
            refine z_cNXi (As := [.int (x_42)]) (rest := [.int (R 2 (v_50).toNatClampNeg)]) hx hb hml hown ht (xk_J0_charAt_5068e_1 l D q cA ad av t9 F _ _ _ hI (x_42) f_49) hw_2_197 hmJ0_charAt_5068e ⟨rfl, rfl⟩ (na := 1) rfl (by decide +kernel) (by decide) (vk_recv hZ.1 (by decide) hS) hK hP hD hS hA (zSS_c (Rs := zXRs) (t9 := t9) (fun _ _ _ => zXRs_c)) (zSS_w (Rs := zXRs) (t9 := t9) (fun _ _ _ => zXRs_w) hN hsz hS) hl.1 rfl (Nat.le_of_ble_eq_true rfl) ⟨Nat.zero_le _, Nat.zero_le _⟩ dX7_isWord_49 (fun r_51 I_51 R_51 J_51 H locs hp_51 hP hD hS _ _ => ?_)
            obtain ⟨hr_51, hu_51⟩ := hp_51
            cases hu_51
            refine lv_icmp_eq (tgt := 57) hx hb dX7_isWord_52 (by decide) (fun c_52 => ?_) (fun c_52 => ?_)
            · have t_c_52 := z_eqT c_52
              have f_53 : zR 0 65535 (R 2 (v_50).toNatClampNeg) := zR_eqx t_c_52 hr_51
              obtain ⟨v_54, ev_54⟩ : ∃ y : Int32, y = x_42 + nI 1 := ⟨_, rfl⟩
              have hv_54 : zR 1 5 v_54 := ev_54 ▸ zR_add f_49 zk_1 (by decide)
              have mv_54 : v_54.toInt = (x_42).toInt + 1 := by rw [ev_54, zR_addE f_49 zk_1 (by decide)]; rfl
              refine lv_iinc (v := v_54) (lv' := [(2, .int (v_54)), (0, .ref (q 1)), (1, .ref (ad 4))]) hx hb dX7_isWord_57 hl (k := 2) rfl (ev_54 ▸ rfl) (by decide) rfl (fun ls hl => ?_)
              refine lv_goto (tgt := 28) hx hb dX7_isWord_60 (by decide) ?_
              exact ih_45 (v_54) (zR_w hv_54 (by decide)) (z2_up mv_54 (by decide) hN_44) _ _ hP hD hS _ (lv_sub hl [1, 2, 0] rfl)
            · have t_c_52 := z_eqF c_52
              refine lv_iconst (v := nI 0) hx hb dX7_isWord_55 (by decide +kernel) ?_
              exact z_zret (v := nI 0) hx hb hr hlocks hP hD hS (by decide +kernel) dX7_isWord_56 (Or.inr ⟨rfl, rfl⟩)
      exact loop_43 _ (nI 0) (zR_w zk_0 (by decide)) (Nat.lt_succ_self _) _ _ hP hD hS _ (lv_sub hl [1, 2, 0] rfl)
    · have t_c_7 := z_eqF c_7
      refine lv_iconst (v := nI 0) hx hb dX7_isWord_24 (by decide +kernel) ?_
      exact z_zret (v := nI 0) hx hb hr hlocks hP hD hS (by decide +kernel) dX7_isWord_25 (Or.inr ⟨rfl, rfl⟩)
set_option maxHeartbeats 4000000 in
set_option maxRecDepth 100000 in
theorem xk_J0_coder_7d493_1 (l : Launch) (D : va_G) (q : Nat → Nat) (cA : Nat → ClassId) (ad av : Nat → Nat) (t9 : Nat) (F : Nat → Nat → Int32) (I R : Nat → Nat → Int32) (J : Nat → Nat → Int64) (hI : xInv F (I, R, J))  : zNi (zSS zXRs 81 q ad av t9) l D vwCl (zXtys cA) 81 q (zXd q cA) yJ0_coder_7d493 cJ0_coder_7d493 1 (some .byte) ({ frames := 0, cells := 0, slots := 0, locals := 0 } : Room) [.ref (ad 5)] (I, R, J) (fun r u => r = nI 0 ∧ u = (I, R, J)) := by
  intro sz
  refine z_bodyN (by decide +kernel) (Nat.le_of_ble_eq_true rfl) (fun p e s m below meth c ls hx hb hml hr ht hown hlocks hsz hK hP hD hS hN hl => ?_)
  have hA : ∀ a, s.heap.size ≤ a → zA 81 q sz a := fun a h => Or.inr (hsz ▸ h)
  have hl : lv_has ls 1 [(0, .ref (ad 5))] := hl
  have hZ : zSz zXRs 81 q ad av t9 sz s := hsz ▸ hN
  refine va_gets hx hb hZ.2.1 hS hown (ht _ hw_2_195) (fun _ h => h) dJ0_coder_7d493_0 ?_
  refine z_eqi (y := nI 1) rfl ?_
  refine lv_if_eq (tgt := 13) hx hb dJ0_coder_7d493_3 (by decide) (fun c_0 => absurd c_0 (zD_ne zk_1 zk_z (by decide))) (fun _ => ?_)
  refine lv_aload_n hx hb dJ0_coder_7d493_6 rfl (lv_at hl 0 rfl) ?_
  refine vk_getf hx hb (hZ.1.1 5 (by decide)).2.1 hS hown (ht _ hw_8_165) (fun _ h => h) dJ0_coder_7d493_7 ?_
  refine z_eqi (y := nI 0) rfl ?_
  refine lv_goto (tgt := 14) hx hb dJ0_coder_7d493_10 (by decide) ?_
  exact z_zret (v := nI 0) hx hb hr hlocks hP hD hS (by decide +kernel) dJ0_coder_7d493_14 ⟨rfl, rfl⟩
set_option maxHeartbeats 4000000 in
set_option maxRecDepth 100000 in
theorem xk_J0_length_8abf5_1 (l : Launch) (D : va_G) (q : Nat → Nat) (cA : Nat → ClassId) (ad av : Nat → Nat) (t9 : Nat) (F : Nat → Nat → Int32) (I R : Nat → Nat → Int32) (J : Nat → Nat → Int64) (hI : xInv F (I, R, J))  : zNi (zSS zXRs 81 q ad av t9) l D vwCl (zXtys cA) 81 q (zXd q cA) yJ0_length_8abf5 cJ0_length_8abf5 1 (some .int) ({ frames := 1, cells := 0, slots := 0, locals := 20 } : Room) [.ref (ad 5)] (I, R, J) (fun r u => r = nI 5 ∧ u = (I, R, J)) := by
  intro sz
  refine z_bodyN (by decide +kernel) (Nat.le_of_ble_eq_true rfl) (fun p e s m below meth c ls hx hb hml hr ht hown hlocks hsz hK hP hD hS hN hl => ?_)
  have hA : ∀ a, s.heap.size ≤ a → zA 81 q sz a := fun a h => Or.inr (hsz ▸ h)
  have hl : lv_has ls 1 [(0, .ref (ad 5))] := hl
  have hZ : zSz zXRs 81 q ad av t9 sz s := hsz ▸ hN
  refine lv_aload_n hx hb dJ0_length_8abf5_0 rfl (lv_at hl 0 rfl) ?_
  refine vk_getf hx hb (hZ.1.1 5 (by decide)).2.2.1 hS hown (ht _ hw_8_164) (fun _ h => h) dJ0_length_8abf5_1 ?_
  refine va_tlen hx hb (hZ.1.1 5 (by decide)).2.2.2 hS (v := nI 5) rfl dJ0_length_8abf5_4 ?_
  refine lv_aload_n hx hb dJ0_length_8abf5_5 rfl (lv_at hl 0 rfl) ?_
  refine z_cNXi (As := []) (rest := [.int (nI 5)]) hx hb hml hown ht (xk_J0_coder_7d493_1 l D q cA ad av t9 F _ _ _ hI ) hw_2_191 hmJ0_coder_7d493 ⟨rfl, rfl⟩ (na := 0) rfl (by decide +kernel) (by decide) (vk_recv hZ.1 (by decide) hS) hK hP hD hS hA (zSS_c (Rs := zXRs) (t9 := t9) (fun _ _ _ => zXRs_c)) (zSS_w (Rs := zXRs) (t9 := t9) (fun _ _ _ => zXRs_w) hN hsz hS) hl.1 rfl (Nat.le_of_ble_eq_true rfl) ⟨Nat.zero_le _, Nat.zero_le _⟩ dJ0_length_8abf5_6 (fun r_1 I_1 R_1 J_1 H locs hp_1 hP hD hS _ _ => ?_)
  obtain ⟨rfl, hu_1⟩ := hp_1
  cases hu_1
  refine lv_ishr hx hb dJ0_length_8abf5_9 ?_
  refine z_eqi (y := nI 5) (by decide +kernel) ?_
  exact z_iret (v := nI 5) hx hb hr hlocks hP hD hS dJ0_length_8abf5_10 ⟨rfl, rfl⟩
set_option maxHeartbeats 4000000 in
set_option maxRecDepth 100000 in
theorem xk_J0_isLatin1_aae02_1 (l : Launch) (D : va_G) (q : Nat → Nat) (cA : Nat → ClassId) (ad av : Nat → Nat) (t9 : Nat) (F : Nat → Nat → Int32) (I R : Nat → Nat → Int32) (J : Nat → Nat → Int64) (hI : xInv F (I, R, J))  : zNi (zSS zXRs 81 q ad av t9) l D vwCl (zXtys cA) 81 q (zXd q cA) yJ0_isLatin1_aae02 cJ0_isLatin1_aae02 1 (some .boolean) ({ frames := 0, cells := 0, slots := 0, locals := 0 } : Room) [.ref (ad 5)] (I, R, J) (fun r u => (r = nI 1 ∧ u = (I, R, J))) := by
  intro sz
  refine z_bodyN (by decide +kernel) (Nat.le_of_ble_eq_true rfl) (fun p e s m below meth c ls hx hb hml hr ht hown hlocks hsz hK hP hD hS hN hl => ?_)
  have hA : ∀ a, s.heap.size ≤ a → zA 81 q sz a := fun a h => Or.inr (hsz ▸ h)
  have hl : lv_has ls 1 [(0, .ref (ad 5))] := hl
  have hZ : zSz zXRs 81 q ad av t9 sz s := hsz ▸ hN
  refine va_gets hx hb hZ.2.1 hS hown (ht _ hw_2_195) (fun _ h => h) dJ0_isLatin1_aae02_0 ?_
  refine z_eqi (y := nI 1) rfl ?_
  refine lv_if_eq (tgt := 17) hx hb dJ0_isLatin1_aae02_3 (by decide) (fun c_0 => absurd c_0 (zD_ne zk_1 zk_z (by decide))) (fun _ => ?_)
  refine lv_aload_n hx hb dJ0_isLatin1_aae02_6 rfl (lv_at hl 0 rfl) ?_
  refine vk_getf hx hb (hZ.1.1 5 (by decide)).2.1 hS hown (ht _ hw_8_165) (fun _ h => h) dJ0_isLatin1_aae02_7 ?_
  refine z_eqi (y := nI 0) rfl ?_
  refine lv_if_ne (tgt := 17) hx hb dJ0_isLatin1_aae02_10 (by decide) (fun c_0 => absurd (zD_eq zk_0 zk_z) c_0) (fun _ => ?_)
  refine lv_iconst (v := nI 1) hx hb dJ0_isLatin1_aae02_13 (by decide +kernel) ?_
  refine lv_goto (tgt := 18) hx hb dJ0_isLatin1_aae02_14 (by decide) ?_
  exact z_zret (v := nI 1) hx hb hr hlocks hP hD hS (by decide +kernel) dJ0_isLatin1_aae02_18 ⟨rfl, rfl⟩
set_option maxHeartbeats 4000000 in
set_option maxRecDepth 100000 in
theorem xk_J1_charAt_3b067_3 (l : Launch) (D : va_G) (q : Nat → Nat) (cA : Nat → ClassId) (ad av : Nat → Nat) (t9 : Nat) (F : Nat → Nat → Int32) (I R : Nat → Nat → Int32) (J : Nat → Nat → Int64) (hI : xInv F (I, R, J)) (pa1 : Int32) (hpa1 : zR 0 4 pa1) : zNi (zSS zXRs 81 q ad av t9) l D vwCl (zXtys cA) 81 q (zXd q cA) yJ1_charAt_3b067 cJ1_charAt_3b067 2 (some .char) ({ frames := 2, cells := 0, slots := 0, locals := 43 } : Room) [.ref (av 5), .int (pa1)] (I, R, J) (fun r u => zR 0 65535 r ∧ u = (I, R, J)) := by
  intro sz
  refine z_bodyN (by decide +kernel) (Nat.le_of_ble_eq_true rfl) (fun p e s m below meth c ls hx hb hml hr ht hown hlocks hsz hK hP hD hS hN hl => ?_)
  have hA : ∀ a, s.heap.size ≤ a → zA 81 q sz a := fun a h => Or.inr (hsz ▸ h)
  have hl : lv_has ls 2 [(0, .ref (av 5)), (1, .int (pa1))] := hl
  have hZ : zSz zXRs 81 q ad av t9 sz s := hsz ▸ hN
  refine lv_iload_n hx hb dJ1_charAt_3b067_0 rfl (lv_at hl 1 rfl) ?_
  refine lv_aload_n hx hb dJ1_charAt_3b067_1 rfl (lv_at hl 0 rfl) ?_
  refine va_tlen hx hb (hZ.1.1 5 (by decide)).2.2.2 hS (v := nI 5) rfl dJ1_charAt_3b067_2 ?_
  refine z_cNSv (As := [.int (pa1), .int (nI 5)]) (rest := []) hx hb hml hown ht (xk_J0_checkIndex_df160_1 l D q cA ad av t9 F _ _ _ hI (pa1) hpa1) hw_2_208 hmJ0_checkIndex_df160 ⟨rfl, rfl⟩ (na := 2) rfl (by decide +kernel) (by decide) hK hP hD hS hA (zSS_c (Rs := zXRs) (t9 := t9) (fun _ _ _ => zXRs_c)) (zSS_w (Rs := zXRs) (t9 := t9) (fun _ _ _ => zXRs_w) hN hsz hS) hl.1 rfl (Nat.le_of_ble_eq_true rfl) ⟨Nat.zero_le _, Nat.zero_le _⟩ dJ1_charAt_3b067_3 (fun I_1 R_1 J_1 H locs hp_1 hP hD hS _ _ => ?_)
  cases hp_1
  refine lv_aload_n hx hb dJ1_charAt_3b067_6 rfl (lv_at hl 0 rfl) ?_
  refine lv_iload_n hx hb dJ1_charAt_3b067_7 rfl (lv_at hl 1 rfl) ?_
  refine va_tb hx hb (hZ.1.1 5 (by decide)).2.2.2 hS (zR_vin hpa1 (by decide)) rfl dJ1_charAt_3b067_8 ?_
  refine z_any (fun v_2 => ?_)
  refine lv_sipush (v := nI 255) hx hb dJ1_charAt_3b067_9 (by decide +kernel) ?_
  refine lv_iand hx hb dJ1_charAt_3b067_12 ?_
  refine z_rng (a := 0) (b := 255) (zR_andr zk_255 (by decide)) (fun v_3 hv_3 => ?_)
  refine lv_i2c hx hb dJ1_charAt_3b067_13 rfl ?_
  refine z_rng (a := 0) (b := 65535) (zR_i2c _) (fun v_4 hv_4 => ?_)
  exact z_zret (v := v_4) hx hb hr hlocks hP hD hS (zR_char hv_4) dJ1_charAt_3b067_14 ⟨hv_4, rfl⟩
set_option maxHeartbeats 4000000 in
set_option maxRecDepth 100000 in
theorem xk_J0_charAt_5068e_3 (l : Launch) (D : va_G) (q : Nat → Nat) (cA : Nat → ClassId) (ad av : Nat → Nat) (t9 : Nat) (F : Nat → Nat → Int32) (I R : Nat → Nat → Int32) (J : Nat → Nat → Int64) (hI : xInv F (I, R, J)) (pa0 : Int32) (hpa0 : zR 0 4 pa0) : zNi (zSS zXRs 81 q ad av t9) l D vwCl (zXtys cA) 81 q (zXd q cA) yJ0_charAt_5068e cJ0_charAt_5068e 2 (some .char) ({ frames := 3, cells := 0, slots := 0, locals := 64 } : Room) [.ref (ad 5), .int (pa0)] (I, R, J) (fun r u => zR 0 65535 r ∧ u = (I, R, J)) := by
  intro sz
  refine z_bodyN (by decide +kernel) (Nat.le_of_ble_eq_true rfl) (fun p e s m below meth c ls hx hb hml hr ht hown hlocks hsz hK hP hD hS hN hl => ?_)
  have hA : ∀ a, s.heap.size ≤ a → zA 81 q sz a := fun a h => Or.inr (hsz ▸ h)
  have hl : lv_has ls 2 [(0, .ref (ad 5)), (1, .int (pa0))] := hl
  have hZ : zSz zXRs 81 q ad av t9 sz s := hsz ▸ hN
  refine lv_aload_n hx hb dJ0_charAt_5068e_0 rfl (lv_at hl 0 rfl) ?_
  refine z_cNXi (As := []) (rest := []) hx hb hml hown ht (xk_J0_isLatin1_aae02_1 l D q cA ad av t9 F _ _ _ hI ) hw_2_201 hmJ0_isLatin1_aae02 ⟨rfl, rfl⟩ (na := 0) rfl (by decide +kernel) (by decide) (vk_recv hZ.1 (by decide) hS) hK hP hD hS hA (zSS_c (Rs := zXRs) (t9 := t9) (fun _ _ _ => zXRs_c)) (zSS_w (Rs := zXRs) (t9 := t9) (fun _ _ _ => zXRs_w) hN hsz hS) hl.1 rfl (Nat.le_of_ble_eq_true rfl) ⟨Nat.zero_le _, Nat.zero_le _⟩ dJ0_charAt_5068e_1 (fun r_1 I_1 R_1 J_1 H locs hp_1 hP hD hS _ _ => ?_)
  obtain ⟨rfl, hu_1⟩ := hp_1
  cases hu_1
  refine lv_if_eq (tgt := 16) hx hb dJ0_charAt_5068e_4 (by decide) (fun c_0 => absurd c_0 (zD_ne zk_1 zk_z (by decide))) (fun _ => ?_)
  refine lv_aload_n hx hb dJ0_charAt_5068e_7 rfl (lv_at hl 0 rfl) ?_
  refine vk_getf hx hb (hZ.1.1 5 (by decide)).2.2.1 hS hown (ht _ hw_8_164) (fun _ h => h) dJ0_charAt_5068e_8 ?_
  refine lv_iload_n hx hb dJ0_charAt_5068e_11 rfl (lv_at hl 1 rfl) ?_
  refine z_cNSi (As := [.ref (av 5), .int (pa0)]) (rest := []) hx hb hml hown ht (xk_J1_charAt_3b067_3 l D q cA ad av t9 F _ _ _ hI (pa0) hpa0) hw_2_205 hmJ1_charAt_3b067 ⟨rfl, rfl⟩ (na := 2) rfl (by decide +kernel) (by decide) hK hP hD hS hA (zSS_c (Rs := zXRs) (t9 := t9) (fun _ _ _ => zXRs_c)) (zSS_w (Rs := zXRs) (t9 := t9) (fun _ _ _ => zXRs_w) hN hsz hS) hl.1 rfl (Nat.le_of_ble_eq_true rfl) ⟨Nat.zero_le _, Nat.zero_le _⟩ dJ0_charAt_5068e_12 (fun r_2 I_2 R_2 J_2 H locs hp_2 hP hD hS _ _ => ?_)
  obtain ⟨hr_2, hu_2⟩ := hp_2
  cases hu_2
  exact z_zret (v := r_2) hx hb hr hlocks hP hD hS (zR_char hr_2) dJ0_charAt_5068e_15 ⟨hr_2, rfl⟩
set_option maxHeartbeats 4000000 in
set_option maxRecDepth 100000 in
theorem xk_X7_isWord_1 (l : Launch) (D : va_G) (q : Nat → Nat) (cA : Nat → ClassId) (ad av : Nat → Nat) (t9 : Nat) (F : Nat → Nat → Int32) (I R : Nat → Nat → Int32) (J : Nat → Nat → Int64) (hI : xInv F (I, R, J))  : zNi (zSS zXRs 81 q ad av t9) l D vwCl (zXtys cA) 81 q (zXd q cA) yX7_isWord cX7_isWord 3 (some .boolean) ({ frames := 4, cells := 0, slots := 0, locals := 85 } : Room) [.ref (q 1), .ref (ad 5)] (I, R, J) (fun r u => (r = nI 1 ∧ u = (I, R, J)) ∨ (r = nI 0 ∧ u = (I, R, J))) := by
  intro sz
  refine z_bodyN (by decide +kernel) (Nat.le_of_ble_eq_true rfl) (fun p e s m below meth c ls hx hb hml hr ht hown hlocks hsz hK hP hD hS hN hl => ?_)
  have hA : ∀ a, s.heap.size ≤ a → zA 81 q sz a := fun a h => Or.inr (hsz ▸ h)
  have hl : lv_has ls 3 [(0, .ref (q 1)), (1, .ref (ad 5))] := hl
  have hZ : zSz zXRs 81 q ad av t9 sz s := hsz ▸ hN
  refine lv_aload_n hx hb dX7_isWord_0 rfl (lv_at hl 0 rfl) ?_
  refine z_get hx hb ht hown hK hP ziX7 rfl 1 (by decide) 4 (by decide) hw_1_42 rfl (v := .int (I 1 4)) rfl dX7_isWord_1 ?_
  refine lv_iconst (v := nI 1) hx hb dX7_isWord_4 (by decide +kernel) ?_
  refine lv_icmp_ne (tgt := 24) hx hb dX7_isWord_5 (by decide) (fun c_1 => ?_) (fun c_1 => ?_)
  · have t_c_1 := z_eqF c_1
    refine lv_iconst (v := nI 0) hx hb dX7_isWord_24 (by decide +kernel) ?_
    exact z_zret (v := nI 0) hx hb hr hlocks hP hD hS (by decide +kernel) dX7_isWord_25 (Or.inr ⟨rfl, rfl⟩)
  · have t_c_1 := z_eqT c_1
    have f_2 : zR 1 1 (I 1 4) := zR_eqx t_c_1 zk_1
    refine lv_aload_n hx hb dX7_isWord_8 rfl (lv_at hl 0 rfl) ?_
    refine z_get hx hb ht hown hK hP ziX7 rfl 1 (by decide) 6 (by decide) hw_1_44 rfl (v := .int (I 1 6)) rfl dX7_isWord_9 ?_
    have f_3 : zR 0 800 (I 1 6) := xI hI 1 6
    refine lv_aload_n hx hb dX7_isWord_12 rfl (lv_at hl 0 rfl) ?_
    refine z_get hx hb ht hown hK hP ziX7 rfl 1 (by decide) 5 (by decide) hw_1_43 rfl (v := .int (I 1 5)) rfl dX7_isWord_13 ?_
    have f_4 : zR 0 800 (I 1 5) := xI hI 1 5
    refine lv_isub hx hb dX7_isWord_16 ?_
    refine lv_topi (fun v_5 ev_5 => ?_)
    have hv_5 : zR (-800) 800 v_5 := ev_5 ▸ zR_sub f_3 f_4 (by decide)
    refine lv_aload_n hx hb dX7_isWord_17 rfl (lv_at hl 1 rfl) ?_
    refine z_cNXi (As := []) (rest := [.int (v_5)]) hx hb hml hown ht (xk_J0_length_8abf5_1 l D q cA ad av t9 F _ _ _ hI ) hw_2_187 hmJ0_length_8abf5 ⟨rfl, rfl⟩ (na := 0) rfl (by decide +kernel) (by decide) (vk_recv hZ.1 (by decide) hS) hK hP hD hS hA (zSS_c (Rs := zXRs) (t9 := t9) (fun _ _ _ => zXRs_c)) (zSS_w (Rs := zXRs) (t9 := t9) (fun _ _ _ => zXRs_w) hN hsz hS) hl.1 rfl (Nat.le_of_ble_eq_true rfl) ⟨Nat.zero_le _, Nat.zero_le _⟩ dX7_isWord_18 (fun r_6 I_6 R_6 J_6 H locs hp_6 hP hD hS _ _ => ?_)
    obtain ⟨rfl, hu_6⟩ := hp_6
    cases hu_6
    refine lv_icmp_eq (tgt := 26) hx hb dX7_isWord_21 (by decide) (fun c_7 => ?_) (fun c_7 => ?_)
    · have t_c_7 := z_eqT c_7
      have f_8 : zR 5 5 (v_5) := zR_eqx t_c_7 zk_5
      have f_9 : zR 0 795 (I 1 5) := z_start f_3 f_4 ev_5 f_8 (by decide)
      refine lv_iconst (v := nI 0) hx hb dX7_isWord_26 (by decide +kernel) ?_
      refine lv_istore_n (lv' := [(2, .int (nI 0)), (0, .ref (q 1)), (1, .ref (ad 5))]) hx hb dX7_isWord_27 rfl hl (by decide) rfl (fun ls hl => ?_)
      have loop_43 : ∀ N : Nat, ∀ x_42 : Int32, zR 0 5 x_42 → (2147483648 - (x_42).toInt).toNat < N → ∀ (H : Heap) (locs : List Loc), va_P D vwCl (zw 81 q (zXd q cA) I R J) H → va_D (zA 81 q sz) (zw 81 q (zXd q cA) I R J) → va_S (zA 81 q sz) s.heap H locs → ∀ ls : Array Slot, lv_has ls 3 [(0, .ref (q 1)), (1, .ref (ad 5)), (2, .int (x_42))] → W p l e ({ frames := 4, cells := 0, slots := 0, locals := 85 } : Room) s m ([.ref (q 1), .ref (ad 5)] : List Value).toArray below meth c H locs 0 0 (MQ below (va_Qi (fun r u => (r = nI 1 ∧ u = (I, R, J)) ∨ (r = nI 0 ∧ u = (I, R, J))) (zB D vwCl 81 q (zXd q cA) sz) (zA 81 q sz)) ([.ref (q 1), .ref (ad 5)] : List Value).toArray s 0 0 (zA 81 q sz)) (F0 m 28 ls []) := by
        intro N
        induction N with
        | zero => intro x_42 hx_42 hN; exact absurd hN (Nat.not_lt_zero _)
        | succ N ih_45 =>
          intro x_42 hx_42 hN_44 H locs hP hD hS ls hl
          refine lv_iload_n hx hb dX7_isWord_28 rfl (lv_at hl 2 rfl) ?_
          refine lv_aload_n hx hb dX7_isWord_29 rfl (lv_at hl 1 rfl) ?_
          refine z_cNXi (As := []) (rest := [.int (x_42)]) hx hb hml hown ht (xk_J0_length_8abf5_1 l D q cA ad av t9 F _ _ _ hI ) hw_2_187 hmJ0_length_8abf5 ⟨rfl, rfl⟩ (na := 0) rfl (by decide +kernel) (by decide) (vk_recv hZ.1 (by decide) hS) hK hP hD hS hA (zSS_c (Rs := zXRs) (t9 := t9) (fun _ _ _ => zXRs_c)) (zSS_w (Rs := zXRs) (t9 := t9) (fun _ _ _ => zXRs_w) hN hsz hS) hl.1 rfl (Nat.le_of_ble_eq_true rfl) ⟨Nat.zero_le _, Nat.zero_le _⟩ dX7_isWord_30 (fun r_46 I_46 R_46 J_46 H locs hp_46 hP hD hS _ _ => ?_)
          obtain ⟨rfl, hu_46⟩ := hp_46
          cases hu_46
          refine lv_icmp_ge (tgt := 63) hx hb dX7_isWord_33 (by decide) (fun c_47 => ?_) (fun c_47 => ?_)
          · have t_c_47 := z_leT c_47
            have f_48 : zR 5 5 (x_42) := zR_ley t_c_47 zk_5 hx_42 (by decide)
            refine lv_iconst (v := nI 1) hx hb dX7_isWord_63 (by decide +kernel) ?_
            exact z_zret (v := nI 1) hx hb hr hlocks hP hD hS (by decide +kernel) dX7_isWord_64 (Or.inl ⟨rfl, rfl⟩)
          · have t_c_47 := z_leF c_47
            have f_49 : zR 0 4 (x_42) := zR_ltx t_c_47 hx_42 zk_5 (by decide)
            refine lv_aload_n hx hb dX7_isWord_36 rfl (lv_at hl 0 rfl) ?_
            refine z_get hx hb ht hown hK hP ziX7 rfl 1 (by decide) 0 (by decide) hw_1_35 rfl (v := .ref (q 2)) rfl dX7_isWord_37 ?_
            refine lv_aload_n hx hb dX7_isWord_40 rfl (lv_at hl 0 rfl) ?_
            refine z_get hx hb ht hown hK hP ziX7 rfl 1 (by decide) 5 (by decide) hw_1_43 rfl (v := .int (I 1 5)) rfl dX7_isWord_41 ?_
            refine lv_iload_n hx hb dX7_isWord_44 rfl (lv_at hl 2 rfl) ?_
            refine lv_iadd hx hb dX7_isWord_45 ?_
            refine z_rng (a := 0) (b := 799) (zR_add f_9 f_49 (by decide)) (fun v_50 hv_50 => ?_)
            refine z_bald hx hb hK hP 2 (by decide) 0 rfl rfl (zR_vin hv_50 (by decide)) dX7_isWord_46 ?_
            refine z_eqi (y := R 2 (v_50).toNatClampNeg) rfl ?_
            refine lv_aload_n hx hb dX7_isWord_47 rfl (lv_at hl 1 rfl) ?_
            refine lv_iload_n hx hb dX7_isWord_48 rfl (lv_at hl 2 rfl) ?_
            refine z_cNXi (As := [.int (x_42)]) (rest := [.int (R 2 (v_50).toNatClampNeg)]) hx hb hml hown ht (xk_J0_charAt_5068e_3 l D q cA ad av t9 F _ _ _ hI (x_42) f_49) hw_2_197 hmJ0_charAt_5068e ⟨rfl, rfl⟩ (na := 1) rfl (by decide +kernel) (by decide) (vk_recv hZ.1 (by decide) hS) hK hP hD hS hA (zSS_c (Rs := zXRs) (t9 := t9) (fun _ _ _ => zXRs_c)) (zSS_w (Rs := zXRs) (t9 := t9) (fun _ _ _ => zXRs_w) hN hsz hS) hl.1 rfl (Nat.le_of_ble_eq_true rfl) ⟨Nat.zero_le _, Nat.zero_le _⟩ dX7_isWord_49 (fun r_51 I_51 R_51 J_51 H locs hp_51 hP hD hS _ _ => ?_)
            obtain ⟨hr_51, hu_51⟩ := hp_51
            cases hu_51
            refine lv_icmp_eq (tgt := 57) hx hb dX7_isWord_52 (by decide) (fun c_52 => ?_) (fun c_52 => ?_)
            · have t_c_52 := z_eqT c_52
              have f_53 : zR 0 65535 (R 2 (v_50).toNatClampNeg) := zR_eqx t_c_52 hr_51
              obtain ⟨v_54, ev_54⟩ : ∃ y : Int32, y = x_42 + nI 1 := ⟨_, rfl⟩
              have hv_54 : zR 1 5 v_54 := ev_54 ▸ zR_add f_49 zk_1 (by decide)
              have mv_54 : v_54.toInt = (x_42).toInt + 1 := by rw [ev_54, zR_addE f_49 zk_1 (by decide)]; rfl
              refine lv_iinc (v := v_54) (lv' := [(2, .int (v_54)), (0, .ref (q 1)), (1, .ref (ad 5))]) hx hb dX7_isWord_57 hl (k := 2) rfl (ev_54 ▸ rfl) (by decide) rfl (fun ls hl => ?_)
              refine lv_goto (tgt := 28) hx hb dX7_isWord_60 (by decide) ?_
              exact ih_45 (v_54) (zR_w hv_54 (by decide)) (z2_up mv_54 (by decide) hN_44) _ _ hP hD hS _ (lv_sub hl [1, 2, 0] rfl)
            · have t_c_52 := z_eqF c_52
              refine lv_iconst (v := nI 0) hx hb dX7_isWord_55 (by decide +kernel) ?_
              exact z_zret (v := nI 0) hx hb hr hlocks hP hD hS (by decide +kernel) dX7_isWord_56 (Or.inr ⟨rfl, rfl⟩)
      exact loop_43 _ (nI 0) (zR_w zk_0 (by decide)) (Nat.lt_succ_self _) _ _ hP hD hS _ (lv_sub hl [1, 2, 0] rfl)
    · have t_c_7 := z_eqF c_7
      refine lv_iconst (v := nI 0) hx hb dX7_isWord_24 (by decide +kernel) ?_
      exact z_zret (v := nI 0) hx hb hr hlocks hP hD hS (by decide +kernel) dX7_isWord_25 (Or.inr ⟨rfl, rfl⟩)
set_option maxHeartbeats 4000000 in
set_option maxRecDepth 100000 in
theorem xk_X7_refuse (l : Launch) (D : va_G) (q : Nat → Nat) (cA : Nat → ClassId) (F : Nat → Nat → Int32) (I R : Nat → Nat → Int32) (J : Nat → Nat → Int64) (hI : xInv F (I, R, J)) (pa0 : Int32) (hpa0 : zR 0 1 pa0) : zMv l D vwCl (zXtys cA) 81 q (zXd q cA) yX7_refuse cX7_refuse 2 none ({ frames := 0, cells := 0, slots := 0, locals := 0 } : Room) [.ref (q 1), .int (pa0)] (I, R, J) (fun u => (xInv F u ∧ (∀ k, k ≠ 1 → u.1 k = I k) ∧ u.2 = (R, J))) := by
  intro sz
  refine z_body (by decide +kernel) (Nat.le_of_ble_eq_true rfl) (fun p e s m below meth c ls hx hb hml hr ht hown hlocks hsz hK hP hD hS hl => ?_)
  have hA : ∀ a, s.heap.size ≤ a → zA 81 q sz a := fun a h => Or.inr (hsz ▸ h)
  have hl : lv_has ls 2 [(0, .ref (q 1)), (1, .int (pa0))] := hl
  refine lv_aload_n hx hb dX7_refuse_0 rfl (lv_at hl 0 rfl) ?_
  refine z_get hx hb ht hown hK hP ziX7 rfl 1 (by decide) 2 (by decide) hw_1_38 rfl (v := .int (I 1 2)) rfl dX7_refuse_1 ?_
  refine lv_if_ne (tgt := 20) hx hb dX7_refuse_4 (by decide) (fun c_1 => ?_) (fun c_1 => ?_)
  · have t_c_1 := z_eqF c_1
    exact z_vret hx hb hr hlocks hP hD hS dX7_refuse_20 ⟨hI, (fun (_ : Nat) _ => rfl), rfl⟩
  · have t_c_1 := z_eqT c_1
    have f_2 : zR 0 0 (I 1 2) := zR_eqx t_c_1 zk_z
    refine lv_aload_n hx hb dX7_refuse_7 rfl (lv_at hl 0 rfl) ?_
    refine lv_iload_n hx hb dX7_refuse_8 rfl (lv_at hl 1 rfl) ?_
    refine z_putI hx hb ht hown hK hP hD hS ziX7 tyX7 tyX7_ok nmX7 rfl 1 (by decide) 2 (by decide) hw_1_38 rfl (v := pa0) rfl rfl rfl (Nat.le_of_ble_eq_true rfl) rfl dX7_refuse_9 (fun H locs hP hD hS => ?_)
    have hI_3 := xInv_I hI 1 2 (pa0) (zR_any (pa0)) rfl
    have hf_4 : ∀ k, k ≠ 1 → (zp I 1 2 (pa0)) k = I k := fun k h => (zp_nk h).trans ((fun (_ : Nat) _ => rfl) k h)
    refine lv_aload_n hx hb dX7_refuse_12 rfl (lv_at hl 0 rfl) ?_
    refine lv_aload_n hx hb dX7_refuse_13 rfl (lv_at hl 0 rfl) ?_
    refine z_get hx hb ht hown hK hP ziX7 rfl 1 (by decide) 5 (by decide) hw_1_43 rfl (v := .int (I 1 5)) rfl dX7_refuse_14 ?_
    have f_5 : zR 0 800 (I 1 5) := xI hI 1 5
    refine z_putI hx hb ht hown hK hP hD hS ziX7 tyX7 tyX7_ok nmX7 rfl 1 (by decide) 3 (by decide) hw_1_40 rfl (v := I 1 5) rfl rfl rfl (Nat.le_of_ble_eq_true rfl) rfl dX7_refuse_17 (fun H locs hP hD hS => ?_)
    have hI_6 := xInv_I hI_3 1 3 (I 1 5) (zR_any (I 1 5)) rfl
    have hf_7 : ∀ k, k ≠ 1 → (zp (zp I 1 2 (pa0)) 1 3 (I 1 5)) k = I k := fun k h => (zp_nk h).trans (hf_4 k h)
    exact z_vret hx hb hr hlocks hP hD hS dX7_refuse_20 ⟨hI_6, hf_7, rfl⟩
set_option maxHeartbeats 4000000 in
set_option maxRecDepth 100000 in
theorem xk_X7_expect (l : Launch) (D : va_G) (q : Nat → Nat) (cA : Nat → ClassId) (F : Nat → Nat → Int32) (I R : Nat → Nat → Int32) (J : Nat → Nat → Int64) (hI : xInv F (I, R, J)) (pa0 : Int32) (hpa0 : zR 0 1 pa0) : zMv l D vwCl (zXtys cA) 81 q (zXd q cA) yX7_expect cX7_expect 2 none ({ frames := 2, cells := 0, slots := 0, locals := 40 } : Room) [.ref (q 1), .int (pa0)] (I, R, J) (fun u => (xInv F u ∧ (∀ k, k ≠ 1 → u.1 k = I k) ∧ u.2 = (R, J))) := by
  intro sz
  refine z_body (by decide +kernel) (Nat.le_of_ble_eq_true rfl) (fun p e s m below meth c ls hx hb hml hr ht hown hlocks hsz hK hP hD hS hl => ?_)
  have hA : ∀ a, s.heap.size ≤ a → zA 81 q sz a := fun a h => Or.inr (hsz ▸ h)
  have hl : lv_has ls 2 [(0, .ref (q 1)), (1, .int (pa0))] := hl
  refine lv_iload_n hx hb dX7_expect_0 rfl (lv_at hl 1 rfl) ?_
  refine lv_if_eq (tgt := 11) hx hb dX7_expect_1 (by decide) (fun c_1 => ?_) (fun c_1 => ?_)
  · have t_c_1 := z_eqT c_1
    have f_2 : zR 0 0 (pa0) := zR_eqx t_c_1 zk_z
    refine lv_aload_n hx hb dX7_expect_11 rfl (lv_at hl 0 rfl) ?_
    refine lv_iconst (v := nI 1) hx hb dX7_expect_12 (by decide +kernel) ?_
    refine z_callVv (k := 1) (As := [.int (nI 1)]) (rest := []) hx hb hml hown ht (xk_X7_refuse l D q cA F _ _ _ hI (nI 1) (zR_w zk_1 (by decide))) hw_2_239 hmX7_refuse ⟨rfl, rfl⟩ (na := 1) rfl (by decide +kernel) (by decide) (by decide) rfl rfl hK hP hD hS hA hl.1 rfl (Nat.le_of_ble_eq_true rfl) ⟨Nat.zero_le _, Nat.zero_le _⟩ dX7_expect_13 (fun I_3 R_3 J_3 H locs hp_3 hP hD hS _ _ => ?_)
    obtain ⟨hv_3, hk_3, hj_3⟩ := hp_3
    dsimp only at hj_3 hk_3
    cases hj_3
    have hf_4 : ∀ k, k ≠ 1 → I_3 k = I k := fun k h => (hk_3 k h).trans ((fun (_ : Nat) _ => rfl) k h)
    exact z_vret hx hb hr hlocks hP hD hS dX7_expect_16 ⟨hv_3, hf_4, rfl⟩
  · have t_c_1 := z_eqF c_1
    have f_5 : zR 1 1 (pa0) := zR_nex t_c_1 hpa0 zk_z (by decide)
    refine lv_aload_n hx hb dX7_expect_4 rfl (lv_at hl 0 rfl) ?_
    refine z_callVv (k := 1) (As := []) (rest := []) hx hb hml hown ht (xk_X7_step l D q cA F _ _ _ hI ) hw_2_161 hmX7_step ⟨rfl, rfl⟩ (na := 0) rfl (by decide +kernel) (by decide) (by decide) rfl rfl hK hP hD hS hA hl.1 rfl (Nat.le_of_ble_eq_true rfl) ⟨Nat.zero_le _, Nat.zero_le _⟩ dX7_expect_5 (fun I_6 R_6 J_6 H locs hp_6 hP hD hS _ _ => ?_)
    obtain ⟨hv_6, hk_6, hj_6⟩ := hp_6
    dsimp only at hj_6 hk_6
    cases hj_6
    have hf_7 : ∀ k, k ≠ 1 → I_6 k = I k := fun k h => (hk_6 k h).trans ((fun (_ : Nat) _ => rfl) k h)
    refine lv_goto (tgt := 16) hx hb dX7_expect_8 (by decide) ?_
    exact z_vret hx hb hr hlocks hP hD hS dX7_expect_16 ⟨hv_6, hf_7, rfl⟩
set_option maxHeartbeats 4000000 in
set_option maxRecDepth 100000 in
theorem xk_X7_told (l : Launch) (D : va_G) (q : Nat → Nat) (cA : Nat → ClassId) (F : Nat → Nat → Int32) (I R : Nat → Nat → Int32) (J : Nat → Nat → Int64) (hI : xInv F (I, R, J))  : zMi l D vwCl (zXtys cA) 81 q (zXd q cA) yX7_told cX7_told 3 (some .int) ({ frames := 0, cells := 0, slots := 0, locals := 0 } : Room) [.ref (q 1)] (I, R, J) (fun _ u => u = (I, R, J)) := by
  intro sz
  refine z_body (by decide +kernel) (Nat.le_of_ble_eq_true rfl) (fun p e s m below meth c ls hx hb hml hr ht hown hlocks hsz hK hP hD hS hl => ?_)
  have hA : ∀ a, s.heap.size ≤ a → zA 81 q sz a := fun a h => Or.inr (hsz ▸ h)
  have hl : lv_has ls 3 [(0, .ref (q 1))] := hl
  refine lv_iconst (v := nI 0) hx hb dX7_told_0 (by decide +kernel) ?_
  refine lv_istore_n (lv' := [(1, .int (nI 0)), (0, .ref (q 1))]) hx hb dX7_told_1 rfl hl (by decide) rfl (fun ls hl => ?_)
  refine lv_aload_n hx hb dX7_told_2 rfl (lv_at hl 1 rfl) ?_
  refine z_get hx hb ht hown hK hP ziX7 rfl 1 (by decide) 5 (by decide) hw_1_43 rfl (v := .int (I 1 5)) rfl dX7_told_3 ?_
  have f_1 : zR 0 800 (I 1 5) := xI hI 1 5
  refine lv_istore_n (lv' := [(2, .int (I 1 5)), (1, .int (nI 0)), (0, .ref (q 1))]) hx hb dX7_told_6 rfl hl (by decide) rfl (fun ls hl => ?_)
  have t_24 : ∀ x_22 : Int32, ∀ x_23 : Int32, zR 0 800 x_23 → ∀ (H : Heap) (locs : List Loc), va_P D vwCl (zw 81 q (zXd q cA) I R J) H → va_D (zA 81 q sz) (zw 81 q (zXd q cA) I R J) → va_S (zA 81 q sz) s.heap H locs → ∀ ls : Array Slot, lv_has ls 3 [(0, .ref (q 1)), (1, .int (x_22)), (2, .int (x_23))] → W p l e ({ frames := 0, cells := 0, slots := 0, locals := 0 } : Room) s m ([.ref (q 1)] : List Value).toArray below meth c H locs 0 0 (MQ below (va_Qi (fun _ u => u = (I, R, J)) (zB D vwCl 81 q (zXd q cA) sz) (zA 81 q sz)) ([.ref (q 1)] : List Value).toArray s 0 0 (zA 81 q sz)) (F0 m 42 ls []) := by
    intro x_22 x_23 hx_23 H locs hP hD hS ls hl
    refine lv_iload_n hx hb dX7_told_42 rfl (lv_at hl 1 rfl) ?_
    exact z_iret (v := x_22) hx hb hr hlocks hP hD hS dX7_told_43 rfl
  have loop_27 : ∀ N : Nat, ∀ x_25 : Int32, ∀ x_26 : Int32, zR 0 800 x_26 → (2147483648 - (x_26).toInt).toNat < N → ∀ (H : Heap) (locs : List Loc), va_P D vwCl (zw 81 q (zXd q cA) I R J) H → va_D (zA 81 q sz) (zw 81 q (zXd q cA) I R J) → va_S (zA 81 q sz) s.heap H locs → ∀ ls : Array Slot, lv_has ls 3 [(0, .ref (q 1)), (1, .int (x_25)), (2, .int (x_26))] → W p l e ({ frames := 0, cells := 0, slots := 0, locals := 0 } : Room) s m ([.ref (q 1)] : List Value).toArray below meth c H locs 0 0 (MQ below (va_Qi (fun _ u => u = (I, R, J)) (zB D vwCl 81 q (zXd q cA) sz) (zA 81 q sz)) ([.ref (q 1)] : List Value).toArray s 0 0 (zA 81 q sz)) (F0 m 7 ls []) := by
    intro N
    induction N with
    | zero => intro x_25 x_26 hx_26 hN; exact absurd hN (Nat.not_lt_zero _)
    | succ N ih_29 =>
      intro x_25 x_26 hx_26 hN_28 H locs hP hD hS ls hl
      refine lv_iload_n hx hb dX7_told_7 rfl (lv_at hl 2 rfl) ?_
      refine lv_aload_n hx hb dX7_told_8 rfl (lv_at hl 0 rfl) ?_
      refine z_get hx hb ht hown hK hP ziX7 rfl 1 (by decide) 6 (by decide) hw_1_44 rfl (v := .int (I 1 6)) rfl dX7_told_9 ?_
      have f_30 : zR 0 800 (I 1 6) := xI hI 1 6
      refine lv_icmp_ge (tgt := 42) hx hb dX7_told_12 (by decide) (fun c_31 => ?_) (fun c_31 => ?_)
      · have t_c_31 := z_leT c_31
        exact t_24 (x_25) (x_26) hx_26 _ _ hP hD hS _ (lv_sub hl [0, 1, 2] rfl)
      · have t_c_31 := z_leF c_31
        have f_32 : zR 0 799 (x_26) := zR_ltx t_c_31 hx_26 f_30 (by decide)
        have f_33 : zR 1 800 (I 1 6) := zR_lty t_c_31 hx_26 f_30 (by decide)
        refine lv_iload_n hx hb dX7_told_15 rfl (lv_at hl 1 rfl) ?_
        refine lv_ldc (v := nI 1000000) hx hb hown (ht _ hw_3_12) dX7_told_16 ?_
        refine lv_icmp_ge (tgt := 42) hx hb dX7_told_18 (by decide) (fun c_34 => ?_) (fun c_34 => ?_)
        · have t_c_34 := z_leT c_34
          have f_35 : zR 1000000 2147483647 (x_25) := zR_ley t_c_34 zk_1000000 (zR_any (x_25)) (by decide)
          exact t_24 (x_25) (x_26) (zR_w f_32 (by decide)) _ _ hP hD hS _ (lv_sub hl [0, 1, 2] rfl)
        · have t_c_34 := z_leF c_34
          have f_36 : zR (-2147483648) 999999 (x_25) := zR_ltx t_c_34 (zR_any (x_25)) zk_1000000 (by decide)
          refine lv_iload_n hx hb dX7_told_21 rfl (lv_at hl 1 rfl) ?_
          refine lv_bipush (v := nI 10) hx hb dX7_told_22 (by decide +kernel) ?_
          refine lv_imul hx hb dX7_told_24 ?_
          refine z_any (fun v_37 => ?_)
          refine lv_aload_n hx hb dX7_told_25 rfl (lv_at hl 0 rfl) ?_
          refine z_get hx hb ht hown hK hP ziX7 rfl 1 (by decide) 0 (by decide) hw_1_35 rfl (v := .ref (q 2)) rfl dX7_told_26 ?_
          refine lv_iload_n hx hb dX7_told_29 rfl (lv_at hl 2 rfl) ?_
          refine z_bald hx hb hK hP 2 (by decide) 0 rfl rfl (zR_vin f_32 (by decide)) dX7_told_30 ?_
          refine z_eqi (y := R 2 (x_26).toNatClampNeg) rfl ?_
          refine lv_iadd hx hb dX7_told_31 ?_
          refine z_any (fun v_38 => ?_)
          refine lv_bipush (v := nI 48) hx hb dX7_told_32 (by decide +kernel) ?_
          refine lv_isub hx hb dX7_told_34 ?_
          refine z_any (fun v_39 => ?_)
          refine lv_istore_n (lv' := [(1, .int (v_39)), (0, .ref (q 1)), (2, .int (x_26))]) hx hb dX7_told_35 rfl hl (by decide) rfl (fun ls hl => ?_)
          obtain ⟨v_40, ev_40⟩ : ∃ y : Int32, y = x_26 + nI 1 := ⟨_, rfl⟩
          have hv_40 : zR 1 800 v_40 := ev_40 ▸ zR_add f_32 zk_1 (by decide)
          have mv_40 : v_40.toInt = (x_26).toInt + 1 := by rw [ev_40, zR_addE f_32 zk_1 (by decide)]; rfl
          refine lv_iinc (v := v_40) (lv' := [(2, .int (v_40)), (1, .int (v_39)), (0, .ref (q 1))]) hx hb dX7_told_36 hl (k := 2) rfl (ev_40 ▸ rfl) (by decide) rfl (fun ls hl => ?_)
          refine lv_goto (tgt := 7) hx hb dX7_told_39 (by decide) ?_
          exact ih_29 (v_39) (v_40) (zR_w hv_40 (by decide)) (z2_up mv_40 (by decide) hN_28) _ _ hP hD hS _ (lv_sub hl [2, 1, 0] rfl)
  exact loop_27 _ (nI 0) (I 1 5) f_1 (Nat.lt_succ_self _) _ _ hP hD hS _ (lv_sub hl [2, 1, 0] rfl)
set_option maxHeartbeats 4000000 in
set_option maxRecDepth 100000 in
theorem xk_X7_refuse_1 (l : Launch) (D : va_G) (q : Nat → Nat) (cA : Nat → ClassId) (F : Nat → Nat → Int32) (I R : Nat → Nat → Int32) (J : Nat → Nat → Int64) (hI : xInv F (I, R, J)) (pa0 : Int32) (hpa0 : zR 0 2 pa0) : zMv l D vwCl (zXtys cA) 81 q (zXd q cA) yX7_refuse cX7_refuse 2 none ({ frames := 0, cells := 0, slots := 0, locals := 0 } : Room) [.ref (q 1), .int (pa0)] (I, R, J) (fun u => (xInv F u ∧ (∀ k, k ≠ 1 → u.1 k = I k) ∧ u.2 = (R, J))) := by
  intro sz
  refine z_body (by decide +kernel) (Nat.le_of_ble_eq_true rfl) (fun p e s m below meth c ls hx hb hml hr ht hown hlocks hsz hK hP hD hS hl => ?_)
  have hA : ∀ a, s.heap.size ≤ a → zA 81 q sz a := fun a h => Or.inr (hsz ▸ h)
  have hl : lv_has ls 2 [(0, .ref (q 1)), (1, .int (pa0))] := hl
  refine lv_aload_n hx hb dX7_refuse_0 rfl (lv_at hl 0 rfl) ?_
  refine z_get hx hb ht hown hK hP ziX7 rfl 1 (by decide) 2 (by decide) hw_1_38 rfl (v := .int (I 1 2)) rfl dX7_refuse_1 ?_
  refine lv_if_ne (tgt := 20) hx hb dX7_refuse_4 (by decide) (fun c_1 => ?_) (fun c_1 => ?_)
  · have t_c_1 := z_eqF c_1
    exact z_vret hx hb hr hlocks hP hD hS dX7_refuse_20 ⟨hI, (fun (_ : Nat) _ => rfl), rfl⟩
  · have t_c_1 := z_eqT c_1
    have f_2 : zR 0 0 (I 1 2) := zR_eqx t_c_1 zk_z
    refine lv_aload_n hx hb dX7_refuse_7 rfl (lv_at hl 0 rfl) ?_
    refine lv_iload_n hx hb dX7_refuse_8 rfl (lv_at hl 1 rfl) ?_
    refine z_putI hx hb ht hown hK hP hD hS ziX7 tyX7 tyX7_ok nmX7 rfl 1 (by decide) 2 (by decide) hw_1_38 rfl (v := pa0) rfl rfl rfl (Nat.le_of_ble_eq_true rfl) rfl dX7_refuse_9 (fun H locs hP hD hS => ?_)
    have hI_3 := xInv_I hI 1 2 (pa0) (zR_any (pa0)) rfl
    have hf_4 : ∀ k, k ≠ 1 → (zp I 1 2 (pa0)) k = I k := fun k h => (zp_nk h).trans ((fun (_ : Nat) _ => rfl) k h)
    refine lv_aload_n hx hb dX7_refuse_12 rfl (lv_at hl 0 rfl) ?_
    refine lv_aload_n hx hb dX7_refuse_13 rfl (lv_at hl 0 rfl) ?_
    refine z_get hx hb ht hown hK hP ziX7 rfl 1 (by decide) 5 (by decide) hw_1_43 rfl (v := .int (I 1 5)) rfl dX7_refuse_14 ?_
    have f_5 : zR 0 800 (I 1 5) := xI hI 1 5
    refine z_putI hx hb ht hown hK hP hD hS ziX7 tyX7 tyX7_ok nmX7 rfl 1 (by decide) 3 (by decide) hw_1_40 rfl (v := I 1 5) rfl rfl rfl (Nat.le_of_ble_eq_true rfl) rfl dX7_refuse_17 (fun H locs hP hD hS => ?_)
    have hI_6 := xInv_I hI_3 1 3 (I 1 5) (zR_any (I 1 5)) rfl
    have hf_7 : ∀ k, k ≠ 1 → (zp (zp I 1 2 (pa0)) 1 3 (I 1 5)) k = I k := fun k h => (zp_nk h).trans (hf_4 k h)
    exact z_vret hx hb hr hlocks hP hD hS dX7_refuse_20 ⟨hI_6, hf_7, rfl⟩
set_option maxHeartbeats 4000000 in
set_option maxRecDepth 100000 in
theorem xk_X7_number (l : Launch) (D : va_G) (q : Nat → Nat) (cA : Nat → ClassId) (F : Nat → Nat → Int32) (I R : Nat → Nat → Int32) (J : Nat → Nat → Int64) (hI : xInv F (I, R, J))  : zMi l D vwCl (zXtys cA) 81 q (zXd q cA) yX7_number cX7_number 4 (some .int) ({ frames := 2, cells := 0, slots := 0, locals := 40 } : Room) [.ref (q 1), .int (nI 0), .int (nI 9999)] (I, R, J) (fun r u => zR 0 9999 r ∧ (xInv F u ∧ (∀ k, k ≠ 1 → u.1 k = I k) ∧ u.2 = (R, J))) := by
  intro sz
  refine z_body (by decide +kernel) (Nat.le_of_ble_eq_true rfl) (fun p e s m below meth c ls hx hb hml hr ht hown hlocks hsz hK hP hD hS hl => ?_)
  have hA : ∀ a, s.heap.size ≤ a → zA 81 q sz a := fun a h => Or.inr (hsz ▸ h)
  have hl : lv_has ls 4 [(0, .ref (q 1)), (1, .int (nI 0)), (2, .int (nI 9999))] := hl
  refine lv_aload_n hx hb dX7_number_0 rfl (lv_at hl 0 rfl) ?_
  refine z_get hx hb ht hown hK hP ziX7 rfl 1 (by decide) 4 (by decide) hw_1_42 rfl (v := .int (I 1 4)) rfl dX7_number_1 ?_
  refine lv_iconst (v := nI 2) hx hb dX7_number_4 (by decide +kernel) ?_
  refine lv_icmp_eq (tgt := 15) hx hb dX7_number_5 (by decide) (fun c_1 => ?_) (fun c_1 => ?_)
  · have t_c_1 := z_eqT c_1
    have f_2 : zR 2 2 (I 1 4) := zR_eqx t_c_1 zk_2
    refine lv_aload_n hx hb dX7_number_15 rfl (lv_at hl 0 rfl) ?_
    refine z_callVi (k := 1) (As := []) (rest := []) hx hb hml hown ht (xk_X7_told l D q cA F _ _ _ hI ) hw_3_8 hmX7_told ⟨rfl, rfl⟩ (na := 0) rfl (by decide +kernel) (by decide) (by decide) rfl rfl hK hP hD hS hA hl.1 rfl (Nat.le_of_ble_eq_true rfl) ⟨Nat.zero_le _, Nat.zero_le _⟩ dX7_number_16 (fun r_3 I_3 R_3 J_3 H locs hp_3 hP hD hS _ _ => ?_)
    cases hp_3
    refine lv_istore_n (lv' := [(3, .int (r_3)), (0, .ref (q 1)), (1, .int (nI 0)), (2, .int (nI 9999))]) hx hb dX7_number_19 rfl hl (by decide) rfl (fun ls hl => ?_)
    refine lv_iload_n hx hb dX7_number_20 rfl (lv_at hl 0 rfl) ?_
    refine lv_iload_n hx hb dX7_number_21 rfl (lv_at hl 2 rfl) ?_
    refine lv_icmp_lt (tgt := 30) hx hb dX7_number_22 (by decide) (fun c_4 => ?_) (fun c_4 => ?_)
    · have t_c_4 := z_ltT c_4
      have f_5 : zR (-2147483648) (-1) (r_3) := zR_ltx t_c_4 (zR_any (r_3)) zk_0 (by decide)
      refine lv_aload_n hx hb dX7_number_30 rfl (lv_at hl 1 rfl) ?_
      refine lv_iconst (v := nI 2) hx hb dX7_number_31 (by decide +kernel) ?_
      refine z_callVv (k := 1) (As := [.int (nI 2)]) (rest := []) hx hb hml hown ht (xk_X7_refuse_1 l D q cA F _ _ _ hI (nI 2) (zR_w zk_2 (by decide))) hw_2_239 hmX7_refuse ⟨rfl, rfl⟩ (na := 1) rfl (by decide +kernel) (by decide) (by decide) rfl rfl hK hP hD hS hA hl.1 rfl (Nat.le_of_ble_eq_true rfl) ⟨Nat.zero_le _, Nat.zero_le _⟩ dX7_number_32 (fun I_6 R_6 J_6 H locs hp_6 hP hD hS _ _ => ?_)
      obtain ⟨hv_6, hk_6, hj_6⟩ := hp_6
      dsimp only at hj_6 hk_6
      cases hj_6
      have hf_7 : ∀ k, k ≠ 1 → I_6 k = I k := fun k h => (hk_6 k h).trans ((fun (_ : Nat) _ => rfl) k h)
      refine lv_iconst (v := nI 0) hx hb dX7_number_35 (by decide +kernel) ?_
      exact z_iret (v := nI 0) hx hb hr hlocks hP hD hS dX7_number_36 ⟨(zR_w zk_0 (by decide)), ⟨hv_6, hf_7, rfl⟩⟩
    · have t_c_4 := z_ltF c_4
      have f_8 : zR 0 2147483647 (r_3) := zR_ley t_c_4 zk_0 (zR_any (r_3)) (by decide)
      refine lv_iload_n hx hb dX7_number_25 rfl (lv_at hl 0 rfl) ?_
      refine lv_iload_n hx hb dX7_number_26 rfl (lv_at hl 3 rfl) ?_
      refine lv_icmp_le (tgt := 37) hx hb dX7_number_27 (by decide) (fun c_9 => ?_) (fun c_9 => ?_)
      · have t_c_9 := z_leT c_9
        have f_10 : zR 0 9999 (r_3) := zR_lex t_c_9 f_8 zk_9999 (by decide)
        refine lv_aload_n hx hb dX7_number_37 rfl (lv_at hl 1 rfl) ?_
        refine z_callVv (k := 1) (As := []) (rest := []) hx hb hml hown ht (xk_X7_step l D q cA F _ _ _ hI ) hw_2_161 hmX7_step ⟨rfl, rfl⟩ (na := 0) rfl (by decide +kernel) (by decide) (by decide) rfl rfl hK hP hD hS hA hl.1 rfl (Nat.le_of_ble_eq_true rfl) ⟨Nat.zero_le _, Nat.zero_le _⟩ dX7_number_38 (fun I_11 R_11 J_11 H locs hp_11 hP hD hS _ _ => ?_)
        obtain ⟨hv_11, hk_11, hj_11⟩ := hp_11
        dsimp only at hj_11 hk_11
        cases hj_11
        have hf_12 : ∀ k, k ≠ 1 → I_11 k = I k := fun k h => (hk_11 k h).trans ((fun (_ : Nat) _ => rfl) k h)
        refine lv_iload_n hx hb dX7_number_41 rfl (lv_at hl 0 rfl) ?_
        exact z_iret (v := r_3) hx hb hr hlocks hP hD hS dX7_number_42 ⟨f_10, ⟨hv_11, hf_12, rfl⟩⟩
      · have t_c_9 := z_leF c_9
        have f_13 : zR 10000 2147483647 (r_3) := zR_lty t_c_9 zk_9999 f_8 (by decide)
        refine lv_aload_n hx hb dX7_number_30 rfl (lv_at hl 1 rfl) ?_
        refine lv_iconst (v := nI 2) hx hb dX7_number_31 (by decide +kernel) ?_
        refine z_callVv (k := 1) (As := [.int (nI 2)]) (rest := []) hx hb hml hown ht (xk_X7_refuse_1 l D q cA F _ _ _ hI (nI 2) (zR_w zk_2 (by decide))) hw_2_239 hmX7_refuse ⟨rfl, rfl⟩ (na := 1) rfl (by decide +kernel) (by decide) (by decide) rfl rfl hK hP hD hS hA hl.1 rfl (Nat.le_of_ble_eq_true rfl) ⟨Nat.zero_le _, Nat.zero_le _⟩ dX7_number_32 (fun I_14 R_14 J_14 H locs hp_14 hP hD hS _ _ => ?_)
        obtain ⟨hv_14, hk_14, hj_14⟩ := hp_14
        dsimp only at hj_14 hk_14
        cases hj_14
        have hf_15 : ∀ k, k ≠ 1 → I_14 k = I k := fun k h => (hk_14 k h).trans ((fun (_ : Nat) _ => rfl) k h)
        refine lv_iconst (v := nI 0) hx hb dX7_number_35 (by decide +kernel) ?_
        exact z_iret (v := nI 0) hx hb hr hlocks hP hD hS dX7_number_36 ⟨(zR_w zk_0 (by decide)), ⟨hv_14, hf_15, rfl⟩⟩
  · have t_c_1 := z_eqF c_1
    refine lv_aload_n hx hb dX7_number_8 rfl (lv_at hl 0 rfl) ?_
    refine lv_iconst (v := nI 1) hx hb dX7_number_9 (by decide +kernel) ?_
    refine z_callVv (k := 1) (As := [.int (nI 1)]) (rest := []) hx hb hml hown ht (xk_X7_refuse l D q cA F _ _ _ hI (nI 1) (zR_w zk_1 (by decide))) hw_2_239 hmX7_refuse ⟨rfl, rfl⟩ (na := 1) rfl (by decide +kernel) (by decide) (by decide) rfl rfl hK hP hD hS hA hl.1 rfl (Nat.le_of_ble_eq_true rfl) ⟨Nat.zero_le _, Nat.zero_le _⟩ dX7_number_10 (fun I_16 R_16 J_16 H locs hp_16 hP hD hS _ _ => ?_)
    obtain ⟨hv_16, hk_16, hj_16⟩ := hp_16
    dsimp only at hj_16 hk_16
    cases hj_16
    have hf_17 : ∀ k, k ≠ 1 → I_16 k = I k := fun k h => (hk_16 k h).trans ((fun (_ : Nat) _ => rfl) k h)
    refine lv_iconst (v := nI 0) hx hb dX7_number_13 (by decide +kernel) ?_
    exact z_iret (v := nI 0) hx hb hr hlocks hP hD hS dX7_number_14 ⟨(zR_w zk_0 (by decide)), ⟨hv_16, hf_17, rfl⟩⟩
set_option maxHeartbeats 4000000 in
set_option maxRecDepth 100000 in
theorem xk_J0_coder_7d493_2 (l : Launch) (D : va_G) (q : Nat → Nat) (cA : Nat → ClassId) (ad av : Nat → Nat) (t9 : Nat) (F : Nat → Nat → Int32) (I R : Nat → Nat → Int32) (J : Nat → Nat → Int64) (hI : xInv F (I, R, J))  : zNi (zSS zXRs 81 q ad av t9) l D vwCl (zXtys cA) 81 q (zXd q cA) yJ0_coder_7d493 cJ0_coder_7d493 1 (some .byte) ({ frames := 0, cells := 0, slots := 0, locals := 0 } : Room) [.ref (ad 6)] (I, R, J) (fun r u => r = nI 0 ∧ u = (I, R, J)) := by
  intro sz
  refine z_bodyN (by decide +kernel) (Nat.le_of_ble_eq_true rfl) (fun p e s m below meth c ls hx hb hml hr ht hown hlocks hsz hK hP hD hS hN hl => ?_)
  have hA : ∀ a, s.heap.size ≤ a → zA 81 q sz a := fun a h => Or.inr (hsz ▸ h)
  have hl : lv_has ls 1 [(0, .ref (ad 6))] := hl
  have hZ : zSz zXRs 81 q ad av t9 sz s := hsz ▸ hN
  refine va_gets hx hb hZ.2.1 hS hown (ht _ hw_2_195) (fun _ h => h) dJ0_coder_7d493_0 ?_
  refine z_eqi (y := nI 1) rfl ?_
  refine lv_if_eq (tgt := 13) hx hb dJ0_coder_7d493_3 (by decide) (fun c_0 => absurd c_0 (zD_ne zk_1 zk_z (by decide))) (fun _ => ?_)
  refine lv_aload_n hx hb dJ0_coder_7d493_6 rfl (lv_at hl 0 rfl) ?_
  refine vk_getf hx hb (hZ.1.1 6 (by decide)).2.1 hS hown (ht _ hw_8_165) (fun _ h => h) dJ0_coder_7d493_7 ?_
  refine z_eqi (y := nI 0) rfl ?_
  refine lv_goto (tgt := 14) hx hb dJ0_coder_7d493_10 (by decide) ?_
  exact z_zret (v := nI 0) hx hb hr hlocks hP hD hS (by decide +kernel) dJ0_coder_7d493_14 ⟨rfl, rfl⟩
set_option maxHeartbeats 4000000 in
set_option maxRecDepth 100000 in
theorem xk_J0_length_8abf5_2 (l : Launch) (D : va_G) (q : Nat → Nat) (cA : Nat → ClassId) (ad av : Nat → Nat) (t9 : Nat) (F : Nat → Nat → Int32) (I R : Nat → Nat → Int32) (J : Nat → Nat → Int64) (hI : xInv F (I, R, J))  : zNi (zSS zXRs 81 q ad av t9) l D vwCl (zXtys cA) 81 q (zXd q cA) yJ0_length_8abf5 cJ0_length_8abf5 1 (some .int) ({ frames := 1, cells := 0, slots := 0, locals := 20 } : Room) [.ref (ad 6)] (I, R, J) (fun r u => r = nI 6 ∧ u = (I, R, J)) := by
  intro sz
  refine z_bodyN (by decide +kernel) (Nat.le_of_ble_eq_true rfl) (fun p e s m below meth c ls hx hb hml hr ht hown hlocks hsz hK hP hD hS hN hl => ?_)
  have hA : ∀ a, s.heap.size ≤ a → zA 81 q sz a := fun a h => Or.inr (hsz ▸ h)
  have hl : lv_has ls 1 [(0, .ref (ad 6))] := hl
  have hZ : zSz zXRs 81 q ad av t9 sz s := hsz ▸ hN
  refine lv_aload_n hx hb dJ0_length_8abf5_0 rfl (lv_at hl 0 rfl) ?_
  refine vk_getf hx hb (hZ.1.1 6 (by decide)).2.2.1 hS hown (ht _ hw_8_164) (fun _ h => h) dJ0_length_8abf5_1 ?_
  refine va_tlen hx hb (hZ.1.1 6 (by decide)).2.2.2 hS (v := nI 6) rfl dJ0_length_8abf5_4 ?_
  refine lv_aload_n hx hb dJ0_length_8abf5_5 rfl (lv_at hl 0 rfl) ?_
  refine z_cNXi (As := []) (rest := [.int (nI 6)]) hx hb hml hown ht (xk_J0_coder_7d493_2 l D q cA ad av t9 F _ _ _ hI ) hw_2_191 hmJ0_coder_7d493 ⟨rfl, rfl⟩ (na := 0) rfl (by decide +kernel) (by decide) (vk_recv hZ.1 (by decide) hS) hK hP hD hS hA (zSS_c (Rs := zXRs) (t9 := t9) (fun _ _ _ => zXRs_c)) (zSS_w (Rs := zXRs) (t9 := t9) (fun _ _ _ => zXRs_w) hN hsz hS) hl.1 rfl (Nat.le_of_ble_eq_true rfl) ⟨Nat.zero_le _, Nat.zero_le _⟩ dJ0_length_8abf5_6 (fun r_1 I_1 R_1 J_1 H locs hp_1 hP hD hS _ _ => ?_)
  obtain ⟨rfl, hu_1⟩ := hp_1
  cases hu_1
  refine lv_ishr hx hb dJ0_length_8abf5_9 ?_
  refine z_eqi (y := nI 6) (by decide +kernel) ?_
  exact z_iret (v := nI 6) hx hb hr hlocks hP hD hS dJ0_length_8abf5_10 ⟨rfl, rfl⟩
set_option maxHeartbeats 4000000 in
set_option maxRecDepth 100000 in
theorem xk_J0_isLatin1_aae02_2 (l : Launch) (D : va_G) (q : Nat → Nat) (cA : Nat → ClassId) (ad av : Nat → Nat) (t9 : Nat) (F : Nat → Nat → Int32) (I R : Nat → Nat → Int32) (J : Nat → Nat → Int64) (hI : xInv F (I, R, J))  : zNi (zSS zXRs 81 q ad av t9) l D vwCl (zXtys cA) 81 q (zXd q cA) yJ0_isLatin1_aae02 cJ0_isLatin1_aae02 1 (some .boolean) ({ frames := 0, cells := 0, slots := 0, locals := 0 } : Room) [.ref (ad 6)] (I, R, J) (fun r u => (r = nI 1 ∧ u = (I, R, J))) := by
  intro sz
  refine z_bodyN (by decide +kernel) (Nat.le_of_ble_eq_true rfl) (fun p e s m below meth c ls hx hb hml hr ht hown hlocks hsz hK hP hD hS hN hl => ?_)
  have hA : ∀ a, s.heap.size ≤ a → zA 81 q sz a := fun a h => Or.inr (hsz ▸ h)
  have hl : lv_has ls 1 [(0, .ref (ad 6))] := hl
  have hZ : zSz zXRs 81 q ad av t9 sz s := hsz ▸ hN
  refine va_gets hx hb hZ.2.1 hS hown (ht _ hw_2_195) (fun _ h => h) dJ0_isLatin1_aae02_0 ?_
  refine z_eqi (y := nI 1) rfl ?_
  refine lv_if_eq (tgt := 17) hx hb dJ0_isLatin1_aae02_3 (by decide) (fun c_0 => absurd c_0 (zD_ne zk_1 zk_z (by decide))) (fun _ => ?_)
  refine lv_aload_n hx hb dJ0_isLatin1_aae02_6 rfl (lv_at hl 0 rfl) ?_
  refine vk_getf hx hb (hZ.1.1 6 (by decide)).2.1 hS hown (ht _ hw_8_165) (fun _ h => h) dJ0_isLatin1_aae02_7 ?_
  refine z_eqi (y := nI 0) rfl ?_
  refine lv_if_ne (tgt := 17) hx hb dJ0_isLatin1_aae02_10 (by decide) (fun c_0 => absurd (zD_eq zk_0 zk_z) c_0) (fun _ => ?_)
  refine lv_iconst (v := nI 1) hx hb dJ0_isLatin1_aae02_13 (by decide +kernel) ?_
  refine lv_goto (tgt := 18) hx hb dJ0_isLatin1_aae02_14 (by decide) ?_
  exact z_zret (v := nI 1) hx hb hr hlocks hP hD hS (by decide +kernel) dJ0_isLatin1_aae02_18 ⟨rfl, rfl⟩
set_option maxHeartbeats 4000000 in
set_option maxRecDepth 100000 in
theorem xk_J3_checkIndex_8e157_6 (l : Launch) (D : va_G) (q : Nat → Nat) (cA : Nat → ClassId) (ad av : Nat → Nat) (t9 : Nat) (F : Nat → Nat → Int32) (I R : Nat → Nat → Int32) (J : Nat → Nat → Int64) (hI : xInv F (I, R, J)) (pa0 : Int32) (hpa0 : zR 0 5 pa0) : zNi (zSS zXRs 81 q ad av t9) l D vwCl (zXtys cA) 81 q (zXd q cA) yJ3_checkIndex_8e157 cJ3_checkIndex_8e157 3 (some .int) ({ frames := 0, cells := 0, slots := 0, locals := 0 } : Room) [.int (pa0), .int (nI 6), .null] (I, R, J) (fun r u => zR 0 5 r ∧ u = (I, R, J)) := by
  intro sz
  refine z_bodyN (by decide +kernel) (Nat.le_of_ble_eq_true rfl) (fun p e s m below meth c ls hx hb hml hr ht hown hlocks hsz hK hP hD hS hN hl => ?_)
  have hA : ∀ a, s.heap.size ≤ a → zA 81 q sz a := fun a h => Or.inr (hsz ▸ h)
  have hl : lv_has ls 3 [(0, .int (pa0)), (1, .int (nI 6)), (2, .null)] := hl
  have hZ : zSz zXRs 81 q ad av t9 sz s := hsz ▸ hN
  refine lv_iload_n hx hb dJ3_checkIndex_8e157_0 rfl (lv_at hl 0 rfl) ?_
  refine lv_if_lt (tgt := 9) hx hb dJ3_checkIndex_8e157_1 (by decide) (fun c_0 => absurd c_0 (zD_nlt hpa0 zk_z (by decide))) (fun _ => ?_)
  refine lv_iload_n hx hb dJ3_checkIndex_8e157_4 rfl (lv_at hl 0 rfl) ?_
  refine lv_iload_n hx hb dJ3_checkIndex_8e157_5 rfl (lv_at hl 1 rfl) ?_
  refine lv_icmp_lt (tgt := 16) hx hb dJ3_checkIndex_8e157_6 (by decide) (fun _ => ?_) (fun c_0 => absurd (zD_lt hpa0 zk_6 (by decide)) c_0)
  refine lv_iload_n hx hb dJ3_checkIndex_8e157_16 rfl (lv_at hl 0 rfl) ?_
  exact z_iret (v := pa0) hx hb hr hlocks hP hD hS dJ3_checkIndex_8e157_17 ⟨hpa0, rfl⟩
set_option maxHeartbeats 4000000 in
set_option maxRecDepth 100000 in
theorem xk_J3_checkIndex_8e157_7 (l : Launch) (D : va_G) (q : Nat → Nat) (cA : Nat → ClassId) (ad av : Nat → Nat) (t9 : Nat) (F : Nat → Nat → Int32) (I R : Nat → Nat → Int32) (J : Nat → Nat → Int64) (hI : xInv F (I, R, J)) (pa0 : Int32) (hpa0 : zR 0 5 pa0) : zNi (zSS zXRs 81 q ad av t9) l D vwCl (zXtys cA) 81 q (zXd q cA) yJ3_checkIndex_8e157 cJ3_checkIndex_8e157 3 (some .int) ({ frames := 0, cells := 0, slots := 0, locals := 0 } : Room) [.int (pa0), .int (nI 6), .ref (t9)] (I, R, J) (fun r u => zR 0 5 r ∧ u = (I, R, J)) := by
  intro sz
  refine z_bodyN (by decide +kernel) (Nat.le_of_ble_eq_true rfl) (fun p e s m below meth c ls hx hb hml hr ht hown hlocks hsz hK hP hD hS hN hl => ?_)
  have hA : ∀ a, s.heap.size ≤ a → zA 81 q sz a := fun a h => Or.inr (hsz ▸ h)
  have hl : lv_has ls 3 [(0, .int (pa0)), (1, .int (nI 6)), (2, .ref (t9))] := hl
  have hZ : zSz zXRs 81 q ad av t9 sz s := hsz ▸ hN
  refine lv_iload_n hx hb dJ3_checkIndex_8e157_0 rfl (lv_at hl 0 rfl) ?_
  refine lv_if_lt (tgt := 9) hx hb dJ3_checkIndex_8e157_1 (by decide) (fun c_0 => absurd c_0 (zD_nlt hpa0 zk_z (by decide))) (fun _ => ?_)
  refine lv_iload_n hx hb dJ3_checkIndex_8e157_4 rfl (lv_at hl 0 rfl) ?_
  refine lv_iload_n hx hb dJ3_checkIndex_8e157_5 rfl (lv_at hl 1 rfl) ?_
  refine lv_icmp_lt (tgt := 16) hx hb dJ3_checkIndex_8e157_6 (by decide) (fun _ => ?_) (fun c_0 => absurd (zD_lt hpa0 zk_6 (by decide)) c_0)
  refine lv_iload_n hx hb dJ3_checkIndex_8e157_16 rfl (lv_at hl 0 rfl) ?_
  exact z_iret (v := pa0) hx hb hr hlocks hP hD hS dJ3_checkIndex_8e157_17 ⟨hpa0, rfl⟩
set_option maxHeartbeats 4000000 in
set_option maxRecDepth 100000 in
theorem xk_J0_checkIndex_df160_3 (l : Launch) (D : va_G) (q : Nat → Nat) (cA : Nat → ClassId) (ad av : Nat → Nat) (t9 : Nat) (F : Nat → Nat → Int32) (I R : Nat → Nat → Int32) (J : Nat → Nat → Int64) (hI : xInv F (I, R, J)) (pa0 : Int32) (hpa0 : zR 0 5 pa0) : zNv (zSS zXRs 81 q ad av t9) l D vwCl (zXtys cA) 81 q (zXd q cA) yJ0_checkIndex_df160 cJ0_checkIndex_df160 2 none ({ frames := 1, cells := 0, slots := 0, locals := 22 } : Room) [.int (pa0), .int (nI 6)] (I, R, J) (fun u => u = (I, R, J)) := by
  intro sz
  refine z_bodyN (by decide +kernel) (Nat.le_of_ble_eq_true rfl) (fun p e s m below meth c ls hx hb hml hr ht hown hlocks hsz hK hP hD hS hN hl => ?_)
  have hA : ∀ a, s.heap.size ≤ a → zA 81 q sz a := fun a h => Or.inr (hsz ▸ h)
  have hl : lv_has ls 2 [(0, .int (pa0)), (1, .int (nI 6))] := hl
  have hZ : zSz zXRs 81 q ad av t9 sz s := hsz ▸ hN
  refine lv_iload_n hx hb dJ0_checkIndex_df160_0 rfl (lv_at hl 0 rfl) ?_
  refine lv_iload_n hx hb dJ0_checkIndex_df160_1 rfl (lv_at hl 1 rfl) ?_
  rcases hZ.2.2.1 with hz9 | ⟨t9, hz9⟩
  · refine va_gets hx hb hz9 hS hown (ht _ hw_2_211) (fun _ h => h) dJ0_checkIndex_df160_2 ?_
    refine z_cNSi (As := [.int (pa0), .int (nI 6), .null]) (rest := []) hx hb hml hown ht (xk_J3_checkIndex_8e157_6 l D q cA ad av t9 F _ _ _ hI (pa0) hpa0) hw_2_213 hmJ3_checkIndex_8e157 ⟨rfl, rfl⟩ (na := 3) rfl (by decide +kernel) (by decide) hK hP hD hS hA (zSS_c (Rs := zXRs) (t9 := t9) (fun _ _ _ => zXRs_c)) (zSS_w (Rs := zXRs) (t9 := t9) (fun _ _ _ => zXRs_w) hN hsz hS) hl.1 rfl (Nat.le_of_ble_eq_true rfl) ⟨Nat.zero_le _, Nat.zero_le _⟩ dJ0_checkIndex_df160_5 (fun r_1 I_1 R_1 J_1 H locs hp_1 hP hD hS _ _ => ?_)
    obtain ⟨hr_1, hu_1⟩ := hp_1
    cases hu_1
    refine lv_pop hx hb dJ0_checkIndex_df160_8 rfl ?_
    exact z_vret hx hb hr hlocks hP hD hS dJ0_checkIndex_df160_9 rfl
  · refine va_gets hx hb hz9 hS hown (ht _ hw_2_211) (fun _ h => h) dJ0_checkIndex_df160_2 ?_
    refine z_cNSi (As := [.int (pa0), .int (nI 6), .ref (t9)]) (rest := []) hx hb hml hown ht (xk_J3_checkIndex_8e157_7 l D q cA ad av t9 F _ _ _ hI (pa0) hpa0) hw_2_213 hmJ3_checkIndex_8e157 ⟨rfl, rfl⟩ (na := 3) rfl (by decide +kernel) (by decide) hK hP hD hS hA (zSS_c (Rs := zXRs) (t9 := t9) (fun _ _ _ => zXRs_c)) (zSS_w (Rs := zXRs) (t9 := t9) (fun _ _ _ => zXRs_w) hN hsz hS) hl.1 rfl (Nat.le_of_ble_eq_true rfl) ⟨Nat.zero_le _, Nat.zero_le _⟩ dJ0_checkIndex_df160_5 (fun r_2 I_2 R_2 J_2 H locs hp_2 hP hD hS _ _ => ?_)
    obtain ⟨hr_2, hu_2⟩ := hp_2
    cases hu_2
    refine lv_pop hx hb dJ0_checkIndex_df160_8 rfl ?_
    exact z_vret hx hb hr hlocks hP hD hS dJ0_checkIndex_df160_9 rfl
set_option maxHeartbeats 4000000 in
set_option maxRecDepth 100000 in
theorem xk_J1_charAt_3b067_5 (l : Launch) (D : va_G) (q : Nat → Nat) (cA : Nat → ClassId) (ad av : Nat → Nat) (t9 : Nat) (F : Nat → Nat → Int32) (I R : Nat → Nat → Int32) (J : Nat → Nat → Int64) (hI : xInv F (I, R, J)) (pa1 : Int32) (hpa1 : zR 0 5 pa1) : zNi (zSS zXRs 81 q ad av t9) l D vwCl (zXtys cA) 81 q (zXd q cA) yJ1_charAt_3b067 cJ1_charAt_3b067 2 (some .char) ({ frames := 2, cells := 0, slots := 0, locals := 43 } : Room) [.ref (av 6), .int (pa1)] (I, R, J) (fun r u => zR 0 65535 r ∧ u = (I, R, J)) := by
  intro sz
  refine z_bodyN (by decide +kernel) (Nat.le_of_ble_eq_true rfl) (fun p e s m below meth c ls hx hb hml hr ht hown hlocks hsz hK hP hD hS hN hl => ?_)
  have hA : ∀ a, s.heap.size ≤ a → zA 81 q sz a := fun a h => Or.inr (hsz ▸ h)
  have hl : lv_has ls 2 [(0, .ref (av 6)), (1, .int (pa1))] := hl
  have hZ : zSz zXRs 81 q ad av t9 sz s := hsz ▸ hN
  refine lv_iload_n hx hb dJ1_charAt_3b067_0 rfl (lv_at hl 1 rfl) ?_
  refine lv_aload_n hx hb dJ1_charAt_3b067_1 rfl (lv_at hl 0 rfl) ?_
  refine va_tlen hx hb (hZ.1.1 6 (by decide)).2.2.2 hS (v := nI 6) rfl dJ1_charAt_3b067_2 ?_
  refine z_cNSv (As := [.int (pa1), .int (nI 6)]) (rest := []) hx hb hml hown ht (xk_J0_checkIndex_df160_3 l D q cA ad av t9 F _ _ _ hI (pa1) hpa1) hw_2_208 hmJ0_checkIndex_df160 ⟨rfl, rfl⟩ (na := 2) rfl (by decide +kernel) (by decide) hK hP hD hS hA (zSS_c (Rs := zXRs) (t9 := t9) (fun _ _ _ => zXRs_c)) (zSS_w (Rs := zXRs) (t9 := t9) (fun _ _ _ => zXRs_w) hN hsz hS) hl.1 rfl (Nat.le_of_ble_eq_true rfl) ⟨Nat.zero_le _, Nat.zero_le _⟩ dJ1_charAt_3b067_3 (fun I_1 R_1 J_1 H locs hp_1 hP hD hS _ _ => ?_)
  cases hp_1
  refine lv_aload_n hx hb dJ1_charAt_3b067_6 rfl (lv_at hl 0 rfl) ?_
  refine lv_iload_n hx hb dJ1_charAt_3b067_7 rfl (lv_at hl 1 rfl) ?_
  refine va_tb hx hb (hZ.1.1 6 (by decide)).2.2.2 hS (zR_vin hpa1 (by decide)) rfl dJ1_charAt_3b067_8 ?_
  refine z_any (fun v_2 => ?_)
  refine lv_sipush (v := nI 255) hx hb dJ1_charAt_3b067_9 (by decide +kernel) ?_
  refine lv_iand hx hb dJ1_charAt_3b067_12 ?_
  refine z_rng (a := 0) (b := 255) (zR_andr zk_255 (by decide)) (fun v_3 hv_3 => ?_)
  refine lv_i2c hx hb dJ1_charAt_3b067_13 rfl ?_
  refine z_rng (a := 0) (b := 65535) (zR_i2c _) (fun v_4 hv_4 => ?_)
  exact z_zret (v := v_4) hx hb hr hlocks hP hD hS (zR_char hv_4) dJ1_charAt_3b067_14 ⟨hv_4, rfl⟩
set_option maxHeartbeats 4000000 in
set_option maxRecDepth 100000 in
theorem xk_J0_charAt_5068e_5 (l : Launch) (D : va_G) (q : Nat → Nat) (cA : Nat → ClassId) (ad av : Nat → Nat) (t9 : Nat) (F : Nat → Nat → Int32) (I R : Nat → Nat → Int32) (J : Nat → Nat → Int64) (hI : xInv F (I, R, J)) (pa0 : Int32) (hpa0 : zR 0 5 pa0) : zNi (zSS zXRs 81 q ad av t9) l D vwCl (zXtys cA) 81 q (zXd q cA) yJ0_charAt_5068e cJ0_charAt_5068e 2 (some .char) ({ frames := 3, cells := 0, slots := 0, locals := 64 } : Room) [.ref (ad 6), .int (pa0)] (I, R, J) (fun r u => zR 0 65535 r ∧ u = (I, R, J)) := by
  intro sz
  refine z_bodyN (by decide +kernel) (Nat.le_of_ble_eq_true rfl) (fun p e s m below meth c ls hx hb hml hr ht hown hlocks hsz hK hP hD hS hN hl => ?_)
  have hA : ∀ a, s.heap.size ≤ a → zA 81 q sz a := fun a h => Or.inr (hsz ▸ h)
  have hl : lv_has ls 2 [(0, .ref (ad 6)), (1, .int (pa0))] := hl
  have hZ : zSz zXRs 81 q ad av t9 sz s := hsz ▸ hN
  refine lv_aload_n hx hb dJ0_charAt_5068e_0 rfl (lv_at hl 0 rfl) ?_
  refine z_cNXi (As := []) (rest := []) hx hb hml hown ht (xk_J0_isLatin1_aae02_2 l D q cA ad av t9 F _ _ _ hI ) hw_2_201 hmJ0_isLatin1_aae02 ⟨rfl, rfl⟩ (na := 0) rfl (by decide +kernel) (by decide) (vk_recv hZ.1 (by decide) hS) hK hP hD hS hA (zSS_c (Rs := zXRs) (t9 := t9) (fun _ _ _ => zXRs_c)) (zSS_w (Rs := zXRs) (t9 := t9) (fun _ _ _ => zXRs_w) hN hsz hS) hl.1 rfl (Nat.le_of_ble_eq_true rfl) ⟨Nat.zero_le _, Nat.zero_le _⟩ dJ0_charAt_5068e_1 (fun r_1 I_1 R_1 J_1 H locs hp_1 hP hD hS _ _ => ?_)
  obtain ⟨rfl, hu_1⟩ := hp_1
  cases hu_1
  refine lv_if_eq (tgt := 16) hx hb dJ0_charAt_5068e_4 (by decide) (fun c_0 => absurd c_0 (zD_ne zk_1 zk_z (by decide))) (fun _ => ?_)
  refine lv_aload_n hx hb dJ0_charAt_5068e_7 rfl (lv_at hl 0 rfl) ?_
  refine vk_getf hx hb (hZ.1.1 6 (by decide)).2.2.1 hS hown (ht _ hw_8_164) (fun _ h => h) dJ0_charAt_5068e_8 ?_
  refine lv_iload_n hx hb dJ0_charAt_5068e_11 rfl (lv_at hl 1 rfl) ?_
  refine z_cNSi (As := [.ref (av 6), .int (pa0)]) (rest := []) hx hb hml hown ht (xk_J1_charAt_3b067_5 l D q cA ad av t9 F _ _ _ hI (pa0) hpa0) hw_2_205 hmJ1_charAt_3b067 ⟨rfl, rfl⟩ (na := 2) rfl (by decide +kernel) (by decide) hK hP hD hS hA (zSS_c (Rs := zXRs) (t9 := t9) (fun _ _ _ => zXRs_c)) (zSS_w (Rs := zXRs) (t9 := t9) (fun _ _ _ => zXRs_w) hN hsz hS) hl.1 rfl (Nat.le_of_ble_eq_true rfl) ⟨Nat.zero_le _, Nat.zero_le _⟩ dJ0_charAt_5068e_12 (fun r_2 I_2 R_2 J_2 H locs hp_2 hP hD hS _ _ => ?_)
  obtain ⟨hr_2, hu_2⟩ := hp_2
  cases hu_2
  exact z_zret (v := r_2) hx hb hr hlocks hP hD hS (zR_char hr_2) dJ0_charAt_5068e_15 ⟨hr_2, rfl⟩
set_option maxHeartbeats 4000000 in
set_option maxRecDepth 100000 in
theorem xk_X7_isWord_2 (l : Launch) (D : va_G) (q : Nat → Nat) (cA : Nat → ClassId) (ad av : Nat → Nat) (t9 : Nat) (F : Nat → Nat → Int32) (I R : Nat → Nat → Int32) (J : Nat → Nat → Int64) (hI : xInv F (I, R, J))  : zNi (zSS zXRs 81 q ad av t9) l D vwCl (zXtys cA) 81 q (zXd q cA) yX7_isWord cX7_isWord 3 (some .boolean) ({ frames := 4, cells := 0, slots := 0, locals := 85 } : Room) [.ref (q 1), .ref (ad 6)] (I, R, J) (fun r u => (r = nI 1 ∧ u = (I, R, J)) ∨ (r = nI 0 ∧ u = (I, R, J))) := by
  intro sz
  refine z_bodyN (by decide +kernel) (Nat.le_of_ble_eq_true rfl) (fun p e s m below meth c ls hx hb hml hr ht hown hlocks hsz hK hP hD hS hN hl => ?_)
  have hA : ∀ a, s.heap.size ≤ a → zA 81 q sz a := fun a h => Or.inr (hsz ▸ h)
  have hl : lv_has ls 3 [(0, .ref (q 1)), (1, .ref (ad 6))] := hl
  have hZ : zSz zXRs 81 q ad av t9 sz s := hsz ▸ hN
  refine lv_aload_n hx hb dX7_isWord_0 rfl (lv_at hl 0 rfl) ?_
  refine z_get hx hb ht hown hK hP ziX7 rfl 1 (by decide) 4 (by decide) hw_1_42 rfl (v := .int (I 1 4)) rfl dX7_isWord_1 ?_
  refine lv_iconst (v := nI 1) hx hb dX7_isWord_4 (by decide +kernel) ?_
  refine lv_icmp_ne (tgt := 24) hx hb dX7_isWord_5 (by decide) (fun c_1 => ?_) (fun c_1 => ?_)
  · have t_c_1 := z_eqF c_1
    refine lv_iconst (v := nI 0) hx hb dX7_isWord_24 (by decide +kernel) ?_
    exact z_zret (v := nI 0) hx hb hr hlocks hP hD hS (by decide +kernel) dX7_isWord_25 (Or.inr ⟨rfl, rfl⟩)
  · have t_c_1 := z_eqT c_1
    have f_2 : zR 1 1 (I 1 4) := zR_eqx t_c_1 zk_1
    refine lv_aload_n hx hb dX7_isWord_8 rfl (lv_at hl 0 rfl) ?_
    refine z_get hx hb ht hown hK hP ziX7 rfl 1 (by decide) 6 (by decide) hw_1_44 rfl (v := .int (I 1 6)) rfl dX7_isWord_9 ?_
    have f_3 : zR 0 800 (I 1 6) := xI hI 1 6
    refine lv_aload_n hx hb dX7_isWord_12 rfl (lv_at hl 0 rfl) ?_
    refine z_get hx hb ht hown hK hP ziX7 rfl 1 (by decide) 5 (by decide) hw_1_43 rfl (v := .int (I 1 5)) rfl dX7_isWord_13 ?_
    have f_4 : zR 0 800 (I 1 5) := xI hI 1 5
    refine lv_isub hx hb dX7_isWord_16 ?_
    refine lv_topi (fun v_5 ev_5 => ?_)
    have hv_5 : zR (-800) 800 v_5 := ev_5 ▸ zR_sub f_3 f_4 (by decide)
    refine lv_aload_n hx hb dX7_isWord_17 rfl (lv_at hl 1 rfl) ?_
    refine z_cNXi (As := []) (rest := [.int (v_5)]) hx hb hml hown ht (xk_J0_length_8abf5_2 l D q cA ad av t9 F _ _ _ hI ) hw_2_187 hmJ0_length_8abf5 ⟨rfl, rfl⟩ (na := 0) rfl (by decide +kernel) (by decide) (vk_recv hZ.1 (by decide) hS) hK hP hD hS hA (zSS_c (Rs := zXRs) (t9 := t9) (fun _ _ _ => zXRs_c)) (zSS_w (Rs := zXRs) (t9 := t9) (fun _ _ _ => zXRs_w) hN hsz hS) hl.1 rfl (Nat.le_of_ble_eq_true rfl) ⟨Nat.zero_le _, Nat.zero_le _⟩ dX7_isWord_18 (fun r_6 I_6 R_6 J_6 H locs hp_6 hP hD hS _ _ => ?_)
    obtain ⟨rfl, hu_6⟩ := hp_6
    cases hu_6
    refine lv_icmp_eq (tgt := 26) hx hb dX7_isWord_21 (by decide) (fun c_7 => ?_) (fun c_7 => ?_)
    · have t_c_7 := z_eqT c_7
      have f_8 : zR 6 6 (v_5) := zR_eqx t_c_7 zk_6
      have f_9 : zR 0 794 (I 1 5) := z_start f_3 f_4 ev_5 f_8 (by decide)
      refine lv_iconst (v := nI 0) hx hb dX7_isWord_26 (by decide +kernel) ?_
      refine lv_istore_n (lv' := [(2, .int (nI 0)), (0, .ref (q 1)), (1, .ref (ad 6))]) hx hb dX7_isWord_27 rfl hl (by decide) rfl (fun ls hl => ?_)
      have loop_43 : ∀ N : Nat, ∀ x_42 : Int32, zR 0 6 x_42 → (2147483648 - (x_42).toInt).toNat < N → ∀ (H : Heap) (locs : List Loc), va_P D vwCl (zw 81 q (zXd q cA) I R J) H → va_D (zA 81 q sz) (zw 81 q (zXd q cA) I R J) → va_S (zA 81 q sz) s.heap H locs → ∀ ls : Array Slot, lv_has ls 3 [(0, .ref (q 1)), (1, .ref (ad 6)), (2, .int (x_42))] → W p l e ({ frames := 4, cells := 0, slots := 0, locals := 85 } : Room) s m ([.ref (q 1), .ref (ad 6)] : List Value).toArray below meth c H locs 0 0 (MQ below (va_Qi (fun r u => (r = nI 1 ∧ u = (I, R, J)) ∨ (r = nI 0 ∧ u = (I, R, J))) (zB D vwCl 81 q (zXd q cA) sz) (zA 81 q sz)) ([.ref (q 1), .ref (ad 6)] : List Value).toArray s 0 0 (zA 81 q sz)) (F0 m 28 ls []) := by
        intro N
        induction N with
        | zero => intro x_42 hx_42 hN; exact absurd hN (Nat.not_lt_zero _)
        | succ N ih_45 =>
          intro x_42 hx_42 hN_44 H locs hP hD hS ls hl
          refine lv_iload_n hx hb dX7_isWord_28 rfl (lv_at hl 2 rfl) ?_
          refine lv_aload_n hx hb dX7_isWord_29 rfl (lv_at hl 1 rfl) ?_
          refine z_cNXi (As := []) (rest := [.int (x_42)]) hx hb hml hown ht (xk_J0_length_8abf5_2 l D q cA ad av t9 F _ _ _ hI ) hw_2_187 hmJ0_length_8abf5 ⟨rfl, rfl⟩ (na := 0) rfl (by decide +kernel) (by decide) (vk_recv hZ.1 (by decide) hS) hK hP hD hS hA (zSS_c (Rs := zXRs) (t9 := t9) (fun _ _ _ => zXRs_c)) (zSS_w (Rs := zXRs) (t9 := t9) (fun _ _ _ => zXRs_w) hN hsz hS) hl.1 rfl (Nat.le_of_ble_eq_true rfl) ⟨Nat.zero_le _, Nat.zero_le _⟩ dX7_isWord_30 (fun r_46 I_46 R_46 J_46 H locs hp_46 hP hD hS _ _ => ?_)
          obtain ⟨rfl, hu_46⟩ := hp_46
          cases hu_46
          refine lv_icmp_ge (tgt := 63) hx hb dX7_isWord_33 (by decide) (fun c_47 => ?_) (fun c_47 => ?_)
          · have t_c_47 := z_leT c_47
            have f_48 : zR 6 6 (x_42) := zR_ley t_c_47 zk_6 hx_42 (by decide)
            refine lv_iconst (v := nI 1) hx hb dX7_isWord_63 (by decide +kernel) ?_
            exact z_zret (v := nI 1) hx hb hr hlocks hP hD hS (by decide +kernel) dX7_isWord_64 (Or.inl ⟨rfl, rfl⟩)
          · have t_c_47 := z_leF c_47
            have f_49 : zR 0 5 (x_42) := zR_ltx t_c_47 hx_42 zk_6 (by decide)
            refine lv_aload_n hx hb dX7_isWord_36 rfl (lv_at hl 0 rfl) ?_
            refine z_get hx hb ht hown hK hP ziX7 rfl 1 (by decide) 0 (by decide) hw_1_35 rfl (v := .ref (q 2)) rfl dX7_isWord_37 ?_
            refine lv_aload_n hx hb dX7_isWord_40 rfl (lv_at hl 0 rfl) ?_
            refine z_get hx hb ht hown hK hP ziX7 rfl 1 (by decide) 5 (by decide) hw_1_43 rfl (v := .int (I 1 5)) rfl dX7_isWord_41 ?_
            refine lv_iload_n hx hb dX7_isWord_44 rfl (lv_at hl 2 rfl) ?_
            refine lv_iadd hx hb dX7_isWord_45 ?_
            refine z_rng (a := 0) (b := 799) (zR_add f_9 f_49 (by decide)) (fun v_50 hv_50 => ?_)
            refine z_bald hx hb hK hP 2 (by decide) 0 rfl rfl (zR_vin hv_50 (by decide)) dX7_isWord_46 ?_
            refine z_eqi (y := R 2 (v_50).toNatClampNeg) rfl ?_
            refine lv_aload_n hx hb dX7_isWord_47 rfl (lv_at hl 1 rfl) ?_
            refine lv_iload_n hx hb dX7_isWord_48 rfl (lv_at hl 2 rfl) ?_
            refine z_cNXi (As := [.int (x_42)]) (rest := [.int (R 2 (v_50).toNatClampNeg)]) hx hb hml hown ht (xk_J0_charAt_5068e_5 l D q cA ad av t9 F _ _ _ hI (x_42) f_49) hw_2_197 hmJ0_charAt_5068e ⟨rfl, rfl⟩ (na := 1) rfl (by decide +kernel) (by decide) (vk_recv hZ.1 (by decide) hS) hK hP hD hS hA (zSS_c (Rs := zXRs) (t9 := t9) (fun _ _ _ => zXRs_c)) (zSS_w (Rs := zXRs) (t9 := t9) (fun _ _ _ => zXRs_w) hN hsz hS) hl.1 rfl (Nat.le_of_ble_eq_true rfl) ⟨Nat.zero_le _, Nat.zero_le _⟩ dX7_isWord_49 (fun r_51 I_51 R_51 J_51 H locs hp_51 hP hD hS _ _ => ?_)
            obtain ⟨hr_51, hu_51⟩ := hp_51
            cases hu_51
            refine lv_icmp_eq (tgt := 57) hx hb dX7_isWord_52 (by decide) (fun c_52 => ?_) (fun c_52 => ?_)
            · have t_c_52 := z_eqT c_52
              have f_53 : zR 0 65535 (R 2 (v_50).toNatClampNeg) := zR_eqx t_c_52 hr_51
              obtain ⟨v_54, ev_54⟩ : ∃ y : Int32, y = x_42 + nI 1 := ⟨_, rfl⟩
              have hv_54 : zR 1 6 v_54 := ev_54 ▸ zR_add f_49 zk_1 (by decide)
              have mv_54 : v_54.toInt = (x_42).toInt + 1 := by rw [ev_54, zR_addE f_49 zk_1 (by decide)]; rfl
              refine lv_iinc (v := v_54) (lv' := [(2, .int (v_54)), (0, .ref (q 1)), (1, .ref (ad 6))]) hx hb dX7_isWord_57 hl (k := 2) rfl (ev_54 ▸ rfl) (by decide) rfl (fun ls hl => ?_)
              refine lv_goto (tgt := 28) hx hb dX7_isWord_60 (by decide) ?_
              exact ih_45 (v_54) (zR_w hv_54 (by decide)) (z2_up mv_54 (by decide) hN_44) _ _ hP hD hS _ (lv_sub hl [1, 2, 0] rfl)
            · have t_c_52 := z_eqF c_52
              refine lv_iconst (v := nI 0) hx hb dX7_isWord_55 (by decide +kernel) ?_
              exact z_zret (v := nI 0) hx hb hr hlocks hP hD hS (by decide +kernel) dX7_isWord_56 (Or.inr ⟨rfl, rfl⟩)
      exact loop_43 _ (nI 0) (zR_w zk_0 (by decide)) (Nat.lt_succ_self _) _ _ hP hD hS _ (lv_sub hl [1, 2, 0] rfl)
    · have t_c_7 := z_eqF c_7
      refine lv_iconst (v := nI 0) hx hb dX7_isWord_24 (by decide +kernel) ?_
      exact z_zret (v := nI 0) hx hb hr hlocks hP hD hS (by decide +kernel) dX7_isWord_25 (Or.inr ⟨rfl, rfl⟩)
set_option maxHeartbeats 4000000 in
set_option maxRecDepth 100000 in
theorem xk_X7_refuse_2 (l : Launch) (D : va_G) (q : Nat → Nat) (cA : Nat → ClassId) (F : Nat → Nat → Int32) (I R : Nat → Nat → Int32) (J : Nat → Nat → Int64) (hI : xInv F (I, R, J)) (pa0 : Int32) (hpa0 : zR 0 3 pa0) : zMv l D vwCl (zXtys cA) 81 q (zXd q cA) yX7_refuse cX7_refuse 2 none ({ frames := 0, cells := 0, slots := 0, locals := 0 } : Room) [.ref (q 1), .int (pa0)] (I, R, J) (fun u => (xInv F u ∧ (∀ k, k ≠ 1 → u.1 k = I k) ∧ u.2 = (R, J))) := by
  intro sz
  refine z_body (by decide +kernel) (Nat.le_of_ble_eq_true rfl) (fun p e s m below meth c ls hx hb hml hr ht hown hlocks hsz hK hP hD hS hl => ?_)
  have hA : ∀ a, s.heap.size ≤ a → zA 81 q sz a := fun a h => Or.inr (hsz ▸ h)
  have hl : lv_has ls 2 [(0, .ref (q 1)), (1, .int (pa0))] := hl
  refine lv_aload_n hx hb dX7_refuse_0 rfl (lv_at hl 0 rfl) ?_
  refine z_get hx hb ht hown hK hP ziX7 rfl 1 (by decide) 2 (by decide) hw_1_38 rfl (v := .int (I 1 2)) rfl dX7_refuse_1 ?_
  refine lv_if_ne (tgt := 20) hx hb dX7_refuse_4 (by decide) (fun c_1 => ?_) (fun c_1 => ?_)
  · have t_c_1 := z_eqF c_1
    exact z_vret hx hb hr hlocks hP hD hS dX7_refuse_20 ⟨hI, (fun (_ : Nat) _ => rfl), rfl⟩
  · have t_c_1 := z_eqT c_1
    have f_2 : zR 0 0 (I 1 2) := zR_eqx t_c_1 zk_z
    refine lv_aload_n hx hb dX7_refuse_7 rfl (lv_at hl 0 rfl) ?_
    refine lv_iload_n hx hb dX7_refuse_8 rfl (lv_at hl 1 rfl) ?_
    refine z_putI hx hb ht hown hK hP hD hS ziX7 tyX7 tyX7_ok nmX7 rfl 1 (by decide) 2 (by decide) hw_1_38 rfl (v := pa0) rfl rfl rfl (Nat.le_of_ble_eq_true rfl) rfl dX7_refuse_9 (fun H locs hP hD hS => ?_)
    have hI_3 := xInv_I hI 1 2 (pa0) (zR_any (pa0)) rfl
    have hf_4 : ∀ k, k ≠ 1 → (zp I 1 2 (pa0)) k = I k := fun k h => (zp_nk h).trans ((fun (_ : Nat) _ => rfl) k h)
    refine lv_aload_n hx hb dX7_refuse_12 rfl (lv_at hl 0 rfl) ?_
    refine lv_aload_n hx hb dX7_refuse_13 rfl (lv_at hl 0 rfl) ?_
    refine z_get hx hb ht hown hK hP ziX7 rfl 1 (by decide) 5 (by decide) hw_1_43 rfl (v := .int (I 1 5)) rfl dX7_refuse_14 ?_
    have f_5 : zR 0 800 (I 1 5) := xI hI 1 5
    refine z_putI hx hb ht hown hK hP hD hS ziX7 tyX7 tyX7_ok nmX7 rfl 1 (by decide) 3 (by decide) hw_1_40 rfl (v := I 1 5) rfl rfl rfl (Nat.le_of_ble_eq_true rfl) rfl dX7_refuse_17 (fun H locs hP hD hS => ?_)
    have hI_6 := xInv_I hI_3 1 3 (I 1 5) (zR_any (I 1 5)) rfl
    have hf_7 : ∀ k, k ≠ 1 → (zp (zp I 1 2 (pa0)) 1 3 (I 1 5)) k = I k := fun k h => (zp_nk h).trans (hf_4 k h)
    exact z_vret hx hb hr hlocks hP hD hS dX7_refuse_20 ⟨hI_6, hf_7, rfl⟩
set_option maxHeartbeats 4000000 in
set_option maxRecDepth 100000 in
theorem xk_X7_readHouse (l : Launch) (D : va_G) (q : Nat → Nat) (cA : Nat → ClassId) (ad av : Nat → Nat) (t9 : Nat) (F : Nat → Nat → Int32) (I R : Nat → Nat → Int32) (J : Nat → Nat → Int64) (hI : xInv F (I, R, J))  : zNv (zSS zXRs 81 q ad av t9) l D vwCl (zXtys cA) 81 q (zXd q cA) yX7_readHouse cX7_readHouse 3 none ({ frames := 5, cells := 0, slots := 0, locals := 107 } : Room) [.ref (q 1), .ref (q 8)] (I, R, J) (fun u => xInv F u) := by
  intro sz
  refine z_bodyN (by decide +kernel) (Nat.le_of_ble_eq_true rfl) (fun p e s m below meth c ls hx hb hml hr ht hown hlocks hsz hK hP hD hS hN hl => ?_)
  have hA : ∀ a, s.heap.size ≤ a → zA 81 q sz a := fun a h => Or.inr (hsz ▸ h)
  have hl : lv_has ls 3 [(0, .ref (q 1)), (1, .ref (q 8))] := hl
  have hZ : zSz zXRs 81 q ad av t9 sz s := hsz ▸ hN
  refine lv_aload_n hx hb dX7_readHouse_0 rfl (lv_at hl 1 rfl) ?_
  refine z_get hx hb ht hown hK hP ziX2 rfl 8 (by decide) 4 (by decide) hw_1_84 rfl (v := .int (I 8 4)) rfl dX7_readHouse_1 ?_
  have f_1 : zR 0 5 (I 8 4) := xI hI 8 4
  refine lv_istore_n (lv' := [(2, .int (I 8 4)), (0, .ref (q 1)), (1, .ref (q 8))]) hx hb dX7_readHouse_4 rfl hl (by decide) rfl (fun ls hl => ?_)
  refine lv_iload_n hx hb dX7_readHouse_5 rfl (lv_at hl 0 rfl) ?_
  refine lv_iconst (v := nI 5) hx hb dX7_readHouse_6 (by decide +kernel) ?_
  refine lv_icmp_lt (tgt := 16) hx hb dX7_readHouse_7 (by decide) (fun c_2 => ?_) (fun c_2 => ?_)
  · have t_c_2 := z_ltT c_2
    have f_3 : zR 0 4 (I 8 4) := zR_ltx t_c_2 f_1 zk_5 (by decide)
    refine lv_aload_n hx hb dX7_readHouse_16 rfl (lv_at hl 1 rfl) ?_
    refine z_callVv (k := 1) (As := []) (rest := []) hx hb hml hown ht (xk_X7_step l D q cA F _ _ _ hI ) hw_2_161 hmX7_step ⟨rfl, rfl⟩ (na := 0) rfl (by decide +kernel) (by decide) (by decide) rfl rfl hK hP hD hS hA hl.1 rfl (Nat.le_of_ble_eq_true rfl) ⟨Nat.zero_le _, Nat.zero_le _⟩ dX7_readHouse_17 (fun I_4 R_4 J_4 H locs hp_4 hP hD hS _ _ => ?_)
    obtain ⟨hv_4, hk_4, hj_4⟩ := hp_4
    dsimp only at hj_4 hk_4
    cases hj_4
    refine lv_aload_n hx hb dX7_readHouse_20 rfl (lv_at hl 1 rfl) ?_
    refine lv_aload_n hx hb dX7_readHouse_21 rfl (lv_at hl 1 rfl) ?_
    refine va_ldcS hx hb hown (hZ.2.2.2.2.2.2.2.2.1) dX7_readHouse_22 ?_
    refine z_cNVi (k := 1) (As := [.ref (ad 5)]) (rest := [.ref (q 1)]) hx hb hml hown ht (xk_X7_isWord_1 l D q cA ad av t9 F _ _ _ hv_4 ) hw_2_183 hmX7_isWord ⟨rfl, rfl⟩ (na := 1) rfl (by decide +kernel) (by decide) (by decide) rfl rfl hK hP hD hS hA (zSS_c (Rs := zXRs) (t9 := t9) (fun _ _ _ => zXRs_c)) (zSS_w (Rs := zXRs) (t9 := t9) (fun _ _ _ => zXRs_w) hN hsz hS) hl.1 rfl (Nat.le_of_ble_eq_true rfl) ⟨Nat.zero_le _, Nat.zero_le _⟩ dX7_readHouse_24 (fun r_5 I_5 R_5 J_5 H locs hp_5 hP hD hS _ _ => ?_)
    have hq_5 : zR 0 1 r_5 ∧ (I_5, R_5, J_5) = (I_4, R, J) := hp_5.elim (fun h => ⟨h.1 ▸ zR_w zk_1 (by decide), h.2⟩) (fun h => ⟨h.1 ▸ zR_w zk_0 (by decide), h.2⟩)
    obtain ⟨hr_5, hu_5⟩ := hq_5
    cases hu_5
    refine z_callVv (k := 1) (As := [.int (r_5)]) (rest := []) hx hb hml hown ht (xk_X7_expect l D q cA F _ _ _ hv_4 (r_5) hr_5) hw_2_235 hmX7_expect ⟨rfl, rfl⟩ (na := 1) rfl (by decide +kernel) (by decide) (by decide) rfl rfl hK hP hD hS hA hl.1 rfl (Nat.le_of_ble_eq_true rfl) ⟨Nat.zero_le _, Nat.zero_le _⟩ dX7_readHouse_27 (fun I_6 R_6 J_6 H locs hp_6 hP hD hS _ _ => ?_)
    obtain ⟨hv_6, hk_6, hj_6⟩ := hp_6
    dsimp only at hj_6 hk_6
    cases hj_6
    refine lv_aload_n hx hb dX7_readHouse_30 rfl (lv_at hl 2 rfl) ?_
    refine z_get hx hb ht hown hK hP ziX2 rfl 8 (by decide) 7 (by decide) hw_1_99 rfl (v := .ref (q 9)) rfl dX7_readHouse_31 ?_
    refine lv_iload_n hx hb dX7_readHouse_34 rfl (lv_at hl 0 rfl) ?_
    refine lv_aload_n hx hb dX7_readHouse_35 rfl (lv_at hl 1 rfl) ?_
    refine lv_iconst (v := nI 0) hx hb dX7_readHouse_36 (by decide +kernel) ?_
    refine lv_sipush (v := nI 9999) hx hb dX7_readHouse_37 (by decide +kernel) ?_
    refine z_callVi (k := 1) (As := [.int (nI 0), .int (nI 9999)]) (rest := [.int (I 8 4), .ref (q 9)]) hx hb hml hown ht (xk_X7_number l D q cA F _ _ _ hv_6 ) hw_3_4 hmX7_number ⟨rfl, rfl⟩ (na := 2) rfl (by decide +kernel) (by decide) (by decide) rfl rfl hK hP hD hS hA hl.1 rfl (Nat.le_of_ble_eq_true rfl) ⟨Nat.zero_le _, Nat.zero_le _⟩ dX7_readHouse_40 (fun r_7 I_7 R_7 J_7 H locs hp_7 hP hD hS _ _ => ?_)
    obtain ⟨hr_7, hu_7⟩ := hp_7
    obtain ⟨hv_7, hk_7, hj_7⟩ := hu_7
    dsimp only at hj_7 hk_7
    cases hj_7
    refine z_iast hx hb hK hP hD hS 9 (by decide) 5 (fun _ => rfl) rfl (zR_vin f_3 (by decide)) dX7_readHouse_43 (fun H locs hP hD hS => ?_)
    have hI_8 := xInv_R hv_7 9 (I 8 4).toNatClampNeg (r_7) (zR_any _) rfl
    refine lv_aload_n hx hb dX7_readHouse_44 rfl (lv_at hl 1 rfl) ?_
    refine va_ldcS hx hb hown (hZ.2.2.2.2.2.2.2.2.2.1) dX7_readHouse_45 ?_
    have t_16 : ∀ I_14 : Nat → Nat → Int32, xInv F (I_14, (zp R 9 (I 8 4).toNatClampNeg (r_7)), J) → zR 0 4 (I_14 8 4) → ∀ (H : Heap) (locs : List Loc), va_P D vwCl (zw 81 q (zXd q cA) I_14 (zp R 9 (I 8 4).toNatClampNeg (r_7)) J) H → va_D (zA 81 q sz) (zw 81 q (zXd q cA) I_14 (zp R 9 (I 8 4).toNatClampNeg (r_7)) J) → va_S (zA 81 q sz) s.heap H locs → ∀ ls : Array Slot, lv_has ls 3 [(0, .ref (q 1)), (1, .ref (q 8)), (2, .int (I 8 4))] → W p l e ({ frames := 5, cells := 0, slots := 0, locals := 107 } : Room) s m ([.ref (q 1), .ref (q 8)] : List Value).toArray below meth c H locs 0 0 (MQ below (va_Qv (fun u => xInv F u) (zB D vwCl 81 q (zXd q cA) sz) (zA 81 q sz)) ([.ref (q 1), .ref (q 8)] : List Value).toArray s 0 0 (zA 81 q sz)) (F0 m 69 ls []) := by
      intro I_14 hI_14 g_15 H locs hP hD hS ls hl
      refine lv_aload_n hx hb dX7_readHouse_69 rfl (lv_at hl 1 rfl) ?_
      refine lv_dup hx hb dX7_readHouse_70 rfl ?_
      refine z_get hx hb ht hown hK hP ziX2 rfl 8 (by decide) 4 (by decide) hw_1_84 rfl (v := .int (I_14 8 4)) rfl dX7_readHouse_71 ?_
      refine lv_iconst (v := nI 1) hx hb dX7_readHouse_74 (by decide +kernel) ?_
      refine lv_iadd hx hb dX7_readHouse_75 ?_
      refine z_addc 1 5 g_15 zk_1 (by decide) (fun v_17 hv_17 mv_17 => ?_)
      refine z_putI hx hb ht hown hK hP hD hS ziX2 tyX2 tyX2_ok nmX2 rfl 8 (by decide) 4 (by decide) hw_1_84 rfl (v := v_17) rfl rfl rfl (Nat.le_of_ble_eq_true rfl) rfl dX7_readHouse_76 (fun H locs hP hD hS => ?_)
      have hI_18 := xInv_I hI_14 8 4 (v_17) (zR_w hv_17 (by decide)) rfl
      exact z_vret hx hb hr hlocks hP hD hS dX7_readHouse_79 hI_18
    refine z_cNVi (k := 1) (As := [.ref (ad 6)]) (rest := []) hx hb hml hown ht (xk_X7_isWord_2 l D q cA ad av t9 F _ _ _ hI_8 ) hw_2_183 hmX7_isWord ⟨rfl, rfl⟩ (na := 1) rfl (by decide +kernel) (by decide) (by decide) rfl rfl hK hP hD hS hA (zSS_c (Rs := zXRs) (t9 := t9) (fun _ _ _ => zXRs_c)) (zSS_w (Rs := zXRs) (t9 := t9) (fun _ _ _ => zXRs_w) hN hsz hS) hl.1 rfl (Nat.le_of_ble_eq_true rfl) ⟨Nat.zero_le _, Nat.zero_le _⟩ dX7_readHouse_47 (fun r_9 I_9 R_9 J_9 H locs hp_9 hP hD hS _ _ => ?_)
    rcases hp_9 with ⟨rfl, hu_9⟩ | ⟨rfl, hu_9⟩
    · cases hu_9
      refine lv_if_eq (tgt := 69) hx hb dX7_readHouse_50 (by decide) (fun c_0 => absurd c_0 (zD_ne zk_1 zk_z (by decide))) (fun _ => ?_)
      refine lv_aload_n hx hb dX7_readHouse_53 rfl (lv_at hl 2 rfl) ?_
      refine lv_dup hx hb dX7_readHouse_54 rfl ?_
      refine z_get hx hb ht hown hK hP ziX2 rfl 8 (by decide) 6 (by decide) hw_1_96 rfl (v := .int (I_7 8 6)) rfl dX7_readHouse_55 ?_
      refine z_eqi (y := I 8 6) ((congrFun (hk_7 8 (by decide)) 6).trans ((congrFun (hk_6 8 (by decide)) 6).trans (congrFun (hk_4 8 (by decide)) 6))) ?_
      refine lv_iconst (v := nI 1) hx hb dX7_readHouse_58 (by decide +kernel) ?_
      refine lv_iload_n hx hb dX7_readHouse_59 rfl (lv_at hl 0 rfl) ?_
      refine lv_ishl hx hb dX7_readHouse_60 ?_
      refine z_rng (a := 1) (b := 16) (zR_shl1 4 f_3 (by decide)) (fun v_19 hv_19 => ?_)
      refine lv_ior hx hb dX7_readHouse_61 ?_
      refine z_any (fun v_20 => ?_)
      refine z_putI hx hb ht hown hK hP hD hS ziX2 tyX2 tyX2_ok nmX2 rfl 8 (by decide) 6 (by decide) hw_1_96 rfl (v := v_20) rfl rfl rfl (Nat.le_of_ble_eq_true rfl) rfl dX7_readHouse_62 (fun H locs hP hD hS => ?_)
      have hI_21 := xInv_I hI_8 8 6 (v_20) (zR_any (v_20)) rfl
      refine lv_aload_n hx hb dX7_readHouse_65 rfl (lv_at hl 1 rfl) ?_
      refine z_callVv (k := 1) (As := []) (rest := []) hx hb hml hown ht (xk_X7_step l D q cA F _ _ _ hI_21 ) hw_2_161 hmX7_step ⟨rfl, rfl⟩ (na := 0) rfl (by decide +kernel) (by decide) (by decide) rfl rfl hK hP hD hS hA hl.1 rfl (Nat.le_of_ble_eq_true rfl) ⟨Nat.zero_le _, Nat.zero_le _⟩ dX7_readHouse_66 (fun I_22 R_22 J_22 H locs hp_22 hP hD hS _ _ => ?_)
      obtain ⟨hv_22, hk_22, hj_22⟩ := hp_22
      dsimp only at hj_22 hk_22
      cases hj_22
      exact t_16 _ hv_22 (zR_eq ((congrFun (hk_22 8 (by decide)) 4).trans ((congrFun (hk_7 8 (by decide)) 4).trans ((congrFun (hk_6 8 (by decide)) 4).trans (congrFun (hk_4 8 (by decide)) 4)))) f_3) _ _ hP hD hS _ (lv_sub hl [1, 2, 0] rfl)
    · cases hu_9
      refine lv_if_eq (tgt := 69) hx hb dX7_readHouse_50 (by decide) (fun _ => ?_) (fun c_0 => absurd (zD_eq zk_0 zk_z) c_0)
      exact t_16 _ hI_8 (zR_eq ((congrFun (hk_7 8 (by decide)) 4).trans ((congrFun (hk_6 8 (by decide)) 4).trans (congrFun (hk_4 8 (by decide)) 4))) f_3) _ _ hP hD hS _ (lv_sub hl [1, 2, 0] rfl)
  · have t_c_2 := z_ltF c_2
    have f_23 : zR 5 5 (I 8 4) := zR_ley t_c_2 zk_5 f_1 (by decide)
    refine lv_aload_n hx hb dX7_readHouse_10 rfl (lv_at hl 1 rfl) ?_
    refine lv_iconst (v := nI 3) hx hb dX7_readHouse_11 (by decide +kernel) ?_
    refine z_callVv (k := 1) (As := [.int (nI 3)]) (rest := []) hx hb hml hown ht (xk_X7_refuse_2 l D q cA F _ _ _ hI (nI 3) (zR_w zk_3 (by decide))) hw_2_239 hmX7_refuse ⟨rfl, rfl⟩ (na := 1) rfl (by decide +kernel) (by decide) (by decide) rfl rfl hK hP hD hS hA hl.1 rfl (Nat.le_of_ble_eq_true rfl) ⟨Nat.zero_le _, Nat.zero_le _⟩ dX7_readHouse_12 (fun I_24 R_24 J_24 H locs hp_24 hP hD hS _ _ => ?_)
    obtain ⟨hv_24, hk_24, hj_24⟩ := hp_24
    dsimp only at hj_24 hk_24
    cases hj_24
    exact z_vret hx hb hr hlocks hP hD hS dX7_readHouse_15 hv_24
set_option maxHeartbeats 4000000 in
set_option maxRecDepth 100000 in
theorem xk_J0_coder_7d493_3 (l : Launch) (D : va_G) (q : Nat → Nat) (cA : Nat → ClassId) (ad av : Nat → Nat) (t9 : Nat) (F : Nat → Nat → Int32) (I R : Nat → Nat → Int32) (J : Nat → Nat → Int64) (hI : xInv F (I, R, J))  : zNi (zSS zXRs 81 q ad av t9) l D vwCl (zXtys cA) 81 q (zXd q cA) yJ0_coder_7d493 cJ0_coder_7d493 1 (some .byte) ({ frames := 0, cells := 0, slots := 0, locals := 0 } : Room) [.ref (ad 7)] (I, R, J) (fun r u => r = nI 0 ∧ u = (I, R, J)) := by
  intro sz
  refine z_bodyN (by decide +kernel) (Nat.le_of_ble_eq_true rfl) (fun p e s m below meth c ls hx hb hml hr ht hown hlocks hsz hK hP hD hS hN hl => ?_)
  have hA : ∀ a, s.heap.size ≤ a → zA 81 q sz a := fun a h => Or.inr (hsz ▸ h)
  have hl : lv_has ls 1 [(0, .ref (ad 7))] := hl
  have hZ : zSz zXRs 81 q ad av t9 sz s := hsz ▸ hN
  refine va_gets hx hb hZ.2.1 hS hown (ht _ hw_2_195) (fun _ h => h) dJ0_coder_7d493_0 ?_
  refine z_eqi (y := nI 1) rfl ?_
  refine lv_if_eq (tgt := 13) hx hb dJ0_coder_7d493_3 (by decide) (fun c_0 => absurd c_0 (zD_ne zk_1 zk_z (by decide))) (fun _ => ?_)
  refine lv_aload_n hx hb dJ0_coder_7d493_6 rfl (lv_at hl 0 rfl) ?_
  refine vk_getf hx hb (hZ.1.1 7 (by decide)).2.1 hS hown (ht _ hw_8_165) (fun _ h => h) dJ0_coder_7d493_7 ?_
  refine z_eqi (y := nI 0) rfl ?_
  refine lv_goto (tgt := 14) hx hb dJ0_coder_7d493_10 (by decide) ?_
  exact z_zret (v := nI 0) hx hb hr hlocks hP hD hS (by decide +kernel) dJ0_coder_7d493_14 ⟨rfl, rfl⟩
set_option maxHeartbeats 4000000 in
set_option maxRecDepth 100000 in
theorem xk_J0_length_8abf5_3 (l : Launch) (D : va_G) (q : Nat → Nat) (cA : Nat → ClassId) (ad av : Nat → Nat) (t9 : Nat) (F : Nat → Nat → Int32) (I R : Nat → Nat → Int32) (J : Nat → Nat → Int64) (hI : xInv F (I, R, J))  : zNi (zSS zXRs 81 q ad av t9) l D vwCl (zXtys cA) 81 q (zXd q cA) yJ0_length_8abf5 cJ0_length_8abf5 1 (some .int) ({ frames := 1, cells := 0, slots := 0, locals := 20 } : Room) [.ref (ad 7)] (I, R, J) (fun r u => r = nI 5 ∧ u = (I, R, J)) := by
  intro sz
  refine z_bodyN (by decide +kernel) (Nat.le_of_ble_eq_true rfl) (fun p e s m below meth c ls hx hb hml hr ht hown hlocks hsz hK hP hD hS hN hl => ?_)
  have hA : ∀ a, s.heap.size ≤ a → zA 81 q sz a := fun a h => Or.inr (hsz ▸ h)
  have hl : lv_has ls 1 [(0, .ref (ad 7))] := hl
  have hZ : zSz zXRs 81 q ad av t9 sz s := hsz ▸ hN
  refine lv_aload_n hx hb dJ0_length_8abf5_0 rfl (lv_at hl 0 rfl) ?_
  refine vk_getf hx hb (hZ.1.1 7 (by decide)).2.2.1 hS hown (ht _ hw_8_164) (fun _ h => h) dJ0_length_8abf5_1 ?_
  refine va_tlen hx hb (hZ.1.1 7 (by decide)).2.2.2 hS (v := nI 5) rfl dJ0_length_8abf5_4 ?_
  refine lv_aload_n hx hb dJ0_length_8abf5_5 rfl (lv_at hl 0 rfl) ?_
  refine z_cNXi (As := []) (rest := [.int (nI 5)]) hx hb hml hown ht (xk_J0_coder_7d493_3 l D q cA ad av t9 F _ _ _ hI ) hw_2_191 hmJ0_coder_7d493 ⟨rfl, rfl⟩ (na := 0) rfl (by decide +kernel) (by decide) (vk_recv hZ.1 (by decide) hS) hK hP hD hS hA (zSS_c (Rs := zXRs) (t9 := t9) (fun _ _ _ => zXRs_c)) (zSS_w (Rs := zXRs) (t9 := t9) (fun _ _ _ => zXRs_w) hN hsz hS) hl.1 rfl (Nat.le_of_ble_eq_true rfl) ⟨Nat.zero_le _, Nat.zero_le _⟩ dJ0_length_8abf5_6 (fun r_1 I_1 R_1 J_1 H locs hp_1 hP hD hS _ _ => ?_)
  obtain ⟨rfl, hu_1⟩ := hp_1
  cases hu_1
  refine lv_ishr hx hb dJ0_length_8abf5_9 ?_
  refine z_eqi (y := nI 5) (by decide +kernel) ?_
  exact z_iret (v := nI 5) hx hb hr hlocks hP hD hS dJ0_length_8abf5_10 ⟨rfl, rfl⟩
set_option maxHeartbeats 4000000 in
set_option maxRecDepth 100000 in
theorem xk_J0_isLatin1_aae02_3 (l : Launch) (D : va_G) (q : Nat → Nat) (cA : Nat → ClassId) (ad av : Nat → Nat) (t9 : Nat) (F : Nat → Nat → Int32) (I R : Nat → Nat → Int32) (J : Nat → Nat → Int64) (hI : xInv F (I, R, J))  : zNi (zSS zXRs 81 q ad av t9) l D vwCl (zXtys cA) 81 q (zXd q cA) yJ0_isLatin1_aae02 cJ0_isLatin1_aae02 1 (some .boolean) ({ frames := 0, cells := 0, slots := 0, locals := 0 } : Room) [.ref (ad 7)] (I, R, J) (fun r u => (r = nI 1 ∧ u = (I, R, J))) := by
  intro sz
  refine z_bodyN (by decide +kernel) (Nat.le_of_ble_eq_true rfl) (fun p e s m below meth c ls hx hb hml hr ht hown hlocks hsz hK hP hD hS hN hl => ?_)
  have hA : ∀ a, s.heap.size ≤ a → zA 81 q sz a := fun a h => Or.inr (hsz ▸ h)
  have hl : lv_has ls 1 [(0, .ref (ad 7))] := hl
  have hZ : zSz zXRs 81 q ad av t9 sz s := hsz ▸ hN
  refine va_gets hx hb hZ.2.1 hS hown (ht _ hw_2_195) (fun _ h => h) dJ0_isLatin1_aae02_0 ?_
  refine z_eqi (y := nI 1) rfl ?_
  refine lv_if_eq (tgt := 17) hx hb dJ0_isLatin1_aae02_3 (by decide) (fun c_0 => absurd c_0 (zD_ne zk_1 zk_z (by decide))) (fun _ => ?_)
  refine lv_aload_n hx hb dJ0_isLatin1_aae02_6 rfl (lv_at hl 0 rfl) ?_
  refine vk_getf hx hb (hZ.1.1 7 (by decide)).2.1 hS hown (ht _ hw_8_165) (fun _ h => h) dJ0_isLatin1_aae02_7 ?_
  refine z_eqi (y := nI 0) rfl ?_
  refine lv_if_ne (tgt := 17) hx hb dJ0_isLatin1_aae02_10 (by decide) (fun c_0 => absurd (zD_eq zk_0 zk_z) c_0) (fun _ => ?_)
  refine lv_iconst (v := nI 1) hx hb dJ0_isLatin1_aae02_13 (by decide +kernel) ?_
  refine lv_goto (tgt := 18) hx hb dJ0_isLatin1_aae02_14 (by decide) ?_
  exact z_zret (v := nI 1) hx hb hr hlocks hP hD hS (by decide +kernel) dJ0_isLatin1_aae02_18 ⟨rfl, rfl⟩
set_option maxHeartbeats 4000000 in
set_option maxRecDepth 100000 in
theorem xk_J1_charAt_3b067_7 (l : Launch) (D : va_G) (q : Nat → Nat) (cA : Nat → ClassId) (ad av : Nat → Nat) (t9 : Nat) (F : Nat → Nat → Int32) (I R : Nat → Nat → Int32) (J : Nat → Nat → Int64) (hI : xInv F (I, R, J)) (pa1 : Int32) (hpa1 : zR 0 4 pa1) : zNi (zSS zXRs 81 q ad av t9) l D vwCl (zXtys cA) 81 q (zXd q cA) yJ1_charAt_3b067 cJ1_charAt_3b067 2 (some .char) ({ frames := 2, cells := 0, slots := 0, locals := 43 } : Room) [.ref (av 7), .int (pa1)] (I, R, J) (fun r u => zR 0 65535 r ∧ u = (I, R, J)) := by
  intro sz
  refine z_bodyN (by decide +kernel) (Nat.le_of_ble_eq_true rfl) (fun p e s m below meth c ls hx hb hml hr ht hown hlocks hsz hK hP hD hS hN hl => ?_)
  have hA : ∀ a, s.heap.size ≤ a → zA 81 q sz a := fun a h => Or.inr (hsz ▸ h)
  have hl : lv_has ls 2 [(0, .ref (av 7)), (1, .int (pa1))] := hl
  have hZ : zSz zXRs 81 q ad av t9 sz s := hsz ▸ hN
  refine lv_iload_n hx hb dJ1_charAt_3b067_0 rfl (lv_at hl 1 rfl) ?_
  refine lv_aload_n hx hb dJ1_charAt_3b067_1 rfl (lv_at hl 0 rfl) ?_
  refine va_tlen hx hb (hZ.1.1 7 (by decide)).2.2.2 hS (v := nI 5) rfl dJ1_charAt_3b067_2 ?_
  refine z_cNSv (As := [.int (pa1), .int (nI 5)]) (rest := []) hx hb hml hown ht (xk_J0_checkIndex_df160_1 l D q cA ad av t9 F _ _ _ hI (pa1) hpa1) hw_2_208 hmJ0_checkIndex_df160 ⟨rfl, rfl⟩ (na := 2) rfl (by decide +kernel) (by decide) hK hP hD hS hA (zSS_c (Rs := zXRs) (t9 := t9) (fun _ _ _ => zXRs_c)) (zSS_w (Rs := zXRs) (t9 := t9) (fun _ _ _ => zXRs_w) hN hsz hS) hl.1 rfl (Nat.le_of_ble_eq_true rfl) ⟨Nat.zero_le _, Nat.zero_le _⟩ dJ1_charAt_3b067_3 (fun I_1 R_1 J_1 H locs hp_1 hP hD hS _ _ => ?_)
  cases hp_1
  refine lv_aload_n hx hb dJ1_charAt_3b067_6 rfl (lv_at hl 0 rfl) ?_
  refine lv_iload_n hx hb dJ1_charAt_3b067_7 rfl (lv_at hl 1 rfl) ?_
  refine va_tb hx hb (hZ.1.1 7 (by decide)).2.2.2 hS (zR_vin hpa1 (by decide)) rfl dJ1_charAt_3b067_8 ?_
  refine z_any (fun v_2 => ?_)
  refine lv_sipush (v := nI 255) hx hb dJ1_charAt_3b067_9 (by decide +kernel) ?_
  refine lv_iand hx hb dJ1_charAt_3b067_12 ?_
  refine z_rng (a := 0) (b := 255) (zR_andr zk_255 (by decide)) (fun v_3 hv_3 => ?_)
  refine lv_i2c hx hb dJ1_charAt_3b067_13 rfl ?_
  refine z_rng (a := 0) (b := 65535) (zR_i2c _) (fun v_4 hv_4 => ?_)
  exact z_zret (v := v_4) hx hb hr hlocks hP hD hS (zR_char hv_4) dJ1_charAt_3b067_14 ⟨hv_4, rfl⟩
set_option maxHeartbeats 4000000 in
set_option maxRecDepth 100000 in
theorem xk_J0_charAt_5068e_7 (l : Launch) (D : va_G) (q : Nat → Nat) (cA : Nat → ClassId) (ad av : Nat → Nat) (t9 : Nat) (F : Nat → Nat → Int32) (I R : Nat → Nat → Int32) (J : Nat → Nat → Int64) (hI : xInv F (I, R, J)) (pa0 : Int32) (hpa0 : zR 0 4 pa0) : zNi (zSS zXRs 81 q ad av t9) l D vwCl (zXtys cA) 81 q (zXd q cA) yJ0_charAt_5068e cJ0_charAt_5068e 2 (some .char) ({ frames := 3, cells := 0, slots := 0, locals := 64 } : Room) [.ref (ad 7), .int (pa0)] (I, R, J) (fun r u => zR 0 65535 r ∧ u = (I, R, J)) := by
  intro sz
  refine z_bodyN (by decide +kernel) (Nat.le_of_ble_eq_true rfl) (fun p e s m below meth c ls hx hb hml hr ht hown hlocks hsz hK hP hD hS hN hl => ?_)
  have hA : ∀ a, s.heap.size ≤ a → zA 81 q sz a := fun a h => Or.inr (hsz ▸ h)
  have hl : lv_has ls 2 [(0, .ref (ad 7)), (1, .int (pa0))] := hl
  have hZ : zSz zXRs 81 q ad av t9 sz s := hsz ▸ hN
  refine lv_aload_n hx hb dJ0_charAt_5068e_0 rfl (lv_at hl 0 rfl) ?_
  refine z_cNXi (As := []) (rest := []) hx hb hml hown ht (xk_J0_isLatin1_aae02_3 l D q cA ad av t9 F _ _ _ hI ) hw_2_201 hmJ0_isLatin1_aae02 ⟨rfl, rfl⟩ (na := 0) rfl (by decide +kernel) (by decide) (vk_recv hZ.1 (by decide) hS) hK hP hD hS hA (zSS_c (Rs := zXRs) (t9 := t9) (fun _ _ _ => zXRs_c)) (zSS_w (Rs := zXRs) (t9 := t9) (fun _ _ _ => zXRs_w) hN hsz hS) hl.1 rfl (Nat.le_of_ble_eq_true rfl) ⟨Nat.zero_le _, Nat.zero_le _⟩ dJ0_charAt_5068e_1 (fun r_1 I_1 R_1 J_1 H locs hp_1 hP hD hS _ _ => ?_)
  obtain ⟨rfl, hu_1⟩ := hp_1
  cases hu_1
  refine lv_if_eq (tgt := 16) hx hb dJ0_charAt_5068e_4 (by decide) (fun c_0 => absurd c_0 (zD_ne zk_1 zk_z (by decide))) (fun _ => ?_)
  refine lv_aload_n hx hb dJ0_charAt_5068e_7 rfl (lv_at hl 0 rfl) ?_
  refine vk_getf hx hb (hZ.1.1 7 (by decide)).2.2.1 hS hown (ht _ hw_8_164) (fun _ h => h) dJ0_charAt_5068e_8 ?_
  refine lv_iload_n hx hb dJ0_charAt_5068e_11 rfl (lv_at hl 1 rfl) ?_
  refine z_cNSi (As := [.ref (av 7), .int (pa0)]) (rest := []) hx hb hml hown ht (xk_J1_charAt_3b067_7 l D q cA ad av t9 F _ _ _ hI (pa0) hpa0) hw_2_205 hmJ1_charAt_3b067 ⟨rfl, rfl⟩ (na := 2) rfl (by decide +kernel) (by decide) hK hP hD hS hA (zSS_c (Rs := zXRs) (t9 := t9) (fun _ _ _ => zXRs_c)) (zSS_w (Rs := zXRs) (t9 := t9) (fun _ _ _ => zXRs_w) hN hsz hS) hl.1 rfl (Nat.le_of_ble_eq_true rfl) ⟨Nat.zero_le _, Nat.zero_le _⟩ dJ0_charAt_5068e_12 (fun r_2 I_2 R_2 J_2 H locs hp_2 hP hD hS _ _ => ?_)
  obtain ⟨hr_2, hu_2⟩ := hp_2
  cases hu_2
  exact z_zret (v := r_2) hx hb hr hlocks hP hD hS (zR_char hr_2) dJ0_charAt_5068e_15 ⟨hr_2, rfl⟩
set_option maxHeartbeats 4000000 in
set_option maxRecDepth 100000 in
theorem xk_X7_isWord_3 (l : Launch) (D : va_G) (q : Nat → Nat) (cA : Nat → ClassId) (ad av : Nat → Nat) (t9 : Nat) (F : Nat → Nat → Int32) (I R : Nat → Nat → Int32) (J : Nat → Nat → Int64) (hI : xInv F (I, R, J))  : zNi (zSS zXRs 81 q ad av t9) l D vwCl (zXtys cA) 81 q (zXd q cA) yX7_isWord cX7_isWord 3 (some .boolean) ({ frames := 4, cells := 0, slots := 0, locals := 85 } : Room) [.ref (q 1), .ref (ad 7)] (I, R, J) (fun r u => (r = nI 1 ∧ u = (I, R, J)) ∨ (r = nI 0 ∧ u = (I, R, J))) := by
  intro sz
  refine z_bodyN (by decide +kernel) (Nat.le_of_ble_eq_true rfl) (fun p e s m below meth c ls hx hb hml hr ht hown hlocks hsz hK hP hD hS hN hl => ?_)
  have hA : ∀ a, s.heap.size ≤ a → zA 81 q sz a := fun a h => Or.inr (hsz ▸ h)
  have hl : lv_has ls 3 [(0, .ref (q 1)), (1, .ref (ad 7))] := hl
  have hZ : zSz zXRs 81 q ad av t9 sz s := hsz ▸ hN
  refine lv_aload_n hx hb dX7_isWord_0 rfl (lv_at hl 0 rfl) ?_
  refine z_get hx hb ht hown hK hP ziX7 rfl 1 (by decide) 4 (by decide) hw_1_42 rfl (v := .int (I 1 4)) rfl dX7_isWord_1 ?_
  refine lv_iconst (v := nI 1) hx hb dX7_isWord_4 (by decide +kernel) ?_
  refine lv_icmp_ne (tgt := 24) hx hb dX7_isWord_5 (by decide) (fun c_1 => ?_) (fun c_1 => ?_)
  · have t_c_1 := z_eqF c_1
    refine lv_iconst (v := nI 0) hx hb dX7_isWord_24 (by decide +kernel) ?_
    exact z_zret (v := nI 0) hx hb hr hlocks hP hD hS (by decide +kernel) dX7_isWord_25 (Or.inr ⟨rfl, rfl⟩)
  · have t_c_1 := z_eqT c_1
    have f_2 : zR 1 1 (I 1 4) := zR_eqx t_c_1 zk_1
    refine lv_aload_n hx hb dX7_isWord_8 rfl (lv_at hl 0 rfl) ?_
    refine z_get hx hb ht hown hK hP ziX7 rfl 1 (by decide) 6 (by decide) hw_1_44 rfl (v := .int (I 1 6)) rfl dX7_isWord_9 ?_
    have f_3 : zR 0 800 (I 1 6) := xI hI 1 6
    refine lv_aload_n hx hb dX7_isWord_12 rfl (lv_at hl 0 rfl) ?_
    refine z_get hx hb ht hown hK hP ziX7 rfl 1 (by decide) 5 (by decide) hw_1_43 rfl (v := .int (I 1 5)) rfl dX7_isWord_13 ?_
    have f_4 : zR 0 800 (I 1 5) := xI hI 1 5
    refine lv_isub hx hb dX7_isWord_16 ?_
    refine lv_topi (fun v_5 ev_5 => ?_)
    have hv_5 : zR (-800) 800 v_5 := ev_5 ▸ zR_sub f_3 f_4 (by decide)
    refine lv_aload_n hx hb dX7_isWord_17 rfl (lv_at hl 1 rfl) ?_
    refine z_cNXi (As := []) (rest := [.int (v_5)]) hx hb hml hown ht (xk_J0_length_8abf5_3 l D q cA ad av t9 F _ _ _ hI ) hw_2_187 hmJ0_length_8abf5 ⟨rfl, rfl⟩ (na := 0) rfl (by decide +kernel) (by decide) (vk_recv hZ.1 (by decide) hS) hK hP hD hS hA (zSS_c (Rs := zXRs) (t9 := t9) (fun _ _ _ => zXRs_c)) (zSS_w (Rs := zXRs) (t9 := t9) (fun _ _ _ => zXRs_w) hN hsz hS) hl.1 rfl (Nat.le_of_ble_eq_true rfl) ⟨Nat.zero_le _, Nat.zero_le _⟩ dX7_isWord_18 (fun r_6 I_6 R_6 J_6 H locs hp_6 hP hD hS _ _ => ?_)
    obtain ⟨rfl, hu_6⟩ := hp_6
    cases hu_6
    refine lv_icmp_eq (tgt := 26) hx hb dX7_isWord_21 (by decide) (fun c_7 => ?_) (fun c_7 => ?_)
    · have t_c_7 := z_eqT c_7
      have f_8 : zR 5 5 (v_5) := zR_eqx t_c_7 zk_5
      have f_9 : zR 0 795 (I 1 5) := z_start f_3 f_4 ev_5 f_8 (by decide)
      refine lv_iconst (v := nI 0) hx hb dX7_isWord_26 (by decide +kernel) ?_
      refine lv_istore_n (lv' := [(2, .int (nI 0)), (0, .ref (q 1)), (1, .ref (ad 7))]) hx hb dX7_isWord_27 rfl hl (by decide) rfl (fun ls hl => ?_)
      have loop_43 : ∀ N : Nat, ∀ x_42 : Int32, zR 0 5 x_42 → (2147483648 - (x_42).toInt).toNat < N → ∀ (H : Heap) (locs : List Loc), va_P D vwCl (zw 81 q (zXd q cA) I R J) H → va_D (zA 81 q sz) (zw 81 q (zXd q cA) I R J) → va_S (zA 81 q sz) s.heap H locs → ∀ ls : Array Slot, lv_has ls 3 [(0, .ref (q 1)), (1, .ref (ad 7)), (2, .int (x_42))] → W p l e ({ frames := 4, cells := 0, slots := 0, locals := 85 } : Room) s m ([.ref (q 1), .ref (ad 7)] : List Value).toArray below meth c H locs 0 0 (MQ below (va_Qi (fun r u => (r = nI 1 ∧ u = (I, R, J)) ∨ (r = nI 0 ∧ u = (I, R, J))) (zB D vwCl 81 q (zXd q cA) sz) (zA 81 q sz)) ([.ref (q 1), .ref (ad 7)] : List Value).toArray s 0 0 (zA 81 q sz)) (F0 m 28 ls []) := by
        intro N
        induction N with
        | zero => intro x_42 hx_42 hN; exact absurd hN (Nat.not_lt_zero _)
        | succ N ih_45 =>
          intro x_42 hx_42 hN_44 H locs hP hD hS ls hl
          refine lv_iload_n hx hb dX7_isWord_28 rfl (lv_at hl 2 rfl) ?_
          refine lv_aload_n hx hb dX7_isWord_29 rfl (lv_at hl 1 rfl) ?_
          refine z_cNXi (As := []) (rest := [.int (x_42)]) hx hb hml hown ht (xk_J0_length_8abf5_3 l D q cA ad av t9 F _ _ _ hI ) hw_2_187 hmJ0_length_8abf5 ⟨rfl, rfl⟩ (na := 0) rfl (by decide +kernel) (by decide) (vk_recv hZ.1 (by decide) hS) hK hP hD hS hA (zSS_c (Rs := zXRs) (t9 := t9) (fun _ _ _ => zXRs_c)) (zSS_w (Rs := zXRs) (t9 := t9) (fun _ _ _ => zXRs_w) hN hsz hS) hl.1 rfl (Nat.le_of_ble_eq_true rfl) ⟨Nat.zero_le _, Nat.zero_le _⟩ dX7_isWord_30 (fun r_46 I_46 R_46 J_46 H locs hp_46 hP hD hS _ _ => ?_)
          obtain ⟨rfl, hu_46⟩ := hp_46
          cases hu_46
          refine lv_icmp_ge (tgt := 63) hx hb dX7_isWord_33 (by decide) (fun c_47 => ?_) (fun c_47 => ?_)
          · have t_c_47 := z_leT c_47
            have f_48 : zR 5 5 (x_42) := zR_ley t_c_47 zk_5 hx_42 (by decide)
            refine lv_iconst (v := nI 1) hx hb dX7_isWord_63 (by decide +kernel) ?_
            exact z_zret (v := nI 1) hx hb hr hlocks hP hD hS (by decide +kernel) dX7_isWord_64 (Or.inl ⟨rfl, rfl⟩)
          · have t_c_47 := z_leF c_47
            have f_49 : zR 0 4 (x_42) := zR_ltx t_c_47 hx_42 zk_5 (by decide)
            refine lv_aload_n hx hb dX7_isWord_36 rfl (lv_at hl 0 rfl) ?_
            refine z_get hx hb ht hown hK hP ziX7 rfl 1 (by decide) 0 (by decide) hw_1_35 rfl (v := .ref (q 2)) rfl dX7_isWord_37 ?_
            refine lv_aload_n hx hb dX7_isWord_40 rfl (lv_at hl 0 rfl) ?_
            refine z_get hx hb ht hown hK hP ziX7 rfl 1 (by decide) 5 (by decide) hw_1_43 rfl (v := .int (I 1 5)) rfl dX7_isWord_41 ?_
            refine lv_iload_n hx hb dX7_isWord_44 rfl (lv_at hl 2 rfl) ?_
            refine lv_iadd hx hb dX7_isWord_45 ?_
            refine z_rng (a := 0) (b := 799) (zR_add f_9 f_49 (by decide)) (fun v_50 hv_50 => ?_)
            refine z_bald hx hb hK hP 2 (by decide) 0 rfl rfl (zR_vin hv_50 (by decide)) dX7_isWord_46 ?_
            refine z_eqi (y := R 2 (v_50).toNatClampNeg) rfl ?_
            refine lv_aload_n hx hb dX7_isWord_47 rfl (lv_at hl 1 rfl) ?_
            refine lv_iload_n hx hb dX7_isWord_48 rfl (lv_at hl 2 rfl) ?_
            refine z_cNXi (As := [.int (x_42)]) (rest := [.int (R 2 (v_50).toNatClampNeg)]) hx hb hml hown ht (xk_J0_charAt_5068e_7 l D q cA ad av t9 F _ _ _ hI (x_42) f_49) hw_2_197 hmJ0_charAt_5068e ⟨rfl, rfl⟩ (na := 1) rfl (by decide +kernel) (by decide) (vk_recv hZ.1 (by decide) hS) hK hP hD hS hA (zSS_c (Rs := zXRs) (t9 := t9) (fun _ _ _ => zXRs_c)) (zSS_w (Rs := zXRs) (t9 := t9) (fun _ _ _ => zXRs_w) hN hsz hS) hl.1 rfl (Nat.le_of_ble_eq_true rfl) ⟨Nat.zero_le _, Nat.zero_le _⟩ dX7_isWord_49 (fun r_51 I_51 R_51 J_51 H locs hp_51 hP hD hS _ _ => ?_)
            obtain ⟨hr_51, hu_51⟩ := hp_51
            cases hu_51
            refine lv_icmp_eq (tgt := 57) hx hb dX7_isWord_52 (by decide) (fun c_52 => ?_) (fun c_52 => ?_)
            · have t_c_52 := z_eqT c_52
              have f_53 : zR 0 65535 (R 2 (v_50).toNatClampNeg) := zR_eqx t_c_52 hr_51
              obtain ⟨v_54, ev_54⟩ : ∃ y : Int32, y = x_42 + nI 1 := ⟨_, rfl⟩
              have hv_54 : zR 1 5 v_54 := ev_54 ▸ zR_add f_49 zk_1 (by decide)
              have mv_54 : v_54.toInt = (x_42).toInt + 1 := by rw [ev_54, zR_addE f_49 zk_1 (by decide)]; rfl
              refine lv_iinc (v := v_54) (lv' := [(2, .int (v_54)), (0, .ref (q 1)), (1, .ref (ad 7))]) hx hb dX7_isWord_57 hl (k := 2) rfl (ev_54 ▸ rfl) (by decide) rfl (fun ls hl => ?_)
              refine lv_goto (tgt := 28) hx hb dX7_isWord_60 (by decide) ?_
              exact ih_45 (v_54) (zR_w hv_54 (by decide)) (z2_up mv_54 (by decide) hN_44) _ _ hP hD hS _ (lv_sub hl [1, 2, 0] rfl)
            · have t_c_52 := z_eqF c_52
              refine lv_iconst (v := nI 0) hx hb dX7_isWord_55 (by decide +kernel) ?_
              exact z_zret (v := nI 0) hx hb hr hlocks hP hD hS (by decide +kernel) dX7_isWord_56 (Or.inr ⟨rfl, rfl⟩)
      exact loop_43 _ (nI 0) (zR_w zk_0 (by decide)) (Nat.lt_succ_self _) _ _ hP hD hS _ (lv_sub hl [1, 2, 0] rfl)
    · have t_c_7 := z_eqF c_7
      refine lv_iconst (v := nI 0) hx hb dX7_isWord_24 (by decide +kernel) ?_
      exact z_zret (v := nI 0) hx hb hr hlocks hP hD hS (by decide +kernel) dX7_isWord_25 (Or.inr ⟨rfl, rfl⟩)
set_option maxHeartbeats 4000000 in
set_option maxRecDepth 100000 in
theorem xk_J0_coder_7d493_4 (l : Launch) (D : va_G) (q : Nat → Nat) (cA : Nat → ClassId) (ad av : Nat → Nat) (t9 : Nat) (F : Nat → Nat → Int32) (I R : Nat → Nat → Int32) (J : Nat → Nat → Int64) (hI : xInv F (I, R, J))  : zNi (zSS zXRs 81 q ad av t9) l D vwCl (zXtys cA) 81 q (zXd q cA) yJ0_coder_7d493 cJ0_coder_7d493 1 (some .byte) ({ frames := 0, cells := 0, slots := 0, locals := 0 } : Room) [.ref (ad 8)] (I, R, J) (fun r u => r = nI 0 ∧ u = (I, R, J)) := by
  intro sz
  refine z_bodyN (by decide +kernel) (Nat.le_of_ble_eq_true rfl) (fun p e s m below meth c ls hx hb hml hr ht hown hlocks hsz hK hP hD hS hN hl => ?_)
  have hA : ∀ a, s.heap.size ≤ a → zA 81 q sz a := fun a h => Or.inr (hsz ▸ h)
  have hl : lv_has ls 1 [(0, .ref (ad 8))] := hl
  have hZ : zSz zXRs 81 q ad av t9 sz s := hsz ▸ hN
  refine va_gets hx hb hZ.2.1 hS hown (ht _ hw_2_195) (fun _ h => h) dJ0_coder_7d493_0 ?_
  refine z_eqi (y := nI 1) rfl ?_
  refine lv_if_eq (tgt := 13) hx hb dJ0_coder_7d493_3 (by decide) (fun c_0 => absurd c_0 (zD_ne zk_1 zk_z (by decide))) (fun _ => ?_)
  refine lv_aload_n hx hb dJ0_coder_7d493_6 rfl (lv_at hl 0 rfl) ?_
  refine vk_getf hx hb (hZ.1.1 8 (by decide)).2.1 hS hown (ht _ hw_8_165) (fun _ h => h) dJ0_coder_7d493_7 ?_
  refine z_eqi (y := nI 0) rfl ?_
  refine lv_goto (tgt := 14) hx hb dJ0_coder_7d493_10 (by decide) ?_
  exact z_zret (v := nI 0) hx hb hr hlocks hP hD hS (by decide +kernel) dJ0_coder_7d493_14 ⟨rfl, rfl⟩
set_option maxHeartbeats 4000000 in
set_option maxRecDepth 100000 in
theorem xk_J0_length_8abf5_4 (l : Launch) (D : va_G) (q : Nat → Nat) (cA : Nat → ClassId) (ad av : Nat → Nat) (t9 : Nat) (F : Nat → Nat → Int32) (I R : Nat → Nat → Int32) (J : Nat → Nat → Int64) (hI : xInv F (I, R, J))  : zNi (zSS zXRs 81 q ad av t9) l D vwCl (zXtys cA) 81 q (zXd q cA) yJ0_length_8abf5 cJ0_length_8abf5 1 (some .int) ({ frames := 1, cells := 0, slots := 0, locals := 20 } : Room) [.ref (ad 8)] (I, R, J) (fun r u => r = nI 2 ∧ u = (I, R, J)) := by
  intro sz
  refine z_bodyN (by decide +kernel) (Nat.le_of_ble_eq_true rfl) (fun p e s m below meth c ls hx hb hml hr ht hown hlocks hsz hK hP hD hS hN hl => ?_)
  have hA : ∀ a, s.heap.size ≤ a → zA 81 q sz a := fun a h => Or.inr (hsz ▸ h)
  have hl : lv_has ls 1 [(0, .ref (ad 8))] := hl
  have hZ : zSz zXRs 81 q ad av t9 sz s := hsz ▸ hN
  refine lv_aload_n hx hb dJ0_length_8abf5_0 rfl (lv_at hl 0 rfl) ?_
  refine vk_getf hx hb (hZ.1.1 8 (by decide)).2.2.1 hS hown (ht _ hw_8_164) (fun _ h => h) dJ0_length_8abf5_1 ?_
  refine va_tlen hx hb (hZ.1.1 8 (by decide)).2.2.2 hS (v := nI 2) rfl dJ0_length_8abf5_4 ?_
  refine lv_aload_n hx hb dJ0_length_8abf5_5 rfl (lv_at hl 0 rfl) ?_
  refine z_cNXi (As := []) (rest := [.int (nI 2)]) hx hb hml hown ht (xk_J0_coder_7d493_4 l D q cA ad av t9 F _ _ _ hI ) hw_2_191 hmJ0_coder_7d493 ⟨rfl, rfl⟩ (na := 0) rfl (by decide +kernel) (by decide) (vk_recv hZ.1 (by decide) hS) hK hP hD hS hA (zSS_c (Rs := zXRs) (t9 := t9) (fun _ _ _ => zXRs_c)) (zSS_w (Rs := zXRs) (t9 := t9) (fun _ _ _ => zXRs_w) hN hsz hS) hl.1 rfl (Nat.le_of_ble_eq_true rfl) ⟨Nat.zero_le _, Nat.zero_le _⟩ dJ0_length_8abf5_6 (fun r_1 I_1 R_1 J_1 H locs hp_1 hP hD hS _ _ => ?_)
  obtain ⟨rfl, hu_1⟩ := hp_1
  cases hu_1
  refine lv_ishr hx hb dJ0_length_8abf5_9 ?_
  refine z_eqi (y := nI 2) (by decide +kernel) ?_
  exact z_iret (v := nI 2) hx hb hr hlocks hP hD hS dJ0_length_8abf5_10 ⟨rfl, rfl⟩
set_option maxHeartbeats 4000000 in
set_option maxRecDepth 100000 in
theorem xk_J0_isLatin1_aae02_4 (l : Launch) (D : va_G) (q : Nat → Nat) (cA : Nat → ClassId) (ad av : Nat → Nat) (t9 : Nat) (F : Nat → Nat → Int32) (I R : Nat → Nat → Int32) (J : Nat → Nat → Int64) (hI : xInv F (I, R, J))  : zNi (zSS zXRs 81 q ad av t9) l D vwCl (zXtys cA) 81 q (zXd q cA) yJ0_isLatin1_aae02 cJ0_isLatin1_aae02 1 (some .boolean) ({ frames := 0, cells := 0, slots := 0, locals := 0 } : Room) [.ref (ad 8)] (I, R, J) (fun r u => (r = nI 1 ∧ u = (I, R, J))) := by
  intro sz
  refine z_bodyN (by decide +kernel) (Nat.le_of_ble_eq_true rfl) (fun p e s m below meth c ls hx hb hml hr ht hown hlocks hsz hK hP hD hS hN hl => ?_)
  have hA : ∀ a, s.heap.size ≤ a → zA 81 q sz a := fun a h => Or.inr (hsz ▸ h)
  have hl : lv_has ls 1 [(0, .ref (ad 8))] := hl
  have hZ : zSz zXRs 81 q ad av t9 sz s := hsz ▸ hN
  refine va_gets hx hb hZ.2.1 hS hown (ht _ hw_2_195) (fun _ h => h) dJ0_isLatin1_aae02_0 ?_
  refine z_eqi (y := nI 1) rfl ?_
  refine lv_if_eq (tgt := 17) hx hb dJ0_isLatin1_aae02_3 (by decide) (fun c_0 => absurd c_0 (zD_ne zk_1 zk_z (by decide))) (fun _ => ?_)
  refine lv_aload_n hx hb dJ0_isLatin1_aae02_6 rfl (lv_at hl 0 rfl) ?_
  refine vk_getf hx hb (hZ.1.1 8 (by decide)).2.1 hS hown (ht _ hw_8_165) (fun _ h => h) dJ0_isLatin1_aae02_7 ?_
  refine z_eqi (y := nI 0) rfl ?_
  refine lv_if_ne (tgt := 17) hx hb dJ0_isLatin1_aae02_10 (by decide) (fun c_0 => absurd (zD_eq zk_0 zk_z) c_0) (fun _ => ?_)
  refine lv_iconst (v := nI 1) hx hb dJ0_isLatin1_aae02_13 (by decide +kernel) ?_
  refine lv_goto (tgt := 18) hx hb dJ0_isLatin1_aae02_14 (by decide) ?_
  exact z_zret (v := nI 1) hx hb hr hlocks hP hD hS (by decide +kernel) dJ0_isLatin1_aae02_18 ⟨rfl, rfl⟩
set_option maxHeartbeats 4000000 in
set_option maxRecDepth 100000 in
theorem xk_J3_checkIndex_8e157_8 (l : Launch) (D : va_G) (q : Nat → Nat) (cA : Nat → ClassId) (ad av : Nat → Nat) (t9 : Nat) (F : Nat → Nat → Int32) (I R : Nat → Nat → Int32) (J : Nat → Nat → Int64) (hI : xInv F (I, R, J)) (pa0 : Int32) (hpa0 : zR 0 1 pa0) : zNi (zSS zXRs 81 q ad av t9) l D vwCl (zXtys cA) 81 q (zXd q cA) yJ3_checkIndex_8e157 cJ3_checkIndex_8e157 3 (some .int) ({ frames := 0, cells := 0, slots := 0, locals := 0 } : Room) [.int (pa0), .int (nI 2), .null] (I, R, J) (fun r u => zR 0 1 r ∧ u = (I, R, J)) := by
  intro sz
  refine z_bodyN (by decide +kernel) (Nat.le_of_ble_eq_true rfl) (fun p e s m below meth c ls hx hb hml hr ht hown hlocks hsz hK hP hD hS hN hl => ?_)
  have hA : ∀ a, s.heap.size ≤ a → zA 81 q sz a := fun a h => Or.inr (hsz ▸ h)
  have hl : lv_has ls 3 [(0, .int (pa0)), (1, .int (nI 2)), (2, .null)] := hl
  have hZ : zSz zXRs 81 q ad av t9 sz s := hsz ▸ hN
  refine lv_iload_n hx hb dJ3_checkIndex_8e157_0 rfl (lv_at hl 0 rfl) ?_
  refine lv_if_lt (tgt := 9) hx hb dJ3_checkIndex_8e157_1 (by decide) (fun c_0 => absurd c_0 (zD_nlt hpa0 zk_z (by decide))) (fun _ => ?_)
  refine lv_iload_n hx hb dJ3_checkIndex_8e157_4 rfl (lv_at hl 0 rfl) ?_
  refine lv_iload_n hx hb dJ3_checkIndex_8e157_5 rfl (lv_at hl 1 rfl) ?_
  refine lv_icmp_lt (tgt := 16) hx hb dJ3_checkIndex_8e157_6 (by decide) (fun _ => ?_) (fun c_0 => absurd (zD_lt hpa0 zk_2 (by decide)) c_0)
  refine lv_iload_n hx hb dJ3_checkIndex_8e157_16 rfl (lv_at hl 0 rfl) ?_
  exact z_iret (v := pa0) hx hb hr hlocks hP hD hS dJ3_checkIndex_8e157_17 ⟨hpa0, rfl⟩
set_option maxHeartbeats 4000000 in
set_option maxRecDepth 100000 in
theorem xk_J3_checkIndex_8e157_9 (l : Launch) (D : va_G) (q : Nat → Nat) (cA : Nat → ClassId) (ad av : Nat → Nat) (t9 : Nat) (F : Nat → Nat → Int32) (I R : Nat → Nat → Int32) (J : Nat → Nat → Int64) (hI : xInv F (I, R, J)) (pa0 : Int32) (hpa0 : zR 0 1 pa0) : zNi (zSS zXRs 81 q ad av t9) l D vwCl (zXtys cA) 81 q (zXd q cA) yJ3_checkIndex_8e157 cJ3_checkIndex_8e157 3 (some .int) ({ frames := 0, cells := 0, slots := 0, locals := 0 } : Room) [.int (pa0), .int (nI 2), .ref (t9)] (I, R, J) (fun r u => zR 0 1 r ∧ u = (I, R, J)) := by
  intro sz
  refine z_bodyN (by decide +kernel) (Nat.le_of_ble_eq_true rfl) (fun p e s m below meth c ls hx hb hml hr ht hown hlocks hsz hK hP hD hS hN hl => ?_)
  have hA : ∀ a, s.heap.size ≤ a → zA 81 q sz a := fun a h => Or.inr (hsz ▸ h)
  have hl : lv_has ls 3 [(0, .int (pa0)), (1, .int (nI 2)), (2, .ref (t9))] := hl
  have hZ : zSz zXRs 81 q ad av t9 sz s := hsz ▸ hN
  refine lv_iload_n hx hb dJ3_checkIndex_8e157_0 rfl (lv_at hl 0 rfl) ?_
  refine lv_if_lt (tgt := 9) hx hb dJ3_checkIndex_8e157_1 (by decide) (fun c_0 => absurd c_0 (zD_nlt hpa0 zk_z (by decide))) (fun _ => ?_)
  refine lv_iload_n hx hb dJ3_checkIndex_8e157_4 rfl (lv_at hl 0 rfl) ?_
  refine lv_iload_n hx hb dJ3_checkIndex_8e157_5 rfl (lv_at hl 1 rfl) ?_
  refine lv_icmp_lt (tgt := 16) hx hb dJ3_checkIndex_8e157_6 (by decide) (fun _ => ?_) (fun c_0 => absurd (zD_lt hpa0 zk_2 (by decide)) c_0)
  refine lv_iload_n hx hb dJ3_checkIndex_8e157_16 rfl (lv_at hl 0 rfl) ?_
  exact z_iret (v := pa0) hx hb hr hlocks hP hD hS dJ3_checkIndex_8e157_17 ⟨hpa0, rfl⟩
set_option maxHeartbeats 4000000 in
set_option maxRecDepth 100000 in
theorem xk_J0_checkIndex_df160_4 (l : Launch) (D : va_G) (q : Nat → Nat) (cA : Nat → ClassId) (ad av : Nat → Nat) (t9 : Nat) (F : Nat → Nat → Int32) (I R : Nat → Nat → Int32) (J : Nat → Nat → Int64) (hI : xInv F (I, R, J)) (pa0 : Int32) (hpa0 : zR 0 1 pa0) : zNv (zSS zXRs 81 q ad av t9) l D vwCl (zXtys cA) 81 q (zXd q cA) yJ0_checkIndex_df160 cJ0_checkIndex_df160 2 none ({ frames := 1, cells := 0, slots := 0, locals := 22 } : Room) [.int (pa0), .int (nI 2)] (I, R, J) (fun u => u = (I, R, J)) := by
  intro sz
  refine z_bodyN (by decide +kernel) (Nat.le_of_ble_eq_true rfl) (fun p e s m below meth c ls hx hb hml hr ht hown hlocks hsz hK hP hD hS hN hl => ?_)
  have hA : ∀ a, s.heap.size ≤ a → zA 81 q sz a := fun a h => Or.inr (hsz ▸ h)
  have hl : lv_has ls 2 [(0, .int (pa0)), (1, .int (nI 2))] := hl
  have hZ : zSz zXRs 81 q ad av t9 sz s := hsz ▸ hN
  refine lv_iload_n hx hb dJ0_checkIndex_df160_0 rfl (lv_at hl 0 rfl) ?_
  refine lv_iload_n hx hb dJ0_checkIndex_df160_1 rfl (lv_at hl 1 rfl) ?_
  rcases hZ.2.2.1 with hz9 | ⟨t9, hz9⟩
  · refine va_gets hx hb hz9 hS hown (ht _ hw_2_211) (fun _ h => h) dJ0_checkIndex_df160_2 ?_
    refine z_cNSi (As := [.int (pa0), .int (nI 2), .null]) (rest := []) hx hb hml hown ht (xk_J3_checkIndex_8e157_8 l D q cA ad av t9 F _ _ _ hI (pa0) hpa0) hw_2_213 hmJ3_checkIndex_8e157 ⟨rfl, rfl⟩ (na := 3) rfl (by decide +kernel) (by decide) hK hP hD hS hA (zSS_c (Rs := zXRs) (t9 := t9) (fun _ _ _ => zXRs_c)) (zSS_w (Rs := zXRs) (t9 := t9) (fun _ _ _ => zXRs_w) hN hsz hS) hl.1 rfl (Nat.le_of_ble_eq_true rfl) ⟨Nat.zero_le _, Nat.zero_le _⟩ dJ0_checkIndex_df160_5 (fun r_1 I_1 R_1 J_1 H locs hp_1 hP hD hS _ _ => ?_)
    obtain ⟨hr_1, hu_1⟩ := hp_1
    cases hu_1
    refine lv_pop hx hb dJ0_checkIndex_df160_8 rfl ?_
    exact z_vret hx hb hr hlocks hP hD hS dJ0_checkIndex_df160_9 rfl
  · refine va_gets hx hb hz9 hS hown (ht _ hw_2_211) (fun _ h => h) dJ0_checkIndex_df160_2 ?_
    refine z_cNSi (As := [.int (pa0), .int (nI 2), .ref (t9)]) (rest := []) hx hb hml hown ht (xk_J3_checkIndex_8e157_9 l D q cA ad av t9 F _ _ _ hI (pa0) hpa0) hw_2_213 hmJ3_checkIndex_8e157 ⟨rfl, rfl⟩ (na := 3) rfl (by decide +kernel) (by decide) hK hP hD hS hA (zSS_c (Rs := zXRs) (t9 := t9) (fun _ _ _ => zXRs_c)) (zSS_w (Rs := zXRs) (t9 := t9) (fun _ _ _ => zXRs_w) hN hsz hS) hl.1 rfl (Nat.le_of_ble_eq_true rfl) ⟨Nat.zero_le _, Nat.zero_le _⟩ dJ0_checkIndex_df160_5 (fun r_2 I_2 R_2 J_2 H locs hp_2 hP hD hS _ _ => ?_)
    obtain ⟨hr_2, hu_2⟩ := hp_2
    cases hu_2
    refine lv_pop hx hb dJ0_checkIndex_df160_8 rfl ?_
    exact z_vret hx hb hr hlocks hP hD hS dJ0_checkIndex_df160_9 rfl
set_option maxHeartbeats 4000000 in
set_option maxRecDepth 100000 in
theorem xk_J1_charAt_3b067_8 (l : Launch) (D : va_G) (q : Nat → Nat) (cA : Nat → ClassId) (ad av : Nat → Nat) (t9 : Nat) (F : Nat → Nat → Int32) (I R : Nat → Nat → Int32) (J : Nat → Nat → Int64) (hI : xInv F (I, R, J)) (pa1 : Int32) (hpa1 : zR 0 1 pa1) : zNi (zSS zXRs 81 q ad av t9) l D vwCl (zXtys cA) 81 q (zXd q cA) yJ1_charAt_3b067 cJ1_charAt_3b067 2 (some .char) ({ frames := 2, cells := 0, slots := 0, locals := 43 } : Room) [.ref (av 8), .int (pa1)] (I, R, J) (fun r u => zR 0 65535 r ∧ u = (I, R, J)) := by
  intro sz
  refine z_bodyN (by decide +kernel) (Nat.le_of_ble_eq_true rfl) (fun p e s m below meth c ls hx hb hml hr ht hown hlocks hsz hK hP hD hS hN hl => ?_)
  have hA : ∀ a, s.heap.size ≤ a → zA 81 q sz a := fun a h => Or.inr (hsz ▸ h)
  have hl : lv_has ls 2 [(0, .ref (av 8)), (1, .int (pa1))] := hl
  have hZ : zSz zXRs 81 q ad av t9 sz s := hsz ▸ hN
  refine lv_iload_n hx hb dJ1_charAt_3b067_0 rfl (lv_at hl 1 rfl) ?_
  refine lv_aload_n hx hb dJ1_charAt_3b067_1 rfl (lv_at hl 0 rfl) ?_
  refine va_tlen hx hb (hZ.1.1 8 (by decide)).2.2.2 hS (v := nI 2) rfl dJ1_charAt_3b067_2 ?_
  refine z_cNSv (As := [.int (pa1), .int (nI 2)]) (rest := []) hx hb hml hown ht (xk_J0_checkIndex_df160_4 l D q cA ad av t9 F _ _ _ hI (pa1) hpa1) hw_2_208 hmJ0_checkIndex_df160 ⟨rfl, rfl⟩ (na := 2) rfl (by decide +kernel) (by decide) hK hP hD hS hA (zSS_c (Rs := zXRs) (t9 := t9) (fun _ _ _ => zXRs_c)) (zSS_w (Rs := zXRs) (t9 := t9) (fun _ _ _ => zXRs_w) hN hsz hS) hl.1 rfl (Nat.le_of_ble_eq_true rfl) ⟨Nat.zero_le _, Nat.zero_le _⟩ dJ1_charAt_3b067_3 (fun I_1 R_1 J_1 H locs hp_1 hP hD hS _ _ => ?_)
  cases hp_1
  refine lv_aload_n hx hb dJ1_charAt_3b067_6 rfl (lv_at hl 0 rfl) ?_
  refine lv_iload_n hx hb dJ1_charAt_3b067_7 rfl (lv_at hl 1 rfl) ?_
  refine va_tb hx hb (hZ.1.1 8 (by decide)).2.2.2 hS (zR_vin hpa1 (by decide)) rfl dJ1_charAt_3b067_8 ?_
  refine z_any (fun v_2 => ?_)
  refine lv_sipush (v := nI 255) hx hb dJ1_charAt_3b067_9 (by decide +kernel) ?_
  refine lv_iand hx hb dJ1_charAt_3b067_12 ?_
  refine z_rng (a := 0) (b := 255) (zR_andr zk_255 (by decide)) (fun v_3 hv_3 => ?_)
  refine lv_i2c hx hb dJ1_charAt_3b067_13 rfl ?_
  refine z_rng (a := 0) (b := 65535) (zR_i2c _) (fun v_4 hv_4 => ?_)
  exact z_zret (v := v_4) hx hb hr hlocks hP hD hS (zR_char hv_4) dJ1_charAt_3b067_14 ⟨hv_4, rfl⟩
set_option maxHeartbeats 4000000 in
set_option maxRecDepth 100000 in
theorem xk_J0_charAt_5068e_8 (l : Launch) (D : va_G) (q : Nat → Nat) (cA : Nat → ClassId) (ad av : Nat → Nat) (t9 : Nat) (F : Nat → Nat → Int32) (I R : Nat → Nat → Int32) (J : Nat → Nat → Int64) (hI : xInv F (I, R, J)) (pa0 : Int32) (hpa0 : zR 0 1 pa0) : zNi (zSS zXRs 81 q ad av t9) l D vwCl (zXtys cA) 81 q (zXd q cA) yJ0_charAt_5068e cJ0_charAt_5068e 2 (some .char) ({ frames := 3, cells := 0, slots := 0, locals := 64 } : Room) [.ref (ad 8), .int (pa0)] (I, R, J) (fun r u => zR 0 65535 r ∧ u = (I, R, J)) := by
  intro sz
  refine z_bodyN (by decide +kernel) (Nat.le_of_ble_eq_true rfl) (fun p e s m below meth c ls hx hb hml hr ht hown hlocks hsz hK hP hD hS hN hl => ?_)
  have hA : ∀ a, s.heap.size ≤ a → zA 81 q sz a := fun a h => Or.inr (hsz ▸ h)
  have hl : lv_has ls 2 [(0, .ref (ad 8)), (1, .int (pa0))] := hl
  have hZ : zSz zXRs 81 q ad av t9 sz s := hsz ▸ hN
  refine lv_aload_n hx hb dJ0_charAt_5068e_0 rfl (lv_at hl 0 rfl) ?_
  refine z_cNXi (As := []) (rest := []) hx hb hml hown ht (xk_J0_isLatin1_aae02_4 l D q cA ad av t9 F _ _ _ hI ) hw_2_201 hmJ0_isLatin1_aae02 ⟨rfl, rfl⟩ (na := 0) rfl (by decide +kernel) (by decide) (vk_recv hZ.1 (by decide) hS) hK hP hD hS hA (zSS_c (Rs := zXRs) (t9 := t9) (fun _ _ _ => zXRs_c)) (zSS_w (Rs := zXRs) (t9 := t9) (fun _ _ _ => zXRs_w) hN hsz hS) hl.1 rfl (Nat.le_of_ble_eq_true rfl) ⟨Nat.zero_le _, Nat.zero_le _⟩ dJ0_charAt_5068e_1 (fun r_1 I_1 R_1 J_1 H locs hp_1 hP hD hS _ _ => ?_)
  obtain ⟨rfl, hu_1⟩ := hp_1
  cases hu_1
  refine lv_if_eq (tgt := 16) hx hb dJ0_charAt_5068e_4 (by decide) (fun c_0 => absurd c_0 (zD_ne zk_1 zk_z (by decide))) (fun _ => ?_)
  refine lv_aload_n hx hb dJ0_charAt_5068e_7 rfl (lv_at hl 0 rfl) ?_
  refine vk_getf hx hb (hZ.1.1 8 (by decide)).2.2.1 hS hown (ht _ hw_8_164) (fun _ h => h) dJ0_charAt_5068e_8 ?_
  refine lv_iload_n hx hb dJ0_charAt_5068e_11 rfl (lv_at hl 1 rfl) ?_
  refine z_cNSi (As := [.ref (av 8), .int (pa0)]) (rest := []) hx hb hml hown ht (xk_J1_charAt_3b067_8 l D q cA ad av t9 F _ _ _ hI (pa0) hpa0) hw_2_205 hmJ1_charAt_3b067 ⟨rfl, rfl⟩ (na := 2) rfl (by decide +kernel) (by decide) hK hP hD hS hA (zSS_c (Rs := zXRs) (t9 := t9) (fun _ _ _ => zXRs_c)) (zSS_w (Rs := zXRs) (t9 := t9) (fun _ _ _ => zXRs_w) hN hsz hS) hl.1 rfl (Nat.le_of_ble_eq_true rfl) ⟨Nat.zero_le _, Nat.zero_le _⟩ dJ0_charAt_5068e_12 (fun r_2 I_2 R_2 J_2 H locs hp_2 hP hD hS _ _ => ?_)
  obtain ⟨hr_2, hu_2⟩ := hp_2
  cases hu_2
  exact z_zret (v := r_2) hx hb hr hlocks hP hD hS (zR_char hr_2) dJ0_charAt_5068e_15 ⟨hr_2, rfl⟩
set_option maxHeartbeats 4000000 in
set_option maxRecDepth 100000 in
theorem xk_X7_isWord_4 (l : Launch) (D : va_G) (q : Nat → Nat) (cA : Nat → ClassId) (ad av : Nat → Nat) (t9 : Nat) (F : Nat → Nat → Int32) (I R : Nat → Nat → Int32) (J : Nat → Nat → Int64) (hI : xInv F (I, R, J))  : zNi (zSS zXRs 81 q ad av t9) l D vwCl (zXtys cA) 81 q (zXd q cA) yX7_isWord cX7_isWord 3 (some .boolean) ({ frames := 4, cells := 0, slots := 0, locals := 85 } : Room) [.ref (q 1), .ref (ad 8)] (I, R, J) (fun r u => (r = nI 1 ∧ u = (I, R, J)) ∨ (r = nI 0 ∧ u = (I, R, J))) := by
  intro sz
  refine z_bodyN (by decide +kernel) (Nat.le_of_ble_eq_true rfl) (fun p e s m below meth c ls hx hb hml hr ht hown hlocks hsz hK hP hD hS hN hl => ?_)
  have hA : ∀ a, s.heap.size ≤ a → zA 81 q sz a := fun a h => Or.inr (hsz ▸ h)
  have hl : lv_has ls 3 [(0, .ref (q 1)), (1, .ref (ad 8))] := hl
  have hZ : zSz zXRs 81 q ad av t9 sz s := hsz ▸ hN
  refine lv_aload_n hx hb dX7_isWord_0 rfl (lv_at hl 0 rfl) ?_
  refine z_get hx hb ht hown hK hP ziX7 rfl 1 (by decide) 4 (by decide) hw_1_42 rfl (v := .int (I 1 4)) rfl dX7_isWord_1 ?_
  refine lv_iconst (v := nI 1) hx hb dX7_isWord_4 (by decide +kernel) ?_
  refine lv_icmp_ne (tgt := 24) hx hb dX7_isWord_5 (by decide) (fun c_1 => ?_) (fun c_1 => ?_)
  · have t_c_1 := z_eqF c_1
    refine lv_iconst (v := nI 0) hx hb dX7_isWord_24 (by decide +kernel) ?_
    exact z_zret (v := nI 0) hx hb hr hlocks hP hD hS (by decide +kernel) dX7_isWord_25 (Or.inr ⟨rfl, rfl⟩)
  · have t_c_1 := z_eqT c_1
    have f_2 : zR 1 1 (I 1 4) := zR_eqx t_c_1 zk_1
    refine lv_aload_n hx hb dX7_isWord_8 rfl (lv_at hl 0 rfl) ?_
    refine z_get hx hb ht hown hK hP ziX7 rfl 1 (by decide) 6 (by decide) hw_1_44 rfl (v := .int (I 1 6)) rfl dX7_isWord_9 ?_
    have f_3 : zR 0 800 (I 1 6) := xI hI 1 6
    refine lv_aload_n hx hb dX7_isWord_12 rfl (lv_at hl 0 rfl) ?_
    refine z_get hx hb ht hown hK hP ziX7 rfl 1 (by decide) 5 (by decide) hw_1_43 rfl (v := .int (I 1 5)) rfl dX7_isWord_13 ?_
    have f_4 : zR 0 800 (I 1 5) := xI hI 1 5
    refine lv_isub hx hb dX7_isWord_16 ?_
    refine lv_topi (fun v_5 ev_5 => ?_)
    have hv_5 : zR (-800) 800 v_5 := ev_5 ▸ zR_sub f_3 f_4 (by decide)
    refine lv_aload_n hx hb dX7_isWord_17 rfl (lv_at hl 1 rfl) ?_
    refine z_cNXi (As := []) (rest := [.int (v_5)]) hx hb hml hown ht (xk_J0_length_8abf5_4 l D q cA ad av t9 F _ _ _ hI ) hw_2_187 hmJ0_length_8abf5 ⟨rfl, rfl⟩ (na := 0) rfl (by decide +kernel) (by decide) (vk_recv hZ.1 (by decide) hS) hK hP hD hS hA (zSS_c (Rs := zXRs) (t9 := t9) (fun _ _ _ => zXRs_c)) (zSS_w (Rs := zXRs) (t9 := t9) (fun _ _ _ => zXRs_w) hN hsz hS) hl.1 rfl (Nat.le_of_ble_eq_true rfl) ⟨Nat.zero_le _, Nat.zero_le _⟩ dX7_isWord_18 (fun r_6 I_6 R_6 J_6 H locs hp_6 hP hD hS _ _ => ?_)
    obtain ⟨rfl, hu_6⟩ := hp_6
    cases hu_6
    refine lv_icmp_eq (tgt := 26) hx hb dX7_isWord_21 (by decide) (fun c_7 => ?_) (fun c_7 => ?_)
    · have t_c_7 := z_eqT c_7
      have f_8 : zR 2 2 (v_5) := zR_eqx t_c_7 zk_2
      have f_9 : zR 0 798 (I 1 5) := z_start f_3 f_4 ev_5 f_8 (by decide)
      refine lv_iconst (v := nI 0) hx hb dX7_isWord_26 (by decide +kernel) ?_
      refine lv_istore_n (lv' := [(2, .int (nI 0)), (0, .ref (q 1)), (1, .ref (ad 8))]) hx hb dX7_isWord_27 rfl hl (by decide) rfl (fun ls hl => ?_)
      have loop_43 : ∀ N : Nat, ∀ x_42 : Int32, zR 0 2 x_42 → (2147483648 - (x_42).toInt).toNat < N → ∀ (H : Heap) (locs : List Loc), va_P D vwCl (zw 81 q (zXd q cA) I R J) H → va_D (zA 81 q sz) (zw 81 q (zXd q cA) I R J) → va_S (zA 81 q sz) s.heap H locs → ∀ ls : Array Slot, lv_has ls 3 [(0, .ref (q 1)), (1, .ref (ad 8)), (2, .int (x_42))] → W p l e ({ frames := 4, cells := 0, slots := 0, locals := 85 } : Room) s m ([.ref (q 1), .ref (ad 8)] : List Value).toArray below meth c H locs 0 0 (MQ below (va_Qi (fun r u => (r = nI 1 ∧ u = (I, R, J)) ∨ (r = nI 0 ∧ u = (I, R, J))) (zB D vwCl 81 q (zXd q cA) sz) (zA 81 q sz)) ([.ref (q 1), .ref (ad 8)] : List Value).toArray s 0 0 (zA 81 q sz)) (F0 m 28 ls []) := by
        intro N
        induction N with
        | zero => intro x_42 hx_42 hN; exact absurd hN (Nat.not_lt_zero _)
        | succ N ih_45 =>
          intro x_42 hx_42 hN_44 H locs hP hD hS ls hl
          refine lv_iload_n hx hb dX7_isWord_28 rfl (lv_at hl 2 rfl) ?_
          refine lv_aload_n hx hb dX7_isWord_29 rfl (lv_at hl 1 rfl) ?_
          refine z_cNXi (As := []) (rest := [.int (x_42)]) hx hb hml hown ht (xk_J0_length_8abf5_4 l D q cA ad av t9 F _ _ _ hI ) hw_2_187 hmJ0_length_8abf5 ⟨rfl, rfl⟩ (na := 0) rfl (by decide +kernel) (by decide) (vk_recv hZ.1 (by decide) hS) hK hP hD hS hA (zSS_c (Rs := zXRs) (t9 := t9) (fun _ _ _ => zXRs_c)) (zSS_w (Rs := zXRs) (t9 := t9) (fun _ _ _ => zXRs_w) hN hsz hS) hl.1 rfl (Nat.le_of_ble_eq_true rfl) ⟨Nat.zero_le _, Nat.zero_le _⟩ dX7_isWord_30 (fun r_46 I_46 R_46 J_46 H locs hp_46 hP hD hS _ _ => ?_)
          obtain ⟨rfl, hu_46⟩ := hp_46
          cases hu_46
          refine lv_icmp_ge (tgt := 63) hx hb dX7_isWord_33 (by decide) (fun c_47 => ?_) (fun c_47 => ?_)
          · have t_c_47 := z_leT c_47
            have f_48 : zR 2 2 (x_42) := zR_ley t_c_47 zk_2 hx_42 (by decide)
            refine lv_iconst (v := nI 1) hx hb dX7_isWord_63 (by decide +kernel) ?_
            exact z_zret (v := nI 1) hx hb hr hlocks hP hD hS (by decide +kernel) dX7_isWord_64 (Or.inl ⟨rfl, rfl⟩)
          · have t_c_47 := z_leF c_47
            have f_49 : zR 0 1 (x_42) := zR_ltx t_c_47 hx_42 zk_2 (by decide)
            refine lv_aload_n hx hb dX7_isWord_36 rfl (lv_at hl 0 rfl) ?_
            refine z_get hx hb ht hown hK hP ziX7 rfl 1 (by decide) 0 (by decide) hw_1_35 rfl (v := .ref (q 2)) rfl dX7_isWord_37 ?_
            refine lv_aload_n hx hb dX7_isWord_40 rfl (lv_at hl 0 rfl) ?_
            refine z_get hx hb ht hown hK hP ziX7 rfl 1 (by decide) 5 (by decide) hw_1_43 rfl (v := .int (I 1 5)) rfl dX7_isWord_41 ?_
            refine lv_iload_n hx hb dX7_isWord_44 rfl (lv_at hl 2 rfl) ?_
            refine lv_iadd hx hb dX7_isWord_45 ?_
            refine z_rng (a := 0) (b := 799) (zR_add f_9 f_49 (by decide)) (fun v_50 hv_50 => ?_)
            refine z_bald hx hb hK hP 2 (by decide) 0 rfl rfl (zR_vin hv_50 (by decide)) dX7_isWord_46 ?_
            refine z_eqi (y := R 2 (v_50).toNatClampNeg) rfl ?_
            refine lv_aload_n hx hb dX7_isWord_47 rfl (lv_at hl 1 rfl) ?_
            refine lv_iload_n hx hb dX7_isWord_48 rfl (lv_at hl 2 rfl) ?_
            refine z_cNXi (As := [.int (x_42)]) (rest := [.int (R 2 (v_50).toNatClampNeg)]) hx hb hml hown ht (xk_J0_charAt_5068e_8 l D q cA ad av t9 F _ _ _ hI (x_42) f_49) hw_2_197 hmJ0_charAt_5068e ⟨rfl, rfl⟩ (na := 1) rfl (by decide +kernel) (by decide) (vk_recv hZ.1 (by decide) hS) hK hP hD hS hA (zSS_c (Rs := zXRs) (t9 := t9) (fun _ _ _ => zXRs_c)) (zSS_w (Rs := zXRs) (t9 := t9) (fun _ _ _ => zXRs_w) hN hsz hS) hl.1 rfl (Nat.le_of_ble_eq_true rfl) ⟨Nat.zero_le _, Nat.zero_le _⟩ dX7_isWord_49 (fun r_51 I_51 R_51 J_51 H locs hp_51 hP hD hS _ _ => ?_)
            obtain ⟨hr_51, hu_51⟩ := hp_51
            cases hu_51
            refine lv_icmp_eq (tgt := 57) hx hb dX7_isWord_52 (by decide) (fun c_52 => ?_) (fun c_52 => ?_)
            · have t_c_52 := z_eqT c_52
              have f_53 : zR 0 65535 (R 2 (v_50).toNatClampNeg) := zR_eqx t_c_52 hr_51
              obtain ⟨v_54, ev_54⟩ : ∃ y : Int32, y = x_42 + nI 1 := ⟨_, rfl⟩
              have hv_54 : zR 1 2 v_54 := ev_54 ▸ zR_add f_49 zk_1 (by decide)
              have mv_54 : v_54.toInt = (x_42).toInt + 1 := by rw [ev_54, zR_addE f_49 zk_1 (by decide)]; rfl
              refine lv_iinc (v := v_54) (lv' := [(2, .int (v_54)), (0, .ref (q 1)), (1, .ref (ad 8))]) hx hb dX7_isWord_57 hl (k := 2) rfl (ev_54 ▸ rfl) (by decide) rfl (fun ls hl => ?_)
              refine lv_goto (tgt := 28) hx hb dX7_isWord_60 (by decide) ?_
              exact ih_45 (v_54) (zR_w hv_54 (by decide)) (z2_up mv_54 (by decide) hN_44) _ _ hP hD hS _ (lv_sub hl [1, 2, 0] rfl)
            · have t_c_52 := z_eqF c_52
              refine lv_iconst (v := nI 0) hx hb dX7_isWord_55 (by decide +kernel) ?_
              exact z_zret (v := nI 0) hx hb hr hlocks hP hD hS (by decide +kernel) dX7_isWord_56 (Or.inr ⟨rfl, rfl⟩)
      exact loop_43 _ (nI 0) (zR_w zk_0 (by decide)) (Nat.lt_succ_self _) _ _ hP hD hS _ (lv_sub hl [1, 2, 0] rfl)
    · have t_c_7 := z_eqF c_7
      refine lv_iconst (v := nI 0) hx hb dX7_isWord_24 (by decide +kernel) ?_
      exact z_zret (v := nI 0) hx hb hr hlocks hP hD hS (by decide +kernel) dX7_isWord_25 (Or.inr ⟨rfl, rfl⟩)
set_option maxHeartbeats 4000000 in
set_option maxRecDepth 100000 in
theorem xk_X7_number_1 (l : Launch) (D : va_G) (q : Nat → Nat) (cA : Nat → ClassId) (F : Nat → Nat → Int32) (I R : Nat → Nat → Int32) (J : Nat → Nat → Int64) (hI : xInv F (I, R, J)) (pa1 : Int32) (hpa1 : zR (-1) 4 pa1) : zMi l D vwCl (zXtys cA) 81 q (zXd q cA) yX7_number cX7_number 4 (some .int) ({ frames := 2, cells := 0, slots := 0, locals := 40 } : Room) [.ref (q 1), .int (nI 0), .int (pa1)] (I, R, J) (fun r u => zR 0 4 r ∧ (xInv F u ∧ (∀ k, k ≠ 1 → u.1 k = I k) ∧ u.2 = (R, J))) := by
  intro sz
  refine z_body (by decide +kernel) (Nat.le_of_ble_eq_true rfl) (fun p e s m below meth c ls hx hb hml hr ht hown hlocks hsz hK hP hD hS hl => ?_)
  have hA : ∀ a, s.heap.size ≤ a → zA 81 q sz a := fun a h => Or.inr (hsz ▸ h)
  have hl : lv_has ls 4 [(0, .ref (q 1)), (1, .int (nI 0)), (2, .int (pa1))] := hl
  refine lv_aload_n hx hb dX7_number_0 rfl (lv_at hl 0 rfl) ?_
  refine z_get hx hb ht hown hK hP ziX7 rfl 1 (by decide) 4 (by decide) hw_1_42 rfl (v := .int (I 1 4)) rfl dX7_number_1 ?_
  refine lv_iconst (v := nI 2) hx hb dX7_number_4 (by decide +kernel) ?_
  refine lv_icmp_eq (tgt := 15) hx hb dX7_number_5 (by decide) (fun c_1 => ?_) (fun c_1 => ?_)
  · have t_c_1 := z_eqT c_1
    have f_2 : zR 2 2 (I 1 4) := zR_eqx t_c_1 zk_2
    refine lv_aload_n hx hb dX7_number_15 rfl (lv_at hl 0 rfl) ?_
    refine z_callVi (k := 1) (As := []) (rest := []) hx hb hml hown ht (xk_X7_told l D q cA F _ _ _ hI ) hw_3_8 hmX7_told ⟨rfl, rfl⟩ (na := 0) rfl (by decide +kernel) (by decide) (by decide) rfl rfl hK hP hD hS hA hl.1 rfl (Nat.le_of_ble_eq_true rfl) ⟨Nat.zero_le _, Nat.zero_le _⟩ dX7_number_16 (fun r_3 I_3 R_3 J_3 H locs hp_3 hP hD hS _ _ => ?_)
    cases hp_3
    refine lv_istore_n (lv' := [(3, .int (r_3)), (0, .ref (q 1)), (1, .int (nI 0)), (2, .int (pa1))]) hx hb dX7_number_19 rfl hl (by decide) rfl (fun ls hl => ?_)
    refine lv_iload_n hx hb dX7_number_20 rfl (lv_at hl 0 rfl) ?_
    refine lv_iload_n hx hb dX7_number_21 rfl (lv_at hl 2 rfl) ?_
    refine lv_icmp_lt (tgt := 30) hx hb dX7_number_22 (by decide) (fun c_4 => ?_) (fun c_4 => ?_)
    · have t_c_4 := z_ltT c_4
      have f_5 : zR (-2147483648) (-1) (r_3) := zR_ltx t_c_4 (zR_any (r_3)) zk_0 (by decide)
      refine lv_aload_n hx hb dX7_number_30 rfl (lv_at hl 1 rfl) ?_
      refine lv_iconst (v := nI 2) hx hb dX7_number_31 (by decide +kernel) ?_
      refine z_callVv (k := 1) (As := [.int (nI 2)]) (rest := []) hx hb hml hown ht (xk_X7_refuse_1 l D q cA F _ _ _ hI (nI 2) (zR_w zk_2 (by decide))) hw_2_239 hmX7_refuse ⟨rfl, rfl⟩ (na := 1) rfl (by decide +kernel) (by decide) (by decide) rfl rfl hK hP hD hS hA hl.1 rfl (Nat.le_of_ble_eq_true rfl) ⟨Nat.zero_le _, Nat.zero_le _⟩ dX7_number_32 (fun I_6 R_6 J_6 H locs hp_6 hP hD hS _ _ => ?_)
      obtain ⟨hv_6, hk_6, hj_6⟩ := hp_6
      dsimp only at hj_6 hk_6
      cases hj_6
      have hf_7 : ∀ k, k ≠ 1 → I_6 k = I k := fun k h => (hk_6 k h).trans ((fun (_ : Nat) _ => rfl) k h)
      refine lv_iconst (v := nI 0) hx hb dX7_number_35 (by decide +kernel) ?_
      exact z_iret (v := nI 0) hx hb hr hlocks hP hD hS dX7_number_36 ⟨(zR_w zk_0 (by decide)), ⟨hv_6, hf_7, rfl⟩⟩
    · have t_c_4 := z_ltF c_4
      have f_8 : zR 0 2147483647 (r_3) := zR_ley t_c_4 zk_0 (zR_any (r_3)) (by decide)
      refine lv_iload_n hx hb dX7_number_25 rfl (lv_at hl 0 rfl) ?_
      refine lv_iload_n hx hb dX7_number_26 rfl (lv_at hl 3 rfl) ?_
      refine lv_icmp_le (tgt := 37) hx hb dX7_number_27 (by decide) (fun c_9 => ?_) (fun c_9 => ?_)
      · have t_c_9 := z_leT c_9
        have f_10 : zR 0 4 (r_3) := zR_lex t_c_9 f_8 hpa1 (by decide)
        have f_11 : zR 0 4 (pa1) := zR_ley t_c_9 f_8 hpa1 (by decide)
        refine lv_aload_n hx hb dX7_number_37 rfl (lv_at hl 1 rfl) ?_
        refine z_callVv (k := 1) (As := []) (rest := []) hx hb hml hown ht (xk_X7_step l D q cA F _ _ _ hI ) hw_2_161 hmX7_step ⟨rfl, rfl⟩ (na := 0) rfl (by decide +kernel) (by decide) (by decide) rfl rfl hK hP hD hS hA hl.1 rfl (Nat.le_of_ble_eq_true rfl) ⟨Nat.zero_le _, Nat.zero_le _⟩ dX7_number_38 (fun I_12 R_12 J_12 H locs hp_12 hP hD hS _ _ => ?_)
        obtain ⟨hv_12, hk_12, hj_12⟩ := hp_12
        dsimp only at hj_12 hk_12
        cases hj_12
        have hf_13 : ∀ k, k ≠ 1 → I_12 k = I k := fun k h => (hk_12 k h).trans ((fun (_ : Nat) _ => rfl) k h)
        refine lv_iload_n hx hb dX7_number_41 rfl (lv_at hl 0 rfl) ?_
        exact z_iret (v := r_3) hx hb hr hlocks hP hD hS dX7_number_42 ⟨f_10, ⟨hv_12, hf_13, rfl⟩⟩
      · have t_c_9 := z_leF c_9
        refine lv_aload_n hx hb dX7_number_30 rfl (lv_at hl 1 rfl) ?_
        refine lv_iconst (v := nI 2) hx hb dX7_number_31 (by decide +kernel) ?_
        refine z_callVv (k := 1) (As := [.int (nI 2)]) (rest := []) hx hb hml hown ht (xk_X7_refuse_1 l D q cA F _ _ _ hI (nI 2) (zR_w zk_2 (by decide))) hw_2_239 hmX7_refuse ⟨rfl, rfl⟩ (na := 1) rfl (by decide +kernel) (by decide) (by decide) rfl rfl hK hP hD hS hA hl.1 rfl (Nat.le_of_ble_eq_true rfl) ⟨Nat.zero_le _, Nat.zero_le _⟩ dX7_number_32 (fun I_14 R_14 J_14 H locs hp_14 hP hD hS _ _ => ?_)
        obtain ⟨hv_14, hk_14, hj_14⟩ := hp_14
        dsimp only at hj_14 hk_14
        cases hj_14
        have hf_15 : ∀ k, k ≠ 1 → I_14 k = I k := fun k h => (hk_14 k h).trans ((fun (_ : Nat) _ => rfl) k h)
        refine lv_iconst (v := nI 0) hx hb dX7_number_35 (by decide +kernel) ?_
        exact z_iret (v := nI 0) hx hb hr hlocks hP hD hS dX7_number_36 ⟨(zR_w zk_0 (by decide)), ⟨hv_14, hf_15, rfl⟩⟩
  · have t_c_1 := z_eqF c_1
    refine lv_aload_n hx hb dX7_number_8 rfl (lv_at hl 0 rfl) ?_
    refine lv_iconst (v := nI 1) hx hb dX7_number_9 (by decide +kernel) ?_
    refine z_callVv (k := 1) (As := [.int (nI 1)]) (rest := []) hx hb hml hown ht (xk_X7_refuse l D q cA F _ _ _ hI (nI 1) (zR_w zk_1 (by decide))) hw_2_239 hmX7_refuse ⟨rfl, rfl⟩ (na := 1) rfl (by decide +kernel) (by decide) (by decide) rfl rfl hK hP hD hS hA hl.1 rfl (Nat.le_of_ble_eq_true rfl) ⟨Nat.zero_le _, Nat.zero_le _⟩ dX7_number_10 (fun I_16 R_16 J_16 H locs hp_16 hP hD hS _ _ => ?_)
    obtain ⟨hv_16, hk_16, hj_16⟩ := hp_16
    dsimp only at hj_16 hk_16
    cases hj_16
    have hf_17 : ∀ k, k ≠ 1 → I_16 k = I k := fun k h => (hk_16 k h).trans ((fun (_ : Nat) _ => rfl) k h)
    refine lv_iconst (v := nI 0) hx hb dX7_number_13 (by decide +kernel) ?_
    exact z_iret (v := nI 0) hx hb hr hlocks hP hD hS dX7_number_14 ⟨(zR_w zk_0 (by decide)), ⟨hv_16, hf_17, rfl⟩⟩
set_option maxHeartbeats 4000000 in
set_option maxRecDepth 100000 in
theorem xk_J0_coder_7d493_5 (l : Launch) (D : va_G) (q : Nat → Nat) (cA : Nat → ClassId) (ad av : Nat → Nat) (t9 : Nat) (F : Nat → Nat → Int32) (I R : Nat → Nat → Int32) (J : Nat → Nat → Int64) (hI : xInv F (I, R, J))  : zNi (zSS zXRs 81 q ad av t9) l D vwCl (zXtys cA) 81 q (zXd q cA) yJ0_coder_7d493 cJ0_coder_7d493 1 (some .byte) ({ frames := 0, cells := 0, slots := 0, locals := 0 } : Room) [.ref (ad 9)] (I, R, J) (fun r u => r = nI 0 ∧ u = (I, R, J)) := by
  intro sz
  refine z_bodyN (by decide +kernel) (Nat.le_of_ble_eq_true rfl) (fun p e s m below meth c ls hx hb hml hr ht hown hlocks hsz hK hP hD hS hN hl => ?_)
  have hA : ∀ a, s.heap.size ≤ a → zA 81 q sz a := fun a h => Or.inr (hsz ▸ h)
  have hl : lv_has ls 1 [(0, .ref (ad 9))] := hl
  have hZ : zSz zXRs 81 q ad av t9 sz s := hsz ▸ hN
  refine va_gets hx hb hZ.2.1 hS hown (ht _ hw_2_195) (fun _ h => h) dJ0_coder_7d493_0 ?_
  refine z_eqi (y := nI 1) rfl ?_
  refine lv_if_eq (tgt := 13) hx hb dJ0_coder_7d493_3 (by decide) (fun c_0 => absurd c_0 (zD_ne zk_1 zk_z (by decide))) (fun _ => ?_)
  refine lv_aload_n hx hb dJ0_coder_7d493_6 rfl (lv_at hl 0 rfl) ?_
  refine vk_getf hx hb (hZ.1.1 9 (by decide)).2.1 hS hown (ht _ hw_8_165) (fun _ h => h) dJ0_coder_7d493_7 ?_
  refine z_eqi (y := nI 0) rfl ?_
  refine lv_goto (tgt := 14) hx hb dJ0_coder_7d493_10 (by decide) ?_
  exact z_zret (v := nI 0) hx hb hr hlocks hP hD hS (by decide +kernel) dJ0_coder_7d493_14 ⟨rfl, rfl⟩
set_option maxHeartbeats 4000000 in
set_option maxRecDepth 100000 in
theorem xk_J0_length_8abf5_5 (l : Launch) (D : va_G) (q : Nat → Nat) (cA : Nat → ClassId) (ad av : Nat → Nat) (t9 : Nat) (F : Nat → Nat → Int32) (I R : Nat → Nat → Int32) (J : Nat → Nat → Int64) (hI : xInv F (I, R, J))  : zNi (zSS zXRs 81 q ad av t9) l D vwCl (zXtys cA) 81 q (zXd q cA) yJ0_length_8abf5 cJ0_length_8abf5 1 (some .int) ({ frames := 1, cells := 0, slots := 0, locals := 20 } : Room) [.ref (ad 9)] (I, R, J) (fun r u => r = nI 5 ∧ u = (I, R, J)) := by
  intro sz
  refine z_bodyN (by decide +kernel) (Nat.le_of_ble_eq_true rfl) (fun p e s m below meth c ls hx hb hml hr ht hown hlocks hsz hK hP hD hS hN hl => ?_)
  have hA : ∀ a, s.heap.size ≤ a → zA 81 q sz a := fun a h => Or.inr (hsz ▸ h)
  have hl : lv_has ls 1 [(0, .ref (ad 9))] := hl
  have hZ : zSz zXRs 81 q ad av t9 sz s := hsz ▸ hN
  refine lv_aload_n hx hb dJ0_length_8abf5_0 rfl (lv_at hl 0 rfl) ?_
  refine vk_getf hx hb (hZ.1.1 9 (by decide)).2.2.1 hS hown (ht _ hw_8_164) (fun _ h => h) dJ0_length_8abf5_1 ?_
  refine va_tlen hx hb (hZ.1.1 9 (by decide)).2.2.2 hS (v := nI 5) rfl dJ0_length_8abf5_4 ?_
  refine lv_aload_n hx hb dJ0_length_8abf5_5 rfl (lv_at hl 0 rfl) ?_
  refine z_cNXi (As := []) (rest := [.int (nI 5)]) hx hb hml hown ht (xk_J0_coder_7d493_5 l D q cA ad av t9 F _ _ _ hI ) hw_2_191 hmJ0_coder_7d493 ⟨rfl, rfl⟩ (na := 0) rfl (by decide +kernel) (by decide) (vk_recv hZ.1 (by decide) hS) hK hP hD hS hA (zSS_c (Rs := zXRs) (t9 := t9) (fun _ _ _ => zXRs_c)) (zSS_w (Rs := zXRs) (t9 := t9) (fun _ _ _ => zXRs_w) hN hsz hS) hl.1 rfl (Nat.le_of_ble_eq_true rfl) ⟨Nat.zero_le _, Nat.zero_le _⟩ dJ0_length_8abf5_6 (fun r_1 I_1 R_1 J_1 H locs hp_1 hP hD hS _ _ => ?_)
  obtain ⟨rfl, hu_1⟩ := hp_1
  cases hu_1
  refine lv_ishr hx hb dJ0_length_8abf5_9 ?_
  refine z_eqi (y := nI 5) (by decide +kernel) ?_
  exact z_iret (v := nI 5) hx hb hr hlocks hP hD hS dJ0_length_8abf5_10 ⟨rfl, rfl⟩
set_option maxHeartbeats 4000000 in
set_option maxRecDepth 100000 in
theorem xk_J0_isLatin1_aae02_5 (l : Launch) (D : va_G) (q : Nat → Nat) (cA : Nat → ClassId) (ad av : Nat → Nat) (t9 : Nat) (F : Nat → Nat → Int32) (I R : Nat → Nat → Int32) (J : Nat → Nat → Int64) (hI : xInv F (I, R, J))  : zNi (zSS zXRs 81 q ad av t9) l D vwCl (zXtys cA) 81 q (zXd q cA) yJ0_isLatin1_aae02 cJ0_isLatin1_aae02 1 (some .boolean) ({ frames := 0, cells := 0, slots := 0, locals := 0 } : Room) [.ref (ad 9)] (I, R, J) (fun r u => (r = nI 1 ∧ u = (I, R, J))) := by
  intro sz
  refine z_bodyN (by decide +kernel) (Nat.le_of_ble_eq_true rfl) (fun p e s m below meth c ls hx hb hml hr ht hown hlocks hsz hK hP hD hS hN hl => ?_)
  have hA : ∀ a, s.heap.size ≤ a → zA 81 q sz a := fun a h => Or.inr (hsz ▸ h)
  have hl : lv_has ls 1 [(0, .ref (ad 9))] := hl
  have hZ : zSz zXRs 81 q ad av t9 sz s := hsz ▸ hN
  refine va_gets hx hb hZ.2.1 hS hown (ht _ hw_2_195) (fun _ h => h) dJ0_isLatin1_aae02_0 ?_
  refine z_eqi (y := nI 1) rfl ?_
  refine lv_if_eq (tgt := 17) hx hb dJ0_isLatin1_aae02_3 (by decide) (fun c_0 => absurd c_0 (zD_ne zk_1 zk_z (by decide))) (fun _ => ?_)
  refine lv_aload_n hx hb dJ0_isLatin1_aae02_6 rfl (lv_at hl 0 rfl) ?_
  refine vk_getf hx hb (hZ.1.1 9 (by decide)).2.1 hS hown (ht _ hw_8_165) (fun _ h => h) dJ0_isLatin1_aae02_7 ?_
  refine z_eqi (y := nI 0) rfl ?_
  refine lv_if_ne (tgt := 17) hx hb dJ0_isLatin1_aae02_10 (by decide) (fun c_0 => absurd (zD_eq zk_0 zk_z) c_0) (fun _ => ?_)
  refine lv_iconst (v := nI 1) hx hb dJ0_isLatin1_aae02_13 (by decide +kernel) ?_
  refine lv_goto (tgt := 18) hx hb dJ0_isLatin1_aae02_14 (by decide) ?_
  exact z_zret (v := nI 1) hx hb hr hlocks hP hD hS (by decide +kernel) dJ0_isLatin1_aae02_18 ⟨rfl, rfl⟩
set_option maxHeartbeats 4000000 in
set_option maxRecDepth 100000 in
theorem xk_J1_charAt_3b067_10 (l : Launch) (D : va_G) (q : Nat → Nat) (cA : Nat → ClassId) (ad av : Nat → Nat) (t9 : Nat) (F : Nat → Nat → Int32) (I R : Nat → Nat → Int32) (J : Nat → Nat → Int64) (hI : xInv F (I, R, J)) (pa1 : Int32) (hpa1 : zR 0 4 pa1) : zNi (zSS zXRs 81 q ad av t9) l D vwCl (zXtys cA) 81 q (zXd q cA) yJ1_charAt_3b067 cJ1_charAt_3b067 2 (some .char) ({ frames := 2, cells := 0, slots := 0, locals := 43 } : Room) [.ref (av 9), .int (pa1)] (I, R, J) (fun r u => zR 0 65535 r ∧ u = (I, R, J)) := by
  intro sz
  refine z_bodyN (by decide +kernel) (Nat.le_of_ble_eq_true rfl) (fun p e s m below meth c ls hx hb hml hr ht hown hlocks hsz hK hP hD hS hN hl => ?_)
  have hA : ∀ a, s.heap.size ≤ a → zA 81 q sz a := fun a h => Or.inr (hsz ▸ h)
  have hl : lv_has ls 2 [(0, .ref (av 9)), (1, .int (pa1))] := hl
  have hZ : zSz zXRs 81 q ad av t9 sz s := hsz ▸ hN
  refine lv_iload_n hx hb dJ1_charAt_3b067_0 rfl (lv_at hl 1 rfl) ?_
  refine lv_aload_n hx hb dJ1_charAt_3b067_1 rfl (lv_at hl 0 rfl) ?_
  refine va_tlen hx hb (hZ.1.1 9 (by decide)).2.2.2 hS (v := nI 5) rfl dJ1_charAt_3b067_2 ?_
  refine z_cNSv (As := [.int (pa1), .int (nI 5)]) (rest := []) hx hb hml hown ht (xk_J0_checkIndex_df160_1 l D q cA ad av t9 F _ _ _ hI (pa1) hpa1) hw_2_208 hmJ0_checkIndex_df160 ⟨rfl, rfl⟩ (na := 2) rfl (by decide +kernel) (by decide) hK hP hD hS hA (zSS_c (Rs := zXRs) (t9 := t9) (fun _ _ _ => zXRs_c)) (zSS_w (Rs := zXRs) (t9 := t9) (fun _ _ _ => zXRs_w) hN hsz hS) hl.1 rfl (Nat.le_of_ble_eq_true rfl) ⟨Nat.zero_le _, Nat.zero_le _⟩ dJ1_charAt_3b067_3 (fun I_1 R_1 J_1 H locs hp_1 hP hD hS _ _ => ?_)
  cases hp_1
  refine lv_aload_n hx hb dJ1_charAt_3b067_6 rfl (lv_at hl 0 rfl) ?_
  refine lv_iload_n hx hb dJ1_charAt_3b067_7 rfl (lv_at hl 1 rfl) ?_
  refine va_tb hx hb (hZ.1.1 9 (by decide)).2.2.2 hS (zR_vin hpa1 (by decide)) rfl dJ1_charAt_3b067_8 ?_
  refine z_any (fun v_2 => ?_)
  refine lv_sipush (v := nI 255) hx hb dJ1_charAt_3b067_9 (by decide +kernel) ?_
  refine lv_iand hx hb dJ1_charAt_3b067_12 ?_
  refine z_rng (a := 0) (b := 255) (zR_andr zk_255 (by decide)) (fun v_3 hv_3 => ?_)
  refine lv_i2c hx hb dJ1_charAt_3b067_13 rfl ?_
  refine z_rng (a := 0) (b := 65535) (zR_i2c _) (fun v_4 hv_4 => ?_)
  exact z_zret (v := v_4) hx hb hr hlocks hP hD hS (zR_char hv_4) dJ1_charAt_3b067_14 ⟨hv_4, rfl⟩
set_option maxHeartbeats 4000000 in
set_option maxRecDepth 100000 in
theorem xk_J0_charAt_5068e_10 (l : Launch) (D : va_G) (q : Nat → Nat) (cA : Nat → ClassId) (ad av : Nat → Nat) (t9 : Nat) (F : Nat → Nat → Int32) (I R : Nat → Nat → Int32) (J : Nat → Nat → Int64) (hI : xInv F (I, R, J)) (pa0 : Int32) (hpa0 : zR 0 4 pa0) : zNi (zSS zXRs 81 q ad av t9) l D vwCl (zXtys cA) 81 q (zXd q cA) yJ0_charAt_5068e cJ0_charAt_5068e 2 (some .char) ({ frames := 3, cells := 0, slots := 0, locals := 64 } : Room) [.ref (ad 9), .int (pa0)] (I, R, J) (fun r u => zR 0 65535 r ∧ u = (I, R, J)) := by
  intro sz
  refine z_bodyN (by decide +kernel) (Nat.le_of_ble_eq_true rfl) (fun p e s m below meth c ls hx hb hml hr ht hown hlocks hsz hK hP hD hS hN hl => ?_)
  have hA : ∀ a, s.heap.size ≤ a → zA 81 q sz a := fun a h => Or.inr (hsz ▸ h)
  have hl : lv_has ls 2 [(0, .ref (ad 9)), (1, .int (pa0))] := hl
  have hZ : zSz zXRs 81 q ad av t9 sz s := hsz ▸ hN
  refine lv_aload_n hx hb dJ0_charAt_5068e_0 rfl (lv_at hl 0 rfl) ?_
  refine z_cNXi (As := []) (rest := []) hx hb hml hown ht (xk_J0_isLatin1_aae02_5 l D q cA ad av t9 F _ _ _ hI ) hw_2_201 hmJ0_isLatin1_aae02 ⟨rfl, rfl⟩ (na := 0) rfl (by decide +kernel) (by decide) (vk_recv hZ.1 (by decide) hS) hK hP hD hS hA (zSS_c (Rs := zXRs) (t9 := t9) (fun _ _ _ => zXRs_c)) (zSS_w (Rs := zXRs) (t9 := t9) (fun _ _ _ => zXRs_w) hN hsz hS) hl.1 rfl (Nat.le_of_ble_eq_true rfl) ⟨Nat.zero_le _, Nat.zero_le _⟩ dJ0_charAt_5068e_1 (fun r_1 I_1 R_1 J_1 H locs hp_1 hP hD hS _ _ => ?_)
  obtain ⟨rfl, hu_1⟩ := hp_1
  cases hu_1
  refine lv_if_eq (tgt := 16) hx hb dJ0_charAt_5068e_4 (by decide) (fun c_0 => absurd c_0 (zD_ne zk_1 zk_z (by decide))) (fun _ => ?_)
  refine lv_aload_n hx hb dJ0_charAt_5068e_7 rfl (lv_at hl 0 rfl) ?_
  refine vk_getf hx hb (hZ.1.1 9 (by decide)).2.2.1 hS hown (ht _ hw_8_164) (fun _ h => h) dJ0_charAt_5068e_8 ?_
  refine lv_iload_n hx hb dJ0_charAt_5068e_11 rfl (lv_at hl 1 rfl) ?_
  refine z_cNSi (As := [.ref (av 9), .int (pa0)]) (rest := []) hx hb hml hown ht (xk_J1_charAt_3b067_10 l D q cA ad av t9 F _ _ _ hI (pa0) hpa0) hw_2_205 hmJ1_charAt_3b067 ⟨rfl, rfl⟩ (na := 2) rfl (by decide +kernel) (by decide) hK hP hD hS hA (zSS_c (Rs := zXRs) (t9 := t9) (fun _ _ _ => zXRs_c)) (zSS_w (Rs := zXRs) (t9 := t9) (fun _ _ _ => zXRs_w) hN hsz hS) hl.1 rfl (Nat.le_of_ble_eq_true rfl) ⟨Nat.zero_le _, Nat.zero_le _⟩ dJ0_charAt_5068e_12 (fun r_2 I_2 R_2 J_2 H locs hp_2 hP hD hS _ _ => ?_)
  obtain ⟨hr_2, hu_2⟩ := hp_2
  cases hu_2
  exact z_zret (v := r_2) hx hb hr hlocks hP hD hS (zR_char hr_2) dJ0_charAt_5068e_15 ⟨hr_2, rfl⟩
set_option maxHeartbeats 4000000 in
set_option maxRecDepth 100000 in
theorem xk_X7_isWord_5 (l : Launch) (D : va_G) (q : Nat → Nat) (cA : Nat → ClassId) (ad av : Nat → Nat) (t9 : Nat) (F : Nat → Nat → Int32) (I R : Nat → Nat → Int32) (J : Nat → Nat → Int64) (hI : xInv F (I, R, J))  : zNi (zSS zXRs 81 q ad av t9) l D vwCl (zXtys cA) 81 q (zXd q cA) yX7_isWord cX7_isWord 3 (some .boolean) ({ frames := 4, cells := 0, slots := 0, locals := 85 } : Room) [.ref (q 1), .ref (ad 9)] (I, R, J) (fun r u => (r = nI 1 ∧ u = (I, R, J)) ∨ (r = nI 0 ∧ u = (I, R, J))) := by
  intro sz
  refine z_bodyN (by decide +kernel) (Nat.le_of_ble_eq_true rfl) (fun p e s m below meth c ls hx hb hml hr ht hown hlocks hsz hK hP hD hS hN hl => ?_)
  have hA : ∀ a, s.heap.size ≤ a → zA 81 q sz a := fun a h => Or.inr (hsz ▸ h)
  have hl : lv_has ls 3 [(0, .ref (q 1)), (1, .ref (ad 9))] := hl
  have hZ : zSz zXRs 81 q ad av t9 sz s := hsz ▸ hN
  refine lv_aload_n hx hb dX7_isWord_0 rfl (lv_at hl 0 rfl) ?_
  refine z_get hx hb ht hown hK hP ziX7 rfl 1 (by decide) 4 (by decide) hw_1_42 rfl (v := .int (I 1 4)) rfl dX7_isWord_1 ?_
  refine lv_iconst (v := nI 1) hx hb dX7_isWord_4 (by decide +kernel) ?_
  refine lv_icmp_ne (tgt := 24) hx hb dX7_isWord_5 (by decide) (fun c_1 => ?_) (fun c_1 => ?_)
  · have t_c_1 := z_eqF c_1
    refine lv_iconst (v := nI 0) hx hb dX7_isWord_24 (by decide +kernel) ?_
    exact z_zret (v := nI 0) hx hb hr hlocks hP hD hS (by decide +kernel) dX7_isWord_25 (Or.inr ⟨rfl, rfl⟩)
  · have t_c_1 := z_eqT c_1
    have f_2 : zR 1 1 (I 1 4) := zR_eqx t_c_1 zk_1
    refine lv_aload_n hx hb dX7_isWord_8 rfl (lv_at hl 0 rfl) ?_
    refine z_get hx hb ht hown hK hP ziX7 rfl 1 (by decide) 6 (by decide) hw_1_44 rfl (v := .int (I 1 6)) rfl dX7_isWord_9 ?_
    have f_3 : zR 0 800 (I 1 6) := xI hI 1 6
    refine lv_aload_n hx hb dX7_isWord_12 rfl (lv_at hl 0 rfl) ?_
    refine z_get hx hb ht hown hK hP ziX7 rfl 1 (by decide) 5 (by decide) hw_1_43 rfl (v := .int (I 1 5)) rfl dX7_isWord_13 ?_
    have f_4 : zR 0 800 (I 1 5) := xI hI 1 5
    refine lv_isub hx hb dX7_isWord_16 ?_
    refine lv_topi (fun v_5 ev_5 => ?_)
    have hv_5 : zR (-800) 800 v_5 := ev_5 ▸ zR_sub f_3 f_4 (by decide)
    refine lv_aload_n hx hb dX7_isWord_17 rfl (lv_at hl 1 rfl) ?_
    refine z_cNXi (As := []) (rest := [.int (v_5)]) hx hb hml hown ht (xk_J0_length_8abf5_5 l D q cA ad av t9 F _ _ _ hI ) hw_2_187 hmJ0_length_8abf5 ⟨rfl, rfl⟩ (na := 0) rfl (by decide +kernel) (by decide) (vk_recv hZ.1 (by decide) hS) hK hP hD hS hA (zSS_c (Rs := zXRs) (t9 := t9) (fun _ _ _ => zXRs_c)) (zSS_w (Rs := zXRs) (t9 := t9) (fun _ _ _ => zXRs_w) hN hsz hS) hl.1 rfl (Nat.le_of_ble_eq_true rfl) ⟨Nat.zero_le _, Nat.zero_le _⟩ dX7_isWord_18 (fun r_6 I_6 R_6 J_6 H locs hp_6 hP hD hS _ _ => ?_)
    obtain ⟨rfl, hu_6⟩ := hp_6
    cases hu_6
    refine lv_icmp_eq (tgt := 26) hx hb dX7_isWord_21 (by decide) (fun c_7 => ?_) (fun c_7 => ?_)
    · have t_c_7 := z_eqT c_7
      have f_8 : zR 5 5 (v_5) := zR_eqx t_c_7 zk_5
      have f_9 : zR 0 795 (I 1 5) := z_start f_3 f_4 ev_5 f_8 (by decide)
      refine lv_iconst (v := nI 0) hx hb dX7_isWord_26 (by decide +kernel) ?_
      refine lv_istore_n (lv' := [(2, .int (nI 0)), (0, .ref (q 1)), (1, .ref (ad 9))]) hx hb dX7_isWord_27 rfl hl (by decide) rfl (fun ls hl => ?_)
      have loop_43 : ∀ N : Nat, ∀ x_42 : Int32, zR 0 5 x_42 → (2147483648 - (x_42).toInt).toNat < N → ∀ (H : Heap) (locs : List Loc), va_P D vwCl (zw 81 q (zXd q cA) I R J) H → va_D (zA 81 q sz) (zw 81 q (zXd q cA) I R J) → va_S (zA 81 q sz) s.heap H locs → ∀ ls : Array Slot, lv_has ls 3 [(0, .ref (q 1)), (1, .ref (ad 9)), (2, .int (x_42))] → W p l e ({ frames := 4, cells := 0, slots := 0, locals := 85 } : Room) s m ([.ref (q 1), .ref (ad 9)] : List Value).toArray below meth c H locs 0 0 (MQ below (va_Qi (fun r u => (r = nI 1 ∧ u = (I, R, J)) ∨ (r = nI 0 ∧ u = (I, R, J))) (zB D vwCl 81 q (zXd q cA) sz) (zA 81 q sz)) ([.ref (q 1), .ref (ad 9)] : List Value).toArray s 0 0 (zA 81 q sz)) (F0 m 28 ls []) := by
        intro N
        induction N with
        | zero => intro x_42 hx_42 hN; exact absurd hN (Nat.not_lt_zero _)
        | succ N ih_45 =>
          intro x_42 hx_42 hN_44 H locs hP hD hS ls hl
          refine lv_iload_n hx hb dX7_isWord_28 rfl (lv_at hl 2 rfl) ?_
          refine lv_aload_n hx hb dX7_isWord_29 rfl (lv_at hl 1 rfl) ?_
          refine z_cNXi (As := []) (rest := [.int (x_42)]) hx hb hml hown ht (xk_J0_length_8abf5_5 l D q cA ad av t9 F _ _ _ hI ) hw_2_187 hmJ0_length_8abf5 ⟨rfl, rfl⟩ (na := 0) rfl (by decide +kernel) (by decide) (vk_recv hZ.1 (by decide) hS) hK hP hD hS hA (zSS_c (Rs := zXRs) (t9 := t9) (fun _ _ _ => zXRs_c)) (zSS_w (Rs := zXRs) (t9 := t9) (fun _ _ _ => zXRs_w) hN hsz hS) hl.1 rfl (Nat.le_of_ble_eq_true rfl) ⟨Nat.zero_le _, Nat.zero_le _⟩ dX7_isWord_30 (fun r_46 I_46 R_46 J_46 H locs hp_46 hP hD hS _ _ => ?_)
          obtain ⟨rfl, hu_46⟩ := hp_46
          cases hu_46
          refine lv_icmp_ge (tgt := 63) hx hb dX7_isWord_33 (by decide) (fun c_47 => ?_) (fun c_47 => ?_)
          · have t_c_47 := z_leT c_47
            have f_48 : zR 5 5 (x_42) := zR_ley t_c_47 zk_5 hx_42 (by decide)
            refine lv_iconst (v := nI 1) hx hb dX7_isWord_63 (by decide +kernel) ?_
            exact z_zret (v := nI 1) hx hb hr hlocks hP hD hS (by decide +kernel) dX7_isWord_64 (Or.inl ⟨rfl, rfl⟩)
          · have t_c_47 := z_leF c_47
            have f_49 : zR 0 4 (x_42) := zR_ltx t_c_47 hx_42 zk_5 (by decide)
            refine lv_aload_n hx hb dX7_isWord_36 rfl (lv_at hl 0 rfl) ?_
            refine z_get hx hb ht hown hK hP ziX7 rfl 1 (by decide) 0 (by decide) hw_1_35 rfl (v := .ref (q 2)) rfl dX7_isWord_37 ?_
            refine lv_aload_n hx hb dX7_isWord_40 rfl (lv_at hl 0 rfl) ?_
            refine z_get hx hb ht hown hK hP ziX7 rfl 1 (by decide) 5 (by decide) hw_1_43 rfl (v := .int (I 1 5)) rfl dX7_isWord_41 ?_
            refine lv_iload_n hx hb dX7_isWord_44 rfl (lv_at hl 2 rfl) ?_
            refine lv_iadd hx hb dX7_isWord_45 ?_
            refine z_rng (a := 0) (b := 799) (zR_add f_9 f_49 (by decide)) (fun v_50 hv_50 => ?_)
            refine z_bald hx hb hK hP 2 (by decide) 0 rfl rfl (zR_vin hv_50 (by decide)) dX7_isWord_46 ?_
            refine z_eqi (y := R 2 (v_50).toNatClampNeg) rfl ?_
            refine lv_aload_n hx hb dX7_isWord_47 rfl (lv_at hl 1 rfl) ?_
            refine lv_iload_n hx hb dX7_isWord_48 rfl (lv_at hl 2 rfl) ?_
            refine z_cNXi (As := [.int (x_42)]) (rest := [.int (R 2 (v_50).toNatClampNeg)]) hx hb hml hown ht (xk_J0_charAt_5068e_10 l D q cA ad av t9 F _ _ _ hI (x_42) f_49) hw_2_197 hmJ0_charAt_5068e ⟨rfl, rfl⟩ (na := 1) rfl (by decide +kernel) (by decide) (vk_recv hZ.1 (by decide) hS) hK hP hD hS hA (zSS_c (Rs := zXRs) (t9 := t9) (fun _ _ _ => zXRs_c)) (zSS_w (Rs := zXRs) (t9 := t9) (fun _ _ _ => zXRs_w) hN hsz hS) hl.1 rfl (Nat.le_of_ble_eq_true rfl) ⟨Nat.zero_le _, Nat.zero_le _⟩ dX7_isWord_49 (fun r_51 I_51 R_51 J_51 H locs hp_51 hP hD hS _ _ => ?_)
            obtain ⟨hr_51, hu_51⟩ := hp_51
            cases hu_51
            refine lv_icmp_eq (tgt := 57) hx hb dX7_isWord_52 (by decide) (fun c_52 => ?_) (fun c_52 => ?_)
            · have t_c_52 := z_eqT c_52
              have f_53 : zR 0 65535 (R 2 (v_50).toNatClampNeg) := zR_eqx t_c_52 hr_51
              obtain ⟨v_54, ev_54⟩ : ∃ y : Int32, y = x_42 + nI 1 := ⟨_, rfl⟩
              have hv_54 : zR 1 5 v_54 := ev_54 ▸ zR_add f_49 zk_1 (by decide)
              have mv_54 : v_54.toInt = (x_42).toInt + 1 := by rw [ev_54, zR_addE f_49 zk_1 (by decide)]; rfl
              refine lv_iinc (v := v_54) (lv' := [(2, .int (v_54)), (0, .ref (q 1)), (1, .ref (ad 9))]) hx hb dX7_isWord_57 hl (k := 2) rfl (ev_54 ▸ rfl) (by decide) rfl (fun ls hl => ?_)
              refine lv_goto (tgt := 28) hx hb dX7_isWord_60 (by decide) ?_
              exact ih_45 (v_54) (zR_w hv_54 (by decide)) (z2_up mv_54 (by decide) hN_44) _ _ hP hD hS _ (lv_sub hl [1, 2, 0] rfl)
            · have t_c_52 := z_eqF c_52
              refine lv_iconst (v := nI 0) hx hb dX7_isWord_55 (by decide +kernel) ?_
              exact z_zret (v := nI 0) hx hb hr hlocks hP hD hS (by decide +kernel) dX7_isWord_56 (Or.inr ⟨rfl, rfl⟩)
      exact loop_43 _ (nI 0) (zR_w zk_0 (by decide)) (Nat.lt_succ_self _) _ _ hP hD hS _ (lv_sub hl [1, 2, 0] rfl)
    · have t_c_7 := z_eqF c_7
      refine lv_iconst (v := nI 0) hx hb dX7_isWord_24 (by decide +kernel) ?_
      exact z_zret (v := nI 0) hx hb hr hlocks hP hD hS (by decide +kernel) dX7_isWord_25 (Or.inr ⟨rfl, rfl⟩)
set_option maxHeartbeats 4000000 in
set_option maxRecDepth 100000 in
theorem xk_X7_number_2 (l : Launch) (D : va_G) (q : Nat → Nat) (cA : Nat → ClassId) (F : Nat → Nat → Int32) (I R : Nat → Nat → Int32) (J : Nat → Nat → Int64) (hI : xInv F (I, R, J))  : zMi l D vwCl (zXtys cA) 81 q (zXd q cA) yX7_number cX7_number 4 (some .int) ({ frames := 2, cells := 0, slots := 0, locals := 40 } : Room) [.ref (q 1), .int (nI 1), .int (nI 999)] (I, R, J) (fun r u => zR 0 999 r ∧ (xInv F u ∧ (∀ k, k ≠ 1 → u.1 k = I k) ∧ u.2 = (R, J))) := by
  intro sz
  refine z_body (by decide +kernel) (Nat.le_of_ble_eq_true rfl) (fun p e s m below meth c ls hx hb hml hr ht hown hlocks hsz hK hP hD hS hl => ?_)
  have hA : ∀ a, s.heap.size ≤ a → zA 81 q sz a := fun a h => Or.inr (hsz ▸ h)
  have hl : lv_has ls 4 [(0, .ref (q 1)), (1, .int (nI 1)), (2, .int (nI 999))] := hl
  refine lv_aload_n hx hb dX7_number_0 rfl (lv_at hl 0 rfl) ?_
  refine z_get hx hb ht hown hK hP ziX7 rfl 1 (by decide) 4 (by decide) hw_1_42 rfl (v := .int (I 1 4)) rfl dX7_number_1 ?_
  refine lv_iconst (v := nI 2) hx hb dX7_number_4 (by decide +kernel) ?_
  refine lv_icmp_eq (tgt := 15) hx hb dX7_number_5 (by decide) (fun c_1 => ?_) (fun c_1 => ?_)
  · have t_c_1 := z_eqT c_1
    have f_2 : zR 2 2 (I 1 4) := zR_eqx t_c_1 zk_2
    refine lv_aload_n hx hb dX7_number_15 rfl (lv_at hl 0 rfl) ?_
    refine z_callVi (k := 1) (As := []) (rest := []) hx hb hml hown ht (xk_X7_told l D q cA F _ _ _ hI ) hw_3_8 hmX7_told ⟨rfl, rfl⟩ (na := 0) rfl (by decide +kernel) (by decide) (by decide) rfl rfl hK hP hD hS hA hl.1 rfl (Nat.le_of_ble_eq_true rfl) ⟨Nat.zero_le _, Nat.zero_le _⟩ dX7_number_16 (fun r_3 I_3 R_3 J_3 H locs hp_3 hP hD hS _ _ => ?_)
    cases hp_3
    refine lv_istore_n (lv' := [(3, .int (r_3)), (0, .ref (q 1)), (1, .int (nI 1)), (2, .int (nI 999))]) hx hb dX7_number_19 rfl hl (by decide) rfl (fun ls hl => ?_)
    refine lv_iload_n hx hb dX7_number_20 rfl (lv_at hl 0 rfl) ?_
    refine lv_iload_n hx hb dX7_number_21 rfl (lv_at hl 2 rfl) ?_
    refine lv_icmp_lt (tgt := 30) hx hb dX7_number_22 (by decide) (fun c_4 => ?_) (fun c_4 => ?_)
    · have t_c_4 := z_ltT c_4
      have f_5 : zR (-2147483648) 0 (r_3) := zR_ltx t_c_4 (zR_any (r_3)) zk_1 (by decide)
      refine lv_aload_n hx hb dX7_number_30 rfl (lv_at hl 1 rfl) ?_
      refine lv_iconst (v := nI 2) hx hb dX7_number_31 (by decide +kernel) ?_
      refine z_callVv (k := 1) (As := [.int (nI 2)]) (rest := []) hx hb hml hown ht (xk_X7_refuse_1 l D q cA F _ _ _ hI (nI 2) (zR_w zk_2 (by decide))) hw_2_239 hmX7_refuse ⟨rfl, rfl⟩ (na := 1) rfl (by decide +kernel) (by decide) (by decide) rfl rfl hK hP hD hS hA hl.1 rfl (Nat.le_of_ble_eq_true rfl) ⟨Nat.zero_le _, Nat.zero_le _⟩ dX7_number_32 (fun I_6 R_6 J_6 H locs hp_6 hP hD hS _ _ => ?_)
      obtain ⟨hv_6, hk_6, hj_6⟩ := hp_6
      dsimp only at hj_6 hk_6
      cases hj_6
      have hf_7 : ∀ k, k ≠ 1 → I_6 k = I k := fun k h => (hk_6 k h).trans ((fun (_ : Nat) _ => rfl) k h)
      refine lv_iconst (v := nI 0) hx hb dX7_number_35 (by decide +kernel) ?_
      exact z_iret (v := nI 0) hx hb hr hlocks hP hD hS dX7_number_36 ⟨(zR_w zk_0 (by decide)), ⟨hv_6, hf_7, rfl⟩⟩
    · have t_c_4 := z_ltF c_4
      have f_8 : zR 1 2147483647 (r_3) := zR_ley t_c_4 zk_1 (zR_any (r_3)) (by decide)
      refine lv_iload_n hx hb dX7_number_25 rfl (lv_at hl 0 rfl) ?_
      refine lv_iload_n hx hb dX7_number_26 rfl (lv_at hl 3 rfl) ?_
      refine lv_icmp_le (tgt := 37) hx hb dX7_number_27 (by decide) (fun c_9 => ?_) (fun c_9 => ?_)
      · have t_c_9 := z_leT c_9
        have f_10 : zR 1 999 (r_3) := zR_lex t_c_9 f_8 zk_999 (by decide)
        refine lv_aload_n hx hb dX7_number_37 rfl (lv_at hl 1 rfl) ?_
        refine z_callVv (k := 1) (As := []) (rest := []) hx hb hml hown ht (xk_X7_step l D q cA F _ _ _ hI ) hw_2_161 hmX7_step ⟨rfl, rfl⟩ (na := 0) rfl (by decide +kernel) (by decide) (by decide) rfl rfl hK hP hD hS hA hl.1 rfl (Nat.le_of_ble_eq_true rfl) ⟨Nat.zero_le _, Nat.zero_le _⟩ dX7_number_38 (fun I_11 R_11 J_11 H locs hp_11 hP hD hS _ _ => ?_)
        obtain ⟨hv_11, hk_11, hj_11⟩ := hp_11
        dsimp only at hj_11 hk_11
        cases hj_11
        have hf_12 : ∀ k, k ≠ 1 → I_11 k = I k := fun k h => (hk_11 k h).trans ((fun (_ : Nat) _ => rfl) k h)
        refine lv_iload_n hx hb dX7_number_41 rfl (lv_at hl 0 rfl) ?_
        exact z_iret (v := r_3) hx hb hr hlocks hP hD hS dX7_number_42 ⟨(zR_w f_10 (by decide)), ⟨hv_11, hf_12, rfl⟩⟩
      · have t_c_9 := z_leF c_9
        have f_13 : zR 1000 2147483647 (r_3) := zR_lty t_c_9 zk_999 f_8 (by decide)
        refine lv_aload_n hx hb dX7_number_30 rfl (lv_at hl 1 rfl) ?_
        refine lv_iconst (v := nI 2) hx hb dX7_number_31 (by decide +kernel) ?_
        refine z_callVv (k := 1) (As := [.int (nI 2)]) (rest := []) hx hb hml hown ht (xk_X7_refuse_1 l D q cA F _ _ _ hI (nI 2) (zR_w zk_2 (by decide))) hw_2_239 hmX7_refuse ⟨rfl, rfl⟩ (na := 1) rfl (by decide +kernel) (by decide) (by decide) rfl rfl hK hP hD hS hA hl.1 rfl (Nat.le_of_ble_eq_true rfl) ⟨Nat.zero_le _, Nat.zero_le _⟩ dX7_number_32 (fun I_14 R_14 J_14 H locs hp_14 hP hD hS _ _ => ?_)
        obtain ⟨hv_14, hk_14, hj_14⟩ := hp_14
        dsimp only at hj_14 hk_14
        cases hj_14
        have hf_15 : ∀ k, k ≠ 1 → I_14 k = I k := fun k h => (hk_14 k h).trans ((fun (_ : Nat) _ => rfl) k h)
        refine lv_iconst (v := nI 0) hx hb dX7_number_35 (by decide +kernel) ?_
        exact z_iret (v := nI 0) hx hb hr hlocks hP hD hS dX7_number_36 ⟨(zR_w zk_0 (by decide)), ⟨hv_14, hf_15, rfl⟩⟩
  · have t_c_1 := z_eqF c_1
    refine lv_aload_n hx hb dX7_number_8 rfl (lv_at hl 0 rfl) ?_
    refine lv_iconst (v := nI 1) hx hb dX7_number_9 (by decide +kernel) ?_
    refine z_callVv (k := 1) (As := [.int (nI 1)]) (rest := []) hx hb hml hown ht (xk_X7_refuse l D q cA F _ _ _ hI (nI 1) (zR_w zk_1 (by decide))) hw_2_239 hmX7_refuse ⟨rfl, rfl⟩ (na := 1) rfl (by decide +kernel) (by decide) (by decide) rfl rfl hK hP hD hS hA hl.1 rfl (Nat.le_of_ble_eq_true rfl) ⟨Nat.zero_le _, Nat.zero_le _⟩ dX7_number_10 (fun I_16 R_16 J_16 H locs hp_16 hP hD hS _ _ => ?_)
    obtain ⟨hv_16, hk_16, hj_16⟩ := hp_16
    dsimp only at hj_16 hk_16
    cases hj_16
    have hf_17 : ∀ k, k ≠ 1 → I_16 k = I k := fun k h => (hk_16 k h).trans ((fun (_ : Nat) _ => rfl) k h)
    refine lv_iconst (v := nI 0) hx hb dX7_number_13 (by decide +kernel) ?_
    exact z_iret (v := nI 0) hx hb hr hlocks hP hD hS dX7_number_14 ⟨(zR_w zk_0 (by decide)), ⟨hv_16, hf_17, rfl⟩⟩
set_option maxHeartbeats 4000000 in
set_option maxRecDepth 100000 in
theorem xk_X7_readThing (l : Launch) (D : va_G) (q : Nat → Nat) (cA : Nat → ClassId) (ad av : Nat → Nat) (t9 : Nat) (F : Nat → Nat → Int32) (I R : Nat → Nat → Int32) (J : Nat → Nat → Int64) (hI : xInv F (I, R, J))  : zNv (zSS zXRs 81 q ad av t9) l D vwCl (zXtys cA) 81 q (zXd q cA) yX7_readThing cX7_readThing 3 none ({ frames := 5, cells := 0, slots := 0, locals := 107 } : Room) [.ref (q 1), .ref (q 8)] (I, R, J) (fun u => xInv F u) := by
  intro sz
  refine z_bodyN (by decide +kernel) (Nat.le_of_ble_eq_true rfl) (fun p e s m below meth c ls hx hb hml hr ht hown hlocks hsz hK hP hD hS hN hl => ?_)
  have hA : ∀ a, s.heap.size ≤ a → zA 81 q sz a := fun a h => Or.inr (hsz ▸ h)
  have hl : lv_has ls 3 [(0, .ref (q 1)), (1, .ref (q 8))] := hl
  have hZ : zSz zXRs 81 q ad av t9 sz s := hsz ▸ hN
  refine lv_aload_n hx hb dX7_readThing_0 rfl (lv_at hl 1 rfl) ?_
  refine z_get hx hb ht hown hK hP ziX2 rfl 8 (by decide) 5 (by decide) hw_1_91 rfl (v := .int (I 8 5)) rfl dX7_readThing_1 ?_
  have f_1 : zR 0 6 (I 8 5) := xI hI 8 5
  refine lv_istore_n (lv' := [(2, .int (I 8 5)), (0, .ref (q 1)), (1, .ref (q 8))]) hx hb dX7_readThing_4 rfl hl (by decide) rfl (fun ls hl => ?_)
  refine lv_iload_n hx hb dX7_readThing_5 rfl (lv_at hl 0 rfl) ?_
  refine lv_bipush (v := nI 6) hx hb dX7_readThing_6 (by decide +kernel) ?_
  refine lv_icmp_lt (tgt := 17) hx hb dX7_readThing_8 (by decide) (fun c_2 => ?_) (fun c_2 => ?_)
  · have t_c_2 := z_ltT c_2
    have f_3 : zR 0 5 (I 8 5) := zR_ltx t_c_2 f_1 zk_6 (by decide)
    refine lv_aload_n hx hb dX7_readThing_17 rfl (lv_at hl 1 rfl) ?_
    refine z_callVv (k := 1) (As := []) (rest := []) hx hb hml hown ht (xk_X7_step l D q cA F _ _ _ hI ) hw_2_161 hmX7_step ⟨rfl, rfl⟩ (na := 0) rfl (by decide +kernel) (by decide) (by decide) rfl rfl hK hP hD hS hA hl.1 rfl (Nat.le_of_ble_eq_true rfl) ⟨Nat.zero_le _, Nat.zero_le _⟩ dX7_readThing_18 (fun I_4 R_4 J_4 H locs hp_4 hP hD hS _ _ => ?_)
    obtain ⟨hv_4, hk_4, hj_4⟩ := hp_4
    dsimp only at hj_4 hk_4
    cases hj_4
    refine lv_aload_n hx hb dX7_readThing_21 rfl (lv_at hl 1 rfl) ?_
    refine lv_aload_n hx hb dX7_readThing_22 rfl (lv_at hl 1 rfl) ?_
    refine va_ldcS hx hb hown (hZ.2.2.2.2.2.2.2.2.2.2.2.1) dX7_readThing_23 ?_
    refine z_cNVi (k := 1) (As := [.ref (ad 8)]) (rest := [.ref (q 1)]) hx hb hml hown ht (xk_X7_isWord_4 l D q cA ad av t9 F _ _ _ hv_4 ) hw_2_183 hmX7_isWord ⟨rfl, rfl⟩ (na := 1) rfl (by decide +kernel) (by decide) (by decide) rfl rfl hK hP hD hS hA (zSS_c (Rs := zXRs) (t9 := t9) (fun _ _ _ => zXRs_c)) (zSS_w (Rs := zXRs) (t9 := t9) (fun _ _ _ => zXRs_w) hN hsz hS) hl.1 rfl (Nat.le_of_ble_eq_true rfl) ⟨Nat.zero_le _, Nat.zero_le _⟩ dX7_readThing_25 (fun r_5 I_5 R_5 J_5 H locs hp_5 hP hD hS _ _ => ?_)
    have hq_5 : zR 0 1 r_5 ∧ (I_5, R_5, J_5) = (I_4, R, J) := hp_5.elim (fun h => ⟨h.1 ▸ zR_w zk_1 (by decide), h.2⟩) (fun h => ⟨h.1 ▸ zR_w zk_0 (by decide), h.2⟩)
    obtain ⟨hr_5, hu_5⟩ := hq_5
    cases hu_5
    refine z_callVv (k := 1) (As := [.int (r_5)]) (rest := []) hx hb hml hown ht (xk_X7_expect l D q cA F _ _ _ hv_4 (r_5) hr_5) hw_2_235 hmX7_expect ⟨rfl, rfl⟩ (na := 1) rfl (by decide +kernel) (by decide) (by decide) rfl rfl hK hP hD hS hA hl.1 rfl (Nat.le_of_ble_eq_true rfl) ⟨Nat.zero_le _, Nat.zero_le _⟩ dX7_readThing_28 (fun I_6 R_6 J_6 H locs hp_6 hP hD hS _ _ => ?_)
    obtain ⟨hv_6, hk_6, hj_6⟩ := hp_6
    dsimp only at hj_6 hk_6
    cases hj_6
    refine lv_aload_n hx hb dX7_readThing_31 rfl (lv_at hl 2 rfl) ?_
    refine z_get hx hb ht hown hK hP ziX2 rfl 8 (by decide) 8 (by decide) hw_1_103 rfl (v := .ref (q 10)) rfl dX7_readThing_32 ?_
    refine lv_iload_n hx hb dX7_readThing_35 rfl (lv_at hl 0 rfl) ?_
    refine lv_aload_n hx hb dX7_readThing_36 rfl (lv_at hl 1 rfl) ?_
    refine lv_iconst (v := nI 0) hx hb dX7_readThing_37 (by decide +kernel) ?_
    refine lv_aload_n hx hb dX7_readThing_38 rfl (lv_at hl 2 rfl) ?_
    refine z_get hx hb ht hown hK hP ziX2 rfl 8 (by decide) 4 (by decide) hw_1_84 rfl (v := .int (I_6 8 4)) rfl dX7_readThing_39 ?_
    refine z_eqi (y := I 8 4) ((congrFun (hk_6 8 (by decide)) 4).trans (congrFun (hk_4 8 (by decide)) 4)) ?_
    have f_7 : zR 0 5 (I 8 4) := xI hI 8 4
    refine lv_iconst (v := nI 1) hx hb dX7_readThing_42 (by decide +kernel) ?_
    refine lv_isub hx hb dX7_readThing_43 ?_
    refine z_subc (-1) 4 (-1) f_7 zk_1 (by decide) (fun v_8 hv_8 mv_8 => ?_)
    refine z_callVi (k := 1) (As := [.int (nI 0), .int (v_8)]) (rest := [.int (I 8 5), .ref (q 10)]) hx hb hml hown ht (xk_X7_number_1 l D q cA F _ _ _ hv_6 (v_8) hv_8) hw_3_4 hmX7_number ⟨rfl, rfl⟩ (na := 2) rfl (by decide +kernel) (by decide) (by decide) rfl rfl hK hP hD hS hA hl.1 rfl (Nat.le_of_ble_eq_true rfl) ⟨Nat.zero_le _, Nat.zero_le _⟩ dX7_readThing_44 (fun r_9 I_9 R_9 J_9 H locs hp_9 hP hD hS _ _ => ?_)
    obtain ⟨hr_9, hu_9⟩ := hp_9
    obtain ⟨hv_9, hk_9, hj_9⟩ := hu_9
    dsimp only at hj_9 hk_9
    cases hj_9
    refine z_iast hx hb hK hP hD hS 10 (by decide) 6 (fun _ => rfl) rfl (zR_vin f_3 (by decide)) dX7_readThing_47 (fun H locs hP hD hS => ?_)
    have hI_10 := xInv_R hv_9 10 (I 8 5).toNatClampNeg (r_9) hr_9 rfl
    refine lv_aload_n hx hb dX7_readThing_48 rfl (lv_at hl 1 rfl) ?_
    refine lv_aload_n hx hb dX7_readThing_49 rfl (lv_at hl 1 rfl) ?_
    refine va_ldcS hx hb hown (hZ.2.2.2.2.2.2.2.2.2.2.2.2.1) dX7_readThing_50 ?_
    refine z_cNVi (k := 1) (As := [.ref (ad 9)]) (rest := [.ref (q 1)]) hx hb hml hown ht (xk_X7_isWord_5 l D q cA ad av t9 F _ _ _ hI_10 ) hw_2_183 hmX7_isWord ⟨rfl, rfl⟩ (na := 1) rfl (by decide +kernel) (by decide) (by decide) rfl rfl hK hP hD hS hA (zSS_c (Rs := zXRs) (t9 := t9) (fun _ _ _ => zXRs_c)) (zSS_w (Rs := zXRs) (t9 := t9) (fun _ _ _ => zXRs_w) hN hsz hS) hl.1 rfl (Nat.le_of_ble_eq_true rfl) ⟨Nat.zero_le _, Nat.zero_le _⟩ dX7_readThing_52 (fun r_11 I_11 R_11 J_11 H locs hp_11 hP hD hS _ _ => ?_)
    have hq_11 : zR 0 1 r_11 ∧ (I_11, R_11, J_11) = (I_9, (zp R 10 (I 8 5).toNatClampNeg (r_9)), J) := hp_11.elim (fun h => ⟨h.1 ▸ zR_w zk_1 (by decide), h.2⟩) (fun h => ⟨h.1 ▸ zR_w zk_0 (by decide), h.2⟩)
    obtain ⟨hr_11, hu_11⟩ := hq_11
    cases hu_11
    refine z_callVv (k := 1) (As := [.int (r_11)]) (rest := []) hx hb hml hown ht (xk_X7_expect l D q cA F _ _ _ hI_10 (r_11) hr_11) hw_2_235 hmX7_expect ⟨rfl, rfl⟩ (na := 1) rfl (by decide +kernel) (by decide) (by decide) rfl rfl hK hP hD hS hA hl.1 rfl (Nat.le_of_ble_eq_true rfl) ⟨Nat.zero_le _, Nat.zero_le _⟩ dX7_readThing_55 (fun I_12 R_12 J_12 H locs hp_12 hP hD hS _ _ => ?_)
    obtain ⟨hv_12, hk_12, hj_12⟩ := hp_12
    dsimp only at hj_12 hk_12
    cases hj_12
    refine lv_aload_n hx hb dX7_readThing_58 rfl (lv_at hl 2 rfl) ?_
    refine z_get hx hb ht hown hK hP ziX2 rfl 8 (by decide) 9 (by decide) hw_1_107 rfl (v := .ref (q 11)) rfl dX7_readThing_59 ?_
    refine lv_iload_n hx hb dX7_readThing_62 rfl (lv_at hl 0 rfl) ?_
    refine lv_aload_n hx hb dX7_readThing_63 rfl (lv_at hl 1 rfl) ?_
    refine lv_iconst (v := nI 1) hx hb dX7_readThing_64 (by decide +kernel) ?_
    refine lv_sipush (v := nI 999) hx hb dX7_readThing_65 (by decide +kernel) ?_
    refine z_callVi (k := 1) (As := [.int (nI 1), .int (nI 999)]) (rest := [.int (I 8 5), .ref (q 11)]) hx hb hml hown ht (xk_X7_number_2 l D q cA F _ _ _ hv_12 ) hw_3_4 hmX7_number ⟨rfl, rfl⟩ (na := 2) rfl (by decide +kernel) (by decide) (by decide) rfl rfl hK hP hD hS hA hl.1 rfl (Nat.le_of_ble_eq_true rfl) ⟨Nat.zero_le _, Nat.zero_le _⟩ dX7_readThing_68 (fun r_13 I_13 R_13 J_13 H locs hp_13 hP hD hS _ _ => ?_)
    obtain ⟨hr_13, hu_13⟩ := hp_13
    obtain ⟨hv_13, hk_13, hj_13⟩ := hu_13
    dsimp only at hj_13 hk_13
    cases hj_13
    refine z_iast hx hb hK hP hD hS 11 (by decide) 7 (fun _ => rfl) rfl (zR_vin f_3 (by decide)) dX7_readThing_71 (fun H locs hP hD hS => ?_)
    have hI_14 := xInv_R hv_13 11 (I 8 5).toNatClampNeg (r_13) (zR_any _) rfl
    refine lv_aload_n hx hb dX7_readThing_72 rfl (lv_at hl 2 rfl) ?_
    refine lv_dup hx hb dX7_readThing_73 rfl ?_
    refine z_get hx hb ht hown hK hP ziX2 rfl 8 (by decide) 5 (by decide) hw_1_91 rfl (v := .int (I_13 8 5)) rfl dX7_readThing_74 ?_
    refine z_eqi (y := I 8 5) ((congrFun (hk_13 8 (by decide)) 5).trans ((congrFun (hk_12 8 (by decide)) 5).trans ((congrFun (hk_9 8 (by decide)) 5).trans ((congrFun (hk_6 8 (by decide)) 5).trans (congrFun (hk_4 8 (by decide)) 5))))) ?_
    refine lv_iconst (v := nI 1) hx hb dX7_readThing_77 (by decide +kernel) ?_
    refine lv_iadd hx hb dX7_readThing_78 ?_
    refine z_addc 1 6 f_3 zk_1 (by decide) (fun v_15 hv_15 mv_15 => ?_)
    refine z_putI hx hb ht hown hK hP hD hS ziX2 tyX2 tyX2_ok nmX2 rfl 8 (by decide) 5 (by decide) hw_1_91 rfl (v := v_15) rfl rfl rfl (Nat.le_of_ble_eq_true rfl) rfl dX7_readThing_79 (fun H locs hP hD hS => ?_)
    have hI_16 := xInv_I hI_14 8 5 (v_15) (zR_w hv_15 (by decide)) rfl
    exact z_vret hx hb hr hlocks hP hD hS dX7_readThing_82 hI_16
  · have t_c_2 := z_ltF c_2
    have f_17 : zR 6 6 (I 8 5) := zR_ley t_c_2 zk_6 f_1 (by decide)
    refine lv_aload_n hx hb dX7_readThing_11 rfl (lv_at hl 1 rfl) ?_
    refine lv_iconst (v := nI 3) hx hb dX7_readThing_12 (by decide +kernel) ?_
    refine z_callVv (k := 1) (As := [.int (nI 3)]) (rest := []) hx hb hml hown ht (xk_X7_refuse_2 l D q cA F _ _ _ hI (nI 3) (zR_w zk_3 (by decide))) hw_2_239 hmX7_refuse ⟨rfl, rfl⟩ (na := 1) rfl (by decide +kernel) (by decide) (by decide) rfl rfl hK hP hD hS hA hl.1 rfl (Nat.le_of_ble_eq_true rfl) ⟨Nat.zero_le _, Nat.zero_le _⟩ dX7_readThing_13 (fun I_18 R_18 J_18 H locs hp_18 hP hD hS _ _ => ?_)
    obtain ⟨hv_18, hk_18, hj_18⟩ := hp_18
    dsimp only at hj_18 hk_18
    cases hj_18
    exact z_vret hx hb hr hlocks hP hD hS dX7_readThing_16 hv_18
set_option maxHeartbeats 4000000 in
set_option maxRecDepth 100000 in
theorem xk_J0_coder_7d493_6 (l : Launch) (D : va_G) (q : Nat → Nat) (cA : Nat → ClassId) (ad av : Nat → Nat) (t9 : Nat) (F : Nat → Nat → Int32) (I R : Nat → Nat → Int32) (J : Nat → Nat → Int64) (hI : xInv F (I, R, J))  : zNi (zSS zXRs 81 q ad av t9) l D vwCl (zXtys cA) 81 q (zXd q cA) yJ0_coder_7d493 cJ0_coder_7d493 1 (some .byte) ({ frames := 0, cells := 0, slots := 0, locals := 0 } : Room) [.ref (ad 10)] (I, R, J) (fun r u => r = nI 0 ∧ u = (I, R, J)) := by
  intro sz
  refine z_bodyN (by decide +kernel) (Nat.le_of_ble_eq_true rfl) (fun p e s m below meth c ls hx hb hml hr ht hown hlocks hsz hK hP hD hS hN hl => ?_)
  have hA : ∀ a, s.heap.size ≤ a → zA 81 q sz a := fun a h => Or.inr (hsz ▸ h)
  have hl : lv_has ls 1 [(0, .ref (ad 10))] := hl
  have hZ : zSz zXRs 81 q ad av t9 sz s := hsz ▸ hN
  refine va_gets hx hb hZ.2.1 hS hown (ht _ hw_2_195) (fun _ h => h) dJ0_coder_7d493_0 ?_
  refine z_eqi (y := nI 1) rfl ?_
  refine lv_if_eq (tgt := 13) hx hb dJ0_coder_7d493_3 (by decide) (fun c_0 => absurd c_0 (zD_ne zk_1 zk_z (by decide))) (fun _ => ?_)
  refine lv_aload_n hx hb dJ0_coder_7d493_6 rfl (lv_at hl 0 rfl) ?_
  refine vk_getf hx hb (hZ.1.1 10 (by decide)).2.1 hS hown (ht _ hw_8_165) (fun _ h => h) dJ0_coder_7d493_7 ?_
  refine z_eqi (y := nI 0) rfl ?_
  refine lv_goto (tgt := 14) hx hb dJ0_coder_7d493_10 (by decide) ?_
  exact z_zret (v := nI 0) hx hb hr hlocks hP hD hS (by decide +kernel) dJ0_coder_7d493_14 ⟨rfl, rfl⟩
set_option maxHeartbeats 4000000 in
set_option maxRecDepth 100000 in
theorem xk_J0_length_8abf5_6 (l : Launch) (D : va_G) (q : Nat → Nat) (cA : Nat → ClassId) (ad av : Nat → Nat) (t9 : Nat) (F : Nat → Nat → Int32) (I R : Nat → Nat → Int32) (J : Nat → Nat → Int64) (hI : xInv F (I, R, J))  : zNi (zSS zXRs 81 q ad av t9) l D vwCl (zXtys cA) 81 q (zXd q cA) yJ0_length_8abf5 cJ0_length_8abf5 1 (some .int) ({ frames := 1, cells := 0, slots := 0, locals := 20 } : Room) [.ref (ad 10)] (I, R, J) (fun r u => r = nI 4 ∧ u = (I, R, J)) := by
  intro sz
  refine z_bodyN (by decide +kernel) (Nat.le_of_ble_eq_true rfl) (fun p e s m below meth c ls hx hb hml hr ht hown hlocks hsz hK hP hD hS hN hl => ?_)
  have hA : ∀ a, s.heap.size ≤ a → zA 81 q sz a := fun a h => Or.inr (hsz ▸ h)
  have hl : lv_has ls 1 [(0, .ref (ad 10))] := hl
  have hZ : zSz zXRs 81 q ad av t9 sz s := hsz ▸ hN
  refine lv_aload_n hx hb dJ0_length_8abf5_0 rfl (lv_at hl 0 rfl) ?_
  refine vk_getf hx hb (hZ.1.1 10 (by decide)).2.2.1 hS hown (ht _ hw_8_164) (fun _ h => h) dJ0_length_8abf5_1 ?_
  refine va_tlen hx hb (hZ.1.1 10 (by decide)).2.2.2 hS (v := nI 4) rfl dJ0_length_8abf5_4 ?_
  refine lv_aload_n hx hb dJ0_length_8abf5_5 rfl (lv_at hl 0 rfl) ?_
  refine z_cNXi (As := []) (rest := [.int (nI 4)]) hx hb hml hown ht (xk_J0_coder_7d493_6 l D q cA ad av t9 F _ _ _ hI ) hw_2_191 hmJ0_coder_7d493 ⟨rfl, rfl⟩ (na := 0) rfl (by decide +kernel) (by decide) (vk_recv hZ.1 (by decide) hS) hK hP hD hS hA (zSS_c (Rs := zXRs) (t9 := t9) (fun _ _ _ => zXRs_c)) (zSS_w (Rs := zXRs) (t9 := t9) (fun _ _ _ => zXRs_w) hN hsz hS) hl.1 rfl (Nat.le_of_ble_eq_true rfl) ⟨Nat.zero_le _, Nat.zero_le _⟩ dJ0_length_8abf5_6 (fun r_1 I_1 R_1 J_1 H locs hp_1 hP hD hS _ _ => ?_)
  obtain ⟨rfl, hu_1⟩ := hp_1
  cases hu_1
  refine lv_ishr hx hb dJ0_length_8abf5_9 ?_
  refine z_eqi (y := nI 4) (by decide +kernel) ?_
  exact z_iret (v := nI 4) hx hb hr hlocks hP hD hS dJ0_length_8abf5_10 ⟨rfl, rfl⟩
set_option maxHeartbeats 4000000 in
set_option maxRecDepth 100000 in
theorem xk_J0_isLatin1_aae02_6 (l : Launch) (D : va_G) (q : Nat → Nat) (cA : Nat → ClassId) (ad av : Nat → Nat) (t9 : Nat) (F : Nat → Nat → Int32) (I R : Nat → Nat → Int32) (J : Nat → Nat → Int64) (hI : xInv F (I, R, J))  : zNi (zSS zXRs 81 q ad av t9) l D vwCl (zXtys cA) 81 q (zXd q cA) yJ0_isLatin1_aae02 cJ0_isLatin1_aae02 1 (some .boolean) ({ frames := 0, cells := 0, slots := 0, locals := 0 } : Room) [.ref (ad 10)] (I, R, J) (fun r u => (r = nI 1 ∧ u = (I, R, J))) := by
  intro sz
  refine z_bodyN (by decide +kernel) (Nat.le_of_ble_eq_true rfl) (fun p e s m below meth c ls hx hb hml hr ht hown hlocks hsz hK hP hD hS hN hl => ?_)
  have hA : ∀ a, s.heap.size ≤ a → zA 81 q sz a := fun a h => Or.inr (hsz ▸ h)
  have hl : lv_has ls 1 [(0, .ref (ad 10))] := hl
  have hZ : zSz zXRs 81 q ad av t9 sz s := hsz ▸ hN
  refine va_gets hx hb hZ.2.1 hS hown (ht _ hw_2_195) (fun _ h => h) dJ0_isLatin1_aae02_0 ?_
  refine z_eqi (y := nI 1) rfl ?_
  refine lv_if_eq (tgt := 17) hx hb dJ0_isLatin1_aae02_3 (by decide) (fun c_0 => absurd c_0 (zD_ne zk_1 zk_z (by decide))) (fun _ => ?_)
  refine lv_aload_n hx hb dJ0_isLatin1_aae02_6 rfl (lv_at hl 0 rfl) ?_
  refine vk_getf hx hb (hZ.1.1 10 (by decide)).2.1 hS hown (ht _ hw_8_165) (fun _ h => h) dJ0_isLatin1_aae02_7 ?_
  refine z_eqi (y := nI 0) rfl ?_
  refine lv_if_ne (tgt := 17) hx hb dJ0_isLatin1_aae02_10 (by decide) (fun c_0 => absurd (zD_eq zk_0 zk_z) c_0) (fun _ => ?_)
  refine lv_iconst (v := nI 1) hx hb dJ0_isLatin1_aae02_13 (by decide +kernel) ?_
  refine lv_goto (tgt := 18) hx hb dJ0_isLatin1_aae02_14 (by decide) ?_
  exact z_zret (v := nI 1) hx hb hr hlocks hP hD hS (by decide +kernel) dJ0_isLatin1_aae02_18 ⟨rfl, rfl⟩
set_option maxHeartbeats 4000000 in
set_option maxRecDepth 100000 in
theorem xk_J3_checkIndex_8e157_12 (l : Launch) (D : va_G) (q : Nat → Nat) (cA : Nat → ClassId) (ad av : Nat → Nat) (t9 : Nat) (F : Nat → Nat → Int32) (I R : Nat → Nat → Int32) (J : Nat → Nat → Int64) (hI : xInv F (I, R, J)) (pa0 : Int32) (hpa0 : zR 0 3 pa0) : zNi (zSS zXRs 81 q ad av t9) l D vwCl (zXtys cA) 81 q (zXd q cA) yJ3_checkIndex_8e157 cJ3_checkIndex_8e157 3 (some .int) ({ frames := 0, cells := 0, slots := 0, locals := 0 } : Room) [.int (pa0), .int (nI 4), .null] (I, R, J) (fun r u => zR 0 3 r ∧ u = (I, R, J)) := by
  intro sz
  refine z_bodyN (by decide +kernel) (Nat.le_of_ble_eq_true rfl) (fun p e s m below meth c ls hx hb hml hr ht hown hlocks hsz hK hP hD hS hN hl => ?_)
  have hA : ∀ a, s.heap.size ≤ a → zA 81 q sz a := fun a h => Or.inr (hsz ▸ h)
  have hl : lv_has ls 3 [(0, .int (pa0)), (1, .int (nI 4)), (2, .null)] := hl
  have hZ : zSz zXRs 81 q ad av t9 sz s := hsz ▸ hN
  refine lv_iload_n hx hb dJ3_checkIndex_8e157_0 rfl (lv_at hl 0 rfl) ?_
  refine lv_if_lt (tgt := 9) hx hb dJ3_checkIndex_8e157_1 (by decide) (fun c_0 => absurd c_0 (zD_nlt hpa0 zk_z (by decide))) (fun _ => ?_)
  refine lv_iload_n hx hb dJ3_checkIndex_8e157_4 rfl (lv_at hl 0 rfl) ?_
  refine lv_iload_n hx hb dJ3_checkIndex_8e157_5 rfl (lv_at hl 1 rfl) ?_
  refine lv_icmp_lt (tgt := 16) hx hb dJ3_checkIndex_8e157_6 (by decide) (fun _ => ?_) (fun c_0 => absurd (zD_lt hpa0 zk_4 (by decide)) c_0)
  refine lv_iload_n hx hb dJ3_checkIndex_8e157_16 rfl (lv_at hl 0 rfl) ?_
  exact z_iret (v := pa0) hx hb hr hlocks hP hD hS dJ3_checkIndex_8e157_17 ⟨hpa0, rfl⟩
set_option maxHeartbeats 4000000 in
set_option maxRecDepth 100000 in
theorem xk_J3_checkIndex_8e157_13 (l : Launch) (D : va_G) (q : Nat → Nat) (cA : Nat → ClassId) (ad av : Nat → Nat) (t9 : Nat) (F : Nat → Nat → Int32) (I R : Nat → Nat → Int32) (J : Nat → Nat → Int64) (hI : xInv F (I, R, J)) (pa0 : Int32) (hpa0 : zR 0 3 pa0) : zNi (zSS zXRs 81 q ad av t9) l D vwCl (zXtys cA) 81 q (zXd q cA) yJ3_checkIndex_8e157 cJ3_checkIndex_8e157 3 (some .int) ({ frames := 0, cells := 0, slots := 0, locals := 0 } : Room) [.int (pa0), .int (nI 4), .ref (t9)] (I, R, J) (fun r u => zR 0 3 r ∧ u = (I, R, J)) := by
  intro sz
  refine z_bodyN (by decide +kernel) (Nat.le_of_ble_eq_true rfl) (fun p e s m below meth c ls hx hb hml hr ht hown hlocks hsz hK hP hD hS hN hl => ?_)
  have hA : ∀ a, s.heap.size ≤ a → zA 81 q sz a := fun a h => Or.inr (hsz ▸ h)
  have hl : lv_has ls 3 [(0, .int (pa0)), (1, .int (nI 4)), (2, .ref (t9))] := hl
  have hZ : zSz zXRs 81 q ad av t9 sz s := hsz ▸ hN
  refine lv_iload_n hx hb dJ3_checkIndex_8e157_0 rfl (lv_at hl 0 rfl) ?_
  refine lv_if_lt (tgt := 9) hx hb dJ3_checkIndex_8e157_1 (by decide) (fun c_0 => absurd c_0 (zD_nlt hpa0 zk_z (by decide))) (fun _ => ?_)
  refine lv_iload_n hx hb dJ3_checkIndex_8e157_4 rfl (lv_at hl 0 rfl) ?_
  refine lv_iload_n hx hb dJ3_checkIndex_8e157_5 rfl (lv_at hl 1 rfl) ?_
  refine lv_icmp_lt (tgt := 16) hx hb dJ3_checkIndex_8e157_6 (by decide) (fun _ => ?_) (fun c_0 => absurd (zD_lt hpa0 zk_4 (by decide)) c_0)
  refine lv_iload_n hx hb dJ3_checkIndex_8e157_16 rfl (lv_at hl 0 rfl) ?_
  exact z_iret (v := pa0) hx hb hr hlocks hP hD hS dJ3_checkIndex_8e157_17 ⟨hpa0, rfl⟩
set_option maxHeartbeats 4000000 in
set_option maxRecDepth 100000 in
theorem xk_J0_checkIndex_df160_6 (l : Launch) (D : va_G) (q : Nat → Nat) (cA : Nat → ClassId) (ad av : Nat → Nat) (t9 : Nat) (F : Nat → Nat → Int32) (I R : Nat → Nat → Int32) (J : Nat → Nat → Int64) (hI : xInv F (I, R, J)) (pa0 : Int32) (hpa0 : zR 0 3 pa0) : zNv (zSS zXRs 81 q ad av t9) l D vwCl (zXtys cA) 81 q (zXd q cA) yJ0_checkIndex_df160 cJ0_checkIndex_df160 2 none ({ frames := 1, cells := 0, slots := 0, locals := 22 } : Room) [.int (pa0), .int (nI 4)] (I, R, J) (fun u => u = (I, R, J)) := by
  intro sz
  refine z_bodyN (by decide +kernel) (Nat.le_of_ble_eq_true rfl) (fun p e s m below meth c ls hx hb hml hr ht hown hlocks hsz hK hP hD hS hN hl => ?_)
  have hA : ∀ a, s.heap.size ≤ a → zA 81 q sz a := fun a h => Or.inr (hsz ▸ h)
  have hl : lv_has ls 2 [(0, .int (pa0)), (1, .int (nI 4))] := hl
  have hZ : zSz zXRs 81 q ad av t9 sz s := hsz ▸ hN
  refine lv_iload_n hx hb dJ0_checkIndex_df160_0 rfl (lv_at hl 0 rfl) ?_
  refine lv_iload_n hx hb dJ0_checkIndex_df160_1 rfl (lv_at hl 1 rfl) ?_
  rcases hZ.2.2.1 with hz9 | ⟨t9, hz9⟩
  · refine va_gets hx hb hz9 hS hown (ht _ hw_2_211) (fun _ h => h) dJ0_checkIndex_df160_2 ?_
    refine z_cNSi (As := [.int (pa0), .int (nI 4), .null]) (rest := []) hx hb hml hown ht (xk_J3_checkIndex_8e157_12 l D q cA ad av t9 F _ _ _ hI (pa0) hpa0) hw_2_213 hmJ3_checkIndex_8e157 ⟨rfl, rfl⟩ (na := 3) rfl (by decide +kernel) (by decide) hK hP hD hS hA (zSS_c (Rs := zXRs) (t9 := t9) (fun _ _ _ => zXRs_c)) (zSS_w (Rs := zXRs) (t9 := t9) (fun _ _ _ => zXRs_w) hN hsz hS) hl.1 rfl (Nat.le_of_ble_eq_true rfl) ⟨Nat.zero_le _, Nat.zero_le _⟩ dJ0_checkIndex_df160_5 (fun r_1 I_1 R_1 J_1 H locs hp_1 hP hD hS _ _ => ?_)
    obtain ⟨hr_1, hu_1⟩ := hp_1
    cases hu_1
    refine lv_pop hx hb dJ0_checkIndex_df160_8 rfl ?_
    exact z_vret hx hb hr hlocks hP hD hS dJ0_checkIndex_df160_9 rfl
  · refine va_gets hx hb hz9 hS hown (ht _ hw_2_211) (fun _ h => h) dJ0_checkIndex_df160_2 ?_
    refine z_cNSi (As := [.int (pa0), .int (nI 4), .ref (t9)]) (rest := []) hx hb hml hown ht (xk_J3_checkIndex_8e157_13 l D q cA ad av t9 F _ _ _ hI (pa0) hpa0) hw_2_213 hmJ3_checkIndex_8e157 ⟨rfl, rfl⟩ (na := 3) rfl (by decide +kernel) (by decide) hK hP hD hS hA (zSS_c (Rs := zXRs) (t9 := t9) (fun _ _ _ => zXRs_c)) (zSS_w (Rs := zXRs) (t9 := t9) (fun _ _ _ => zXRs_w) hN hsz hS) hl.1 rfl (Nat.le_of_ble_eq_true rfl) ⟨Nat.zero_le _, Nat.zero_le _⟩ dJ0_checkIndex_df160_5 (fun r_2 I_2 R_2 J_2 H locs hp_2 hP hD hS _ _ => ?_)
    obtain ⟨hr_2, hu_2⟩ := hp_2
    cases hu_2
    refine lv_pop hx hb dJ0_checkIndex_df160_8 rfl ?_
    exact z_vret hx hb hr hlocks hP hD hS dJ0_checkIndex_df160_9 rfl
set_option maxHeartbeats 4000000 in
set_option maxRecDepth 100000 in
theorem xk_J1_charAt_3b067_12 (l : Launch) (D : va_G) (q : Nat → Nat) (cA : Nat → ClassId) (ad av : Nat → Nat) (t9 : Nat) (F : Nat → Nat → Int32) (I R : Nat → Nat → Int32) (J : Nat → Nat → Int64) (hI : xInv F (I, R, J)) (pa1 : Int32) (hpa1 : zR 0 3 pa1) : zNi (zSS zXRs 81 q ad av t9) l D vwCl (zXtys cA) 81 q (zXd q cA) yJ1_charAt_3b067 cJ1_charAt_3b067 2 (some .char) ({ frames := 2, cells := 0, slots := 0, locals := 43 } : Room) [.ref (av 10), .int (pa1)] (I, R, J) (fun r u => zR 0 65535 r ∧ u = (I, R, J)) := by
  intro sz
  refine z_bodyN (by decide +kernel) (Nat.le_of_ble_eq_true rfl) (fun p e s m below meth c ls hx hb hml hr ht hown hlocks hsz hK hP hD hS hN hl => ?_)
  have hA : ∀ a, s.heap.size ≤ a → zA 81 q sz a := fun a h => Or.inr (hsz ▸ h)
  have hl : lv_has ls 2 [(0, .ref (av 10)), (1, .int (pa1))] := hl
  have hZ : zSz zXRs 81 q ad av t9 sz s := hsz ▸ hN
  refine lv_iload_n hx hb dJ1_charAt_3b067_0 rfl (lv_at hl 1 rfl) ?_
  refine lv_aload_n hx hb dJ1_charAt_3b067_1 rfl (lv_at hl 0 rfl) ?_
  refine va_tlen hx hb (hZ.1.1 10 (by decide)).2.2.2 hS (v := nI 4) rfl dJ1_charAt_3b067_2 ?_
  refine z_cNSv (As := [.int (pa1), .int (nI 4)]) (rest := []) hx hb hml hown ht (xk_J0_checkIndex_df160_6 l D q cA ad av t9 F _ _ _ hI (pa1) hpa1) hw_2_208 hmJ0_checkIndex_df160 ⟨rfl, rfl⟩ (na := 2) rfl (by decide +kernel) (by decide) hK hP hD hS hA (zSS_c (Rs := zXRs) (t9 := t9) (fun _ _ _ => zXRs_c)) (zSS_w (Rs := zXRs) (t9 := t9) (fun _ _ _ => zXRs_w) hN hsz hS) hl.1 rfl (Nat.le_of_ble_eq_true rfl) ⟨Nat.zero_le _, Nat.zero_le _⟩ dJ1_charAt_3b067_3 (fun I_1 R_1 J_1 H locs hp_1 hP hD hS _ _ => ?_)
  cases hp_1
  refine lv_aload_n hx hb dJ1_charAt_3b067_6 rfl (lv_at hl 0 rfl) ?_
  refine lv_iload_n hx hb dJ1_charAt_3b067_7 rfl (lv_at hl 1 rfl) ?_
  refine va_tb hx hb (hZ.1.1 10 (by decide)).2.2.2 hS (zR_vin hpa1 (by decide)) rfl dJ1_charAt_3b067_8 ?_
  refine z_any (fun v_2 => ?_)
  refine lv_sipush (v := nI 255) hx hb dJ1_charAt_3b067_9 (by decide +kernel) ?_
  refine lv_iand hx hb dJ1_charAt_3b067_12 ?_
  refine z_rng (a := 0) (b := 255) (zR_andr zk_255 (by decide)) (fun v_3 hv_3 => ?_)
  refine lv_i2c hx hb dJ1_charAt_3b067_13 rfl ?_
  refine z_rng (a := 0) (b := 65535) (zR_i2c _) (fun v_4 hv_4 => ?_)
  exact z_zret (v := v_4) hx hb hr hlocks hP hD hS (zR_char hv_4) dJ1_charAt_3b067_14 ⟨hv_4, rfl⟩
set_option maxHeartbeats 4000000 in
set_option maxRecDepth 100000 in
theorem xk_J0_charAt_5068e_12 (l : Launch) (D : va_G) (q : Nat → Nat) (cA : Nat → ClassId) (ad av : Nat → Nat) (t9 : Nat) (F : Nat → Nat → Int32) (I R : Nat → Nat → Int32) (J : Nat → Nat → Int64) (hI : xInv F (I, R, J)) (pa0 : Int32) (hpa0 : zR 0 3 pa0) : zNi (zSS zXRs 81 q ad av t9) l D vwCl (zXtys cA) 81 q (zXd q cA) yJ0_charAt_5068e cJ0_charAt_5068e 2 (some .char) ({ frames := 3, cells := 0, slots := 0, locals := 64 } : Room) [.ref (ad 10), .int (pa0)] (I, R, J) (fun r u => zR 0 65535 r ∧ u = (I, R, J)) := by
  intro sz
  refine z_bodyN (by decide +kernel) (Nat.le_of_ble_eq_true rfl) (fun p e s m below meth c ls hx hb hml hr ht hown hlocks hsz hK hP hD hS hN hl => ?_)
  have hA : ∀ a, s.heap.size ≤ a → zA 81 q sz a := fun a h => Or.inr (hsz ▸ h)
  have hl : lv_has ls 2 [(0, .ref (ad 10)), (1, .int (pa0))] := hl
  have hZ : zSz zXRs 81 q ad av t9 sz s := hsz ▸ hN
  refine lv_aload_n hx hb dJ0_charAt_5068e_0 rfl (lv_at hl 0 rfl) ?_
  refine z_cNXi (As := []) (rest := []) hx hb hml hown ht (xk_J0_isLatin1_aae02_6 l D q cA ad av t9 F _ _ _ hI ) hw_2_201 hmJ0_isLatin1_aae02 ⟨rfl, rfl⟩ (na := 0) rfl (by decide +kernel) (by decide) (vk_recv hZ.1 (by decide) hS) hK hP hD hS hA (zSS_c (Rs := zXRs) (t9 := t9) (fun _ _ _ => zXRs_c)) (zSS_w (Rs := zXRs) (t9 := t9) (fun _ _ _ => zXRs_w) hN hsz hS) hl.1 rfl (Nat.le_of_ble_eq_true rfl) ⟨Nat.zero_le _, Nat.zero_le _⟩ dJ0_charAt_5068e_1 (fun r_1 I_1 R_1 J_1 H locs hp_1 hP hD hS _ _ => ?_)
  obtain ⟨rfl, hu_1⟩ := hp_1
  cases hu_1
  refine lv_if_eq (tgt := 16) hx hb dJ0_charAt_5068e_4 (by decide) (fun c_0 => absurd c_0 (zD_ne zk_1 zk_z (by decide))) (fun _ => ?_)
  refine lv_aload_n hx hb dJ0_charAt_5068e_7 rfl (lv_at hl 0 rfl) ?_
  refine vk_getf hx hb (hZ.1.1 10 (by decide)).2.2.1 hS hown (ht _ hw_8_164) (fun _ h => h) dJ0_charAt_5068e_8 ?_
  refine lv_iload_n hx hb dJ0_charAt_5068e_11 rfl (lv_at hl 1 rfl) ?_
  refine z_cNSi (As := [.ref (av 10), .int (pa0)]) (rest := []) hx hb hml hown ht (xk_J1_charAt_3b067_12 l D q cA ad av t9 F _ _ _ hI (pa0) hpa0) hw_2_205 hmJ1_charAt_3b067 ⟨rfl, rfl⟩ (na := 2) rfl (by decide +kernel) (by decide) hK hP hD hS hA (zSS_c (Rs := zXRs) (t9 := t9) (fun _ _ _ => zXRs_c)) (zSS_w (Rs := zXRs) (t9 := t9) (fun _ _ _ => zXRs_w) hN hsz hS) hl.1 rfl (Nat.le_of_ble_eq_true rfl) ⟨Nat.zero_le _, Nat.zero_le _⟩ dJ0_charAt_5068e_12 (fun r_2 I_2 R_2 J_2 H locs hp_2 hP hD hS _ _ => ?_)
  obtain ⟨hr_2, hu_2⟩ := hp_2
  cases hu_2
  exact z_zret (v := r_2) hx hb hr hlocks hP hD hS (zR_char hr_2) dJ0_charAt_5068e_15 ⟨hr_2, rfl⟩
set_option maxHeartbeats 4000000 in
set_option maxRecDepth 100000 in
theorem xk_X7_isWord_6 (l : Launch) (D : va_G) (q : Nat → Nat) (cA : Nat → ClassId) (ad av : Nat → Nat) (t9 : Nat) (F : Nat → Nat → Int32) (I R : Nat → Nat → Int32) (J : Nat → Nat → Int64) (hI : xInv F (I, R, J))  : zNi (zSS zXRs 81 q ad av t9) l D vwCl (zXtys cA) 81 q (zXd q cA) yX7_isWord cX7_isWord 3 (some .boolean) ({ frames := 4, cells := 0, slots := 0, locals := 85 } : Room) [.ref (q 1), .ref (ad 10)] (I, R, J) (fun r u => (r = nI 1 ∧ u = (I, R, J)) ∨ (r = nI 0 ∧ u = (I, R, J))) := by
  intro sz
  refine z_bodyN (by decide +kernel) (Nat.le_of_ble_eq_true rfl) (fun p e s m below meth c ls hx hb hml hr ht hown hlocks hsz hK hP hD hS hN hl => ?_)
  have hA : ∀ a, s.heap.size ≤ a → zA 81 q sz a := fun a h => Or.inr (hsz ▸ h)
  have hl : lv_has ls 3 [(0, .ref (q 1)), (1, .ref (ad 10))] := hl
  have hZ : zSz zXRs 81 q ad av t9 sz s := hsz ▸ hN
  refine lv_aload_n hx hb dX7_isWord_0 rfl (lv_at hl 0 rfl) ?_
  refine z_get hx hb ht hown hK hP ziX7 rfl 1 (by decide) 4 (by decide) hw_1_42 rfl (v := .int (I 1 4)) rfl dX7_isWord_1 ?_
  refine lv_iconst (v := nI 1) hx hb dX7_isWord_4 (by decide +kernel) ?_
  refine lv_icmp_ne (tgt := 24) hx hb dX7_isWord_5 (by decide) (fun c_1 => ?_) (fun c_1 => ?_)
  · have t_c_1 := z_eqF c_1
    refine lv_iconst (v := nI 0) hx hb dX7_isWord_24 (by decide +kernel) ?_
    exact z_zret (v := nI 0) hx hb hr hlocks hP hD hS (by decide +kernel) dX7_isWord_25 (Or.inr ⟨rfl, rfl⟩)
  · have t_c_1 := z_eqT c_1
    have f_2 : zR 1 1 (I 1 4) := zR_eqx t_c_1 zk_1
    refine lv_aload_n hx hb dX7_isWord_8 rfl (lv_at hl 0 rfl) ?_
    refine z_get hx hb ht hown hK hP ziX7 rfl 1 (by decide) 6 (by decide) hw_1_44 rfl (v := .int (I 1 6)) rfl dX7_isWord_9 ?_
    have f_3 : zR 0 800 (I 1 6) := xI hI 1 6
    refine lv_aload_n hx hb dX7_isWord_12 rfl (lv_at hl 0 rfl) ?_
    refine z_get hx hb ht hown hK hP ziX7 rfl 1 (by decide) 5 (by decide) hw_1_43 rfl (v := .int (I 1 5)) rfl dX7_isWord_13 ?_
    have f_4 : zR 0 800 (I 1 5) := xI hI 1 5
    refine lv_isub hx hb dX7_isWord_16 ?_
    refine lv_topi (fun v_5 ev_5 => ?_)
    have hv_5 : zR (-800) 800 v_5 := ev_5 ▸ zR_sub f_3 f_4 (by decide)
    refine lv_aload_n hx hb dX7_isWord_17 rfl (lv_at hl 1 rfl) ?_
    refine z_cNXi (As := []) (rest := [.int (v_5)]) hx hb hml hown ht (xk_J0_length_8abf5_6 l D q cA ad av t9 F _ _ _ hI ) hw_2_187 hmJ0_length_8abf5 ⟨rfl, rfl⟩ (na := 0) rfl (by decide +kernel) (by decide) (vk_recv hZ.1 (by decide) hS) hK hP hD hS hA (zSS_c (Rs := zXRs) (t9 := t9) (fun _ _ _ => zXRs_c)) (zSS_w (Rs := zXRs) (t9 := t9) (fun _ _ _ => zXRs_w) hN hsz hS) hl.1 rfl (Nat.le_of_ble_eq_true rfl) ⟨Nat.zero_le _, Nat.zero_le _⟩ dX7_isWord_18 (fun r_6 I_6 R_6 J_6 H locs hp_6 hP hD hS _ _ => ?_)
    obtain ⟨rfl, hu_6⟩ := hp_6
    cases hu_6
    refine lv_icmp_eq (tgt := 26) hx hb dX7_isWord_21 (by decide) (fun c_7 => ?_) (fun c_7 => ?_)
    · have t_c_7 := z_eqT c_7
      have f_8 : zR 4 4 (v_5) := zR_eqx t_c_7 zk_4
      have f_9 : zR 0 796 (I 1 5) := z_start f_3 f_4 ev_5 f_8 (by decide)
      refine lv_iconst (v := nI 0) hx hb dX7_isWord_26 (by decide +kernel) ?_
      refine lv_istore_n (lv' := [(2, .int (nI 0)), (0, .ref (q 1)), (1, .ref (ad 10))]) hx hb dX7_isWord_27 rfl hl (by decide) rfl (fun ls hl => ?_)
      have loop_43 : ∀ N : Nat, ∀ x_42 : Int32, zR 0 4 x_42 → (2147483648 - (x_42).toInt).toNat < N → ∀ (H : Heap) (locs : List Loc), va_P D vwCl (zw 81 q (zXd q cA) I R J) H → va_D (zA 81 q sz) (zw 81 q (zXd q cA) I R J) → va_S (zA 81 q sz) s.heap H locs → ∀ ls : Array Slot, lv_has ls 3 [(0, .ref (q 1)), (1, .ref (ad 10)), (2, .int (x_42))] → W p l e ({ frames := 4, cells := 0, slots := 0, locals := 85 } : Room) s m ([.ref (q 1), .ref (ad 10)] : List Value).toArray below meth c H locs 0 0 (MQ below (va_Qi (fun r u => (r = nI 1 ∧ u = (I, R, J)) ∨ (r = nI 0 ∧ u = (I, R, J))) (zB D vwCl 81 q (zXd q cA) sz) (zA 81 q sz)) ([.ref (q 1), .ref (ad 10)] : List Value).toArray s 0 0 (zA 81 q sz)) (F0 m 28 ls []) := by
        intro N
        induction N with
        | zero => intro x_42 hx_42 hN; exact absurd hN (Nat.not_lt_zero _)
        | succ N ih_45 =>
          intro x_42 hx_42 hN_44 H locs hP hD hS ls hl
          refine lv_iload_n hx hb dX7_isWord_28 rfl (lv_at hl 2 rfl) ?_
          refine lv_aload_n hx hb dX7_isWord_29 rfl (lv_at hl 1 rfl) ?_
          refine z_cNXi (As := []) (rest := [.int (x_42)]) hx hb hml hown ht (xk_J0_length_8abf5_6 l D q cA ad av t9 F _ _ _ hI ) hw_2_187 hmJ0_length_8abf5 ⟨rfl, rfl⟩ (na := 0) rfl (by decide +kernel) (by decide) (vk_recv hZ.1 (by decide) hS) hK hP hD hS hA (zSS_c (Rs := zXRs) (t9 := t9) (fun _ _ _ => zXRs_c)) (zSS_w (Rs := zXRs) (t9 := t9) (fun _ _ _ => zXRs_w) hN hsz hS) hl.1 rfl (Nat.le_of_ble_eq_true rfl) ⟨Nat.zero_le _, Nat.zero_le _⟩ dX7_isWord_30 (fun r_46 I_46 R_46 J_46 H locs hp_46 hP hD hS _ _ => ?_)
          obtain ⟨rfl, hu_46⟩ := hp_46
          cases hu_46
          refine lv_icmp_ge (tgt := 63) hx hb dX7_isWord_33 (by decide) (fun c_47 => ?_) (fun c_47 => ?_)
          · have t_c_47 := z_leT c_47
            have f_48 : zR 4 4 (x_42) := zR_ley t_c_47 zk_4 hx_42 (by decide)
            refine lv_iconst (v := nI 1) hx hb dX7_isWord_63 (by decide +kernel) ?_
            exact z_zret (v := nI 1) hx hb hr hlocks hP hD hS (by decide +kernel) dX7_isWord_64 (Or.inl ⟨rfl, rfl⟩)
          · have t_c_47 := z_leF c_47
            have f_49 : zR 0 3 (x_42) := zR_ltx t_c_47 hx_42 zk_4 (by decide)
            refine lv_aload_n hx hb dX7_isWord_36 rfl (lv_at hl 0 rfl) ?_
            refine z_get hx hb ht hown hK hP ziX7 rfl 1 (by decide) 0 (by decide) hw_1_35 rfl (v := .ref (q 2)) rfl dX7_isWord_37 ?_
            refine lv_aload_n hx hb dX7_isWord_40 rfl (lv_at hl 0 rfl) ?_
            refine z_get hx hb ht hown hK hP ziX7 rfl 1 (by decide) 5 (by decide) hw_1_43 rfl (v := .int (I 1 5)) rfl dX7_isWord_41 ?_
            refine lv_iload_n hx hb dX7_isWord_44 rfl (lv_at hl 2 rfl) ?_
            refine lv_iadd hx hb dX7_isWord_45 ?_
            refine z_rng (a := 0) (b := 799) (zR_add f_9 f_49 (by decide)) (fun v_50 hv_50 => ?_)
            refine z_bald hx hb hK hP 2 (by decide) 0 rfl rfl (zR_vin hv_50 (by decide)) dX7_isWord_46 ?_
            refine z_eqi (y := R 2 (v_50).toNatClampNeg) rfl ?_
            refine lv_aload_n hx hb dX7_isWord_47 rfl (lv_at hl 1 rfl) ?_
            refine lv_iload_n hx hb dX7_isWord_48 rfl (lv_at hl 2 rfl) ?_
            refine z_cNXi (As := [.int (x_42)]) (rest := [.int (R 2 (v_50).toNatClampNeg)]) hx hb hml hown ht (xk_J0_charAt_5068e_12 l D q cA ad av t9 F _ _ _ hI (x_42) f_49) hw_2_197 hmJ0_charAt_5068e ⟨rfl, rfl⟩ (na := 1) rfl (by decide +kernel) (by decide) (vk_recv hZ.1 (by decide) hS) hK hP hD hS hA (zSS_c (Rs := zXRs) (t9 := t9) (fun _ _ _ => zXRs_c)) (zSS_w (Rs := zXRs) (t9 := t9) (fun _ _ _ => zXRs_w) hN hsz hS) hl.1 rfl (Nat.le_of_ble_eq_true rfl) ⟨Nat.zero_le _, Nat.zero_le _⟩ dX7_isWord_49 (fun r_51 I_51 R_51 J_51 H locs hp_51 hP hD hS _ _ => ?_)
            obtain ⟨hr_51, hu_51⟩ := hp_51
            cases hu_51
            refine lv_icmp_eq (tgt := 57) hx hb dX7_isWord_52 (by decide) (fun c_52 => ?_) (fun c_52 => ?_)
            · have t_c_52 := z_eqT c_52
              have f_53 : zR 0 65535 (R 2 (v_50).toNatClampNeg) := zR_eqx t_c_52 hr_51
              obtain ⟨v_54, ev_54⟩ : ∃ y : Int32, y = x_42 + nI 1 := ⟨_, rfl⟩
              have hv_54 : zR 1 4 v_54 := ev_54 ▸ zR_add f_49 zk_1 (by decide)
              have mv_54 : v_54.toInt = (x_42).toInt + 1 := by rw [ev_54, zR_addE f_49 zk_1 (by decide)]; rfl
              refine lv_iinc (v := v_54) (lv' := [(2, .int (v_54)), (0, .ref (q 1)), (1, .ref (ad 10))]) hx hb dX7_isWord_57 hl (k := 2) rfl (ev_54 ▸ rfl) (by decide) rfl (fun ls hl => ?_)
              refine lv_goto (tgt := 28) hx hb dX7_isWord_60 (by decide) ?_
              exact ih_45 (v_54) (zR_w hv_54 (by decide)) (z2_up mv_54 (by decide) hN_44) _ _ hP hD hS _ (lv_sub hl [1, 2, 0] rfl)
            · have t_c_52 := z_eqF c_52
              refine lv_iconst (v := nI 0) hx hb dX7_isWord_55 (by decide +kernel) ?_
              exact z_zret (v := nI 0) hx hb hr hlocks hP hD hS (by decide +kernel) dX7_isWord_56 (Or.inr ⟨rfl, rfl⟩)
      exact loop_43 _ (nI 0) (zR_w zk_0 (by decide)) (Nat.lt_succ_self _) _ _ hP hD hS _ (lv_sub hl [1, 2, 0] rfl)
    · have t_c_7 := z_eqF c_7
      refine lv_iconst (v := nI 0) hx hb dX7_isWord_24 (by decide +kernel) ?_
      exact z_zret (v := nI 0) hx hb hr hlocks hP hD hS (by decide +kernel) dX7_isWord_25 (Or.inr ⟨rfl, rfl⟩)
set_option maxHeartbeats 4000000 in
set_option maxRecDepth 100000 in
theorem xk_X7_number_3 (l : Launch) (D : va_G) (q : Nat → Nat) (cA : Nat → ClassId) (F : Nat → Nat → Int32) (I R : Nat → Nat → Int32) (J : Nat → Nat → Int64) (hI : xInv F (I, R, J)) (pa1 : Int32) (hpa1 : zR (-1) 5 pa1) : zMi l D vwCl (zXtys cA) 81 q (zXd q cA) yX7_number cX7_number 4 (some .int) ({ frames := 2, cells := 0, slots := 0, locals := 40 } : Room) [.ref (q 1), .int (nI 0), .int (pa1)] (I, R, J) (fun r u => zR 0 5 r ∧ (xInv F u ∧ (∀ k, k ≠ 1 → u.1 k = I k) ∧ u.2 = (R, J))) := by
  intro sz
  refine z_body (by decide +kernel) (Nat.le_of_ble_eq_true rfl) (fun p e s m below meth c ls hx hb hml hr ht hown hlocks hsz hK hP hD hS hl => ?_)
  have hA : ∀ a, s.heap.size ≤ a → zA 81 q sz a := fun a h => Or.inr (hsz ▸ h)
  have hl : lv_has ls 4 [(0, .ref (q 1)), (1, .int (nI 0)), (2, .int (pa1))] := hl
  refine lv_aload_n hx hb dX7_number_0 rfl (lv_at hl 0 rfl) ?_
  refine z_get hx hb ht hown hK hP ziX7 rfl 1 (by decide) 4 (by decide) hw_1_42 rfl (v := .int (I 1 4)) rfl dX7_number_1 ?_
  refine lv_iconst (v := nI 2) hx hb dX7_number_4 (by decide +kernel) ?_
  refine lv_icmp_eq (tgt := 15) hx hb dX7_number_5 (by decide) (fun c_1 => ?_) (fun c_1 => ?_)
  · have t_c_1 := z_eqT c_1
    have f_2 : zR 2 2 (I 1 4) := zR_eqx t_c_1 zk_2
    refine lv_aload_n hx hb dX7_number_15 rfl (lv_at hl 0 rfl) ?_
    refine z_callVi (k := 1) (As := []) (rest := []) hx hb hml hown ht (xk_X7_told l D q cA F _ _ _ hI ) hw_3_8 hmX7_told ⟨rfl, rfl⟩ (na := 0) rfl (by decide +kernel) (by decide) (by decide) rfl rfl hK hP hD hS hA hl.1 rfl (Nat.le_of_ble_eq_true rfl) ⟨Nat.zero_le _, Nat.zero_le _⟩ dX7_number_16 (fun r_3 I_3 R_3 J_3 H locs hp_3 hP hD hS _ _ => ?_)
    cases hp_3
    refine lv_istore_n (lv' := [(3, .int (r_3)), (0, .ref (q 1)), (1, .int (nI 0)), (2, .int (pa1))]) hx hb dX7_number_19 rfl hl (by decide) rfl (fun ls hl => ?_)
    refine lv_iload_n hx hb dX7_number_20 rfl (lv_at hl 0 rfl) ?_
    refine lv_iload_n hx hb dX7_number_21 rfl (lv_at hl 2 rfl) ?_
    refine lv_icmp_lt (tgt := 30) hx hb dX7_number_22 (by decide) (fun c_4 => ?_) (fun c_4 => ?_)
    · have t_c_4 := z_ltT c_4
      have f_5 : zR (-2147483648) (-1) (r_3) := zR_ltx t_c_4 (zR_any (r_3)) zk_0 (by decide)
      refine lv_aload_n hx hb dX7_number_30 rfl (lv_at hl 1 rfl) ?_
      refine lv_iconst (v := nI 2) hx hb dX7_number_31 (by decide +kernel) ?_
      refine z_callVv (k := 1) (As := [.int (nI 2)]) (rest := []) hx hb hml hown ht (xk_X7_refuse_1 l D q cA F _ _ _ hI (nI 2) (zR_w zk_2 (by decide))) hw_2_239 hmX7_refuse ⟨rfl, rfl⟩ (na := 1) rfl (by decide +kernel) (by decide) (by decide) rfl rfl hK hP hD hS hA hl.1 rfl (Nat.le_of_ble_eq_true rfl) ⟨Nat.zero_le _, Nat.zero_le _⟩ dX7_number_32 (fun I_6 R_6 J_6 H locs hp_6 hP hD hS _ _ => ?_)
      obtain ⟨hv_6, hk_6, hj_6⟩ := hp_6
      dsimp only at hj_6 hk_6
      cases hj_6
      have hf_7 : ∀ k, k ≠ 1 → I_6 k = I k := fun k h => (hk_6 k h).trans ((fun (_ : Nat) _ => rfl) k h)
      refine lv_iconst (v := nI 0) hx hb dX7_number_35 (by decide +kernel) ?_
      exact z_iret (v := nI 0) hx hb hr hlocks hP hD hS dX7_number_36 ⟨(zR_w zk_0 (by decide)), ⟨hv_6, hf_7, rfl⟩⟩
    · have t_c_4 := z_ltF c_4
      have f_8 : zR 0 2147483647 (r_3) := zR_ley t_c_4 zk_0 (zR_any (r_3)) (by decide)
      refine lv_iload_n hx hb dX7_number_25 rfl (lv_at hl 0 rfl) ?_
      refine lv_iload_n hx hb dX7_number_26 rfl (lv_at hl 3 rfl) ?_
      refine lv_icmp_le (tgt := 37) hx hb dX7_number_27 (by decide) (fun c_9 => ?_) (fun c_9 => ?_)
      · have t_c_9 := z_leT c_9
        have f_10 : zR 0 5 (r_3) := zR_lex t_c_9 f_8 hpa1 (by decide)
        have f_11 : zR 0 5 (pa1) := zR_ley t_c_9 f_8 hpa1 (by decide)
        refine lv_aload_n hx hb dX7_number_37 rfl (lv_at hl 1 rfl) ?_
        refine z_callVv (k := 1) (As := []) (rest := []) hx hb hml hown ht (xk_X7_step l D q cA F _ _ _ hI ) hw_2_161 hmX7_step ⟨rfl, rfl⟩ (na := 0) rfl (by decide +kernel) (by decide) (by decide) rfl rfl hK hP hD hS hA hl.1 rfl (Nat.le_of_ble_eq_true rfl) ⟨Nat.zero_le _, Nat.zero_le _⟩ dX7_number_38 (fun I_12 R_12 J_12 H locs hp_12 hP hD hS _ _ => ?_)
        obtain ⟨hv_12, hk_12, hj_12⟩ := hp_12
        dsimp only at hj_12 hk_12
        cases hj_12
        have hf_13 : ∀ k, k ≠ 1 → I_12 k = I k := fun k h => (hk_12 k h).trans ((fun (_ : Nat) _ => rfl) k h)
        refine lv_iload_n hx hb dX7_number_41 rfl (lv_at hl 0 rfl) ?_
        exact z_iret (v := r_3) hx hb hr hlocks hP hD hS dX7_number_42 ⟨f_10, ⟨hv_12, hf_13, rfl⟩⟩
      · have t_c_9 := z_leF c_9
        refine lv_aload_n hx hb dX7_number_30 rfl (lv_at hl 1 rfl) ?_
        refine lv_iconst (v := nI 2) hx hb dX7_number_31 (by decide +kernel) ?_
        refine z_callVv (k := 1) (As := [.int (nI 2)]) (rest := []) hx hb hml hown ht (xk_X7_refuse_1 l D q cA F _ _ _ hI (nI 2) (zR_w zk_2 (by decide))) hw_2_239 hmX7_refuse ⟨rfl, rfl⟩ (na := 1) rfl (by decide +kernel) (by decide) (by decide) rfl rfl hK hP hD hS hA hl.1 rfl (Nat.le_of_ble_eq_true rfl) ⟨Nat.zero_le _, Nat.zero_le _⟩ dX7_number_32 (fun I_14 R_14 J_14 H locs hp_14 hP hD hS _ _ => ?_)
        obtain ⟨hv_14, hk_14, hj_14⟩ := hp_14
        dsimp only at hj_14 hk_14
        cases hj_14
        have hf_15 : ∀ k, k ≠ 1 → I_14 k = I k := fun k h => (hk_14 k h).trans ((fun (_ : Nat) _ => rfl) k h)
        refine lv_iconst (v := nI 0) hx hb dX7_number_35 (by decide +kernel) ?_
        exact z_iret (v := nI 0) hx hb hr hlocks hP hD hS dX7_number_36 ⟨(zR_w zk_0 (by decide)), ⟨hv_14, hf_15, rfl⟩⟩
  · have t_c_1 := z_eqF c_1
    refine lv_aload_n hx hb dX7_number_8 rfl (lv_at hl 0 rfl) ?_
    refine lv_iconst (v := nI 1) hx hb dX7_number_9 (by decide +kernel) ?_
    refine z_callVv (k := 1) (As := [.int (nI 1)]) (rest := []) hx hb hml hown ht (xk_X7_refuse l D q cA F _ _ _ hI (nI 1) (zR_w zk_1 (by decide))) hw_2_239 hmX7_refuse ⟨rfl, rfl⟩ (na := 1) rfl (by decide +kernel) (by decide) (by decide) rfl rfl hK hP hD hS hA hl.1 rfl (Nat.le_of_ble_eq_true rfl) ⟨Nat.zero_le _, Nat.zero_le _⟩ dX7_number_10 (fun I_16 R_16 J_16 H locs hp_16 hP hD hS _ _ => ?_)
    obtain ⟨hv_16, hk_16, hj_16⟩ := hp_16
    dsimp only at hj_16 hk_16
    cases hj_16
    have hf_17 : ∀ k, k ≠ 1 → I_16 k = I k := fun k h => (hk_16 k h).trans ((fun (_ : Nat) _ => rfl) k h)
    refine lv_iconst (v := nI 0) hx hb dX7_number_13 (by decide +kernel) ?_
    exact z_iret (v := nI 0) hx hb hr hlocks hP hD hS dX7_number_14 ⟨(zR_w zk_0 (by decide)), ⟨hv_16, hf_17, rfl⟩⟩
set_option maxHeartbeats 4000000 in
set_option maxRecDepth 100000 in
theorem xk_X7_number_4 (l : Launch) (D : va_G) (q : Nat → Nat) (cA : Nat → ClassId) (F : Nat → Nat → Int32) (I R : Nat → Nat → Int32) (J : Nat → Nat → Int64) (hI : xInv F (I, R, J))  : zMi l D vwCl (zXtys cA) 81 q (zXd q cA) yX7_number cX7_number 4 (some .int) ({ frames := 2, cells := 0, slots := 0, locals := 40 } : Room) [.ref (q 1), .int (nI 1), .int (nI 500)] (I, R, J) (fun r u => zR 0 500 r ∧ (xInv F u ∧ (∀ k, k ≠ 1 → u.1 k = I k) ∧ u.2 = (R, J))) := by
  intro sz
  refine z_body (by decide +kernel) (Nat.le_of_ble_eq_true rfl) (fun p e s m below meth c ls hx hb hml hr ht hown hlocks hsz hK hP hD hS hl => ?_)
  have hA : ∀ a, s.heap.size ≤ a → zA 81 q sz a := fun a h => Or.inr (hsz ▸ h)
  have hl : lv_has ls 4 [(0, .ref (q 1)), (1, .int (nI 1)), (2, .int (nI 500))] := hl
  refine lv_aload_n hx hb dX7_number_0 rfl (lv_at hl 0 rfl) ?_
  refine z_get hx hb ht hown hK hP ziX7 rfl 1 (by decide) 4 (by decide) hw_1_42 rfl (v := .int (I 1 4)) rfl dX7_number_1 ?_
  refine lv_iconst (v := nI 2) hx hb dX7_number_4 (by decide +kernel) ?_
  refine lv_icmp_eq (tgt := 15) hx hb dX7_number_5 (by decide) (fun c_1 => ?_) (fun c_1 => ?_)
  · have t_c_1 := z_eqT c_1
    have f_2 : zR 2 2 (I 1 4) := zR_eqx t_c_1 zk_2
    refine lv_aload_n hx hb dX7_number_15 rfl (lv_at hl 0 rfl) ?_
    refine z_callVi (k := 1) (As := []) (rest := []) hx hb hml hown ht (xk_X7_told l D q cA F _ _ _ hI ) hw_3_8 hmX7_told ⟨rfl, rfl⟩ (na := 0) rfl (by decide +kernel) (by decide) (by decide) rfl rfl hK hP hD hS hA hl.1 rfl (Nat.le_of_ble_eq_true rfl) ⟨Nat.zero_le _, Nat.zero_le _⟩ dX7_number_16 (fun r_3 I_3 R_3 J_3 H locs hp_3 hP hD hS _ _ => ?_)
    cases hp_3
    refine lv_istore_n (lv' := [(3, .int (r_3)), (0, .ref (q 1)), (1, .int (nI 1)), (2, .int (nI 500))]) hx hb dX7_number_19 rfl hl (by decide) rfl (fun ls hl => ?_)
    refine lv_iload_n hx hb dX7_number_20 rfl (lv_at hl 0 rfl) ?_
    refine lv_iload_n hx hb dX7_number_21 rfl (lv_at hl 2 rfl) ?_
    refine lv_icmp_lt (tgt := 30) hx hb dX7_number_22 (by decide) (fun c_4 => ?_) (fun c_4 => ?_)
    · have t_c_4 := z_ltT c_4
      have f_5 : zR (-2147483648) 0 (r_3) := zR_ltx t_c_4 (zR_any (r_3)) zk_1 (by decide)
      refine lv_aload_n hx hb dX7_number_30 rfl (lv_at hl 1 rfl) ?_
      refine lv_iconst (v := nI 2) hx hb dX7_number_31 (by decide +kernel) ?_
      refine z_callVv (k := 1) (As := [.int (nI 2)]) (rest := []) hx hb hml hown ht (xk_X7_refuse_1 l D q cA F _ _ _ hI (nI 2) (zR_w zk_2 (by decide))) hw_2_239 hmX7_refuse ⟨rfl, rfl⟩ (na := 1) rfl (by decide +kernel) (by decide) (by decide) rfl rfl hK hP hD hS hA hl.1 rfl (Nat.le_of_ble_eq_true rfl) ⟨Nat.zero_le _, Nat.zero_le _⟩ dX7_number_32 (fun I_6 R_6 J_6 H locs hp_6 hP hD hS _ _ => ?_)
      obtain ⟨hv_6, hk_6, hj_6⟩ := hp_6
      dsimp only at hj_6 hk_6
      cases hj_6
      have hf_7 : ∀ k, k ≠ 1 → I_6 k = I k := fun k h => (hk_6 k h).trans ((fun (_ : Nat) _ => rfl) k h)
      refine lv_iconst (v := nI 0) hx hb dX7_number_35 (by decide +kernel) ?_
      exact z_iret (v := nI 0) hx hb hr hlocks hP hD hS dX7_number_36 ⟨(zR_w zk_0 (by decide)), ⟨hv_6, hf_7, rfl⟩⟩
    · have t_c_4 := z_ltF c_4
      have f_8 : zR 1 2147483647 (r_3) := zR_ley t_c_4 zk_1 (zR_any (r_3)) (by decide)
      refine lv_iload_n hx hb dX7_number_25 rfl (lv_at hl 0 rfl) ?_
      refine lv_iload_n hx hb dX7_number_26 rfl (lv_at hl 3 rfl) ?_
      refine lv_icmp_le (tgt := 37) hx hb dX7_number_27 (by decide) (fun c_9 => ?_) (fun c_9 => ?_)
      · have t_c_9 := z_leT c_9
        have f_10 : zR 1 500 (r_3) := zR_lex t_c_9 f_8 zk_500 (by decide)
        refine lv_aload_n hx hb dX7_number_37 rfl (lv_at hl 1 rfl) ?_
        refine z_callVv (k := 1) (As := []) (rest := []) hx hb hml hown ht (xk_X7_step l D q cA F _ _ _ hI ) hw_2_161 hmX7_step ⟨rfl, rfl⟩ (na := 0) rfl (by decide +kernel) (by decide) (by decide) rfl rfl hK hP hD hS hA hl.1 rfl (Nat.le_of_ble_eq_true rfl) ⟨Nat.zero_le _, Nat.zero_le _⟩ dX7_number_38 (fun I_11 R_11 J_11 H locs hp_11 hP hD hS _ _ => ?_)
        obtain ⟨hv_11, hk_11, hj_11⟩ := hp_11
        dsimp only at hj_11 hk_11
        cases hj_11
        have hf_12 : ∀ k, k ≠ 1 → I_11 k = I k := fun k h => (hk_11 k h).trans ((fun (_ : Nat) _ => rfl) k h)
        refine lv_iload_n hx hb dX7_number_41 rfl (lv_at hl 0 rfl) ?_
        exact z_iret (v := r_3) hx hb hr hlocks hP hD hS dX7_number_42 ⟨(zR_w f_10 (by decide)), ⟨hv_11, hf_12, rfl⟩⟩
      · have t_c_9 := z_leF c_9
        have f_13 : zR 501 2147483647 (r_3) := zR_lty t_c_9 zk_500 f_8 (by decide)
        refine lv_aload_n hx hb dX7_number_30 rfl (lv_at hl 1 rfl) ?_
        refine lv_iconst (v := nI 2) hx hb dX7_number_31 (by decide +kernel) ?_
        refine z_callVv (k := 1) (As := [.int (nI 2)]) (rest := []) hx hb hml hown ht (xk_X7_refuse_1 l D q cA F _ _ _ hI (nI 2) (zR_w zk_2 (by decide))) hw_2_239 hmX7_refuse ⟨rfl, rfl⟩ (na := 1) rfl (by decide +kernel) (by decide) (by decide) rfl rfl hK hP hD hS hA hl.1 rfl (Nat.le_of_ble_eq_true rfl) ⟨Nat.zero_le _, Nat.zero_le _⟩ dX7_number_32 (fun I_14 R_14 J_14 H locs hp_14 hP hD hS _ _ => ?_)
        obtain ⟨hv_14, hk_14, hj_14⟩ := hp_14
        dsimp only at hj_14 hk_14
        cases hj_14
        have hf_15 : ∀ k, k ≠ 1 → I_14 k = I k := fun k h => (hk_14 k h).trans ((fun (_ : Nat) _ => rfl) k h)
        refine lv_iconst (v := nI 0) hx hb dX7_number_35 (by decide +kernel) ?_
        exact z_iret (v := nI 0) hx hb hr hlocks hP hD hS dX7_number_36 ⟨(zR_w zk_0 (by decide)), ⟨hv_14, hf_15, rfl⟩⟩
  · have t_c_1 := z_eqF c_1
    refine lv_aload_n hx hb dX7_number_8 rfl (lv_at hl 0 rfl) ?_
    refine lv_iconst (v := nI 1) hx hb dX7_number_9 (by decide +kernel) ?_
    refine z_callVv (k := 1) (As := [.int (nI 1)]) (rest := []) hx hb hml hown ht (xk_X7_refuse l D q cA F _ _ _ hI (nI 1) (zR_w zk_1 (by decide))) hw_2_239 hmX7_refuse ⟨rfl, rfl⟩ (na := 1) rfl (by decide +kernel) (by decide) (by decide) rfl rfl hK hP hD hS hA hl.1 rfl (Nat.le_of_ble_eq_true rfl) ⟨Nat.zero_le _, Nat.zero_le _⟩ dX7_number_10 (fun I_16 R_16 J_16 H locs hp_16 hP hD hS _ _ => ?_)
    obtain ⟨hv_16, hk_16, hj_16⟩ := hp_16
    dsimp only at hj_16 hk_16
    cases hj_16
    have hf_17 : ∀ k, k ≠ 1 → I_16 k = I k := fun k h => (hk_16 k h).trans ((fun (_ : Nat) _ => rfl) k h)
    refine lv_iconst (v := nI 0) hx hb dX7_number_13 (by decide +kernel) ?_
    exact z_iret (v := nI 0) hx hb hr hlocks hP hD hS dX7_number_14 ⟨(zR_w zk_0 (by decide)), ⟨hv_16, hf_17, rfl⟩⟩
set_option maxHeartbeats 4000000 in
set_option maxRecDepth 100000 in
theorem xk_X2_setMore (l : Launch) (D : va_G) (q : Nat → Nat) (cA : Nat → ClassId) (F : Nat → Nat → Int32) (I R : Nat → Nat → Int32) (J : Nat → Nat → Int64) (hI : xInv F (I, R, J)) (pa0 : Int32) (hpa0 : zR 0 4 pa0) (pa1 : Int32) (hpa1 : zR 0 5 pa1) (pa2 : Int32) (hpa2 : zR 0 999 pa2) : zMv l D vwCl (zXtys cA) 81 q (zXd q cA) yX2_setMore cX2_setMore 4 none ({ frames := 0, cells := 0, slots := 0, locals := 0 } : Room) [.ref (q 8), .int (pa0), .int (pa1), .int (pa2)] (I, R, J) (fun u => xInv F u) := by
  intro sz
  refine z_body (by decide +kernel) (Nat.le_of_ble_eq_true rfl) (fun p e s m below meth c ls hx hb hml hr ht hown hlocks hsz hK hP hD hS hl => ?_)
  have hA : ∀ a, s.heap.size ≤ a → zA 81 q sz a := fun a h => Or.inr (hsz ▸ h)
  have hl : lv_has ls 4 [(0, .ref (q 8)), (1, .int (pa0)), (2, .int (pa1)), (3, .int (pa2))] := hl
  refine lv_aload_n hx hb dX2_setMore_0 rfl (lv_at hl 0 rfl) ?_
  refine z_get hx hb ht hown hK hP ziX2 rfl 8 (by decide) 10 (by decide) hw_1_109 rfl (v := .ref (q 12)) rfl dX2_setMore_1 ?_
  refine lv_iload_n hx hb dX2_setMore_4 rfl (lv_at hl 1 rfl) ?_
  refine lv_bipush (v := nI 6) hx hb dX2_setMore_5 (by decide +kernel) ?_
  refine lv_imul hx hb dX2_setMore_7 ?_
  refine z_rng (a := 0) (b := 24) (zR_mul hpa0 zk_6 (by decide)) (fun v_1 hv_1 => ?_)
  refine lv_iload_n hx hb dX2_setMore_8 rfl (lv_at hl 2 rfl) ?_
  refine lv_iadd hx hb dX2_setMore_9 ?_
  refine z_rng (a := 0) (b := 29) (zR_add hv_1 hpa1 (by decide)) (fun v_2 hv_2 => ?_)
  refine lv_iload_n hx hb dX2_setMore_10 rfl (lv_at hl 3 rfl) ?_
  refine z_iast hx hb hK hP hD hS 12 (by decide) 8 (fun _ => rfl) rfl (zR_vin hv_2 (by decide)) dX2_setMore_11 (fun H locs hP hD hS => ?_)
  have hI_3 := xInv_R hI 12 (v_2).toNatClampNeg (pa2) (zR_any _) rfl
  exact z_vret hx hb hr hlocks hP hD hS dX2_setMore_12 hI_3
set_option maxHeartbeats 4000000 in
set_option maxRecDepth 100000 in
theorem xk_X7_readWant (l : Launch) (D : va_G) (q : Nat → Nat) (cA : Nat → ClassId) (F : Nat → Nat → Int32) (I R : Nat → Nat → Int32) (J : Nat → Nat → Int64) (hI : xInv F (I, R, J))  : zMv l D vwCl (zXtys cA) 81 q (zXd q cA) yX7_readWant cX7_readWant 5 none ({ frames := 3, cells := 0, slots := 0, locals := 63 } : Room) [.ref (q 1), .ref (q 8)] (I, R, J) (fun u => xInv F u) := by
  intro sz
  refine z_body (by decide +kernel) (Nat.le_of_ble_eq_true rfl) (fun p e s m below meth c ls hx hb hml hr ht hown hlocks hsz hK hP hD hS hl => ?_)
  have hA : ∀ a, s.heap.size ≤ a → zA 81 q sz a := fun a h => Or.inr (hsz ▸ h)
  have hl : lv_has ls 5 [(0, .ref (q 1)), (1, .ref (q 8))] := hl
  refine lv_aload_n hx hb dX7_readWant_0 rfl (lv_at hl 0 rfl) ?_
  refine z_callVv (k := 1) (As := []) (rest := []) hx hb hml hown ht (xk_X7_step l D q cA F _ _ _ hI ) hw_2_161 hmX7_step ⟨rfl, rfl⟩ (na := 0) rfl (by decide +kernel) (by decide) (by decide) rfl rfl hK hP hD hS hA hl.1 rfl (Nat.le_of_ble_eq_true rfl) ⟨Nat.zero_le _, Nat.zero_le _⟩ dX7_readWant_1 (fun I_1 R_1 J_1 H locs hp_1 hP hD hS _ _ => ?_)
  obtain ⟨hv_1, hk_1, hj_1⟩ := hp_1
  dsimp only at hj_1 hk_1
  cases hj_1
  refine lv_aload_n hx hb dX7_readWant_4 rfl (lv_at hl 0 rfl) ?_
  refine lv_iconst (v := nI 0) hx hb dX7_readWant_5 (by decide +kernel) ?_
  refine lv_aload_n hx hb dX7_readWant_6 rfl (lv_at hl 1 rfl) ?_
  refine z_get hx hb ht hown hK hP ziX2 rfl 8 (by decide) 4 (by decide) hw_1_84 rfl (v := .int (I_1 8 4)) rfl dX7_readWant_7 ?_
  refine z_eqi (y := I 8 4) (congrFun (hk_1 8 (by decide)) 4) ?_
  have f_2 : zR 0 5 (I 8 4) := xI hI 8 4
  refine lv_iconst (v := nI 1) hx hb dX7_readWant_10 (by decide +kernel) ?_
  refine lv_isub hx hb dX7_readWant_11 ?_
  refine z_subc (-1) 4 (-1) f_2 zk_1 (by decide) (fun v_3 hv_3 mv_3 => ?_)
  refine z_callVi (k := 1) (As := [.int (nI 0), .int (v_3)]) (rest := []) hx hb hml hown ht (xk_X7_number_1 l D q cA F _ _ _ hv_1 (v_3) hv_3) hw_3_4 hmX7_number ⟨rfl, rfl⟩ (na := 2) rfl (by decide +kernel) (by decide) (by decide) rfl rfl hK hP hD hS hA hl.1 rfl (Nat.le_of_ble_eq_true rfl) ⟨Nat.zero_le _, Nat.zero_le _⟩ dX7_readWant_12 (fun r_4 I_4 R_4 J_4 H locs hp_4 hP hD hS _ _ => ?_)
  obtain ⟨hr_4, hu_4⟩ := hp_4
  obtain ⟨hv_4, hk_4, hj_4⟩ := hu_4
  dsimp only at hj_4 hk_4
  cases hj_4
  refine lv_istore_n (lv' := [(2, .int (r_4)), (0, .ref (q 1)), (1, .ref (q 8))]) hx hb dX7_readWant_15 rfl hl (by decide) rfl (fun ls hl => ?_)
  refine lv_aload_n hx hb dX7_readWant_16 rfl (lv_at hl 1 rfl) ?_
  refine lv_iconst (v := nI 0) hx hb dX7_readWant_17 (by decide +kernel) ?_
  refine lv_aload_n hx hb dX7_readWant_18 rfl (lv_at hl 2 rfl) ?_
  refine z_get hx hb ht hown hK hP ziX2 rfl 8 (by decide) 5 (by decide) hw_1_91 rfl (v := .int (I_4 8 5)) rfl dX7_readWant_19 ?_
  refine z_eqi (y := I 8 5) ((congrFun (hk_4 8 (by decide)) 5).trans (congrFun (hk_1 8 (by decide)) 5)) ?_
  have f_5 : zR 0 6 (I 8 5) := xI hI 8 5
  refine lv_iconst (v := nI 1) hx hb dX7_readWant_22 (by decide +kernel) ?_
  refine lv_isub hx hb dX7_readWant_23 ?_
  refine z_subc (-1) 5 (-1) f_5 zk_1 (by decide) (fun v_6 hv_6 mv_6 => ?_)
  refine z_callVi (k := 1) (As := [.int (nI 0), .int (v_6)]) (rest := []) hx hb hml hown ht (xk_X7_number_3 l D q cA F _ _ _ hv_4 (v_6) hv_6) hw_3_4 hmX7_number ⟨rfl, rfl⟩ (na := 2) rfl (by decide +kernel) (by decide) (by decide) rfl rfl hK hP hD hS hA hl.1 rfl (Nat.le_of_ble_eq_true rfl) ⟨Nat.zero_le _, Nat.zero_le _⟩ dX7_readWant_24 (fun r_7 I_7 R_7 J_7 H locs hp_7 hP hD hS _ _ => ?_)
  obtain ⟨hr_7, hu_7⟩ := hp_7
  obtain ⟨hv_7, hk_7, hj_7⟩ := hu_7
  dsimp only at hj_7 hk_7
  cases hj_7
  refine lv_istore_n (lv' := [(3, .int (r_7)), (2, .int (r_4)), (0, .ref (q 1)), (1, .ref (q 8))]) hx hb dX7_readWant_27 rfl hl (by decide) rfl (fun ls hl => ?_)
  refine lv_aload_n hx hb dX7_readWant_28 rfl (lv_at hl 2 rfl) ?_
  refine lv_iconst (v := nI 1) hx hb dX7_readWant_29 (by decide +kernel) ?_
  refine lv_sipush (v := nI 500) hx hb dX7_readWant_30 (by decide +kernel) ?_
  refine z_callVi (k := 1) (As := [.int (nI 1), .int (nI 500)]) (rest := []) hx hb hml hown ht (xk_X7_number_4 l D q cA F _ _ _ hv_7 ) hw_3_4 hmX7_number ⟨rfl, rfl⟩ (na := 2) rfl (by decide +kernel) (by decide) (by decide) rfl rfl hK hP hD hS hA hl.1 rfl (Nat.le_of_ble_eq_true rfl) ⟨Nat.zero_le _, Nat.zero_le _⟩ dX7_readWant_33 (fun r_8 I_8 R_8 J_8 H locs hp_8 hP hD hS _ _ => ?_)
  obtain ⟨hr_8, hu_8⟩ := hp_8
  obtain ⟨hv_8, hk_8, hj_8⟩ := hu_8
  dsimp only at hj_8 hk_8
  cases hj_8
  refine lv_istore (lv' := [(4, .int (r_8)), (3, .int (r_7)), (2, .int (r_4)), (0, .ref (q 1)), (1, .ref (q 8))]) hx hb dX7_readWant_36 hl (by decide) rfl (fun ls hl => ?_)
  refine lv_aload_n hx hb dX7_readWant_38 rfl (lv_at hl 3 rfl) ?_
  refine z_get hx hb ht hown hK hP ziX7 rfl 1 (by decide) 2 (by decide) hw_1_38 rfl (v := .int (I_8 1 2)) rfl dX7_readWant_39 ?_
  refine lv_if_ne (tgt := 53) hx hb dX7_readWant_42 (by decide) (fun c_9 => ?_) (fun c_9 => ?_)
  · have t_c_9 := z_eqF c_9
    exact z_vret hx hb hr hlocks hP hD hS dX7_readWant_53 hv_8
  · have t_c_9 := z_eqT c_9
    have f_10 : zR 0 0 (I_8 1 2) := zR_eqx t_c_9 zk_z
    refine lv_aload_n hx hb dX7_readWant_45 rfl (lv_at hl 4 rfl) ?_
    refine lv_iload_n hx hb dX7_readWant_46 rfl (lv_at hl 2 rfl) ?_
    refine lv_iload_n hx hb dX7_readWant_47 rfl (lv_at hl 1 rfl) ?_
    refine lv_iload hx hb dX7_readWant_48 (lv_at hl 0 rfl) ?_
    refine z_callVv (k := 8) (As := [.int (r_4), .int (r_7), .int (r_8)]) (rest := []) hx hb hml hown ht (xk_X2_setMore l D q cA F _ _ _ hv_8 (r_4) hr_4 (r_7) hr_7 (r_8) (zR_w hr_8 (by decide))) hw_3_34 hmX2_setMore ⟨rfl, rfl⟩ (na := 3) rfl (by decide +kernel) (by decide) (by decide) rfl rfl hK hP hD hS hA hl.1 rfl (Nat.le_of_ble_eq_true rfl) ⟨Nat.zero_le _, Nat.zero_le _⟩ dX7_readWant_50 (fun I_11 R_11 J_11 H locs hp_11 hP hD hS _ _ => ?_)
    exact z_vret hx hb hr hlocks hP hD hS dX7_readWant_53 hp_11
set_option maxHeartbeats 4000000 in
set_option maxRecDepth 100000 in
theorem xk_J0_coder_7d493_7 (l : Launch) (D : va_G) (q : Nat → Nat) (cA : Nat → ClassId) (ad av : Nat → Nat) (t9 : Nat) (F : Nat → Nat → Int32) (I R : Nat → Nat → Int32) (J : Nat → Nat → Int64) (hI : xInv F (I, R, J))  : zNi (zSS zXRs 81 q ad av t9) l D vwCl (zXtys cA) 81 q (zXd q cA) yJ0_coder_7d493 cJ0_coder_7d493 1 (some .byte) ({ frames := 0, cells := 0, slots := 0, locals := 0 } : Room) [.ref (ad 0)] (I, R, J) (fun r u => r = nI 0 ∧ u = (I, R, J)) := by
  intro sz
  refine z_bodyN (by decide +kernel) (Nat.le_of_ble_eq_true rfl) (fun p e s m below meth c ls hx hb hml hr ht hown hlocks hsz hK hP hD hS hN hl => ?_)
  have hA : ∀ a, s.heap.size ≤ a → zA 81 q sz a := fun a h => Or.inr (hsz ▸ h)
  have hl : lv_has ls 1 [(0, .ref (ad 0))] := hl
  have hZ : zSz zXRs 81 q ad av t9 sz s := hsz ▸ hN
  refine va_gets hx hb hZ.2.1 hS hown (ht _ hw_2_195) (fun _ h => h) dJ0_coder_7d493_0 ?_
  refine z_eqi (y := nI 1) rfl ?_
  refine lv_if_eq (tgt := 13) hx hb dJ0_coder_7d493_3 (by decide) (fun c_0 => absurd c_0 (zD_ne zk_1 zk_z (by decide))) (fun _ => ?_)
  refine lv_aload_n hx hb dJ0_coder_7d493_6 rfl (lv_at hl 0 rfl) ?_
  refine vk_getf hx hb (hZ.1.1 0 (by decide)).2.1 hS hown (ht _ hw_8_165) (fun _ h => h) dJ0_coder_7d493_7 ?_
  refine z_eqi (y := nI 0) rfl ?_
  refine lv_goto (tgt := 14) hx hb dJ0_coder_7d493_10 (by decide) ?_
  exact z_zret (v := nI 0) hx hb hr hlocks hP hD hS (by decide +kernel) dJ0_coder_7d493_14 ⟨rfl, rfl⟩
set_option maxHeartbeats 4000000 in
set_option maxRecDepth 100000 in
theorem xk_J0_length_8abf5_7 (l : Launch) (D : va_G) (q : Nat → Nat) (cA : Nat → ClassId) (ad av : Nat → Nat) (t9 : Nat) (F : Nat → Nat → Int32) (I R : Nat → Nat → Int32) (J : Nat → Nat → Int64) (hI : xInv F (I, R, J))  : zNi (zSS zXRs 81 q ad av t9) l D vwCl (zXtys cA) 81 q (zXd q cA) yJ0_length_8abf5 cJ0_length_8abf5 1 (some .int) ({ frames := 1, cells := 0, slots := 0, locals := 20 } : Room) [.ref (ad 0)] (I, R, J) (fun r u => r = nI 4 ∧ u = (I, R, J)) := by
  intro sz
  refine z_bodyN (by decide +kernel) (Nat.le_of_ble_eq_true rfl) (fun p e s m below meth c ls hx hb hml hr ht hown hlocks hsz hK hP hD hS hN hl => ?_)
  have hA : ∀ a, s.heap.size ≤ a → zA 81 q sz a := fun a h => Or.inr (hsz ▸ h)
  have hl : lv_has ls 1 [(0, .ref (ad 0))] := hl
  have hZ : zSz zXRs 81 q ad av t9 sz s := hsz ▸ hN
  refine lv_aload_n hx hb dJ0_length_8abf5_0 rfl (lv_at hl 0 rfl) ?_
  refine vk_getf hx hb (hZ.1.1 0 (by decide)).2.2.1 hS hown (ht _ hw_8_164) (fun _ h => h) dJ0_length_8abf5_1 ?_
  refine va_tlen hx hb (hZ.1.1 0 (by decide)).2.2.2 hS (v := nI 4) rfl dJ0_length_8abf5_4 ?_
  refine lv_aload_n hx hb dJ0_length_8abf5_5 rfl (lv_at hl 0 rfl) ?_
  refine z_cNXi (As := []) (rest := [.int (nI 4)]) hx hb hml hown ht (xk_J0_coder_7d493_7 l D q cA ad av t9 F _ _ _ hI ) hw_2_191 hmJ0_coder_7d493 ⟨rfl, rfl⟩ (na := 0) rfl (by decide +kernel) (by decide) (vk_recv hZ.1 (by decide) hS) hK hP hD hS hA (zSS_c (Rs := zXRs) (t9 := t9) (fun _ _ _ => zXRs_c)) (zSS_w (Rs := zXRs) (t9 := t9) (fun _ _ _ => zXRs_w) hN hsz hS) hl.1 rfl (Nat.le_of_ble_eq_true rfl) ⟨Nat.zero_le _, Nat.zero_le _⟩ dJ0_length_8abf5_6 (fun r_1 I_1 R_1 J_1 H locs hp_1 hP hD hS _ _ => ?_)
  obtain ⟨rfl, hu_1⟩ := hp_1
  cases hu_1
  refine lv_ishr hx hb dJ0_length_8abf5_9 ?_
  refine z_eqi (y := nI 4) (by decide +kernel) ?_
  exact z_iret (v := nI 4) hx hb hr hlocks hP hD hS dJ0_length_8abf5_10 ⟨rfl, rfl⟩
set_option maxHeartbeats 4000000 in
set_option maxRecDepth 100000 in
theorem xk_J0_isLatin1_aae02_7 (l : Launch) (D : va_G) (q : Nat → Nat) (cA : Nat → ClassId) (ad av : Nat → Nat) (t9 : Nat) (F : Nat → Nat → Int32) (I R : Nat → Nat → Int32) (J : Nat → Nat → Int64) (hI : xInv F (I, R, J))  : zNi (zSS zXRs 81 q ad av t9) l D vwCl (zXtys cA) 81 q (zXd q cA) yJ0_isLatin1_aae02 cJ0_isLatin1_aae02 1 (some .boolean) ({ frames := 0, cells := 0, slots := 0, locals := 0 } : Room) [.ref (ad 0)] (I, R, J) (fun r u => (r = nI 1 ∧ u = (I, R, J))) := by
  intro sz
  refine z_bodyN (by decide +kernel) (Nat.le_of_ble_eq_true rfl) (fun p e s m below meth c ls hx hb hml hr ht hown hlocks hsz hK hP hD hS hN hl => ?_)
  have hA : ∀ a, s.heap.size ≤ a → zA 81 q sz a := fun a h => Or.inr (hsz ▸ h)
  have hl : lv_has ls 1 [(0, .ref (ad 0))] := hl
  have hZ : zSz zXRs 81 q ad av t9 sz s := hsz ▸ hN
  refine va_gets hx hb hZ.2.1 hS hown (ht _ hw_2_195) (fun _ h => h) dJ0_isLatin1_aae02_0 ?_
  refine z_eqi (y := nI 1) rfl ?_
  refine lv_if_eq (tgt := 17) hx hb dJ0_isLatin1_aae02_3 (by decide) (fun c_0 => absurd c_0 (zD_ne zk_1 zk_z (by decide))) (fun _ => ?_)
  refine lv_aload_n hx hb dJ0_isLatin1_aae02_6 rfl (lv_at hl 0 rfl) ?_
  refine vk_getf hx hb (hZ.1.1 0 (by decide)).2.1 hS hown (ht _ hw_8_165) (fun _ h => h) dJ0_isLatin1_aae02_7 ?_
  refine z_eqi (y := nI 0) rfl ?_
  refine lv_if_ne (tgt := 17) hx hb dJ0_isLatin1_aae02_10 (by decide) (fun c_0 => absurd (zD_eq zk_0 zk_z) c_0) (fun _ => ?_)
  refine lv_iconst (v := nI 1) hx hb dJ0_isLatin1_aae02_13 (by decide +kernel) ?_
  refine lv_goto (tgt := 18) hx hb dJ0_isLatin1_aae02_14 (by decide) ?_
  exact z_zret (v := nI 1) hx hb hr hlocks hP hD hS (by decide +kernel) dJ0_isLatin1_aae02_18 ⟨rfl, rfl⟩
set_option maxHeartbeats 4000000 in
set_option maxRecDepth 100000 in
theorem xk_J1_charAt_3b067_14 (l : Launch) (D : va_G) (q : Nat → Nat) (cA : Nat → ClassId) (ad av : Nat → Nat) (t9 : Nat) (F : Nat → Nat → Int32) (I R : Nat → Nat → Int32) (J : Nat → Nat → Int64) (hI : xInv F (I, R, J)) (pa1 : Int32) (hpa1 : zR 0 3 pa1) : zNi (zSS zXRs 81 q ad av t9) l D vwCl (zXtys cA) 81 q (zXd q cA) yJ1_charAt_3b067 cJ1_charAt_3b067 2 (some .char) ({ frames := 2, cells := 0, slots := 0, locals := 43 } : Room) [.ref (av 0), .int (pa1)] (I, R, J) (fun r u => zR 0 65535 r ∧ u = (I, R, J)) := by
  intro sz
  refine z_bodyN (by decide +kernel) (Nat.le_of_ble_eq_true rfl) (fun p e s m below meth c ls hx hb hml hr ht hown hlocks hsz hK hP hD hS hN hl => ?_)
  have hA : ∀ a, s.heap.size ≤ a → zA 81 q sz a := fun a h => Or.inr (hsz ▸ h)
  have hl : lv_has ls 2 [(0, .ref (av 0)), (1, .int (pa1))] := hl
  have hZ : zSz zXRs 81 q ad av t9 sz s := hsz ▸ hN
  refine lv_iload_n hx hb dJ1_charAt_3b067_0 rfl (lv_at hl 1 rfl) ?_
  refine lv_aload_n hx hb dJ1_charAt_3b067_1 rfl (lv_at hl 0 rfl) ?_
  refine va_tlen hx hb (hZ.1.1 0 (by decide)).2.2.2 hS (v := nI 4) rfl dJ1_charAt_3b067_2 ?_
  refine z_cNSv (As := [.int (pa1), .int (nI 4)]) (rest := []) hx hb hml hown ht (xk_J0_checkIndex_df160_6 l D q cA ad av t9 F _ _ _ hI (pa1) hpa1) hw_2_208 hmJ0_checkIndex_df160 ⟨rfl, rfl⟩ (na := 2) rfl (by decide +kernel) (by decide) hK hP hD hS hA (zSS_c (Rs := zXRs) (t9 := t9) (fun _ _ _ => zXRs_c)) (zSS_w (Rs := zXRs) (t9 := t9) (fun _ _ _ => zXRs_w) hN hsz hS) hl.1 rfl (Nat.le_of_ble_eq_true rfl) ⟨Nat.zero_le _, Nat.zero_le _⟩ dJ1_charAt_3b067_3 (fun I_1 R_1 J_1 H locs hp_1 hP hD hS _ _ => ?_)
  cases hp_1
  refine lv_aload_n hx hb dJ1_charAt_3b067_6 rfl (lv_at hl 0 rfl) ?_
  refine lv_iload_n hx hb dJ1_charAt_3b067_7 rfl (lv_at hl 1 rfl) ?_
  refine va_tb hx hb (hZ.1.1 0 (by decide)).2.2.2 hS (zR_vin hpa1 (by decide)) rfl dJ1_charAt_3b067_8 ?_
  refine z_any (fun v_2 => ?_)
  refine lv_sipush (v := nI 255) hx hb dJ1_charAt_3b067_9 (by decide +kernel) ?_
  refine lv_iand hx hb dJ1_charAt_3b067_12 ?_
  refine z_rng (a := 0) (b := 255) (zR_andr zk_255 (by decide)) (fun v_3 hv_3 => ?_)
  refine lv_i2c hx hb dJ1_charAt_3b067_13 rfl ?_
  refine z_rng (a := 0) (b := 65535) (zR_i2c _) (fun v_4 hv_4 => ?_)
  exact z_zret (v := v_4) hx hb hr hlocks hP hD hS (zR_char hv_4) dJ1_charAt_3b067_14 ⟨hv_4, rfl⟩
set_option maxHeartbeats 4000000 in
set_option maxRecDepth 100000 in
theorem xk_J0_charAt_5068e_14 (l : Launch) (D : va_G) (q : Nat → Nat) (cA : Nat → ClassId) (ad av : Nat → Nat) (t9 : Nat) (F : Nat → Nat → Int32) (I R : Nat → Nat → Int32) (J : Nat → Nat → Int64) (hI : xInv F (I, R, J)) (pa0 : Int32) (hpa0 : zR 0 3 pa0) : zNi (zSS zXRs 81 q ad av t9) l D vwCl (zXtys cA) 81 q (zXd q cA) yJ0_charAt_5068e cJ0_charAt_5068e 2 (some .char) ({ frames := 3, cells := 0, slots := 0, locals := 64 } : Room) [.ref (ad 0), .int (pa0)] (I, R, J) (fun r u => zR 0 65535 r ∧ u = (I, R, J)) := by
  intro sz
  refine z_bodyN (by decide +kernel) (Nat.le_of_ble_eq_true rfl) (fun p e s m below meth c ls hx hb hml hr ht hown hlocks hsz hK hP hD hS hN hl => ?_)
  have hA : ∀ a, s.heap.size ≤ a → zA 81 q sz a := fun a h => Or.inr (hsz ▸ h)
  have hl : lv_has ls 2 [(0, .ref (ad 0)), (1, .int (pa0))] := hl
  have hZ : zSz zXRs 81 q ad av t9 sz s := hsz ▸ hN
  refine lv_aload_n hx hb dJ0_charAt_5068e_0 rfl (lv_at hl 0 rfl) ?_
  refine z_cNXi (As := []) (rest := []) hx hb hml hown ht (xk_J0_isLatin1_aae02_7 l D q cA ad av t9 F _ _ _ hI ) hw_2_201 hmJ0_isLatin1_aae02 ⟨rfl, rfl⟩ (na := 0) rfl (by decide +kernel) (by decide) (vk_recv hZ.1 (by decide) hS) hK hP hD hS hA (zSS_c (Rs := zXRs) (t9 := t9) (fun _ _ _ => zXRs_c)) (zSS_w (Rs := zXRs) (t9 := t9) (fun _ _ _ => zXRs_w) hN hsz hS) hl.1 rfl (Nat.le_of_ble_eq_true rfl) ⟨Nat.zero_le _, Nat.zero_le _⟩ dJ0_charAt_5068e_1 (fun r_1 I_1 R_1 J_1 H locs hp_1 hP hD hS _ _ => ?_)
  obtain ⟨rfl, hu_1⟩ := hp_1
  cases hu_1
  refine lv_if_eq (tgt := 16) hx hb dJ0_charAt_5068e_4 (by decide) (fun c_0 => absurd c_0 (zD_ne zk_1 zk_z (by decide))) (fun _ => ?_)
  refine lv_aload_n hx hb dJ0_charAt_5068e_7 rfl (lv_at hl 0 rfl) ?_
  refine vk_getf hx hb (hZ.1.1 0 (by decide)).2.2.1 hS hown (ht _ hw_8_164) (fun _ h => h) dJ0_charAt_5068e_8 ?_
  refine lv_iload_n hx hb dJ0_charAt_5068e_11 rfl (lv_at hl 1 rfl) ?_
  refine z_cNSi (As := [.ref (av 0), .int (pa0)]) (rest := []) hx hb hml hown ht (xk_J1_charAt_3b067_14 l D q cA ad av t9 F _ _ _ hI (pa0) hpa0) hw_2_205 hmJ1_charAt_3b067 ⟨rfl, rfl⟩ (na := 2) rfl (by decide +kernel) (by decide) hK hP hD hS hA (zSS_c (Rs := zXRs) (t9 := t9) (fun _ _ _ => zXRs_c)) (zSS_w (Rs := zXRs) (t9 := t9) (fun _ _ _ => zXRs_w) hN hsz hS) hl.1 rfl (Nat.le_of_ble_eq_true rfl) ⟨Nat.zero_le _, Nat.zero_le _⟩ dJ0_charAt_5068e_12 (fun r_2 I_2 R_2 J_2 H locs hp_2 hP hD hS _ _ => ?_)
  obtain ⟨hr_2, hu_2⟩ := hp_2
  cases hu_2
  exact z_zret (v := r_2) hx hb hr hlocks hP hD hS (zR_char hr_2) dJ0_charAt_5068e_15 ⟨hr_2, rfl⟩
