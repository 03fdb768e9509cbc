set_option maxHeartbeats 4000000 in
set_option maxRecDepth 100000 in
theorem mk_X11_rests (l : Launch) (D : va_G) (q : Nat → Nat) (cA : Nat → ClassId) (F : Nat → Nat → Int32) (I R : Nat → Nat → Int32) (J : Nat → Nat → Int64) (hI : mInv F (I, R, J)) (pa0 : Int32) : zMi l D vwCl (zMtys cA) 25 q (zMd q cA) yX11_rests cX11_rests 4 (some .int) ({ frames := 7, cells := 0, slots := 0, locals := 176 } : Room) [.ref (q 0), .int (pa0)] (I, R, J) (fun _ u => (mInv F u ∧ u.2.2 = J)) := by
  intro sz
  refine z_body (by decide +kernel) (Nat.le_of_ble_eq_true rfl) (fun p e s m below meth c ls hx hb hml hr ht hown hlocks hsz hK hP hD hS hl => ?_)
  have hA : ∀ a, s.heap.size ≤ a → zA 25 q sz a := fun a h => Or.inr (hsz ▸ h)
  have hl : lv_has ls 4 [(0, .ref (q 0)), (1, .int (pa0))] := hl
  refine lv_aload_n hx hb dX11_rests_0 rfl (lv_at hl 0 rfl) ?_
  refine lv_iload_n hx hb dX11_rests_1 rfl (lv_at hl 1 rfl) ?_
  refine z_callVi (k := 0) (As := [.int (pa0)]) (rest := []) hx hb hml hown ht (mk_X11_isCost l D q cA F _ _ _ hI (pa0)) hw_8_39 hmX11_isCost ⟨rfl, rfl⟩ (na := 1) rfl (by decide +kernel) (by decide) (by decide) rfl rfl hK hP hD hS hA hl.1 rfl (Nat.le_of_ble_eq_true rfl) ⟨Nat.zero_le _, Nat.zero_le _⟩ dX11_rests_2 (fun r_1 I_1 R_1 J_1 H locs hp_1 hP hD hS _ _ => ?_)
  rcases hp_1 with ⟨rfl, hu_1, f0_1⟩ | ⟨rfl, hu_1⟩
  · obtain ⟨hv_1, hj_1⟩ := hu_1
    try dsimp only at hj_1
    subst J_1
    refine lv_if_ne (tgt := 11) hx hb dX11_rests_5 (by decide) (fun _ => ?_) (fun c_0 => absurd c_0 (zD_ne zk_1 zk_z (by decide)))
    refine lv_iconst (v := nI 0) hx hb dX11_rests_11 (by decide +kernel) ?_
    refine lv_istore_n (lv' := [(2, .int (nI 0)), (0, .ref (q 0)), (1, .int (pa0))]) hx hb dX11_rests_12 rfl hl (by decide) rfl (fun ls hl => ?_)
    refine lv_iconst (v := nI 0) hx hb dX11_rests_13 (by decide +kernel) ?_
    refine lv_istore_n (lv' := [(3, .int (nI 0)), (2, .int (nI 0)), (0, .ref (q 0)), (1, .int (pa0))]) hx hb dX11_rests_14 rfl hl (by decide) rfl (fun ls hl => ?_)
    have loop_119 : ∀ N : Nat, ∀ x_117 : Int32, ∀ x_118 : Int32, zR 0 32 x_118 → (2147483648 - (x_118).toInt).toNat < N → ∀ (H : Heap) (locs : List Loc), va_P D vwCl (zw 25 q (zMd q cA) I_1 R_1 J) H → va_D (zA 25 q sz) (zw 25 q (zMd q cA) I_1 R_1 J) → va_S (zA 25 q sz) s.heap H locs → ∀ ls : Array Slot, lv_has ls 4 [(0, .ref (q 0)), (1, .int (pa0)), (2, .int (x_117)), (3, .int (x_118))] → W p l e ({ frames := 7, cells := 0, slots := 0, locals := 176 } : Room) s m ([.ref (q 0), .int (pa0)] : List Value).toArray below meth c H locs 0 0 (MQ below (va_Qi (fun _ u => (mInv F u ∧ u.2.2 = J)) (zB D vwCl 25 q (zMd q cA) sz) (zA 25 q sz)) ([.ref (q 0), .int (pa0)] : List Value).toArray s 0 0 (zA 25 q sz)) (F0 m 15 ls []) := by
      intro N
      induction N with
      | zero => intro x_117 x_118 hx_118 hN; exact absurd hN (Nat.not_lt_zero _)
      | succ N ih_121 =>
        intro x_117 x_118 hx_118 hN_120 H locs hP hD hS ls hl
        refine lv_iload_n hx hb dX11_rests_15 rfl (lv_at hl 3 rfl) ?_
        refine lv_iconst (v := nI 1) hx hb dX11_rests_16 (by decide +kernel) ?_
        refine lv_aload_n hx hb dX11_rests_17 rfl (lv_at hl 0 rfl) ?_
        refine z_get hx hb ht hown hK hP ziX11 rfl 0 (by decide) 1 (by decide) hw_5_188 rfl (v := .ref (q 1)) rfl dX11_rests_18 ?_
        refine lv_iconst (v := nI 3) hx hb dX11_rests_21 (by decide +kernel) ?_
        refine z_iald hx hb hK hP 1 (by decide) 0 rfl rfl (zR_vin zk_3 (by decide)) dX11_rests_22 ?_
        refine z_eqi (y := R_1 1 (nI 3).toNatClampNeg) rfl ?_
        have f_122 : zR 0 5 (R_1 1 (nI 3).toNatClampNeg) := mR hv_1 1 3
        refine lv_ishl hx hb dX11_rests_23 ?_
        refine z_rng (a := 1) (b := 32) (zR_shl1 5 f_122 (by decide)) (fun v_123 hv_123 => ?_)
        refine lv_icmp_ge (tgt := 50) hx hb dX11_rests_24 (by decide) (fun c_124 => ?_) (fun c_124 => ?_)
        · have t_c_124 := z_leT c_124
          have f_125 : zR 1 32 (x_118) := zR_ley t_c_124 hv_123 hx_118 (by decide)
          refine lv_iload_n hx hb dX11_rests_50 rfl (lv_at hl 2 rfl) ?_
          exact z_iret (v := x_117) hx hb hr hlocks hP hD hS dX11_rests_51 ⟨hv_1, rfl⟩
        · have t_c_124 := z_leF c_124
          have f_126 : zR 0 31 (x_118) := zR_ltx t_c_124 hx_118 hv_123 (by decide)
          refine lv_iload_n hx hb dX11_rests_27 rfl (lv_at hl 2 rfl) ?_
          refine lv_aload_n hx hb dX11_rests_28 rfl (lv_at hl 0 rfl) ?_
          refine lv_iload_n hx hb dX11_rests_29 rfl (lv_at hl 3 rfl) ?_
          refine lv_iload_n hx hb dX11_rests_30 rfl (lv_at hl 1 rfl) ?_
          have t_129 : ∀ x_128 : Int32, zR 0 1 x_128 → ∀ (H : Heap) (locs : List Loc), va_P D vwCl (zw 25 q (zMd q cA) I_1 R_1 J) H → va_D (zA 25 q sz) (zw 25 q (zMd q cA) I_1 R_1 J) → va_S (zA 25 q sz) s.heap H locs → ∀ ls : Array Slot, lv_has ls 4 [(0, .ref (q 0)), (1, .int (pa0)), (2, .int (x_117)), (3, .int (x_118))] → W p l e ({ frames := 7, cells := 0, slots := 0, locals := 176 } : Room) s m ([.ref (q 0), .int (pa0)] : List Value).toArray below meth c H locs 0 0 (MQ below (va_Qi (fun _ u => (mInv F u ∧ u.2.2 = J)) (zB D vwCl 25 q (zMd q cA) sz) (zA 25 q sz)) ([.ref (q 0), .int (pa0)] : List Value).toArray s 0 0 (zA 25 q sz)) (F0 m 42 ls [.int (x_128), .int (x_117)]) := by
            intro x_128 hx_128 H locs hP hD hS ls hl
            refine lv_iadd hx hb dX11_rests_42 ?_
            refine z_any (fun v_130 => ?_)
            refine lv_istore_n (lv' := [(2, .int (v_130)), (0, .ref (q 0)), (1, .int (pa0)), (3, .int (x_118))]) hx hb dX11_rests_43 rfl hl (by decide) rfl (fun ls hl => ?_)
            obtain ⟨v_131, ev_131⟩ : ∃ y : Int32, y = x_118 + nI 1 := ⟨_, rfl⟩
            have hv_131 : zR 1 32 v_131 := ev_131 ▸ zR_add f_126 zk_1 (by decide)
            have mv_131 : v_131.toInt = (x_118).toInt + 1 := by rw [ev_131, zR_addE f_126 zk_1 (by decide)]; rfl
            refine lv_iinc (v := v_131) (lv' := [(3, .int (v_131)), (2, .int (v_130)), (0, .ref (q 0)), (1, .int (pa0))]) hx hb dX11_rests_44 hl (k := 3) rfl (ev_131 ▸ rfl) (by decide) rfl (fun ls hl => ?_)
            refine lv_goto (tgt := 15) hx hb dX11_rests_47 (by decide) ?_
            exact ih_121 (v_130) (v_131) (zR_w hv_131 (by decide)) (z2_up mv_131 (by decide) hN_120) _ _ hP hD hS _ (lv_sub hl [2, 3, 1, 0] rfl)
          refine z_callVi (k := 0) (As := [.int (x_118), .int (pa0)]) (rest := [.int (x_117)]) hx hb hml hown ht (mk_X11_isRest_1 l D q cA F _ _ _ hv_1 (x_118) f_126 (pa0) f0_1) hw_8_44 hmX11_isRest ⟨rfl, rfl⟩ (na := 2) rfl (by decide +kernel) (by decide) (by decide) rfl rfl hK hP hD hS hA hl.1 rfl (Nat.le_of_ble_eq_true rfl) ⟨Nat.zero_le _, Nat.zero_le _⟩ dX11_rests_31 (fun r_127 I_127 R_127 J_127 H locs hp_127 hP hD hS _ _ => ?_)
          rcases hp_127 with ⟨rfl, hu_127⟩ | ⟨rfl, hu_127⟩
          · cases hu_127
            refine lv_if_eq (tgt := 41) hx hb dX11_rests_34 (by decide) (fun c_0 => absurd c_0 (zD_ne zk_1 zk_z (by decide))) (fun _ => ?_)
            refine lv_iconst (v := nI 1) hx hb dX11_rests_37 (by decide +kernel) ?_
            refine lv_goto (tgt := 42) hx hb dX11_rests_38 (by decide) ?_
            exact t_129 (nI 1) (zR_w zk_1 (by decide)) _ _ hP hD hS _ (lv_sub hl [0, 1, 2, 3] rfl)
          · cases hu_127
            refine lv_if_eq (tgt := 41) hx hb dX11_rests_34 (by decide) (fun _ => ?_) (fun c_0 => absurd (zD_eq zk_0 zk_z) c_0)
            refine lv_iconst (v := nI 0) hx hb dX11_rests_41 (by decide +kernel) ?_
            exact t_129 (nI 0) (zR_w zk_0 (by decide)) _ _ hP hD hS _ (lv_sub hl [0, 1, 2, 3] rfl)
    exact loop_119 _ (nI 0) (nI 0) (zR_w zk_0 (by decide)) (Nat.lt_succ_self _) _ _ hP hD hS _ (lv_sub hl [2, 3, 1, 0] rfl)
  · obtain ⟨hv_1, hj_1⟩ := hu_1
    try dsimp only at hj_1
    subst J_1
    refine lv_if_ne (tgt := 11) hx hb dX11_rests_5 (by decide) (fun c_0 => absurd (zD_eq zk_0 zk_z) c_0) (fun _ => ?_)
    refine lv_bipush (v := (-2)) hx hb dX11_rests_8 (by decide +kernel) ?_
    exact z_iret (v := (-2)) hx hb hr hlocks hP hD hS dX11_rests_10 ⟨hv_1, rfl⟩
set_option maxHeartbeats 4000000 in
set_option maxRecDepth 100000 in
theorem mk_X11_rest (l : Launch) (D : va_G) (q : Nat → Nat) (cA : Nat → ClassId) (F : Nat → Nat → Int32) (I R : Nat → Nat → Int32) (J : Nat → Nat → Int64) (hI : mInv F (I, R, J)) (pa0 : Int32) : zMi l D vwCl (zMtys cA) 25 q (zMd q cA) yX11_rest cX11_rest 3 (some .int) ({ frames := 7, cells := 0, slots := 0, locals := 176 } : Room) [.ref (q 0), .int (pa0)] (I, R, J) (fun r u => zR (-2) 31 r ∧ (mInv F u ∧ u.2.2 = J)) := by
  intro sz
  refine z_body (by decide +kernel) (Nat.le_of_ble_eq_true rfl) (fun p e s m below meth c ls hx hb hml hr ht hown hlocks hsz hK hP hD hS hl => ?_)
  have hA : ∀ a, s.heap.size ≤ a → zA 25 q sz a := fun a h => Or.inr (hsz ▸ h)
  have hl : lv_has ls 3 [(0, .ref (q 0)), (1, .int (pa0))] := hl
  refine lv_aload_n hx hb dX11_rest_0 rfl (lv_at hl 0 rfl) ?_
  refine lv_iload_n hx hb dX11_rest_1 rfl (lv_at hl 1 rfl) ?_
  refine z_callVi (k := 0) (As := [.int (pa0)]) (rest := []) hx hb hml hown ht (mk_X11_isCost l D q cA F _ _ _ hI (pa0)) hw_8_39 hmX11_isCost ⟨rfl, rfl⟩ (na := 1) rfl (by decide +kernel) (by decide) (by decide) rfl rfl hK hP hD hS hA hl.1 rfl (Nat.le_of_ble_eq_true rfl) ⟨Nat.zero_le _, Nat.zero_le _⟩ dX11_rest_2 (fun r_1 I_1 R_1 J_1 H locs hp_1 hP hD hS _ _ => ?_)
  rcases hp_1 with ⟨rfl, hu_1, f0_1⟩ | ⟨rfl, hu_1⟩
  · obtain ⟨hv_1, hj_1⟩ := hu_1
    try dsimp only at hj_1
    subst J_1
    refine lv_if_ne (tgt := 11) hx hb dX11_rest_5 (by decide) (fun _ => ?_) (fun c_0 => absurd c_0 (zD_ne zk_1 zk_z (by decide)))
    refine lv_iconst (v := nI 0) hx hb dX11_rest_11 (by decide +kernel) ?_
    refine lv_istore_n (lv' := [(2, .int (nI 0)), (0, .ref (q 0)), (1, .int (pa0))]) hx hb dX11_rest_12 rfl hl (by decide) rfl (fun ls hl => ?_)
    have loop_30 : ∀ N : Nat, ∀ x_29 : Int32, zR 0 32 x_29 → (2147483648 - (x_29).toInt).toNat < N → ∀ (H : Heap) (locs : List Loc), va_P D vwCl (zw 25 q (zMd q cA) I_1 R_1 J) H → va_D (zA 25 q sz) (zw 25 q (zMd q cA) I_1 R_1 J) → va_S (zA 25 q sz) s.heap H locs → ∀ ls : Array Slot, lv_has ls 3 [(0, .ref (q 0)), (1, .int (pa0)), (2, .int (x_29))] → W p l e ({ frames := 7, cells := 0, slots := 0, locals := 176 } : Room) s m ([.ref (q 0), .int (pa0)] : List Value).toArray below meth c H locs 0 0 (MQ below (va_Qi (fun r u => zR (-2) 31 r ∧ (mInv F u ∧ u.2.2 = J)) (zB D vwCl 25 q (zMd q cA) sz) (zA 25 q sz)) ([.ref (q 0), .int (pa0)] : List Value).toArray s 0 0 (zA 25 q sz)) (F0 m 13 ls []) := by
      intro N
      induction N with
      | zero => intro x_29 hx_29 hN; exact absurd hN (Nat.not_lt_zero _)
      | succ N ih_32 =>
        intro x_29 hx_29 hN_31 H locs hP hD hS ls hl
        refine lv_iload_n hx hb dX11_rest_13 rfl (lv_at hl 2 rfl) ?_
        refine lv_iconst (v := nI 1) hx hb dX11_rest_14 (by decide +kernel) ?_
        refine lv_aload_n hx hb dX11_rest_15 rfl (lv_at hl 0 rfl) ?_
        refine z_get hx hb ht hown hK hP ziX11 rfl 0 (by decide) 1 (by decide) hw_5_188 rfl (v := .ref (q 1)) rfl dX11_rest_16 ?_
        refine lv_iconst (v := nI 3) hx hb dX11_rest_19 (by decide +kernel) ?_
        refine z_iald hx hb hK hP 1 (by decide) 0 rfl rfl (zR_vin zk_3 (by decide)) dX11_rest_20 ?_
        refine z_eqi (y := R_1 1 (nI 3).toNatClampNeg) rfl ?_
        have f_33 : zR 0 5 (R_1 1 (nI 3).toNatClampNeg) := mR hv_1 1 3
        refine lv_ishl hx hb dX11_rest_21 ?_
        refine z_rng (a := 1) (b := 32) (zR_shl1 5 f_33 (by decide)) (fun v_34 hv_34 => ?_)
        refine lv_icmp_ge (tgt := 42) hx hb dX11_rest_22 (by decide) (fun c_35 => ?_) (fun c_35 => ?_)
        · have t_c_35 := z_leT c_35
          have f_36 : zR 1 32 (x_29) := zR_ley t_c_35 hv_34 hx_29 (by decide)
          refine lv_iconst (v := (-1)) hx hb dX11_rest_42 (by decide +kernel) ?_
          exact z_iret (v := (-1)) hx hb hr hlocks hP hD hS dX11_rest_43 ⟨(zR_w zk_m1 (by decide)), ⟨hv_1, rfl⟩⟩
        · have t_c_35 := z_leF c_35
          have f_37 : zR 0 31 (x_29) := zR_ltx t_c_35 hx_29 hv_34 (by decide)
          refine lv_aload_n hx hb dX11_rest_25 rfl (lv_at hl 0 rfl) ?_
          refine lv_iload_n hx hb dX11_rest_26 rfl (lv_at hl 2 rfl) ?_
          refine lv_iload_n hx hb dX11_rest_27 rfl (lv_at hl 1 rfl) ?_
          refine z_callVi (k := 0) (As := [.int (x_29), .int (pa0)]) (rest := []) hx hb hml hown ht (mk_X11_isRest_1 l D q cA F _ _ _ hv_1 (x_29) f_37 (pa0) f0_1) hw_8_44 hmX11_isRest ⟨rfl, rfl⟩ (na := 2) rfl (by decide +kernel) (by decide) (by decide) rfl rfl hK hP hD hS hA hl.1 rfl (Nat.le_of_ble_eq_true rfl) ⟨Nat.zero_le _, Nat.zero_le _⟩ dX11_rest_28 (fun r_38 I_38 R_38 J_38 H locs hp_38 hP hD hS _ _ => ?_)
          rcases hp_38 with ⟨rfl, hu_38⟩ | ⟨rfl, hu_38⟩
          · cases hu_38
            refine lv_if_eq (tgt := 36) hx hb dX11_rest_31 (by decide) (fun c_0 => absurd c_0 (zD_ne zk_1 zk_z (by decide))) (fun _ => ?_)
            refine lv_iload_n hx hb dX11_rest_34 rfl (lv_at hl 2 rfl) ?_
            exact z_iret (v := x_29) hx hb hr hlocks hP hD hS dX11_rest_35 ⟨(zR_w f_37 (by decide)), ⟨hv_1, rfl⟩⟩
          · cases hu_38
            refine lv_if_eq (tgt := 36) hx hb dX11_rest_31 (by decide) (fun _ => ?_) (fun c_0 => absurd (zD_eq zk_0 zk_z) c_0)
            obtain ⟨v_39, ev_39⟩ : ∃ y : Int32, y = x_29 + nI 1 := ⟨_, rfl⟩
            have hv_39 : zR 1 32 v_39 := ev_39 ▸ zR_add f_37 zk_1 (by decide)
            have mv_39 : v_39.toInt = (x_29).toInt + 1 := by rw [ev_39, zR_addE f_37 zk_1 (by decide)]; rfl
            refine lv_iinc (v := v_39) (lv' := [(2, .int (v_39)), (0, .ref (q 0)), (1, .int (pa0))]) hx hb dX11_rest_36 hl (k := 2) rfl (ev_39 ▸ rfl) (by decide) rfl (fun ls hl => ?_)
            refine lv_goto (tgt := 13) hx hb dX11_rest_39 (by decide) ?_
            exact ih_32 (v_39) (zR_w hv_39 (by decide)) (z2_up mv_39 (by decide) hN_31) _ _ hP hD hS _ (lv_sub hl [1, 2, 0] rfl)
    exact loop_30 _ (nI 0) (zR_w zk_0 (by decide)) (Nat.lt_succ_self _) _ _ hP hD hS _ (lv_sub hl [1, 2, 0] rfl)
  · obtain ⟨hv_1, hj_1⟩ := hu_1
    try dsimp only at hj_1
    subst J_1
    refine lv_if_ne (tgt := 11) hx hb dX11_rest_5 (by decide) (fun c_0 => absurd (zD_eq zk_0 zk_z) c_0) (fun _ => ?_)
    refine lv_bipush (v := (-2)) hx hb dX11_rest_8 (by decide +kernel) ?_
    exact z_iret (v := (-2)) hx hb hr hlocks hP hD hS dX11_rest_10 ⟨(zR_w zk_m2 (by decide)), ⟨hv_1, rfl⟩⟩
set_option maxHeartbeats 4000000 in
set_option maxRecDepth 100000 in
theorem mk_X11_dear (l : Launch) (D : va_G) (q : Nat → Nat) (cA : Nat → ClassId) (F : Nat → Nat → Int32) (I R : Nat → Nat → Int32) (J : Nat → Nat → Int64) (hI : mInv F (I, R, J))  : zMi l D vwCl (zMtys cA) 25 q (zMd q cA) yX11_dear cX11_dear 2 (some .int) ({ frames := 6, cells := 0, slots := 0, locals := 155 } : Room) [.ref (q 0)] (I, R, J) (fun r u => zR (-2) 999 r ∧ (mInv F u ∧ u.2.2 = J)) := by
  intro sz
  refine z_body (by decide +kernel) (Nat.le_of_ble_eq_true rfl) (fun p e s m below meth c ls hx hb hml hr ht hown hlocks hsz hK hP hD hS hl => ?_)
  have hA : ∀ a, s.heap.size ≤ a → zA 25 q sz a := fun a h => Or.inr (hsz ▸ h)
  have hl : lv_has ls 2 [(0, .ref (q 0))] := hl
  refine lv_aload_n hx hb dX11_dear_0 rfl (lv_at hl 0 rfl) ?_
  refine z_callVi (k := 0) (As := []) (rest := []) hx hb hml hown ht (mk_X11_isCity l D q cA F _ _ _ hI ) hw_7_75 hmX11_isCity ⟨rfl, rfl⟩ (na := 0) rfl (by decide +kernel) (by decide) (by decide) rfl rfl hK hP hD hS hA hl.1 rfl (Nat.le_of_ble_eq_true rfl) ⟨Nat.zero_le _, Nat.zero_le _⟩ dX11_dear_1 (fun r_1 I_1 R_1 J_1 H locs hp_1 hP hD hS _ _ => ?_)
  rcases hp_1 with ⟨rfl, hu_1⟩ | ⟨rfl, hu_1⟩
  · cases hu_1
    refine lv_if_ne (tgt := 10) hx hb dX11_dear_4 (by decide) (fun _ => ?_) (fun c_0 => absurd c_0 (zD_ne zk_1 zk_z (by decide)))
    refine lv_aload_n hx hb dX11_dear_10 rfl (lv_at hl 0 rfl) ?_
    refine z_callVv (k := 0) (As := []) (rest := []) hx hb hml hown ht (mk_X11_asItIs l D q cA F _ _ _ hI ) hw_6_181 hmX11_asItIs ⟨rfl, rfl⟩ (na := 0) rfl (by decide +kernel) (by decide) (by decide) rfl rfl hK hP hD hS hA hl.1 rfl (Nat.le_of_ble_eq_true rfl) ⟨Nat.zero_le _, Nat.zero_le _⟩ dX11_dear_11 (fun I_2 R_2 J_2 H locs hp_2 hP hD hS _ _ => ?_)
    obtain ⟨hv_2, hj_2, hs_2⟩ := hp_2
    try dsimp only at hj_2
    subst J_2
    refine lv_sipush (v := nI 999) hx hb dX11_dear_14 (by decide +kernel) ?_
    refine lv_istore_n (lv' := [(1, .int (nI 999)), (0, .ref (q 0))]) hx hb dX11_dear_17 rfl hl (by decide) rfl (fun ls hl => ?_)
    have loop_32 : ∀ N : Nat, ∀ x_31 : Int32, zR (-1) 999 x_31 → ((x_31).toInt + 2147483649).toNat < N → ∀ (H : Heap) (locs : List Loc), va_P D vwCl (zw 25 q (zMd q cA) I_2 R_2 J) H → va_D (zA 25 q sz) (zw 25 q (zMd q cA) I_2 R_2 J) → va_S (zA 25 q sz) s.heap H locs → ∀ ls : Array Slot, lv_has ls 2 [(0, .ref (q 0)), (1, .int (x_31))] → W p l e ({ frames := 6, cells := 0, slots := 0, locals := 155 } : Room) s m ([.ref (q 0)] : List Value).toArray below meth c H locs 0 0 (MQ below (va_Qi (fun r u => zR (-2) 999 r ∧ (mInv F u ∧ u.2.2 = J)) (zB D vwCl 25 q (zMd q cA) sz) (zA 25 q sz)) ([.ref (q 0)] : List Value).toArray s 0 0 (zA 25 q sz)) (F0 m 18 ls []) := by
      intro N
      induction N with
      | zero => intro x_31 hx_31 hN; exact absurd hN (Nat.not_lt_zero _)
      | succ N ih_34 =>
        intro x_31 hx_31 hN_33 H locs hP hD hS ls hl
        refine lv_iload_n hx hb dX11_dear_18 rfl (lv_at hl 1 rfl) ?_
        refine lv_if_lt (tgt := 48) hx hb dX11_dear_19 (by decide) (fun c_35 => ?_) (fun c_35 => ?_)
        · have t_c_35 := z_ltT c_35
          have f_36 : zR (-1) (-1) (x_31) := zR_ltx t_c_35 hx_31 zk_z (by decide)
          refine lv_iconst (v := (-1)) hx hb dX11_dear_48 (by decide +kernel) ?_
          exact z_iret (v := (-1)) hx hb hr hlocks hP hD hS dX11_dear_49 ⟨(zR_w zk_m1 (by decide)), ⟨hv_2, rfl⟩⟩
        · have t_c_35 := z_ltF c_35
          have f_37 : zR 0 999 (x_31) := zR_ley t_c_35 zk_z hx_31 (by decide)
          refine lv_aload_n hx hb dX11_dear_22 rfl (lv_at hl 0 rfl) ?_
          refine lv_iconst (v := nI 1) hx hb dX11_dear_23 (by decide +kernel) ?_
          refine lv_aload_n hx hb dX11_dear_24 rfl (lv_at hl 0 rfl) ?_
          refine z_get hx hb ht hown hK hP ziX11 rfl 0 (by decide) 1 (by decide) hw_5_188 rfl (v := .ref (q 1)) rfl dX11_dear_25 ?_
          refine lv_iconst (v := nI 3) hx hb dX11_dear_28 (by decide +kernel) ?_
          refine z_iald hx hb hK hP 1 (by decide) 0 rfl rfl (zR_vin zk_3 (by decide)) dX11_dear_29 ?_
          refine z_eqi (y := R_2 1 (nI 3).toNatClampNeg) rfl ?_
          have f_38 : zR 0 5 (R_2 1 (nI 3).toNatClampNeg) := mR hv_2 1 3
          refine lv_ishl hx hb dX11_dear_30 ?_
          refine z_rng (a := 1) (b := 32) (zR_shl1 5 f_38 (by decide)) (fun v_39 hv_39 => ?_)
          refine lv_iconst (v := nI 1) hx hb dX11_dear_31 (by decide +kernel) ?_
          refine lv_isub hx hb dX11_dear_32 ?_
          refine z_subc 0 31 (-1) hv_39 zk_1 (by decide) (fun v_40 hv_40 mv_40 => ?_)
          refine lv_iload_n hx hb dX11_dear_33 rfl (lv_at hl 1 rfl) ?_
          refine z_callVi (k := 0) (As := [.int (v_40), .int (x_31)]) (rest := []) hx hb hml hown ht (mk_X11_isRest_1 l D q cA F _ _ _ hv_2 (v_40) hv_40 (x_31) f_37) hw_8_44 hmX11_isRest ⟨rfl, rfl⟩ (na := 2) rfl (by decide +kernel) (by decide) (by decide) rfl rfl hK hP hD hS hA hl.1 rfl (Nat.le_of_ble_eq_true rfl) ⟨Nat.zero_le _, Nat.zero_le _⟩ dX11_dear_34 (fun r_41 I_41 R_41 J_41 H locs hp_41 hP hD hS _ _ => ?_)
          rcases hp_41 with ⟨rfl, hu_41⟩ | ⟨rfl, hu_41⟩
          · cases hu_41
            refine lv_if_eq (tgt := 42) hx hb dX11_dear_37 (by decide) (fun c_0 => absurd c_0 (zD_ne zk_1 zk_z (by decide))) (fun _ => ?_)
            refine lv_iload_n hx hb dX11_dear_40 rfl (lv_at hl 1 rfl) ?_
            exact z_iret (v := x_31) hx hb hr hlocks hP hD hS dX11_dear_41 ⟨(zR_w f_37 (by decide)), ⟨hv_2, rfl⟩⟩
          · cases hu_41
            refine lv_if_eq (tgt := 42) hx hb dX11_dear_37 (by decide) (fun _ => ?_) (fun c_0 => absurd (zD_eq zk_0 zk_z) c_0)
            obtain ⟨v_42, ev_42⟩ : ∃ y : Int32, y = x_31 + (-1) := ⟨_, rfl⟩
            have hv_42 : zR (-1) 998 v_42 := ev_42 ▸ zR_add f_37 zk_m1 (by decide)
            have mv_42 : v_42.toInt = (x_31).toInt + (-1) := by rw [ev_42, zR_addE f_37 zk_m1 (by decide)]; rfl
            refine lv_iinc (v := v_42) (lv' := [(1, .int (v_42)), (0, .ref (q 0))]) hx hb dX11_dear_42 hl (k := 1) rfl (ev_42 ▸ rfl) (by decide) rfl (fun ls hl => ?_)
            refine lv_goto (tgt := 18) hx hb dX11_dear_45 (by decide) ?_
            exact ih_34 (v_42) (zR_w hv_42 (by decide)) (z2_dn mv_42 (by decide) hN_33) _ _ hP hD hS _ (lv_sub hl [1, 0] rfl)
    exact loop_32 _ (nI 999) (zR_w zk_999 (by decide)) (Nat.lt_succ_self _) _ _ hP hD hS _ (lv_sub hl [1, 0] rfl)
  · cases hu_1
    refine lv_if_ne (tgt := 10) hx hb dX11_dear_4 (by decide) (fun c_0 => absurd (zD_eq zk_0 zk_z) c_0) (fun _ => ?_)
    refine lv_bipush (v := (-2)) hx hb dX11_dear_7 (by decide +kernel) ?_
    exact z_iret (v := (-2)) hx hb hr hlocks hP hD hS dX11_dear_9 ⟨(zR_w zk_m2 (by decide)), ⟨hI, rfl⟩⟩
set_option maxHeartbeats 4000000 in
set_option maxRecDepth 100000 in
theorem mk_X11_isSlot (l : Launch) (D : va_G) (q : Nat → Nat) (cA : Nat → ClassId) (F : Nat → Nat → Int32) (I R : Nat → Nat → Int32) (J : Nat → Nat → Int64) (hI : mInv F (I, R, J)) (pa0 : Int32) : zMi l D vwCl (zMtys cA) 25 q (zMd q cA) yX11_isSlot cX11_isSlot 1 (some .boolean) ({ frames := 1, cells := 0, slots := 0, locals := 25 } : Room) [.int (pa0)] (I, R, J) (fun r u => (r = nI 1 ∧ u = (I, R, J) ∧ zR 0 3 pa0) ∨ (r = nI 0 ∧ u = (I, R, J) ∧ (pa0.toInt < 0 ∨ 3 < pa0.toInt))) := by
  intro sz
  refine z_body (by decide +kernel) (Nat.le_of_ble_eq_true rfl) (fun p e s m below meth c ls hx hb hml hr ht hown hlocks hsz hK hP hD hS hl => ?_)
  have hA : ∀ a, s.heap.size ≤ a → zA 25 q sz a := fun a h => Or.inr (hsz ▸ h)
  have hl : lv_has ls 1 [(0, .int (pa0))] := hl
  refine lv_iload_n hx hb dX11_isSlot_0 rfl (lv_at hl 0 rfl) ?_
  refine lv_i2l (v := (pa0).toInt64) hx hb dX11_isSlot_1 rfl ?_
  refine lv_lconst (v := (0 : Int64)) hx hb dX11_isSlot_2 (by decide +kernel) ?_
  refine lv_ldc2 (v := (3 : Int64)) hx hb hown (ht _ hw_7_91) dX11_isSlot_3 ?_
  refine z_callSi (As := [.long ((pa0).toInt64), .long ((0 : Int64)), .long ((3 : Int64))]) (rest := []) hx hb hml hown ht (mk_X11_in l D q cA F _ _ _ hI ((pa0).toInt64) ((0 : Int64)) ((3 : Int64))) hw_6_86 hmX11_in ⟨rfl, rfl⟩ (na := 3) rfl (by decide +kernel) (by decide) hK hP hD hS hA hl.1 rfl (Nat.le_of_ble_eq_true rfl) ⟨Nat.zero_le _, Nat.zero_le _⟩ dX11_isSlot_6 (fun r_1 I_1 R_1 J_1 H locs hp_1 hP hD hS _ _ => ?_)
  rcases hp_1 with ⟨rfl, hu_1, h1_1, h2_1⟩ | ⟨rfl, hu_1, h1_1 | h2_1⟩
  · cases hu_1
    have f_2 : zL 0 2147483647 ((pa0).toInt64) := zL_ley h1_1 zkl_0 (zR_i2l (zR_any (pa0))) (by decide)
    have f_3 : zR 0 2147483647 (pa0) := zL_back f_2
    have f_4 : zL 0 3 ((pa0).toInt64) := zL_lex h2_1 f_2 zkl_3 (by decide)
    have f_5 : zR 0 3 (pa0) := zL_back f_4
    exact z_zret (v := nI 1) hx hb hr hlocks hP hD hS (by decide +kernel) dX11_isSlot_9 (Or.inl ⟨rfl, rfl, f_5⟩)
  · cases hu_1
    have f_6 : zL (-2147483648) (-1) ((pa0).toInt64) := zL_ltx h1_1 (zR_i2l (zR_any (pa0))) zkl_0 (by decide)
    have f_7 : zR (-2147483648) (-1) (pa0) := zL_back f_6
    exact z_zret (v := nI 0) hx hb hr hlocks hP hD hS (by decide +kernel) dX11_isSlot_9 (Or.inr ⟨rfl, rfl, (Or.inl (Int.lt_of_le_of_lt f_7.2 (by decide)))⟩)
  · cases hu_1
    have f_8 : zL 4 2147483647 ((pa0).toInt64) := zL_lty h2_1 zkl_3 (zR_i2l (zR_any (pa0))) (by decide)
    have f_9 : zR 4 2147483647 (pa0) := zL_back f_8
    exact z_zret (v := nI 0) hx hb hr hlocks hP hD hS (by decide +kernel) dX11_isSlot_9 (Or.inr ⟨rfl, rfl, (Or.inr (Int.lt_of_lt_of_le (by decide) f_9.1))⟩)
set_option maxHeartbeats 4000000 in
set_option maxRecDepth 100000 in
theorem mk_X11_numberAt (l : Launch) (D : va_G) (q : Nat → Nat) (cA : Nat → ClassId) (F : Nat → Nat → Int32) (I R : Nat → Nat → Int32) (J : Nat → Nat → Int64) (hI : mInv F (I, R, J)) (pa0 : Int32) (hpa0 : zR 0 3 pa0) (pa1 : Int32) (hpa1 : zR 0 59 pa1) : zMl l D vwCl (zMtys cA) 25 q (zMd q cA) yX11_numberAt cX11_numberAt 3 (some .long) ({ frames := 0, cells := 0, slots := 0, locals := 0 } : Room) [.ref (q 0), .int (pa0), .int (pa1)] (I, R, J) (fun r u => r = mNum (J 23) pa0 pa1 ∧ u = (I, R, J)) := by
  intro sz
  refine z_body (by decide +kernel) (Nat.le_of_ble_eq_true rfl) (fun p e s m below meth c ls hx hb hml hr ht hown hlocks hsz hK hP hD hS hl => ?_)
  have hA : ∀ a, s.heap.size ≤ a → zA 25 q sz a := fun a h => Or.inr (hsz ▸ h)
  have hl : lv_has ls 3 [(0, .ref (q 0)), (1, .int (pa0)), (2, .int (pa1))] := hl
  refine lv_aload_n hx hb dX11_numberAt_0 rfl (lv_at hl 0 rfl) ?_
  refine z_get hx hb ht hown hK hP ziX11 rfl 0 (by decide) 42 (by decide) hw_5_229 rfl (v := .ref (q 23)) rfl dX11_numberAt_1 ?_
  refine lv_bipush (v := nI 60) hx hb dX11_numberAt_4 (by decide +kernel) ?_
  refine lv_iload_n hx hb dX11_numberAt_6 rfl (lv_at hl 1 rfl) ?_
  refine lv_imul hx hb dX11_numberAt_7 ?_
  refine lv_topi (fun v_1 ev_1 => ?_)
  have hv_1 : zR 0 180 v_1 := ev_1 ▸ zR_mul zk_60 hpa0 (by decide)
  refine lv_iload_n hx hb dX11_numberAt_8 rfl (lv_at hl 2 rfl) ?_
  refine lv_iadd hx hb dX11_numberAt_9 ?_
  refine lv_topi (fun v_2 ev_2 => ?_)
  have hv_2 : zR 0 239 v_2 := ev_2 ▸ zR_add hv_1 hpa1 (by decide)
  refine z_lald hx hb hK hP 23 (by decide) 22 rfl rfl (zR_vin hv_2 (by decide)) dX11_numberAt_10 ?_
  refine z_eql (y := J 23 (v_2).toNatClampNeg) rfl ?_
  exact z_lret (v := J 23 (v_2).toNatClampNeg) hx hb hr hlocks hP hD hS dX11_numberAt_11 ⟨mNum_eq hpa0 hpa1 ev_1 ev_2, rfl⟩
set_option maxHeartbeats 4000000 in
set_option maxRecDepth 100000 in
theorem mk_X11_isHouse_1 (l : Launch) (D : va_G) (q : Nat → Nat) (cA : Nat → ClassId) (F : Nat → Nat → Int32) (I R : Nat → Nat → Int32) (J : Nat → Nat → Int64) (hI : mInv F (I, R, J)) (pa0 : Int64) : zMi l D vwCl (zMtys cA) 25 q (zMd q cA) yX11_isHouse cX11_isHouse 3 (some .boolean) ({ frames := 1, cells := 0, slots := 0, locals := 25 } : Room) [.ref (q 0), .long (pa0)] (I, R, J) (fun r u => (r = nI 1 ∧ u = (I, R, J) ∧ zL 0 4 pa0) ∨ (r = nI 0 ∧ u = (I, R, J))) := by
  intro sz
  refine z_body (by decide +kernel) (Nat.le_of_ble_eq_true rfl) (fun p e s m below meth c ls hx hb hml hr ht hown hlocks hsz hK hP hD hS hl => ?_)
  have hA : ∀ a, s.heap.size ≤ a → zA 25 q sz a := fun a h => Or.inr (hsz ▸ h)
  have hl : lv_has ls 3 [(0, .ref (q 0)), (1, .long (pa0))] := hl
  refine lv_lload_n hx hb dX11_isHouse_0 rfl (lv_at hl 1 rfl) ?_
  refine lv_lconst (v := (0 : Int64)) hx hb dX11_isHouse_1 (by decide +kernel) ?_
  refine lv_aload_n hx hb dX11_isHouse_2 rfl (lv_at hl 0 rfl) ?_
  refine z_get hx hb ht hown hK hP ziX11 rfl 0 (by decide) 1 (by decide) hw_5_188 rfl (v := .ref (q 1)) rfl dX11_isHouse_3 ?_
  refine lv_iconst (v := nI 3) hx hb dX11_isHouse_6 (by decide +kernel) ?_
  refine z_iald hx hb hK hP 1 (by decide) 0 rfl rfl (zR_vin zk_3 (by decide)) dX11_isHouse_7 ?_
  refine z_eqi (y := R 1 (nI 3).toNatClampNeg) rfl ?_
  have f_1 : zR 0 5 (R 1 (nI 3).toNatClampNeg) := mR hI 1 3
  refine lv_iconst (v := nI 1) hx hb dX11_isHouse_8 (by decide +kernel) ?_
  refine lv_isub hx hb dX11_isHouse_9 ?_
  refine z_subc (-1) 4 (-1) f_1 zk_1 (by decide) (fun v_2 hv_2 mv_2 => ?_)
  refine lv_i2l (v := (v_2).toInt64) hx hb dX11_isHouse_10 rfl ?_
  refine z_callSi (As := [.long (pa0), .long ((0 : Int64)), .long ((v_2).toInt64)]) (rest := []) hx hb hml hown ht (mk_X11_in l D q cA F _ _ _ hI (pa0) ((0 : Int64)) ((v_2).toInt64)) hw_6_86 hmX11_in ⟨rfl, rfl⟩ (na := 3) rfl (by decide +kernel) (by decide) hK hP hD hS hA hl.1 rfl (Nat.le_of_ble_eq_true rfl) ⟨Nat.zero_le _, Nat.zero_le _⟩ dX11_isHouse_11 (fun r_3 I_3 R_3 J_3 H locs hp_3 hP hD hS _ _ => ?_)
  rcases hp_3 with ⟨rfl, hu_3, h1_3, h2_3⟩ | ⟨rfl, hu_3, h1_3 | h2_3⟩
  · cases hu_3
    have f_4 : zL 0 9223372036854775807 (pa0) := zL_ley h1_3 zkl_0 (zL_any (pa0)) (by decide)
    have f_5 : zL 0 4 (pa0) := zL_lex h2_3 f_4 (zR_i2l hv_2) (by decide)
    have f_6 : zL 0 4 ((v_2).toInt64) := zL_ley h2_3 f_4 (zR_i2l hv_2) (by decide)
    have f_7 : zR 0 4 (v_2) := zL_back f_6
    exact z_zret (v := nI 1) hx hb hr hlocks hP hD hS (by decide +kernel) dX11_isHouse_14 (Or.inl ⟨rfl, rfl, f_5⟩)
  · cases hu_3
    have f_8 : zL (-9223372036854775808) (-1) (pa0) := zL_ltx h1_3 (zL_any (pa0)) zkl_0 (by decide)
    exact z_zret (v := nI 0) hx hb hr hlocks hP hD hS (by decide +kernel) dX11_isHouse_14 (Or.inr ⟨rfl, rfl⟩)
  · cases hu_3
    have f_9 : zL 0 9223372036854775807 (pa0) := zL_lty h2_3 (zR_i2l hv_2) (zL_any (pa0)) (by decide)
    exact z_zret (v := nI 0) hx hb hr hlocks hP hD hS (by decide +kernel) dX11_isHouse_14 (Or.inr ⟨rfl, rfl⟩)
set_option maxHeartbeats 4000000 in
set_option maxRecDepth 100000 in
theorem mk_X11_isThing_1 (l : Launch) (D : va_G) (q : Nat → Nat) (cA : Nat → ClassId) (F : Nat → Nat → Int32) (I R : Nat → Nat → Int32) (J : Nat → Nat → Int64) (hI : mInv F (I, R, J)) (pa0 : Int64) : zMi l D vwCl (zMtys cA) 25 q (zMd q cA) yX11_isThing cX11_isThing 3 (some .boolean) ({ frames := 1, cells := 0, slots := 0, locals := 25 } : Room) [.ref (q 0), .long (pa0)] (I, R, J) (fun r u => (r = nI 1 ∧ u = (I, R, J) ∧ zL 0 5 pa0) ∨ (r = nI 0 ∧ u = (I, R, J))) := by
  intro sz
  refine z_body (by decide +kernel) (Nat.le_of_ble_eq_true rfl) (fun p e s m below meth c ls hx hb hml hr ht hown hlocks hsz hK hP hD hS hl => ?_)
  have hA : ∀ a, s.heap.size ≤ a → zA 25 q sz a := fun a h => Or.inr (hsz ▸ h)
  have hl : lv_has ls 3 [(0, .ref (q 0)), (1, .long (pa0))] := hl
  refine lv_lload_n hx hb dX11_isThing_0 rfl (lv_at hl 1 rfl) ?_
  refine lv_lconst (v := (0 : Int64)) hx hb dX11_isThing_1 (by decide +kernel) ?_
  refine lv_aload_n hx hb dX11_isThing_2 rfl (lv_at hl 0 rfl) ?_
  refine z_get hx hb ht hown hK hP ziX11 rfl 0 (by decide) 1 (by decide) hw_5_188 rfl (v := .ref (q 1)) rfl dX11_isThing_3 ?_
  refine lv_iconst (v := nI 4) hx hb dX11_isThing_6 (by decide +kernel) ?_
  refine z_iald hx hb hK hP 1 (by decide) 0 rfl rfl (zR_vin zk_4 (by decide)) dX11_isThing_7 ?_
  refine z_eqi (y := R 1 (nI 4).toNatClampNeg) rfl ?_
  have f_1 : zR 0 6 (R 1 (nI 4).toNatClampNeg) := mR hI 1 4
  refine lv_iconst (v := nI 1) hx hb dX11_isThing_8 (by decide +kernel) ?_
  refine lv_isub hx hb dX11_isThing_9 ?_
  refine z_subc (-1) 5 (-1) f_1 zk_1 (by decide) (fun v_2 hv_2 mv_2 => ?_)
  refine lv_i2l (v := (v_2).toInt64) hx hb dX11_isThing_10 rfl ?_
  refine z_callSi (As := [.long (pa0), .long ((0 : Int64)), .long ((v_2).toInt64)]) (rest := []) hx hb hml hown ht (mk_X11_in l D q cA F _ _ _ hI (pa0) ((0 : Int64)) ((v_2).toInt64)) hw_6_86 hmX11_in ⟨rfl, rfl⟩ (na := 3) rfl (by decide +kernel) (by decide) hK hP hD hS hA hl.1 rfl (Nat.le_of_ble_eq_true rfl) ⟨Nat.zero_le _, Nat.zero_le _⟩ dX11_isThing_11 (fun r_3 I_3 R_3 J_3 H locs hp_3 hP hD hS _ _ => ?_)
  rcases hp_3 with ⟨rfl, hu_3, h1_3, h2_3⟩ | ⟨rfl, hu_3, h1_3 | h2_3⟩
  · cases hu_3
    have f_4 : zL 0 9223372036854775807 (pa0) := zL_ley h1_3 zkl_0 (zL_any (pa0)) (by decide)
    have f_5 : zL 0 5 (pa0) := zL_lex h2_3 f_4 (zR_i2l hv_2) (by decide)
    have f_6 : zL 0 5 ((v_2).toInt64) := zL_ley h2_3 f_4 (zR_i2l hv_2) (by decide)
    have f_7 : zR 0 5 (v_2) := zL_back f_6
    exact z_zret (v := nI 1) hx hb hr hlocks hP hD hS (by decide +kernel) dX11_isThing_14 (Or.inl ⟨rfl, rfl, f_5⟩)
  · cases hu_3
    have f_8 : zL (-9223372036854775808) (-1) (pa0) := zL_ltx h1_3 (zL_any (pa0)) zkl_0 (by decide)
    exact z_zret (v := nI 0) hx hb hr hlocks hP hD hS (by decide +kernel) dX11_isThing_14 (Or.inr ⟨rfl, rfl⟩)
  · cases hu_3
    have f_9 : zL 0 9223372036854775807 (pa0) := zL_lty h2_3 (zR_i2l hv_2) (zL_any (pa0)) (by decide)
    exact z_zret (v := nI 0) hx hb hr hlocks hP hD hS (by decide +kernel) dX11_isThing_14 (Or.inr ⟨rfl, rfl⟩)
set_option maxHeartbeats 4000000 in
set_option maxRecDepth 100000 in
theorem mk_X11_isRowPaper_1 (l : Launch) (D : va_G) (q : Nat → Nat) (cA : Nat → ClassId) (F : Nat → Nat → Int32) (I R : Nat → Nat → Int32) (J : Nat → Nat → Int64) (hI : mInv F (I, R, J)) (pa0 : Int32) (hpa0 : zR 0 3 pa0) (pa1 : Int32) (hpa1 : zR 0 56 pa1) : zMi l D vwCl (zMtys cA) 25 q (zMd q cA) yX11_isRowPaper cX11_isRowPaper 3 (some .boolean) ({ frames := 2, cells := 0, slots := 0, locals := 47 } : Room) [.ref (q 0), .int (pa0), .int (pa1)] (I, R, J) (fun r u => (r = nI 1 ∧ u = (I, R, J) ∧ mOk (J 23) pa0 pa1) ∨ (r = nI 0 ∧ u = (I, R, J) ∧ True)) := by
  intro sz
  refine z_body (by decide +kernel) (Nat.le_of_ble_eq_true rfl) (fun p e s m below meth c ls hx hb hml hr ht hown hlocks hsz hK hP hD hS hl => ?_)
  have hA : ∀ a, s.heap.size ≤ a → zA 25 q sz a := fun a h => Or.inr (hsz ▸ h)
  have hl : lv_has ls 3 [(0, .ref (q 0)), (1, .int (pa0)), (2, .int (pa1))] := hl
  refine lv_aload_n hx hb dX11_isRowPaper_0 rfl (lv_at hl 0 rfl) ?_
  refine lv_aload_n hx hb dX11_isRowPaper_1 rfl (lv_at hl 0 rfl) ?_
  refine lv_iload_n hx hb dX11_isRowPaper_2 rfl (lv_at hl 1 rfl) ?_
  refine lv_iload_n hx hb dX11_isRowPaper_3 rfl (lv_at hl 2 rfl) ?_
  refine z_callVl (k := 0) (As := [.int (pa0), .int (pa1)]) (rest := [.ref (q 0)]) hx hb hml hown ht (mk_X11_numberAt l D q cA F _ _ _ hI (pa0) hpa0 (pa1) (zR_w hpa1 (by decide))) hw_8_83 hmX11_numberAt ⟨rfl, rfl⟩ (na := 2) rfl (by decide +kernel) (by decide) (by decide) rfl rfl hK hP hD hS hA hl.1 rfl (Nat.le_of_ble_eq_true rfl) ⟨Nat.zero_le _, Nat.zero_le _⟩ dX11_isRowPaper_4 (fun r_1 I_1 R_1 J_1 H locs hp_1 hP hD hS _ _ => ?_)
  obtain ⟨rfl, hu_1⟩ := hp_1
  cases hu_1
  refine z_callVi (k := 0) (As := [.long (mNum (J 23) (pa0) (pa1))]) (rest := []) hx hb hml hown ht (mk_X11_isHouse_1 l D q cA F _ _ _ hI (mNum (J 23) (pa0) (pa1))) hw_6_176 hmX11_isHouse ⟨rfl, rfl⟩ (na := 1) rfl (by decide +kernel) (by decide) (by decide) rfl rfl hK hP hD hS hA hl.1 rfl (Nat.le_of_ble_eq_true rfl) ⟨Nat.zero_le _, Nat.zero_le _⟩ dX11_isRowPaper_7 (fun r_2 I_2 R_2 J_2 H locs hp_2 hP hD hS _ _ => ?_)
  rcases hp_2 with ⟨rfl, hu_2, f0_2⟩ | ⟨rfl, hu_2⟩
  · cases hu_2
    refine lv_if_eq (tgt := 68) hx hb dX11_isRowPaper_10 (by decide) (fun c_0 => absurd c_0 (zD_ne zk_1 zk_z (by decide))) (fun _ => ?_)
    refine lv_aload_n hx hb dX11_isRowPaper_13 rfl (lv_at hl 0 rfl) ?_
    refine lv_aload_n hx hb dX11_isRowPaper_14 rfl (lv_at hl 0 rfl) ?_
    refine lv_iload_n hx hb dX11_isRowPaper_15 rfl (lv_at hl 1 rfl) ?_
    refine lv_iload_n hx hb dX11_isRowPaper_16 rfl (lv_at hl 2 rfl) ?_
    refine lv_iconst (v := nI 1) hx hb dX11_isRowPaper_17 (by decide +kernel) ?_
    refine lv_iadd hx hb dX11_isRowPaper_18 ?_
    refine z_addc 1 57 hpa1 zk_1 (by decide) (fun v_3 hv_3 mv_3 => ?_)
    refine z_callVl (k := 0) (As := [.int (pa0), .int (v_3)]) (rest := [.ref (q 0)]) hx hb hml hown ht (mk_X11_numberAt l D q cA F _ _ _ hI (pa0) hpa0 (v_3) (zR_w hv_3 (by decide))) hw_8_83 hmX11_numberAt ⟨rfl, rfl⟩ (na := 2) rfl (by decide +kernel) (by decide) (by decide) rfl rfl hK hP hD hS hA hl.1 rfl (Nat.le_of_ble_eq_true rfl) ⟨Nat.zero_le _, Nat.zero_le _⟩ dX11_isRowPaper_19 (fun r_4 I_4 R_4 J_4 H locs hp_4 hP hD hS _ _ => ?_)
    obtain ⟨rfl, hu_4⟩ := hp_4
    cases hu_4
    refine z_callVi (k := 0) (As := [.long (mNum (J 23) (pa0) (v_3))]) (rest := []) hx hb hml hown ht (mk_X11_isThing_1 l D q cA F _ _ _ hI (mNum (J 23) (pa0) (v_3))) hw_6_238 hmX11_isThing ⟨rfl, rfl⟩ (na := 1) rfl (by decide +kernel) (by decide) (by decide) rfl rfl hK hP hD hS hA hl.1 rfl (Nat.le_of_ble_eq_true rfl) ⟨Nat.zero_le _, Nat.zero_le _⟩ dX11_isRowPaper_22 (fun r_5 I_5 R_5 J_5 H locs hp_5 hP hD hS _ _ => ?_)
    rcases hp_5 with ⟨rfl, hu_5, f0_5⟩ | ⟨rfl, hu_5⟩
    · cases hu_5
      refine lv_if_eq (tgt := 68) hx hb dX11_isRowPaper_25 (by decide) (fun c_0 => absurd c_0 (zD_ne zk_1 zk_z (by decide))) (fun _ => ?_)
      refine lv_aload_n hx hb dX11_isRowPaper_28 rfl (lv_at hl 0 rfl) ?_
      refine lv_iload_n hx hb dX11_isRowPaper_29 rfl (lv_at hl 1 rfl) ?_
      refine lv_iload_n hx hb dX11_isRowPaper_30 rfl (lv_at hl 2 rfl) ?_
      refine lv_iconst (v := nI 2) hx hb dX11_isRowPaper_31 (by decide +kernel) ?_
      refine lv_iadd hx hb dX11_isRowPaper_32 ?_
      refine z_addc 2 58 hpa1 zk_2 (by decide) (fun v_6 hv_6 mv_6 => ?_)
      refine z_callVl (k := 0) (As := [.int (pa0), .int (v_6)]) (rest := []) hx hb hml hown ht (mk_X11_numberAt l D q cA F _ _ _ hI (pa0) hpa0 (v_6) (zR_w hv_6 (by decide))) hw_8_83 hmX11_numberAt ⟨rfl, rfl⟩ (na := 2) rfl (by decide +kernel) (by decide) (by decide) rfl rfl hK hP hD hS hA hl.1 rfl (Nat.le_of_ble_eq_true rfl) ⟨Nat.zero_le _, Nat.zero_le _⟩ dX11_isRowPaper_33 (fun r_7 I_7 R_7 J_7 H locs hp_7 hP hD hS _ _ => ?_)
      obtain ⟨rfl, hu_7⟩ := hp_7
      cases hu_7
      refine lv_lconst (v := (0 : Int64)) hx hb dX11_isRowPaper_36 (by decide +kernel) ?_
      refine lv_ldc2 (v := (9999 : Int64)) hx hb hown (ht _ hw_8_87) dX11_isRowPaper_37 ?_
      refine z_callSi (As := [.long (mNum (J 23) (pa0) (v_6)), .long ((0 : Int64)), .long ((9999 : Int64))]) (rest := []) hx hb hml hown ht (mk_X11_in l D q cA F _ _ _ hI (mNum (J 23) (pa0) (v_6)) ((0 : Int64)) ((9999 : Int64))) hw_6_86 hmX11_in ⟨rfl, rfl⟩ (na := 3) rfl (by decide +kernel) (by decide) hK hP hD hS hA hl.1 rfl (Nat.le_of_ble_eq_true rfl) ⟨Nat.zero_le _, Nat.zero_le _⟩ dX11_isRowPaper_40 (fun r_8 I_8 R_8 J_8 H locs hp_8 hP hD hS _ _ => ?_)
      rcases hp_8 with ⟨rfl, hu_8, h1_8, h2_8⟩ | ⟨rfl, hu_8, h1_8 | h2_8⟩
      · cases hu_8
        have f_9 : zL 0 9223372036854775807 (mNum (J 23) (pa0) (v_6)) := zL_ley h1_8 zkl_0 (zL_any (mNum (J 23) (pa0) (v_6))) (by decide)
        have f_10 : zL 0 9999 (mNum (J 23) (pa0) (v_6)) := zL_lex h2_8 f_9 zkl_9999 (by decide)
        refine lv_if_eq (tgt := 68) hx hb dX11_isRowPaper_43 (by decide) (fun c_0 => absurd c_0 (zD_ne zk_1 zk_z (by decide))) (fun _ => ?_)
        refine lv_aload_n hx hb dX11_isRowPaper_46 rfl (lv_at hl 0 rfl) ?_
        refine lv_iload_n hx hb dX11_isRowPaper_47 rfl (lv_at hl 1 rfl) ?_
        refine lv_iload_n hx hb dX11_isRowPaper_48 rfl (lv_at hl 2 rfl) ?_
        refine lv_iconst (v := nI 3) hx hb dX11_isRowPaper_49 (by decide +kernel) ?_
        refine lv_iadd hx hb dX11_isRowPaper_50 ?_
        refine z_addc 3 59 hpa1 zk_3 (by decide) (fun v_11 hv_11 mv_11 => ?_)
        refine z_callVl (k := 0) (As := [.int (pa0), .int (v_11)]) (rest := []) hx hb hml hown ht (mk_X11_numberAt l D q cA F _ _ _ hI (pa0) hpa0 (v_11) (zR_w hv_11 (by decide))) hw_8_83 hmX11_numberAt ⟨rfl, rfl⟩ (na := 2) rfl (by decide +kernel) (by decide) (by decide) rfl rfl hK hP hD hS hA hl.1 rfl (Nat.le_of_ble_eq_true rfl) ⟨Nat.zero_le _, Nat.zero_le _⟩ dX11_isRowPaper_51 (fun r_12 I_12 R_12 J_12 H locs hp_12 hP hD hS _ _ => ?_)
        obtain ⟨rfl, hu_12⟩ := hp_12
        cases hu_12
        refine lv_lconst (v := (1 : Int64)) hx hb dX11_isRowPaper_54 (by decide +kernel) ?_
        refine lv_ldc2 (v := (60 : Int64)) hx hb hown (ht _ hw_7_39) dX11_isRowPaper_55 ?_
        refine z_callSi (As := [.long (mNum (J 23) (pa0) (v_11)), .long ((1 : Int64)), .long ((60 : Int64))]) (rest := []) hx hb hml hown ht (mk_X11_in l D q cA F _ _ _ hI (mNum (J 23) (pa0) (v_11)) ((1 : Int64)) ((60 : Int64))) hw_6_86 hmX11_in ⟨rfl, rfl⟩ (na := 3) rfl (by decide +kernel) (by decide) hK hP hD hS hA hl.1 rfl (Nat.le_of_ble_eq_true rfl) ⟨Nat.zero_le _, Nat.zero_le _⟩ dX11_isRowPaper_58 (fun r_13 I_13 R_13 J_13 H locs hp_13 hP hD hS _ _ => ?_)
        rcases hp_13 with ⟨rfl, hu_13, h1_13, h2_13⟩ | ⟨rfl, hu_13, h1_13 | h2_13⟩
        · cases hu_13
          have f_14 : zL 1 9223372036854775807 (mNum (J 23) (pa0) (v_11)) := zL_ley h1_13 zkl_1 (zL_any (mNum (J 23) (pa0) (v_11))) (by decide)
          have f_15 : zL 1 60 (mNum (J 23) (pa0) (v_11)) := zL_lex h2_13 f_14 zkl_60 (by decide)
          refine lv_if_eq (tgt := 68) hx hb dX11_isRowPaper_61 (by decide) (fun c_0 => absurd c_0 (zD_ne zk_1 zk_z (by decide))) (fun _ => ?_)
          refine lv_iconst (v := nI 1) hx hb dX11_isRowPaper_64 (by decide +kernel) ?_
          refine lv_goto (tgt := 69) hx hb dX11_isRowPaper_65 (by decide) ?_
          exact z_zret (v := nI 1) hx hb hr hlocks hP hD hS (by decide +kernel) dX11_isRowPaper_69 (Or.inl ⟨rfl, rfl, (mOk_of hpa1 (by decide) mv_3 f0_5)⟩)
        · cases hu_13
          have f_16 : zL (-9223372036854775808) 0 (mNum (J 23) (pa0) (v_11)) := zL_ltx h1_13 (zL_any (mNum (J 23) (pa0) (v_11))) zkl_1 (by decide)
          refine lv_if_eq (tgt := 68) hx hb dX11_isRowPaper_61 (by decide) (fun _ => ?_) (fun c_0 => absurd (zD_eq zk_0 zk_z) c_0)
          refine lv_iconst (v := nI 0) hx hb dX11_isRowPaper_68 (by decide +kernel) ?_
          exact z_zret (v := nI 0) hx hb hr hlocks hP hD hS (by decide +kernel) dX11_isRowPaper_69 (Or.inr ⟨rfl, rfl, trivial⟩)
        · cases hu_13
          have f_17 : zL 61 9223372036854775807 (mNum (J 23) (pa0) (v_11)) := zL_lty h2_13 zkl_60 (zL_any (mNum (J 23) (pa0) (v_11))) (by decide)
          refine lv_if_eq (tgt := 68) hx hb dX11_isRowPaper_61 (by decide) (fun _ => ?_) (fun c_0 => absurd (zD_eq zk_0 zk_z) c_0)
          refine lv_iconst (v := nI 0) hx hb dX11_isRowPaper_68 (by decide +kernel) ?_
          exact z_zret (v := nI 0) hx hb hr hlocks hP hD hS (by decide +kernel) dX11_isRowPaper_69 (Or.inr ⟨rfl, rfl, trivial⟩)
      · cases hu_8
        have f_18 : zL (-9223372036854775808) (-1) (mNum (J 23) (pa0) (v_6)) := zL_ltx h1_8 (zL_any (mNum (J 23) (pa0) (v_6))) zkl_0 (by decide)
        refine lv_if_eq (tgt := 68) hx hb dX11_isRowPaper_43 (by decide) (fun _ => ?_) (fun c_0 => absurd (zD_eq zk_0 zk_z) c_0)
        refine lv_iconst (v := nI 0) hx hb dX11_isRowPaper_68 (by decide +kernel) ?_
        exact z_zret (v := nI 0) hx hb hr hlocks hP hD hS (by decide +kernel) dX11_isRowPaper_69 (Or.inr ⟨rfl, rfl, trivial⟩)
      · cases hu_8
        have f_19 : zL 10000 9223372036854775807 (mNum (J 23) (pa0) (v_6)) := zL_lty h2_8 zkl_9999 (zL_any (mNum (J 23) (pa0) (v_6))) (by decide)
        refine lv_if_eq (tgt := 68) hx hb dX11_isRowPaper_43 (by decide) (fun _ => ?_) (fun c_0 => absurd (zD_eq zk_0 zk_z) c_0)
        refine lv_iconst (v := nI 0) hx hb dX11_isRowPaper_68 (by decide +kernel) ?_
        exact z_zret (v := nI 0) hx hb hr hlocks hP hD hS (by decide +kernel) dX11_isRowPaper_69 (Or.inr ⟨rfl, rfl, trivial⟩)
    · cases hu_5
      refine lv_if_eq (tgt := 68) hx hb dX11_isRowPaper_25 (by decide) (fun _ => ?_) (fun c_0 => absurd (zD_eq zk_0 zk_z) c_0)
      refine lv_iconst (v := nI 0) hx hb dX11_isRowPaper_68 (by decide +kernel) ?_
      exact z_zret (v := nI 0) hx hb hr hlocks hP hD hS (by decide +kernel) dX11_isRowPaper_69 (Or.inr ⟨rfl, rfl, trivial⟩)
  · cases hu_2
    refine lv_if_eq (tgt := 68) hx hb dX11_isRowPaper_10 (by decide) (fun _ => ?_) (fun c_0 => absurd (zD_eq zk_0 zk_z) c_0)
    refine lv_iconst (v := nI 0) hx hb dX11_isRowPaper_68 (by decide +kernel) ?_
    exact z_zret (v := nI 0) hx hb hr hlocks hP hD hS (by decide +kernel) dX11_isRowPaper_69 (Or.inr ⟨rfl, rfl, trivial⟩)
set_option maxHeartbeats 4000000 in
set_option maxRecDepth 100000 in
theorem mk_X11_asksPapers (l : Launch) (D : va_G) (q : Nat → Nat) (cA : Nat → ClassId) (F : Nat → Nat → Int32) (I R : Nat → Nat → Int32) (J : Nat → Nat → Int64) (hI : mInv F (I, R, J)) (pa0 : Int32) : zMi l D vwCl (zMtys cA) 25 q (zMd q cA) yX11_asksPapers cX11_asksPapers 3 (some .int) ({ frames := 6, cells := 0, slots := 0, locals := 155 } : Room) [.ref (q 0), .int (pa0)] (I, R, J) (fun r u => (r = nI 0 ∧ mInv F u ∧ u.2.2 = J ∧ zR 0 3 pa0 ∧ mSound F J pa0) ∨ (zR (-2147483648) (-1) r ∧ mInv F u)) := by
  intro sz
  refine z_body (by decide +kernel) (Nat.le_of_ble_eq_true rfl) (fun p e s m below meth c ls hx hb hml hr ht hown hlocks hsz hK hP hD hS hl => ?_)
  have hA : ∀ a, s.heap.size ≤ a → zA 25 q sz a := fun a h => Or.inr (hsz ▸ h)
  have hl : lv_has ls 3 [(0, .ref (q 0)), (1, .int (pa0))] := hl
  refine lv_iload_n hx hb dX11_asksPapers_0 rfl (lv_at hl 1 rfl) ?_
  refine z_callSi (As := [.int (pa0)]) (rest := []) hx hb hml hown ht (mk_X11_isSlot l D q cA F _ _ _ hI (pa0)) hw_8_76 hmX11_isSlot ⟨rfl, rfl⟩ (na := 1) rfl (by decide +kernel) (by decide) hK hP hD hS hA hl.1 rfl (Nat.le_of_ble_eq_true rfl) ⟨Nat.zero_le _, Nat.zero_le _⟩ dX11_asksPapers_1 (fun r_1 I_1 R_1 J_1 H locs hp_1 hP hD hS _ _ => ?_)
  rcases hp_1 with ⟨rfl, hu_1, f0_1⟩ | ⟨rfl, hu_1, nn_1⟩
  · cases hu_1
    refine lv_if_eq (tgt := 14) hx hb dX11_asksPapers_4 (by decide) (fun c_0 => absurd c_0 (zD_ne zk_1 zk_z (by decide))) (fun _ => ?_)
    refine lv_aload_n hx hb dX11_asksPapers_7 rfl (lv_at hl 0 rfl) ?_
    refine z_callVi (k := 0) (As := []) (rest := []) hx hb hml hown ht (mk_X11_isCity l D q cA F _ _ _ hI ) hw_7_75 hmX11_isCity ⟨rfl, rfl⟩ (na := 0) rfl (by decide +kernel) (by decide) (by decide) rfl rfl hK hP hD hS hA hl.1 rfl (Nat.le_of_ble_eq_true rfl) ⟨Nat.zero_le _, Nat.zero_le _⟩ dX11_asksPapers_8 (fun r_2 I_2 R_2 J_2 H locs hp_2 hP hD hS _ _ => ?_)
    rcases hp_2 with ⟨rfl, hu_2⟩ | ⟨rfl, hu_2⟩
    · cases hu_2
      refine lv_if_ne (tgt := 17) hx hb dX11_asksPapers_11 (by decide) (fun _ => ?_) (fun c_0 => absurd c_0 (zD_ne zk_1 zk_z (by decide)))
      refine lv_aload_n hx hb dX11_asksPapers_17 rfl (lv_at hl 0 rfl) ?_
      refine z_get hx hb ht hown hK hP ziX11 rfl 0 (by decide) 40 (by decide) hw_5_227 rfl (v := .ref (q 21)) rfl dX11_asksPapers_18 ?_
      refine lv_iload_n hx hb dX11_asksPapers_21 rfl (lv_at hl 1 rfl) ?_
      refine z_iald hx hb hK hP 21 (by decide) 20 rfl rfl (zR_vin f0_1 (by decide)) dX11_asksPapers_22 ?_
      refine z_eqi (y := R 21 (pa0).toNatClampNeg) rfl ?_
      have f_3 : zR (-1) 60 (R 21 (pa0).toNatClampNeg) := mR hI 21 (pa0).toNatClampNeg
      refine lv_iconst (v := (-1)) hx hb dX11_asksPapers_23 (by decide +kernel) ?_
      refine lv_icmp_ne (tgt := 30) hx hb dX11_asksPapers_24 (by decide) (fun c_4 => ?_) (fun c_4 => ?_)
      · have t_c_4 := z_eqF c_4
        have f_5 : zR 0 60 (R 21 (pa0).toNatClampNeg) := zR_nex t_c_4 f_3 zk_m1 (by decide)
        refine lv_aload_n hx hb dX11_asksPapers_30 rfl (lv_at hl 0 rfl) ?_
        refine z_get hx hb ht hown hK hP ziX11 rfl 0 (by decide) 40 (by decide) hw_5_227 rfl (v := .ref (q 21)) rfl dX11_asksPapers_31 ?_
        refine lv_iload_n hx hb dX11_asksPapers_34 rfl (lv_at hl 1 rfl) ?_
        refine z_iald hx hb hK hP 21 (by decide) 20 rfl rfl (zR_vin f0_1 (by decide)) dX11_asksPapers_35 ?_
        refine z_eqi (y := R 21 (pa0).toNatClampNeg) rfl ?_
        refine lv_iconst (v := nI 4) hx hb dX11_asksPapers_36 (by decide +kernel) ?_
        refine lv_irem hx hb dX11_asksPapers_37 (by decide +kernel) ?_
        refine lv_topi (fun v_6 ev_6 => ?_)
        have hv_6 : zR 0 3 v_6 := ev_6 ▸ zR_rem f_5 zk_4 (by decide)
        refine lv_if_eq (tgt := 44) hx hb dX11_asksPapers_38 (by decide) (fun c_7 => ?_) (fun c_7 => ?_)
        · have t_c_7 := z_eqT c_7
          have f_8 : zR 0 0 (v_6) := zR_eqx t_c_7 zk_z
          refine lv_iconst (v := nI 0) hx hb dX11_asksPapers_44 (by decide +kernel) ?_
          refine lv_istore_n (lv' := [(2, .int (nI 0)), (0, .ref (q 0)), (1, .int (pa0))]) hx hb dX11_asksPapers_45 rfl hl (by decide) rfl (fun ls hl => ?_)
          have loop_45 : ∀ N : Nat, ∀ x_43 : Int32, zR 0 60 x_43 → (xFour (x_43) ∧ mSnd (J 23) (pa0) (x_43)) → (2147483648 - (x_43).toInt).toNat < N → ∀ (H : Heap) (locs : List Loc), va_P D vwCl (zw 25 q (zMd q cA) I R J) H → va_D (zA 25 q sz) (zw 25 q (zMd q cA) I R J) → va_S (zA 25 q sz) s.heap H locs → ∀ ls : Array Slot, lv_has ls 3 [(0, .ref (q 0)), (1, .int (pa0)), (2, .int (x_43))] → W p l e ({ frames := 6, cells := 0, slots := 0, locals := 155 } : Room) s m ([.ref (q 0), .int (pa0)] : List Value).toArray below meth c H locs 0 0 (MQ below (va_Qi (fun r u => (r = nI 0 ∧ mInv F u ∧ u.2.2 = J ∧ zR 0 3 pa0 ∧ mSound F J pa0) ∨ (zR (-2147483648) (-1) r ∧ mInv F u)) (zB D vwCl 25 q (zMd q cA) sz) (zA 25 q sz)) ([.ref (q 0), .int (pa0)] : List Value).toArray s 0 0 (zA 25 q sz)) (F0 m 46 ls []) := by
            intro N
            induction N with
            | zero => intro x_43 hx_43 hx_44 hN; exact absurd hN (Nat.not_lt_zero _)
            | succ N ih_47 =>
              intro x_43 hx_43 hx_44 hN_46 H locs hP hD hS ls hl
              refine lv_iload_n hx hb dX11_asksPapers_46 rfl (lv_at hl 2 rfl) ?_
              refine lv_aload_n hx hb dX11_asksPapers_47 rfl (lv_at hl 0 rfl) ?_
              refine z_get hx hb ht hown hK hP ziX11 rfl 0 (by decide) 40 (by decide) hw_5_227 rfl (v := .ref (q 21)) rfl dX11_asksPapers_48 ?_
              refine lv_iload_n hx hb dX11_asksPapers_51 rfl (lv_at hl 1 rfl) ?_
              refine z_iald hx hb hK hP 21 (by decide) 20 rfl rfl (zR_vin f0_1 (by decide)) dX11_asksPapers_52 ?_
              refine z_eqi (y := R 21 (pa0).toNatClampNeg) rfl ?_
              refine lv_icmp_ge (tgt := 74) hx hb dX11_asksPapers_53 (by decide) (fun c_48 => ?_) (fun c_48 => ?_)
              · have t_c_48 := z_leT c_48
                refine lv_aload_n hx hb dX11_asksPapers_74 rfl (lv_at hl 0 rfl) ?_
                refine z_callVv (k := 0) (As := []) (rest := []) hx hb hml hown ht (mk_X11_asItIs l D q cA F _ _ _ hI ) hw_6_181 hmX11_asItIs ⟨rfl, rfl⟩ (na := 0) rfl (by decide +kernel) (by decide) (by decide) rfl rfl hK hP hD hS hA hl.1 rfl (Nat.le_of_ble_eq_true rfl) ⟨Nat.zero_le _, Nat.zero_le _⟩ dX11_asksPapers_75 (fun I_49 R_49 J_49 H locs hp_49 hP hD hS _ _ => ?_)
                obtain ⟨hv_49, hj_49, hs_49⟩ := hp_49
                try dsimp only at hj_49
                subst J_49
                refine lv_iconst (v := nI 0) hx hb dX11_asksPapers_78 (by decide +kernel) ?_
                exact z_iret (v := nI 0) hx hb hr hlocks hP hD hS dX11_asksPapers_79 (Or.inl ⟨rfl, hv_49, rfl, f0_1, mSound_of hx_44.2 t_c_48 (mFr hI 21 rfl) (mq_rem f_5 ev_6 t_c_7)⟩)
              · have t_c_48 := z_leF c_48
                have f_50 : zR 0 59 (x_43) := zR_ltx t_c_48 hx_43 f_5 (by decide)
                have f_51 : zR 1 60 (R 21 (pa0).toNatClampNeg) := zR_lty t_c_48 hx_43 f_5 (by decide)
                have f_52 : zR 0 56 (x_43) := m_four hx_44.1 f_50 t_c_48 (mq_rem (zR_w f_51 (by decide)) ev_6 t_c_7) (zR_w f_51 (by decide))
                refine lv_aload_n hx hb dX11_asksPapers_56 rfl (lv_at hl 0 rfl) ?_
                refine lv_iload_n hx hb dX11_asksPapers_57 rfl (lv_at hl 1 rfl) ?_
                refine lv_iload_n hx hb dX11_asksPapers_58 rfl (lv_at hl 2 rfl) ?_
                refine z_callVi (k := 0) (As := [.int (pa0), .int (x_43)]) (rest := []) hx hb hml hown ht (mk_X11_isRowPaper_1 l D q cA F _ _ _ hI (pa0) f0_1 (x_43) f_52) hw_8_79 hmX11_isRowPaper ⟨rfl, rfl⟩ (na := 2) rfl (by decide +kernel) (by decide) (by decide) rfl rfl hK hP hD hS hA hl.1 rfl (Nat.le_of_ble_eq_true rfl) ⟨Nat.zero_le _, Nat.zero_le _⟩ dX11_asksPapers_59 (fun r_53 I_53 R_53 J_53 H locs hp_53 hP hD hS _ _ => ?_)
                rcases hp_53 with ⟨rfl, hu_53, nn_53⟩ | ⟨rfl, hu_53, nn_53⟩
                · cases hu_53
                  refine lv_if_ne (tgt := 68) hx hb dX11_asksPapers_62 (by decide) (fun _ => ?_) (fun c_0 => absurd c_0 (zD_ne zk_1 zk_z (by decide)))
                  obtain ⟨v_54, ev_54⟩ : ∃ y : Int32, y = x_43 + nI 4 := ⟨_, rfl⟩
                  have hv_54 : zR 4 60 v_54 := ev_54 ▸ zR_add f_52 zk_4 (by decide)
                  have mv_54 : v_54.toInt = (x_43).toInt + 4 := by rw [ev_54, zR_addE f_52 zk_4 (by decide)]; rfl
                  refine lv_iinc (v := v_54) (lv' := [(2, .int (v_54)), (0, .ref (q 0)), (1, .int (pa0))]) hx hb dX11_asksPapers_68 hl (k := 2) rfl (ev_54 ▸ rfl) (by decide) rfl (fun ls hl => ?_)
                  refine lv_goto (tgt := 46) hx hb dX11_asksPapers_71 (by decide) ?_
                  exact ih_47 (v_54) (zR_w hv_54 (by decide)) ⟨xFour_s hx_44.1 mv_54, mSnd_s hx_44.1 hx_44.2 mv_54 nn_53⟩ (z2_up mv_54 (by decide) hN_46) _ _ hP hD hS _ (lv_sub hl [1, 2, 0] rfl)
                · cases hu_53
                  refine lv_if_ne (tgt := 68) hx hb dX11_asksPapers_62 (by decide) (fun c_0 => absurd (zD_eq zk_0 zk_z) c_0) (fun _ => ?_)
                  refine lv_bipush (v := (-2)) hx hb dX11_asksPapers_65 (by decide +kernel) ?_
                  exact z_iret (v := (-2)) hx hb hr hlocks hP hD hS dX11_asksPapers_67 (Or.inr ⟨(zR_w zk_m2 (by decide)), hI⟩)
          exact loop_45 _ (nI 0) (zR_w zk_0 (by decide)) ⟨xFour_0, mSnd_0⟩ (Nat.lt_succ_self _) _ _ hP hD hS _ (lv_sub hl [1, 2, 0] rfl)
        · have t_c_7 := z_eqF c_7
          have f_55 : zR 1 3 (v_6) := zR_nex t_c_7 hv_6 zk_z (by decide)
          refine lv_bipush (v := (-2)) hx hb dX11_asksPapers_41 (by decide +kernel) ?_
          exact z_iret (v := (-2)) hx hb hr hlocks hP hD hS dX11_asksPapers_43 (Or.inr ⟨(zR_w zk_m2 (by decide)), hI⟩)
      · have t_c_4 := z_eqT c_4
        have f_56 : zR (-1) (-1) (R 21 (pa0).toNatClampNeg) := zR_eqx t_c_4 zk_m1
        refine lv_bipush (v := (-6)) hx hb dX11_asksPapers_27 (by decide +kernel) ?_
        exact z_iret (v := (-6)) hx hb hr hlocks hP hD hS dX11_asksPapers_29 (Or.inr ⟨(zR_w zk_m6 (by decide)), hI⟩)
    · cases hu_2
      refine lv_if_ne (tgt := 17) hx hb dX11_asksPapers_11 (by decide) (fun c_0 => absurd (zD_eq zk_0 zk_z) c_0) (fun _ => ?_)
      refine lv_bipush (v := (-2)) hx hb dX11_asksPapers_14 (by decide +kernel) ?_
      exact z_iret (v := (-2)) hx hb hr hlocks hP hD hS dX11_asksPapers_16 (Or.inr ⟨(zR_w zk_m2 (by decide)), hI⟩)
  · cases hu_1
    refine lv_if_eq (tgt := 14) hx hb dX11_asksPapers_4 (by decide) (fun _ => ?_) (fun c_0 => absurd (zD_eq zk_0 zk_z) c_0)
    refine lv_bipush (v := (-2)) hx hb dX11_asksPapers_14 (by decide +kernel) ?_
    exact z_iret (v := (-2)) hx hb hr hlocks hP hD hS dX11_asksPapers_16 (Or.inr ⟨(zR_w zk_m2 (by decide)), hI⟩)
set_option maxHeartbeats 4000000 in
set_option maxRecDepth 100000 in
theorem mk_X11_fitsRow_3 (l : Launch) (D : va_G) (q : Nat → Nat) (cA : Nat → ClassId) (F : Nat → Nat → Int32) (I R : Nat → Nat → Int32) (J : Nat → Nat → Int64) (hI : mInv F (I, R, J)) (pa0 : Int32) (hpa0 : zR 0 3 pa0) (pa1 : Int32) (hpa1 : zR 0 56 pa1) (pa2 : Int32) (hpa2 : zR 0 23 pa2) (pa3 : Int32) (hpa3 : zR 0 1 pa3) : zMi l D vwCl (zMtys cA) 25 q (zMd q cA) yX11_fitsRow cX11_fitsRow 5 (some .boolean) ({ frames := 2, cells := 0, slots := 0, locals := 42 } : Room) [.ref (q 0), .int (pa0), .int (pa1), .int (pa2), .int (pa3)] (I, R, J) (fun r u => (r = nI 1 ∧ u = (I, R, J)) ∨ (r = nI 0 ∧ u = (I, R, J))) := by
  intro sz
  refine z_body (by decide +kernel) (Nat.le_of_ble_eq_true rfl) (fun p e s m below meth c ls hx hb hml hr ht hown hlocks hsz hK hP hD hS hl => ?_)
  have hA : ∀ a, s.heap.size ≤ a → zA 25 q sz a := fun a h => Or.inr (hsz ▸ h)
  have hl : lv_has ls 5 [(0, .ref (q 0)), (1, .int (pa0)), (2, .int (pa1)), (3, .int (pa2)), (4, .int (pa3))] := hl
  refine lv_aload_n hx hb dX11_fitsRow_0 rfl (lv_at hl 0 rfl) ?_
  refine lv_iload_n hx hb dX11_fitsRow_1 rfl (lv_at hl 3 rfl) ?_
  refine z_callVi (k := 0) (As := [.int (pa2)]) (rest := []) hx hb hml hown ht (mk_X11_isOpen_1 l D q cA F _ _ _ hI (pa2) hpa2) hw_6_230 hmX11_isOpen ⟨rfl, rfl⟩ (na := 1) rfl (by decide +kernel) (by decide) (by decide) rfl rfl hK hP hD hS hA hl.1 rfl (Nat.le_of_ble_eq_true rfl) ⟨Nat.zero_le _, Nat.zero_le _⟩ dX11_fitsRow_2 (fun r_1 I_1 R_1 J_1 H locs hp_1 hP hD hS _ _ => ?_)
  rcases hp_1 with ⟨rfl, hu_1⟩ | ⟨rfl, hu_1⟩
  · cases hu_1
    refine lv_if_eq (tgt := 90) hx hb dX11_fitsRow_5 (by decide) (fun c_0 => absurd c_0 (zD_ne zk_1 zk_z (by decide))) (fun _ => ?_)
    refine lv_aload_n hx hb dX11_fitsRow_8 rfl (lv_at hl 0 rfl) ?_
    refine z_get hx hb ht hown hK hP ziX11 rfl 0 (by decide) 18 (by decide) hw_5_205 rfl (v := .ref (q 10)) rfl dX11_fitsRow_9 ?_
    refine lv_iload_n hx hb dX11_fitsRow_12 rfl (lv_at hl 3 rfl) ?_
    refine z_iald hx hb hK hP 10 (by decide) 9 rfl rfl (zR_vin hpa2 (by decide)) dX11_fitsRow_13 ?_
    refine z_eqi (y := R 10 (pa2).toNatClampNeg) rfl ?_
    have f_2 : zR 0 4 (R 10 (pa2).toNatClampNeg) := mR hI 10 (pa2).toNatClampNeg
    refine lv_i2l (v := (R 10 (pa2).toNatClampNeg).toInt64) hx hb dX11_fitsRow_14 rfl ?_
    refine lv_aload_n hx hb dX11_fitsRow_15 rfl (lv_at hl 0 rfl) ?_
    refine lv_iload_n hx hb dX11_fitsRow_16 rfl (lv_at hl 1 rfl) ?_
    refine lv_iload_n hx hb dX11_fitsRow_17 rfl (lv_at hl 2 rfl) ?_
    refine z_callVl (k := 0) (As := [.int (pa0), .int (pa1)]) (rest := [.long ((R 10 (pa2).toNatClampNeg).toInt64)]) hx hb hml hown ht (mk_X11_numberAt l D q cA F _ _ _ hI (pa0) hpa0 (pa1) (zR_w hpa1 (by decide))) hw_8_83 hmX11_numberAt ⟨rfl, rfl⟩ (na := 2) rfl (by decide +kernel) (by decide) (by decide) rfl rfl hK hP hD hS hA hl.1 rfl (Nat.le_of_ble_eq_true rfl) ⟨Nat.zero_le _, Nat.zero_le _⟩ dX11_fitsRow_18 (fun r_3 I_3 R_3 J_3 H locs hp_3 hP hD hS _ _ => ?_)
    obtain ⟨rfl, hu_3⟩ := hp_3
    cases hu_3
    refine W.lcmp hx hb dX11_fitsRow_21 ?_
    refine lv_if_ne (tgt := 90) hx hb dX11_fitsRow_22 (by decide) (fun c_4 => ?_) (fun c_4 => ?_)
    · have t_c_4 := z_leqF (fun h => c_4 ((lg_cmp_eq _ _).mpr h))
      refine lv_iconst (v := nI 0) hx hb dX11_fitsRow_90 (by decide +kernel) ?_
      exact z_zret (v := nI 0) hx hb hr hlocks hP hD hS (by decide +kernel) dX11_fitsRow_91 (Or.inr ⟨rfl, rfl⟩)
    · have t_c_4 := z_leqT ((lg_cmp_eq _ _).mp c_4)
      have f_5 : zL 0 4 (mNum (J 23) (pa0) (pa1)) := zL_eqy t_c_4 (zR_i2l f_2)
      refine lv_aload_n hx hb dX11_fitsRow_25 rfl (lv_at hl 0 rfl) ?_
      refine z_get hx hb ht hown hK hP ziX11 rfl 0 (by decide) 19 (by decide) hw_5_206 rfl (v := .ref (q 11)) rfl dX11_fitsRow_26 ?_
      refine lv_iload_n hx hb dX11_fitsRow_29 rfl (lv_at hl 3 rfl) ?_
      refine z_iald hx hb hK hP 11 (by decide) 10 rfl rfl (zR_vin hpa2 (by decide)) dX11_fitsRow_30 ?_
      refine z_eqi (y := R 11 (pa2).toNatClampNeg) rfl ?_
      have f_6 : zR 0 5 (R 11 (pa2).toNatClampNeg) := mR hI 11 (pa2).toNatClampNeg
      refine lv_i2l (v := (R 11 (pa2).toNatClampNeg).toInt64) hx hb dX11_fitsRow_31 rfl ?_
      refine lv_aload_n hx hb dX11_fitsRow_32 rfl (lv_at hl 0 rfl) ?_
      refine lv_iload_n hx hb dX11_fitsRow_33 rfl (lv_at hl 1 rfl) ?_
      refine lv_iload_n hx hb dX11_fitsRow_34 rfl (lv_at hl 2 rfl) ?_
      refine lv_iconst (v := nI 1) hx hb dX11_fitsRow_35 (by decide +kernel) ?_
      refine lv_iadd hx hb dX11_fitsRow_36 ?_
      refine z_addc 1 57 hpa1 zk_1 (by decide) (fun v_7 hv_7 mv_7 => ?_)
      refine z_callVl (k := 0) (As := [.int (pa0), .int (v_7)]) (rest := [.long ((R 11 (pa2).toNatClampNeg).toInt64)]) hx hb hml hown ht (mk_X11_numberAt l D q cA F _ _ _ hI (pa0) hpa0 (v_7) (zR_w hv_7 (by decide))) hw_8_83 hmX11_numberAt ⟨rfl, rfl⟩ (na := 2) rfl (by decide +kernel) (by decide) (by decide) rfl rfl hK hP hD hS hA hl.1 rfl (Nat.le_of_ble_eq_true rfl) ⟨Nat.zero_le _, Nat.zero_le _⟩ dX11_fitsRow_37 (fun r_8 I_8 R_8 J_8 H locs hp_8 hP hD hS _ _ => ?_)
      obtain ⟨rfl, hu_8⟩ := hp_8
      cases hu_8
      refine W.lcmp hx hb dX11_fitsRow_40 ?_
      refine lv_if_ne (tgt := 90) hx hb dX11_fitsRow_41 (by decide) (fun c_9 => ?_) (fun c_9 => ?_)
      · have t_c_9 := z_leqF (fun h => c_9 ((lg_cmp_eq _ _).mpr h))
        refine lv_iconst (v := nI 0) hx hb dX11_fitsRow_90 (by decide +kernel) ?_
        exact z_zret (v := nI 0) hx hb hr hlocks hP hD hS (by decide +kernel) dX11_fitsRow_91 (Or.inr ⟨rfl, rfl⟩)
      · have t_c_9 := z_leqT ((lg_cmp_eq _ _).mp c_9)
        have f_10 : zL 0 5 (mNum (J 23) (pa0) (v_7)) := zL_eqy t_c_9 (zR_i2l f_6)
        refine lv_aload_n hx hb dX11_fitsRow_44 rfl (lv_at hl 0 rfl) ?_
        refine z_get hx hb ht hown hK hP ziX11 rfl 0 (by decide) 21 (by decide) hw_5_208 rfl (v := .ref (q 13)) rfl dX11_fitsRow_45 ?_
        refine lv_iload_n hx hb dX11_fitsRow_48 rfl (lv_at hl 3 rfl) ?_
        refine z_iald hx hb hK hP 13 (by decide) 12 rfl rfl (zR_vin hpa2 (by decide)) dX11_fitsRow_49 ?_
        refine z_eqi (y := R 13 (pa2).toNatClampNeg) rfl ?_
        refine lv_i2l (v := (R 13 (pa2).toNatClampNeg).toInt64) hx hb dX11_fitsRow_50 rfl ?_
        refine lv_aload_n hx hb dX11_fitsRow_51 rfl (lv_at hl 0 rfl) ?_
        refine lv_iload_n hx hb dX11_fitsRow_52 rfl (lv_at hl 1 rfl) ?_
        refine lv_iload_n hx hb dX11_fitsRow_53 rfl (lv_at hl 2 rfl) ?_
        refine lv_iconst (v := nI 3) hx hb dX11_fitsRow_54 (by decide +kernel) ?_
        refine lv_iadd hx hb dX11_fitsRow_55 ?_
        refine z_addc 3 59 hpa1 zk_3 (by decide) (fun v_11 hv_11 mv_11 => ?_)
        refine z_callVl (k := 0) (As := [.int (pa0), .int (v_11)]) (rest := [.long ((R 13 (pa2).toNatClampNeg).toInt64)]) hx hb hml hown ht (mk_X11_numberAt l D q cA F _ _ _ hI (pa0) hpa0 (v_11) (zR_w hv_11 (by decide))) hw_8_83 hmX11_numberAt ⟨rfl, rfl⟩ (na := 2) rfl (by decide +kernel) (by decide) (by decide) rfl rfl hK hP hD hS hA hl.1 rfl (Nat.le_of_ble_eq_true rfl) ⟨Nat.zero_le _, Nat.zero_le _⟩ dX11_fitsRow_56 (fun r_12 I_12 R_12 J_12 H locs hp_12 hP hD hS _ _ => ?_)
        obtain ⟨rfl, hu_12⟩ := hp_12
        cases hu_12
        refine W.lcmp hx hb dX11_fitsRow_59 ?_
        refine lv_if_ne (tgt := 90) hx hb dX11_fitsRow_60 (by decide) (fun c_13 => ?_) (fun c_13 => ?_)
        · have t_c_13 := z_leqF (fun h => c_13 ((lg_cmp_eq _ _).mpr h))
          refine lv_iconst (v := nI 0) hx hb dX11_fitsRow_90 (by decide +kernel) ?_
          exact z_zret (v := nI 0) hx hb hr hlocks hP hD hS (by decide +kernel) dX11_fitsRow_91 (Or.inr ⟨rfl, rfl⟩)
        · have t_c_13 := z_leqT ((lg_cmp_eq _ _).mp c_13)
          have f_14 : zL (-2147483648) 2147483647 (mNum (J 23) (pa0) (v_11)) := zL_eqy t_c_13 (zR_i2l (zR_any (R 13 (pa2).toNatClampNeg)))
          refine lv_iload hx hb dX11_fitsRow_63 (lv_at hl 4 rfl) ?_
          refine lv_if_eq (tgt := 86) hx hb dX11_fitsRow_65 (by decide) (fun c_15 => ?_) (fun c_15 => ?_)
          · have t_c_15 := z_eqT c_15
            have f_16 : zR 0 0 (pa3) := zR_eqx t_c_15 zk_z
            refine lv_iconst (v := nI 1) hx hb dX11_fitsRow_86 (by decide +kernel) ?_
            refine lv_goto (tgt := 91) hx hb dX11_fitsRow_87 (by decide) ?_
            exact z_zret (v := nI 1) hx hb hr hlocks hP hD hS (by decide +kernel) dX11_fitsRow_91 (Or.inl ⟨rfl, rfl⟩)
          · have t_c_15 := z_eqF c_15
            have f_17 : zR 1 1 (pa3) := zR_nex t_c_15 hpa3 zk_z (by decide)
            refine lv_aload_n hx hb dX11_fitsRow_68 rfl (lv_at hl 0 rfl) ?_
            refine lv_iload_n hx hb dX11_fitsRow_69 rfl (lv_at hl 3 rfl) ?_
            refine z_callVi (k := 0) (As := [.int (pa2)]) (rest := []) hx hb hml hown ht (mk_X11_worthP_1 l D q cA F _ _ _ hI (pa2) hpa2) hw_6_206 hmX11_worthP ⟨rfl, rfl⟩ (na := 1) rfl (by decide +kernel) (by decide) (by decide) rfl rfl hK hP hD hS hA hl.1 rfl (Nat.le_of_ble_eq_true rfl) ⟨Nat.zero_le _, Nat.zero_le _⟩ dX11_fitsRow_70 (fun r_18 I_18 R_18 J_18 H locs hp_18 hP hD hS _ _ => ?_)
            cases hp_18
            refine lv_i2l (v := (r_18).toInt64) hx hb dX11_fitsRow_73 rfl ?_
            refine lv_aload_n hx hb dX11_fitsRow_74 rfl (lv_at hl 0 rfl) ?_
            refine lv_iload_n hx hb dX11_fitsRow_75 rfl (lv_at hl 1 rfl) ?_
            refine lv_iload_n hx hb dX11_fitsRow_76 rfl (lv_at hl 2 rfl) ?_
            refine lv_iconst (v := nI 2) hx hb dX11_fitsRow_77 (by decide +kernel) ?_
            refine lv_iadd hx hb dX11_fitsRow_78 ?_
            refine z_addc 2 58 hpa1 zk_2 (by decide) (fun v_19 hv_19 mv_19 => ?_)
            refine z_callVl (k := 0) (As := [.int (pa0), .int (v_19)]) (rest := [.long ((r_18).toInt64)]) hx hb hml hown ht (mk_X11_numberAt l D q cA F _ _ _ hI (pa0) hpa0 (v_19) (zR_w hv_19 (by decide))) hw_8_83 hmX11_numberAt ⟨rfl, rfl⟩ (na := 2) rfl (by decide +kernel) (by decide) (by decide) rfl rfl hK hP hD hS hA hl.1 rfl (Nat.le_of_ble_eq_true rfl) ⟨Nat.zero_le _, Nat.zero_le _⟩ dX11_fitsRow_79 (fun r_20 I_20 R_20 J_20 H locs hp_20 hP hD hS _ _ => ?_)
            obtain ⟨rfl, hu_20⟩ := hp_20
            cases hu_20
            refine W.lcmp hx hb dX11_fitsRow_82 ?_
            refine lv_if_ne (tgt := 90) hx hb dX11_fitsRow_83 (by decide) (fun c_21 => ?_) (fun c_21 => ?_)
            · have t_c_21 := z_leqF (fun h => c_21 ((lg_cmp_eq _ _).mpr h))
              refine lv_iconst (v := nI 0) hx hb dX11_fitsRow_90 (by decide +kernel) ?_
              exact z_zret (v := nI 0) hx hb hr hlocks hP hD hS (by decide +kernel) dX11_fitsRow_91 (Or.inr ⟨rfl, rfl⟩)
            · have t_c_21 := z_leqT ((lg_cmp_eq _ _).mp c_21)
              have f_22 : zL (-2147483648) 2147483647 (mNum (J 23) (pa0) (v_19)) := zL_eqy t_c_21 (zR_i2l (zR_any (r_18)))
              refine lv_iconst (v := nI 1) hx hb dX11_fitsRow_86 (by decide +kernel) ?_
              refine lv_goto (tgt := 91) hx hb dX11_fitsRow_87 (by decide) ?_
              exact z_zret (v := nI 1) hx hb hr hlocks hP hD hS (by decide +kernel) dX11_fitsRow_91 (Or.inl ⟨rfl, rfl⟩)
  · cases hu_1
    refine lv_if_eq (tgt := 90) hx hb dX11_fitsRow_5 (by decide) (fun _ => ?_) (fun c_0 => absurd (zD_eq zk_0 zk_z) c_0)
    refine lv_iconst (v := nI 0) hx hb dX11_fitsRow_90 (by decide +kernel) ?_
    exact z_zret (v := nI 0) hx hb hr hlocks hP hD hS (by decide +kernel) dX11_fitsRow_91 (Or.inr ⟨rfl, rfl⟩)
set_option maxHeartbeats 4000000 in
set_option maxRecDepth 100000 in
theorem mk_X11_layFalse (l : Launch) (D : va_G) (q : Nat → Nat) (cA : Nat → ClassId) (F : Nat → Nat → Int32) (I R : Nat → Nat → Int32) (J : Nat → Nat → Int64) (hI : mInv F (I, R, J)) (pa0 : Int32) (hpa0 : zR 0 3 pa0) (hs : mSound F J pa0) : zMv l D vwCl (zMtys cA) 25 q (zMd q cA) yX11_layFalse cX11_layFalse 7 none ({ frames := 3, cells := 0, slots := 0, locals := 66 } : Room) [.ref (q 0), .int (pa0)] (I, R, J) (fun u => (mInv F u ∧ u.2.2 = J)) := by
  intro sz
  refine z_body (by decide +kernel) (Nat.le_of_ble_eq_true rfl) (fun p e s m below meth c ls hx hb hml hr ht hown hlocks hsz hK hP hD hS hl => ?_)
  have hA : ∀ a, s.heap.size ≤ a → zA 25 q sz a := fun a h => Or.inr (hsz ▸ h)
  have hl : lv_has ls 7 [(0, .ref (q 0)), (1, .int (pa0))] := hl
  refine lv_aload_n hx hb dX11_layFalse_0 rfl (lv_at hl 0 rfl) ?_
  refine lv_iconst (v := nI 0) hx hb dX11_layFalse_1 (by decide +kernel) ?_
  refine z_putI hx hb ht hown hK hP hD hS ziX11 tyX11 tyX11_ok nmX11 rfl 0 (by decide) 36 (by decide) hw_5_223 rfl (v := nI 0) rfl rfl rfl (Nat.le_of_ble_eq_true rfl) rfl dX11_layFalse_2 (fun H locs hP hD hS => ?_)
  have hI_1 := mInv_I hI 0 36 (nI 0) (zR_any (nI 0)) rfl
  refine lv_aload_n hx hb dX11_layFalse_5 rfl (lv_at hl 0 rfl) ?_
  refine lv_iconst (v := (-1)) hx hb dX11_layFalse_6 (by decide +kernel) ?_
  refine z_putI hx hb ht hown hK hP hD hS ziX11 tyX11 tyX11_ok nmX11 rfl 0 (by decide) 37 (by decide) hw_5_224 rfl (v := (-1)) rfl rfl rfl (Nat.le_of_ble_eq_true rfl) rfl dX11_layFalse_7 (fun H locs hP hD hS => ?_)
  have hI_2 := mInv_I hI_1 0 37 ((-1)) (zR_any ((-1))) rfl
  refine lv_aload_n hx hb dX11_layFalse_10 rfl (lv_at hl 0 rfl) ?_
  refine lv_iconst (v := nI 0) hx hb dX11_layFalse_11 (by decide +kernel) ?_
  refine z_putI hx hb ht hown hK hP hD hS ziX11 tyX11 tyX11_ok nmX11 rfl 0 (by decide) 38 (by decide) hw_5_225 rfl (v := nI 0) rfl rfl rfl (Nat.le_of_ble_eq_true rfl) rfl dX11_layFalse_12 (fun H locs hP hD hS => ?_)
  have hI_3 := mInv_I hI_2 0 38 (nI 0) (zR_any (nI 0)) rfl
  refine lv_iconst (v := nI 0) hx hb dX11_layFalse_15 (by decide +kernel) ?_
  refine lv_istore_n (lv' := [(2, .int (nI 0)), (0, .ref (q 0)), (1, .int (pa0))]) hx hb dX11_layFalse_16 rfl hl (by decide) rfl (fun ls hl => ?_)
  refine lv_iconst (v := nI 0) hx hb dX11_layFalse_17 (by decide +kernel) ?_
  refine lv_istore_n (lv' := [(3, .int (nI 0)), (2, .int (nI 0)), (0, .ref (q 0)), (1, .int (pa0))]) hx hb dX11_layFalse_18 rfl hl (by decide) rfl (fun ls hl => ?_)
  have loop_565 : ∀ N : Nat, ∀ x_561 : Int32, zR 0 16777215 x_561 → ∀ x_562 : Int32, zR 0 60 x_562 → ∀ I_563 : Nat → Nat → Int32, mInv F (I_563, R, J) → (xFour (x_562)) → (2147483648 - (x_562).toInt).toNat < N → ∀ (H : Heap) (locs : List Loc), va_P D vwCl (zw 25 q (zMd q cA) I_563 R J) H → va_D (zA 25 q sz) (zw 25 q (zMd q cA) I_563 R J) → va_S (zA 25 q sz) s.heap H locs → ∀ ls : Array Slot, lv_has ls 7 [(0, .ref (q 0)), (1, .int (pa0)), (2, .int (x_561)), (3, .int (x_562))] → W p l e ({ frames := 3, cells := 0, slots := 0, locals := 66 } : Room) s m ([.ref (q 0), .int (pa0)] : List Value).toArray below meth c H locs 0 0 (MQ below (va_Qv (fun u => (mInv F u ∧ u.2.2 = J)) (zB D vwCl 25 q (zMd q cA) sz) (zA 25 q sz)) ([.ref (q 0), .int (pa0)] : List Value).toArray s 0 0 (zA 25 q sz)) (F0 m 19 ls []) := by
    intro N
    induction N with
    | zero => intro x_561 hx_561 x_562 hx_562 I_563 hI_563 hx_564 hN; exact absurd hN (Nat.not_lt_zero _)
    | succ N ih_567 =>
      intro x_561 hx_561 x_562 hx_562 I_563 hI_563 hx_564 hN_566 H locs hP hD hS ls hl
      refine lv_iload_n hx hb dX11_layFalse_19 rfl (lv_at hl 3 rfl) ?_
      refine lv_aload_n hx hb dX11_layFalse_20 rfl (lv_at hl 0 rfl) ?_
      refine z_get hx hb ht hown hK hP ziX11 rfl 0 (by decide) 40 (by decide) hw_5_227 rfl (v := .ref (q 21)) rfl dX11_layFalse_21 ?_
      refine lv_iload_n hx hb dX11_layFalse_24 rfl (lv_at hl 1 rfl) ?_
      refine z_iald hx hb hK hP 21 (by decide) 20 rfl rfl (zR_vin hpa0 (by decide)) dX11_layFalse_25 ?_
      refine z_eqi (y := R 21 (pa0).toNatClampNeg) rfl ?_
      have f_568 : zR (-1) 60 (R 21 (pa0).toNatClampNeg) := mR hI 21 (pa0).toNatClampNeg
      refine lv_icmp_ge (tgt := 211) hx hb dX11_layFalse_26 (by decide) (fun c_569 => ?_) (fun c_569 => ?_)
      · have t_c_569 := z_leT c_569
        exact z_vret hx hb hr hlocks hP hD hS dX11_layFalse_211 ⟨hI_563, rfl⟩
      · have t_c_569 := z_leF c_569
        have f_570 : zR 0 59 (x_562) := zR_ltx t_c_569 hx_562 f_568 (by decide)
        have f_571 : zR 1 60 (R 21 (pa0).toNatClampNeg) := zR_lty t_c_569 hx_562 f_568 (by decide)
        have f_572 : zR 0 56 (x_562) := m_four2 hs hx_564 f_570 t_c_569 (mFr hI 21 rfl) (mR hI 21 _)
        refine lv_iconst (v := (-1)) hx hb dX11_layFalse_29 (by decide +kernel) ?_
        refine lv_istore (lv' := [(4, .int ((-1))), (0, .ref (q 0)), (1, .int (pa0)), (2, .int (x_561)), (3, .int (x_562))]) hx hb dX11_layFalse_30 hl (by decide) rfl (fun ls hl => ?_)
        refine lv_iconst (v := nI 0) hx hb dX11_layFalse_32 (by decide +kernel) ?_
        refine lv_istore (lv' := [(5, .int (nI 0)), (4, .int ((-1))), (0, .ref (q 0)), (1, .int (pa0)), (2, .int (x_561)), (3, .int (x_562))]) hx hb dX11_layFalse_33 hl (by decide) rfl (fun ls hl => ?_)
        refine lv_iconst (v := nI 0) hx hb dX11_layFalse_35 (by decide +kernel) ?_
        refine lv_istore (lv' := [(6, .int (nI 0)), (5, .int (nI 0)), (4, .int ((-1))), (0, .ref (q 0)), (1, .int (pa0)), (2, .int (x_561)), (3, .int (x_562))]) hx hb dX11_layFalse_36 hl (by decide) rfl (fun ls hl => ?_)
        have loop_676 : ∀ N : Nat, ∀ x_673 : Int32, zR (-1) 23 x_673 → ∀ x_674 : Int32, zR 0 1 x_674 → ∀ x_675 : Int32, zR 0 24 x_675 → (2147483648 - (x_675).toInt).toNat < N → ∀ (H : Heap) (locs : List Loc), va_P D vwCl (zw 25 q (zMd q cA) I_563 R J) H → va_D (zA 25 q sz) (zw 25 q (zMd q cA) I_563 R J) → va_S (zA 25 q sz) s.heap H locs → ∀ ls : Array Slot, lv_has ls 7 [(0, .ref (q 0)), (1, .int (pa0)), (2, .int (x_561)), (3, .int (x_562)), (4, .int (x_673)), (5, .int (x_674)), (6, .int (x_675))] → W p l e ({ frames := 3, cells := 0, slots := 0, locals := 66 } : Room) s m ([.ref (q 0), .int (pa0)] : List Value).toArray below meth c H locs 0 0 (MQ below (va_Qv (fun u => (mInv F u ∧ u.2.2 = J)) (zB D vwCl 25 q (zMd q cA) sz) (zA 25 q sz)) ([.ref (q 0), .int (pa0)] : List Value).toArray s 0 0 (zA 25 q sz)) (F0 m 38 ls []) := by
          intro N
          induction N with
          | zero => intro x_673 hx_673 x_674 hx_674 x_675 hx_675 hN; exact absurd hN (Nat.not_lt_zero _)
          | succ N ih_678 =>
            intro x_673 hx_673 x_674 hx_674 x_675 hx_675 hN_677 H locs hP hD hS ls hl
            refine lv_iload hx hb dX11_layFalse_38 (lv_at hl 6 rfl) ?_
            refine lv_aload_n hx hb dX11_layFalse_40 rfl (lv_at hl 0 rfl) ?_
            refine z_get hx hb ht hown hK hP ziX11 rfl 0 (by decide) 26 (by decide) hw_5_213 rfl (v := .int (I_563 0 26)) rfl dX11_layFalse_41 ?_
            have f_679 : zR 0 24 (I_563 0 26) := mI hI_563 0 26
            refine lv_icmp_ge (tgt := 113) hx hb dX11_layFalse_44 (by decide) (fun c_680 => ?_) (fun c_680 => ?_)
            · have t_c_680 := z_leT c_680
              refine lv_iload hx hb dX11_layFalse_113 (lv_at hl 4 rfl) ?_
              refine lv_iconst (v := (-1)) hx hb dX11_layFalse_115 (by decide +kernel) ?_
              have t_727 : ∀ x_725 : Int32, zR 0 16777215 x_725 → ∀ I_726 : Nat → Nat → Int32, mInv F (I_726, R, J) → ∀ (H : Heap) (locs : List Loc), va_P D vwCl (zw 25 q (zMd q cA) I_726 R J) H → va_D (zA 25 q sz) (zw 25 q (zMd q cA) I_726 R J) → va_S (zA 25 q sz) s.heap H locs → ∀ ls : Array Slot, lv_has ls 7 [(0, .ref (q 0)), (1, .int (pa0)), (2, .int (x_725)), (3, .int (x_562)), (4, .int (x_673)), (5, .int (x_674)), (6, .int (x_675))] → W p l e ({ frames := 3, cells := 0, slots := 0, locals := 66 } : Room) s m ([.ref (q 0), .int (pa0)] : List Value).toArray below meth c H locs 0 0 (MQ below (va_Qv (fun u => (mInv F u ∧ u.2.2 = J)) (zB D vwCl 25 q (zMd q cA) sz) (zA 25 q sz)) ([.ref (q 0), .int (pa0)] : List Value).toArray s 0 0 (zA 25 q sz)) (F0 m 205 ls []) := by
                intro x_725 hx_725 I_726 hI_726 H locs hP hD hS ls hl
                obtain ⟨v_728, ev_728⟩ : ∃ y : Int32, y = x_562 + nI 4 := ⟨_, rfl⟩
                have hv_728 : zR 4 60 v_728 := ev_728 ▸ zR_add f_572 zk_4 (by decide)
                have mv_728 : v_728.toInt = (x_562).toInt + 4 := by rw [ev_728, zR_addE f_572 zk_4 (by decide)]; rfl
                refine lv_iinc (v := v_728) (lv' := [(3, .int (v_728)), (0, .ref (q 0)), (1, .int (pa0)), (2, .int (x_725)), (4, .int (x_673)), (5, .int (x_674)), (6, .int (x_675))]) hx hb dX11_layFalse_205 hl (k := 3) rfl (ev_728 ▸ rfl) (by decide) rfl (fun ls hl => ?_)
                refine lv_goto (tgt := 19) hx hb dX11_layFalse_208 (by decide) ?_
                exact ih_567 (x_725) hx_725 (v_728) (zR_w hv_728 (by decide)) _ hI_726 (xFour_s hx_564 mv_728) (z2_up mv_728 (by decide) hN_566) _ _ hP hD hS _ (lv_sub hl [1, 2, 3, 0] rfl)
              refine lv_icmp_eq (tgt := 129) hx hb dX11_layFalse_116 (by decide) (fun c_698 => ?_) (fun c_698 => ?_)
              · have t_c_698 := z_eqT c_698
                have f_729 : zR (-1) (-1) (x_673) := zR_eqx t_c_698 zk_m1
                refine lv_aload_n hx hb dX11_layFalse_129 rfl (lv_at hl 0 rfl) ?_
                refine lv_aload_n hx hb dX11_layFalse_130 rfl (lv_at hl 0 rfl) ?_
                refine z_get hx hb ht hown hK hP ziX11 rfl 0 (by decide) 36 (by decide) hw_5_223 rfl (v := .int (I_563 0 36)) rfl dX11_layFalse_131 ?_
                have t_734 : ∀ x_733 : Int32, ∀ (H : Heap) (locs : List Loc), va_P D vwCl (zw 25 q (zMd q cA) I_563 R J) H → va_D (zA 25 q sz) (zw 25 q (zMd q cA) I_563 R J) → va_S (zA 25 q sz) s.heap H locs → ∀ ls : Array Slot, lv_has ls 7 [(0, .ref (q 0)), (1, .int (pa0)), (2, .int (x_561)), (3, .int (x_562)), (4, .int (x_673)), (5, .int (x_674)), (6, .int (x_675))] → W p l e ({ frames := 3, cells := 0, slots := 0, locals := 66 } : Room) s m ([.ref (q 0), .int (pa0)] : List Value).toArray below meth c H locs 0 0 (MQ below (va_Qv (fun u => (mInv F u ∧ u.2.2 = J)) (zB D vwCl 25 q (zMd q cA) sz) (zA 25 q sz)) ([.ref (q 0), .int (pa0)] : List Value).toArray s 0 0 (zA 25 q sz)) (F0 m 147 ls [.int (x_733), .ref (q 0)]) := by
                  intro x_733 H locs hP hD hS ls hl
                  refine z_putI hx hb ht hown hK hP hD hS ziX11 tyX11 tyX11_ok nmX11 rfl 0 (by decide) 37 (by decide) hw_5_224 rfl (v := x_733) rfl rfl rfl (Nat.le_of_ble_eq_true rfl) rfl dX11_layFalse_147 (fun H locs hP hD hS => ?_)
                  have hI_735 := mInv_I hI_563 0 37 (x_733) (zR_any (x_733)) rfl
                  refine lv_aload_n hx hb dX11_layFalse_150 rfl (lv_at hl 0 rfl) ?_
                  refine lv_dup hx hb dX11_layFalse_151 rfl ?_
                  refine z_get hx hb ht hown hK hP ziX11 rfl 0 (by decide) 36 (by decide) hw_5_223 rfl (v := .int (I_563 0 36)) rfl dX11_layFalse_152 ?_
                  refine lv_iconst (v := nI 1) hx hb dX11_layFalse_155 (by decide +kernel) ?_
                  refine lv_iadd hx hb dX11_layFalse_156 ?_
                  refine z_any (fun v_736 => ?_)
                  refine z_putI hx hb ht hown hK hP hD hS ziX11 tyX11 tyX11_ok nmX11 rfl 0 (by decide) 36 (by decide) hw_5_223 rfl (v := v_736) rfl rfl rfl (Nat.le_of_ble_eq_true rfl) rfl dX11_layFalse_157 (fun H locs hP hD hS => ?_)
                  have hI_737 := mInv_I hI_735 0 36 (v_736) (zR_any (v_736)) rfl
                  refine lv_aload_n hx hb dX11_layFalse_160 rfl (lv_at hl 0 rfl) ?_
                  refine lv_dup hx hb dX11_layFalse_161 rfl ?_
                  refine z_get hx hb ht hown hK hP ziX11 rfl 0 (by decide) 38 (by decide) hw_5_225 rfl (v := .int (I_563 0 38)) rfl dX11_layFalse_162 ?_
                  refine lv_iload hx hb dX11_layFalse_165 (lv_at hl 5 rfl) ?_
                  have t_751 : ∀ x_750 : Int32, zR 0 1 x_750 → ∀ (H : Heap) (locs : List Loc), va_P D vwCl (zw 25 q (zMd q cA) (zp (zp I_563 0 37 (x_733)) 0 36 (v_736)) R J) H → va_D (zA 25 q sz) (zw 25 q (zMd q cA) (zp (zp I_563 0 37 (x_733)) 0 36 (v_736)) R J) → va_S (zA 25 q sz) s.heap H locs → ∀ ls : Array Slot, lv_has ls 7 [(0, .ref (q 0)), (1, .int (pa0)), (2, .int (x_561)), (3, .int (x_562)), (4, .int (x_673)), (5, .int (x_674)), (6, .int (x_675))] → W p l e ({ frames := 3, cells := 0, slots := 0, locals := 66 } : Room) s m ([.ref (q 0), .int (pa0)] : List Value).toArray below meth c H locs 0 0 (MQ below (va_Qv (fun u => (mInv F u ∧ u.2.2 = J)) (zB D vwCl 25 q (zMd q cA) sz) (zA 25 q sz)) ([.ref (q 0), .int (pa0)] : List Value).toArray s 0 0 (zA 25 q sz)) (F0 m 201 ls [.int (x_750), .int (I_563 0 38), .ref (q 0)]) := by
                    intro x_750 hx_750 H locs hP hD hS ls hl
                    refine lv_iadd hx hb dX11_layFalse_201 ?_
                    refine z_any (fun v_752 => ?_)
                    refine z_putI hx hb ht hown hK hP hD hS ziX11 tyX11 tyX11_ok nmX11 rfl 0 (by decide) 38 (by decide) hw_5_225 rfl (v := v_752) rfl rfl rfl (Nat.le_of_ble_eq_true rfl) rfl dX11_layFalse_202 (fun H locs hP hD hS => ?_)
                    have hI_753 := mInv_I hI_737 0 38 (v_752) (zR_any (v_752)) rfl
                    exact t_727 (x_561) hx_561 _ hI_753 _ _ hP hD hS _ (lv_sub hl [0, 1, 2, 3, 4, 5, 6] rfl)
                  refine lv_if_eq (tgt := 200) hx hb dX11_layFalse_167 (by decide) (fun c_738 => ?_) (fun c_738 => ?_)
                  · have t_c_738 := z_eqT c_738
                    have f_754 : zR 0 0 (x_674) := zR_eqx t_c_738 zk_z
                    refine lv_iconst (v := nI 0) hx hb dX11_layFalse_200 (by decide +kernel) ?_
                    exact t_751 (nI 0) (zR_w zk_0 (by decide)) _ _ hP hD hS _ (lv_sub hl [0, 1, 2, 3, 4, 5, 6] rfl)
                  · have t_c_738 := z_eqF c_738
                    have f_755 : zR 1 1 (x_674) := zR_nex t_c_738 hx_674 zk_z (by decide)
                    refine lv_aload_n hx hb dX11_layFalse_170 rfl (lv_at hl 0 rfl) ?_
                    refine lv_iload_n hx hb dX11_layFalse_171 rfl (lv_at hl 1 rfl) ?_
                    refine lv_iload_n hx hb dX11_layFalse_172 rfl (lv_at hl 3 rfl) ?_
                    refine lv_iconst (v := nI 2) hx hb dX11_layFalse_173 (by decide +kernel) ?_
                    refine lv_iadd hx hb dX11_layFalse_174 ?_
                    refine z_addc 2 58 f_572 zk_2 (by decide) (fun v_756 hv_756 mv_756 => ?_)
                    refine z_callVl (k := 0) (As := [.int (pa0), .int (v_756)]) (rest := [.int (I_563 0 38), .ref (q 0)]) hx hb hml hown ht (mk_X11_numberAt l D q cA F _ _ _ hI_737 (pa0) hpa0 (v_756) (zR_w hv_756 (by decide))) hw_8_83 hmX11_numberAt ⟨rfl, rfl⟩ (na := 2) rfl (by decide +kernel) (by decide) (by decide) rfl rfl hK hP hD hS hA hl.1 rfl (Nat.le_of_ble_eq_true rfl) ⟨Nat.zero_le _, Nat.zero_le _⟩ dX11_layFalse_175 (fun r_757 I_757 R_757 J_757 H locs hp_757 hP hD hS _ _ => ?_)
                    obtain ⟨rfl, hu_757⟩ := hp_757
                    cases hu_757
                    refine lv_aload_n hx hb dX11_layFalse_178 rfl (lv_at hl 0 rfl) ?_
                    refine lv_aload_n hx hb dX11_layFalse_179 rfl (lv_at hl 0 rfl) ?_
                    refine lv_iload_n hx hb dX11_layFalse_180 rfl (lv_at hl 1 rfl) ?_
                    refine lv_iload_n hx hb dX11_layFalse_181 rfl (lv_at hl 3 rfl) ?_
                    refine lv_iconst (v := nI 1) hx hb dX11_layFalse_182 (by decide +kernel) ?_
                    refine lv_iadd hx hb dX11_layFalse_183 ?_
                    refine z_addc 1 57 f_572 zk_1 (by decide) (fun v_758 hv_758 mv_758 => ?_)
                    refine z_callVl (k := 0) (As := [.int (pa0), .int (v_758)]) (rest := [.ref (q 0), .long (mNum (J 23) (pa0) (v_756)), .int (I_563 0 38), .ref (q 0)]) hx hb hml hown ht (mk_X11_numberAt l D q cA F _ _ _ hI_737 (pa0) hpa0 (v_758) (zR_w hv_758 (by decide))) hw_8_83 hmX11_numberAt ⟨rfl, rfl⟩ (na := 2) rfl (by decide +kernel) (by decide) (by decide) rfl rfl hK hP hD hS hA hl.1 rfl (Nat.le_of_ble_eq_true rfl) ⟨Nat.zero_le _, Nat.zero_le _⟩ dX11_layFalse_184 (fun r_759 I_759 R_759 J_759 H locs hp_759 hP hD hS _ _ => ?_)
                    obtain ⟨rfl, hu_759⟩ := hp_759
                    cases hu_759
                    have f_760 : zL 0 5 (mNum (J 23) (pa0) (v_758)) := mSound_at hs hx_564 mv_758 t_c_569 (mFr hI 21 rfl)
                    refine lv_l2i hx hb dX11_layFalse_187 rfl ?_
                    refine z_rng (a := 0) (b := 5) (zL_l2i f_760 (by decide)) (fun v_761 hv_761 => ?_)
                    refine z_callVi (k := 0) (As := [.int (v_761)]) (rest := [.long (mNum (J 23) (pa0) (v_756)), .int (I_563 0 38), .ref (q 0)]) hx hb hml hown ht (mk_X11_worthOf l D q cA F _ _ _ hI_737 (v_761) hv_761) hw_6_210 hmX11_worthOf ⟨rfl, rfl⟩ (na := 1) rfl (by decide +kernel) (by decide) (by decide) rfl rfl hK hP hD hS hA hl.1 rfl (Nat.le_of_ble_eq_true rfl) ⟨Nat.zero_le _, Nat.zero_le _⟩ dX11_layFalse_188 (fun r_762 I_762 R_762 J_762 H locs hp_762 hP hD hS _ _ => ?_)
                    cases hp_762
                    refine lv_i2l (v := (r_762).toInt64) hx hb dX11_layFalse_191 rfl ?_
                    refine W.lcmp hx hb dX11_layFalse_192 ?_
                    refine lv_if_eq (tgt := 200) hx hb dX11_layFalse_193 (by decide) (fun c_763 => ?_) (fun c_763 => ?_)
                    · have t_c_763 := z_leqT ((lg_cmp_eq _ _).mp c_763)
                      have f_764 : zL (-2147483648) 2147483647 (mNum (J 23) (pa0) (v_756)) := zL_eqx t_c_763 (zR_i2l (zR_any (r_762)))
                      refine lv_iconst (v := nI 0) hx hb dX11_layFalse_200 (by decide +kernel) ?_
                      exact t_751 (nI 0) (zR_w zk_0 (by decide)) _ _ hP hD hS _ (lv_sub hl [0, 1, 2, 3, 4, 5, 6] rfl)
                    · have t_c_763 := z_leqF (fun h => c_763 ((lg_cmp_eq _ _).mpr h))
                      refine lv_iconst (v := nI 1) hx hb dX11_layFalse_196 (by decide +kernel) ?_
                      refine lv_goto (tgt := 201) hx hb dX11_layFalse_197 (by decide) ?_
                      exact t_751 (nI 1) (zR_w zk_1 (by decide)) _ _ hP hD hS _ (lv_sub hl [0, 1, 2, 3, 4, 5, 6] rfl)
                refine lv_if_ne (tgt := 143) hx hb dX11_layFalse_134 (by decide) (fun c_730 => ?_) (fun c_730 => ?_)
                · have t_c_730 := z_eqF c_730
                  refine lv_aload_n hx hb dX11_layFalse_143 rfl (lv_at hl 0 rfl) ?_
                  refine z_get hx hb ht hown hK hP ziX11 rfl 0 (by decide) 37 (by decide) hw_5_224 rfl (v := .int (I_563 0 37)) rfl dX11_layFalse_144 ?_
                  exact t_734 (I_563 0 37) _ _ hP hD hS _ (lv_sub hl [0, 1, 2, 3, 4, 5, 6] rfl)
                · have t_c_730 := z_eqT c_730
                  have f_765 : zR 0 0 (I_563 0 36) := zR_eqx t_c_730 zk_z
                  refine lv_iload_n hx hb dX11_layFalse_137 rfl (lv_at hl 3 rfl) ?_
                  refine lv_iconst (v := nI 4) hx hb dX11_layFalse_138 (by decide +kernel) ?_
                  refine lv_idiv hx hb dX11_layFalse_139 (by decide +kernel) ?_
                  refine z_rng (a := 0) (b := 14) (zR_divc f_572 zk_4 (by decide)) (fun v_766 hv_766 => ?_)
                  refine lv_goto (tgt := 147) hx hb dX11_layFalse_140 (by decide) ?_
                  exact t_734 (v_766) _ _ hP hD hS _ (lv_sub hl [0, 1, 2, 3, 4, 5, 6] rfl)
              · have t_c_698 := z_eqF c_698
                have f_767 : zR 0 23 (x_673) := zR_nex t_c_698 hx_673 zk_m1 (by decide)
                refine lv_iload_n hx hb dX11_layFalse_119 rfl (lv_at hl 2 rfl) ?_
                refine lv_iconst (v := nI 1) hx hb dX11_layFalse_120 (by decide +kernel) ?_
                refine lv_iload hx hb dX11_layFalse_121 (lv_at hl 4 rfl) ?_
                refine lv_ishl hx hb dX11_layFalse_123 ?_
                refine z_rng (a := 1) (b := 8388608) (zR_shl1 23 f_767 (by decide)) (fun v_768 hv_768 => ?_)
                refine lv_ior hx hb dX11_layFalse_124 ?_
                refine z_rng (a := 0) (b := 16777215) (zR_or 24 hx_561 hv_768 (by decide)) (fun v_769 hv_769 => ?_)
                refine lv_istore_n (lv' := [(2, .int (v_769)), (0, .ref (q 0)), (1, .int (pa0)), (3, .int (x_562)), (4, .int (x_673)), (5, .int (x_674)), (6, .int (x_675))]) hx hb dX11_layFalse_125 rfl hl (by decide) rfl (fun ls hl => ?_)
                refine lv_goto (tgt := 205) hx hb dX11_layFalse_126 (by decide) ?_
                exact t_727 (v_769) hv_769 _ hI_563 _ _ hP hD hS _ (lv_sub hl [1, 2, 0, 3, 4, 5, 6] rfl)
            · have t_c_680 := z_leF c_680
              have f_770 : zR 0 23 (x_675) := zR_ltx t_c_680 hx_675 f_679 (by decide)
              have f_771 : zR 1 24 (I_563 0 26) := zR_lty t_c_680 hx_675 f_679 (by decide)
              refine lv_iload hx hb dX11_layFalse_47 (lv_at hl 4 rfl) ?_
              refine lv_iconst (v := (-1)) hx hb dX11_layFalse_49 (by decide +kernel) ?_
              have t_781 : ∀ x_780 : Int32, zR (-1) 23 x_780 → ∀ (H : Heap) (locs : List Loc), va_P D vwCl (zw 25 q (zMd q cA) I_563 R J) H → va_D (zA 25 q sz) (zw 25 q (zMd q cA) I_563 R J) → va_S (zA 25 q sz) s.heap H locs → ∀ ls : Array Slot, lv_has ls 7 [(0, .ref (q 0)), (1, .int (pa0)), (2, .int (x_561)), (3, .int (x_562)), (4, .int (x_673)), (5, .int (x_674)), (6, .int (x_675))] → W p l e ({ frames := 3, cells := 0, slots := 0, locals := 66 } : Room) s m ([.ref (q 0), .int (pa0)] : List Value).toArray below meth c H locs 0 0 (MQ below (va_Qv (fun u => (mInv F u ∧ u.2.2 = J)) (zB D vwCl 25 q (zMd q cA) sz) (zA 25 q sz)) ([.ref (q 0), .int (pa0)] : List Value).toArray s 0 0 (zA 25 q sz)) (F0 m 81 ls [.int (x_780)]) := by
                intro x_780 hx_780 H locs hP hD hS ls hl
                refine lv_istore (lv' := [(4, .int (x_780)), (0, .ref (q 0)), (1, .int (pa0)), (2, .int (x_561)), (3, .int (x_562)), (5, .int (x_674)), (6, .int (x_675))]) hx hb dX11_layFalse_81 hl (by decide) rfl (fun ls hl => ?_)
                refine lv_iload hx hb dX11_layFalse_83 (lv_at hl 5 rfl) ?_
                have t_787 : ∀ x_786 : Int32, zR 0 1 x_786 → ∀ (H : Heap) (locs : List Loc), va_P D vwCl (zw 25 q (zMd q cA) I_563 R J) H → va_D (zA 25 q sz) (zw 25 q (zMd q cA) I_563 R J) → va_S (zA 25 q sz) s.heap H locs → ∀ ls : Array Slot, lv_has ls 7 [(0, .ref (q 0)), (1, .int (pa0)), (2, .int (x_561)), (3, .int (x_562)), (4, .int (x_780)), (5, .int (x_674)), (6, .int (x_675))] → W p l e ({ frames := 3, cells := 0, slots := 0, locals := 66 } : Room) s m ([.ref (q 0), .int (pa0)] : List Value).toArray below meth c H locs 0 0 (MQ below (va_Qv (fun u => (mInv F u ∧ u.2.2 = J)) (zB D vwCl 25 q (zMd q cA) sz) (zA 25 q sz)) ([.ref (q 0), .int (pa0)] : List Value).toArray s 0 0 (zA 25 q sz)) (F0 m 105 ls [.int (x_786)]) := by
                  intro x_786 hx_786 H locs hP hD hS ls hl
                  refine lv_istore (lv' := [(5, .int (x_786)), (0, .ref (q 0)), (1, .int (pa0)), (2, .int (x_561)), (3, .int (x_562)), (4, .int (x_780)), (6, .int (x_675))]) hx hb dX11_layFalse_105 hl (by decide) rfl (fun ls hl => ?_)
                  obtain ⟨v_788, ev_788⟩ : ∃ y : Int32, y = x_675 + nI 1 := ⟨_, rfl⟩
                  have hv_788 : zR 1 24 v_788 := ev_788 ▸ zR_add f_770 zk_1 (by decide)
                  have mv_788 : v_788.toInt = (x_675).toInt + 1 := by rw [ev_788, zR_addE f_770 zk_1 (by decide)]; rfl
                  refine lv_iinc (v := v_788) (lv' := [(6, .int (v_788)), (5, .int (x_786)), (0, .ref (q 0)), (1, .int (pa0)), (2, .int (x_561)), (3, .int (x_562)), (4, .int (x_780))]) hx hb dX11_layFalse_107 hl (k := 6) rfl (ev_788 ▸ rfl) (by decide) rfl (fun ls hl => ?_)
                  refine lv_goto (tgt := 38) hx hb dX11_layFalse_110 (by decide) ?_
                  exact ih_678 (x_780) hx_780 (x_786) hx_786 (v_788) (zR_w hv_788 (by decide)) (z2_up mv_788 (by decide) hN_677) _ _ hP hD hS _ (lv_sub hl [2, 3, 4, 5, 6, 1, 0] rfl)
                refine lv_if_ne (tgt := 100) hx hb dX11_layFalse_85 (by decide) (fun c_782 => ?_) (fun c_782 => ?_)
                · have t_c_782 := z_eqF c_782
                  have f_789 : zR 1 1 (x_674) := zR_nex t_c_782 hx_674 zk_z (by decide)
                  refine lv_iconst (v := nI 1) hx hb dX11_layFalse_100 (by decide +kernel) ?_
                  refine lv_goto (tgt := 105) hx hb dX11_layFalse_101 (by decide) ?_
                  exact t_787 (nI 1) (zR_w zk_1 (by decide)) _ _ hP hD hS _ (lv_sub hl [1, 2, 3, 4, 0, 5, 6] rfl)
                · have t_c_782 := z_eqT c_782
                  have f_790 : zR 0 0 (x_674) := zR_eqx t_c_782 zk_z
                  refine lv_aload_n hx hb dX11_layFalse_88 rfl (lv_at hl 1 rfl) ?_
                  refine lv_iload_n hx hb dX11_layFalse_89 rfl (lv_at hl 2 rfl) ?_
                  refine lv_iload_n hx hb dX11_layFalse_90 rfl (lv_at hl 4 rfl) ?_
                  refine lv_iload hx hb dX11_layFalse_91 (lv_at hl 6 rfl) ?_
                  refine lv_iconst (v := nI 0) hx hb dX11_layFalse_93 (by decide +kernel) ?_
                  refine z_callVi (k := 0) (As := [.int (pa0), .int (x_562), .int (x_675), .int (nI 0)]) (rest := []) hx hb hml hown ht (mk_X11_fitsRow_3 l D q cA F _ _ _ hI_563 (pa0) hpa0 (x_562) f_572 (x_675) f_770 (nI 0) (zR_w zk_0 (by decide))) hw_8_92 hmX11_fitsRow ⟨rfl, rfl⟩ (na := 4) rfl (by decide +kernel) (by decide) (by decide) rfl rfl hK hP hD hS hA hl.1 rfl (Nat.le_of_ble_eq_true rfl) ⟨Nat.zero_le _, Nat.zero_le _⟩ dX11_layFalse_94 (fun r_791 I_791 R_791 J_791 H locs hp_791 hP hD hS _ _ => ?_)
                  rcases hp_791 with ⟨rfl, hu_791⟩ | ⟨rfl, hu_791⟩
                  · cases hu_791
                    refine lv_if_eq (tgt := 104) hx hb dX11_layFalse_97 (by decide) (fun c_0 => absurd c_0 (zD_ne zk_1 zk_z (by decide))) (fun _ => ?_)
                    refine lv_iconst (v := nI 1) hx hb dX11_layFalse_100 (by decide +kernel) ?_
                    refine lv_goto (tgt := 105) hx hb dX11_layFalse_101 (by decide) ?_
                    exact t_787 (nI 1) (zR_w zk_1 (by decide)) _ _ hP hD hS _ (lv_sub hl [1, 2, 3, 4, 0, 5, 6] rfl)
                  · cases hu_791
                    refine lv_if_eq (tgt := 104) hx hb dX11_layFalse_97 (by decide) (fun _ => ?_) (fun c_0 => absurd (zD_eq zk_0 zk_z) c_0)
                    refine lv_iconst (v := nI 0) hx hb dX11_layFalse_104 (by decide +kernel) ?_
                    exact t_787 (nI 0) (zR_w zk_0 (by decide)) _ _ hP hD hS _ (lv_sub hl [1, 2, 3, 4, 0, 5, 6] rfl)
              refine lv_icmp_ne (tgt := 79) hx hb dX11_layFalse_50 (by decide) (fun c_772 => ?_) (fun c_772 => ?_)
              · have t_c_772 := z_eqF c_772
                have f_792 : zR 0 23 (x_673) := zR_nex t_c_772 hx_673 zk_m1 (by decide)
                refine lv_iload hx hb dX11_layFalse_79 (lv_at hl 4 rfl) ?_
                exact t_781 (x_673) (zR_w f_792 (by decide)) _ _ hP hD hS _ (lv_sub hl [0, 1, 2, 3, 4, 5, 6] rfl)
              · have t_c_772 := z_eqT c_772
                have f_793 : zR (-1) (-1) (x_673) := zR_eqx t_c_772 zk_m1
                refine lv_iload_n hx hb dX11_layFalse_53 rfl (lv_at hl 2 rfl) ?_
                refine lv_iload hx hb dX11_layFalse_54 (lv_at hl 6 rfl) ?_
                refine z_callSi (As := [.int (x_561), .int (x_675)]) (rest := []) hx hb hml hown ht (mk_X11_bit_1 l D q cA F _ _ _ hI_563 (x_561) (x_675) f_770) hw_7_220 hmX11_bit ⟨rfl, rfl⟩ (na := 2) rfl (by decide +kernel) (by decide) hK hP hD hS hA hl.1 rfl (Nat.le_of_ble_eq_true rfl) ⟨Nat.zero_le _, Nat.zero_le _⟩ dX11_layFalse_56 (fun r_794 I_794 R_794 J_794 H locs hp_794 hP hD hS _ _ => ?_)
                obtain ⟨hr_794, hu_794⟩ := hp_794
                cases hu_794
                refine lv_if_ne (tgt := 79) hx hb dX11_layFalse_59 (by decide) (fun c_795 => ?_) (fun c_795 => ?_)
                · have t_c_795 := z_eqF c_795
                  have f_796 : zR 1 1 (r_794) := zR_nex t_c_795 hr_794 zk_z (by decide)
                  refine lv_iload hx hb dX11_layFalse_79 (lv_at hl 4 rfl) ?_
                  exact t_781 (x_673) (zR_w f_793 (by decide)) _ _ hP hD hS _ (lv_sub hl [0, 1, 2, 3, 4, 5, 6] rfl)
                · have t_c_795 := z_eqT c_795
                  have f_797 : zR 0 0 (r_794) := zR_eqx t_c_795 zk_z
                  refine lv_aload_n hx hb dX11_layFalse_62 rfl (lv_at hl 0 rfl) ?_
                  refine lv_iload_n hx hb dX11_layFalse_63 rfl (lv_at hl 1 rfl) ?_
                  refine lv_iload_n hx hb dX11_layFalse_64 rfl (lv_at hl 3 rfl) ?_
                  refine lv_iload hx hb dX11_layFalse_65 (lv_at hl 6 rfl) ?_
                  refine lv_iconst (v := nI 1) hx hb dX11_layFalse_67 (by decide +kernel) ?_
                  refine z_callVi (k := 0) (As := [.int (pa0), .int (x_562), .int (x_675), .int (nI 1)]) (rest := []) hx hb hml hown ht (mk_X11_fitsRow_3 l D q cA F _ _ _ hI_563 (pa0) hpa0 (x_562) f_572 (x_675) f_770 (nI 1) (zR_w zk_1 (by decide))) hw_8_92 hmX11_fitsRow ⟨rfl, rfl⟩ (na := 4) rfl (by decide +kernel) (by decide) (by decide) rfl rfl hK hP hD hS hA hl.1 rfl (Nat.le_of_ble_eq_true rfl) ⟨Nat.zero_le _, Nat.zero_le _⟩ dX11_layFalse_68 (fun r_798 I_798 R_798 J_798 H locs hp_798 hP hD hS _ _ => ?_)
                  rcases hp_798 with ⟨rfl, hu_798⟩ | ⟨rfl, hu_798⟩
                  · cases hu_798
                    refine lv_if_eq (tgt := 79) hx hb dX11_layFalse_71 (by decide) (fun c_0 => absurd c_0 (zD_ne zk_1 zk_z (by decide))) (fun _ => ?_)
                    refine lv_iload hx hb dX11_layFalse_74 (lv_at hl 6 rfl) ?_
                    refine lv_goto (tgt := 81) hx hb dX11_layFalse_76 (by decide) ?_
                    exact t_781 (x_675) (zR_w f_770 (by decide)) _ _ hP hD hS _ (lv_sub hl [0, 1, 2, 3, 4, 5, 6] rfl)
                  · cases hu_798
                    refine lv_if_eq (tgt := 79) hx hb dX11_layFalse_71 (by decide) (fun _ => ?_) (fun c_0 => absurd (zD_eq zk_0 zk_z) c_0)
                    refine lv_iload hx hb dX11_layFalse_79 (lv_at hl 4 rfl) ?_
                    exact t_781 (x_673) (zR_w f_793 (by decide)) _ _ hP hD hS _ (lv_sub hl [0, 1, 2, 3, 4, 5, 6] rfl)
        exact loop_676 _ ((-1)) (zR_w zk_m1 (by decide)) (nI 0) (zR_w zk_0 (by decide)) (nI 0) (zR_w zk_0 (by decide)) (Nat.lt_succ_self _) _ _ hP hD hS _ (lv_sub hl [3, 4, 5, 6, 2, 1, 0] rfl)
  exact loop_565 _ (nI 0) (zR_w zk_0 (by decide)) (nI 0) (zR_w zk_0 (by decide)) _ hI_3 xFour_0 (Nat.lt_succ_self _) _ _ hP hD hS _ (lv_sub hl [2, 3, 1, 0] rfl)
set_option maxHeartbeats 4000000 in
set_option maxRecDepth 100000 in
theorem mk_X11_wrong (l : Launch) (D : va_G) (q : Nat → Nat) (cA : Nat → ClassId) (F : Nat → Nat → Int32) (I R : Nat → Nat → Int32) (J : Nat → Nat → Int64) (hI : mInv F (I, R, J)) (pa0 : Int32) : zMi l D vwCl (zMtys cA) 25 q (zMd q cA) yX11_wrong cX11_wrong 3 (some .int) ({ frames := 7, cells := 0, slots := 0, locals := 177 } : Room) [.ref (q 0), .int (pa0)] (I, R, J) (fun _ u => mInv F u) := by
  intro sz
  refine z_body (by decide +kernel) (Nat.le_of_ble_eq_true rfl) (fun p e s m below meth c ls hx hb hml hr ht hown hlocks hsz hK hP hD hS hl => ?_)
  have hA : ∀ a, s.heap.size ≤ a → zA 25 q sz a := fun a h => Or.inr (hsz ▸ h)
  have hl : lv_has ls 3 [(0, .ref (q 0)), (1, .int (pa0))] := hl
  refine lv_aload_n hx hb dX11_wrong_0 rfl (lv_at hl 0 rfl) ?_
  refine lv_iload_n hx hb dX11_wrong_1 rfl (lv_at hl 1 rfl) ?_
  refine z_callVi (k := 0) (As := [.int (pa0)]) (rest := []) hx hb hml hown ht (mk_X11_asksPapers l D q cA F _ _ _ hI (pa0)) hw_8_72 hmX11_asksPapers ⟨rfl, rfl⟩ (na := 1) rfl (by decide +kernel) (by decide) (by decide) rfl rfl hK hP hD hS hA hl.1 rfl (Nat.le_of_ble_eq_true rfl) ⟨Nat.zero_le _, Nat.zero_le _⟩ dX11_wrong_2 (fun r_1 I_1 R_1 J_1 H locs hp_1 hP hD hS _ _ => ?_)
  rcases hp_1 with ⟨rfl, hv_1, hj_1, hz_1, hs_1⟩ | ⟨hr_1, hv_1⟩
  · try dsimp only at hj_1
    subst J_1
    refine lv_istore_n (lv' := [(2, .int (nI 0)), (0, .ref (q 0)), (1, .int (pa0))]) hx hb dX11_wrong_5 rfl hl (by decide) rfl (fun ls hl => ?_)
    refine lv_iload_n hx hb dX11_wrong_6 rfl (lv_at hl 0 rfl) ?_
    refine lv_if_ge (tgt := 12) hx hb dX11_wrong_7 (by decide) (fun _ => ?_) (fun c_0 => absurd (zD_le zk_z zk_0 (by decide)) c_0)
    refine lv_aload_n hx hb dX11_wrong_12 rfl (lv_at hl 1 rfl) ?_
    refine lv_iload_n hx hb dX11_wrong_13 rfl (lv_at hl 2 rfl) ?_
    refine z_callVv (k := 0) (As := [.int (pa0)]) (rest := []) hx hb hml hown ht (mk_X11_layFalse l D q cA F _ _ _ hv_1 (pa0) hz_1 hs_1) hw_8_88 hmX11_layFalse ⟨rfl, rfl⟩ (na := 1) rfl (by decide +kernel) (by decide) (by decide) rfl rfl hK hP hD hS hA hl.1 rfl (Nat.le_of_ble_eq_true rfl) ⟨Nat.zero_le _, Nat.zero_le _⟩ dX11_wrong_14 (fun I_2 R_2 J_2 H locs hp_2 hP hD hS _ _ => ?_)
    obtain ⟨hv_2, hj_2⟩ := hp_2
    try dsimp only at hj_2
    subst J_2
    refine lv_aload_n hx hb dX11_wrong_17 rfl (lv_at hl 1 rfl) ?_
    refine z_get hx hb ht hown hK hP ziX11 rfl 0 (by decide) 36 (by decide) hw_5_223 rfl (v := .int (I_2 0 36)) rfl dX11_wrong_18 ?_
    exact z_iret (v := I_2 0 36) hx hb hr hlocks hP hD hS dX11_wrong_21 hv_2
  · refine lv_istore_n (lv' := [(2, .int (r_1)), (0, .ref (q 0)), (1, .int (pa0))]) hx hb dX11_wrong_5 rfl hl (by decide) rfl (fun ls hl => ?_)
    refine lv_iload_n hx hb dX11_wrong_6 rfl (lv_at hl 0 rfl) ?_
    refine lv_if_ge (tgt := 12) hx hb dX11_wrong_7 (by decide) (fun c_0 => absurd c_0 (zD_nle zk_z hr_1 (by decide))) (fun _ => ?_)
    refine lv_iload_n hx hb dX11_wrong_10 rfl (lv_at hl 0 rfl) ?_
    exact z_iret (v := r_1) hx hb hr hlocks hP hD hS dX11_wrong_11 hv_1
set_option maxHeartbeats 4000000 in
set_option maxRecDepth 100000 in
theorem mk_X11_forged (l : Launch) (D : va_G) (q : Nat → Nat) (cA : Nat → ClassId) (F : Nat → Nat → Int32) (I R : Nat → Nat → Int32) (J : Nat → Nat → Int64) (hI : mInv F (I, R, J)) (pa0 : Int32) : zMi l D vwCl (zMtys cA) 25 q (zMd q cA) yX11_forged cX11_forged 3 (some .int) ({ frames := 7, cells := 0, slots := 0, locals := 177 } : Room) [.ref (q 0), .int (pa0)] (I, R, J) (fun _ u => mInv F u) := by
  intro sz
  refine z_body (by decide +kernel) (Nat.le_of_ble_eq_true rfl) (fun p e s m below meth c ls hx hb hml hr ht hown hlocks hsz hK hP hD hS hl => ?_)
  have hA : ∀ a, s.heap.size ≤ a → zA 25 q sz a := fun a h => Or.inr (hsz ▸ h)
  have hl : lv_has ls 3 [(0, .ref (q 0)), (1, .int (pa0))] := hl
  refine lv_aload_n hx hb dX11_forged_0 rfl (lv_at hl 0 rfl) ?_
  refine lv_iload_n hx hb dX11_forged_1 rfl (lv_at hl 1 rfl) ?_
  refine z_callVi (k := 0) (As := [.int (pa0)]) (rest := []) hx hb hml hown ht (mk_X11_asksPapers l D q cA F _ _ _ hI (pa0)) hw_8_72 hmX11_asksPapers ⟨rfl, rfl⟩ (na := 1) rfl (by decide +kernel) (by decide) (by decide) rfl rfl hK hP hD hS hA hl.1 rfl (Nat.le_of_ble_eq_true rfl) ⟨Nat.zero_le _, Nat.zero_le _⟩ dX11_forged_2 (fun r_1 I_1 R_1 J_1 H locs hp_1 hP hD hS _ _ => ?_)
  rcases hp_1 with ⟨rfl, hv_1, hj_1, hz_1, hs_1⟩ | ⟨hr_1, hv_1⟩
  · try dsimp only at hj_1
    subst J_1
    refine lv_istore_n (lv' := [(2, .int (nI 0)), (0, .ref (q 0)), (1, .int (pa0))]) hx hb dX11_forged_5 rfl hl (by decide) rfl (fun ls hl => ?_)
    refine lv_iload_n hx hb dX11_forged_6 rfl (lv_at hl 0 rfl) ?_
    refine lv_if_ge (tgt := 12) hx hb dX11_forged_7 (by decide) (fun _ => ?_) (fun c_0 => absurd (zD_le zk_z zk_0 (by decide)) c_0)
    refine lv_aload_n hx hb dX11_forged_12 rfl (lv_at hl 1 rfl) ?_
    refine lv_iload_n hx hb dX11_forged_13 rfl (lv_at hl 2 rfl) ?_
    refine z_callVv (k := 0) (As := [.int (pa0)]) (rest := []) hx hb hml hown ht (mk_X11_layFalse l D q cA F _ _ _ hv_1 (pa0) hz_1 hs_1) hw_8_88 hmX11_layFalse ⟨rfl, rfl⟩ (na := 1) rfl (by decide +kernel) (by decide) (by decide) rfl rfl hK hP hD hS hA hl.1 rfl (Nat.le_of_ble_eq_true rfl) ⟨Nat.zero_le _, Nat.zero_le _⟩ dX11_forged_14 (fun I_2 R_2 J_2 H locs hp_2 hP hD hS _ _ => ?_)
    obtain ⟨hv_2, hj_2⟩ := hp_2
    try dsimp only at hj_2
    subst J_2
    refine lv_aload_n hx hb dX11_forged_17 rfl (lv_at hl 1 rfl) ?_
    refine z_get hx hb ht hown hK hP ziX11 rfl 0 (by decide) 37 (by decide) hw_5_224 rfl (v := .int (I_2 0 37)) rfl dX11_forged_18 ?_
    exact z_iret (v := I_2 0 37) hx hb hr hlocks hP hD hS dX11_forged_21 hv_2
  · refine lv_istore_n (lv' := [(2, .int (r_1)), (0, .ref (q 0)), (1, .int (pa0))]) hx hb dX11_forged_5 rfl hl (by decide) rfl (fun ls hl => ?_)
    refine lv_iload_n hx hb dX11_forged_6 rfl (lv_at hl 0 rfl) ?_
    refine lv_if_ge (tgt := 12) hx hb dX11_forged_7 (by decide) (fun c_0 => absurd c_0 (zD_nle zk_z hr_1 (by decide))) (fun _ => ?_)
    refine lv_iload_n hx hb dX11_forged_10 rfl (lv_at hl 0 rfl) ?_
    exact z_iret (v := r_1) hx hb hr hlocks hP hD hS dX11_forged_11 hv_1
set_option maxHeartbeats 4000000 in
set_option maxRecDepth 100000 in
theorem mk_X11_argued (l : Launch) (D : va_G) (q : Nat → Nat) (cA : Nat → ClassId) (F : Nat → Nat → Int32) (I R : Nat → Nat → Int32) (J : Nat → Nat → Int64) (hI : mInv F (I, R, J)) (pa0 : Int32) : zMi l D vwCl (zMtys cA) 25 q (zMd q cA) yX11_argued cX11_argued 3 (some .int) ({ frames := 7, cells := 0, slots := 0, locals := 177 } : Room) [.ref (q 0), .int (pa0)] (I, R, J) (fun _ u => mInv F u) := by
  intro sz
  refine z_body (by decide +kernel) (Nat.le_of_ble_eq_true rfl) (fun p e s m below meth c ls hx hb hml hr ht hown hlocks hsz hK hP hD hS hl => ?_)
  have hA : ∀ a, s.heap.size ≤ a → zA 25 q sz a := fun a h => Or.inr (hsz ▸ h)
  have hl : lv_has ls 3 [(0, .ref (q 0)), (1, .int (pa0))] := hl
  refine lv_aload_n hx hb dX11_argued_0 rfl (lv_at hl 0 rfl) ?_
  refine lv_iload_n hx hb dX11_argued_1 rfl (lv_at hl 1 rfl) ?_
  refine z_callVi (k := 0) (As := [.int (pa0)]) (rest := []) hx hb hml hown ht (mk_X11_asksPapers l D q cA F _ _ _ hI (pa0)) hw_8_72 hmX11_asksPapers ⟨rfl, rfl⟩ (na := 1) rfl (by decide +kernel) (by decide) (by decide) rfl rfl hK hP hD hS hA hl.1 rfl (Nat.le_of_ble_eq_true rfl) ⟨Nat.zero_le _, Nat.zero_le _⟩ dX11_argued_2 (fun r_1 I_1 R_1 J_1 H locs hp_1 hP hD hS _ _ => ?_)
  rcases hp_1 with ⟨rfl, hv_1, hj_1, hz_1, hs_1⟩ | ⟨hr_1, hv_1⟩
  · try dsimp only at hj_1
    subst J_1
    refine lv_istore_n (lv' := [(2, .int (nI 0)), (0, .ref (q 0)), (1, .int (pa0))]) hx hb dX11_argued_5 rfl hl (by decide) rfl (fun ls hl => ?_)
    refine lv_iload_n hx hb dX11_argued_6 rfl (lv_at hl 0 rfl) ?_
    refine lv_if_ge (tgt := 12) hx hb dX11_argued_7 (by decide) (fun _ => ?_) (fun c_0 => absurd (zD_le zk_z zk_0 (by decide)) c_0)
    refine lv_aload_n hx hb dX11_argued_12 rfl (lv_at hl 1 rfl) ?_
    refine lv_iload_n hx hb dX11_argued_13 rfl (lv_at hl 2 rfl) ?_
    refine z_callVv (k := 0) (As := [.int (pa0)]) (rest := []) hx hb hml hown ht (mk_X11_layFalse l D q cA F _ _ _ hv_1 (pa0) hz_1 hs_1) hw_8_88 hmX11_layFalse ⟨rfl, rfl⟩ (na := 1) rfl (by decide +kernel) (by decide) (by decide) rfl rfl hK hP hD hS hA hl.1 rfl (Nat.le_of_ble_eq_true rfl) ⟨Nat.zero_le _, Nat.zero_le _⟩ dX11_argued_14 (fun I_2 R_2 J_2 H locs hp_2 hP hD hS _ _ => ?_)
    obtain ⟨hv_2, hj_2⟩ := hp_2
    try dsimp only at hj_2
    subst J_2
    refine lv_aload_n hx hb dX11_argued_17 rfl (lv_at hl 1 rfl) ?_
    refine z_get hx hb ht hown hK hP ziX11 rfl 0 (by decide) 38 (by decide) hw_5_225 rfl (v := .int (I_2 0 38)) rfl dX11_argued_18 ?_
    exact z_iret (v := I_2 0 38) hx hb hr hlocks hP hD hS dX11_argued_21 hv_2
  · refine lv_istore_n (lv' := [(2, .int (r_1)), (0, .ref (q 0)), (1, .int (pa0))]) hx hb dX11_argued_5 rfl hl (by decide) rfl (fun ls hl => ?_)
    refine lv_iload_n hx hb dX11_argued_6 rfl (lv_at hl 0 rfl) ?_
    refine lv_if_ge (tgt := 12) hx hb dX11_argued_7 (by decide) (fun c_0 => absurd c_0 (zD_nle zk_z hr_1 (by decide))) (fun _ => ?_)
    refine lv_iload_n hx hb dX11_argued_10 rfl (lv_at hl 0 rfl) ?_
    exact z_iret (v := r_1) hx hb hr hlocks hP hD hS dX11_argued_11 hv_1
set_option maxHeartbeats 4000000 in
set_option maxRecDepth 100000 in
theorem mk_X11_areDrawn (l : Launch) (D : va_G) (q : Nat → Nat) (cA : Nat → ClassId) (F : Nat → Nat → Int32) (I R : Nat → Nat → Int32) (J : Nat → Nat → Int64) (hI : mInv F (I, R, J)) (pa0 : Int32) (pa1 : Int32) : zMi l D vwCl (zMtys cA) 25 q (zMd q cA) yX11_areDrawn cX11_areDrawn 3 (some .boolean) ({ frames := 1, cells := 0, slots := 0, locals := 25 } : Room) [.ref (q 0), .int (pa0), .int (pa1)] (I, R, J) (fun r u => (r = nI 1 ∧ u = (I, R, J) ∧ zR 0 2000000000 pa0 ∧ zR 0 40 pa1) ∨ (r = nI 0 ∧ u = (I, R, J))) := by
  intro sz
  refine z_body (by decide +kernel) (Nat.le_of_ble_eq_true rfl) (fun p e s m below meth c ls hx hb hml hr ht hown hlocks hsz hK hP hD hS hl => ?_)
  have hA : ∀ a, s.heap.size ≤ a → zA 25 q sz a := fun a h => Or.inr (hsz ▸ h)
  have hl : lv_has ls 3 [(0, .ref (q 0)), (1, .int (pa0)), (2, .int (pa1))] := hl
  refine lv_aload_n hx hb dX11_areDrawn_0 rfl (lv_at hl 0 rfl) ?_
  refine z_callVi (k := 0) (As := []) (rest := []) hx hb hml hown ht (mk_X11_isCity l D q cA F _ _ _ hI ) hw_7_75 hmX11_isCity ⟨rfl, rfl⟩ (na := 0) rfl (by decide +kernel) (by decide) (by decide) rfl rfl hK hP hD hS hA hl.1 rfl (Nat.le_of_ble_eq_true rfl) ⟨Nat.zero_le _, Nat.zero_le _⟩ dX11_areDrawn_1 (fun r_1 I_1 R_1 J_1 H locs hp_1 hP hD hS _ _ => ?_)
  rcases hp_1 with ⟨rfl, hu_1⟩ | ⟨rfl, hu_1⟩
  · cases hu_1
    refine lv_if_eq (tgt := 35) hx hb dX11_areDrawn_4 (by decide) (fun c_0 => absurd c_0 (zD_ne zk_1 zk_z (by decide))) (fun _ => ?_)
    refine lv_iload_n hx hb dX11_areDrawn_7 rfl (lv_at hl 1 rfl) ?_
    refine lv_i2l (v := (pa0).toInt64) hx hb dX11_areDrawn_8 rfl ?_
    refine lv_lconst (v := (0 : Int64)) hx hb dX11_areDrawn_9 (by decide +kernel) ?_
    refine lv_ldc2 (v := (2000000000 : Int64)) hx hb hown (ht _ hw_8_112) dX11_areDrawn_10 ?_
    refine z_callSi (As := [.long ((pa0).toInt64), .long ((0 : Int64)), .long ((2000000000 : Int64))]) (rest := []) hx hb hml hown ht (mk_X11_in l D q cA F _ _ _ hI ((pa0).toInt64) ((0 : Int64)) ((2000000000 : Int64))) hw_6_86 hmX11_in ⟨rfl, rfl⟩ (na := 3) rfl (by decide +kernel) (by decide) hK hP hD hS hA hl.1 rfl (Nat.le_of_ble_eq_true rfl) ⟨Nat.zero_le _, Nat.zero_le _⟩ dX11_areDrawn_13 (fun r_2 I_2 R_2 J_2 H locs hp_2 hP hD hS _ _ => ?_)
    rcases hp_2 with ⟨rfl, hu_2, h1_2, h2_2⟩ | ⟨rfl, hu_2, h1_2 | h2_2⟩
    · cases hu_2
      have f_3 : zL 0 2147483647 ((pa0).toInt64) := zL_ley h1_2 zkl_0 (zR_i2l (zR_any (pa0))) (by decide)
      have f_4 : zR 0 2147483647 (pa0) := zL_back f_3
      have f_5 : zL 0 2000000000 ((pa0).toInt64) := zL_lex h2_2 f_3 zkl_2000000000 (by decide)
      have f_6 : zR 0 2000000000 (pa0) := zL_back f_5
      refine lv_if_eq (tgt := 35) hx hb dX11_areDrawn_16 (by decide) (fun c_0 => absurd c_0 (zD_ne zk_1 zk_z (by decide))) (fun _ => ?_)
      refine lv_iload_n hx hb dX11_areDrawn_19 rfl (lv_at hl 2 rfl) ?_
      refine lv_i2l (v := (pa1).toInt64) hx hb dX11_areDrawn_20 rfl ?_
      refine lv_lconst (v := (0 : Int64)) hx hb dX11_areDrawn_21 (by decide +kernel) ?_
      refine lv_ldc2 (v := (40 : Int64)) hx hb hown (ht _ hw_8_113) dX11_areDrawn_22 ?_
      refine z_callSi (As := [.long ((pa1).toInt64), .long ((0 : Int64)), .long ((40 : Int64))]) (rest := []) hx hb hml hown ht (mk_X11_in l D q cA F _ _ _ hI ((pa1).toInt64) ((0 : Int64)) ((40 : Int64))) hw_6_86 hmX11_in ⟨rfl, rfl⟩ (na := 3) rfl (by decide +kernel) (by decide) hK hP hD hS hA hl.1 rfl (Nat.le_of_ble_eq_true rfl) ⟨Nat.zero_le _, Nat.zero_le _⟩ dX11_areDrawn_25 (fun r_7 I_7 R_7 J_7 H locs hp_7 hP hD hS _ _ => ?_)
      rcases hp_7 with ⟨rfl, hu_7, h1_7, h2_7⟩ | ⟨rfl, hu_7, h1_7 | h2_7⟩
      · cases hu_7
        have f_8 : zL 0 2147483647 ((pa1).toInt64) := zL_ley h1_7 zkl_0 (zR_i2l (zR_any (pa1))) (by decide)
        have f_9 : zR 0 2147483647 (pa1) := zL_back f_8
        have f_10 : zL 0 40 ((pa1).toInt64) := zL_lex h2_7 f_8 zkl_40 (by decide)
        have f_11 : zR 0 40 (pa1) := zL_back f_10
        refine lv_if_eq (tgt := 35) hx hb dX11_areDrawn_28 (by decide) (fun c_0 => absurd c_0 (zD_ne zk_1 zk_z (by decide))) (fun _ => ?_)
        refine lv_iconst (v := nI 1) hx hb dX11_areDrawn_31 (by decide +kernel) ?_
        refine lv_goto (tgt := 36) hx hb dX11_areDrawn_32 (by decide) ?_
        exact z_zret (v := nI 1) hx hb hr hlocks hP hD hS (by decide +kernel) dX11_areDrawn_36 (Or.inl ⟨rfl, rfl, f_6, f_11⟩)
      · cases hu_7
        have f_12 : zL (-2147483648) (-1) ((pa1).toInt64) := zL_ltx h1_7 (zR_i2l (zR_any (pa1))) zkl_0 (by decide)
        have f_13 : zR (-2147483648) (-1) (pa1) := zL_back f_12
        refine lv_if_eq (tgt := 35) hx hb dX11_areDrawn_28 (by decide) (fun _ => ?_) (fun c_0 => absurd (zD_eq zk_0 zk_z) c_0)
        refine lv_iconst (v := nI 0) hx hb dX11_areDrawn_35 (by decide +kernel) ?_
        exact z_zret (v := nI 0) hx hb hr hlocks hP hD hS (by decide +kernel) dX11_areDrawn_36 (Or.inr ⟨rfl, rfl⟩)
      · cases hu_7
        have f_14 : zL 41 2147483647 ((pa1).toInt64) := zL_lty h2_7 zkl_40 (zR_i2l (zR_any (pa1))) (by decide)
        have f_15 : zR 41 2147483647 (pa1) := zL_back f_14
        refine lv_if_eq (tgt := 35) hx hb dX11_areDrawn_28 (by decide) (fun _ => ?_) (fun c_0 => absurd (zD_eq zk_0 zk_z) c_0)
        refine lv_iconst (v := nI 0) hx hb dX11_areDrawn_35 (by decide +kernel) ?_
        exact z_zret (v := nI 0) hx hb hr hlocks hP hD hS (by decide +kernel) dX11_areDrawn_36 (Or.inr ⟨rfl, rfl⟩)
    · cases hu_2
      have f_16 : zL (-2147483648) (-1) ((pa0).toInt64) := zL_ltx h1_2 (zR_i2l (zR_any (pa0))) zkl_0 (by decide)
      have f_17 : zR (-2147483648) (-1) (pa0) := zL_back f_16
      refine lv_if_eq (tgt := 35) hx hb dX11_areDrawn_16 (by decide) (fun _ => ?_) (fun c_0 => absurd (zD_eq zk_0 zk_z) c_0)
      refine lv_iconst (v := nI 0) hx hb dX11_areDrawn_35 (by decide +kernel) ?_
      exact z_zret (v := nI 0) hx hb hr hlocks hP hD hS (by decide +kernel) dX11_areDrawn_36 (Or.inr ⟨rfl, rfl⟩)
    · cases hu_2
      have f_18 : zL 2000000001 2147483647 ((pa0).toInt64) := zL_lty h2_2 zkl_2000000000 (zR_i2l (zR_any (pa0))) (by decide)
      have f_19 : zR 2000000001 2147483647 (pa0) := zL_back f_18
      refine lv_if_eq (tgt := 35) hx hb dX11_areDrawn_16 (by decide) (fun _ => ?_) (fun c_0 => absurd (zD_eq zk_0 zk_z) c_0)
      refine lv_iconst (v := nI 0) hx hb dX11_areDrawn_35 (by decide +kernel) ?_
      exact z_zret (v := nI 0) hx hb hr hlocks hP hD hS (by decide +kernel) dX11_areDrawn_36 (Or.inr ⟨rfl, rfl⟩)
  · cases hu_1
    refine lv_if_eq (tgt := 35) hx hb dX11_areDrawn_4 (by decide) (fun _ => ?_) (fun c_0 => absurd (zD_eq zk_0 zk_z) c_0)
    refine lv_iconst (v := nI 0) hx hb dX11_areDrawn_35 (by decide +kernel) ?_
    exact z_zret (v := nI 0) hx hb hr hlocks hP hD hS (by decide +kernel) dX11_areDrawn_36 (Or.inr ⟨rfl, rfl⟩)
set_option maxHeartbeats 4000000 in
set_option maxRecDepth 100000 in
theorem mk_X11_draw (l : Launch) (D : va_G) (q : Nat → Nat) (cA : Nat → ClassId) (F : Nat → Nat → Int32) (I R : Nat → Nat → Int32) (J : Nat → Nat → Int64) (hI : mInv F (I, R, J))  : zMi l D vwCl (zMtys cA) 25 q (zMd q cA) yX11_draw cX11_draw 2 (some .int) ({ frames := 0, cells := 0, slots := 0, locals := 0 } : Room) [.ref (q 0), .int (nI 100)] (I, R, J) (fun r u => zR 0 99 r ∧ mInv F u) := by
  intro sz
  refine z_body (by decide +kernel) (Nat.le_of_ble_eq_true rfl) (fun p e s m below meth c ls hx hb hml hr ht hown hlocks hsz hK hP hD hS hl => ?_)
  have hA : ∀ a, s.heap.size ≤ a → zA 25 q sz a := fun a h => Or.inr (hsz ▸ h)
  have hl : lv_has ls 2 [(0, .ref (q 0)), (1, .int (nI 100))] := hl
  refine lv_aload_n hx hb dX11_draw_0 rfl (lv_at hl 0 rfl) ?_
  refine lv_ldc2 (v := (1103515245 : Int64)) hx hb hown (ht _ hw_8_122) dX11_draw_1 ?_
  refine lv_aload_n hx hb dX11_draw_4 rfl (lv_at hl 0 rfl) ?_
  refine z_get hx hb ht hown hK hP ziX11 rfl 0 (by decide) 39 (by decide) hw_5_226 rfl (v := .long (J 0 39)) rfl dX11_draw_5 ?_
  have f_1 : zL 0 2147483647 (J 0 39) := mJd hI
  refine lv_lmul hx hb dX11_draw_8 ?_
  refine z_rngL (a := 0) (b := 2369780942852698515) (zL_mul zkl_1103515245 f_1 (by decide)) (fun j_2 hj_2 => ?_)
  refine lv_ldc2 (v := (12345 : Int64)) hx hb hown (ht _ hw_8_123) dX11_draw_9 ?_
  refine lv_ladd hx hb dX11_draw_12 ?_
  refine z_rngL (a := 12345) (b := 2369780942852710860) (zL_add hj_2 zkl_12345 (by decide)) (fun j_3 hj_3 => ?_)
  refine lv_ldc2 (v := (2147483648 : Int64)) hx hb hown (ht _ hw_8_124) dX11_draw_13 ?_
  refine lv_lrem hx hb dX11_draw_16 (by decide +kernel) ?_
  refine z_rngL (a := 0) (b := 2147483647) (zL_rem hj_3 zkl_2147483648 (by decide)) (fun j_4 hj_4 => ?_)
  refine z_putJ hx hb ht hown hK hP hD hS ziX11 tyX11 tyX11_ok nmX11 rfl 0 (by decide) 39 (by decide) hw_5_226 rfl (v := j_4) rfl rfl rfl (Nat.le_of_ble_eq_true rfl) rfl dX11_draw_17 (fun H locs hP hD hS => ?_)
  have hI_5 := mInv_Jf hI (j_4) hj_4
  refine lv_aload_n hx hb dX11_draw_20 rfl (lv_at hl 0 rfl) ?_
  refine z_get hx hb ht hown hK hP ziX11 rfl 0 (by decide) 39 (by decide) hw_5_226 rfl (v := .long (j_4)) rfl dX11_draw_21 ?_
  refine lv_ldc2 (v := (65536 : Int64)) hx hb hown (ht _ hw_8_125) dX11_draw_24 ?_
  refine lv_ldiv hx hb dX11_draw_27 (by decide +kernel) ?_
  refine z_rngL (a := 0) (b := 32767) (zL_divc hj_4 zkl_65536 (by decide)) (fun j_6 hj_6 => ?_)
  refine lv_iload_n hx hb dX11_draw_28 rfl (lv_at hl 1 rfl) ?_
  refine lv_i2l (v := (100 : Int64)) hx hb dX11_draw_29 (by decide +kernel) ?_
  refine lv_lrem hx hb dX11_draw_30 (by decide +kernel) ?_
  refine z_rngL (a := 0) (b := 99) (zL_rem hj_6 zkl_100 (by decide)) (fun j_7 hj_7 => ?_)
  refine lv_l2i hx hb dX11_draw_31 rfl ?_
  refine z_rng (a := 0) (b := 99) (zL_l2i hj_7 (by decide)) (fun v_8 hv_8 => ?_)
  exact z_iret (v := v_8) hx hb hr hlocks hP hD hS dX11_draw_32 ⟨hv_8, hI_5⟩
set_option maxHeartbeats 4000000 in
set_option maxRecDepth 100000 in
theorem mk_X11_draw_1 (l : Launch) (D : va_G) (q : Nat → Nat) (cA : Nat → ClassId) (F : Nat → Nat → Int32) (I R : Nat → Nat → Int32) (J : Nat → Nat → Int64) (hI : mInv F (I, R, J)) (pa0 : Int32) (hpa0 : zR 1 6 pa0) : zMi l D vwCl (zMtys cA) 25 q (zMd q cA) yX11_draw cX11_draw 2 (some .int) ({ frames := 0, cells := 0, slots := 0, locals := 0 } : Room) [.ref (q 0), .int (pa0)] (I, R, J) (fun r u => zR 0 5 r ∧ mInv F u) := by
  intro sz
  refine z_body (by decide +kernel) (Nat.le_of_ble_eq_true rfl) (fun p e s m below meth c ls hx hb hml hr ht hown hlocks hsz hK hP hD hS hl => ?_)
  have hA : ∀ a, s.heap.size ≤ a → zA 25 q sz a := fun a h => Or.inr (hsz ▸ h)
  have hl : lv_has ls 2 [(0, .ref (q 0)), (1, .int (pa0))] := hl
  refine lv_aload_n hx hb dX11_draw_0 rfl (lv_at hl 0 rfl) ?_
  refine lv_ldc2 (v := (1103515245 : Int64)) hx hb hown (ht _ hw_8_122) dX11_draw_1 ?_
  refine lv_aload_n hx hb dX11_draw_4 rfl (lv_at hl 0 rfl) ?_
  refine z_get hx hb ht hown hK hP ziX11 rfl 0 (by decide) 39 (by decide) hw_5_226 rfl (v := .long (J 0 39)) rfl dX11_draw_5 ?_
  have f_1 : zL 0 2147483647 (J 0 39) := mJd hI
  refine lv_lmul hx hb dX11_draw_8 ?_
  refine z_rngL (a := 0) (b := 2369780942852698515) (zL_mul zkl_1103515245 f_1 (by decide)) (fun j_2 hj_2 => ?_)
  refine lv_ldc2 (v := (12345 : Int64)) hx hb hown (ht _ hw_8_123) dX11_draw_9 ?_
  refine lv_ladd hx hb dX11_draw_12 ?_
  refine z_rngL (a := 12345) (b := 2369780942852710860) (zL_add hj_2 zkl_12345 (by decide)) (fun j_3 hj_3 => ?_)
  refine lv_ldc2 (v := (2147483648 : Int64)) hx hb hown (ht _ hw_8_124) dX11_draw_13 ?_
  refine lv_lrem hx hb dX11_draw_16 (by decide +kernel) ?_
  refine z_rngL (a := 0) (b := 2147483647) (zL_rem hj_3 zkl_2147483648 (by decide)) (fun j_4 hj_4 => ?_)
  refine z_putJ hx hb ht hown hK hP hD hS ziX11 tyX11 tyX11_ok nmX11 rfl 0 (by decide) 39 (by decide) hw_5_226 rfl (v := j_4) rfl rfl rfl (Nat.le_of_ble_eq_true rfl) rfl dX11_draw_17 (fun H locs hP hD hS => ?_)
  have hI_5 := mInv_Jf hI (j_4) hj_4
  refine lv_aload_n hx hb dX11_draw_20 rfl (lv_at hl 0 rfl) ?_
  refine z_get hx hb ht hown hK hP ziX11 rfl 0 (by decide) 39 (by decide) hw_5_226 rfl (v := .long (j_4)) rfl dX11_draw_21 ?_
  refine lv_ldc2 (v := (65536 : Int64)) hx hb hown (ht _ hw_8_125) dX11_draw_24 ?_
  refine lv_ldiv hx hb dX11_draw_27 (by decide +kernel) ?_
  refine z_rngL (a := 0) (b := 32767) (zL_divc hj_4 zkl_65536 (by decide)) (fun j_6 hj_6 => ?_)
  refine lv_iload_n hx hb dX11_draw_28 rfl (lv_at hl 1 rfl) ?_
  refine lv_i2l (v := (pa0).toInt64) hx hb dX11_draw_29 rfl ?_
  refine lv_lrem hx hb dX11_draw_30 (zL_ne0 (zR_i2l hpa0) (by decide)) ?_
  refine z_rngL (a := 0) (b := 5) (zL_rem hj_6 (zR_i2l hpa0) (by decide)) (fun j_7 hj_7 => ?_)
  refine lv_l2i hx hb dX11_draw_31 rfl ?_
  refine z_rng (a := 0) (b := 5) (zL_l2i hj_7 (by decide)) (fun v_8 hv_8 => ?_)
  exact z_iret (v := v_8) hx hb hr hlocks hP hD hS dX11_draw_32 ⟨hv_8, hI_5⟩
set_option maxHeartbeats 4000000 in
set_option maxRecDepth 100000 in
theorem mk_X11_goDrawn (l : Launch) (D : va_G) (q : Nat → Nat) (cA : Nat → ClassId) (F : Nat → Nat → Int32) (I R : Nat → Nat → Int32) (J : Nat → Nat → Int64) (hI : mInv F (I, R, J)) (pa0 : Int64) (hpa0 : zL 0 2000000000 pa0) (pa1 : Int32) (hpa1 : zR 0 40 pa1) : zMi l D vwCl (zMtys cA) 25 q (zMd q cA) yX11_goDrawn cX11_goDrawn 8 (some .int) ({ frames := 6, cells := 0, slots := 0, locals := 155 } : Room) [.ref (q 0), .long (pa0), .int (pa1)] (I, R, J) (fun _ u => mInv F u) := by
  intro sz
  refine z_body (by decide +kernel) (Nat.le_of_ble_eq_true rfl) (fun p e s m below meth c ls hx hb hml hr ht hown hlocks hsz hK hP hD hS hl => ?_)
  have hA : ∀ a, s.heap.size ≤ a → zA 25 q sz a := fun a h => Or.inr (hsz ▸ h)
  have hl : lv_has ls 8 [(0, .ref (q 0)), (1, .long (pa0)), (3, .int (pa1))] := hl
  refine lv_aload_n hx hb dX11_goDrawn_0 rfl (lv_at hl 0 rfl) ?_
  refine z_callVv (k := 0) (As := []) (rest := []) hx hb hml hown ht (mk_X11_asItIs l D q cA F _ _ _ hI ) hw_6_181 hmX11_asItIs ⟨rfl, rfl⟩ (na := 0) rfl (by decide +kernel) (by decide) (by decide) rfl rfl hK hP hD hS hA hl.1 rfl (Nat.le_of_ble_eq_true rfl) ⟨Nat.zero_le _, Nat.zero_le _⟩ dX11_goDrawn_1 (fun I_1 R_1 J_1 H locs hp_1 hP hD hS _ _ => ?_)
  obtain ⟨hv_1, hj_1, hs_1⟩ := hp_1
  try dsimp only at hj_1
  subst J_1
  refine lv_aload_n hx hb dX11_goDrawn_4 rfl (lv_at hl 0 rfl) ?_
  refine lv_lload_n hx hb dX11_goDrawn_5 rfl (lv_at hl 1 rfl) ?_
  refine z_putJ hx hb ht hown hK hP hD hS ziX11 tyX11 tyX11_ok nmX11 rfl 0 (by decide) 39 (by decide) hw_5_226 rfl (v := pa0) rfl rfl rfl (Nat.le_of_ble_eq_true rfl) rfl dX11_goDrawn_6 (fun H locs hP hD hS => ?_)
  have hI_2 := mInv_Jf hv_1 (pa0) (zL_w hpa0 (by decide))
  refine lv_iconst (v := nI 0) hx hb dX11_goDrawn_9 (by decide +kernel) ?_
  refine lv_istore (lv' := [(4, .int (nI 0)), (0, .ref (q 0)), (1, .long (pa0)), (3, .int (pa1))]) hx hb dX11_goDrawn_10 hl (by decide) rfl (fun ls hl => ?_)
  refine lv_iconst (v := nI 0) hx hb dX11_goDrawn_12 (by decide +kernel) ?_
  refine lv_istore (lv' := [(5, .int (nI 0)), (4, .int (nI 0)), (0, .ref (q 0)), (1, .long (pa0)), (3, .int (pa1))]) hx hb dX11_goDrawn_13 hl (by decide) rfl (fun ls hl => ?_)
  have loop_354 : ∀ N : Nat, ∀ x_351 : Int32, ∀ x_352 : Int32, zR 0 40 x_352 → ∀ I_353 : Nat → Nat → Int32, ∀ R_353 : Nat → Nat → Int32, ∀ J_353 : Nat → Nat → Int64, mInv F (I_353, R_353, J_353) → (2147483648 - (x_352).toInt).toNat < N → ∀ (H : Heap) (locs : List Loc), va_P D vwCl (zw 25 q (zMd q cA) I_353 R_353 J_353) H → va_D (zA 25 q sz) (zw 25 q (zMd q cA) I_353 R_353 J_353) → va_S (zA 25 q sz) s.heap H locs → ∀ ls : Array Slot, lv_has ls 8 [(0, .ref (q 0)), (1, .long (pa0)), (3, .int (pa1)), (4, .int (x_351)), (5, .int (x_352))] → W p l e ({ frames := 6, cells := 0, slots := 0, locals := 155 } : Room) s m ([.ref (q 0), .long (pa0), .int (pa1)] : List Value).toArray below meth c H locs 0 0 (MQ below (va_Qi (fun _ u => mInv F u) (zB D vwCl 25 q (zMd q cA) sz) (zA 25 q sz)) ([.ref (q 0), .long (pa0), .int (pa1)] : List Value).toArray s 0 0 (zA 25 q sz)) (F0 m 15 ls []) := by
    intro N
    induction N with
    | zero => intro x_351 x_352 hx_352 I_353 R_353 J_353 hI_353 hN; exact absurd hN (Nat.not_lt_zero _)
    | succ N ih_356 =>
      intro x_351 x_352 hx_352 I_353 R_353 J_353 hI_353 hN_355 H locs hP hD hS ls hl
      refine lv_iload hx hb dX11_goDrawn_15 (lv_at hl 4 rfl) ?_
      refine lv_iload_n hx hb dX11_goDrawn_17 rfl (lv_at hl 2 rfl) ?_
      refine lv_icmp_ge (tgt := 121) hx hb dX11_goDrawn_18 (by decide) (fun c_357 => ?_) (fun c_357 => ?_)
      · have t_c_357 := z_leT c_357
        refine lv_iload hx hb dX11_goDrawn_121 (lv_at hl 3 rfl) ?_
        exact z_iret (v := x_351) hx hb hr hlocks hP hD hS dX11_goDrawn_123 hI_353
      · have t_c_357 := z_leF c_357
        have f_358 : zR 0 39 (x_352) := zR_ltx t_c_357 hx_352 hpa1 (by decide)
        have f_359 : zR 1 40 (pa1) := zR_lty t_c_357 hx_352 hpa1 (by decide)
        refine lv_iconst (v := nI 0) hx hb dX11_goDrawn_21 (by decide +kernel) ?_
        refine lv_istore (lv' := [(6, .int (nI 0)), (0, .ref (q 0)), (1, .long (pa0)), (3, .int (pa1)), (4, .int (x_351)), (5, .int (x_352))]) hx hb dX11_goDrawn_22 hl (by decide) rfl (fun ls hl => ?_)
        have loop_439 : ∀ N : Nat, ∀ x_437 : Int32, zR 0 5 x_437 → ∀ I_438 : Nat → Nat → Int32, ∀ R_438 : Nat → Nat → Int32, ∀ J_438 : Nat → Nat → Int64, mInv F (I_438, R_438, J_438) → (2147483648 - (x_437).toInt).toNat < N → ∀ (H : Heap) (locs : List Loc), va_P D vwCl (zw 25 q (zMd q cA) I_438 R_438 J_438) H → va_D (zA 25 q sz) (zw 25 q (zMd q cA) I_438 R_438 J_438) → va_S (zA 25 q sz) s.heap H locs → ∀ ls : Array Slot, lv_has ls 8 [(0, .ref (q 0)), (1, .long (pa0)), (3, .int (pa1)), (4, .int (x_351)), (5, .int (x_352)), (6, .int (x_437))] → W p l e ({ frames := 6, cells := 0, slots := 0, locals := 155 } : Room) s m ([.ref (q 0), .long (pa0), .int (pa1)] : List Value).toArray below meth c H locs 0 0 (MQ below (va_Qi (fun _ u => mInv F u) (zB D vwCl 25 q (zMd q cA) sz) (zA 25 q sz)) ([.ref (q 0), .long (pa0), .int (pa1)] : List Value).toArray s 0 0 (zA 25 q sz)) (F0 m 24 ls []) := by
          intro N
          induction N with
          | zero => intro x_437 hx_437 I_438 R_438 J_438 hI_438 hN; exact absurd hN (Nat.not_lt_zero _)
          | succ N ih_441 =>
            intro x_437 hx_437 I_438 R_438 J_438 hI_438 hN_440 H locs hP hD hS ls hl
            refine lv_iload hx hb dX11_goDrawn_24 (lv_at hl 5 rfl) ?_
            refine lv_aload_n hx hb dX11_goDrawn_26 rfl (lv_at hl 0 rfl) ?_
            refine z_get hx hb ht hown hK hP ziX11 rfl 0 (by decide) 1 (by decide) hw_5_188 rfl (v := .ref (q 1)) rfl dX11_goDrawn_27 ?_
            refine lv_iconst (v := nI 3) hx hb dX11_goDrawn_30 (by decide +kernel) ?_
            refine z_iald hx hb hK hP 1 (by decide) 0 rfl rfl (zR_vin zk_3 (by decide)) dX11_goDrawn_31 ?_
            refine z_eqi (y := R_438 1 (nI 3).toNatClampNeg) rfl ?_
            have f_442 : zR 0 5 (R_438 1 (nI 3).toNatClampNeg) := mR hI_438 1 3
            refine lv_icmp_ge (tgt := 106) hx hb dX11_goDrawn_32 (by decide) (fun c_443 => ?_) (fun c_443 => ?_)
            · have t_c_443 := z_leT c_443
              refine lv_iload hx hb dX11_goDrawn_106 (lv_at hl 3 rfl) ?_
              refine lv_aload_n hx hb dX11_goDrawn_108 rfl (lv_at hl 0 rfl) ?_
              refine z_callVi (k := 0) (As := []) (rest := [.int (x_351)]) hx hb hml hown ht (mk_X11_night0 l D q cA F _ _ _ hI_438 ) hw_6_222 hmX11_night0 ⟨rfl, rfl⟩ (na := 0) rfl (by decide +kernel) (by decide) (by decide) rfl rfl hK hP hD hS hA hl.1 rfl (Nat.le_of_ble_eq_true rfl) ⟨Nat.zero_le _, Nat.zero_le _⟩ dX11_goDrawn_109 (fun r_460 I_460 R_460 J_460 H locs hp_460 hP hD hS _ _ => ?_)
              obtain ⟨hv_460, hj_460, hk26_460⟩ := hp_460
              try dsimp only at hj_460
              subst J_460
              refine lv_iadd hx hb dX11_goDrawn_112 ?_
              refine z_any (fun v_461 => ?_)
              refine lv_istore (lv' := [(4, .int (v_461)), (0, .ref (q 0)), (1, .long (pa0)), (3, .int (pa1)), (5, .int (x_352)), (6, .int (x_437))]) hx hb dX11_goDrawn_113 hl (by decide) rfl (fun ls hl => ?_)
              obtain ⟨v_462, ev_462⟩ : ∃ y : Int32, y = x_352 + nI 1 := ⟨_, rfl⟩
              have hv_462 : zR 1 40 v_462 := ev_462 ▸ zR_add f_358 zk_1 (by decide)
              have mv_462 : v_462.toInt = (x_352).toInt + 1 := by rw [ev_462, zR_addE f_358 zk_1 (by decide)]; rfl
              refine lv_iinc (v := v_462) (lv' := [(5, .int (v_462)), (4, .int (v_461)), (0, .ref (q 0)), (1, .long (pa0)), (3, .int (pa1)), (6, .int (x_437))]) hx hb dX11_goDrawn_115 hl (k := 4) rfl (ev_462 ▸ rfl) (by decide) rfl (fun ls hl => ?_)
              refine lv_goto (tgt := 15) hx hb dX11_goDrawn_118 (by decide) ?_
              exact ih_356 (v_461) (v_462) (zR_w hv_462 (by decide)) _ _ _ hv_460 (z2_up mv_462 (by decide) hN_355) _ _ hP hD hS _ (lv_sub hl [2, 3, 4, 1, 0] rfl)
            · have t_c_443 := z_leF c_443
              have f_463 : zR 0 4 (x_437) := zR_ltx t_c_443 hx_437 f_442 (by decide)
              have f_464 : zR 1 5 (R_438 1 (nI 3).toNatClampNeg) := zR_lty t_c_443 hx_437 f_442 (by decide)
              refine lv_aload_n hx hb dX11_goDrawn_35 rfl (lv_at hl 0 rfl) ?_
              refine lv_bipush (v := nI 100) hx hb dX11_goDrawn_36 (by decide +kernel) ?_
              refine z_callVi (k := 0) (As := [.int (nI 100)]) (rest := []) hx hb hml hown ht (mk_X11_draw l D q cA F _ _ _ hI_438 ) hw_8_118 hmX11_draw ⟨rfl, rfl⟩ (na := 1) rfl (by decide +kernel) (by decide) (by decide) rfl rfl hK hP hD hS hA hl.1 rfl (Nat.le_of_ble_eq_true rfl) ⟨Nat.zero_le _, Nat.zero_le _⟩ dX11_goDrawn_38 (fun r_465 I_465 R_465 J_465 H locs hp_465 hP hD hS _ _ => ?_)
              obtain ⟨hr_465, hu_465⟩ := hp_465
              refine lv_aload_n hx hb dX11_goDrawn_41 rfl (lv_at hl 0 rfl) ?_
              refine z_get hx hb ht hown hK hP ziX11 rfl 0 (by decide) 1 (by decide) hw_5_188 rfl (v := .ref (q 1)) rfl dX11_goDrawn_42 ?_
              refine lv_iconst (v := nI 2) hx hb dX11_goDrawn_45 (by decide +kernel) ?_
              refine z_iald hx hb hK hP 1 (by decide) 0 rfl rfl (zR_vin zk_2 (by decide)) dX11_goDrawn_46 ?_
              refine z_eqi (y := R_465 1 (nI 2).toNatClampNeg) rfl ?_
              have t_478 : ∀ I_477 : Nat → Nat → Int32, ∀ R_477 : Nat → Nat → Int32, ∀ J_477 : Nat → Nat → Int64, mInv F (I_477, R_477, J_477) → ∀ (H : Heap) (locs : List Loc), va_P D vwCl (zw 25 q (zMd q cA) I_477 R_477 J_477) H → va_D (zA 25 q sz) (zw 25 q (zMd q cA) I_477 R_477 J_477) → va_S (zA 25 q sz) s.heap H locs → ∀ ls : Array Slot, lv_has ls 8 [(0, .ref (q 0)), (1, .long (pa0)), (3, .int (pa1)), (4, .int (x_351)), (5, .int (x_352)), (6, .int (x_437))] → W p l e ({ frames := 6, cells := 0, slots := 0, locals := 155 } : Room) s m ([.ref (q 0), .long (pa0), .int (pa1)] : List Value).toArray below meth c H locs 0 0 (MQ below (va_Qi (fun _ u => mInv F u) (zB D vwCl 25 q (zMd q cA) sz) (zA 25 q sz)) ([.ref (q 0), .long (pa0), .int (pa1)] : List Value).toArray s 0 0 (zA 25 q sz)) (F0 m 100 ls []) := by
                intro I_477 R_477 J_477 hI_477 H locs hP hD hS ls hl
                obtain ⟨v_479, ev_479⟩ : ∃ y : Int32, y = x_437 + nI 1 := ⟨_, rfl⟩
                have hv_479 : zR 1 5 v_479 := ev_479 ▸ zR_add f_463 zk_1 (by decide)
                have mv_479 : v_479.toInt = (x_437).toInt + 1 := by rw [ev_479, zR_addE f_463 zk_1 (by decide)]; rfl
                refine lv_iinc (v := v_479) (lv' := [(6, .int (v_479)), (0, .ref (q 0)), (1, .long (pa0)), (3, .int (pa1)), (4, .int (x_351)), (5, .int (x_352))]) hx hb dX11_goDrawn_100 hl (k := 5) rfl (ev_479 ▸ rfl) (by decide) rfl (fun ls hl => ?_)
                refine lv_goto (tgt := 24) hx hb dX11_goDrawn_103 (by decide) ?_
                exact ih_441 (v_479) (zR_w hv_479 (by decide)) _ _ _ hI_477 (z2_up mv_479 (by decide) hN_440) _ _ hP hD hS _ (lv_sub hl [1, 2, 3, 4, 5, 0] rfl)
              refine lv_icmp_ge (tgt := 100) hx hb dX11_goDrawn_47 (by decide) (fun c_466 => ?_) (fun c_466 => ?_)
              · have t_c_466 := z_leT c_466
                have f_480 : zR (-2147483648) 99 (R_465 1 (nI 2).toNatClampNeg) := zR_lex t_c_466 (zR_any (R_465 1 (nI 2).toNatClampNeg)) hr_465 (by decide)
                exact t_478 _ _ _ hu_465 _ _ hP hD hS _ (lv_sub hl [0, 1, 2, 3, 4, 5] rfl)
              · have t_c_466 := z_leF c_466
                have f_481 : zR 1 2147483647 (R_465 1 (nI 2).toNatClampNeg) := zR_lty t_c_466 hr_465 (zR_any (R_465 1 (nI 2).toNatClampNeg)) (by decide)
                refine lv_aload_n hx hb dX11_goDrawn_50 rfl (lv_at hl 0 rfl) ?_
                refine z_get hx hb ht hown hK hP ziX11 rfl 0 (by decide) 1 (by decide) hw_5_188 rfl (v := .ref (q 1)) rfl dX11_goDrawn_51 ?_
                refine lv_iconst (v := nI 4) hx hb dX11_goDrawn_54 (by decide +kernel) ?_
                refine z_iald hx hb hK hP 1 (by decide) 0 rfl rfl (zR_vin zk_4 (by decide)) dX11_goDrawn_55 ?_
                refine z_eqi (y := R_465 1 (nI 4).toNatClampNeg) rfl ?_
                have f_482 : zR 0 6 (R_465 1 (nI 4).toNatClampNeg) := mR hu_465 1 4
                refine lv_if_ne (tgt := 62) hx hb dX11_goDrawn_56 (by decide) (fun c_483 => ?_) (fun c_483 => ?_)
                · have t_c_483 := z_eqF c_483
                  have f_484 : zR 1 6 (R_465 1 (nI 4).toNatClampNeg) := zR_nex t_c_483 f_482 zk_z (by decide)
                  refine lv_aload_n hx hb dX11_goDrawn_62 rfl (lv_at hl 0 rfl) ?_
                  refine lv_aload_n hx hb dX11_goDrawn_63 rfl (lv_at hl 0 rfl) ?_
                  refine z_get hx hb ht hown hK hP ziX11 rfl 0 (by decide) 1 (by decide) hw_5_188 rfl (v := .ref (q 1)) rfl dX11_goDrawn_64 ?_
                  refine lv_iconst (v := nI 4) hx hb dX11_goDrawn_67 (by decide +kernel) ?_
                  refine z_iald hx hb hK hP 1 (by decide) 0 rfl rfl (zR_vin zk_4 (by decide)) dX11_goDrawn_68 ?_
                  refine z_eqi (y := R_465 1 (nI 4).toNatClampNeg) rfl ?_
                  refine z_callVi (k := 0) (As := [.int (R_465 1 (nI 4).toNatClampNeg)]) (rest := []) hx hb hml hown ht (mk_X11_draw_1 l D q cA F _ _ _ hu_465 (R_465 1 (nI 4).toNatClampNeg) f_484) hw_8_118 hmX11_draw ⟨rfl, rfl⟩ (na := 1) rfl (by decide +kernel) (by decide) (by decide) rfl rfl hK hP hD hS hA hl.1 rfl (Nat.le_of_ble_eq_true rfl) ⟨Nat.zero_le _, Nat.zero_le _⟩ dX11_goDrawn_69 (fun r_485 I_485 R_485 J_485 H locs hp_485 hP hD hS _ _ => ?_)
                  obtain ⟨hr_485, hu_485⟩ := hp_485
                  refine lv_istore (lv' := [(7, .int (r_485)), (0, .ref (q 0)), (1, .long (pa0)), (3, .int (pa1)), (4, .int (x_351)), (5, .int (x_352)), (6, .int (x_437))]) hx hb dX11_goDrawn_72 hl (by decide) rfl (fun ls hl => ?_)
                  refine lv_aload_n hx hb dX11_goDrawn_74 rfl (lv_at hl 1 rfl) ?_
                  refine lv_iload hx hb dX11_goDrawn_75 (lv_at hl 6 rfl) ?_
                  refine lv_iload hx hb dX11_goDrawn_77 (lv_at hl 0 rfl) ?_
                  refine z_callVi (k := 0) (As := [.int (x_437), .int (r_485)]) (rest := []) hx hb hml hown ht (mk_X11_canSteal l D q cA F _ _ _ hu_485 (x_437) f_463 (r_485) hr_485) hw_7_40 hmX11_canSteal ⟨rfl, rfl⟩ (na := 2) rfl (by decide +kernel) (by decide) (by decide) rfl rfl hK hP hD hS hA hl.1 rfl (Nat.le_of_ble_eq_true rfl) ⟨Nat.zero_le _, Nat.zero_le _⟩ dX11_goDrawn_79 (fun r_486 I_486 R_486 J_486 H locs hp_486 hP hD hS _ _ => ?_)
                  rcases hp_486 with ⟨rfl, hu_486, nn_486⟩ | ⟨rfl, hu_486, nn_486⟩
                  · cases hu_486
                    refine lv_if_eq (tgt := 100) hx hb dX11_goDrawn_82 (by decide) (fun c_0 => absurd c_0 (zD_ne zk_1 zk_z (by decide))) (fun _ => ?_)
                    refine lv_aload_n hx hb dX11_goDrawn_85 rfl (lv_at hl 1 rfl) ?_
                    refine lv_iload hx hb dX11_goDrawn_86 (lv_at hl 6 rfl) ?_
                    refine lv_iload hx hb dX11_goDrawn_88 (lv_at hl 0 rfl) ?_
                    refine lv_aload_n hx hb dX11_goDrawn_90 rfl (lv_at hl 1 rfl) ?_
                    refine z_get hx hb ht hown hK hP ziX11 rfl 0 (by decide) 27 (by decide) hw_5_214 rfl (v := .int (I_485 0 27)) rfl dX11_goDrawn_91 ?_
                    refine lv_bipush (v := nI 7) hx hb dX11_goDrawn_94 (by decide +kernel) ?_
                    refine lv_iadd hx hb dX11_goDrawn_96 ?_
                    refine z_any (fun v_487 => ?_)
                    refine z_callVv (k := 0) (As := [.int (x_437), .int (r_485), .int (v_487)]) (rest := []) hx hb hml hown ht (mk_X11_steal0 l D q cA F _ _ _ hu_485 (x_437) f_463 (r_485) hr_485 (v_487) nn_486) hw_6_190 hmX11_steal0 ⟨rfl, rfl⟩ (na := 3) rfl (by decide +kernel) (by decide) (by decide) rfl rfl hK hP hD hS hA hl.1 rfl (Nat.le_of_ble_eq_true rfl) ⟨Nat.zero_le _, Nat.zero_le _⟩ dX11_goDrawn_97 (fun I_488 R_488 J_488 H locs hp_488 hP hD hS _ _ => ?_)
                    obtain ⟨hv_488, hj_488, hs_488⟩ := hp_488
                    try dsimp only at hj_488
                    subst J_488
                    exact t_478 _ _ _ hv_488 _ _ hP hD hS _ (lv_sub hl [1, 2, 3, 4, 5, 6] rfl)
                  · cases hu_486
                    refine lv_if_eq (tgt := 100) hx hb dX11_goDrawn_82 (by decide) (fun _ => ?_) (fun c_0 => absurd (zD_eq zk_0 zk_z) c_0)
                    exact t_478 _ _ _ hu_485 _ _ hP hD hS _ (lv_sub hl [1, 2, 3, 4, 5, 6] rfl)
                · have t_c_483 := z_eqT c_483
                  have f_489 : zR 0 0 (R_465 1 (nI 4).toNatClampNeg) := zR_eqx t_c_483 zk_z
                  refine lv_goto (tgt := 100) hx hb dX11_goDrawn_59 (by decide) ?_
                  exact t_478 _ _ _ hu_465 _ _ hP hD hS _ (lv_sub hl [0, 1, 2, 3, 4, 5] rfl)
        exact loop_439 _ (nI 0) (zR_w zk_0 (by decide)) _ _ _ hI_353 (Nat.lt_succ_self _) _ _ hP hD hS _ (lv_sub hl [1, 2, 3, 4, 5, 0] rfl)
  exact loop_354 _ (nI 0) (nI 0) (zR_w zk_0 (by decide)) _ _ _ hI_2 (Nat.lt_succ_self _) _ _ hP hD hS _ (lv_sub hl [2, 3, 4, 1, 0] rfl)
set_option maxHeartbeats 4000000 in
set_option maxRecDepth 100000 in
theorem mk_X11_drawn (l : Launch) (D : va_G) (q : Nat → Nat) (cA : Nat → ClassId) (F : Nat → Nat → Int32) (I R : Nat → Nat → Int32) (J : Nat → Nat → Int64) (hI : mInv F (I, R, J)) (pa0 : Int32) (pa1 : Int32) (pa2 : Int32) : zMi l D vwCl (zMtys cA) 25 q (zMd q cA) yX11_drawn cX11_drawn 5 (some .int) ({ frames := 7, cells := 0, slots := 0, locals := 182 } : Room) [.ref (q 0), .int (pa0), .int (pa1), .int (pa2)] (I, R, J) (fun _ u => mInv F u) := by
  intro sz
  refine z_body (by decide +kernel) (Nat.le_of_ble_eq_true rfl) (fun p e s m below meth c ls hx hb hml hr ht hown hlocks hsz hK hP hD hS hl => ?_)
  have hA : ∀ a, s.heap.size ≤ a → zA 25 q sz a := fun a h => Or.inr (hsz ▸ h)
  have hl : lv_has ls 5 [(0, .ref (q 0)), (1, .int (pa0)), (2, .int (pa1)), (3, .int (pa2))] := hl
  refine lv_aload_n hx hb dX11_drawn_0 rfl (lv_at hl 0 rfl) ?_
  refine lv_iload_n hx hb dX11_drawn_1 rfl (lv_at hl 1 rfl) ?_
  refine lv_iload_n hx hb dX11_drawn_2 rfl (lv_at hl 2 rfl) ?_
  refine z_callVi (k := 0) (As := [.int (pa0), .int (pa1)]) (rest := []) hx hb hml hown ht (mk_X11_areDrawn l D q cA F _ _ _ hI (pa0) (pa1)) hw_8_108 hmX11_areDrawn ⟨rfl, rfl⟩ (na := 2) rfl (by decide +kernel) (by decide) (by decide) rfl rfl hK hP hD hS hA hl.1 rfl (Nat.le_of_ble_eq_true rfl) ⟨Nat.zero_le _, Nat.zero_le _⟩ dX11_drawn_3 (fun r_1 I_1 R_1 J_1 H locs hp_1 hP hD hS _ _ => ?_)
  rcases hp_1 with ⟨rfl, hu_1, f0_1, f1_1⟩ | ⟨rfl, hu_1⟩
  · cases hu_1
    refine lv_if_eq (tgt := 21) hx hb dX11_drawn_6 (by decide) (fun c_0 => absurd c_0 (zD_ne zk_1 zk_z (by decide))) (fun _ => ?_)
    refine lv_iload_n hx hb dX11_drawn_9 rfl (lv_at hl 3 rfl) ?_
    refine lv_i2l (v := (pa2).toInt64) hx hb dX11_drawn_10 rfl ?_
    refine lv_lconst (v := (0 : Int64)) hx hb dX11_drawn_11 (by decide +kernel) ?_
    refine lv_ldc2 (v := (2 : Int64)) hx hb hown (ht _ hw_6_85) dX11_drawn_12 ?_
    refine z_callSi (As := [.long ((pa2).toInt64), .long ((0 : Int64)), .long ((2 : Int64))]) (rest := []) hx hb hml hown ht (mk_X11_in l D q cA F _ _ _ hI ((pa2).toInt64) ((0 : Int64)) ((2 : Int64))) hw_6_86 hmX11_in ⟨rfl, rfl⟩ (na := 3) rfl (by decide +kernel) (by decide) hK hP hD hS hA hl.1 rfl (Nat.le_of_ble_eq_true rfl) ⟨Nat.zero_le _, Nat.zero_le _⟩ dX11_drawn_15 (fun r_2 I_2 R_2 J_2 H locs hp_2 hP hD hS _ _ => ?_)
    rcases hp_2 with ⟨rfl, hu_2, h1_2, h2_2⟩ | ⟨rfl, hu_2, h1_2 | h2_2⟩
    · cases hu_2
      have f_3 : zL 0 2147483647 ((pa2).toInt64) := zL_ley h1_2 zkl_0 (zR_i2l (zR_any (pa2))) (by decide)
      have f_4 : zR 0 2147483647 (pa2) := zL_back f_3
      have f_5 : zL 0 2 ((pa2).toInt64) := zL_lex h2_2 f_3 zkl_2 (by decide)
      have f_6 : zR 0 2 (pa2) := zL_back f_5
      refine lv_if_ne (tgt := 24) hx hb dX11_drawn_18 (by decide) (fun _ => ?_) (fun c_0 => absurd c_0 (zD_ne zk_1 zk_z (by decide)))
      refine lv_aload_n hx hb dX11_drawn_24 rfl (lv_at hl 0 rfl) ?_
      refine lv_iload_n hx hb dX11_drawn_25 rfl (lv_at hl 1 rfl) ?_
      refine lv_i2l (v := (pa0).toInt64) hx hb dX11_drawn_26 rfl ?_
      refine lv_iload_n hx hb dX11_drawn_27 rfl (lv_at hl 2 rfl) ?_
      refine z_callVi (k := 0) (As := [.long ((pa0).toInt64), .int (pa1)]) (rest := []) hx hb hml hown ht (mk_X11_goDrawn l D q cA F _ _ _ hI ((pa0).toInt64) (zR_i2l f0_1) (pa1) f1_1) hw_8_114 hmX11_goDrawn ⟨rfl, rfl⟩ (na := 2) rfl (by decide +kernel) (by decide) (by decide) rfl rfl hK hP hD hS hA hl.1 rfl (Nat.le_of_ble_eq_true rfl) ⟨Nat.zero_le _, Nat.zero_le _⟩ dX11_drawn_28 (fun r_7 I_7 R_7 J_7 H locs hp_7 hP hD hS _ _ => ?_)
      refine lv_istore (lv' := [(4, .int (r_7)), (0, .ref (q 0)), (1, .int (pa0)), (2, .int (pa1)), (3, .int (pa2))]) hx hb dX11_drawn_31 hl (by decide) rfl (fun ls hl => ?_)
      refine lv_iload_n hx hb dX11_drawn_33 rfl (lv_at hl 4 rfl) ?_
      refine lv_if_ne (tgt := 42) hx hb dX11_drawn_34 (by decide) (fun c_8 => ?_) (fun c_8 => ?_)
      · have t_c_8 := z_eqF c_8
        have f_9 : zR 1 2 (pa2) := zR_nex t_c_8 f_6 zk_z (by decide)
        refine lv_iload_n hx hb dX11_drawn_42 rfl (lv_at hl 4 rfl) ?_
        refine lv_iconst (v := nI 1) hx hb dX11_drawn_43 (by decide +kernel) ?_
        refine lv_icmp_ne (tgt := 54) hx hb dX11_drawn_44 (by decide) (fun c_10 => ?_) (fun c_10 => ?_)
        · have t_c_10 := z_eqF c_10
          have f_11 : zR 2 2 (pa2) := zR_nex t_c_10 f_9 zk_1 (by decide)
          refine lv_aload_n hx hb dX11_drawn_54 rfl (lv_at hl 1 rfl) ?_
          refine z_get hx hb ht hown hK hP ziX11 rfl 0 (by decide) 1 (by decide) hw_5_188 rfl (v := .ref (q 1)) rfl dX11_drawn_55 ?_
          refine lv_iconst (v := nI 3) hx hb dX11_drawn_58 (by decide +kernel) ?_
          refine z_iald hx hb hK hP 1 (by decide) 0 rfl rfl (zR_vin zk_3 (by decide)) dX11_drawn_59 ?_
          refine z_eqi (y := R_7 1 (nI 3).toNatClampNeg) rfl ?_
          have f_12 : zR 0 5 (R_7 1 (nI 3).toNatClampNeg) := mR hp_7 1 3
          refine lv_if_ne (tgt := 67) hx hb dX11_drawn_60 (by decide) (fun c_13 => ?_) (fun c_13 => ?_)
          · have t_c_13 := z_eqF c_13
            have f_14 : zR 1 5 (R_7 1 (nI 3).toNatClampNeg) := zR_nex t_c_13 f_12 zk_z (by decide)
            refine lv_aload_n hx hb dX11_drawn_67 rfl (lv_at hl 1 rfl) ?_
            refine z_get hx hb ht hown hK hP ziX11 rfl 0 (by decide) 15 (by decide) hw_5_202 rfl (v := .ref (q 7)) rfl dX11_drawn_68 ?_
            refine lv_iconst (v := nI 0) hx hb dX11_drawn_71 (by decide +kernel) ?_
            refine z_iald hx hb hK hP 7 (by decide) 6 rfl rfl (zR_vin zk_0 (by decide)) dX11_drawn_72 ?_
            refine z_eqi (y := R_7 7 (nI 0).toNatClampNeg) rfl ?_
            exact z_iret (v := R_7 7 (nI 0).toNatClampNeg) hx hb hr hlocks hP hD hS dX11_drawn_73 hp_7
          · have t_c_13 := z_eqT c_13
            have f_15 : zR 0 0 (R_7 1 (nI 3).toNatClampNeg) := zR_eqx t_c_13 zk_z
            refine lv_iconst (v := (-1)) hx hb dX11_drawn_63 (by decide +kernel) ?_
            refine lv_goto (tgt := 73) hx hb dX11_drawn_64 (by decide) ?_
            exact z_iret (v := (-1)) hx hb hr hlocks hP hD hS dX11_drawn_73 hp_7
        · have t_c_10 := z_eqT c_10
          have f_16 : zR 1 1 (pa2) := zR_eqx t_c_10 zk_1
          refine lv_aload_n hx hb dX11_drawn_47 rfl (lv_at hl 1 rfl) ?_
          refine z_get hx hb ht hown hK hP ziX11 rfl 0 (by decide) 26 (by decide) hw_5_213 rfl (v := .int (I_7 0 26)) rfl dX11_drawn_48 ?_
          have f_17 : zR 0 24 (I_7 0 26) := mI hp_7 0 26
          refine lv_goto (tgt := 73) hx hb dX11_drawn_51 (by decide) ?_
          exact z_iret (v := I_7 0 26) hx hb hr hlocks hP hD hS dX11_drawn_73 hp_7
      · have t_c_8 := z_eqT c_8
        have f_18 : zR 0 0 (pa2) := zR_eqx t_c_8 zk_z
        refine lv_iload hx hb dX11_drawn_37 (lv_at hl 0 rfl) ?_
        refine lv_goto (tgt := 73) hx hb dX11_drawn_39 (by decide) ?_
        exact z_iret (v := r_7) hx hb hr hlocks hP hD hS dX11_drawn_73 hp_7
    · cases hu_2
      have f_19 : zL (-2147483648) (-1) ((pa2).toInt64) := zL_ltx h1_2 (zR_i2l (zR_any (pa2))) zkl_0 (by decide)
      have f_20 : zR (-2147483648) (-1) (pa2) := zL_back f_19
      refine lv_if_ne (tgt := 24) hx hb dX11_drawn_18 (by decide) (fun c_0 => absurd (zD_eq zk_0 zk_z) c_0) (fun _ => ?_)
      refine lv_bipush (v := (-2)) hx hb dX11_drawn_21 (by decide +kernel) ?_
      exact z_iret (v := (-2)) hx hb hr hlocks hP hD hS dX11_drawn_23 hI
    · cases hu_2
      have f_21 : zL 3 2147483647 ((pa2).toInt64) := zL_lty h2_2 zkl_2 (zR_i2l (zR_any (pa2))) (by decide)
      have f_22 : zR 3 2147483647 (pa2) := zL_back f_21
      refine lv_if_ne (tgt := 24) hx hb dX11_drawn_18 (by decide) (fun c_0 => absurd (zD_eq zk_0 zk_z) c_0) (fun _ => ?_)
      refine lv_bipush (v := (-2)) hx hb dX11_drawn_21 (by decide +kernel) ?_
      exact z_iret (v := (-2)) hx hb hr hlocks hP hD hS dX11_drawn_23 hI
  · cases hu_1
    refine lv_if_eq (tgt := 21) hx hb dX11_drawn_6 (by decide) (fun _ => ?_) (fun c_0 => absurd (zD_eq zk_0 zk_z) c_0)
    refine lv_bipush (v := (-2)) hx hb dX11_drawn_21 (by decide +kernel) ?_
    exact z_iret (v := (-2)) hx hb hr hlocks hP hD hS dX11_drawn_23 hI
set_option maxHeartbeats 4000000 in
set_option maxRecDepth 100000 in
theorem mk_X11_goDrawn_2 (l : Launch) (D : va_G) (q : Nat → Nat) (cA : Nat → ClassId) (F : Nat → Nat → Int32) (I R : Nat → Nat → Int32) (J : Nat → Nat → Int64) (hI : mInv F (I, R, J)) (pa0 : Int64) (hpa0 : zL 0 2000000019 pa0) (pa1 : Int32) (hpa1 : zR 0 40 pa1) : zMi l D vwCl (zMtys cA) 25 q (zMd q cA) yX11_goDrawn cX11_goDrawn 8 (some .int) ({ frames := 6, cells := 0, slots := 0, locals := 155 } : Room) [.ref (q 0), .long (pa0), .int (pa1)] (I, R, J) (fun _ u => mInv F u) := by
  intro sz
  refine z_body (by decide +kernel) (Nat.le_of_ble_eq_true rfl) (fun p e s m below meth c ls hx hb hml hr ht hown hlocks hsz hK hP hD hS hl => ?_)
  have hA : ∀ a, s.heap.size ≤ a → zA 25 q sz a := fun a h => Or.inr (hsz ▸ h)
  have hl : lv_has ls 8 [(0, .ref (q 0)), (1, .long (pa0)), (3, .int (pa1))] := hl
  refine lv_aload_n hx hb dX11_goDrawn_0 rfl (lv_at hl 0 rfl) ?_
  refine z_callVv (k := 0) (As := []) (rest := []) hx hb hml hown ht (mk_X11_asItIs l D q cA F _ _ _ hI ) hw_6_181 hmX11_asItIs ⟨rfl, rfl⟩ (na := 0) rfl (by decide +kernel) (by decide) (by decide) rfl rfl hK hP hD hS hA hl.1 rfl (Nat.le_of_ble_eq_true rfl) ⟨Nat.zero_le _, Nat.zero_le _⟩ dX11_goDrawn_1 (fun I_1 R_1 J_1 H locs hp_1 hP hD hS _ _ => ?_)
  obtain ⟨hv_1, hj_1, hs_1⟩ := hp_1
  try dsimp only at hj_1
  subst J_1
  refine lv_aload_n hx hb dX11_goDrawn_4 rfl (lv_at hl 0 rfl) ?_
  refine lv_lload_n hx hb dX11_goDrawn_5 rfl (lv_at hl 1 rfl) ?_
  refine z_putJ hx hb ht hown hK hP hD hS ziX11 tyX11 tyX11_ok nmX11 rfl 0 (by decide) 39 (by decide) hw_5_226 rfl (v := pa0) rfl rfl rfl (Nat.le_of_ble_eq_true rfl) rfl dX11_goDrawn_6 (fun H locs hP hD hS => ?_)
  have hI_2 := mInv_Jf hv_1 (pa0) (zL_w hpa0 (by decide))
  refine lv_iconst (v := nI 0) hx hb dX11_goDrawn_9 (by decide +kernel) ?_
  refine lv_istore (lv' := [(4, .int (nI 0)), (0, .ref (q 0)), (1, .long (pa0)), (3, .int (pa1))]) hx hb dX11_goDrawn_10 hl (by decide) rfl (fun ls hl => ?_)
  refine lv_iconst (v := nI 0) hx hb dX11_goDrawn_12 (by decide +kernel) ?_
  refine lv_istore (lv' := [(5, .int (nI 0)), (4, .int (nI 0)), (0, .ref (q 0)), (1, .long (pa0)), (3, .int (pa1))]) hx hb dX11_goDrawn_13 hl (by decide) rfl (fun ls hl => ?_)
  have loop_354 : ∀ N : Nat, ∀ x_351 : Int32, ∀ x_352 : Int32, zR 0 40 x_352 → ∀ I_353 : Nat → Nat → Int32, ∀ R_353 : Nat → Nat → Int32, ∀ J_353 : Nat → Nat → Int64, mInv F (I_353, R_353, J_353) → (2147483648 - (x_352).toInt).toNat < N → ∀ (H : Heap) (locs : List Loc), va_P D vwCl (zw 25 q (zMd q cA) I_353 R_353 J_353) H → va_D (zA 25 q sz) (zw 25 q (zMd q cA) I_353 R_353 J_353) → va_S (zA 25 q sz) s.heap H locs → ∀ ls : Array Slot, lv_has ls 8 [(0, .ref (q 0)), (1, .long (pa0)), (3, .int (pa1)), (4, .int (x_351)), (5, .int (x_352))] → W p l e ({ frames := 6, cells := 0, slots := 0, locals := 155 } : Room) s m ([.ref (q 0), .long (pa0), .int (pa1)] : List Value).toArray below meth c H locs 0 0 (MQ below (va_Qi (fun _ u => mInv F u) (zB D vwCl 25 q (zMd q cA) sz) (zA 25 q sz)) ([.ref (q 0), .long (pa0), .int (pa1)] : List Value).toArray s 0 0 (zA 25 q sz)) (F0 m 15 ls []) := by
    intro N
    induction N with
    | zero => intro x_351 x_352 hx_352 I_353 R_353 J_353 hI_353 hN; exact absurd hN (Nat.not_lt_zero _)
    | succ N ih_356 =>
      intro x_351 x_352 hx_352 I_353 R_353 J_353 hI_353 hN_355 H locs hP hD hS ls hl
      refine lv_iload hx hb dX11_goDrawn_15 (lv_at hl 4 rfl) ?_
      refine lv_iload_n hx hb dX11_goDrawn_17 rfl (lv_at hl 2 rfl) ?_
      refine lv_icmp_ge (tgt := 121) hx hb dX11_goDrawn_18 (by decide) (fun c_357 => ?_) (fun c_357 => ?_)
      · have t_c_357 := z_leT c_357
        refine lv_iload hx hb dX11_goDrawn_121 (lv_at hl 3 rfl) ?_
        exact z_iret (v := x_351) hx hb hr hlocks hP hD hS dX11_goDrawn_123 hI_353
      · have t_c_357 := z_leF c_357
        have f_358 : zR 0 39 (x_352) := zR_ltx t_c_357 hx_352 hpa1 (by decide)
        have f_359 : zR 1 40 (pa1) := zR_lty t_c_357 hx_352 hpa1 (by decide)
        refine lv_iconst (v := nI 0) hx hb dX11_goDrawn_21 (by decide +kernel) ?_
        refine lv_istore (lv' := [(6, .int (nI 0)), (0, .ref (q 0)), (1, .long (pa0)), (3, .int (pa1)), (4, .int (x_351)), (5, .int (x_352))]) hx hb dX11_goDrawn_22 hl (by decide) rfl (fun ls hl => ?_)
        have loop_439 : ∀ N : Nat, ∀ x_437 : Int32, zR 0 5 x_437 → ∀ I_438 : Nat → Nat → Int32, ∀ R_438 : Nat → Nat → Int32, ∀ J_438 : Nat → Nat → Int64, mInv F (I_438, R_438, J_438) → (2147483648 - (x_437).toInt).toNat < N → ∀ (H : Heap) (locs : List Loc), va_P D vwCl (zw 25 q (zMd q cA) I_438 R_438 J_438) H → va_D (zA 25 q sz) (zw 25 q (zMd q cA) I_438 R_438 J_438) → va_S (zA 25 q sz) s.heap H locs → ∀ ls : Array Slot, lv_has ls 8 [(0, .ref (q 0)), (1, .long (pa0)), (3, .int (pa1)), (4, .int (x_351)), (5, .int (x_352)), (6, .int (x_437))] → W p l e ({ frames := 6, cells := 0, slots := 0, locals := 155 } : Room) s m ([.ref (q 0), .long (pa0), .int (pa1)] : List Value).toArray below meth c H locs 0 0 (MQ below (va_Qi (fun _ u => mInv F u) (zB D vwCl 25 q (zMd q cA) sz) (zA 25 q sz)) ([.ref (q 0), .long (pa0), .int (pa1)] : List Value).toArray s 0 0 (zA 25 q sz)) (F0 m 24 ls []) := by
          intro N
          induction N with
          | zero => intro x_437 hx_437 I_438 R_438 J_438 hI_438 hN; exact absurd hN (Nat.not_lt_zero _)
          | succ N ih_441 =>
            intro x_437 hx_437 I_438 R_438 J_438 hI_438 hN_440 H locs hP hD hS ls hl
            refine lv_iload hx hb dX11_goDrawn_24 (lv_at hl 5 rfl) ?_
            refine lv_aload_n hx hb dX11_goDrawn_26 rfl (lv_at hl 0 rfl) ?_
            refine z_get hx hb ht hown hK hP ziX11 rfl 0 (by decide) 1 (by decide) hw_5_188 rfl (v := .ref (q 1)) rfl dX11_goDrawn_27 ?_
            refine lv_iconst (v := nI 3) hx hb dX11_goDrawn_30 (by decide +kernel) ?_
            refine z_iald hx hb hK hP 1 (by decide) 0 rfl rfl (zR_vin zk_3 (by decide)) dX11_goDrawn_31 ?_
            refine z_eqi (y := R_438 1 (nI 3).toNatClampNeg) rfl ?_
            have f_442 : zR 0 5 (R_438 1 (nI 3).toNatClampNeg) := mR hI_438 1 3
            refine lv_icmp_ge (tgt := 106) hx hb dX11_goDrawn_32 (by decide) (fun c_443 => ?_) (fun c_443 => ?_)
            · have t_c_443 := z_leT c_443
              refine lv_iload hx hb dX11_goDrawn_106 (lv_at hl 3 rfl) ?_
              refine lv_aload_n hx hb dX11_goDrawn_108 rfl (lv_at hl 0 rfl) ?_
              refine z_callVi (k := 0) (As := []) (rest := [.int (x_351)]) hx hb hml hown ht (mk_X11_night0 l D q cA F _ _ _ hI_438 ) hw_6_222 hmX11_night0 ⟨rfl, rfl⟩ (na := 0) rfl (by decide +kernel) (by decide) (by decide) rfl rfl hK hP hD hS hA hl.1 rfl (Nat.le_of_ble_eq_true rfl) ⟨Nat.zero_le _, Nat.zero_le _⟩ dX11_goDrawn_109 (fun r_460 I_460 R_460 J_460 H locs hp_460 hP hD hS _ _ => ?_)
              obtain ⟨hv_460, hj_460, hk26_460⟩ := hp_460
              try dsimp only at hj_460
              subst J_460
              refine lv_iadd hx hb dX11_goDrawn_112 ?_
              refine z_any (fun v_461 => ?_)
              refine lv_istore (lv' := [(4, .int (v_461)), (0, .ref (q 0)), (1, .long (pa0)), (3, .int (pa1)), (5, .int (x_352)), (6, .int (x_437))]) hx hb dX11_goDrawn_113 hl (by decide) rfl (fun ls hl => ?_)
              obtain ⟨v_462, ev_462⟩ : ∃ y : Int32, y = x_352 + nI 1 := ⟨_, rfl⟩
              have hv_462 : zR 1 40 v_462 := ev_462 ▸ zR_add f_358 zk_1 (by decide)
              have mv_462 : v_462.toInt = (x_352).toInt + 1 := by rw [ev_462, zR_addE f_358 zk_1 (by decide)]; rfl
              refine lv_iinc (v := v_462) (lv' := [(5, .int (v_462)), (4, .int (v_461)), (0, .ref (q 0)), (1, .long (pa0)), (3, .int (pa1)), (6, .int (x_437))]) hx hb dX11_goDrawn_115 hl (k := 4) rfl (ev_462 ▸ rfl) (by decide) rfl (fun ls hl => ?_)
              refine lv_goto (tgt := 15) hx hb dX11_goDrawn_118 (by decide) ?_
              exact ih_356 (v_461) (v_462) (zR_w hv_462 (by decide)) _ _ _ hv_460 (z2_up mv_462 (by decide) hN_355) _ _ hP hD hS _ (lv_sub hl [2, 3, 4, 1, 0] rfl)
            · have t_c_443 := z_leF c_443
              have f_463 : zR 0 4 (x_437) := zR_ltx t_c_443 hx_437 f_442 (by decide)
              have f_464 : zR 1 5 (R_438 1 (nI 3).toNatClampNeg) := zR_lty t_c_443 hx_437 f_442 (by decide)
              refine lv_aload_n hx hb dX11_goDrawn_35 rfl (lv_at hl 0 rfl) ?_
              refine lv_bipush (v := nI 100) hx hb dX11_goDrawn_36 (by decide +kernel) ?_
              refine z_callVi (k := 0) (As := [.int (nI 100)]) (rest := []) hx hb hml hown ht (mk_X11_draw l D q cA F _ _ _ hI_438 ) hw_8_118 hmX11_draw ⟨rfl, rfl⟩ (na := 1) rfl (by decide +kernel) (by decide) (by decide) rfl rfl hK hP hD hS hA hl.1 rfl (Nat.le_of_ble_eq_true rfl) ⟨Nat.zero_le _, Nat.zero_le _⟩ dX11_goDrawn_38 (fun r_465 I_465 R_465 J_465 H locs hp_465 hP hD hS _ _ => ?_)
              obtain ⟨hr_465, hu_465⟩ := hp_465
              refine lv_aload_n hx hb dX11_goDrawn_41 rfl (lv_at hl 0 rfl) ?_
              refine z_get hx hb ht hown hK hP ziX11 rfl 0 (by decide) 1 (by decide) hw_5_188 rfl (v := .ref (q 1)) rfl dX11_goDrawn_42 ?_
              refine lv_iconst (v := nI 2) hx hb dX11_goDrawn_45 (by decide +kernel) ?_
              refine z_iald hx hb hK hP 1 (by decide) 0 rfl rfl (zR_vin zk_2 (by decide)) dX11_goDrawn_46 ?_
              refine z_eqi (y := R_465 1 (nI 2).toNatClampNeg) rfl ?_
              have t_478 : ∀ I_477 : Nat → Nat → Int32, ∀ R_477 : Nat → Nat → Int32, ∀ J_477 : Nat → Nat → Int64, mInv F (I_477, R_477, J_477) → ∀ (H : Heap) (locs : List Loc), va_P D vwCl (zw 25 q (zMd q cA) I_477 R_477 J_477) H → va_D (zA 25 q sz) (zw 25 q (zMd q cA) I_477 R_477 J_477) → va_S (zA 25 q sz) s.heap H locs → ∀ ls : Array Slot, lv_has ls 8 [(0, .ref (q 0)), (1, .long (pa0)), (3, .int (pa1)), (4, .int (x_351)), (5, .int (x_352)), (6, .int (x_437))] → W p l e ({ frames := 6, cells := 0, slots := 0, locals := 155 } : Room) s m ([.ref (q 0), .long (pa0), .int (pa1)] : List Value).toArray below meth c H locs 0 0 (MQ below (va_Qi (fun _ u => mInv F u) (zB D vwCl 25 q (zMd q cA) sz) (zA 25 q sz)) ([.ref (q 0), .long (pa0), .int (pa1)] : List Value).toArray s 0 0 (zA 25 q sz)) (F0 m 100 ls []) := by
                intro I_477 R_477 J_477 hI_477 H locs hP hD hS ls hl
                obtain ⟨v_479, ev_479⟩ : ∃ y : Int32, y = x_437 + nI 1 := ⟨_, rfl⟩
                have hv_479 : zR 1 5 v_479 := ev_479 ▸ zR_add f_463 zk_1 (by decide)
                have mv_479 : v_479.toInt = (x_437).toInt + 1 := by rw [ev_479, zR_addE f_463 zk_1 (by decide)]; rfl
                refine lv_iinc (v := v_479) (lv' := [(6, .int (v_479)), (0, .ref (q 0)), (1, .long (pa0)), (3, .int (pa1)), (4, .int (x_351)), (5, .int (x_352))]) hx hb dX11_goDrawn_100 hl (k := 5) rfl (ev_479 ▸ rfl) (by decide) rfl (fun ls hl => ?_)
                refine lv_goto (tgt := 24) hx hb dX11_goDrawn_103 (by decide) ?_
                exact ih_441 (v_479) (zR_w hv_479 (by decide)) _ _ _ hI_477 (z2_up mv_479 (by decide) hN_440) _ _ hP hD hS _ (lv_sub hl [1, 2, 3, 4, 5, 0] rfl)
              refine lv_icmp_ge (tgt := 100) hx hb dX11_goDrawn_47 (by decide) (fun c_466 => ?_) (fun c_466 => ?_)
              · have t_c_466 := z_leT c_466
                have f_480 : zR (-2147483648) 99 (R_465 1 (nI 2).toNatClampNeg) := zR_lex t_c_466 (zR_any (R_465 1 (nI 2).toNatClampNeg)) hr_465 (by decide)
                exact t_478 _ _ _ hu_465 _ _ hP hD hS _ (lv_sub hl [0, 1, 2, 3, 4, 5] rfl)
              · have t_c_466 := z_leF c_466
                have f_481 : zR 1 2147483647 (R_465 1 (nI 2).toNatClampNeg) := zR_lty t_c_466 hr_465 (zR_any (R_465 1 (nI 2).toNatClampNeg)) (by decide)
                refine lv_aload_n hx hb dX11_goDrawn_50 rfl (lv_at hl 0 rfl) ?_
                refine z_get hx hb ht hown hK hP ziX11 rfl 0 (by decide) 1 (by decide) hw_5_188 rfl (v := .ref (q 1)) rfl dX11_goDrawn_51 ?_
                refine lv_iconst (v := nI 4) hx hb dX11_goDrawn_54 (by decide +kernel) ?_
                refine z_iald hx hb hK hP 1 (by decide) 0 rfl rfl (zR_vin zk_4 (by decide)) dX11_goDrawn_55 ?_
                refine z_eqi (y := R_465 1 (nI 4).toNatClampNeg) rfl ?_
                have f_482 : zR 0 6 (R_465 1 (nI 4).toNatClampNeg) := mR hu_465 1 4
                refine lv_if_ne (tgt := 62) hx hb dX11_goDrawn_56 (by decide) (fun c_483 => ?_) (fun c_483 => ?_)
                · have t_c_483 := z_eqF c_483
                  have f_484 : zR 1 6 (R_465 1 (nI 4).toNatClampNeg) := zR_nex t_c_483 f_482 zk_z (by decide)
                  refine lv_aload_n hx hb dX11_goDrawn_62 rfl (lv_at hl 0 rfl) ?_
                  refine lv_aload_n hx hb dX11_goDrawn_63 rfl (lv_at hl 0 rfl) ?_
                  refine z_get hx hb ht hown hK hP ziX11 rfl 0 (by decide) 1 (by decide) hw_5_188 rfl (v := .ref (q 1)) rfl dX11_goDrawn_64 ?_
                  refine lv_iconst (v := nI 4) hx hb dX11_goDrawn_67 (by decide +kernel) ?_
                  refine z_iald hx hb hK hP 1 (by decide) 0 rfl rfl (zR_vin zk_4 (by decide)) dX11_goDrawn_68 ?_
                  refine z_eqi (y := R_465 1 (nI 4).toNatClampNeg) rfl ?_
                  refine z_callVi (k := 0) (As := [.int (R_465 1 (nI 4).toNatClampNeg)]) (rest := []) hx hb hml hown ht (mk_X11_draw_1 l D q cA F _ _ _ hu_465 (R_465 1 (nI 4).toNatClampNeg) f_484) hw_8_118 hmX11_draw ⟨rfl, rfl⟩ (na := 1) rfl (by decide +kernel) (by decide) (by decide) rfl rfl hK hP hD hS hA hl.1 rfl (Nat.le_of_ble_eq_true rfl) ⟨Nat.zero_le _, Nat.zero_le _⟩ dX11_goDrawn_69 (fun r_485 I_485 R_485 J_485 H locs hp_485 hP hD hS _ _ => ?_)
                  obtain ⟨hr_485, hu_485⟩ := hp_485
                  refine lv_istore (lv' := [(7, .int (r_485)), (0, .ref (q 0)), (1, .long (pa0)), (3, .int (pa1)), (4, .int (x_351)), (5, .int (x_352)), (6, .int (x_437))]) hx hb dX11_goDrawn_72 hl (by decide) rfl (fun ls hl => ?_)
                  refine lv_aload_n hx hb dX11_goDrawn_74 rfl (lv_at hl 1 rfl) ?_
                  refine lv_iload hx hb dX11_goDrawn_75 (lv_at hl 6 rfl) ?_
                  refine lv_iload hx hb dX11_goDrawn_77 (lv_at hl 0 rfl) ?_
                  refine z_callVi (k := 0) (As := [.int (x_437), .int (r_485)]) (rest := []) hx hb hml hown ht (mk_X11_canSteal l D q cA F _ _ _ hu_485 (x_437) f_463 (r_485) hr_485) hw_7_40 hmX11_canSteal ⟨rfl, rfl⟩ (na := 2) rfl (by decide +kernel) (by decide) (by decide) rfl rfl hK hP hD hS hA hl.1 rfl (Nat.le_of_ble_eq_true rfl) ⟨Nat.zero_le _, Nat.zero_le _⟩ dX11_goDrawn_79 (fun r_486 I_486 R_486 J_486 H locs hp_486 hP hD hS _ _ => ?_)
                  rcases hp_486 with ⟨rfl, hu_486, nn_486⟩ | ⟨rfl, hu_486, nn_486⟩
                  · cases hu_486
                    refine lv_if_eq (tgt := 100) hx hb dX11_goDrawn_82 (by decide) (fun c_0 => absurd c_0 (zD_ne zk_1 zk_z (by decide))) (fun _ => ?_)
                    refine lv_aload_n hx hb dX11_goDrawn_85 rfl (lv_at hl 1 rfl) ?_
                    refine lv_iload hx hb dX11_goDrawn_86 (lv_at hl 6 rfl) ?_
                    refine lv_iload hx hb dX11_goDrawn_88 (lv_at hl 0 rfl) ?_
                    refine lv_aload_n hx hb dX11_goDrawn_90 rfl (lv_at hl 1 rfl) ?_
                    refine z_get hx hb ht hown hK hP ziX11 rfl 0 (by decide) 27 (by decide) hw_5_214 rfl (v := .int (I_485 0 27)) rfl dX11_goDrawn_91 ?_
                    refine lv_bipush (v := nI 7) hx hb dX11_goDrawn_94 (by decide +kernel) ?_
                    refine lv_iadd hx hb dX11_goDrawn_96 ?_
                    refine z_any (fun v_487 => ?_)
                    refine z_callVv (k := 0) (As := [.int (x_437), .int (r_485), .int (v_487)]) (rest := []) hx hb hml hown ht (mk_X11_steal0 l D q cA F _ _ _ hu_485 (x_437) f_463 (r_485) hr_485 (v_487) nn_486) hw_6_190 hmX11_steal0 ⟨rfl, rfl⟩ (na := 3) rfl (by decide +kernel) (by decide) (by decide) rfl rfl hK hP hD hS hA hl.1 rfl (Nat.le_of_ble_eq_true rfl) ⟨Nat.zero_le _, Nat.zero_le _⟩ dX11_goDrawn_97 (fun I_488 R_488 J_488 H locs hp_488 hP hD hS _ _ => ?_)
                    obtain ⟨hv_488, hj_488, hs_488⟩ := hp_488
                    try dsimp only at hj_488
                    subst J_488
                    exact t_478 _ _ _ hv_488 _ _ hP hD hS _ (lv_sub hl [1, 2, 3, 4, 5, 6] rfl)
                  · cases hu_486
                    refine lv_if_eq (tgt := 100) hx hb dX11_goDrawn_82 (by decide) (fun _ => ?_) (fun c_0 => absurd (zD_eq zk_0 zk_z) c_0)
                    exact t_478 _ _ _ hu_485 _ _ hP hD hS _ (lv_sub hl [1, 2, 3, 4, 5, 6] rfl)
                · have t_c_483 := z_eqT c_483
                  have f_489 : zR 0 0 (R_465 1 (nI 4).toNatClampNeg) := zR_eqx t_c_483 zk_z
                  refine lv_goto (tgt := 100) hx hb dX11_goDrawn_59 (by decide) ?_
                  exact t_478 _ _ _ hu_465 _ _ hP hD hS _ (lv_sub hl [0, 1, 2, 3, 4, 5] rfl)
        exact loop_439 _ (nI 0) (zR_w zk_0 (by decide)) _ _ _ hI_353 (Nat.lt_succ_self _) _ _ hP hD hS _ (lv_sub hl [1, 2, 3, 4, 5, 0] rfl)
  exact loop_354 _ (nI 0) (nI 0) (zR_w zk_0 (by decide)) _ _ _ hI_2 (Nat.lt_succ_self _) _ _ hP hD hS _ (lv_sub hl [2, 3, 4, 1, 0] rfl)
