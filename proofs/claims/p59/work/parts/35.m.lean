set_option maxHeartbeats 4000000 in
set_option maxRecDepth 100000 in
theorem mk_X11_isOpen_1 (l : Launch) (D : va_G) (q : Nat → Nat) (cA : Nat → ClassId) (F : Nat → Nat → Int32) (I R : Nat → Nat → Int32) (J : Nat → Nat → Int64) (hI : mInv F (I, R, J)) (pa0 : Int32) (hpa0 : zR 0 23 pa0) : zMi l D vwCl (zMtys cA) 25 q (zMd q cA) yX11_isOpen cX11_isOpen 2 (some .boolean) ({ frames := 0, cells := 0, slots := 0, locals := 0 } : Room) [.ref (q 0), .int (pa0)] (I, R, J) (fun r u => (r = nI 1 ∧ u = (I, R, J)) ∨ (r = nI 0 ∧ u = (I, R, J))) := by
  intro sz
  refine z_body (by decide +kernel) (Nat.le_of_ble_eq_true rfl) (fun p e s m below meth c ls hx hb hml hr ht hown hlocks hsz hK hP hD hS hl => ?_)
  have hA : ∀ a, s.heap.size ≤ a → zA 25 q sz a := fun a h => Or.inr (hsz ▸ h)
  have hl : lv_has ls 2 [(0, .ref (q 0)), (1, .int (pa0))] := hl
  refine lv_aload_n hx hb dX11_isOpen_0 rfl (lv_at hl 0 rfl) ?_
  refine z_get hx hb ht hown hK hP ziX11 rfl 0 (by decide) 22 (by decide) hw_5_209 rfl (v := .ref (q 14)) rfl dX11_isOpen_1 ?_
  refine lv_iload_n hx hb dX11_isOpen_4 rfl (lv_at hl 1 rfl) ?_
  refine z_iald hx hb hK hP 14 (by decide) 13 rfl rfl (zR_vin hpa0 (by decide)) dX11_isOpen_5 ?_
  refine z_eqi (y := R 14 (pa0).toNatClampNeg) rfl ?_
  refine lv_if_ne (tgt := 13) hx hb dX11_isOpen_6 (by decide) (fun c_1 => ?_) (fun c_1 => ?_)
  · have t_c_1 := z_eqF c_1
    refine lv_iconst (v := nI 0) hx hb dX11_isOpen_13 (by decide +kernel) ?_
    exact z_zret (v := nI 0) hx hb hr hlocks hP hD hS (by decide +kernel) dX11_isOpen_14 (Or.inr ⟨rfl, rfl⟩)
  · have t_c_1 := z_eqT c_1
    have f_2 : zR 0 0 (R 14 (pa0).toNatClampNeg) := zR_eqx t_c_1 zk_z
    refine lv_iconst (v := nI 1) hx hb dX11_isOpen_9 (by decide +kernel) ?_
    refine lv_goto (tgt := 14) hx hb dX11_isOpen_10 (by decide) ?_
    exact z_zret (v := nI 1) hx hb hr hlocks hP hD hS (by decide +kernel) dX11_isOpen_14 (Or.inl ⟨rfl, rfl⟩)
set_option maxHeartbeats 4000000 in
set_option maxRecDepth 100000 in
theorem mk_X11_thingsIn (l : Launch) (D : va_G) (q : Nat → Nat) (cA : Nat → ClassId) (F : Nat → Nat → Int32) (I R : Nat → Nat → Int32) (J : Nat → Nat → Int64) (hI : mInv F (I, R, J)) (pa0 : Int32) (hpa0 : zR 0 4 pa0) : zMi l D vwCl (zMtys cA) 25 q (zMd q cA) yX11_thingsIn cX11_thingsIn 4 (some .int) ({ frames := 0, cells := 0, slots := 0, locals := 0 } : Room) [.ref (q 0), .int (pa0)] (I, R, J) (fun r u => zR 0 63 r ∧ u = (I, R, J)) := by
  intro sz
  refine z_body (by decide +kernel) (Nat.le_of_ble_eq_true rfl) (fun p e s m below meth c ls hx hb hml hr ht hown hlocks hsz hK hP hD hS hl => ?_)
  have hA : ∀ a, s.heap.size ≤ a → zA 25 q sz a := fun a h => Or.inr (hsz ▸ h)
  have hl : lv_has ls 4 [(0, .ref (q 0)), (1, .int (pa0))] := hl
  refine lv_iconst (v := nI 0) hx hb dX11_thingsIn_0 (by decide +kernel) ?_
  refine lv_istore_n (lv' := [(2, .int (nI 0)), (0, .ref (q 0)), (1, .int (pa0))]) hx hb dX11_thingsIn_1 rfl hl (by decide) rfl (fun ls hl => ?_)
  refine lv_iconst (v := nI 0) hx hb dX11_thingsIn_2 (by decide +kernel) ?_
  refine lv_istore_n (lv' := [(3, .int (nI 0)), (2, .int (nI 0)), (0, .ref (q 0)), (1, .int (pa0))]) hx hb dX11_thingsIn_3 rfl hl (by decide) rfl (fun ls hl => ?_)
  have loop_59 : ∀ N : Nat, ∀ x_57 : Int32, zR 0 63 x_57 → ∀ x_58 : Int32, zR 0 6 x_58 → (2147483648 - (x_58).toInt).toNat < N → ∀ (H : Heap) (locs : List Loc), va_P D vwCl (zw 25 q (zMd q cA) I R J) H → va_D (zA 25 q sz) (zw 25 q (zMd q cA) I R J) → va_S (zA 25 q sz) s.heap H locs → ∀ ls : Array Slot, lv_has ls 4 [(0, .ref (q 0)), (1, .int (pa0)), (2, .int (x_57)), (3, .int (x_58))] → W p l e ({ frames := 0, cells := 0, slots := 0, locals := 0 } : Room) s m ([.ref (q 0), .int (pa0)] : List Value).toArray below meth c H locs 0 0 (MQ below (va_Qi (fun r u => zR 0 63 r ∧ u = (I, R, J)) (zB D vwCl 25 q (zMd q cA) sz) (zA 25 q sz)) ([.ref (q 0), .int (pa0)] : List Value).toArray s 0 0 (zA 25 q sz)) (F0 m 4 ls []) := by
    intro N
    induction N with
    | zero => intro x_57 hx_57 x_58 hx_58 hN; exact absurd hN (Nat.not_lt_zero _)
    | succ N ih_61 =>
      intro x_57 hx_57 x_58 hx_58 hN_60 H locs hP hD hS ls hl
      refine lv_iload_n hx hb dX11_thingsIn_4 rfl (lv_at hl 3 rfl) ?_
      refine lv_aload_n hx hb dX11_thingsIn_5 rfl (lv_at hl 0 rfl) ?_
      refine z_get hx hb ht hown hK hP ziX11 rfl 0 (by decide) 1 (by decide) hw_5_188 rfl (v := .ref (q 1)) rfl dX11_thingsIn_6 ?_
      refine lv_iconst (v := nI 4) hx hb dX11_thingsIn_9 (by decide +kernel) ?_
      refine z_iald hx hb hK hP 1 (by decide) 0 rfl rfl (zR_vin zk_4 (by decide)) dX11_thingsIn_10 ?_
      refine z_eqi (y := R 1 (nI 4).toNatClampNeg) rfl ?_
      have f_62 : zR 0 6 (R 1 (nI 4).toNatClampNeg) := mR hI 1 4
      refine lv_icmp_ge (tgt := 40) hx hb dX11_thingsIn_11 (by decide) (fun c_63 => ?_) (fun c_63 => ?_)
      · have t_c_63 := z_leT c_63
        refine lv_iload_n hx hb dX11_thingsIn_40 rfl (lv_at hl 2 rfl) ?_
        exact z_iret (v := x_57) hx hb hr hlocks hP hD hS dX11_thingsIn_41 ⟨hx_57, rfl⟩
      · have t_c_63 := z_leF c_63
        have f_64 : zR 0 5 (x_58) := zR_ltx t_c_63 hx_58 f_62 (by decide)
        have f_65 : zR 1 6 (R 1 (nI 4).toNatClampNeg) := zR_lty t_c_63 hx_58 f_62 (by decide)
        refine lv_iload_n hx hb dX11_thingsIn_14 rfl (lv_at hl 2 rfl) ?_
        refine lv_aload_n hx hb dX11_thingsIn_15 rfl (lv_at hl 0 rfl) ?_
        refine z_get hx hb ht hown hK hP ziX11 rfl 0 (by decide) 17 (by decide) hw_5_204 rfl (v := .ref (q 9)) rfl dX11_thingsIn_16 ?_
        refine lv_iload_n hx hb dX11_thingsIn_19 rfl (lv_at hl 3 rfl) ?_
        refine z_iald hx hb hK hP 9 (by decide) 8 rfl rfl (zR_vin f_64 (by decide)) dX11_thingsIn_20 ?_
        refine z_eqi (y := R 9 (x_58).toNatClampNeg) rfl ?_
        have f_66 : zR 0 4 (R 9 (x_58).toNatClampNeg) := mR hI 9 (x_58).toNatClampNeg
        refine lv_iload_n hx hb dX11_thingsIn_21 rfl (lv_at hl 1 rfl) ?_
        have t_70 : ∀ x_69 : Int32, zR 0 32 x_69 → ∀ (H : Heap) (locs : List Loc), va_P D vwCl (zw 25 q (zMd q cA) I R J) H → va_D (zA 25 q sz) (zw 25 q (zMd q cA) I R J) → va_S (zA 25 q sz) s.heap H locs → ∀ ls : Array Slot, lv_has ls 4 [(0, .ref (q 0)), (1, .int (pa0)), (2, .int (x_57)), (3, .int (x_58))] → W p l e ({ frames := 0, cells := 0, slots := 0, locals := 0 } : Room) s m ([.ref (q 0), .int (pa0)] : List Value).toArray below meth c H locs 0 0 (MQ below (va_Qi (fun r u => zR 0 63 r ∧ u = (I, R, J)) (zB D vwCl 25 q (zMd q cA) sz) (zA 25 q sz)) ([.ref (q 0), .int (pa0)] : List Value).toArray s 0 0 (zA 25 q sz)) (F0 m 32 ls [.int (x_69), .int (x_57)]) := by
          intro x_69 hx_69 H locs hP hD hS ls hl
          refine lv_ior hx hb dX11_thingsIn_32 ?_
          refine z_rng (a := 0) (b := 63) (zR_or 6 hx_57 hx_69 (by decide)) (fun v_71 hv_71 => ?_)
          refine lv_istore_n (lv' := [(2, .int (v_71)), (0, .ref (q 0)), (1, .int (pa0)), (3, .int (x_58))]) hx hb dX11_thingsIn_33 rfl hl (by decide) rfl (fun ls hl => ?_)
          obtain ⟨v_72, ev_72⟩ : ∃ y : Int32, y = x_58 + nI 1 := ⟨_, rfl⟩
          have hv_72 : zR 1 6 v_72 := ev_72 ▸ zR_add f_64 zk_1 (by decide)
          have mv_72 : v_72.toInt = (x_58).toInt + 1 := by rw [ev_72, zR_addE f_64 zk_1 (by decide)]; rfl
          refine lv_iinc (v := v_72) (lv' := [(3, .int (v_72)), (2, .int (v_71)), (0, .ref (q 0)), (1, .int (pa0))]) hx hb dX11_thingsIn_34 hl (k := 3) rfl (ev_72 ▸ rfl) (by decide) rfl (fun ls hl => ?_)
          refine lv_goto (tgt := 4) hx hb dX11_thingsIn_37 (by decide) ?_
          exact ih_61 (v_71) hv_71 (v_72) (zR_w hv_72 (by decide)) (z2_up mv_72 (by decide) hN_60) _ _ hP hD hS _ (lv_sub hl [2, 3, 1, 0] rfl)
        refine lv_icmp_ne (tgt := 31) hx hb dX11_thingsIn_22 (by decide) (fun c_67 => ?_) (fun c_67 => ?_)
        · have t_c_67 := z_eqF c_67
          refine lv_iconst (v := nI 0) hx hb dX11_thingsIn_31 (by decide +kernel) ?_
          exact t_70 (nI 0) (zR_w zk_0 (by decide)) _ _ hP hD hS _ (lv_sub hl [0, 1, 2, 3] rfl)
        · have t_c_67 := z_eqT c_67
          refine lv_iconst (v := nI 1) hx hb dX11_thingsIn_25 (by decide +kernel) ?_
          refine lv_iload_n hx hb dX11_thingsIn_26 rfl (lv_at hl 3 rfl) ?_
          refine lv_ishl hx hb dX11_thingsIn_27 ?_
          refine z_rng (a := 1) (b := 32) (zR_shl1 5 f_64 (by decide)) (fun v_73 hv_73 => ?_)
          refine lv_goto (tgt := 32) hx hb dX11_thingsIn_28 (by decide) ?_
          exact t_70 (v_73) (zR_w hv_73 (by decide)) _ _ hP hD hS _ (lv_sub hl [0, 1, 2, 3] rfl)
  exact loop_59 _ (nI 0) (zR_w zk_0 (by decide)) (nI 0) (zR_w zk_0 (by decide)) (Nat.lt_succ_self _) _ _ hP hD hS _ (lv_sub hl [2, 3, 1, 0] rfl)
set_option maxHeartbeats 4000000 in
set_option maxRecDepth 100000 in
theorem mk_X11_house (l : Launch) (D : va_G) (q : Nat → Nat) (cA : Nat → ClassId) (F : Nat → Nat → Int32) (I R : Nat → Nat → Int32) (J : Nat → Nat → Int64) (hI : mInv F (I, R, J)) (pa0 : Int32) (pa1 : Int32) : zMi l D vwCl (zMtys cA) 25 q (zMd q cA) yX11_house cX11_house 5 (some .int) ({ frames := 6, cells := 0, slots := 0, locals := 155 } : Room) [.ref (q 0), .int (pa0), .int (pa1)] (I, R, J) (fun _ u => (mInv F u ∧ u.2.2 = J)) := by
  intro sz
  refine z_body (by decide +kernel) (Nat.le_of_ble_eq_true rfl) (fun p e s m below meth c ls hx hb hml hr ht hown hlocks hsz hK hP hD hS hl => ?_)
  have hA : ∀ a, s.heap.size ≤ a → zA 25 q sz a := fun a h => Or.inr (hsz ▸ h)
  have hl : lv_has ls 5 [(0, .ref (q 0)), (1, .int (pa0)), (2, .int (pa1))] := hl
  refine lv_aload_n hx hb dX11_house_0 rfl (lv_at hl 0 rfl) ?_
  refine lv_iload_n hx hb dX11_house_1 rfl (lv_at hl 1 rfl) ?_
  refine lv_i2l (v := (pa0).toInt64) hx hb dX11_house_2 rfl ?_
  refine z_callVi (k := 0) (As := [.long ((pa0).toInt64)]) (rest := []) hx hb hml hown ht (mk_X11_isHouse l D q cA F _ _ _ hI ((pa0).toInt64) (zR_i2l (zR_any (pa0)))) hw_6_176 hmX11_isHouse ⟨rfl, rfl⟩ (na := 1) rfl (by decide +kernel) (by decide) (by decide) rfl rfl hK hP hD hS hA hl.1 rfl (Nat.le_of_ble_eq_true rfl) ⟨Nat.zero_le _, Nat.zero_le _⟩ dX11_house_3 (fun r_1 I_1 R_1 J_1 H locs hp_1 hP hD hS _ _ => ?_)
  rcases hp_1 with ⟨rfl, hu_1, f0_1⟩ | ⟨rfl, hu_1⟩
  · cases hu_1
    have f_2 : zR 0 4 (pa0) := zL_back f0_1
    refine lv_if_eq (tgt := 21) hx hb dX11_house_6 (by decide) (fun c_0 => absurd c_0 (zD_ne zk_1 zk_z (by decide))) (fun _ => ?_)
    refine lv_iload_n hx hb dX11_house_9 rfl (lv_at hl 2 rfl) ?_
    refine lv_i2l (v := (pa1).toInt64) hx hb dX11_house_10 rfl ?_
    refine lv_lconst (v := (0 : Int64)) hx hb dX11_house_11 (by decide +kernel) ?_
    refine lv_ldc2 (v := (4 : Int64)) hx hb hown (ht _ hw_6_180) dX11_house_12 ?_
    refine z_callSi (As := [.long ((pa1).toInt64), .long ((0 : Int64)), .long ((4 : Int64))]) (rest := []) hx hb hml hown ht (mk_X11_in l D q cA F _ _ _ hI ((pa1).toInt64) ((0 : Int64)) ((4 : Int64))) hw_6_86 hmX11_in ⟨rfl, rfl⟩ (na := 3) rfl (by decide +kernel) (by decide) hK hP hD hS hA hl.1 rfl (Nat.le_of_ble_eq_true rfl) ⟨Nat.zero_le _, Nat.zero_le _⟩ dX11_house_15 (fun r_3 I_3 R_3 J_3 H locs hp_3 hP hD hS _ _ => ?_)
    rcases hp_3 with ⟨rfl, hu_3, h1_3, h2_3⟩ | ⟨rfl, hu_3, h1_3 | h2_3⟩
    · cases hu_3
      have f_4 : zL 0 2147483647 ((pa1).toInt64) := zL_ley h1_3 zkl_0 (zR_i2l (zR_any (pa1))) (by decide)
      have f_5 : zR 0 2147483647 (pa1) := zL_back f_4
      have f_6 : zL 0 4 ((pa1).toInt64) := zL_lex h2_3 f_4 zkl_4 (by decide)
      have f_7 : zR 0 4 (pa1) := zL_back f_6
      refine lv_if_ne (tgt := 24) hx hb dX11_house_18 (by decide) (fun _ => ?_) (fun c_0 => absurd c_0 (zD_ne zk_1 zk_z (by decide)))
      refine lv_aload_n hx hb dX11_house_24 rfl (lv_at hl 0 rfl) ?_
      refine z_callVv (k := 0) (As := []) (rest := []) hx hb hml hown ht (mk_X11_asItIs l D q cA F _ _ _ hI ) hw_6_181 hmX11_asItIs ⟨rfl, rfl⟩ (na := 0) rfl (by decide +kernel) (by decide) (by decide) rfl rfl hK hP hD hS hA hl.1 rfl (Nat.le_of_ble_eq_true rfl) ⟨Nat.zero_le _, Nat.zero_le _⟩ dX11_house_25 (fun I_8 R_8 J_8 H locs hp_8 hP hD hS _ _ => ?_)
      obtain ⟨hv_8, hj_8, hs_8⟩ := hp_8
      try dsimp only at hj_8
      subst J_8
      refine lv_iload_n hx hb dX11_house_28 rfl (lv_at hl 2 rfl) ?_
      refine lv_if_ne (tgt := 39) hx hb dX11_house_29 (by decide) (fun c_9 => ?_) (fun c_9 => ?_)
      · have t_c_9 := z_eqF c_9
        have f_10 : zR 1 4 (pa1) := zR_nex t_c_9 f_7 zk_z (by decide)
        refine lv_iload_n hx hb dX11_house_39 rfl (lv_at hl 2 rfl) ?_
        refine lv_iconst (v := nI 1) hx hb dX11_house_40 (by decide +kernel) ?_
        refine lv_icmp_ne (tgt := 51) hx hb dX11_house_41 (by decide) (fun c_11 => ?_) (fun c_11 => ?_)
        · have t_c_11 := z_eqF c_11
          have f_12 : zR 2 4 (pa1) := zR_nex t_c_11 f_10 zk_1 (by decide)
          refine lv_iload_n hx hb dX11_house_51 rfl (lv_at hl 2 rfl) ?_
          refine lv_iconst (v := nI 2) hx hb dX11_house_52 (by decide +kernel) ?_
          refine lv_icmp_ne (tgt := 62) hx hb dX11_house_53 (by decide) (fun c_13 => ?_) (fun c_13 => ?_)
          · have t_c_13 := z_eqF c_13
            have f_14 : zR 3 4 (pa1) := zR_nex t_c_13 f_12 zk_2 (by decide)
            refine lv_iconst (v := nI 0) hx hb dX11_house_62 (by decide +kernel) ?_
            refine lv_istore_n (lv' := [(3, .int (nI 0)), (0, .ref (q 0)), (1, .int (pa0)), (2, .int (pa1))]) hx hb dX11_house_63 rfl hl (by decide) rfl (fun ls hl => ?_)
            refine lv_iconst (v := nI 0) hx hb dX11_house_64 (by decide +kernel) ?_
            refine lv_istore (lv' := [(4, .int (nI 0)), (3, .int (nI 0)), (0, .ref (q 0)), (1, .int (pa0)), (2, .int (pa1))]) hx hb dX11_house_65 hl (by decide) rfl (fun ls hl => ?_)
            have loop_103 : ∀ N : Nat, ∀ x_101 : Int32, zR 0 16777215 x_101 → ∀ x_102 : Int32, zR 0 24 x_102 → (2147483648 - (x_102).toInt).toNat < N → ∀ (H : Heap) (locs : List Loc), va_P D vwCl (zw 25 q (zMd q cA) I_8 R_8 J) H → va_D (zA 25 q sz) (zw 25 q (zMd q cA) I_8 R_8 J) → va_S (zA 25 q sz) s.heap H locs → ∀ ls : Array Slot, lv_has ls 5 [(0, .ref (q 0)), (1, .int (pa0)), (2, .int (pa1)), (3, .int (x_101)), (4, .int (x_102))] → W p l e ({ frames := 6, cells := 0, slots := 0, locals := 155 } : Room) s m ([.ref (q 0), .int (pa0), .int (pa1)] : List Value).toArray below meth c H locs 0 0 (MQ below (va_Qi (fun _ u => (mInv F u ∧ u.2.2 = J)) (zB D vwCl 25 q (zMd q cA) sz) (zA 25 q sz)) ([.ref (q 0), .int (pa0), .int (pa1)] : List Value).toArray s 0 0 (zA 25 q sz)) (F0 m 67 ls []) := by
              intro N
              induction N with
              | zero => intro x_101 hx_101 x_102 hx_102 hN; exact absurd hN (Nat.not_lt_zero _)
              | succ N ih_105 =>
                intro x_101 hx_101 x_102 hx_102 hN_104 H locs hP hD hS ls hl
                refine lv_iload hx hb dX11_house_67 (lv_at hl 4 rfl) ?_
                refine lv_aload_n hx hb dX11_house_69 rfl (lv_at hl 0 rfl) ?_
                refine z_get hx hb ht hown hK hP ziX11 rfl 0 (by decide) 26 (by decide) hw_5_213 rfl (v := .int (I_8 0 26)) rfl dX11_house_70 ?_
                have f_106 : zR 0 24 (I_8 0 26) := mI hv_8 0 26
                refine lv_icmp_ge (tgt := 128) hx hb dX11_house_73 (by decide) (fun c_107 => ?_) (fun c_107 => ?_)
                · have t_c_107 := z_leT c_107
                  refine lv_iload_n hx hb dX11_house_128 rfl (lv_at hl 3 rfl) ?_
                  exact z_iret (v := x_101) hx hb hr hlocks hP hD hS dX11_house_129 ⟨hv_8, rfl⟩
                · have t_c_107 := z_leF c_107
                  have f_108 : zR 0 23 (x_102) := zR_ltx t_c_107 hx_102 f_106 (by decide)
                  have f_109 : zR 1 24 (I_8 0 26) := zR_lty t_c_107 hx_102 f_106 (by decide)
                  refine lv_iload_n hx hb dX11_house_76 rfl (lv_at hl 3 rfl) ?_
                  refine lv_aload_n hx hb dX11_house_77 rfl (lv_at hl 0 rfl) ?_
                  refine lv_iload hx hb dX11_house_78 (lv_at hl 4 rfl) ?_
                  have t_120 : ∀ x_119 : Int32, zR 0 8388608 x_119 → ∀ (H : Heap) (locs : List Loc), va_P D vwCl (zw 25 q (zMd q cA) I_8 R_8 J) H → va_D (zA 25 q sz) (zw 25 q (zMd q cA) I_8 R_8 J) → va_S (zA 25 q sz) s.heap H locs → ∀ ls : Array Slot, lv_has ls 5 [(0, .ref (q 0)), (1, .int (pa0)), (2, .int (pa1)), (3, .int (x_101)), (4, .int (x_102))] → W p l e ({ frames := 6, cells := 0, slots := 0, locals := 155 } : Room) s m ([.ref (q 0), .int (pa0), .int (pa1)] : List Value).toArray below meth c H locs 0 0 (MQ below (va_Qi (fun _ u => (mInv F u ∧ u.2.2 = J)) (zB D vwCl 25 q (zMd q cA) sz) (zA 25 q sz)) ([.ref (q 0), .int (pa0), .int (pa1)] : List Value).toArray s 0 0 (zA 25 q sz)) (F0 m 120 ls [.int (x_119), .int (x_101)]) := by
                    intro x_119 hx_119 H locs hP hD hS ls hl
                    refine lv_ior hx hb dX11_house_120 ?_
                    refine z_rng (a := 0) (b := 16777215) (zR_or 24 hx_101 hx_119 (by decide)) (fun v_121 hv_121 => ?_)
                    refine lv_istore_n (lv' := [(3, .int (v_121)), (0, .ref (q 0)), (1, .int (pa0)), (2, .int (pa1)), (4, .int (x_102))]) hx hb dX11_house_121 rfl hl (by decide) rfl (fun ls hl => ?_)
                    obtain ⟨v_122, ev_122⟩ : ∃ y : Int32, y = x_102 + nI 1 := ⟨_, rfl⟩
                    have hv_122 : zR 1 24 v_122 := ev_122 ▸ zR_add f_108 zk_1 (by decide)
                    have mv_122 : v_122.toInt = (x_102).toInt + 1 := by rw [ev_122, zR_addE f_108 zk_1 (by decide)]; rfl
                    refine lv_iinc (v := v_122) (lv' := [(4, .int (v_122)), (3, .int (v_121)), (0, .ref (q 0)), (1, .int (pa0)), (2, .int (pa1))]) hx hb dX11_house_122 hl (k := 4) rfl (ev_122 ▸ rfl) (by decide) rfl (fun ls hl => ?_)
                    refine lv_goto (tgt := 67) hx hb dX11_house_125 (by decide) ?_
                    exact ih_105 (v_121) hv_121 (v_122) (zR_w hv_122 (by decide)) (z2_up mv_122 (by decide) hN_104) _ _ hP hD hS _ (lv_sub hl [2, 3, 4, 1, 0] rfl)
                  refine z_callVi (k := 0) (As := [.int (x_102)]) (rest := [.int (x_101)]) hx hb hml hown ht (mk_X11_isOpen_1 l D q cA F _ _ _ hv_8 (x_102) f_108) hw_6_230 hmX11_isOpen ⟨rfl, rfl⟩ (na := 1) rfl (by decide +kernel) (by decide) (by decide) rfl rfl hK hP hD hS hA hl.1 rfl (Nat.le_of_ble_eq_true rfl) ⟨Nat.zero_le _, Nat.zero_le _⟩ dX11_house_80 (fun r_110 I_110 R_110 J_110 H locs hp_110 hP hD hS _ _ => ?_)
                  rcases hp_110 with ⟨rfl, hu_110⟩ | ⟨rfl, hu_110⟩
                  · cases hu_110
                    refine lv_if_eq (tgt := 119) hx hb dX11_house_83 (by decide) (fun c_0 => absurd c_0 (zD_ne zk_1 zk_z (by decide))) (fun _ => ?_)
                    refine lv_iload_n hx hb dX11_house_86 rfl (lv_at hl 2 rfl) ?_
                    refine lv_iconst (v := nI 3) hx hb dX11_house_87 (by decide +kernel) ?_
                    have t_129 : ∀ x_128 : Int32, zR 0 4 x_128 → ∀ (H : Heap) (locs : List Loc), va_P D vwCl (zw 25 q (zMd q cA) I_8 R_8 J) H → va_D (zA 25 q sz) (zw 25 q (zMd q cA) I_8 R_8 J) → va_S (zA 25 q sz) s.heap H locs → ∀ ls : Array Slot, lv_has ls 5 [(0, .ref (q 0)), (1, .int (pa0)), (2, .int (pa1)), (3, .int (x_101)), (4, .int (x_102))] → W p l e ({ frames := 6, cells := 0, slots := 0, locals := 155 } : Room) s m ([.ref (q 0), .int (pa0), .int (pa1)] : List Value).toArray below meth c H locs 0 0 (MQ below (va_Qi (fun _ u => (mInv F u ∧ u.2.2 = J)) (zB D vwCl 25 q (zMd q cA) sz) (zA 25 q sz)) ([.ref (q 0), .int (pa0), .int (pa1)] : List Value).toArray s 0 0 (zA 25 q sz)) (F0 m 108 ls [.int (x_128), .int (x_101)]) := by
                      intro x_128 hx_128 H locs hP hD hS ls hl
                      refine lv_iload_n hx hb dX11_house_108 rfl (lv_at hl 1 rfl) ?_
                      refine lv_icmp_ne (tgt := 119) hx hb dX11_house_109 (by decide) (fun c_130 => ?_) (fun c_130 => ?_)
                      · have t_c_130 := z_eqF c_130
                        refine lv_iconst (v := nI 0) hx hb dX11_house_119 (by decide +kernel) ?_
                        exact t_120 (nI 0) (zR_w zk_0 (by decide)) _ _ hP hD hS _ (lv_sub hl [0, 1, 2, 3, 4] rfl)
                      · have t_c_130 := z_eqT c_130
                        refine lv_iconst (v := nI 1) hx hb dX11_house_112 (by decide +kernel) ?_
                        refine lv_iload hx hb dX11_house_113 (lv_at hl 4 rfl) ?_
                        refine lv_ishl hx hb dX11_house_115 ?_
                        refine z_rng (a := 1) (b := 8388608) (zR_shl1 23 f_108 (by decide)) (fun v_131 hv_131 => ?_)
                        refine lv_goto (tgt := 120) hx hb dX11_house_116 (by decide) ?_
                        exact t_120 (v_131) (zR_w hv_131 (by decide)) _ _ hP hD hS _ (lv_sub hl [0, 1, 2, 3, 4] rfl)
                    refine lv_icmp_ne (tgt := 101) hx hb dX11_house_88 (by decide) (fun c_123 => ?_) (fun c_123 => ?_)
                    · have t_c_123 := z_eqF c_123
                      have f_132 : zR 4 4 (pa1) := zR_nex t_c_123 f_14 zk_3 (by decide)
                      refine lv_aload_n hx hb dX11_house_101 rfl (lv_at hl 0 rfl) ?_
                      refine z_get hx hb ht hown hK hP ziX11 rfl 0 (by decide) 18 (by decide) hw_5_205 rfl (v := .ref (q 10)) rfl dX11_house_102 ?_
                      refine lv_iload hx hb dX11_house_105 (lv_at hl 4 rfl) ?_
                      refine z_iald hx hb hK hP 10 (by decide) 9 rfl rfl (zR_vin f_108 (by decide)) dX11_house_107 ?_
                      refine z_eqi (y := R_8 10 (x_102).toNatClampNeg) rfl ?_
                      have f_133 : zR 0 4 (R_8 10 (x_102).toNatClampNeg) := mR hv_8 10 (x_102).toNatClampNeg
                      exact t_129 (R_8 10 (x_102).toNatClampNeg) f_133 _ _ hP hD hS _ (lv_sub hl [0, 1, 2, 3, 4] rfl)
                    · have t_c_123 := z_eqT c_123
                      have f_134 : zR 3 3 (pa1) := zR_eqx t_c_123 zk_3
                      refine lv_aload_n hx hb dX11_house_91 rfl (lv_at hl 0 rfl) ?_
                      refine z_get hx hb ht hown hK hP ziX11 rfl 0 (by decide) 20 (by decide) hw_5_207 rfl (v := .ref (q 12)) rfl dX11_house_92 ?_
                      refine lv_iload hx hb dX11_house_95 (lv_at hl 4 rfl) ?_
                      refine z_iald hx hb hK hP 12 (by decide) 11 rfl rfl (zR_vin f_108 (by decide)) dX11_house_97 ?_
                      refine z_eqi (y := R_8 12 (x_102).toNatClampNeg) rfl ?_
                      have f_135 : zR 0 4 (R_8 12 (x_102).toNatClampNeg) := mR hv_8 12 (x_102).toNatClampNeg
                      refine lv_goto (tgt := 108) hx hb dX11_house_98 (by decide) ?_
                      exact t_129 (R_8 12 (x_102).toNatClampNeg) f_135 _ _ hP hD hS _ (lv_sub hl [0, 1, 2, 3, 4] rfl)
                  · cases hu_110
                    refine lv_if_eq (tgt := 119) hx hb dX11_house_83 (by decide) (fun _ => ?_) (fun c_0 => absurd (zD_eq zk_0 zk_z) c_0)
                    refine lv_iconst (v := nI 0) hx hb dX11_house_119 (by decide +kernel) ?_
                    exact t_120 (nI 0) (zR_w zk_0 (by decide)) _ _ hP hD hS _ (lv_sub hl [0, 1, 2, 3, 4] rfl)
            exact loop_103 _ (nI 0) (zR_w zk_0 (by decide)) (nI 0) (zR_w zk_0 (by decide)) (Nat.lt_succ_self _) _ _ hP hD hS _ (lv_sub hl [2, 3, 4, 1, 0] rfl)
          · have t_c_13 := z_eqT c_13
            have f_136 : zR 2 2 (pa1) := zR_eqx t_c_13 zk_2
            refine lv_aload_n hx hb dX11_house_56 rfl (lv_at hl 0 rfl) ?_
            refine lv_iload_n hx hb dX11_house_57 rfl (lv_at hl 1 rfl) ?_
            refine z_callVi (k := 0) (As := [.int (pa0)]) (rest := []) hx hb hml hown ht (mk_X11_thingsIn l D q cA F _ _ _ hv_8 (pa0) f_2) hw_6_226 hmX11_thingsIn ⟨rfl, rfl⟩ (na := 1) rfl (by decide +kernel) (by decide) (by decide) rfl rfl hK hP hD hS hA hl.1 rfl (Nat.le_of_ble_eq_true rfl) ⟨Nat.zero_le _, Nat.zero_le _⟩ dX11_house_58 (fun r_137 I_137 R_137 J_137 H locs hp_137 hP hD hS _ _ => ?_)
            obtain ⟨hr_137, hu_137⟩ := hp_137
            cases hu_137
            exact z_iret (v := r_137) hx hb hr hlocks hP hD hS dX11_house_61 ⟨hv_8, rfl⟩
        · have t_c_11 := z_eqT c_11
          have f_138 : zR 1 1 (pa1) := zR_eqx t_c_11 zk_1
          refine lv_aload_n hx hb dX11_house_44 rfl (lv_at hl 0 rfl) ?_
          refine z_get hx hb ht hown hK hP ziX11 rfl 0 (by decide) 16 (by decide) hw_5_203 rfl (v := .ref (q 8)) rfl dX11_house_45 ?_
          refine lv_iload_n hx hb dX11_house_48 rfl (lv_at hl 1 rfl) ?_
          refine z_iald hx hb hK hP 8 (by decide) 7 rfl rfl (zR_vin f_2 (by decide)) dX11_house_49 ?_
          refine z_eqi (y := R_8 8 (pa0).toNatClampNeg) rfl ?_
          exact z_iret (v := R_8 8 (pa0).toNatClampNeg) hx hb hr hlocks hP hD hS dX11_house_50 ⟨hv_8, rfl⟩
      · have t_c_9 := z_eqT c_9
        have f_139 : zR 0 0 (pa1) := zR_eqx t_c_9 zk_z
        refine lv_aload_n hx hb dX11_house_32 rfl (lv_at hl 0 rfl) ?_
        refine z_get hx hb ht hown hK hP ziX11 rfl 0 (by decide) 15 (by decide) hw_5_202 rfl (v := .ref (q 7)) rfl dX11_house_33 ?_
        refine lv_iload_n hx hb dX11_house_36 rfl (lv_at hl 1 rfl) ?_
        refine z_iald hx hb hK hP 7 (by decide) 6 rfl rfl (zR_vin f_2 (by decide)) dX11_house_37 ?_
        refine z_eqi (y := R_8 7 (pa0).toNatClampNeg) rfl ?_
        exact z_iret (v := R_8 7 (pa0).toNatClampNeg) hx hb hr hlocks hP hD hS dX11_house_38 ⟨hv_8, rfl⟩
    · cases hu_3
      have f_140 : zL (-2147483648) (-1) ((pa1).toInt64) := zL_ltx h1_3 (zR_i2l (zR_any (pa1))) zkl_0 (by decide)
      have f_141 : zR (-2147483648) (-1) (pa1) := zL_back f_140
      refine lv_if_ne (tgt := 24) hx hb dX11_house_18 (by decide) (fun c_0 => absurd (zD_eq zk_0 zk_z) c_0) (fun _ => ?_)
      refine lv_bipush (v := (-2)) hx hb dX11_house_21 (by decide +kernel) ?_
      exact z_iret (v := (-2)) hx hb hr hlocks hP hD hS dX11_house_23 ⟨hI, rfl⟩
    · cases hu_3
      have f_142 : zL 5 2147483647 ((pa1).toInt64) := zL_lty h2_3 zkl_4 (zR_i2l (zR_any (pa1))) (by decide)
      have f_143 : zR 5 2147483647 (pa1) := zL_back f_142
      refine lv_if_ne (tgt := 24) hx hb dX11_house_18 (by decide) (fun c_0 => absurd (zD_eq zk_0 zk_z) c_0) (fun _ => ?_)
      refine lv_bipush (v := (-2)) hx hb dX11_house_21 (by decide +kernel) ?_
      exact z_iret (v := (-2)) hx hb hr hlocks hP hD hS dX11_house_23 ⟨hI, rfl⟩
  · cases hu_1
    refine lv_if_eq (tgt := 21) hx hb dX11_house_6 (by decide) (fun _ => ?_) (fun c_0 => absurd (zD_eq zk_0 zk_z) c_0)
    refine lv_bipush (v := (-2)) hx hb dX11_house_21 (by decide +kernel) ?_
    exact z_iret (v := (-2)) hx hb hr hlocks hP hD hS dX11_house_23 ⟨hI, rfl⟩
set_option maxHeartbeats 4000000 in
set_option maxRecDepth 100000 in
theorem mk_X11_isThing (l : Launch) (D : va_G) (q : Nat → Nat) (cA : Nat → ClassId) (F : Nat → Nat → Int32) (I R : Nat → Nat → Int32) (J : Nat → Nat → Int64) (hI : mInv F (I, R, J)) (pa0 : Int64) (hpa0 : zL (-2147483648) 2147483647 pa0) : zMi l D vwCl (zMtys cA) 25 q (zMd q cA) yX11_isThing cX11_isThing 3 (some .boolean) ({ frames := 1, cells := 0, slots := 0, locals := 25 } : Room) [.ref (q 0), .long (pa0)] (I, R, J) (fun r u => (r = nI 1 ∧ u = (I, R, J) ∧ zL 0 5 pa0) ∨ (r = nI 0 ∧ u = (I, R, J))) := by
  intro sz
  refine z_body (by decide +kernel) (Nat.le_of_ble_eq_true rfl) (fun p e s m below meth c ls hx hb hml hr ht hown hlocks hsz hK hP hD hS hl => ?_)
  have hA : ∀ a, s.heap.size ≤ a → zA 25 q sz a := fun a h => Or.inr (hsz ▸ h)
  have hl : lv_has ls 3 [(0, .ref (q 0)), (1, .long (pa0))] := hl
  refine lv_lload_n hx hb dX11_isThing_0 rfl (lv_at hl 1 rfl) ?_
  refine lv_lconst (v := (0 : Int64)) hx hb dX11_isThing_1 (by decide +kernel) ?_
  refine lv_aload_n hx hb dX11_isThing_2 rfl (lv_at hl 0 rfl) ?_
  refine z_get hx hb ht hown hK hP ziX11 rfl 0 (by decide) 1 (by decide) hw_5_188 rfl (v := .ref (q 1)) rfl dX11_isThing_3 ?_
  refine lv_iconst (v := nI 4) hx hb dX11_isThing_6 (by decide +kernel) ?_
  refine z_iald hx hb hK hP 1 (by decide) 0 rfl rfl (zR_vin zk_4 (by decide)) dX11_isThing_7 ?_
  refine z_eqi (y := R 1 (nI 4).toNatClampNeg) rfl ?_
  have f_1 : zR 0 6 (R 1 (nI 4).toNatClampNeg) := mR hI 1 4
  refine lv_iconst (v := nI 1) hx hb dX11_isThing_8 (by decide +kernel) ?_
  refine lv_isub hx hb dX11_isThing_9 ?_
  refine z_subc (-1) 5 (-1) f_1 zk_1 (by decide) (fun v_2 hv_2 mv_2 => ?_)
  refine lv_i2l (v := (v_2).toInt64) hx hb dX11_isThing_10 rfl ?_
  refine z_callSi (As := [.long (pa0), .long ((0 : Int64)), .long ((v_2).toInt64)]) (rest := []) hx hb hml hown ht (mk_X11_in l D q cA F _ _ _ hI (pa0) ((0 : Int64)) ((v_2).toInt64)) hw_6_86 hmX11_in ⟨rfl, rfl⟩ (na := 3) rfl (by decide +kernel) (by decide) hK hP hD hS hA hl.1 rfl (Nat.le_of_ble_eq_true rfl) ⟨Nat.zero_le _, Nat.zero_le _⟩ dX11_isThing_11 (fun r_3 I_3 R_3 J_3 H locs hp_3 hP hD hS _ _ => ?_)
  rcases hp_3 with ⟨rfl, hu_3, h1_3, h2_3⟩ | ⟨rfl, hu_3, h1_3 | h2_3⟩
  · cases hu_3
    have f_4 : zL 0 2147483647 (pa0) := zL_ley h1_3 zkl_0 hpa0 (by decide)
    have f_5 : zL 0 5 (pa0) := zL_lex h2_3 f_4 (zR_i2l hv_2) (by decide)
    have f_6 : zL 0 5 ((v_2).toInt64) := zL_ley h2_3 f_4 (zR_i2l hv_2) (by decide)
    have f_7 : zR 0 5 (v_2) := zL_back f_6
    exact z_zret (v := nI 1) hx hb hr hlocks hP hD hS (by decide +kernel) dX11_isThing_14 (Or.inl ⟨rfl, rfl, f_5⟩)
  · cases hu_3
    have f_8 : zL (-2147483648) (-1) (pa0) := zL_ltx h1_3 hpa0 zkl_0 (by decide)
    exact z_zret (v := nI 0) hx hb hr hlocks hP hD hS (by decide +kernel) dX11_isThing_14 (Or.inr ⟨rfl, rfl⟩)
  · cases hu_3
    have f_9 : zL 0 2147483647 (pa0) := zL_lty h2_3 (zR_i2l hv_2) hpa0 (by decide)
    exact z_zret (v := nI 0) hx hb hr hlocks hP hD hS (by decide +kernel) dX11_isThing_14 (Or.inr ⟨rfl, rfl⟩)
set_option maxHeartbeats 4000000 in
set_option maxRecDepth 100000 in
theorem mk_X11_thing (l : Launch) (D : va_G) (q : Nat → Nat) (cA : Nat → ClassId) (F : Nat → Nat → Int32) (I R : Nat → Nat → Int32) (J : Nat → Nat → Int64) (hI : mInv F (I, R, J)) (pa0 : Int32) (pa1 : Int32) : zMi l D vwCl (zMtys cA) 25 q (zMd q cA) yX11_thing cX11_thing 3 (some .int) ({ frames := 6, cells := 0, slots := 0, locals := 155 } : Room) [.ref (q 0), .int (pa0), .int (pa1)] (I, R, J) (fun _ u => (mInv F u ∧ u.2.2 = J)) := by
  intro sz
  refine z_body (by decide +kernel) (Nat.le_of_ble_eq_true rfl) (fun p e s m below meth c ls hx hb hml hr ht hown hlocks hsz hK hP hD hS hl => ?_)
  have hA : ∀ a, s.heap.size ≤ a → zA 25 q sz a := fun a h => Or.inr (hsz ▸ h)
  have hl : lv_has ls 3 [(0, .ref (q 0)), (1, .int (pa0)), (2, .int (pa1))] := hl
  refine lv_aload_n hx hb dX11_thing_0 rfl (lv_at hl 0 rfl) ?_
  refine lv_iload_n hx hb dX11_thing_1 rfl (lv_at hl 1 rfl) ?_
  refine lv_i2l (v := (pa0).toInt64) hx hb dX11_thing_2 rfl ?_
  refine z_callVi (k := 0) (As := [.long ((pa0).toInt64)]) (rest := []) hx hb hml hown ht (mk_X11_isThing l D q cA F _ _ _ hI ((pa0).toInt64) (zR_i2l (zR_any (pa0)))) hw_6_238 hmX11_isThing ⟨rfl, rfl⟩ (na := 1) rfl (by decide +kernel) (by decide) (by decide) rfl rfl hK hP hD hS hA hl.1 rfl (Nat.le_of_ble_eq_true rfl) ⟨Nat.zero_le _, Nat.zero_le _⟩ dX11_thing_3 (fun r_1 I_1 R_1 J_1 H locs hp_1 hP hD hS _ _ => ?_)
  rcases hp_1 with ⟨rfl, hu_1, f0_1⟩ | ⟨rfl, hu_1⟩
  · cases hu_1
    have f_2 : zR 0 5 (pa0) := zL_back f0_1
    refine lv_if_eq (tgt := 21) hx hb dX11_thing_6 (by decide) (fun c_0 => absurd c_0 (zD_ne zk_1 zk_z (by decide))) (fun _ => ?_)
    refine lv_iload_n hx hb dX11_thing_9 rfl (lv_at hl 2 rfl) ?_
    refine lv_i2l (v := (pa1).toInt64) hx hb dX11_thing_10 rfl ?_
    refine lv_lconst (v := (0 : Int64)) hx hb dX11_thing_11 (by decide +kernel) ?_
    refine lv_ldc2 (v := (2 : Int64)) hx hb hown (ht _ hw_6_85) dX11_thing_12 ?_
    refine z_callSi (As := [.long ((pa1).toInt64), .long ((0 : Int64)), .long ((2 : Int64))]) (rest := []) hx hb hml hown ht (mk_X11_in l D q cA F _ _ _ hI ((pa1).toInt64) ((0 : Int64)) ((2 : Int64))) hw_6_86 hmX11_in ⟨rfl, rfl⟩ (na := 3) rfl (by decide +kernel) (by decide) hK hP hD hS hA hl.1 rfl (Nat.le_of_ble_eq_true rfl) ⟨Nat.zero_le _, Nat.zero_le _⟩ dX11_thing_15 (fun r_3 I_3 R_3 J_3 H locs hp_3 hP hD hS _ _ => ?_)
    rcases hp_3 with ⟨rfl, hu_3, h1_3, h2_3⟩ | ⟨rfl, hu_3, h1_3 | h2_3⟩
    · cases hu_3
      have f_4 : zL 0 2147483647 ((pa1).toInt64) := zL_ley h1_3 zkl_0 (zR_i2l (zR_any (pa1))) (by decide)
      have f_5 : zR 0 2147483647 (pa1) := zL_back f_4
      have f_6 : zL 0 2 ((pa1).toInt64) := zL_lex h2_3 f_4 zkl_2 (by decide)
      have f_7 : zR 0 2 (pa1) := zL_back f_6
      refine lv_if_ne (tgt := 24) hx hb dX11_thing_18 (by decide) (fun _ => ?_) (fun c_0 => absurd c_0 (zD_ne zk_1 zk_z (by decide)))
      refine lv_aload_n hx hb dX11_thing_24 rfl (lv_at hl 0 rfl) ?_
      refine z_callVv (k := 0) (As := []) (rest := []) hx hb hml hown ht (mk_X11_asItIs l D q cA F _ _ _ hI ) hw_6_181 hmX11_asItIs ⟨rfl, rfl⟩ (na := 0) rfl (by decide +kernel) (by decide) (by decide) rfl rfl hK hP hD hS hA hl.1 rfl (Nat.le_of_ble_eq_true rfl) ⟨Nat.zero_le _, Nat.zero_le _⟩ dX11_thing_25 (fun I_8 R_8 J_8 H locs hp_8 hP hD hS _ _ => ?_)
      obtain ⟨hv_8, hj_8, hs_8⟩ := hp_8
      try dsimp only at hj_8
      subst J_8
      refine lv_iload_n hx hb dX11_thing_28 rfl (lv_at hl 2 rfl) ?_
      refine lv_if_ne (tgt := 40) hx hb dX11_thing_29 (by decide) (fun c_9 => ?_) (fun c_9 => ?_)
      · have t_c_9 := z_eqF c_9
        have f_10 : zR 1 2 (pa1) := zR_nex t_c_9 f_7 zk_z (by decide)
        refine lv_iload_n hx hb dX11_thing_40 rfl (lv_at hl 2 rfl) ?_
        refine lv_iconst (v := nI 1) hx hb dX11_thing_41 (by decide +kernel) ?_
        refine lv_icmp_ne (tgt := 54) hx hb dX11_thing_42 (by decide) (fun c_11 => ?_) (fun c_11 => ?_)
        · have t_c_11 := z_eqF c_11
          have f_12 : zR 2 2 (pa1) := zR_nex t_c_11 f_10 zk_1 (by decide)
          refine lv_aload_n hx hb dX11_thing_54 rfl (lv_at hl 0 rfl) ?_
          refine z_get hx hb ht hown hK hP ziX11 rfl 0 (by decide) 1 (by decide) hw_5_188 rfl (v := .ref (q 1)) rfl dX11_thing_55 ?_
          refine lv_bipush (v := nI 17) hx hb dX11_thing_58 (by decide +kernel) ?_
          refine lv_iconst (v := nI 2) hx hb dX11_thing_60 (by decide +kernel) ?_
          refine lv_iload_n hx hb dX11_thing_61 rfl (lv_at hl 1 rfl) ?_
          refine lv_imul hx hb dX11_thing_62 ?_
          refine z_rng (a := 0) (b := 10) (zR_mul zk_2 f_2 (by decide)) (fun v_13 hv_13 => ?_)
          refine lv_iadd hx hb dX11_thing_63 ?_
          refine z_cadd 17 27 zk_17 hv_13 (by decide) (fun v_14 hv_14 mv_14 => ?_)
          refine z_iald hx hb hK hP 1 (by decide) 0 rfl rfl (zR_vin hv_14 (by decide)) dX11_thing_64 ?_
          refine z_eqi (y := R_8 1 (v_14).toNatClampNeg) rfl ?_
          exact z_iret (v := R_8 1 (v_14).toNatClampNeg) hx hb hr hlocks hP hD hS dX11_thing_65 ⟨hv_8, rfl⟩
        · have t_c_11 := z_eqT c_11
          have f_15 : zR 1 1 (pa1) := zR_eqx t_c_11 zk_1
          refine lv_aload_n hx hb dX11_thing_45 rfl (lv_at hl 0 rfl) ?_
          refine z_get hx hb ht hown hK hP ziX11 rfl 0 (by decide) 17 (by decide) hw_5_204 rfl (v := .ref (q 9)) rfl dX11_thing_46 ?_
          refine lv_iload_n hx hb dX11_thing_49 rfl (lv_at hl 1 rfl) ?_
          refine z_iald hx hb hK hP 9 (by decide) 8 rfl rfl (zR_vin f_2 (by decide)) dX11_thing_50 ?_
          refine z_eqi (y := R_8 9 (pa0).toNatClampNeg) rfl ?_
          have f_16 : zR 0 4 (R_8 9 (pa0).toNatClampNeg) := mR hv_8 9 (pa0).toNatClampNeg
          refine lv_goto (tgt := 65) hx hb dX11_thing_51 (by decide) ?_
          exact z_iret (v := R_8 9 (pa0).toNatClampNeg) hx hb hr hlocks hP hD hS dX11_thing_65 ⟨hv_8, rfl⟩
      · have t_c_9 := z_eqT c_9
        have f_17 : zR 0 0 (pa1) := zR_eqx t_c_9 zk_z
        refine lv_aload_n hx hb dX11_thing_32 rfl (lv_at hl 0 rfl) ?_
        refine lv_iload_n hx hb dX11_thing_33 rfl (lv_at hl 1 rfl) ?_
        refine z_callVi (k := 0) (As := [.int (pa0)]) (rest := []) hx hb hml hown ht (mk_X11_worthOf l D q cA F _ _ _ hv_8 (pa0) f_2) hw_6_210 hmX11_worthOf ⟨rfl, rfl⟩ (na := 1) rfl (by decide +kernel) (by decide) (by decide) rfl rfl hK hP hD hS hA hl.1 rfl (Nat.le_of_ble_eq_true rfl) ⟨Nat.zero_le _, Nat.zero_le _⟩ dX11_thing_34 (fun r_18 I_18 R_18 J_18 H locs hp_18 hP hD hS _ _ => ?_)
        cases hp_18
        refine lv_goto (tgt := 65) hx hb dX11_thing_37 (by decide) ?_
        exact z_iret (v := r_18) hx hb hr hlocks hP hD hS dX11_thing_65 ⟨hv_8, rfl⟩
    · cases hu_3
      have f_19 : zL (-2147483648) (-1) ((pa1).toInt64) := zL_ltx h1_3 (zR_i2l (zR_any (pa1))) zkl_0 (by decide)
      have f_20 : zR (-2147483648) (-1) (pa1) := zL_back f_19
      refine lv_if_ne (tgt := 24) hx hb dX11_thing_18 (by decide) (fun c_0 => absurd (zD_eq zk_0 zk_z) c_0) (fun _ => ?_)
      refine lv_bipush (v := (-2)) hx hb dX11_thing_21 (by decide +kernel) ?_
      exact z_iret (v := (-2)) hx hb hr hlocks hP hD hS dX11_thing_23 ⟨hI, rfl⟩
    · cases hu_3
      have f_21 : zL 3 2147483647 ((pa1).toInt64) := zL_lty h2_3 zkl_2 (zR_i2l (zR_any (pa1))) (by decide)
      have f_22 : zR 3 2147483647 (pa1) := zL_back f_21
      refine lv_if_ne (tgt := 24) hx hb dX11_thing_18 (by decide) (fun c_0 => absurd (zD_eq zk_0 zk_z) c_0) (fun _ => ?_)
      refine lv_bipush (v := (-2)) hx hb dX11_thing_21 (by decide +kernel) ?_
      exact z_iret (v := (-2)) hx hb hr hlocks hP hD hS dX11_thing_23 ⟨hI, rfl⟩
  · cases hu_1
    refine lv_if_eq (tgt := 21) hx hb dX11_thing_6 (by decide) (fun _ => ?_) (fun c_0 => absurd (zD_eq zk_0 zk_z) c_0)
    refine lv_bipush (v := (-2)) hx hb dX11_thing_21 (by decide +kernel) ?_
    exact z_iret (v := (-2)) hx hb hr hlocks hP hD hS dX11_thing_23 ⟨hI, rfl⟩
set_option maxHeartbeats 4000000 in
set_option maxRecDepth 100000 in
theorem mk_X11_wantOf (l : Launch) (D : va_G) (q : Nat → Nat) (cA : Nat → ClassId) (F : Nat → Nat → Int32) (I R : Nat → Nat → Int32) (J : Nat → Nat → Int64) (hI : mInv F (I, R, J)) (pa0 : Int32) (hpa0 : zR 0 4 pa0) (pa1 : Int32) (hpa1 : zR 0 5 pa1) : zMi l D vwCl (zMtys cA) 25 q (zMd q cA) yX11_wantOf cX11_wantOf 3 (some .int) ({ frames := 0, cells := 0, slots := 0, locals := 0 } : Room) [.ref (q 0), .int (pa0), .int (pa1)] (I, R, J) (fun _ u => u = (I, R, J)) := by
  intro sz
  refine z_body (by decide +kernel) (Nat.le_of_ble_eq_true rfl) (fun p e s m below meth c ls hx hb hml hr ht hown hlocks hsz hK hP hD hS hl => ?_)
  have hA : ∀ a, s.heap.size ≤ a → zA 25 q sz a := fun a h => Or.inr (hsz ▸ h)
  have hl : lv_has ls 3 [(0, .ref (q 0)), (1, .int (pa0)), (2, .int (pa1))] := hl
  refine lv_aload_n hx hb dX11_wantOf_0 rfl (lv_at hl 0 rfl) ?_
  refine z_get hx hb ht hown hK hP ziX11 rfl 0 (by decide) 1 (by decide) hw_5_188 rfl (v := .ref (q 1)) rfl dX11_wantOf_1 ?_
  refine lv_bipush (v := nI 29) hx hb dX11_wantOf_4 (by decide +kernel) ?_
  refine lv_bipush (v := nI 6) hx hb dX11_wantOf_6 (by decide +kernel) ?_
  refine lv_iload_n hx hb dX11_wantOf_8 rfl (lv_at hl 1 rfl) ?_
  refine lv_imul hx hb dX11_wantOf_9 ?_
  refine z_rng (a := 0) (b := 24) (zR_mul zk_6 hpa0 (by decide)) (fun v_1 hv_1 => ?_)
  refine lv_iadd hx hb dX11_wantOf_10 ?_
  refine z_cadd 29 53 zk_29 hv_1 (by decide) (fun v_2 hv_2 mv_2 => ?_)
  refine lv_iload_n hx hb dX11_wantOf_11 rfl (lv_at hl 2 rfl) ?_
  refine lv_iadd hx hb dX11_wantOf_12 ?_
  refine z_rng (a := 29) (b := 58) (zR_add hv_2 hpa1 (by decide)) (fun v_3 hv_3 => ?_)
  refine z_iald hx hb hK hP 1 (by decide) 0 rfl rfl (zR_vin hv_3 (by decide)) dX11_wantOf_13 ?_
  refine z_eqi (y := R 1 (v_3).toNatClampNeg) rfl ?_
  exact z_iret (v := R 1 (v_3).toNatClampNeg) hx hb hr hlocks hP hD hS dX11_wantOf_14 rfl
set_option maxHeartbeats 4000000 in
set_option maxRecDepth 100000 in
theorem mk_X11_valueOf (l : Launch) (D : va_G) (q : Nat → Nat) (cA : Nat → ClassId) (F : Nat → Nat → Int32) (I R : Nat → Nat → Int32) (J : Nat → Nat → Int64) (hI : mInv F (I, R, J)) (pa0 : Int32) (hpa0 : zR 0 4 pa0) (pa1 : Int32) (hpa1 : zR 0 5 pa1) : zMi l D vwCl (zMtys cA) 25 q (zMd q cA) yX11_valueOf cX11_valueOf 3 (some .int) ({ frames := 1, cells := 0, slots := 0, locals := 22 } : Room) [.ref (q 0), .int (pa0), .int (pa1)] (I, R, J) (fun _ u => u = (I, R, J)) := by
  intro sz
  refine z_body (by decide +kernel) (Nat.le_of_ble_eq_true rfl) (fun p e s m below meth c ls hx hb hml hr ht hown hlocks hsz hK hP hD hS hl => ?_)
  have hA : ∀ a, s.heap.size ≤ a → zA 25 q sz a := fun a h => Or.inr (hsz ▸ h)
  have hl : lv_has ls 3 [(0, .ref (q 0)), (1, .int (pa0)), (2, .int (pa1))] := hl
  refine lv_aload_n hx hb dX11_valueOf_0 rfl (lv_at hl 0 rfl) ?_
  refine lv_iload_n hx hb dX11_valueOf_1 rfl (lv_at hl 2 rfl) ?_
  refine z_callVi (k := 0) (As := [.int (pa1)]) (rest := []) hx hb hml hown ht (mk_X11_worthOf l D q cA F _ _ _ hI (pa1) hpa1) hw_6_210 hmX11_worthOf ⟨rfl, rfl⟩ (na := 1) rfl (by decide +kernel) (by decide) (by decide) rfl rfl hK hP hD hS hA hl.1 rfl (Nat.le_of_ble_eq_true rfl) ⟨Nat.zero_le _, Nat.zero_le _⟩ dX11_valueOf_2 (fun r_1 I_1 R_1 J_1 H locs hp_1 hP hD hS _ _ => ?_)
  cases hp_1
  refine lv_aload_n hx hb dX11_valueOf_5 rfl (lv_at hl 0 rfl) ?_
  refine lv_iload_n hx hb dX11_valueOf_6 rfl (lv_at hl 1 rfl) ?_
  refine lv_iload_n hx hb dX11_valueOf_7 rfl (lv_at hl 2 rfl) ?_
  refine z_callVi (k := 0) (As := [.int (pa0), .int (pa1)]) (rest := [.int (r_1)]) hx hb hml hown ht (mk_X11_wantOf l D q cA F _ _ _ hI (pa0) hpa0 (pa1) hpa1) hw_7_10 hmX11_wantOf ⟨rfl, rfl⟩ (na := 2) rfl (by decide +kernel) (by decide) (by decide) rfl rfl hK hP hD hS hA hl.1 rfl (Nat.le_of_ble_eq_true rfl) ⟨Nat.zero_le _, Nat.zero_le _⟩ dX11_valueOf_8 (fun r_2 I_2 R_2 J_2 H locs hp_2 hP hD hS _ _ => ?_)
  cases hp_2
  refine lv_iadd hx hb dX11_valueOf_11 ?_
  refine z_any (fun v_3 => ?_)
  exact z_iret (v := v_3) hx hb hr hlocks hP hD hS dX11_valueOf_12 rfl
set_option maxHeartbeats 4000000 in
set_option maxRecDepth 100000 in
theorem mk_X11_value (l : Launch) (D : va_G) (q : Nat → Nat) (cA : Nat → ClassId) (F : Nat → Nat → Int32) (I R : Nat → Nat → Int32) (J : Nat → Nat → Int64) (hI : mInv F (I, R, J)) (pa0 : Int32) (pa1 : Int32) : zMi l D vwCl (zMtys cA) 25 q (zMd q cA) yX11_value cX11_value 3 (some .int) ({ frames := 2, cells := 0, slots := 0, locals := 47 } : Room) [.ref (q 0), .int (pa0), .int (pa1)] (I, R, J) (fun _ u => u = (I, R, J)) := by
  intro sz
  refine z_body (by decide +kernel) (Nat.le_of_ble_eq_true rfl) (fun p e s m below meth c ls hx hb hml hr ht hown hlocks hsz hK hP hD hS hl => ?_)
  have hA : ∀ a, s.heap.size ≤ a → zA 25 q sz a := fun a h => Or.inr (hsz ▸ h)
  have hl : lv_has ls 3 [(0, .ref (q 0)), (1, .int (pa0)), (2, .int (pa1))] := hl
  refine lv_aload_n hx hb dX11_value_0 rfl (lv_at hl 0 rfl) ?_
  refine lv_iload_n hx hb dX11_value_1 rfl (lv_at hl 1 rfl) ?_
  refine lv_i2l (v := (pa0).toInt64) hx hb dX11_value_2 rfl ?_
  refine z_callVi (k := 0) (As := [.long ((pa0).toInt64)]) (rest := []) hx hb hml hown ht (mk_X11_isHouse l D q cA F _ _ _ hI ((pa0).toInt64) (zR_i2l (zR_any (pa0)))) hw_6_176 hmX11_isHouse ⟨rfl, rfl⟩ (na := 1) rfl (by decide +kernel) (by decide) (by decide) rfl rfl hK hP hD hS hA hl.1 rfl (Nat.le_of_ble_eq_true rfl) ⟨Nat.zero_le _, Nat.zero_le _⟩ dX11_value_3 (fun r_1 I_1 R_1 J_1 H locs hp_1 hP hD hS _ _ => ?_)
  rcases hp_1 with ⟨rfl, hu_1, f0_1⟩ | ⟨rfl, hu_1⟩
  · cases hu_1
    have f_2 : zR 0 4 (pa0) := zL_back f0_1
    refine lv_if_eq (tgt := 27) hx hb dX11_value_6 (by decide) (fun c_0 => absurd c_0 (zD_ne zk_1 zk_z (by decide))) (fun _ => ?_)
    refine lv_aload_n hx hb dX11_value_9 rfl (lv_at hl 0 rfl) ?_
    refine lv_iload_n hx hb dX11_value_10 rfl (lv_at hl 2 rfl) ?_
    refine lv_i2l (v := (pa1).toInt64) hx hb dX11_value_11 rfl ?_
    refine z_callVi (k := 0) (As := [.long ((pa1).toInt64)]) (rest := []) hx hb hml hown ht (mk_X11_isThing l D q cA F _ _ _ hI ((pa1).toInt64) (zR_i2l (zR_any (pa1)))) hw_6_238 hmX11_isThing ⟨rfl, rfl⟩ (na := 1) rfl (by decide +kernel) (by decide) (by decide) rfl rfl hK hP hD hS hA hl.1 rfl (Nat.le_of_ble_eq_true rfl) ⟨Nat.zero_le _, Nat.zero_le _⟩ dX11_value_12 (fun r_3 I_3 R_3 J_3 H locs hp_3 hP hD hS _ _ => ?_)
    rcases hp_3 with ⟨rfl, hu_3, f0_3⟩ | ⟨rfl, hu_3⟩
    · cases hu_3
      have f_4 : zR 0 5 (pa1) := zL_back f0_3
      refine lv_if_eq (tgt := 27) hx hb dX11_value_15 (by decide) (fun c_0 => absurd c_0 (zD_ne zk_1 zk_z (by decide))) (fun _ => ?_)
      refine lv_aload_n hx hb dX11_value_18 rfl (lv_at hl 0 rfl) ?_
      refine lv_iload_n hx hb dX11_value_19 rfl (lv_at hl 1 rfl) ?_
      refine lv_iload_n hx hb dX11_value_20 rfl (lv_at hl 2 rfl) ?_
      refine z_callVi (k := 0) (As := [.int (pa0), .int (pa1)]) (rest := []) hx hb hml hown ht (mk_X11_valueOf l D q cA F _ _ _ hI (pa0) f_2 (pa1) f_4) hw_7_6 hmX11_valueOf ⟨rfl, rfl⟩ (na := 2) rfl (by decide +kernel) (by decide) (by decide) rfl rfl hK hP hD hS hA hl.1 rfl (Nat.le_of_ble_eq_true rfl) ⟨Nat.zero_le _, Nat.zero_le _⟩ dX11_value_21 (fun r_5 I_5 R_5 J_5 H locs hp_5 hP hD hS _ _ => ?_)
      cases hp_5
      refine lv_goto (tgt := 29) hx hb dX11_value_24 (by decide) ?_
      exact z_iret (v := r_5) hx hb hr hlocks hP hD hS dX11_value_29 rfl
    · cases hu_3
      refine lv_if_eq (tgt := 27) hx hb dX11_value_15 (by decide) (fun _ => ?_) (fun c_0 => absurd (zD_eq zk_0 zk_z) c_0)
      refine lv_bipush (v := (-2)) hx hb dX11_value_27 (by decide +kernel) ?_
      exact z_iret (v := (-2)) hx hb hr hlocks hP hD hS dX11_value_29 rfl
  · cases hu_1
    refine lv_if_eq (tgt := 27) hx hb dX11_value_6 (by decide) (fun _ => ?_) (fun c_0 => absurd (zD_eq zk_0 zk_z) c_0)
    refine lv_bipush (v := (-2)) hx hb dX11_value_27 (by decide +kernel) ?_
    exact z_iret (v := (-2)) hx hb hr hlocks hP hD hS dX11_value_29 rfl
set_option maxHeartbeats 4000000 in
set_option maxRecDepth 100000 in
theorem mk_X11_isPaper (l : Launch) (D : va_G) (q : Nat → Nat) (cA : Nat → ClassId) (F : Nat → Nat → Int32) (I R : Nat → Nat → Int32) (J : Nat → Nat → Int64) (hI : mInv F (I, R, J)) (pa0 : Int32) : zMi l D vwCl (zMtys cA) 25 q (zMd q cA) yX11_isPaper cX11_isPaper 2 (some .boolean) ({ frames := 6, cells := 0, slots := 0, locals := 155 } : Room) [.ref (q 0), .int (pa0)] (I, R, J) (fun r u => (r = nI 1 ∧ (mInv F u ∧ u.2.2 = J) ∧ zR 0 23 pa0) ∨ (r = nI 0 ∧ (mInv F u ∧ u.2.2 = J))) := by
  intro sz
  refine z_body (by decide +kernel) (Nat.le_of_ble_eq_true rfl) (fun p e s m below meth c ls hx hb hml hr ht hown hlocks hsz hK hP hD hS hl => ?_)
  have hA : ∀ a, s.heap.size ≤ a → zA 25 q sz a := fun a h => Or.inr (hsz ▸ h)
  have hl : lv_has ls 2 [(0, .ref (q 0)), (1, .int (pa0))] := hl
  refine lv_aload_n hx hb dX11_isPaper_0 rfl (lv_at hl 0 rfl) ?_
  refine z_callVv (k := 0) (As := []) (rest := []) hx hb hml hown ht (mk_X11_asItIs l D q cA F _ _ _ hI ) hw_6_181 hmX11_asItIs ⟨rfl, rfl⟩ (na := 0) rfl (by decide +kernel) (by decide) (by decide) rfl rfl hK hP hD hS hA hl.1 rfl (Nat.le_of_ble_eq_true rfl) ⟨Nat.zero_le _, Nat.zero_le _⟩ dX11_isPaper_1 (fun I_1 R_1 J_1 H locs hp_1 hP hD hS _ _ => ?_)
  obtain ⟨hv_1, hj_1, hs_1⟩ := hp_1
  try dsimp only at hj_1
  subst J_1
  refine lv_iload_n hx hb dX11_isPaper_4 rfl (lv_at hl 1 rfl) ?_
  refine lv_i2l (v := (pa0).toInt64) hx hb dX11_isPaper_5 rfl ?_
  refine lv_lconst (v := (0 : Int64)) hx hb dX11_isPaper_6 (by decide +kernel) ?_
  refine lv_aload_n hx hb dX11_isPaper_7 rfl (lv_at hl 0 rfl) ?_
  refine z_get hx hb ht hown hK hP ziX11 rfl 0 (by decide) 26 (by decide) hw_5_213 rfl (v := .int (I_1 0 26)) rfl dX11_isPaper_8 ?_
  have f_2 : zR 0 24 (I_1 0 26) := mI hv_1 0 26
  refine lv_iconst (v := nI 1) hx hb dX11_isPaper_11 (by decide +kernel) ?_
  refine lv_isub hx hb dX11_isPaper_12 ?_
  refine z_subc (-1) 23 (-1) f_2 zk_1 (by decide) (fun v_3 hv_3 mv_3 => ?_)
  refine lv_i2l (v := (v_3).toInt64) hx hb dX11_isPaper_13 rfl ?_
  refine z_callSi (As := [.long ((pa0).toInt64), .long ((0 : Int64)), .long ((v_3).toInt64)]) (rest := []) hx hb hml hown ht (mk_X11_in l D q cA F _ _ _ hv_1 ((pa0).toInt64) ((0 : Int64)) ((v_3).toInt64)) hw_6_86 hmX11_in ⟨rfl, rfl⟩ (na := 3) rfl (by decide +kernel) (by decide) hK hP hD hS hA hl.1 rfl (Nat.le_of_ble_eq_true rfl) ⟨Nat.zero_le _, Nat.zero_le _⟩ dX11_isPaper_14 (fun r_4 I_4 R_4 J_4 H locs hp_4 hP hD hS _ _ => ?_)
  rcases hp_4 with ⟨rfl, hu_4, h1_4, h2_4⟩ | ⟨rfl, hu_4, h1_4 | h2_4⟩
  · cases hu_4
    have f_5 : zL 0 2147483647 ((pa0).toInt64) := zL_ley h1_4 zkl_0 (zR_i2l (zR_any (pa0))) (by decide)
    have f_6 : zR 0 2147483647 (pa0) := zL_back f_5
    have f_7 : zL 0 23 ((pa0).toInt64) := zL_lex h2_4 f_5 (zR_i2l hv_3) (by decide)
    have f_8 : zR 0 23 (pa0) := zL_back f_7
    have f_9 : zL 0 23 ((v_3).toInt64) := zL_ley h2_4 f_5 (zR_i2l hv_3) (by decide)
    have f_10 : zR 0 23 (v_3) := zL_back f_9
    exact z_zret (v := nI 1) hx hb hr hlocks hP hD hS (by decide +kernel) dX11_isPaper_17 (Or.inl ⟨rfl, ⟨hv_1, rfl⟩, f_8⟩)
  · cases hu_4
    have f_11 : zL (-2147483648) (-1) ((pa0).toInt64) := zL_ltx h1_4 (zR_i2l (zR_any (pa0))) zkl_0 (by decide)
    have f_12 : zR (-2147483648) (-1) (pa0) := zL_back f_11
    exact z_zret (v := nI 0) hx hb hr hlocks hP hD hS (by decide +kernel) dX11_isPaper_17 (Or.inr ⟨rfl, ⟨hv_1, rfl⟩⟩)
  · cases hu_4
    have f_13 : zL 0 2147483647 ((pa0).toInt64) := zL_lty h2_4 (zR_i2l hv_3) (zR_i2l (zR_any (pa0))) (by decide)
    have f_14 : zR 0 2147483647 (pa0) := zL_back f_13
    exact z_zret (v := nI 0) hx hb hr hlocks hP hD hS (by decide +kernel) dX11_isPaper_17 (Or.inr ⟨rfl, ⟨hv_1, rfl⟩⟩)
set_option maxHeartbeats 4000000 in
set_option maxRecDepth 100000 in
theorem mk_X11_paper (l : Launch) (D : va_G) (q : Nat → Nat) (cA : Nat → ClassId) (F : Nat → Nat → Int32) (I R : Nat → Nat → Int32) (J : Nat → Nat → Int64) (hI : mInv F (I, R, J)) (pa0 : Int32) (pa1 : Int32) : zMi l D vwCl (zMtys cA) 25 q (zMd q cA) yX11_paper cX11_paper 3 (some .int) ({ frames := 7, cells := 0, slots := 0, locals := 176 } : Room) [.ref (q 0), .int (pa0), .int (pa1)] (I, R, J) (fun _ u => (mInv F u ∧ u.2.2 = J)) := by
  intro sz
  refine z_body (by decide +kernel) (Nat.le_of_ble_eq_true rfl) (fun p e s m below meth c ls hx hb hml hr ht hown hlocks hsz hK hP hD hS hl => ?_)
  have hA : ∀ a, s.heap.size ≤ a → zA 25 q sz a := fun a h => Or.inr (hsz ▸ h)
  have hl : lv_has ls 3 [(0, .ref (q 0)), (1, .int (pa0)), (2, .int (pa1))] := hl
  refine lv_aload_n hx hb dX11_paper_0 rfl (lv_at hl 0 rfl) ?_
  refine lv_iload_n hx hb dX11_paper_1 rfl (lv_at hl 1 rfl) ?_
  refine z_callVi (k := 0) (As := [.int (pa0)]) (rest := []) hx hb hml hown ht (mk_X11_isPaper l D q cA F _ _ _ hI (pa0)) hw_7_18 hmX11_isPaper ⟨rfl, rfl⟩ (na := 1) rfl (by decide +kernel) (by decide) (by decide) rfl rfl hK hP hD hS hA hl.1 rfl (Nat.le_of_ble_eq_true rfl) ⟨Nat.zero_le _, Nat.zero_le _⟩ dX11_paper_2 (fun r_1 I_1 R_1 J_1 H locs hp_1 hP hD hS _ _ => ?_)
  rcases hp_1 with ⟨rfl, hu_1, f0_1⟩ | ⟨rfl, hu_1⟩
  · obtain ⟨hv_1, hj_1⟩ := hu_1
    try dsimp only at hj_1
    subst J_1
    refine lv_if_eq (tgt := 20) hx hb dX11_paper_5 (by decide) (fun c_0 => absurd c_0 (zD_ne zk_1 zk_z (by decide))) (fun _ => ?_)
    refine lv_iload_n hx hb dX11_paper_8 rfl (lv_at hl 2 rfl) ?_
    refine lv_i2l (v := (pa1).toInt64) hx hb dX11_paper_9 rfl ?_
    refine lv_lconst (v := (0 : Int64)) hx hb dX11_paper_10 (by decide +kernel) ?_
    refine lv_ldc2 (v := (4 : Int64)) hx hb hown (ht _ hw_6_180) dX11_paper_11 ?_
    refine z_callSi (As := [.long ((pa1).toInt64), .long ((0 : Int64)), .long ((4 : Int64))]) (rest := []) hx hb hml hown ht (mk_X11_in l D q cA F _ _ _ hv_1 ((pa1).toInt64) ((0 : Int64)) ((4 : Int64))) hw_6_86 hmX11_in ⟨rfl, rfl⟩ (na := 3) rfl (by decide +kernel) (by decide) hK hP hD hS hA hl.1 rfl (Nat.le_of_ble_eq_true rfl) ⟨Nat.zero_le _, Nat.zero_le _⟩ dX11_paper_14 (fun r_2 I_2 R_2 J_2 H locs hp_2 hP hD hS _ _ => ?_)
    rcases hp_2 with ⟨rfl, hu_2, h1_2, h2_2⟩ | ⟨rfl, hu_2, h1_2 | h2_2⟩
    · cases hu_2
      have f_3 : zL 0 2147483647 ((pa1).toInt64) := zL_ley h1_2 zkl_0 (zR_i2l (zR_any (pa1))) (by decide)
      have f_4 : zR 0 2147483647 (pa1) := zL_back f_3
      have f_5 : zL 0 4 ((pa1).toInt64) := zL_lex h2_2 f_3 zkl_4 (by decide)
      have f_6 : zR 0 4 (pa1) := zL_back f_5
      refine lv_if_ne (tgt := 23) hx hb dX11_paper_17 (by decide) (fun _ => ?_) (fun c_0 => absurd c_0 (zD_ne zk_1 zk_z (by decide)))
      refine lv_iload_n hx hb dX11_paper_23 rfl (lv_at hl 2 rfl) ?_
      refine lv_if_ne (tgt := 36) hx hb dX11_paper_24 (by decide) (fun c_7 => ?_) (fun c_7 => ?_)
      · have t_c_7 := z_eqF c_7
        have f_8 : zR 1 4 (pa1) := zR_nex t_c_7 f_6 zk_z (by decide)
        refine lv_iload_n hx hb dX11_paper_36 rfl (lv_at hl 2 rfl) ?_
        refine lv_iconst (v := nI 1) hx hb dX11_paper_37 (by decide +kernel) ?_
        refine lv_icmp_ne (tgt := 50) hx hb dX11_paper_38 (by decide) (fun c_9 => ?_) (fun c_9 => ?_)
        · have t_c_9 := z_eqF c_9
          have f_10 : zR 2 4 (pa1) := zR_nex t_c_9 f_8 zk_1 (by decide)
          refine lv_iload_n hx hb dX11_paper_50 rfl (lv_at hl 2 rfl) ?_
          refine lv_iconst (v := nI 2) hx hb dX11_paper_51 (by decide +kernel) ?_
          refine lv_icmp_ne (tgt := 64) hx hb dX11_paper_52 (by decide) (fun c_11 => ?_) (fun c_11 => ?_)
          · have t_c_11 := z_eqF c_11
            have f_12 : zR 3 4 (pa1) := zR_nex t_c_11 f_10 zk_2 (by decide)
            refine lv_iload_n hx hb dX11_paper_64 rfl (lv_at hl 2 rfl) ?_
            refine lv_iconst (v := nI 3) hx hb dX11_paper_65 (by decide +kernel) ?_
            refine lv_icmp_ne (tgt := 78) hx hb dX11_paper_66 (by decide) (fun c_13 => ?_) (fun c_13 => ?_)
            · have t_c_13 := z_eqF c_13
              have f_14 : zR 4 4 (pa1) := zR_nex t_c_13 f_12 zk_3 (by decide)
              refine lv_aload_n hx hb dX11_paper_78 rfl (lv_at hl 0 rfl) ?_
              refine z_get hx hb ht hown hK hP ziX11 rfl 0 (by decide) 22 (by decide) hw_5_209 rfl (v := .ref (q 14)) rfl dX11_paper_79 ?_
              refine lv_iload_n hx hb dX11_paper_82 rfl (lv_at hl 1 rfl) ?_
              refine z_iald hx hb hK hP 14 (by decide) 13 rfl rfl (zR_vin f0_1 (by decide)) dX11_paper_83 ?_
              refine z_eqi (y := R_1 14 (pa0).toNatClampNeg) rfl ?_
              exact z_iret (v := R_1 14 (pa0).toNatClampNeg) hx hb hr hlocks hP hD hS dX11_paper_84 ⟨hv_1, rfl⟩
            · have t_c_13 := z_eqT c_13
              have f_15 : zR 3 3 (pa1) := zR_eqx t_c_13 zk_3
              refine lv_aload_n hx hb dX11_paper_69 rfl (lv_at hl 0 rfl) ?_
              refine z_get hx hb ht hown hK hP ziX11 rfl 0 (by decide) 21 (by decide) hw_5_208 rfl (v := .ref (q 13)) rfl dX11_paper_70 ?_
              refine lv_iload_n hx hb dX11_paper_73 rfl (lv_at hl 1 rfl) ?_
              refine z_iald hx hb hK hP 13 (by decide) 12 rfl rfl (zR_vin f0_1 (by decide)) dX11_paper_74 ?_
              refine z_eqi (y := R_1 13 (pa0).toNatClampNeg) rfl ?_
              refine lv_goto (tgt := 84) hx hb dX11_paper_75 (by decide) ?_
              exact z_iret (v := R_1 13 (pa0).toNatClampNeg) hx hb hr hlocks hP hD hS dX11_paper_84 ⟨hv_1, rfl⟩
          · have t_c_11 := z_eqT c_11
            have f_16 : zR 2 2 (pa1) := zR_eqx t_c_11 zk_2
            refine lv_aload_n hx hb dX11_paper_55 rfl (lv_at hl 0 rfl) ?_
            refine z_get hx hb ht hown hK hP ziX11 rfl 0 (by decide) 20 (by decide) hw_5_207 rfl (v := .ref (q 12)) rfl dX11_paper_56 ?_
            refine lv_iload_n hx hb dX11_paper_59 rfl (lv_at hl 1 rfl) ?_
            refine z_iald hx hb hK hP 12 (by decide) 11 rfl rfl (zR_vin f0_1 (by decide)) dX11_paper_60 ?_
            refine z_eqi (y := R_1 12 (pa0).toNatClampNeg) rfl ?_
            have f_17 : zR 0 4 (R_1 12 (pa0).toNatClampNeg) := mR hv_1 12 (pa0).toNatClampNeg
            refine lv_goto (tgt := 84) hx hb dX11_paper_61 (by decide) ?_
            exact z_iret (v := R_1 12 (pa0).toNatClampNeg) hx hb hr hlocks hP hD hS dX11_paper_84 ⟨hv_1, rfl⟩
        · have t_c_9 := z_eqT c_9
          have f_18 : zR 1 1 (pa1) := zR_eqx t_c_9 zk_1
          refine lv_aload_n hx hb dX11_paper_41 rfl (lv_at hl 0 rfl) ?_
          refine z_get hx hb ht hown hK hP ziX11 rfl 0 (by decide) 19 (by decide) hw_5_206 rfl (v := .ref (q 11)) rfl dX11_paper_42 ?_
          refine lv_iload_n hx hb dX11_paper_45 rfl (lv_at hl 1 rfl) ?_
          refine z_iald hx hb hK hP 11 (by decide) 10 rfl rfl (zR_vin f0_1 (by decide)) dX11_paper_46 ?_
          refine z_eqi (y := R_1 11 (pa0).toNatClampNeg) rfl ?_
          have f_19 : zR 0 5 (R_1 11 (pa0).toNatClampNeg) := mR hv_1 11 (pa0).toNatClampNeg
          refine lv_goto (tgt := 84) hx hb dX11_paper_47 (by decide) ?_
          exact z_iret (v := R_1 11 (pa0).toNatClampNeg) hx hb hr hlocks hP hD hS dX11_paper_84 ⟨hv_1, rfl⟩
      · have t_c_7 := z_eqT c_7
        have f_20 : zR 0 0 (pa1) := zR_eqx t_c_7 zk_z
        refine lv_aload_n hx hb dX11_paper_27 rfl (lv_at hl 0 rfl) ?_
        refine z_get hx hb ht hown hK hP ziX11 rfl 0 (by decide) 18 (by decide) hw_5_205 rfl (v := .ref (q 10)) rfl dX11_paper_28 ?_
        refine lv_iload_n hx hb dX11_paper_31 rfl (lv_at hl 1 rfl) ?_
        refine z_iald hx hb hK hP 10 (by decide) 9 rfl rfl (zR_vin f0_1 (by decide)) dX11_paper_32 ?_
        refine z_eqi (y := R_1 10 (pa0).toNatClampNeg) rfl ?_
        have f_21 : zR 0 4 (R_1 10 (pa0).toNatClampNeg) := mR hv_1 10 (pa0).toNatClampNeg
        refine lv_goto (tgt := 84) hx hb dX11_paper_33 (by decide) ?_
        exact z_iret (v := R_1 10 (pa0).toNatClampNeg) hx hb hr hlocks hP hD hS dX11_paper_84 ⟨hv_1, rfl⟩
    · cases hu_2
      have f_22 : zL (-2147483648) (-1) ((pa1).toInt64) := zL_ltx h1_2 (zR_i2l (zR_any (pa1))) zkl_0 (by decide)
      have f_23 : zR (-2147483648) (-1) (pa1) := zL_back f_22
      refine lv_if_ne (tgt := 23) hx hb dX11_paper_17 (by decide) (fun c_0 => absurd (zD_eq zk_0 zk_z) c_0) (fun _ => ?_)
      refine lv_bipush (v := (-2)) hx hb dX11_paper_20 (by decide +kernel) ?_
      exact z_iret (v := (-2)) hx hb hr hlocks hP hD hS dX11_paper_22 ⟨hv_1, rfl⟩
    · cases hu_2
      have f_24 : zL 5 2147483647 ((pa1).toInt64) := zL_lty h2_2 zkl_4 (zR_i2l (zR_any (pa1))) (by decide)
      have f_25 : zR 5 2147483647 (pa1) := zL_back f_24
      refine lv_if_ne (tgt := 23) hx hb dX11_paper_17 (by decide) (fun c_0 => absurd (zD_eq zk_0 zk_z) c_0) (fun _ => ?_)
      refine lv_bipush (v := (-2)) hx hb dX11_paper_20 (by decide +kernel) ?_
      exact z_iret (v := (-2)) hx hb hr hlocks hP hD hS dX11_paper_22 ⟨hv_1, rfl⟩
  · obtain ⟨hv_1, hj_1⟩ := hu_1
    try dsimp only at hj_1
    subst J_1
    refine lv_if_eq (tgt := 20) hx hb dX11_paper_5 (by decide) (fun _ => ?_) (fun c_0 => absurd (zD_eq zk_0 zk_z) c_0)
    refine lv_bipush (v := (-2)) hx hb dX11_paper_20 (by decide +kernel) ?_
    exact z_iret (v := (-2)) hx hb hr hlocks hP hD hS dX11_paper_22 ⟨hv_1, rfl⟩
set_option maxHeartbeats 4000000 in
set_option maxRecDepth 100000 in
theorem mk_X11_price (l : Launch) (D : va_G) (q : Nat → Nat) (cA : Nat → ClassId) (F : Nat → Nat → Int32) (I R : Nat → Nat → Int32) (J : Nat → Nat → Int64) (hI : mInv F (I, R, J)) (pa0 : Int32) : zMi l D vwCl (zMtys cA) 25 q (zMd q cA) yX11_price cX11_price 2 (some .int) ({ frames := 7, cells := 0, slots := 0, locals := 176 } : Room) [.ref (q 0), .int (pa0)] (I, R, J) (fun _ u => (mInv F u ∧ u.2.2 = J)) := by
  intro sz
  refine z_body (by decide +kernel) (Nat.le_of_ble_eq_true rfl) (fun p e s m below meth c ls hx hb hml hr ht hown hlocks hsz hK hP hD hS hl => ?_)
  have hA : ∀ a, s.heap.size ≤ a → zA 25 q sz a := fun a h => Or.inr (hsz ▸ h)
  have hl : lv_has ls 2 [(0, .ref (q 0)), (1, .int (pa0))] := hl
  refine lv_aload_n hx hb dX11_price_0 rfl (lv_at hl 0 rfl) ?_
  refine lv_iload_n hx hb dX11_price_1 rfl (lv_at hl 1 rfl) ?_
  refine z_callVi (k := 0) (As := [.int (pa0)]) (rest := []) hx hb hml hown ht (mk_X11_isPaper l D q cA F _ _ _ hI (pa0)) hw_7_18 hmX11_isPaper ⟨rfl, rfl⟩ (na := 1) rfl (by decide +kernel) (by decide) (by decide) rfl rfl hK hP hD hS hA hl.1 rfl (Nat.le_of_ble_eq_true rfl) ⟨Nat.zero_le _, Nat.zero_le _⟩ dX11_price_2 (fun r_1 I_1 R_1 J_1 H locs hp_1 hP hD hS _ _ => ?_)
  rcases hp_1 with ⟨rfl, hu_1, f0_1⟩ | ⟨rfl, hu_1⟩
  · obtain ⟨hv_1, hj_1⟩ := hu_1
    try dsimp only at hj_1
    subst J_1
    refine lv_if_ne (tgt := 11) hx hb dX11_price_5 (by decide) (fun _ => ?_) (fun c_0 => absurd c_0 (zD_ne zk_1 zk_z (by decide)))
    refine lv_aload_n hx hb dX11_price_11 rfl (lv_at hl 0 rfl) ?_
    refine lv_iload_n hx hb dX11_price_12 rfl (lv_at hl 1 rfl) ?_
    refine z_callVi (k := 0) (As := [.int (pa0)]) (rest := []) hx hb hml hown ht (mk_X11_isOpen_1 l D q cA F _ _ _ hv_1 (pa0) f0_1) hw_6_230 hmX11_isOpen ⟨rfl, rfl⟩ (na := 1) rfl (by decide +kernel) (by decide) (by decide) rfl rfl hK hP hD hS hA hl.1 rfl (Nat.le_of_ble_eq_true rfl) ⟨Nat.zero_le _, Nat.zero_le _⟩ dX11_price_13 (fun r_2 I_2 R_2 J_2 H locs hp_2 hP hD hS _ _ => ?_)
    rcases hp_2 with ⟨rfl, hu_2⟩ | ⟨rfl, hu_2⟩
    · cases hu_2
      refine lv_if_eq (tgt := 27) hx hb dX11_price_16 (by decide) (fun c_0 => absurd c_0 (zD_ne zk_1 zk_z (by decide))) (fun _ => ?_)
      refine lv_aload_n hx hb dX11_price_19 rfl (lv_at hl 0 rfl) ?_
      refine lv_iload_n hx hb dX11_price_20 rfl (lv_at hl 1 rfl) ?_
      refine z_callVi (k := 0) (As := [.int (pa0)]) (rest := []) hx hb hml hown ht (mk_X11_priceOf l D q cA F _ _ _ hv_1 (pa0) f0_1) hw_6_202 hmX11_priceOf ⟨rfl, rfl⟩ (na := 1) rfl (by decide +kernel) (by decide) (by decide) rfl rfl hK hP hD hS hA hl.1 rfl (Nat.le_of_ble_eq_true rfl) ⟨Nat.zero_le _, Nat.zero_le _⟩ dX11_price_21 (fun r_3 I_3 R_3 J_3 H locs hp_3 hP hD hS _ _ => ?_)
      cases hp_3
      refine lv_goto (tgt := 28) hx hb dX11_price_24 (by decide) ?_
      exact z_iret (v := r_3) hx hb hr hlocks hP hD hS dX11_price_28 ⟨hv_1, rfl⟩
    · cases hu_2
      refine lv_if_eq (tgt := 27) hx hb dX11_price_16 (by decide) (fun _ => ?_) (fun c_0 => absurd (zD_eq zk_0 zk_z) c_0)
      refine lv_iconst (v := (-1)) hx hb dX11_price_27 (by decide +kernel) ?_
      exact z_iret (v := (-1)) hx hb hr hlocks hP hD hS dX11_price_28 ⟨hv_1, rfl⟩
  · obtain ⟨hv_1, hj_1⟩ := hu_1
    try dsimp only at hj_1
    subst J_1
    refine lv_if_ne (tgt := 11) hx hb dX11_price_5 (by decide) (fun c_0 => absurd (zD_eq zk_0 zk_z) c_0) (fun _ => ?_)
    refine lv_bipush (v := (-2)) hx hb dX11_price_8 (by decide +kernel) ?_
    exact z_iret (v := (-2)) hx hb hr hlocks hP hD hS dX11_price_10 ⟨hv_1, rfl⟩
set_option maxHeartbeats 4000000 in
set_option maxRecDepth 100000 in
theorem mk_X11_netOf (l : Launch) (D : va_G) (q : Nat → Nat) (cA : Nat → ClassId) (F : Nat → Nat → Int32) (I R : Nat → Nat → Int32) (J : Nat → Nat → Int64) (hI : mInv F (I, R, J)) (pa0 : Int32) (hpa0 : zR 0 4 pa0) : zMi l D vwCl (zMtys cA) 25 q (zMd q cA) yX11_netOf cX11_netOf 4 (some .int) ({ frames := 2, cells := 0, slots := 0, locals := 44 } : Room) [.ref (q 0), .int (pa0)] (I, R, J) (fun _ u => u = (I, R, J)) := by
  intro sz
  refine z_body (by decide +kernel) (Nat.le_of_ble_eq_true rfl) (fun p e s m below meth c ls hx hb hml hr ht hown hlocks hsz hK hP hD hS hl => ?_)
  have hA : ∀ a, s.heap.size ≤ a → zA 25 q sz a := fun a h => Or.inr (hsz ▸ h)
  have hl : lv_has ls 4 [(0, .ref (q 0)), (1, .int (pa0))] := hl
  refine lv_aload_n hx hb dX11_netOf_0 rfl (lv_at hl 0 rfl) ?_
  refine z_get hx hb ht hown hK hP ziX11 rfl 0 (by decide) 15 (by decide) hw_5_202 rfl (v := .ref (q 7)) rfl dX11_netOf_1 ?_
  refine lv_iload_n hx hb dX11_netOf_4 rfl (lv_at hl 1 rfl) ?_
  refine z_iald hx hb hK hP 7 (by decide) 6 rfl rfl (zR_vin hpa0 (by decide)) dX11_netOf_5 ?_
  refine z_eqi (y := R 7 (pa0).toNatClampNeg) rfl ?_
  refine lv_istore_n (lv' := [(2, .int (R 7 (pa0).toNatClampNeg)), (0, .ref (q 0)), (1, .int (pa0))]) hx hb dX11_netOf_6 rfl hl (by decide) rfl (fun ls hl => ?_)
  refine lv_iconst (v := nI 0) hx hb dX11_netOf_7 (by decide +kernel) ?_
  refine lv_istore_n (lv' := [(3, .int (nI 0)), (2, .int (R 7 (pa0).toNatClampNeg)), (0, .ref (q 0)), (1, .int (pa0))]) hx hb dX11_netOf_8 rfl hl (by decide) rfl (fun ls hl => ?_)
  have loop_48 : ∀ N : Nat, ∀ x_46 : Int32, ∀ x_47 : Int32, zR 0 6 x_47 → (2147483648 - (x_47).toInt).toNat < N → ∀ (H : Heap) (locs : List Loc), va_P D vwCl (zw 25 q (zMd q cA) I R J) H → va_D (zA 25 q sz) (zw 25 q (zMd q cA) I R J) → va_S (zA 25 q sz) s.heap H locs → ∀ ls : Array Slot, lv_has ls 4 [(0, .ref (q 0)), (1, .int (pa0)), (2, .int (x_46)), (3, .int (x_47))] → W p l e ({ frames := 2, cells := 0, slots := 0, locals := 44 } : Room) s m ([.ref (q 0), .int (pa0)] : List Value).toArray below meth c H locs 0 0 (MQ below (va_Qi (fun _ u => u = (I, R, J)) (zB D vwCl 25 q (zMd q cA) sz) (zA 25 q sz)) ([.ref (q 0), .int (pa0)] : List Value).toArray s 0 0 (zA 25 q sz)) (F0 m 9 ls []) := by
    intro N
    induction N with
    | zero => intro x_46 x_47 hx_47 hN; exact absurd hN (Nat.not_lt_zero _)
    | succ N ih_50 =>
      intro x_46 x_47 hx_47 hN_49 H locs hP hD hS ls hl
      refine lv_iload_n hx hb dX11_netOf_9 rfl (lv_at hl 3 rfl) ?_
      refine lv_aload_n hx hb dX11_netOf_10 rfl (lv_at hl 0 rfl) ?_
      refine z_get hx hb ht hown hK hP ziX11 rfl 0 (by decide) 1 (by decide) hw_5_188 rfl (v := .ref (q 1)) rfl dX11_netOf_11 ?_
      refine lv_iconst (v := nI 4) hx hb dX11_netOf_14 (by decide +kernel) ?_
      refine z_iald hx hb hK hP 1 (by decide) 0 rfl rfl (zR_vin zk_4 (by decide)) dX11_netOf_15 ?_
      refine z_eqi (y := R 1 (nI 4).toNatClampNeg) rfl ?_
      have f_51 : zR 0 6 (R 1 (nI 4).toNatClampNeg) := mR hI 1 4
      refine lv_icmp_ge (tgt := 48) hx hb dX11_netOf_16 (by decide) (fun c_52 => ?_) (fun c_52 => ?_)
      · have t_c_52 := z_leT c_52
        refine lv_iconst (v := nI 0) hx hb dX11_netOf_48 (by decide +kernel) ?_
        refine lv_istore_n (lv' := [(3, .int (nI 0)), (0, .ref (q 0)), (1, .int (pa0)), (2, .int (x_46))]) hx hb dX11_netOf_49 rfl hl (by decide) rfl (fun ls hl => ?_)
        have loop_136 : ∀ N : Nat, ∀ x_134 : Int32, ∀ x_135 : Int32, zR 0 24 x_135 → (2147483648 - (x_135).toInt).toNat < N → ∀ (H : Heap) (locs : List Loc), va_P D vwCl (zw 25 q (zMd q cA) I R J) H → va_D (zA 25 q sz) (zw 25 q (zMd q cA) I R J) → va_S (zA 25 q sz) s.heap H locs → ∀ ls : Array Slot, lv_has ls 4 [(0, .ref (q 0)), (1, .int (pa0)), (2, .int (x_134)), (3, .int (x_135))] → W p l e ({ frames := 2, cells := 0, slots := 0, locals := 44 } : Room) s m ([.ref (q 0), .int (pa0)] : List Value).toArray below meth c H locs 0 0 (MQ below (va_Qi (fun _ u => u = (I, R, J)) (zB D vwCl 25 q (zMd q cA) sz) (zA 25 q sz)) ([.ref (q 0), .int (pa0)] : List Value).toArray s 0 0 (zA 25 q sz)) (F0 m 50 ls []) := by
          intro N
          induction N with
          | zero => intro x_134 x_135 hx_135 hN; exact absurd hN (Nat.not_lt_zero _)
          | succ N ih_138 =>
            intro x_134 x_135 hx_135 hN_137 H locs hP hD hS ls hl
            refine lv_iload_n hx hb dX11_netOf_50 rfl (lv_at hl 3 rfl) ?_
            refine lv_aload_n hx hb dX11_netOf_51 rfl (lv_at hl 0 rfl) ?_
            refine z_get hx hb ht hown hK hP ziX11 rfl 0 (by decide) 26 (by decide) hw_5_213 rfl (v := .int (I 0 26)) rfl dX11_netOf_52 ?_
            have f_139 : zR 0 24 (I 0 26) := mI hI 0 26
            refine lv_icmp_ge (tgt := 114) hx hb dX11_netOf_55 (by decide) (fun c_140 => ?_) (fun c_140 => ?_)
            · have t_c_140 := z_leT c_140
              refine lv_iload_n hx hb dX11_netOf_114 rfl (lv_at hl 2 rfl) ?_
              exact z_iret (v := x_134) hx hb hr hlocks hP hD hS dX11_netOf_115 rfl
            · have t_c_140 := z_leF c_140
              have f_141 : zR 0 23 (x_135) := zR_ltx t_c_140 hx_135 f_139 (by decide)
              have f_142 : zR 1 24 (I 0 26) := zR_lty t_c_140 hx_135 f_139 (by decide)
              refine lv_aload_n hx hb dX11_netOf_58 rfl (lv_at hl 0 rfl) ?_
              refine lv_iload_n hx hb dX11_netOf_59 rfl (lv_at hl 3 rfl) ?_
              have t_155 : ∀ x_154 : Int32, ∀ (H : Heap) (locs : List Loc), va_P D vwCl (zw 25 q (zMd q cA) I R J) H → va_D (zA 25 q sz) (zw 25 q (zMd q cA) I R J) → va_S (zA 25 q sz) s.heap H locs → ∀ ls : Array Slot, lv_has ls 4 [(0, .ref (q 0)), (1, .int (pa0)), (2, .int (x_154)), (3, .int (x_135))] → W p l e ({ frames := 2, cells := 0, slots := 0, locals := 44 } : Room) s m ([.ref (q 0), .int (pa0)] : List Value).toArray below meth c H locs 0 0 (MQ below (va_Qi (fun _ u => u = (I, R, J)) (zB D vwCl 25 q (zMd q cA) sz) (zA 25 q sz)) ([.ref (q 0), .int (pa0)] : List Value).toArray s 0 0 (zA 25 q sz)) (F0 m 108 ls []) := by
                intro x_154 H locs hP hD hS ls hl
                obtain ⟨v_156, ev_156⟩ : ∃ y : Int32, y = x_135 + nI 1 := ⟨_, rfl⟩
                have hv_156 : zR 1 24 v_156 := ev_156 ▸ zR_add f_141 zk_1 (by decide)
                have mv_156 : v_156.toInt = (x_135).toInt + 1 := by rw [ev_156, zR_addE f_141 zk_1 (by decide)]; rfl
                refine lv_iinc (v := v_156) (lv' := [(3, .int (v_156)), (0, .ref (q 0)), (1, .int (pa0)), (2, .int (x_154))]) hx hb dX11_netOf_108 hl (k := 3) rfl (ev_156 ▸ rfl) (by decide) rfl (fun ls hl => ?_)
                refine lv_goto (tgt := 50) hx hb dX11_netOf_111 (by decide) ?_
                exact ih_138 (x_154) (v_156) (zR_w hv_156 (by decide)) (z2_up mv_156 (by decide) hN_137) _ _ hP hD hS _ (lv_sub hl [1, 2, 3, 0] rfl)
              refine z_callVi (k := 0) (As := [.int (x_135)]) (rest := []) hx hb hml hown ht (mk_X11_isOpen_1 l D q cA F _ _ _ hI (x_135) f_141) hw_6_230 hmX11_isOpen ⟨rfl, rfl⟩ (na := 1) rfl (by decide +kernel) (by decide) (by decide) rfl rfl hK hP hD hS hA hl.1 rfl (Nat.le_of_ble_eq_true rfl) ⟨Nat.zero_le _, Nat.zero_le _⟩ dX11_netOf_60 (fun r_143 I_143 R_143 J_143 H locs hp_143 hP hD hS _ _ => ?_)
              rcases hp_143 with ⟨rfl, hu_143⟩ | ⟨rfl, hu_143⟩
              · cases hu_143
                refine lv_if_eq (tgt := 108) hx hb dX11_netOf_63 (by decide) (fun c_0 => absurd c_0 (zD_ne zk_1 zk_z (by decide))) (fun _ => ?_)
                refine lv_iload_n hx hb dX11_netOf_66 rfl (lv_at hl 2 rfl) ?_
                refine lv_aload_n hx hb dX11_netOf_67 rfl (lv_at hl 0 rfl) ?_
                refine z_get hx hb ht hown hK hP ziX11 rfl 0 (by decide) 20 (by decide) hw_5_207 rfl (v := .ref (q 12)) rfl dX11_netOf_68 ?_
                refine lv_iload_n hx hb dX11_netOf_71 rfl (lv_at hl 3 rfl) ?_
                refine z_iald hx hb hK hP 12 (by decide) 11 rfl rfl (zR_vin f_141 (by decide)) dX11_netOf_72 ?_
                refine z_eqi (y := R 12 (x_135).toNatClampNeg) rfl ?_
                have f_157 : zR 0 4 (R 12 (x_135).toNatClampNeg) := mR hI 12 (x_135).toNatClampNeg
                refine lv_iload_n hx hb dX11_netOf_73 rfl (lv_at hl 1 rfl) ?_
                have t_161 : ∀ x_160 : Int32, ∀ (H : Heap) (locs : List Loc), va_P D vwCl (zw 25 q (zMd q cA) I R J) H → va_D (zA 25 q sz) (zw 25 q (zMd q cA) I R J) → va_S (zA 25 q sz) s.heap H locs → ∀ ls : Array Slot, lv_has ls 4 [(0, .ref (q 0)), (1, .int (pa0)), (2, .int (x_134)), (3, .int (x_135))] → W p l e ({ frames := 2, cells := 0, slots := 0, locals := 44 } : Room) s m ([.ref (q 0), .int (pa0)] : List Value).toArray below meth c H locs 0 0 (MQ below (va_Qi (fun _ u => u = (I, R, J)) (zB D vwCl 25 q (zMd q cA) sz) (zA 25 q sz)) ([.ref (q 0), .int (pa0)] : List Value).toArray s 0 0 (zA 25 q sz)) (F0 m 86 ls [.int (x_160), .int (x_134)]) := by
                  intro x_160 H locs hP hD hS ls hl
                  refine lv_aload_n hx hb dX11_netOf_86 rfl (lv_at hl 0 rfl) ?_
                  refine z_get hx hb ht hown hK hP ziX11 rfl 0 (by decide) 18 (by decide) hw_5_205 rfl (v := .ref (q 10)) rfl dX11_netOf_87 ?_
                  refine lv_iload_n hx hb dX11_netOf_90 rfl (lv_at hl 3 rfl) ?_
                  refine z_iald hx hb hK hP 10 (by decide) 9 rfl rfl (zR_vin f_141 (by decide)) dX11_netOf_91 ?_
                  refine z_eqi (y := R 10 (x_135).toNatClampNeg) rfl ?_
                  have f_162 : zR 0 4 (R 10 (x_135).toNatClampNeg) := mR hI 10 (x_135).toNatClampNeg
                  refine lv_iload_n hx hb dX11_netOf_92 rfl (lv_at hl 1 rfl) ?_
                  have t_166 : ∀ x_165 : Int32, ∀ (H : Heap) (locs : List Loc), va_P D vwCl (zw 25 q (zMd q cA) I R J) H → va_D (zA 25 q sz) (zw 25 q (zMd q cA) I R J) → va_S (zA 25 q sz) s.heap H locs → ∀ ls : Array Slot, lv_has ls 4 [(0, .ref (q 0)), (1, .int (pa0)), (2, .int (x_134)), (3, .int (x_135))] → W p l e ({ frames := 2, cells := 0, slots := 0, locals := 44 } : Room) s m ([.ref (q 0), .int (pa0)] : List Value).toArray below meth c H locs 0 0 (MQ below (va_Qi (fun _ u => u = (I, R, J)) (zB D vwCl 25 q (zMd q cA) sz) (zA 25 q sz)) ([.ref (q 0), .int (pa0)] : List Value).toArray s 0 0 (zA 25 q sz)) (F0 m 105 ls [.int (x_165), .int (x_160), .int (x_134)]) := by
                    intro x_165 H locs hP hD hS ls hl
                    refine lv_isub hx hb dX11_netOf_105 ?_
                    refine z_any (fun v_167 => ?_)
                    refine lv_iadd hx hb dX11_netOf_106 ?_
                    refine z_any (fun v_168 => ?_)
                    refine lv_istore_n (lv' := [(2, .int (v_168)), (0, .ref (q 0)), (1, .int (pa0)), (3, .int (x_135))]) hx hb dX11_netOf_107 rfl hl (by decide) rfl (fun ls hl => ?_)
                    exact t_155 (v_168) _ _ hP hD hS _ (lv_sub hl [1, 2, 0, 3] rfl)
                  refine lv_icmp_ne (tgt := 104) hx hb dX11_netOf_93 (by decide) (fun c_163 => ?_) (fun c_163 => ?_)
                  · have t_c_163 := z_eqF c_163
                    refine lv_iconst (v := nI 0) hx hb dX11_netOf_104 (by decide +kernel) ?_
                    exact t_166 (nI 0) _ _ hP hD hS _ (lv_sub hl [0, 1, 2, 3] rfl)
                  · have t_c_163 := z_eqT c_163
                    refine lv_aload_n hx hb dX11_netOf_96 rfl (lv_at hl 0 rfl) ?_
                    refine lv_iload_n hx hb dX11_netOf_97 rfl (lv_at hl 3 rfl) ?_
                    refine z_callVi (k := 0) (As := [.int (x_135)]) (rest := [.int (x_160), .int (x_134)]) hx hb hml hown ht (mk_X11_worthP_1 l D q cA F _ _ _ hI (x_135) f_141) hw_6_206 hmX11_worthP ⟨rfl, rfl⟩ (na := 1) rfl (by decide +kernel) (by decide) (by decide) rfl rfl hK hP hD hS hA hl.1 rfl (Nat.le_of_ble_eq_true rfl) ⟨Nat.zero_le _, Nat.zero_le _⟩ dX11_netOf_98 (fun r_169 I_169 R_169 J_169 H locs hp_169 hP hD hS _ _ => ?_)
                    cases hp_169
                    refine lv_goto (tgt := 105) hx hb dX11_netOf_101 (by decide) ?_
                    exact t_166 (r_169) _ _ hP hD hS _ (lv_sub hl [0, 1, 2, 3] rfl)
                refine lv_icmp_ne (tgt := 85) hx hb dX11_netOf_74 (by decide) (fun c_158 => ?_) (fun c_158 => ?_)
                · have t_c_158 := z_eqF c_158
                  refine lv_iconst (v := nI 0) hx hb dX11_netOf_85 (by decide +kernel) ?_
                  exact t_161 (nI 0) _ _ hP hD hS _ (lv_sub hl [0, 1, 2, 3] rfl)
                · have t_c_158 := z_eqT c_158
                  refine lv_aload_n hx hb dX11_netOf_77 rfl (lv_at hl 0 rfl) ?_
                  refine lv_iload_n hx hb dX11_netOf_78 rfl (lv_at hl 3 rfl) ?_
                  refine z_callVi (k := 0) (As := [.int (x_135)]) (rest := [.int (x_134)]) hx hb hml hown ht (mk_X11_worthP_1 l D q cA F _ _ _ hI (x_135) f_141) hw_6_206 hmX11_worthP ⟨rfl, rfl⟩ (na := 1) rfl (by decide +kernel) (by decide) (by decide) rfl rfl hK hP hD hS hA hl.1 rfl (Nat.le_of_ble_eq_true rfl) ⟨Nat.zero_le _, Nat.zero_le _⟩ dX11_netOf_79 (fun r_170 I_170 R_170 J_170 H locs hp_170 hP hD hS _ _ => ?_)
                  cases hp_170
                  refine lv_goto (tgt := 86) hx hb dX11_netOf_82 (by decide) ?_
                  exact t_161 (r_170) _ _ hP hD hS _ (lv_sub hl [0, 1, 2, 3] rfl)
              · cases hu_143
                refine lv_if_eq (tgt := 108) hx hb dX11_netOf_63 (by decide) (fun _ => ?_) (fun c_0 => absurd (zD_eq zk_0 zk_z) c_0)
                exact t_155 (x_134) _ _ hP hD hS _ (lv_sub hl [0, 1, 2, 3] rfl)
        exact loop_136 _ (x_46) (nI 0) (zR_w zk_0 (by decide)) (Nat.lt_succ_self _) _ _ hP hD hS _ (lv_sub hl [1, 2, 3, 0] rfl)
      · have t_c_52 := z_leF c_52
        have f_171 : zR 0 5 (x_47) := zR_ltx t_c_52 hx_47 f_51 (by decide)
        have f_172 : zR 1 6 (R 1 (nI 4).toNatClampNeg) := zR_lty t_c_52 hx_47 f_51 (by decide)
        refine lv_iload_n hx hb dX11_netOf_19 rfl (lv_at hl 2 rfl) ?_
        refine lv_aload_n hx hb dX11_netOf_20 rfl (lv_at hl 0 rfl) ?_
        refine z_get hx hb ht hown hK hP ziX11 rfl 0 (by decide) 17 (by decide) hw_5_204 rfl (v := .ref (q 9)) rfl dX11_netOf_21 ?_
        refine lv_iload_n hx hb dX11_netOf_24 rfl (lv_at hl 3 rfl) ?_
        refine z_iald hx hb hK hP 9 (by decide) 8 rfl rfl (zR_vin f_171 (by decide)) dX11_netOf_25 ?_
        refine z_eqi (y := R 9 (x_47).toNatClampNeg) rfl ?_
        have f_173 : zR 0 4 (R 9 (x_47).toNatClampNeg) := mR hI 9 (x_47).toNatClampNeg
        refine lv_iload_n hx hb dX11_netOf_26 rfl (lv_at hl 1 rfl) ?_
        have t_177 : ∀ x_176 : Int32, ∀ (H : Heap) (locs : List Loc), va_P D vwCl (zw 25 q (zMd q cA) I R J) H → va_D (zA 25 q sz) (zw 25 q (zMd q cA) I R J) → va_S (zA 25 q sz) s.heap H locs → ∀ ls : Array Slot, lv_has ls 4 [(0, .ref (q 0)), (1, .int (pa0)), (2, .int (x_46)), (3, .int (x_47))] → W p l e ({ frames := 2, cells := 0, slots := 0, locals := 44 } : Room) s m ([.ref (q 0), .int (pa0)] : List Value).toArray below meth c H locs 0 0 (MQ below (va_Qi (fun _ u => u = (I, R, J)) (zB D vwCl 25 q (zMd q cA) sz) (zA 25 q sz)) ([.ref (q 0), .int (pa0)] : List Value).toArray s 0 0 (zA 25 q sz)) (F0 m 40 ls [.int (x_176), .int (x_46)]) := by
          intro x_176 H locs hP hD hS ls hl
          refine lv_iadd hx hb dX11_netOf_40 ?_
          refine z_any (fun v_178 => ?_)
          refine lv_istore_n (lv' := [(2, .int (v_178)), (0, .ref (q 0)), (1, .int (pa0)), (3, .int (x_47))]) hx hb dX11_netOf_41 rfl hl (by decide) rfl (fun ls hl => ?_)
          obtain ⟨v_179, ev_179⟩ : ∃ y : Int32, y = x_47 + nI 1 := ⟨_, rfl⟩
          have hv_179 : zR 1 6 v_179 := ev_179 ▸ zR_add f_171 zk_1 (by decide)
          have mv_179 : v_179.toInt = (x_47).toInt + 1 := by rw [ev_179, zR_addE f_171 zk_1 (by decide)]; rfl
          refine lv_iinc (v := v_179) (lv' := [(3, .int (v_179)), (2, .int (v_178)), (0, .ref (q 0)), (1, .int (pa0))]) hx hb dX11_netOf_42 hl (k := 3) rfl (ev_179 ▸ rfl) (by decide) rfl (fun ls hl => ?_)
          refine lv_goto (tgt := 9) hx hb dX11_netOf_45 (by decide) ?_
          exact ih_50 (v_178) (v_179) (zR_w hv_179 (by decide)) (z2_up mv_179 (by decide) hN_49) _ _ hP hD hS _ (lv_sub hl [2, 3, 1, 0] rfl)
        refine lv_icmp_ne (tgt := 39) hx hb dX11_netOf_27 (by decide) (fun c_174 => ?_) (fun c_174 => ?_)
        · have t_c_174 := z_eqF c_174
          refine lv_iconst (v := nI 0) hx hb dX11_netOf_39 (by decide +kernel) ?_
          exact t_177 (nI 0) _ _ hP hD hS _ (lv_sub hl [0, 1, 2, 3] rfl)
        · have t_c_174 := z_eqT c_174
          refine lv_aload_n hx hb dX11_netOf_30 rfl (lv_at hl 0 rfl) ?_
          refine lv_iload_n hx hb dX11_netOf_31 rfl (lv_at hl 1 rfl) ?_
          refine lv_iload_n hx hb dX11_netOf_32 rfl (lv_at hl 3 rfl) ?_
          refine z_callVi (k := 0) (As := [.int (pa0), .int (x_47)]) (rest := [.int (x_46)]) hx hb hml hown ht (mk_X11_valueOf l D q cA F _ _ _ hI (pa0) hpa0 (x_47) f_171) hw_7_6 hmX11_valueOf ⟨rfl, rfl⟩ (na := 2) rfl (by decide +kernel) (by decide) (by decide) rfl rfl hK hP hD hS hA hl.1 rfl (Nat.le_of_ble_eq_true rfl) ⟨Nat.zero_le _, Nat.zero_le _⟩ dX11_netOf_33 (fun r_180 I_180 R_180 J_180 H locs hp_180 hP hD hS _ _ => ?_)
          cases hp_180
          refine lv_goto (tgt := 40) hx hb dX11_netOf_36 (by decide) ?_
          exact t_177 (r_180) _ _ hP hD hS _ (lv_sub hl [0, 1, 2, 3] rfl)
  exact loop_48 _ (R 7 (pa0).toNatClampNeg) (nI 0) (zR_w zk_0 (by decide)) (Nat.lt_succ_self _) _ _ hP hD hS _ (lv_sub hl [2, 3, 1, 0] rfl)
set_option maxHeartbeats 4000000 in
set_option maxRecDepth 100000 in
theorem mk_X11_net (l : Launch) (D : va_G) (q : Nat → Nat) (cA : Nat → ClassId) (F : Nat → Nat → Int32) (I R : Nat → Nat → Int32) (J : Nat → Nat → Int64) (hI : mInv F (I, R, J)) (pa0 : Int32) : zMi l D vwCl (zMtys cA) 25 q (zMd q cA) yX11_net cX11_net 2 (some .int) ({ frames := 6, cells := 0, slots := 0, locals := 155 } : Room) [.ref (q 0), .int (pa0)] (I, R, J) (fun _ u => (mInv F u ∧ u.2.2 = J)) := by
  intro sz
  refine z_body (by decide +kernel) (Nat.le_of_ble_eq_true rfl) (fun p e s m below meth c ls hx hb hml hr ht hown hlocks hsz hK hP hD hS hl => ?_)
  have hA : ∀ a, s.heap.size ≤ a → zA 25 q sz a := fun a h => Or.inr (hsz ▸ h)
  have hl : lv_has ls 2 [(0, .ref (q 0)), (1, .int (pa0))] := hl
  refine lv_aload_n hx hb dX11_net_0 rfl (lv_at hl 0 rfl) ?_
  refine lv_iload_n hx hb dX11_net_1 rfl (lv_at hl 1 rfl) ?_
  refine lv_i2l (v := (pa0).toInt64) hx hb dX11_net_2 rfl ?_
  refine z_callVi (k := 0) (As := [.long ((pa0).toInt64)]) (rest := []) hx hb hml hown ht (mk_X11_isHouse l D q cA F _ _ _ hI ((pa0).toInt64) (zR_i2l (zR_any (pa0)))) hw_6_176 hmX11_isHouse ⟨rfl, rfl⟩ (na := 1) rfl (by decide +kernel) (by decide) (by decide) rfl rfl hK hP hD hS hA hl.1 rfl (Nat.le_of_ble_eq_true rfl) ⟨Nat.zero_le _, Nat.zero_le _⟩ dX11_net_3 (fun r_1 I_1 R_1 J_1 H locs hp_1 hP hD hS _ _ => ?_)
  rcases hp_1 with ⟨rfl, hu_1, f0_1⟩ | ⟨rfl, hu_1⟩
  · cases hu_1
    have f_2 : zR 0 4 (pa0) := zL_back f0_1
    refine lv_if_ne (tgt := 13) hx hb dX11_net_6 (by decide) (fun _ => ?_) (fun c_0 => absurd c_0 (zD_ne zk_1 zk_z (by decide)))
    refine lv_aload_n hx hb dX11_net_13 rfl (lv_at hl 0 rfl) ?_
    refine z_callVv (k := 0) (As := []) (rest := []) hx hb hml hown ht (mk_X11_asItIs l D q cA F _ _ _ hI ) hw_6_181 hmX11_asItIs ⟨rfl, rfl⟩ (na := 0) rfl (by decide +kernel) (by decide) (by decide) rfl rfl hK hP hD hS hA hl.1 rfl (Nat.le_of_ble_eq_true rfl) ⟨Nat.zero_le _, Nat.zero_le _⟩ dX11_net_14 (fun I_3 R_3 J_3 H locs hp_3 hP hD hS _ _ => ?_)
    obtain ⟨hv_3, hj_3, hs_3⟩ := hp_3
    try dsimp only at hj_3
    subst J_3
    refine lv_aload_n hx hb dX11_net_17 rfl (lv_at hl 0 rfl) ?_
    refine lv_iload_n hx hb dX11_net_18 rfl (lv_at hl 1 rfl) ?_
    refine z_callVi (k := 0) (As := [.int (pa0)]) (rest := []) hx hb hml hown ht (mk_X11_netOf l D q cA F _ _ _ hv_3 (pa0) f_2) hw_7_31 hmX11_netOf ⟨rfl, rfl⟩ (na := 1) rfl (by decide +kernel) (by decide) (by decide) rfl rfl hK hP hD hS hA hl.1 rfl (Nat.le_of_ble_eq_true rfl) ⟨Nat.zero_le _, Nat.zero_le _⟩ dX11_net_19 (fun r_4 I_4 R_4 J_4 H locs hp_4 hP hD hS _ _ => ?_)
    cases hp_4
    exact z_iret (v := r_4) hx hb hr hlocks hP hD hS dX11_net_22 ⟨hv_3, rfl⟩
  · cases hu_1
    refine lv_if_ne (tgt := 13) hx hb dX11_net_6 (by decide) (fun c_0 => absurd (zD_eq zk_0 zk_z) c_0) (fun _ => ?_)
    refine lv_ldcw (v := (-100000)) hx hb hown (ht _ hw_7_30) dX11_net_9 ?_
    exact z_iret (v := (-100000)) hx hb hr hlocks hP hD hS dX11_net_12 ⟨hI, rfl⟩
set_option maxHeartbeats 4000000 in
set_option maxRecDepth 100000 in
theorem mk_X11_canSteal (l : Launch) (D : va_G) (q : Nat → Nat) (cA : Nat → ClassId) (F : Nat → Nat → Int32) (I R : Nat → Nat → Int32) (J : Nat → Nat → Int64) (hI : mInv F (I, R, J)) (pa0 : Int32) (hpa0 : zR 0 4 pa0) (pa1 : Int32) (hpa1 : zR 0 5 pa1) : zMi l D vwCl (zMtys cA) 25 q (zMd q cA) yX11_canSteal cX11_canSteal 3 (some .boolean) ({ frames := 0, cells := 0, slots := 0, locals := 0 } : Room) [.ref (q 0), .int (pa0), .int (pa1)] (I, R, J) (fun r u => (r = nI 1 ∧ u = (I, R, J) ∧ zR 0 23 (I 0 26)) ∨ (r = nI 0 ∧ u = (I, R, J) ∧ True)) := by
  intro sz
  refine z_body (by decide +kernel) (Nat.le_of_ble_eq_true rfl) (fun p e s m below meth c ls hx hb hml hr ht hown hlocks hsz hK hP hD hS hl => ?_)
  have hA : ∀ a, s.heap.size ≤ a → zA 25 q sz a := fun a h => Or.inr (hsz ▸ h)
  have hl : lv_has ls 3 [(0, .ref (q 0)), (1, .int (pa0)), (2, .int (pa1))] := hl
  refine lv_aload_n hx hb dX11_canSteal_0 rfl (lv_at hl 0 rfl) ?_
  refine z_get hx hb ht hown hK hP ziX11 rfl 0 (by decide) 17 (by decide) hw_5_204 rfl (v := .ref (q 9)) rfl dX11_canSteal_1 ?_
  refine lv_iload_n hx hb dX11_canSteal_4 rfl (lv_at hl 2 rfl) ?_
  refine z_iald hx hb hK hP 9 (by decide) 8 rfl rfl (zR_vin hpa1 (by decide)) dX11_canSteal_5 ?_
  refine z_eqi (y := R 9 (pa1).toNatClampNeg) rfl ?_
  have f_1 : zR 0 4 (R 9 (pa1).toNatClampNeg) := mR hI 9 (pa1).toNatClampNeg
  refine lv_iload_n hx hb dX11_canSteal_6 rfl (lv_at hl 1 rfl) ?_
  refine lv_icmp_eq (tgt := 37) hx hb dX11_canSteal_7 (by decide) (fun c_2 => ?_) (fun c_2 => ?_)
  · have t_c_2 := z_eqT c_2
    refine lv_iconst (v := nI 0) hx hb dX11_canSteal_37 (by decide +kernel) ?_
    exact z_zret (v := nI 0) hx hb hr hlocks hP hD hS (by decide +kernel) dX11_canSteal_38 (Or.inr ⟨rfl, rfl, trivial⟩)
  · have t_c_2 := z_eqF c_2
    refine lv_aload_n hx hb dX11_canSteal_10 rfl (lv_at hl 0 rfl) ?_
    refine z_get hx hb ht hown hK hP ziX11 rfl 0 (by decide) 16 (by decide) hw_5_203 rfl (v := .ref (q 8)) rfl dX11_canSteal_11 ?_
    refine lv_aload_n hx hb dX11_canSteal_14 rfl (lv_at hl 0 rfl) ?_
    refine z_get hx hb ht hown hK hP ziX11 rfl 0 (by decide) 17 (by decide) hw_5_204 rfl (v := .ref (q 9)) rfl dX11_canSteal_15 ?_
    refine lv_iload_n hx hb dX11_canSteal_18 rfl (lv_at hl 2 rfl) ?_
    refine z_iald hx hb hK hP 9 (by decide) 8 rfl rfl (zR_vin hpa1 (by decide)) dX11_canSteal_19 ?_
    refine z_eqi (y := R 9 (pa1).toNatClampNeg) rfl ?_
    refine z_iald hx hb hK hP 8 (by decide) 7 rfl rfl (zR_vin f_1 (by decide)) dX11_canSteal_20 ?_
    refine z_eqi (y := R 8 (R 9 (pa1).toNatClampNeg).toNatClampNeg) rfl ?_
    refine lv_if_ne (tgt := 37) hx hb dX11_canSteal_21 (by decide) (fun c_3 => ?_) (fun c_3 => ?_)
    · have t_c_3 := z_eqF c_3
      refine lv_iconst (v := nI 0) hx hb dX11_canSteal_37 (by decide +kernel) ?_
      exact z_zret (v := nI 0) hx hb hr hlocks hP hD hS (by decide +kernel) dX11_canSteal_38 (Or.inr ⟨rfl, rfl, trivial⟩)
    · have t_c_3 := z_eqT c_3
      have f_4 : zR 0 0 (R 8 (R 9 (pa1).toNatClampNeg).toNatClampNeg) := zR_eqx t_c_3 zk_z
      refine lv_aload_n hx hb dX11_canSteal_24 rfl (lv_at hl 0 rfl) ?_
      refine z_get hx hb ht hown hK hP ziX11 rfl 0 (by decide) 26 (by decide) hw_5_213 rfl (v := .int (I 0 26)) rfl dX11_canSteal_25 ?_
      have f_5 : zR 0 24 (I 0 26) := mI hI 0 26
      refine lv_bipush (v := nI 24) hx hb dX11_canSteal_28 (by decide +kernel) ?_
      refine lv_icmp_ge (tgt := 37) hx hb dX11_canSteal_30 (by decide) (fun c_6 => ?_) (fun c_6 => ?_)
      · have t_c_6 := z_leT c_6
        have f_7 : zR 24 24 (I 0 26) := zR_ley t_c_6 zk_24 f_5 (by decide)
        refine lv_iconst (v := nI 0) hx hb dX11_canSteal_37 (by decide +kernel) ?_
        exact z_zret (v := nI 0) hx hb hr hlocks hP hD hS (by decide +kernel) dX11_canSteal_38 (Or.inr ⟨rfl, rfl, trivial⟩)
      · have t_c_6 := z_leF c_6
        have f_8 : zR 0 23 (I 0 26) := zR_ltx t_c_6 f_5 zk_24 (by decide)
        refine lv_iconst (v := nI 1) hx hb dX11_canSteal_33 (by decide +kernel) ?_
        refine lv_goto (tgt := 38) hx hb dX11_canSteal_34 (by decide) ?_
        exact z_zret (v := nI 1) hx hb hr hlocks hP hD hS (by decide +kernel) dX11_canSteal_38 (Or.inl ⟨rfl, rfl, f_8⟩)
set_option maxHeartbeats 4000000 in
set_option maxRecDepth 100000 in
theorem mk_X11_keepAct (l : Launch) (D : va_G) (q : Nat → Nat) (cA : Nat → ClassId) (F : Nat → Nat → Int32) (I R : Nat → Nat → Int32) (J : Nat → Nat → Int64) (hI : mInv F (I, R, J)) (pa1 : Int32) (hpa1 : zR 0 4 pa1) (pa2 : Int32) (hpa2 : zR 0 5 pa2) (pa3 : Int32) (hpa3 : zR 0 60 pa3) (hst : mSt (F 1) (F 1 6).toInt.toNat ≤ 23) : zMi l D vwCl (zMtys cA) 25 q (zMd q cA) yX11_keepAct cX11_keepAct 5 (some .boolean) ({ frames := 0, cells := 0, slots := 0, locals := 0 } : Room) [.ref (q 0), .int (nI 0), .int (pa1), .int (pa2), .int (pa3)] (I, R, J) (fun r u => (r = nI 1 ∧ ∃ w9, mInv (zr F 1 w9) u) ∨ (r = nI 0 ∧ u = (I, R, J))) := by
  intro sz
  refine z_body (by decide +kernel) (Nat.le_of_ble_eq_true rfl) (fun p e s m below meth c ls hx hb hml hr ht hown hlocks hsz hK hP hD hS hl => ?_)
  have hA : ∀ a, s.heap.size ≤ a → zA 25 q sz a := fun a h => Or.inr (hsz ▸ h)
  have hl : lv_has ls 5 [(0, .ref (q 0)), (1, .int (nI 0)), (2, .int (pa1)), (3, .int (pa2)), (4, .int (pa3))] := hl
  refine lv_aload_n hx hb dX11_keepAct_0 rfl (lv_at hl 0 rfl) ?_
  refine z_get hx hb ht hown hK hP ziX11 rfl 0 (by decide) 1 (by decide) hw_5_188 rfl (v := .ref (q 1)) rfl dX11_keepAct_1 ?_
  refine lv_bipush (v := nI 6) hx hb dX11_keepAct_4 (by decide +kernel) ?_
  refine z_iald hx hb hK hP 1 (by decide) 0 rfl rfl (zR_vin zk_6 (by decide)) dX11_keepAct_6 ?_
  refine z_eqi (y := R 1 (nI 6).toNatClampNeg) rfl ?_
  have f_1 : zR 0 60 (R 1 (nI 6).toNatClampNeg) := mR hI 1 6
  refine lv_bipush (v := nI 60) hx hb dX11_keepAct_7 (by decide +kernel) ?_
  refine lv_icmp_ne (tgt := 14) hx hb dX11_keepAct_9 (by decide) (fun c_2 => ?_) (fun c_2 => ?_)
  · have t_c_2 := z_eqF c_2
    have f_3 : zR 0 59 (R 1 (nI 6).toNatClampNeg) := zR_nex t_c_2 f_1 zk_60 (by decide)
    refine lv_aload_n hx hb dX11_keepAct_14 rfl (lv_at hl 0 rfl) ?_
    refine z_get hx hb ht hown hK hP ziX11 rfl 0 (by decide) 1 (by decide) hw_5_188 rfl (v := .ref (q 1)) rfl dX11_keepAct_15 ?_
    refine lv_bipush (v := nI 59) hx hb dX11_keepAct_18 (by decide +kernel) ?_
    refine lv_aload_n hx hb dX11_keepAct_20 rfl (lv_at hl 0 rfl) ?_
    refine z_get hx hb ht hown hK hP ziX11 rfl 0 (by decide) 1 (by decide) hw_5_188 rfl (v := .ref (q 1)) rfl dX11_keepAct_21 ?_
    refine lv_bipush (v := nI 6) hx hb dX11_keepAct_24 (by decide +kernel) ?_
    refine z_iald hx hb hK hP 1 (by decide) 0 rfl rfl (zR_vin zk_6 (by decide)) dX11_keepAct_26 ?_
    refine z_eqi (y := R 1 (nI 6).toNatClampNeg) rfl ?_
    refine lv_iadd hx hb dX11_keepAct_27 ?_
    refine z_cadd 59 118 zk_59 f_3 (by decide) (fun v_4 hv_4 mv_4 => ?_)
    refine lv_ldc (v := nI 1000000) hx hb hown (ht _ hw_6_189) dX11_keepAct_28 ?_
    refine lv_iload_n hx hb dX11_keepAct_30 rfl (lv_at hl 1 rfl) ?_
    refine lv_imul hx hb dX11_keepAct_31 ?_
    refine z_eqi (y := nI 0) (by decide +kernel) ?_
    refine lv_sipush (v := nI 10000) hx hb dX11_keepAct_32 (by decide +kernel) ?_
    refine lv_iload_n hx hb dX11_keepAct_35 rfl (lv_at hl 2 rfl) ?_
    refine lv_imul hx hb dX11_keepAct_36 ?_
    refine lv_topi (fun v_5 ev_5 => ?_)
    have hv_5 : zR 0 40000 v_5 := ev_5 ▸ zR_mul zk_10000 hpa1 (by decide)
    refine lv_iadd hx hb dX11_keepAct_37 ?_
    refine z_cadd 0 40000 zk_0 hv_5 (by decide) (fun v_6 hv_6 mv_6 => ?_)
    refine lv_bipush (v := nI 100) hx hb dX11_keepAct_38 (by decide +kernel) ?_
    refine lv_iload_n hx hb dX11_keepAct_40 rfl (lv_at hl 3 rfl) ?_
    refine lv_imul hx hb dX11_keepAct_41 ?_
    refine lv_topi (fun v_7 ev_7 => ?_)
    have hv_7 : zR 0 500 v_7 := ev_7 ▸ zR_mul zk_100 hpa2 (by decide)
    refine lv_iadd hx hb dX11_keepAct_42 ?_
    refine lv_topi (fun v_8 ev_8 => ?_)
    have hv_8 : zR 0 40500 v_8 := ev_8 ▸ zR_add hv_6 hv_7 (by decide)
    refine lv_iload hx hb dX11_keepAct_43 (lv_at hl 4 rfl) ?_
    refine lv_iadd hx hb dX11_keepAct_45 ?_
    refine lv_topi (fun v_9 ev_9 => ?_)
    have hv_9 : zR 0 40560 v_9 := ev_9 ▸ zR_add hv_8 hpa3 (by decide)
    refine z_iast hx hb hK hP hD hS 1 (by decide) 0 (fun _ => rfl) rfl (zR_vin hv_4 (by decide)) dX11_keepAct_46 (fun H locs hP hD hS => ?_)
    refine lv_aload_n hx hb dX11_keepAct_47 rfl (lv_at hl 0 rfl) ?_
    refine z_get hx hb ht hown hK hP ziX11 rfl 0 (by decide) 1 (by decide) hw_5_188 rfl (v := .ref (q 1)) rfl dX11_keepAct_48 ?_
    refine lv_bipush (v := nI 6) hx hb dX11_keepAct_51 (by decide +kernel) ?_
    refine lv_dup2_11 hx hb dX11_keepAct_53 rfl rfl ?_
    refine z_iald hx hb hK hP 1 (by decide) 0 rfl rfl (zR_vin zk_6 (by decide)) dX11_keepAct_54 ?_
    refine z_eqi (y := R 1 (nI 6).toNatClampNeg) (mKeep_old hI mv_4) ?_
    refine lv_iconst (v := nI 1) hx hb dX11_keepAct_55 (by decide +kernel) ?_
    refine lv_iadd hx hb dX11_keepAct_56 ?_
    refine z_addc 1 60 f_3 zk_1 (by decide) (fun v_10 hv_10 mv_10 => ?_)
    refine z_iast hx hb hK hP hD hS 1 (by decide) 0 (fun _ => rfl) rfl (zR_vin zk_6 (by decide)) dX11_keepAct_57 (fun H locs hP hD hS => ?_)
    have e1_12 : (v_5).toInt = 10000 * (pa1).toInt := m_mulc zk_10000 hpa1 (by decide) ev_5
    have e2_12 : (v_7).toInt = 100 * (pa2).toInt := m_mulc zk_100 hpa2 (by decide) ev_7
    have e3_12 : (v_8).toInt = (v_6).toInt + (v_7).toInt := m_addv hv_6 hv_7 (by decide) ev_8
    have e4_12 : (v_9).toInt = (v_8).toInt + (pa3).toInt := m_addv hv_8 hpa3 (by decide) ev_9
    have ha_12 := mAct_of (v := v_9) (a := pa1) (b := pa2) (c := pa3) (k := 0) (by have _ := mv_6; omega) (by decide) (zR_w hpa1 (by decide)) hpa2 hpa3 (fun h9 => by obtain ⟨_, _⟩ := hpa1; obtain ⟨_, _⟩ := hpa2; obtain ⟨_, _⟩ := hpa3; omega) (fun h9 => by obtain ⟨_, _⟩ := hpa1; obtain ⟨_, _⟩ := hpa2; obtain ⟨_, _⟩ := hpa3; omega) (fun h9 => by obtain ⟨_, _⟩ := hpa1; obtain ⟨_, _⟩ := hpa2; obtain ⟨_, _⟩ := hpa3; omega)
    have hI_11 := mInv_keep hI (fun h9 => t_c_2 (h9.trans (by decide +kernel))) mv_4 mv_10 ha_12.1 (fun h9 => (by rw [mFr hI 1 rfl]; exact hst))
    refine lv_iconst (v := nI 1) hx hb dX11_keepAct_58 (by decide +kernel) ?_
    exact z_zret (v := nI 1) hx hb hr hlocks hP hD hS (by decide +kernel) dX11_keepAct_59 (Or.inl ⟨rfl, ⟨_, hI_11⟩⟩)
  · have t_c_2 := z_eqT c_2
    have f_13 : zR 60 60 (R 1 (nI 6).toNatClampNeg) := zR_eqx t_c_2 zk_60
    refine lv_iconst (v := nI 0) hx hb dX11_keepAct_12 (by decide +kernel) ?_
    exact z_zret (v := nI 0) hx hb hr hlocks hP hD hS (by decide +kernel) dX11_keepAct_13 (Or.inr ⟨rfl, rfl⟩)
set_option maxHeartbeats 4000000 in
set_option maxRecDepth 100000 in
theorem mk_X11_steal (l : Launch) (D : va_G) (q : Nat → Nat) (cA : Nat → ClassId) (F : Nat → Nat → Int32) (I R : Nat → Nat → Int32) (J : Nat → Nat → Int64) (hI : mInv F (I, R, J)) (pa0 : Int32) (pa1 : Int32) (pa2 : Int32) : zMi l D vwCl (zMtys cA) 25 q (zMd q cA) yX11_steal cX11_steal 4 (some .int) ({ frames := 6, cells := 0, slots := 0, locals := 155 } : Room) [.ref (q 0), .int (pa0), .int (pa1), .int (pa2)] (I, R, J) (fun r u => zR (-5) 24 r ∧ ∃ w9, mInv (zr F 1 w9) u) := by
  intro sz
  refine z_body (by decide +kernel) (Nat.le_of_ble_eq_true rfl) (fun p e s m below meth c ls hx hb hml hr ht hown hlocks hsz hK hP hD hS hl => ?_)
  have hA : ∀ a, s.heap.size ≤ a → zA 25 q sz a := fun a h => Or.inr (hsz ▸ h)
  have hl : lv_has ls 4 [(0, .ref (q 0)), (1, .int (pa0)), (2, .int (pa1)), (3, .int (pa2))] := hl
  refine lv_aload_n hx hb dX11_steal_0 rfl (lv_at hl 0 rfl) ?_
  refine lv_iload_n hx hb dX11_steal_1 rfl (lv_at hl 1 rfl) ?_
  refine lv_i2l (v := (pa0).toInt64) hx hb dX11_steal_2 rfl ?_
  refine z_callVi (k := 0) (As := [.long ((pa0).toInt64)]) (rest := []) hx hb hml hown ht (mk_X11_isHouse l D q cA F _ _ _ hI ((pa0).toInt64) (zR_i2l (zR_any (pa0)))) hw_6_176 hmX11_isHouse ⟨rfl, rfl⟩ (na := 1) rfl (by decide +kernel) (by decide) (by decide) rfl rfl hK hP hD hS hA hl.1 rfl (Nat.le_of_ble_eq_true rfl) ⟨Nat.zero_le _, Nat.zero_le _⟩ dX11_steal_3 (fun r_1 I_1 R_1 J_1 H locs hp_1 hP hD hS _ _ => ?_)
  rcases hp_1 with ⟨rfl, hu_1, f0_1⟩ | ⟨rfl, hu_1⟩
  · cases hu_1
    have f_2 : zR 0 4 (pa0) := zL_back f0_1
    refine lv_if_eq (tgt := 30) hx hb dX11_steal_6 (by decide) (fun c_0 => absurd c_0 (zD_ne zk_1 zk_z (by decide))) (fun _ => ?_)
    refine lv_aload_n hx hb dX11_steal_9 rfl (lv_at hl 0 rfl) ?_
    refine lv_iload_n hx hb dX11_steal_10 rfl (lv_at hl 2 rfl) ?_
    refine lv_i2l (v := (pa1).toInt64) hx hb dX11_steal_11 rfl ?_
    refine z_callVi (k := 0) (As := [.long ((pa1).toInt64)]) (rest := []) hx hb hml hown ht (mk_X11_isThing l D q cA F _ _ _ hI ((pa1).toInt64) (zR_i2l (zR_any (pa1)))) hw_6_238 hmX11_isThing ⟨rfl, rfl⟩ (na := 1) rfl (by decide +kernel) (by decide) (by decide) rfl rfl hK hP hD hS hA hl.1 rfl (Nat.le_of_ble_eq_true rfl) ⟨Nat.zero_le _, Nat.zero_le _⟩ dX11_steal_12 (fun r_3 I_3 R_3 J_3 H locs hp_3 hP hD hS _ _ => ?_)
    rcases hp_3 with ⟨rfl, hu_3, f0_3⟩ | ⟨rfl, hu_3⟩
    · cases hu_3
      have f_4 : zR 0 5 (pa1) := zL_back f0_3
      refine lv_if_eq (tgt := 30) hx hb dX11_steal_15 (by decide) (fun c_0 => absurd c_0 (zD_ne zk_1 zk_z (by decide))) (fun _ => ?_)
      refine lv_iload_n hx hb dX11_steal_18 rfl (lv_at hl 3 rfl) ?_
      refine lv_i2l (v := (pa2).toInt64) hx hb dX11_steal_19 rfl ?_
      refine lv_lconst (v := (1 : Int64)) hx hb dX11_steal_20 (by decide +kernel) ?_
      refine lv_ldc2 (v := (60 : Int64)) hx hb hown (ht _ hw_7_39) dX11_steal_21 ?_
      refine z_callSi (As := [.long ((pa2).toInt64), .long ((1 : Int64)), .long ((60 : Int64))]) (rest := []) hx hb hml hown ht (mk_X11_in l D q cA F _ _ _ hI ((pa2).toInt64) ((1 : Int64)) ((60 : Int64))) hw_6_86 hmX11_in ⟨rfl, rfl⟩ (na := 3) rfl (by decide +kernel) (by decide) hK hP hD hS hA hl.1 rfl (Nat.le_of_ble_eq_true rfl) ⟨Nat.zero_le _, Nat.zero_le _⟩ dX11_steal_24 (fun r_5 I_5 R_5 J_5 H locs hp_5 hP hD hS _ _ => ?_)
      rcases hp_5 with ⟨rfl, hu_5, h1_5, h2_5⟩ | ⟨rfl, hu_5, h1_5 | h2_5⟩
      · cases hu_5
        have f_6 : zL 1 2147483647 ((pa2).toInt64) := zL_ley h1_5 zkl_1 (zR_i2l (zR_any (pa2))) (by decide)
        have f_7 : zR 1 2147483647 (pa2) := zL_back f_6
        have f_8 : zL 1 60 ((pa2).toInt64) := zL_lex h2_5 f_6 zkl_60 (by decide)
        have f_9 : zR 1 60 (pa2) := zL_back f_8
        refine lv_if_ne (tgt := 33) hx hb dX11_steal_27 (by decide) (fun _ => ?_) (fun c_0 => absurd c_0 (zD_ne zk_1 zk_z (by decide)))
        refine lv_aload_n hx hb dX11_steal_33 rfl (lv_at hl 0 rfl) ?_
        refine z_callVv (k := 0) (As := []) (rest := []) hx hb hml hown ht (mk_X11_asItIs l D q cA F _ _ _ hI ) hw_6_181 hmX11_asItIs ⟨rfl, rfl⟩ (na := 0) rfl (by decide +kernel) (by decide) (by decide) rfl rfl hK hP hD hS hA hl.1 rfl (Nat.le_of_ble_eq_true rfl) ⟨Nat.zero_le _, Nat.zero_le _⟩ dX11_steal_34 (fun I_10 R_10 J_10 H locs hp_10 hP hD hS _ _ => ?_)
        obtain ⟨hv_10, hj_10, hs_10⟩ := hp_10
        try dsimp only at hj_10
        subst J_10
        refine lv_aload_n hx hb dX11_steal_37 rfl (lv_at hl 0 rfl) ?_
        refine lv_iload_n hx hb dX11_steal_38 rfl (lv_at hl 1 rfl) ?_
        refine lv_iload_n hx hb dX11_steal_39 rfl (lv_at hl 2 rfl) ?_
        refine z_callVi (k := 0) (As := [.int (pa0), .int (pa1)]) (rest := []) hx hb hml hown ht (mk_X11_canSteal l D q cA F _ _ _ hv_10 (pa0) f_2 (pa1) f_4) hw_7_40 hmX11_canSteal ⟨rfl, rfl⟩ (na := 2) rfl (by decide +kernel) (by decide) (by decide) rfl rfl hK hP hD hS hA hl.1 rfl (Nat.le_of_ble_eq_true rfl) ⟨Nat.zero_le _, Nat.zero_le _⟩ dX11_steal_40 (fun r_11 I_11 R_11 J_11 H locs hp_11 hP hD hS _ _ => ?_)
        rcases hp_11 with ⟨rfl, hu_11, nn_11⟩ | ⟨rfl, hu_11, nn_11⟩
        · cases hu_11
          refine lv_if_eq (tgt := 72) hx hb dX11_steal_43 (by decide) (fun c_0 => absurd c_0 (zD_ne zk_1 zk_z (by decide))) (fun _ => ?_)
          refine lv_iload_n hx hb dX11_steal_46 rfl (lv_at hl 3 rfl) ?_
          refine lv_aload_n hx hb dX11_steal_47 rfl (lv_at hl 0 rfl) ?_
          refine z_get hx hb ht hown hK hP ziX11 rfl 0 (by decide) 27 (by decide) hw_5_214 rfl (v := .int (I_10 0 27)) rfl dX11_steal_48 ?_
          refine lv_icmp_le (tgt := 72) hx hb dX11_steal_51 (by decide) (fun c_12 => ?_) (fun c_12 => ?_)
          · have t_c_12 := z_leT c_12
            have f_13 : zR 1 2147483647 (I_10 0 27) := zR_ley t_c_12 f_9 (zR_any (I_10 0 27)) (by decide)
            refine lv_bipush (v := (-5)) hx hb dX11_steal_72 (by decide +kernel) ?_
            exact z_iret (v := (-5)) hx hb hr hlocks hP hD hS dX11_steal_74 ⟨(zR_w zk_m5 (by decide)), ⟨_, mInv_E hv_10⟩⟩
          · have t_c_12 := z_leF c_12
            have f_14 : zR (-2147483648) 59 (I_10 0 27) := zR_ltx t_c_12 (zR_any (I_10 0 27)) f_9 (by decide)
            refine lv_aload_n hx hb dX11_steal_54 rfl (lv_at hl 0 rfl) ?_
            refine lv_iconst (v := nI 0) hx hb dX11_steal_55 (by decide +kernel) ?_
            refine lv_iload_n hx hb dX11_steal_56 rfl (lv_at hl 1 rfl) ?_
            refine lv_iload_n hx hb dX11_steal_57 rfl (lv_at hl 2 rfl) ?_
            refine lv_iload_n hx hb dX11_steal_58 rfl (lv_at hl 3 rfl) ?_
            refine z_callVi (k := 0) (As := [.int (nI 0), .int (pa0), .int (pa1), .int (pa2)]) (rest := []) hx hb hml hown ht (mk_X11_keepAct l D q cA F _ _ _ hv_10 (pa0) f_2 (pa1) f_4 (pa2) (zR_w f_9 (by decide)) (m_st23 hs_10 nn_11)) hw_7_44 hmX11_keepAct ⟨rfl, rfl⟩ (na := 4) rfl (by decide +kernel) (by decide) (by decide) rfl rfl hK hP hD hS hA hl.1 rfl (Nat.le_of_ble_eq_true rfl) ⟨Nat.zero_le _, Nat.zero_le _⟩ dX11_steal_59 (fun r_15 I_15 R_15 J_15 H locs hp_15 hP hD hS _ _ => ?_)
            rcases hp_15 with ⟨rfl, hu_15⟩ | ⟨rfl, hu_15⟩
            · obtain ⟨w_15, hv_15⟩ := hu_15
              refine lv_if_eq (tgt := 72) hx hb dX11_steal_62 (by decide) (fun c_0 => absurd c_0 (zD_ne zk_1 zk_z (by decide))) (fun _ => ?_)
              refine lv_aload_n hx hb dX11_steal_65 rfl (lv_at hl 0 rfl) ?_
              refine z_get hx hb ht hown hK hP ziX11 rfl 0 (by decide) 26 (by decide) hw_5_213 rfl (v := .int (I_15 0 26)) rfl dX11_steal_66 ?_
              have f_16 : zR 0 24 (I_15 0 26) := mI hv_15 0 26
              refine lv_goto (tgt := 74) hx hb dX11_steal_69 (by decide) ?_
              exact z_iret (v := I_15 0 26) hx hb hr hlocks hP hD hS dX11_steal_74 ⟨(zR_w f_16 (by decide)), ⟨_, hv_15⟩⟩
            · cases hu_15
              refine lv_if_eq (tgt := 72) hx hb dX11_steal_62 (by decide) (fun _ => ?_) (fun c_0 => absurd (zD_eq zk_0 zk_z) c_0)
              refine lv_bipush (v := (-5)) hx hb dX11_steal_72 (by decide +kernel) ?_
              exact z_iret (v := (-5)) hx hb hr hlocks hP hD hS dX11_steal_74 ⟨(zR_w zk_m5 (by decide)), ⟨_, mInv_E hv_10⟩⟩
        · cases hu_11
          refine lv_if_eq (tgt := 72) hx hb dX11_steal_43 (by decide) (fun _ => ?_) (fun c_0 => absurd (zD_eq zk_0 zk_z) c_0)
          refine lv_bipush (v := (-5)) hx hb dX11_steal_72 (by decide +kernel) ?_
          exact z_iret (v := (-5)) hx hb hr hlocks hP hD hS dX11_steal_74 ⟨(zR_w zk_m5 (by decide)), ⟨_, mInv_E hv_10⟩⟩
      · cases hu_5
        have f_17 : zL (-2147483648) 0 ((pa2).toInt64) := zL_ltx h1_5 (zR_i2l (zR_any (pa2))) zkl_1 (by decide)
        have f_18 : zR (-2147483648) 0 (pa2) := zL_back f_17
        refine lv_if_ne (tgt := 33) hx hb dX11_steal_27 (by decide) (fun c_0 => absurd (zD_eq zk_0 zk_z) c_0) (fun _ => ?_)
        refine lv_bipush (v := (-2)) hx hb dX11_steal_30 (by decide +kernel) ?_
        exact z_iret (v := (-2)) hx hb hr hlocks hP hD hS dX11_steal_32 ⟨(zR_w zk_m2 (by decide)), ⟨_, mInv_E hI⟩⟩
      · cases hu_5
        have f_19 : zL 61 2147483647 ((pa2).toInt64) := zL_lty h2_5 zkl_60 (zR_i2l (zR_any (pa2))) (by decide)
        have f_20 : zR 61 2147483647 (pa2) := zL_back f_19
        refine lv_if_ne (tgt := 33) hx hb dX11_steal_27 (by decide) (fun c_0 => absurd (zD_eq zk_0 zk_z) c_0) (fun _ => ?_)
        refine lv_bipush (v := (-2)) hx hb dX11_steal_30 (by decide +kernel) ?_
        exact z_iret (v := (-2)) hx hb hr hlocks hP hD hS dX11_steal_32 ⟨(zR_w zk_m2 (by decide)), ⟨_, mInv_E hI⟩⟩
    · cases hu_3
      refine lv_if_eq (tgt := 30) hx hb dX11_steal_15 (by decide) (fun _ => ?_) (fun c_0 => absurd (zD_eq zk_0 zk_z) c_0)
      refine lv_bipush (v := (-2)) hx hb dX11_steal_30 (by decide +kernel) ?_
      exact z_iret (v := (-2)) hx hb hr hlocks hP hD hS dX11_steal_32 ⟨(zR_w zk_m2 (by decide)), ⟨_, mInv_E hI⟩⟩
  · cases hu_1
    refine lv_if_eq (tgt := 30) hx hb dX11_steal_6 (by decide) (fun _ => ?_) (fun c_0 => absurd (zD_eq zk_0 zk_z) c_0)
    refine lv_bipush (v := (-2)) hx hb dX11_steal_30 (by decide +kernel) ?_
    exact z_iret (v := (-2)) hx hb hr hlocks hP hD hS dX11_steal_32 ⟨(zR_w zk_m2 (by decide)), ⟨_, mInv_E hI⟩⟩
set_option maxHeartbeats 4000000 in
set_option maxRecDepth 100000 in
theorem mk_X11_keepAct_1 (l : Launch) (D : va_G) (q : Nat → Nat) (cA : Nat → ClassId) (F : Nat → Nat → Int32) (I R : Nat → Nat → Int32) (J : Nat → Nat → Int64) (hI : mInv F (I, R, J)) (pa1 : Int32) (hpa1 : zR 0 23 pa1) (pa2 : Int32) (hpa2 : zR 0 4 pa2) (pa3 : Int32) (hpa3 : zR 0 1 pa3) : zMi l D vwCl (zMtys cA) 25 q (zMd q cA) yX11_keepAct cX11_keepAct 5 (some .boolean) ({ frames := 0, cells := 0, slots := 0, locals := 0 } : Room) [.ref (q 0), .int (nI 1), .int (pa1), .int (pa2), .int (pa3)] (I, R, J) (fun r u => (r = nI 1 ∧ ∃ w9, mInv (zr F 1 w9) u) ∨ (r = nI 0 ∧ u = (I, R, J))) := by
  intro sz
  refine z_body (by decide +kernel) (Nat.le_of_ble_eq_true rfl) (fun p e s m below meth c ls hx hb hml hr ht hown hlocks hsz hK hP hD hS hl => ?_)
  have hA : ∀ a, s.heap.size ≤ a → zA 25 q sz a := fun a h => Or.inr (hsz ▸ h)
  have hl : lv_has ls 5 [(0, .ref (q 0)), (1, .int (nI 1)), (2, .int (pa1)), (3, .int (pa2)), (4, .int (pa3))] := hl
  refine lv_aload_n hx hb dX11_keepAct_0 rfl (lv_at hl 0 rfl) ?_
  refine z_get hx hb ht hown hK hP ziX11 rfl 0 (by decide) 1 (by decide) hw_5_188 rfl (v := .ref (q 1)) rfl dX11_keepAct_1 ?_
  refine lv_bipush (v := nI 6) hx hb dX11_keepAct_4 (by decide +kernel) ?_
  refine z_iald hx hb hK hP 1 (by decide) 0 rfl rfl (zR_vin zk_6 (by decide)) dX11_keepAct_6 ?_
  refine z_eqi (y := R 1 (nI 6).toNatClampNeg) rfl ?_
  have f_1 : zR 0 60 (R 1 (nI 6).toNatClampNeg) := mR hI 1 6
  refine lv_bipush (v := nI 60) hx hb dX11_keepAct_7 (by decide +kernel) ?_
  refine lv_icmp_ne (tgt := 14) hx hb dX11_keepAct_9 (by decide) (fun c_2 => ?_) (fun c_2 => ?_)
  · have t_c_2 := z_eqF c_2
    have f_3 : zR 0 59 (R 1 (nI 6).toNatClampNeg) := zR_nex t_c_2 f_1 zk_60 (by decide)
    refine lv_aload_n hx hb dX11_keepAct_14 rfl (lv_at hl 0 rfl) ?_
    refine z_get hx hb ht hown hK hP ziX11 rfl 0 (by decide) 1 (by decide) hw_5_188 rfl (v := .ref (q 1)) rfl dX11_keepAct_15 ?_
    refine lv_bipush (v := nI 59) hx hb dX11_keepAct_18 (by decide +kernel) ?_
    refine lv_aload_n hx hb dX11_keepAct_20 rfl (lv_at hl 0 rfl) ?_
    refine z_get hx hb ht hown hK hP ziX11 rfl 0 (by decide) 1 (by decide) hw_5_188 rfl (v := .ref (q 1)) rfl dX11_keepAct_21 ?_
    refine lv_bipush (v := nI 6) hx hb dX11_keepAct_24 (by decide +kernel) ?_
    refine z_iald hx hb hK hP 1 (by decide) 0 rfl rfl (zR_vin zk_6 (by decide)) dX11_keepAct_26 ?_
    refine z_eqi (y := R 1 (nI 6).toNatClampNeg) rfl ?_
    refine lv_iadd hx hb dX11_keepAct_27 ?_
    refine z_cadd 59 118 zk_59 f_3 (by decide) (fun v_4 hv_4 mv_4 => ?_)
    refine lv_ldc (v := nI 1000000) hx hb hown (ht _ hw_6_189) dX11_keepAct_28 ?_
    refine lv_iload_n hx hb dX11_keepAct_30 rfl (lv_at hl 1 rfl) ?_
    refine lv_imul hx hb dX11_keepAct_31 ?_
    refine z_eqi (y := nI 1000000) (by decide +kernel) ?_
    refine lv_sipush (v := nI 10000) hx hb dX11_keepAct_32 (by decide +kernel) ?_
    refine lv_iload_n hx hb dX11_keepAct_35 rfl (lv_at hl 2 rfl) ?_
    refine lv_imul hx hb dX11_keepAct_36 ?_
    refine lv_topi (fun v_5 ev_5 => ?_)
    have hv_5 : zR 0 230000 v_5 := ev_5 ▸ zR_mul zk_10000 hpa1 (by decide)
    refine lv_iadd hx hb dX11_keepAct_37 ?_
    refine z_cadd 1000000 1230000 zk_1000000 hv_5 (by decide) (fun v_6 hv_6 mv_6 => ?_)
    refine lv_bipush (v := nI 100) hx hb dX11_keepAct_38 (by decide +kernel) ?_
    refine lv_iload_n hx hb dX11_keepAct_40 rfl (lv_at hl 3 rfl) ?_
    refine lv_imul hx hb dX11_keepAct_41 ?_
    refine lv_topi (fun v_7 ev_7 => ?_)
    have hv_7 : zR 0 400 v_7 := ev_7 ▸ zR_mul zk_100 hpa2 (by decide)
    refine lv_iadd hx hb dX11_keepAct_42 ?_
    refine lv_topi (fun v_8 ev_8 => ?_)
    have hv_8 : zR 1000000 1230400 v_8 := ev_8 ▸ zR_add hv_6 hv_7 (by decide)
    refine lv_iload hx hb dX11_keepAct_43 (lv_at hl 4 rfl) ?_
    refine lv_iadd hx hb dX11_keepAct_45 ?_
    refine lv_topi (fun v_9 ev_9 => ?_)
    have hv_9 : zR 1000000 1230401 v_9 := ev_9 ▸ zR_add hv_8 hpa3 (by decide)
    refine z_iast hx hb hK hP hD hS 1 (by decide) 0 (fun _ => rfl) rfl (zR_vin hv_4 (by decide)) dX11_keepAct_46 (fun H locs hP hD hS => ?_)
    refine lv_aload_n hx hb dX11_keepAct_47 rfl (lv_at hl 0 rfl) ?_
    refine z_get hx hb ht hown hK hP ziX11 rfl 0 (by decide) 1 (by decide) hw_5_188 rfl (v := .ref (q 1)) rfl dX11_keepAct_48 ?_
    refine lv_bipush (v := nI 6) hx hb dX11_keepAct_51 (by decide +kernel) ?_
    refine lv_dup2_11 hx hb dX11_keepAct_53 rfl rfl ?_
    refine z_iald hx hb hK hP 1 (by decide) 0 rfl rfl (zR_vin zk_6 (by decide)) dX11_keepAct_54 ?_
    refine z_eqi (y := R 1 (nI 6).toNatClampNeg) (mKeep_old hI mv_4) ?_
    refine lv_iconst (v := nI 1) hx hb dX11_keepAct_55 (by decide +kernel) ?_
    refine lv_iadd hx hb dX11_keepAct_56 ?_
    refine z_addc 1 60 f_3 zk_1 (by decide) (fun v_10 hv_10 mv_10 => ?_)
    refine z_iast hx hb hK hP hD hS 1 (by decide) 0 (fun _ => rfl) rfl (zR_vin zk_6 (by decide)) dX11_keepAct_57 (fun H locs hP hD hS => ?_)
    have e1_12 : (v_5).toInt = 10000 * (pa1).toInt := m_mulc zk_10000 hpa1 (by decide) ev_5
    have e2_12 : (v_7).toInt = 100 * (pa2).toInt := m_mulc zk_100 hpa2 (by decide) ev_7
    have e3_12 : (v_8).toInt = (v_6).toInt + (v_7).toInt := m_addv hv_6 hv_7 (by decide) ev_8
    have e4_12 : (v_9).toInt = (v_8).toInt + (pa3).toInt := m_addv hv_8 hpa3 (by decide) ev_9
    have ha_12 := mAct_of (v := v_9) (a := pa1) (b := pa2) (c := pa3) (k := 1) (by have _ := mv_6; omega) (by decide) hpa1 (zR_w hpa2 (by decide)) (zR_w hpa3 (by decide)) (fun h9 => by obtain ⟨_, _⟩ := hpa1; obtain ⟨_, _⟩ := hpa2; obtain ⟨_, _⟩ := hpa3; omega) (fun h9 => by obtain ⟨_, _⟩ := hpa1; obtain ⟨_, _⟩ := hpa2; obtain ⟨_, _⟩ := hpa3; omega) (fun h9 => by obtain ⟨_, _⟩ := hpa1; obtain ⟨_, _⟩ := hpa2; obtain ⟨_, _⟩ := hpa3; omega)
    have hI_11 := mInv_keep hI (fun h9 => t_c_2 (h9.trans (by decide +kernel))) mv_4 mv_10 ha_12.1 (fun h9 => absurd (ha_12.2.symm.trans h9) (by decide))
    refine lv_iconst (v := nI 1) hx hb dX11_keepAct_58 (by decide +kernel) ?_
    exact z_zret (v := nI 1) hx hb hr hlocks hP hD hS (by decide +kernel) dX11_keepAct_59 (Or.inl ⟨rfl, ⟨_, hI_11⟩⟩)
  · have t_c_2 := z_eqT c_2
    have f_13 : zR 60 60 (R 1 (nI 6).toNatClampNeg) := zR_eqx t_c_2 zk_60
    refine lv_iconst (v := nI 0) hx hb dX11_keepAct_12 (by decide +kernel) ?_
    exact z_zret (v := nI 0) hx hb hr hlocks hP hD hS (by decide +kernel) dX11_keepAct_13 (Or.inr ⟨rfl, rfl⟩)
set_option maxHeartbeats 4000000 in
set_option maxRecDepth 100000 in
theorem mk_X11_sell (l : Launch) (D : va_G) (q : Nat → Nat) (cA : Nat → ClassId) (F : Nat → Nat → Int32) (I R : Nat → Nat → Int32) (J : Nat → Nat → Int64) (hI : mInv F (I, R, J)) (pa0 : Int32) (pa1 : Int32) : zMi l D vwCl (zMtys cA) 25 q (zMd q cA) yX11_sell cX11_sell 3 (some .int) ({ frames := 7, cells := 0, slots := 0, locals := 176 } : Room) [.ref (q 0), .int (pa0), .int (pa1)] (I, R, J) (fun _ u => ∃ w9, mInv (zr F 1 w9) u) := by
  intro sz
  refine z_body (by decide +kernel) (Nat.le_of_ble_eq_true rfl) (fun p e s m below meth c ls hx hb hml hr ht hown hlocks hsz hK hP hD hS hl => ?_)
  have hA : ∀ a, s.heap.size ≤ a → zA 25 q sz a := fun a h => Or.inr (hsz ▸ h)
  have hl : lv_has ls 3 [(0, .ref (q 0)), (1, .int (pa0)), (2, .int (pa1))] := hl
  refine lv_aload_n hx hb dX11_sell_0 rfl (lv_at hl 0 rfl) ?_
  refine lv_iload_n hx hb dX11_sell_1 rfl (lv_at hl 1 rfl) ?_
  refine z_callVi (k := 0) (As := [.int (pa0)]) (rest := []) hx hb hml hown ht (mk_X11_isPaper l D q cA F _ _ _ hI (pa0)) hw_7_18 hmX11_isPaper ⟨rfl, rfl⟩ (na := 1) rfl (by decide +kernel) (by decide) (by decide) rfl rfl hK hP hD hS hA hl.1 rfl (Nat.le_of_ble_eq_true rfl) ⟨Nat.zero_le _, Nat.zero_le _⟩ dX11_sell_2 (fun r_1 I_1 R_1 J_1 H locs hp_1 hP hD hS _ _ => ?_)
  rcases hp_1 with ⟨rfl, hu_1, f0_1⟩ | ⟨rfl, hu_1⟩
  · obtain ⟨hv_1, hj_1⟩ := hu_1
    try dsimp only at hj_1
    subst J_1
    refine lv_if_eq (tgt := 17) hx hb dX11_sell_5 (by decide) (fun c_0 => absurd c_0 (zD_ne zk_1 zk_z (by decide))) (fun _ => ?_)
    refine lv_aload_n hx hb dX11_sell_8 rfl (lv_at hl 0 rfl) ?_
    refine lv_iload_n hx hb dX11_sell_9 rfl (lv_at hl 2 rfl) ?_
    refine lv_i2l (v := (pa1).toInt64) hx hb dX11_sell_10 rfl ?_
    refine z_callVi (k := 0) (As := [.long ((pa1).toInt64)]) (rest := []) hx hb hml hown ht (mk_X11_isHouse l D q cA F _ _ _ hv_1 ((pa1).toInt64) (zR_i2l (zR_any (pa1)))) hw_6_176 hmX11_isHouse ⟨rfl, rfl⟩ (na := 1) rfl (by decide +kernel) (by decide) (by decide) rfl rfl hK hP hD hS hA hl.1 rfl (Nat.le_of_ble_eq_true rfl) ⟨Nat.zero_le _, Nat.zero_le _⟩ dX11_sell_11 (fun r_2 I_2 R_2 J_2 H locs hp_2 hP hD hS _ _ => ?_)
    rcases hp_2 with ⟨rfl, hu_2, f0_2⟩ | ⟨rfl, hu_2⟩
    · cases hu_2
      have f_3 : zR 0 4 (pa1) := zL_back f0_2
      refine lv_if_ne (tgt := 20) hx hb dX11_sell_14 (by decide) (fun _ => ?_) (fun c_0 => absurd c_0 (zD_ne zk_1 zk_z (by decide)))
      refine lv_aload_n hx hb dX11_sell_20 rfl (lv_at hl 0 rfl) ?_
      refine lv_iload_n hx hb dX11_sell_21 rfl (lv_at hl 1 rfl) ?_
      refine z_callVi (k := 0) (As := [.int (pa0)]) (rest := []) hx hb hml hown ht (mk_X11_isOpen_1 l D q cA F _ _ _ hv_1 (pa0) f0_1) hw_6_230 hmX11_isOpen ⟨rfl, rfl⟩ (na := 1) rfl (by decide +kernel) (by decide) (by decide) rfl rfl hK hP hD hS hA hl.1 rfl (Nat.le_of_ble_eq_true rfl) ⟨Nat.zero_le _, Nat.zero_le _⟩ dX11_sell_22 (fun r_4 I_4 R_4 J_4 H locs hp_4 hP hD hS _ _ => ?_)
      rcases hp_4 with ⟨rfl, hu_4⟩ | ⟨rfl, hu_4⟩
      · cases hu_4
        refine lv_if_eq (tgt := 71) hx hb dX11_sell_25 (by decide) (fun c_0 => absurd c_0 (zD_ne zk_1 zk_z (by decide))) (fun _ => ?_)
        refine lv_aload_n hx hb dX11_sell_28 rfl (lv_at hl 0 rfl) ?_
        refine z_get hx hb ht hown hK hP ziX11 rfl 0 (by decide) 20 (by decide) hw_5_207 rfl (v := .ref (q 12)) rfl dX11_sell_29 ?_
        refine lv_iload_n hx hb dX11_sell_32 rfl (lv_at hl 1 rfl) ?_
        refine z_iald hx hb hK hP 12 (by decide) 11 rfl rfl (zR_vin f0_1 (by decide)) dX11_sell_33 ?_
        refine z_eqi (y := R_1 12 (pa0).toNatClampNeg) rfl ?_
        have f_5 : zR 0 4 (R_1 12 (pa0).toNatClampNeg) := mR hv_1 12 (pa0).toNatClampNeg
        refine lv_iload_n hx hb dX11_sell_34 rfl (lv_at hl 2 rfl) ?_
        refine lv_icmp_eq (tgt := 71) hx hb dX11_sell_35 (by decide) (fun c_6 => ?_) (fun c_6 => ?_)
        · have t_c_6 := z_eqT c_6
          refine lv_bipush (v := (-5)) hx hb dX11_sell_71 (by decide +kernel) ?_
          exact z_iret (v := (-5)) hx hb hr hlocks hP hD hS dX11_sell_73 ⟨_, mInv_E hv_1⟩
        · have t_c_6 := z_eqF c_6
          refine lv_aload_n hx hb dX11_sell_38 rfl (lv_at hl 0 rfl) ?_
          refine z_get hx hb ht hown hK hP ziX11 rfl 0 (by decide) 15 (by decide) hw_5_202 rfl (v := .ref (q 7)) rfl dX11_sell_39 ?_
          refine lv_iload_n hx hb dX11_sell_42 rfl (lv_at hl 2 rfl) ?_
          refine z_iald hx hb hK hP 7 (by decide) 6 rfl rfl (zR_vin f_3 (by decide)) dX11_sell_43 ?_
          refine z_eqi (y := R_1 7 (pa1).toNatClampNeg) rfl ?_
          refine lv_aload_n hx hb dX11_sell_44 rfl (lv_at hl 0 rfl) ?_
          refine lv_iload_n hx hb dX11_sell_45 rfl (lv_at hl 1 rfl) ?_
          refine z_callVi (k := 0) (As := [.int (pa0)]) (rest := [.int (R_1 7 (pa1).toNatClampNeg)]) hx hb hml hown ht (mk_X11_priceOf l D q cA F _ _ _ hv_1 (pa0) f0_1) hw_6_202 hmX11_priceOf ⟨rfl, rfl⟩ (na := 1) rfl (by decide +kernel) (by decide) (by decide) rfl rfl hK hP hD hS hA hl.1 rfl (Nat.le_of_ble_eq_true rfl) ⟨Nat.zero_le _, Nat.zero_le _⟩ dX11_sell_46 (fun r_7 I_7 R_7 J_7 H locs hp_7 hP hD hS _ _ => ?_)
          cases hp_7
          refine lv_icmp_lt (tgt := 71) hx hb dX11_sell_49 (by decide) (fun c_8 => ?_) (fun c_8 => ?_)
          · have t_c_8 := z_ltT c_8
            have f_9 : zR (-2147483648) 2147483646 (R_1 7 (pa1).toNatClampNeg) := zR_ltx t_c_8 (zR_any (R_1 7 (pa1).toNatClampNeg)) (zR_any (r_7)) (by decide)
            have f_10 : zR (-2147483647) 2147483647 (r_7) := zR_lty t_c_8 (zR_any (R_1 7 (pa1).toNatClampNeg)) (zR_any (r_7)) (by decide)
            refine lv_bipush (v := (-5)) hx hb dX11_sell_71 (by decide +kernel) ?_
            exact z_iret (v := (-5)) hx hb hr hlocks hP hD hS dX11_sell_73 ⟨_, mInv_E hv_1⟩
          · have t_c_8 := z_ltF c_8
            refine lv_aload_n hx hb dX11_sell_52 rfl (lv_at hl 0 rfl) ?_
            refine lv_iconst (v := nI 1) hx hb dX11_sell_53 (by decide +kernel) ?_
            refine lv_iload_n hx hb dX11_sell_54 rfl (lv_at hl 1 rfl) ?_
            refine lv_iload_n hx hb dX11_sell_55 rfl (lv_at hl 2 rfl) ?_
            refine lv_iconst (v := nI 0) hx hb dX11_sell_56 (by decide +kernel) ?_
            refine z_callVi (k := 0) (As := [.int (nI 1), .int (pa0), .int (pa1), .int (nI 0)]) (rest := []) hx hb hml hown ht (mk_X11_keepAct_1 l D q cA F _ _ _ hv_1 (pa0) f0_1 (pa1) f_3 (nI 0) (zR_w zk_0 (by decide))) hw_7_44 hmX11_keepAct ⟨rfl, rfl⟩ (na := 4) rfl (by decide +kernel) (by decide) (by decide) rfl rfl hK hP hD hS hA hl.1 rfl (Nat.le_of_ble_eq_true rfl) ⟨Nat.zero_le _, Nat.zero_le _⟩ dX11_sell_57 (fun r_11 I_11 R_11 J_11 H locs hp_11 hP hD hS _ _ => ?_)
            rcases hp_11 with ⟨rfl, hu_11⟩ | ⟨rfl, hu_11⟩
            · obtain ⟨w_11, hv_11⟩ := hu_11
              refine lv_if_eq (tgt := 71) hx hb dX11_sell_60 (by decide) (fun c_0 => absurd c_0 (zD_ne zk_1 zk_z (by decide))) (fun _ => ?_)
              refine lv_aload_n hx hb dX11_sell_63 rfl (lv_at hl 0 rfl) ?_
              refine lv_iload_n hx hb dX11_sell_64 rfl (lv_at hl 1 rfl) ?_
              refine z_callVi (k := 0) (As := [.int (pa0)]) (rest := []) hx hb hml hown ht (mk_X11_priceOf l D q cA (zr F 1 w_11) _ _ _ hv_11 (pa0) f0_1) hw_6_202 hmX11_priceOf ⟨rfl, rfl⟩ (na := 1) rfl (by decide +kernel) (by decide) (by decide) rfl rfl hK hP hD hS hA hl.1 rfl (Nat.le_of_ble_eq_true rfl) ⟨Nat.zero_le _, Nat.zero_le _⟩ dX11_sell_65 (fun r_12 I_12 R_12 J_12 H locs hp_12 hP hD hS _ _ => ?_)
              cases hp_12
              refine lv_goto (tgt := 73) hx hb dX11_sell_68 (by decide) ?_
              exact z_iret (v := r_12) hx hb hr hlocks hP hD hS dX11_sell_73 ⟨_, hv_11⟩
            · cases hu_11
              refine lv_if_eq (tgt := 71) hx hb dX11_sell_60 (by decide) (fun _ => ?_) (fun c_0 => absurd (zD_eq zk_0 zk_z) c_0)
              refine lv_bipush (v := (-5)) hx hb dX11_sell_71 (by decide +kernel) ?_
              exact z_iret (v := (-5)) hx hb hr hlocks hP hD hS dX11_sell_73 ⟨_, mInv_E hv_1⟩
      · cases hu_4
        refine lv_if_eq (tgt := 71) hx hb dX11_sell_25 (by decide) (fun _ => ?_) (fun c_0 => absurd (zD_eq zk_0 zk_z) c_0)
        refine lv_bipush (v := (-5)) hx hb dX11_sell_71 (by decide +kernel) ?_
        exact z_iret (v := (-5)) hx hb hr hlocks hP hD hS dX11_sell_73 ⟨_, mInv_E hv_1⟩
    · cases hu_2
      refine lv_if_ne (tgt := 20) hx hb dX11_sell_14 (by decide) (fun c_0 => absurd (zD_eq zk_0 zk_z) c_0) (fun _ => ?_)
      refine lv_bipush (v := (-2)) hx hb dX11_sell_17 (by decide +kernel) ?_
      exact z_iret (v := (-2)) hx hb hr hlocks hP hD hS dX11_sell_19 ⟨_, mInv_E hv_1⟩
  · obtain ⟨hv_1, hj_1⟩ := hu_1
    try dsimp only at hj_1
    subst J_1
    refine lv_if_eq (tgt := 17) hx hb dX11_sell_5 (by decide) (fun _ => ?_) (fun c_0 => absurd (zD_eq zk_0 zk_z) c_0)
    refine lv_bipush (v := (-2)) hx hb dX11_sell_17 (by decide +kernel) ?_
    exact z_iret (v := (-2)) hx hb hr hlocks hP hD hS dX11_sell_19 ⟨_, mInv_E hv_1⟩
set_option maxHeartbeats 4000000 in
set_option maxRecDepth 100000 in
theorem mk_X11_keepAct_2 (l : Launch) (D : va_G) (q : Nat → Nat) (cA : Nat → ClassId) (F : Nat → Nat → Int32) (I R : Nat → Nat → Int32) (J : Nat → Nat → Int64) (hI : mInv F (I, R, J)) (pa1 : Int32) (hpa1 : zR 0 23 pa1) (pa2 : Int32) (hpa2 : zR 0 1 pa2) (pa3 : Int32) (hpa3 : zR 0 1 pa3) : zMi l D vwCl (zMtys cA) 25 q (zMd q cA) yX11_keepAct cX11_keepAct 5 (some .boolean) ({ frames := 0, cells := 0, slots := 0, locals := 0 } : Room) [.ref (q 0), .int (nI 2), .int (pa1), .int (pa2), .int (pa3)] (I, R, J) (fun r u => (r = nI 1 ∧ ∃ w9, mInv (zr F 1 w9) u) ∨ (r = nI 0 ∧ u = (I, R, J))) := by
  intro sz
  refine z_body (by decide +kernel) (Nat.le_of_ble_eq_true rfl) (fun p e s m below meth c ls hx hb hml hr ht hown hlocks hsz hK hP hD hS hl => ?_)
  have hA : ∀ a, s.heap.size ≤ a → zA 25 q sz a := fun a h => Or.inr (hsz ▸ h)
  have hl : lv_has ls 5 [(0, .ref (q 0)), (1, .int (nI 2)), (2, .int (pa1)), (3, .int (pa2)), (4, .int (pa3))] := hl
  refine lv_aload_n hx hb dX11_keepAct_0 rfl (lv_at hl 0 rfl) ?_
  refine z_get hx hb ht hown hK hP ziX11 rfl 0 (by decide) 1 (by decide) hw_5_188 rfl (v := .ref (q 1)) rfl dX11_keepAct_1 ?_
  refine lv_bipush (v := nI 6) hx hb dX11_keepAct_4 (by decide +kernel) ?_
  refine z_iald hx hb hK hP 1 (by decide) 0 rfl rfl (zR_vin zk_6 (by decide)) dX11_keepAct_6 ?_
  refine z_eqi (y := R 1 (nI 6).toNatClampNeg) rfl ?_
  have f_1 : zR 0 60 (R 1 (nI 6).toNatClampNeg) := mR hI 1 6
  refine lv_bipush (v := nI 60) hx hb dX11_keepAct_7 (by decide +kernel) ?_
  refine lv_icmp_ne (tgt := 14) hx hb dX11_keepAct_9 (by decide) (fun c_2 => ?_) (fun c_2 => ?_)
  · have t_c_2 := z_eqF c_2
    have f_3 : zR 0 59 (R 1 (nI 6).toNatClampNeg) := zR_nex t_c_2 f_1 zk_60 (by decide)
    refine lv_aload_n hx hb dX11_keepAct_14 rfl (lv_at hl 0 rfl) ?_
    refine z_get hx hb ht hown hK hP ziX11 rfl 0 (by decide) 1 (by decide) hw_5_188 rfl (v := .ref (q 1)) rfl dX11_keepAct_15 ?_
    refine lv_bipush (v := nI 59) hx hb dX11_keepAct_18 (by decide +kernel) ?_
    refine lv_aload_n hx hb dX11_keepAct_20 rfl (lv_at hl 0 rfl) ?_
    refine z_get hx hb ht hown hK hP ziX11 rfl 0 (by decide) 1 (by decide) hw_5_188 rfl (v := .ref (q 1)) rfl dX11_keepAct_21 ?_
    refine lv_bipush (v := nI 6) hx hb dX11_keepAct_24 (by decide +kernel) ?_
    refine z_iald hx hb hK hP 1 (by decide) 0 rfl rfl (zR_vin zk_6 (by decide)) dX11_keepAct_26 ?_
    refine z_eqi (y := R 1 (nI 6).toNatClampNeg) rfl ?_
    refine lv_iadd hx hb dX11_keepAct_27 ?_
    refine z_cadd 59 118 zk_59 f_3 (by decide) (fun v_4 hv_4 mv_4 => ?_)
    refine lv_ldc (v := nI 1000000) hx hb hown (ht _ hw_6_189) dX11_keepAct_28 ?_
    refine lv_iload_n hx hb dX11_keepAct_30 rfl (lv_at hl 1 rfl) ?_
    refine lv_imul hx hb dX11_keepAct_31 ?_
    refine z_eqi (y := nI 2000000) (by decide +kernel) ?_
    refine lv_sipush (v := nI 10000) hx hb dX11_keepAct_32 (by decide +kernel) ?_
    refine lv_iload_n hx hb dX11_keepAct_35 rfl (lv_at hl 2 rfl) ?_
    refine lv_imul hx hb dX11_keepAct_36 ?_
    refine lv_topi (fun v_5 ev_5 => ?_)
    have hv_5 : zR 0 230000 v_5 := ev_5 ▸ zR_mul zk_10000 hpa1 (by decide)
    refine lv_iadd hx hb dX11_keepAct_37 ?_
    refine z_cadd 2000000 2230000 zk_2000000 hv_5 (by decide) (fun v_6 hv_6 mv_6 => ?_)
    refine lv_bipush (v := nI 100) hx hb dX11_keepAct_38 (by decide +kernel) ?_
    refine lv_iload_n hx hb dX11_keepAct_40 rfl (lv_at hl 3 rfl) ?_
    refine lv_imul hx hb dX11_keepAct_41 ?_
    refine lv_topi (fun v_7 ev_7 => ?_)
    have hv_7 : zR 0 100 v_7 := ev_7 ▸ zR_mul zk_100 hpa2 (by decide)
    refine lv_iadd hx hb dX11_keepAct_42 ?_
    refine lv_topi (fun v_8 ev_8 => ?_)
    have hv_8 : zR 2000000 2230100 v_8 := ev_8 ▸ zR_add hv_6 hv_7 (by decide)
    refine lv_iload hx hb dX11_keepAct_43 (lv_at hl 4 rfl) ?_
    refine lv_iadd hx hb dX11_keepAct_45 ?_
    refine lv_topi (fun v_9 ev_9 => ?_)
    have hv_9 : zR 2000000 2230101 v_9 := ev_9 ▸ zR_add hv_8 hpa3 (by decide)
    refine z_iast hx hb hK hP hD hS 1 (by decide) 0 (fun _ => rfl) rfl (zR_vin hv_4 (by decide)) dX11_keepAct_46 (fun H locs hP hD hS => ?_)
    refine lv_aload_n hx hb dX11_keepAct_47 rfl (lv_at hl 0 rfl) ?_
    refine z_get hx hb ht hown hK hP ziX11 rfl 0 (by decide) 1 (by decide) hw_5_188 rfl (v := .ref (q 1)) rfl dX11_keepAct_48 ?_
    refine lv_bipush (v := nI 6) hx hb dX11_keepAct_51 (by decide +kernel) ?_
    refine lv_dup2_11 hx hb dX11_keepAct_53 rfl rfl ?_
    refine z_iald hx hb hK hP 1 (by decide) 0 rfl rfl (zR_vin zk_6 (by decide)) dX11_keepAct_54 ?_
    refine z_eqi (y := R 1 (nI 6).toNatClampNeg) (mKeep_old hI mv_4) ?_
    refine lv_iconst (v := nI 1) hx hb dX11_keepAct_55 (by decide +kernel) ?_
    refine lv_iadd hx hb dX11_keepAct_56 ?_
    refine z_addc 1 60 f_3 zk_1 (by decide) (fun v_10 hv_10 mv_10 => ?_)
    refine z_iast hx hb hK hP hD hS 1 (by decide) 0 (fun _ => rfl) rfl (zR_vin zk_6 (by decide)) dX11_keepAct_57 (fun H locs hP hD hS => ?_)
    have e1_12 : (v_5).toInt = 10000 * (pa1).toInt := m_mulc zk_10000 hpa1 (by decide) ev_5
    have e2_12 : (v_7).toInt = 100 * (pa2).toInt := m_mulc zk_100 hpa2 (by decide) ev_7
    have e3_12 : (v_8).toInt = (v_6).toInt + (v_7).toInt := m_addv hv_6 hv_7 (by decide) ev_8
    have e4_12 : (v_9).toInt = (v_8).toInt + (pa3).toInt := m_addv hv_8 hpa3 (by decide) ev_9
    have ha_12 := mAct_of (v := v_9) (a := pa1) (b := pa2) (c := pa3) (k := 2) (by have _ := mv_6; omega) (by decide) hpa1 (zR_w hpa2 (by decide)) (zR_w hpa3 (by decide)) (fun h9 => by obtain ⟨_, _⟩ := hpa1; obtain ⟨_, _⟩ := hpa2; obtain ⟨_, _⟩ := hpa3; omega) (fun h9 => by obtain ⟨_, _⟩ := hpa1; obtain ⟨_, _⟩ := hpa2; obtain ⟨_, _⟩ := hpa3; omega) (fun h9 => by obtain ⟨_, _⟩ := hpa1; obtain ⟨_, _⟩ := hpa2; obtain ⟨_, _⟩ := hpa3; omega)
    have hI_11 := mInv_keep hI (fun h9 => t_c_2 (h9.trans (by decide +kernel))) mv_4 mv_10 ha_12.1 (fun h9 => absurd (ha_12.2.symm.trans h9) (by decide))
    refine lv_iconst (v := nI 1) hx hb dX11_keepAct_58 (by decide +kernel) ?_
    exact z_zret (v := nI 1) hx hb hr hlocks hP hD hS (by decide +kernel) dX11_keepAct_59 (Or.inl ⟨rfl, ⟨_, hI_11⟩⟩)
  · have t_c_2 := z_eqT c_2
    have f_13 : zR 60 60 (R 1 (nI 6).toNatClampNeg) := zR_eqx t_c_2 zk_60
    refine lv_iconst (v := nI 0) hx hb dX11_keepAct_12 (by decide +kernel) ?_
    exact z_zret (v := nI 0) hx hb hr hlocks hP hD hS (by decide +kernel) dX11_keepAct_13 (Or.inr ⟨rfl, rfl⟩)
set_option maxHeartbeats 4000000 in
set_option maxRecDepth 100000 in
theorem mk_X11_brings (l : Launch) (D : va_G) (q : Nat → Nat) (cA : Nat → ClassId) (F : Nat → Nat → Int32) (I R : Nat → Nat → Int32) (J : Nat → Nat → Int64) (hI : mInv F (I, R, J)) (pa0 : Int32) : zMi l D vwCl (zMtys cA) 25 q (zMd q cA) yX11_brings cX11_brings 2 (some .int) ({ frames := 7, cells := 0, slots := 0, locals := 176 } : Room) [.ref (q 0), .int (pa0)] (I, R, J) (fun r u => zR (-5) 4 r ∧ ∃ w9, mInv (zr F 1 w9) u) := by
  intro sz
  refine z_body (by decide +kernel) (Nat.le_of_ble_eq_true rfl) (fun p e s m below meth c ls hx hb hml hr ht hown hlocks hsz hK hP hD hS hl => ?_)
  have hA : ∀ a, s.heap.size ≤ a → zA 25 q sz a := fun a h => Or.inr (hsz ▸ h)
  have hl : lv_has ls 2 [(0, .ref (q 0)), (1, .int (pa0))] := hl
  refine lv_aload_n hx hb dX11_brings_0 rfl (lv_at hl 0 rfl) ?_
  refine lv_iload_n hx hb dX11_brings_1 rfl (lv_at hl 1 rfl) ?_
  refine z_callVi (k := 0) (As := [.int (pa0)]) (rest := []) hx hb hml hown ht (mk_X11_isPaper l D q cA F _ _ _ hI (pa0)) hw_7_18 hmX11_isPaper ⟨rfl, rfl⟩ (na := 1) rfl (by decide +kernel) (by decide) (by decide) rfl rfl hK hP hD hS hA hl.1 rfl (Nat.le_of_ble_eq_true rfl) ⟨Nat.zero_le _, Nat.zero_le _⟩ dX11_brings_2 (fun r_1 I_1 R_1 J_1 H locs hp_1 hP hD hS _ _ => ?_)
  rcases hp_1 with ⟨rfl, hu_1, f0_1⟩ | ⟨rfl, hu_1⟩
  · obtain ⟨hv_1, hj_1⟩ := hu_1
    try dsimp only at hj_1
    subst J_1
    refine lv_if_ne (tgt := 11) hx hb dX11_brings_5 (by decide) (fun _ => ?_) (fun c_0 => absurd c_0 (zD_ne zk_1 zk_z (by decide)))
    refine lv_aload_n hx hb dX11_brings_11 rfl (lv_at hl 0 rfl) ?_
    refine lv_iload_n hx hb dX11_brings_12 rfl (lv_at hl 1 rfl) ?_
    refine z_callVi (k := 0) (As := [.int (pa0)]) (rest := []) hx hb hml hown ht (mk_X11_isOpen_1 l D q cA F _ _ _ hv_1 (pa0) f0_1) hw_6_230 hmX11_isOpen ⟨rfl, rfl⟩ (na := 1) rfl (by decide +kernel) (by decide) (by decide) rfl rfl hK hP hD hS hA hl.1 rfl (Nat.le_of_ble_eq_true rfl) ⟨Nat.zero_le _, Nat.zero_le _⟩ dX11_brings_13 (fun r_2 I_2 R_2 J_2 H locs hp_2 hP hD hS _ _ => ?_)
    rcases hp_2 with ⟨rfl, hu_2⟩ | ⟨rfl, hu_2⟩
    · cases hu_2
      refine lv_if_eq (tgt := 59) hx hb dX11_brings_16 (by decide) (fun c_0 => absurd c_0 (zD_ne zk_1 zk_z (by decide))) (fun _ => ?_)
      refine lv_aload_n hx hb dX11_brings_19 rfl (lv_at hl 0 rfl) ?_
      refine z_get hx hb ht hown hK hP ziX11 rfl 0 (by decide) 17 (by decide) hw_5_204 rfl (v := .ref (q 9)) rfl dX11_brings_20 ?_
      refine lv_aload_n hx hb dX11_brings_23 rfl (lv_at hl 0 rfl) ?_
      refine z_get hx hb ht hown hK hP ziX11 rfl 0 (by decide) 19 (by decide) hw_5_206 rfl (v := .ref (q 11)) rfl dX11_brings_24 ?_
      refine lv_iload_n hx hb dX11_brings_27 rfl (lv_at hl 1 rfl) ?_
      refine z_iald hx hb hK hP 11 (by decide) 10 rfl rfl (zR_vin f0_1 (by decide)) dX11_brings_28 ?_
      refine z_eqi (y := R_1 11 (pa0).toNatClampNeg) rfl ?_
      have f_3 : zR 0 5 (R_1 11 (pa0).toNatClampNeg) := mR hv_1 11 (pa0).toNatClampNeg
      refine z_iald hx hb hK hP 9 (by decide) 8 rfl rfl (zR_vin f_3 (by decide)) dX11_brings_29 ?_
      refine z_eqi (y := R_1 9 (R_1 11 (pa0).toNatClampNeg).toNatClampNeg) rfl ?_
      have f_4 : zR 0 4 (R_1 9 (R_1 11 (pa0).toNatClampNeg).toNatClampNeg) := mR hv_1 9 (R_1 11 (pa0).toNatClampNeg).toNatClampNeg
      refine lv_aload_n hx hb dX11_brings_30 rfl (lv_at hl 0 rfl) ?_
      refine z_get hx hb ht hown hK hP ziX11 rfl 0 (by decide) 18 (by decide) hw_5_205 rfl (v := .ref (q 10)) rfl dX11_brings_31 ?_
      refine lv_iload_n hx hb dX11_brings_34 rfl (lv_at hl 1 rfl) ?_
      refine z_iald hx hb hK hP 10 (by decide) 9 rfl rfl (zR_vin f0_1 (by decide)) dX11_brings_35 ?_
      refine z_eqi (y := R_1 10 (pa0).toNatClampNeg) rfl ?_
      have f_5 : zR 0 4 (R_1 10 (pa0).toNatClampNeg) := mR hv_1 10 (pa0).toNatClampNeg
      refine lv_icmp_ne (tgt := 59) hx hb dX11_brings_36 (by decide) (fun c_6 => ?_) (fun c_6 => ?_)
      · have t_c_6 := z_eqF c_6
        refine lv_bipush (v := (-5)) hx hb dX11_brings_59 (by decide +kernel) ?_
        exact z_iret (v := (-5)) hx hb hr hlocks hP hD hS dX11_brings_61 ⟨(zR_w zk_m5 (by decide)), ⟨_, mInv_E hv_1⟩⟩
      · have t_c_6 := z_eqT c_6
        refine lv_aload_n hx hb dX11_brings_39 rfl (lv_at hl 0 rfl) ?_
        refine lv_iconst (v := nI 2) hx hb dX11_brings_40 (by decide +kernel) ?_
        refine lv_iload_n hx hb dX11_brings_41 rfl (lv_at hl 1 rfl) ?_
        refine lv_iconst (v := nI 0) hx hb dX11_brings_42 (by decide +kernel) ?_
        refine lv_iconst (v := nI 0) hx hb dX11_brings_43 (by decide +kernel) ?_
        refine z_callVi (k := 0) (As := [.int (nI 2), .int (pa0), .int (nI 0), .int (nI 0)]) (rest := []) hx hb hml hown ht (mk_X11_keepAct_2 l D q cA F _ _ _ hv_1 (pa0) f0_1 (nI 0) (zR_w zk_0 (by decide)) (nI 0) (zR_w zk_0 (by decide))) hw_7_44 hmX11_keepAct ⟨rfl, rfl⟩ (na := 4) rfl (by decide +kernel) (by decide) (by decide) rfl rfl hK hP hD hS hA hl.1 rfl (Nat.le_of_ble_eq_true rfl) ⟨Nat.zero_le _, Nat.zero_le _⟩ dX11_brings_44 (fun r_7 I_7 R_7 J_7 H locs hp_7 hP hD hS _ _ => ?_)
        rcases hp_7 with ⟨rfl, hu_7⟩ | ⟨rfl, hu_7⟩
        · obtain ⟨w_7, hv_7⟩ := hu_7
          refine lv_if_eq (tgt := 59) hx hb dX11_brings_47 (by decide) (fun c_0 => absurd c_0 (zD_ne zk_1 zk_z (by decide))) (fun _ => ?_)
          refine lv_aload_n hx hb dX11_brings_50 rfl (lv_at hl 0 rfl) ?_
          refine z_get hx hb ht hown hK hP ziX11 rfl 0 (by decide) 20 (by decide) hw_5_207 rfl (v := .ref (q 12)) rfl dX11_brings_51 ?_
          refine lv_iload_n hx hb dX11_brings_54 rfl (lv_at hl 1 rfl) ?_
          refine z_iald hx hb hK hP 12 (by decide) 11 rfl rfl (zR_vin f0_1 (by decide)) dX11_brings_55 ?_
          refine z_eqi (y := R_7 12 (pa0).toNatClampNeg) rfl ?_
          have f_8 : zR 0 4 (R_7 12 (pa0).toNatClampNeg) := mR hv_7 12 (pa0).toNatClampNeg
          refine lv_goto (tgt := 61) hx hb dX11_brings_56 (by decide) ?_
          exact z_iret (v := R_7 12 (pa0).toNatClampNeg) hx hb hr hlocks hP hD hS dX11_brings_61 ⟨(zR_w f_8 (by decide)), ⟨_, hv_7⟩⟩
        · cases hu_7
          refine lv_if_eq (tgt := 59) hx hb dX11_brings_47 (by decide) (fun _ => ?_) (fun c_0 => absurd (zD_eq zk_0 zk_z) c_0)
          refine lv_bipush (v := (-5)) hx hb dX11_brings_59 (by decide +kernel) ?_
          exact z_iret (v := (-5)) hx hb hr hlocks hP hD hS dX11_brings_61 ⟨(zR_w zk_m5 (by decide)), ⟨_, mInv_E hv_1⟩⟩
    · cases hu_2
      refine lv_if_eq (tgt := 59) hx hb dX11_brings_16 (by decide) (fun _ => ?_) (fun c_0 => absurd (zD_eq zk_0 zk_z) c_0)
      refine lv_bipush (v := (-5)) hx hb dX11_brings_59 (by decide +kernel) ?_
      exact z_iret (v := (-5)) hx hb hr hlocks hP hD hS dX11_brings_61 ⟨(zR_w zk_m5 (by decide)), ⟨_, mInv_E hv_1⟩⟩
  · obtain ⟨hv_1, hj_1⟩ := hu_1
    try dsimp only at hj_1
    subst J_1
    refine lv_if_ne (tgt := 11) hx hb dX11_brings_5 (by decide) (fun c_0 => absurd (zD_eq zk_0 zk_z) c_0) (fun _ => ?_)
    refine lv_bipush (v := (-2)) hx hb dX11_brings_8 (by decide +kernel) ?_
    exact z_iret (v := (-2)) hx hb hr hlocks hP hD hS dX11_brings_10 ⟨(zR_w zk_m2 (by decide)), ⟨_, mInv_E hv_1⟩⟩
set_option maxHeartbeats 4000000 in
set_option maxRecDepth 100000 in
theorem mk_X11_keepAct_3 (l : Launch) (D : va_G) (q : Nat → Nat) (cA : Nat → ClassId) (F : Nat → Nat → Int32) (I R : Nat → Nat → Int32) (J : Nat → Nat → Int64) (hI : mInv F (I, R, J)) (pa1 : Int32) (hpa1 : zR 0 23 pa1) (pa2 : Int32) (hpa2 : zR 0 1 pa2) (pa3 : Int32) (hpa3 : zR 0 1 pa3) : zMi l D vwCl (zMtys cA) 25 q (zMd q cA) yX11_keepAct cX11_keepAct 5 (some .boolean) ({ frames := 0, cells := 0, slots := 0, locals := 0 } : Room) [.ref (q 0), .int (nI 3), .int (pa1), .int (pa2), .int (pa3)] (I, R, J) (fun r u => (r = nI 1 ∧ ∃ w9, mInv (zr F 1 w9) u) ∨ (r = nI 0 ∧ u = (I, R, J))) := by
  intro sz
  refine z_body (by decide +kernel) (Nat.le_of_ble_eq_true rfl) (fun p e s m below meth c ls hx hb hml hr ht hown hlocks hsz hK hP hD hS hl => ?_)
  have hA : ∀ a, s.heap.size ≤ a → zA 25 q sz a := fun a h => Or.inr (hsz ▸ h)
  have hl : lv_has ls 5 [(0, .ref (q 0)), (1, .int (nI 3)), (2, .int (pa1)), (3, .int (pa2)), (4, .int (pa3))] := hl
  refine lv_aload_n hx hb dX11_keepAct_0 rfl (lv_at hl 0 rfl) ?_
  refine z_get hx hb ht hown hK hP ziX11 rfl 0 (by decide) 1 (by decide) hw_5_188 rfl (v := .ref (q 1)) rfl dX11_keepAct_1 ?_
  refine lv_bipush (v := nI 6) hx hb dX11_keepAct_4 (by decide +kernel) ?_
  refine z_iald hx hb hK hP 1 (by decide) 0 rfl rfl (zR_vin zk_6 (by decide)) dX11_keepAct_6 ?_
  refine z_eqi (y := R 1 (nI 6).toNatClampNeg) rfl ?_
  have f_1 : zR 0 60 (R 1 (nI 6).toNatClampNeg) := mR hI 1 6
  refine lv_bipush (v := nI 60) hx hb dX11_keepAct_7 (by decide +kernel) ?_
  refine lv_icmp_ne (tgt := 14) hx hb dX11_keepAct_9 (by decide) (fun c_2 => ?_) (fun c_2 => ?_)
  · have t_c_2 := z_eqF c_2
    have f_3 : zR 0 59 (R 1 (nI 6).toNatClampNeg) := zR_nex t_c_2 f_1 zk_60 (by decide)
    refine lv_aload_n hx hb dX11_keepAct_14 rfl (lv_at hl 0 rfl) ?_
    refine z_get hx hb ht hown hK hP ziX11 rfl 0 (by decide) 1 (by decide) hw_5_188 rfl (v := .ref (q 1)) rfl dX11_keepAct_15 ?_
    refine lv_bipush (v := nI 59) hx hb dX11_keepAct_18 (by decide +kernel) ?_
    refine lv_aload_n hx hb dX11_keepAct_20 rfl (lv_at hl 0 rfl) ?_
    refine z_get hx hb ht hown hK hP ziX11 rfl 0 (by decide) 1 (by decide) hw_5_188 rfl (v := .ref (q 1)) rfl dX11_keepAct_21 ?_
    refine lv_bipush (v := nI 6) hx hb dX11_keepAct_24 (by decide +kernel) ?_
    refine z_iald hx hb hK hP 1 (by decide) 0 rfl rfl (zR_vin zk_6 (by decide)) dX11_keepAct_26 ?_
    refine z_eqi (y := R 1 (nI 6).toNatClampNeg) rfl ?_
    refine lv_iadd hx hb dX11_keepAct_27 ?_
    refine z_cadd 59 118 zk_59 f_3 (by decide) (fun v_4 hv_4 mv_4 => ?_)
    refine lv_ldc (v := nI 1000000) hx hb hown (ht _ hw_6_189) dX11_keepAct_28 ?_
    refine lv_iload_n hx hb dX11_keepAct_30 rfl (lv_at hl 1 rfl) ?_
    refine lv_imul hx hb dX11_keepAct_31 ?_
    refine z_eqi (y := nI 3000000) (by decide +kernel) ?_
    refine lv_sipush (v := nI 10000) hx hb dX11_keepAct_32 (by decide +kernel) ?_
    refine lv_iload_n hx hb dX11_keepAct_35 rfl (lv_at hl 2 rfl) ?_
    refine lv_imul hx hb dX11_keepAct_36 ?_
    refine lv_topi (fun v_5 ev_5 => ?_)
    have hv_5 : zR 0 230000 v_5 := ev_5 ▸ zR_mul zk_10000 hpa1 (by decide)
    refine lv_iadd hx hb dX11_keepAct_37 ?_
    refine z_cadd 3000000 3230000 zk_3000000 hv_5 (by decide) (fun v_6 hv_6 mv_6 => ?_)
    refine lv_bipush (v := nI 100) hx hb dX11_keepAct_38 (by decide +kernel) ?_
    refine lv_iload_n hx hb dX11_keepAct_40 rfl (lv_at hl 3 rfl) ?_
    refine lv_imul hx hb dX11_keepAct_41 ?_
    refine lv_topi (fun v_7 ev_7 => ?_)
    have hv_7 : zR 0 100 v_7 := ev_7 ▸ zR_mul zk_100 hpa2 (by decide)
    refine lv_iadd hx hb dX11_keepAct_42 ?_
    refine lv_topi (fun v_8 ev_8 => ?_)
    have hv_8 : zR 3000000 3230100 v_8 := ev_8 ▸ zR_add hv_6 hv_7 (by decide)
    refine lv_iload hx hb dX11_keepAct_43 (lv_at hl 4 rfl) ?_
    refine lv_iadd hx hb dX11_keepAct_45 ?_
    refine lv_topi (fun v_9 ev_9 => ?_)
    have hv_9 : zR 3000000 3230101 v_9 := ev_9 ▸ zR_add hv_8 hpa3 (by decide)
    refine z_iast hx hb hK hP hD hS 1 (by decide) 0 (fun _ => rfl) rfl (zR_vin hv_4 (by decide)) dX11_keepAct_46 (fun H locs hP hD hS => ?_)
    refine lv_aload_n hx hb dX11_keepAct_47 rfl (lv_at hl 0 rfl) ?_
    refine z_get hx hb ht hown hK hP ziX11 rfl 0 (by decide) 1 (by decide) hw_5_188 rfl (v := .ref (q 1)) rfl dX11_keepAct_48 ?_
    refine lv_bipush (v := nI 6) hx hb dX11_keepAct_51 (by decide +kernel) ?_
    refine lv_dup2_11 hx hb dX11_keepAct_53 rfl rfl ?_
    refine z_iald hx hb hK hP 1 (by decide) 0 rfl rfl (zR_vin zk_6 (by decide)) dX11_keepAct_54 ?_
    refine z_eqi (y := R 1 (nI 6).toNatClampNeg) (mKeep_old hI mv_4) ?_
    refine lv_iconst (v := nI 1) hx hb dX11_keepAct_55 (by decide +kernel) ?_
    refine lv_iadd hx hb dX11_keepAct_56 ?_
    refine z_addc 1 60 f_3 zk_1 (by decide) (fun v_10 hv_10 mv_10 => ?_)
    refine z_iast hx hb hK hP hD hS 1 (by decide) 0 (fun _ => rfl) rfl (zR_vin zk_6 (by decide)) dX11_keepAct_57 (fun H locs hP hD hS => ?_)
    have e1_12 : (v_5).toInt = 10000 * (pa1).toInt := m_mulc zk_10000 hpa1 (by decide) ev_5
    have e2_12 : (v_7).toInt = 100 * (pa2).toInt := m_mulc zk_100 hpa2 (by decide) ev_7
    have e3_12 : (v_8).toInt = (v_6).toInt + (v_7).toInt := m_addv hv_6 hv_7 (by decide) ev_8
    have e4_12 : (v_9).toInt = (v_8).toInt + (pa3).toInt := m_addv hv_8 hpa3 (by decide) ev_9
    have ha_12 := mAct_of (v := v_9) (a := pa1) (b := pa2) (c := pa3) (k := 3) (by have _ := mv_6; omega) (by decide) hpa1 (zR_w hpa2 (by decide)) (zR_w hpa3 (by decide)) (fun h9 => by obtain ⟨_, _⟩ := hpa1; obtain ⟨_, _⟩ := hpa2; obtain ⟨_, _⟩ := hpa3; omega) (fun h9 => by obtain ⟨_, _⟩ := hpa1; obtain ⟨_, _⟩ := hpa2; obtain ⟨_, _⟩ := hpa3; omega) (fun h9 => by obtain ⟨_, _⟩ := hpa1; obtain ⟨_, _⟩ := hpa2; obtain ⟨_, _⟩ := hpa3; omega)
    have hI_11 := mInv_keep hI (fun h9 => t_c_2 (h9.trans (by decide +kernel))) mv_4 mv_10 ha_12.1 (fun h9 => absurd (ha_12.2.symm.trans h9) (by decide))
    refine lv_iconst (v := nI 1) hx hb dX11_keepAct_58 (by decide +kernel) ?_
    exact z_zret (v := nI 1) hx hb hr hlocks hP hD hS (by decide +kernel) dX11_keepAct_59 (Or.inl ⟨rfl, ⟨_, hI_11⟩⟩)
  · have t_c_2 := z_eqT c_2
    have f_13 : zR 60 60 (R 1 (nI 6).toNatClampNeg) := zR_eqx t_c_2 zk_60
    refine lv_iconst (v := nI 0) hx hb dX11_keepAct_12 (by decide +kernel) ?_
    exact z_zret (v := nI 0) hx hb hr hlocks hP hD hS (by decide +kernel) dX11_keepAct_13 (Or.inr ⟨rfl, rfl⟩)
set_option maxHeartbeats 4000000 in
set_option maxRecDepth 100000 in
theorem mk_X11_openSet (l : Launch) (D : va_G) (q : Nat → Nat) (cA : Nat → ClassId) (F : Nat → Nat → Int32) (I R : Nat → Nat → Int32) (J : Nat → Nat → Int64) (hI : mInv F (I, R, J))  : zMi l D vwCl (zMtys cA) 25 q (zMd q cA) yX11_openSet cX11_openSet 3 (some .int) ({ frames := 1, cells := 0, slots := 0, locals := 21 } : Room) [.ref (q 0)] (I, R, J) (fun r u => zR 0 16777215 r ∧ u = (I, R, J)) := by
  intro sz
  refine z_body (by decide +kernel) (Nat.le_of_ble_eq_true rfl) (fun p e s m below meth c ls hx hb hml hr ht hown hlocks hsz hK hP hD hS hl => ?_)
  have hA : ∀ a, s.heap.size ≤ a → zA 25 q sz a := fun a h => Or.inr (hsz ▸ h)
  have hl : lv_has ls 3 [(0, .ref (q 0))] := hl
  refine lv_iconst (v := nI 0) hx hb dX11_openSet_0 (by decide +kernel) ?_
  refine lv_istore_n (lv' := [(1, .int (nI 0)), (0, .ref (q 0))]) hx hb dX11_openSet_1 rfl hl (by decide) rfl (fun ls hl => ?_)
  refine lv_iconst (v := nI 0) hx hb dX11_openSet_2 (by decide +kernel) ?_
  refine lv_istore_n (lv' := [(2, .int (nI 0)), (1, .int (nI 0)), (0, .ref (q 0))]) hx hb dX11_openSet_3 rfl hl (by decide) rfl (fun ls hl => ?_)
  have loop_54 : ∀ N : Nat, ∀ x_52 : Int32, zR 0 16777215 x_52 → ∀ x_53 : Int32, zR 0 24 x_53 → (2147483648 - (x_53).toInt).toNat < N → ∀ (H : Heap) (locs : List Loc), va_P D vwCl (zw 25 q (zMd q cA) I R J) H → va_D (zA 25 q sz) (zw 25 q (zMd q cA) I R J) → va_S (zA 25 q sz) s.heap H locs → ∀ ls : Array Slot, lv_has ls 3 [(0, .ref (q 0)), (1, .int (x_52)), (2, .int (x_53))] → W p l e ({ frames := 1, cells := 0, slots := 0, locals := 21 } : Room) s m ([.ref (q 0)] : List Value).toArray below meth c H locs 0 0 (MQ below (va_Qi (fun r u => zR 0 16777215 r ∧ u = (I, R, J)) (zB D vwCl 25 q (zMd q cA) sz) (zA 25 q sz)) ([.ref (q 0)] : List Value).toArray s 0 0 (zA 25 q sz)) (F0 m 4 ls []) := by
    intro N
    induction N with
    | zero => intro x_52 hx_52 x_53 hx_53 hN; exact absurd hN (Nat.not_lt_zero _)
    | succ N ih_56 =>
      intro x_52 hx_52 x_53 hx_53 hN_55 H locs hP hD hS ls hl
      refine lv_iload_n hx hb dX11_openSet_4 rfl (lv_at hl 2 rfl) ?_
      refine lv_aload_n hx hb dX11_openSet_5 rfl (lv_at hl 0 rfl) ?_
      refine z_get hx hb ht hown hK hP ziX11 rfl 0 (by decide) 26 (by decide) hw_5_213 rfl (v := .int (I 0 26)) rfl dX11_openSet_6 ?_
      have f_57 : zR 0 24 (I 0 26) := mI hI 0 26
      refine lv_icmp_ge (tgt := 36) hx hb dX11_openSet_9 (by decide) (fun c_58 => ?_) (fun c_58 => ?_)
      · have t_c_58 := z_leT c_58
        refine lv_iload_n hx hb dX11_openSet_36 rfl (lv_at hl 1 rfl) ?_
        exact z_iret (v := x_52) hx hb hr hlocks hP hD hS dX11_openSet_37 ⟨hx_52, rfl⟩
      · have t_c_58 := z_leF c_58
        have f_59 : zR 0 23 (x_53) := zR_ltx t_c_58 hx_53 f_57 (by decide)
        have f_60 : zR 1 24 (I 0 26) := zR_lty t_c_58 hx_53 f_57 (by decide)
        refine lv_iload_n hx hb dX11_openSet_12 rfl (lv_at hl 1 rfl) ?_
        refine lv_aload_n hx hb dX11_openSet_13 rfl (lv_at hl 0 rfl) ?_
        refine lv_iload_n hx hb dX11_openSet_14 rfl (lv_at hl 2 rfl) ?_
        have t_64 : ∀ x_63 : Int32, zR 0 8388608 x_63 → ∀ (H : Heap) (locs : List Loc), va_P D vwCl (zw 25 q (zMd q cA) I R J) H → va_D (zA 25 q sz) (zw 25 q (zMd q cA) I R J) → va_S (zA 25 q sz) s.heap H locs → ∀ ls : Array Slot, lv_has ls 3 [(0, .ref (q 0)), (1, .int (x_52)), (2, .int (x_53))] → W p l e ({ frames := 1, cells := 0, slots := 0, locals := 21 } : Room) s m ([.ref (q 0)] : List Value).toArray below meth c H locs 0 0 (MQ below (va_Qi (fun r u => zR 0 16777215 r ∧ u = (I, R, J)) (zB D vwCl 25 q (zMd q cA) sz) (zA 25 q sz)) ([.ref (q 0)] : List Value).toArray s 0 0 (zA 25 q sz)) (F0 m 28 ls [.int (x_63), .int (x_52)]) := by
          intro x_63 hx_63 H locs hP hD hS ls hl
          refine lv_ior hx hb dX11_openSet_28 ?_
          refine z_rng (a := 0) (b := 16777215) (zR_or 24 hx_52 hx_63 (by decide)) (fun v_65 hv_65 => ?_)
          refine lv_istore_n (lv' := [(1, .int (v_65)), (0, .ref (q 0)), (2, .int (x_53))]) hx hb dX11_openSet_29 rfl hl (by decide) rfl (fun ls hl => ?_)
          obtain ⟨v_66, ev_66⟩ : ∃ y : Int32, y = x_53 + nI 1 := ⟨_, rfl⟩
          have hv_66 : zR 1 24 v_66 := ev_66 ▸ zR_add f_59 zk_1 (by decide)
          have mv_66 : v_66.toInt = (x_53).toInt + 1 := by rw [ev_66, zR_addE f_59 zk_1 (by decide)]; rfl
          refine lv_iinc (v := v_66) (lv' := [(2, .int (v_66)), (1, .int (v_65)), (0, .ref (q 0))]) hx hb dX11_openSet_30 hl (k := 2) rfl (ev_66 ▸ rfl) (by decide) rfl (fun ls hl => ?_)
          refine lv_goto (tgt := 4) hx hb dX11_openSet_33 (by decide) ?_
          exact ih_56 (v_65) hv_65 (v_66) (zR_w hv_66 (by decide)) (z2_up mv_66 (by decide) hN_55) _ _ hP hD hS _ (lv_sub hl [2, 1, 0] rfl)
        refine z_callVi (k := 0) (As := [.int (x_53)]) (rest := [.int (x_52)]) hx hb hml hown ht (mk_X11_isOpen_1 l D q cA F _ _ _ hI (x_53) f_59) hw_6_230 hmX11_isOpen ⟨rfl, rfl⟩ (na := 1) rfl (by decide +kernel) (by decide) (by decide) rfl rfl hK hP hD hS hA hl.1 rfl (Nat.le_of_ble_eq_true rfl) ⟨Nat.zero_le _, Nat.zero_le _⟩ dX11_openSet_15 (fun r_61 I_61 R_61 J_61 H locs hp_61 hP hD hS _ _ => ?_)
        rcases hp_61 with ⟨rfl, hu_61⟩ | ⟨rfl, hu_61⟩
        · cases hu_61
          refine lv_if_eq (tgt := 27) hx hb dX11_openSet_18 (by decide) (fun c_0 => absurd c_0 (zD_ne zk_1 zk_z (by decide))) (fun _ => ?_)
          refine lv_iconst (v := nI 1) hx hb dX11_openSet_21 (by decide +kernel) ?_
          refine lv_iload_n hx hb dX11_openSet_22 rfl (lv_at hl 2 rfl) ?_
          refine lv_ishl hx hb dX11_openSet_23 ?_
          refine z_rng (a := 1) (b := 8388608) (zR_shl1 23 f_59 (by decide)) (fun v_67 hv_67 => ?_)
          refine lv_goto (tgt := 28) hx hb dX11_openSet_24 (by decide) ?_
          exact t_64 (v_67) (zR_w hv_67 (by decide)) _ _ hP hD hS _ (lv_sub hl [0, 1, 2] rfl)
        · cases hu_61
          refine lv_if_eq (tgt := 27) hx hb dX11_openSet_18 (by decide) (fun _ => ?_) (fun c_0 => absurd (zD_eq zk_0 zk_z) c_0)
          refine lv_iconst (v := nI 0) hx hb dX11_openSet_27 (by decide +kernel) ?_
          exact t_64 (nI 0) (zR_w zk_0 (by decide)) _ _ hP hD hS _ (lv_sub hl [0, 1, 2] rfl)
  exact loop_54 _ (nI 0) (zR_w zk_0 (by decide)) (nI 0) (zR_w zk_0 (by decide)) (Nat.lt_succ_self _) _ _ hP hD hS _ (lv_sub hl [2, 1, 0] rfl)
set_option maxHeartbeats 4000000 in
set_option maxRecDepth 100000 in
theorem mk_X11_bits (l : Launch) (D : va_G) (q : Nat → Nat) (cA : Nat → ClassId) (F : Nat → Nat → Int32) (I R : Nat → Nat → Int32) (J : Nat → Nat → Int64) (hI : mInv F (I, R, J)) (pa0 : Int32) : zMi l D vwCl (zMtys cA) 25 q (zMd q cA) yX11_bits cX11_bits 3 (some .int) ({ frames := 0, cells := 0, slots := 0, locals := 0 } : Room) [.int (pa0)] (I, R, J) (fun _ u => u = (I, R, J)) := by
  intro sz
  refine z_body (by decide +kernel) (Nat.le_of_ble_eq_true rfl) (fun p e s m below meth c ls hx hb hml hr ht hown hlocks hsz hK hP hD hS hl => ?_)
  have hA : ∀ a, s.heap.size ≤ a → zA 25 q sz a := fun a h => Or.inr (hsz ▸ h)
  have hl : lv_has ls 3 [(0, .int (pa0))] := hl
  refine lv_iconst (v := nI 0) hx hb dX11_bits_0 (by decide +kernel) ?_
  refine lv_istore_n (lv' := [(1, .int (nI 0)), (0, .int (pa0))]) hx hb dX11_bits_1 rfl hl (by decide) rfl (fun ls hl => ?_)
  refine lv_iconst (v := nI 0) hx hb dX11_bits_2 (by decide +kernel) ?_
  refine lv_istore_n (lv' := [(2, .int (nI 0)), (1, .int (nI 0)), (0, .int (pa0))]) hx hb dX11_bits_3 rfl hl (by decide) rfl (fun ls hl => ?_)
  have loop_93 : ∀ N : Nat, ∀ x_91 : Int32, ∀ x_92 : Int32, zR 0 24 x_92 → (2147483648 - (x_92).toInt).toNat < N → ∀ (H : Heap) (locs : List Loc), va_P D vwCl (zw 25 q (zMd q cA) I R J) H → va_D (zA 25 q sz) (zw 25 q (zMd q cA) I R J) → va_S (zA 25 q sz) s.heap H locs → ∀ ls : Array Slot, lv_has ls 3 [(0, .int (pa0)), (1, .int (x_91)), (2, .int (x_92))] → W p l e ({ frames := 0, cells := 0, slots := 0, locals := 0 } : Room) s m ([.int (pa0)] : List Value).toArray below meth c H locs 0 0 (MQ below (va_Qi (fun _ u => u = (I, R, J)) (zB D vwCl 25 q (zMd q cA) sz) (zA 25 q sz)) ([.int (pa0)] : List Value).toArray s 0 0 (zA 25 q sz)) (F0 m 4 ls []) := by
    intro N
    induction N with
    | zero => intro x_91 x_92 hx_92 hN; exact absurd hN (Nat.not_lt_zero _)
    | succ N ih_95 =>
      intro x_91 x_92 hx_92 hN_94 H locs hP hD hS ls hl
      refine lv_iload_n hx hb dX11_bits_4 rfl (lv_at hl 2 rfl) ?_
      refine lv_bipush (v := nI 24) hx hb dX11_bits_5 (by decide +kernel) ?_
      refine lv_icmp_ge (tgt := 24) hx hb dX11_bits_7 (by decide) (fun c_96 => ?_) (fun c_96 => ?_)
      · have t_c_96 := z_leT c_96
        have f_97 : zR 24 24 (x_92) := zR_ley t_c_96 zk_24 hx_92 (by decide)
        refine lv_iload_n hx hb dX11_bits_24 rfl (lv_at hl 1 rfl) ?_
        exact z_iret (v := x_91) hx hb hr hlocks hP hD hS dX11_bits_25 rfl
      · have t_c_96 := z_leF c_96
        have f_98 : zR 0 23 (x_92) := zR_ltx t_c_96 hx_92 zk_24 (by decide)
        refine lv_iload_n hx hb dX11_bits_10 rfl (lv_at hl 1 rfl) ?_
        refine lv_iload_n hx hb dX11_bits_11 rfl (lv_at hl 0 rfl) ?_
        refine lv_iload_n hx hb dX11_bits_12 rfl (lv_at hl 2 rfl) ?_
        refine lv_ishr hx hb dX11_bits_13 ?_
        refine z_any (fun v_99 => ?_)
        refine lv_iconst (v := nI 1) hx hb dX11_bits_14 (by decide +kernel) ?_
        refine lv_iand hx hb dX11_bits_15 ?_
        refine z_rng (a := 0) (b := 1) (zR_andr zk_1 (by decide)) (fun v_100 hv_100 => ?_)
        refine lv_iadd hx hb dX11_bits_16 ?_
        refine z_any (fun v_101 => ?_)
        refine lv_istore_n (lv' := [(1, .int (v_101)), (0, .int (pa0)), (2, .int (x_92))]) hx hb dX11_bits_17 rfl hl (by decide) rfl (fun ls hl => ?_)
        obtain ⟨v_102, ev_102⟩ : ∃ y : Int32, y = x_92 + nI 1 := ⟨_, rfl⟩
        have hv_102 : zR 1 24 v_102 := ev_102 ▸ zR_add f_98 zk_1 (by decide)
        have mv_102 : v_102.toInt = (x_92).toInt + 1 := by rw [ev_102, zR_addE f_98 zk_1 (by decide)]; rfl
        refine lv_iinc (v := v_102) (lv' := [(2, .int (v_102)), (1, .int (v_101)), (0, .int (pa0))]) hx hb dX11_bits_18 hl (k := 2) rfl (ev_102 ▸ rfl) (by decide) rfl (fun ls hl => ?_)
        refine lv_goto (tgt := 4) hx hb dX11_bits_21 (by decide) ?_
        exact ih_95 (v_101) (v_102) (zR_w hv_102 (by decide)) (z2_up mv_102 (by decide) hN_94) _ _ hP hD hS _ (lv_sub hl [2, 1, 0] rfl)
  exact loop_93 _ (nI 0) (nI 0) (zR_w zk_0 (by decide)) (Nat.lt_succ_self _) _ _ hP hD hS _ (lv_sub hl [2, 1, 0] rfl)
set_option maxHeartbeats 4000000 in
set_option maxRecDepth 100000 in
theorem mk_X11_strike (l : Launch) (D : va_G) (q : Nat → Nat) (cA : Nat → ClassId) (F : Nat → Nat → Int32) (I R : Nat → Nat → Int32) (J : Nat → Nat → Int64) (hI : mInv F (I, R, J)) (pa0 : Int32) : zMi l D vwCl (zMtys cA) 25 q (zMd q cA) yX11_strike cX11_strike 2 (some .int) ({ frames := 7, cells := 0, slots := 0, locals := 176 } : Room) [.ref (q 0), .int (pa0)] (I, R, J) (fun _ u => ∃ w9, mInv (zr F 1 w9) u) := by
  intro sz
  refine z_body (by decide +kernel) (Nat.le_of_ble_eq_true rfl) (fun p e s m below meth c ls hx hb hml hr ht hown hlocks hsz hK hP hD hS hl => ?_)
  have hA : ∀ a, s.heap.size ≤ a → zA 25 q sz a := fun a h => Or.inr (hsz ▸ h)
  have hl : lv_has ls 2 [(0, .ref (q 0)), (1, .int (pa0))] := hl
  refine lv_aload_n hx hb dX11_strike_0 rfl (lv_at hl 0 rfl) ?_
  refine lv_iload_n hx hb dX11_strike_1 rfl (lv_at hl 1 rfl) ?_
  refine z_callVi (k := 0) (As := [.int (pa0)]) (rest := []) hx hb hml hown ht (mk_X11_isPaper l D q cA F _ _ _ hI (pa0)) hw_7_18 hmX11_isPaper ⟨rfl, rfl⟩ (na := 1) rfl (by decide +kernel) (by decide) (by decide) rfl rfl hK hP hD hS hA hl.1 rfl (Nat.le_of_ble_eq_true rfl) ⟨Nat.zero_le _, Nat.zero_le _⟩ dX11_strike_2 (fun r_1 I_1 R_1 J_1 H locs hp_1 hP hD hS _ _ => ?_)
  rcases hp_1 with ⟨rfl, hu_1, f0_1⟩ | ⟨rfl, hu_1⟩
  · obtain ⟨hv_1, hj_1⟩ := hu_1
    try dsimp only at hj_1
    subst J_1
    refine lv_if_ne (tgt := 11) hx hb dX11_strike_5 (by decide) (fun _ => ?_) (fun c_0 => absurd c_0 (zD_ne zk_1 zk_z (by decide)))
    refine lv_aload_n hx hb dX11_strike_11 rfl (lv_at hl 0 rfl) ?_
    refine lv_iload_n hx hb dX11_strike_12 rfl (lv_at hl 1 rfl) ?_
    refine z_callVi (k := 0) (As := [.int (pa0)]) (rest := []) hx hb hml hown ht (mk_X11_isOpen_1 l D q cA F _ _ _ hv_1 (pa0) f0_1) hw_6_230 hmX11_isOpen ⟨rfl, rfl⟩ (na := 1) rfl (by decide +kernel) (by decide) (by decide) rfl rfl hK hP hD hS hA hl.1 rfl (Nat.le_of_ble_eq_true rfl) ⟨Nat.zero_le _, Nat.zero_le _⟩ dX11_strike_13 (fun r_2 I_2 R_2 J_2 H locs hp_2 hP hD hS _ _ => ?_)
    rcases hp_2 with ⟨rfl, hu_2⟩ | ⟨rfl, hu_2⟩
    · cases hu_2
      refine lv_if_eq (tgt := 42) hx hb dX11_strike_16 (by decide) (fun c_0 => absurd c_0 (zD_ne zk_1 zk_z (by decide))) (fun _ => ?_)
      refine lv_aload_n hx hb dX11_strike_19 rfl (lv_at hl 0 rfl) ?_
      refine lv_iconst (v := nI 3) hx hb dX11_strike_20 (by decide +kernel) ?_
      refine lv_iload_n hx hb dX11_strike_21 rfl (lv_at hl 1 rfl) ?_
      refine lv_iconst (v := nI 0) hx hb dX11_strike_22 (by decide +kernel) ?_
      refine lv_iconst (v := nI 0) hx hb dX11_strike_23 (by decide +kernel) ?_
      refine z_callVi (k := 0) (As := [.int (nI 3), .int (pa0), .int (nI 0), .int (nI 0)]) (rest := []) hx hb hml hown ht (mk_X11_keepAct_3 l D q cA F _ _ _ hv_1 (pa0) f0_1 (nI 0) (zR_w zk_0 (by decide)) (nI 0) (zR_w zk_0 (by decide))) hw_7_44 hmX11_keepAct ⟨rfl, rfl⟩ (na := 4) rfl (by decide +kernel) (by decide) (by decide) rfl rfl hK hP hD hS hA hl.1 rfl (Nat.le_of_ble_eq_true rfl) ⟨Nat.zero_le _, Nat.zero_le _⟩ dX11_strike_24 (fun r_3 I_3 R_3 J_3 H locs hp_3 hP hD hS _ _ => ?_)
      rcases hp_3 with ⟨rfl, hu_3⟩ | ⟨rfl, hu_3⟩
      · obtain ⟨w_3, hv_3⟩ := hu_3
        refine lv_if_eq (tgt := 42) hx hb dX11_strike_27 (by decide) (fun c_0 => absurd c_0 (zD_ne zk_1 zk_z (by decide))) (fun _ => ?_)
        refine lv_aload_n hx hb dX11_strike_30 rfl (lv_at hl 0 rfl) ?_
        refine z_callVi (k := 0) (As := []) (rest := []) hx hb hml hown ht (mk_X11_openSet l D q cA (zr F 1 w_3) _ _ _ hv_3 ) hw_7_60 hmX11_openSet ⟨rfl, rfl⟩ (na := 0) rfl (by decide +kernel) (by decide) (by decide) rfl rfl hK hP hD hS hA hl.1 rfl (Nat.le_of_ble_eq_true rfl) ⟨Nat.zero_le _, Nat.zero_le _⟩ dX11_strike_31 (fun r_4 I_4 R_4 J_4 H locs hp_4 hP hD hS _ _ => ?_)
        obtain ⟨hr_4, hu_4⟩ := hp_4
        cases hu_4
        refine z_callSi (As := [.int (r_4)]) (rest := []) hx hb hml hown ht (mk_X11_bits l D q cA (zr F 1 w_3) _ _ _ hv_3 (r_4)) hw_7_64 hmX11_bits ⟨rfl, rfl⟩ (na := 1) rfl (by decide +kernel) (by decide) hK hP hD hS hA hl.1 rfl (Nat.le_of_ble_eq_true rfl) ⟨Nat.zero_le _, Nat.zero_le _⟩ dX11_strike_34 (fun r_5 I_5 R_5 J_5 H locs hp_5 hP hD hS _ _ => ?_)
        cases hp_5
        refine lv_iconst (v := nI 1) hx hb dX11_strike_37 (by decide +kernel) ?_
        refine lv_isub hx hb dX11_strike_38 ?_
        refine z_any (fun v_6 => ?_)
        refine lv_goto (tgt := 44) hx hb dX11_strike_39 (by decide) ?_
        exact z_iret (v := v_6) hx hb hr hlocks hP hD hS dX11_strike_44 ⟨_, hv_3⟩
      · cases hu_3
        refine lv_if_eq (tgt := 42) hx hb dX11_strike_27 (by decide) (fun _ => ?_) (fun c_0 => absurd (zD_eq zk_0 zk_z) c_0)
        refine lv_bipush (v := (-5)) hx hb dX11_strike_42 (by decide +kernel) ?_
        exact z_iret (v := (-5)) hx hb hr hlocks hP hD hS dX11_strike_44 ⟨_, mInv_E hv_1⟩
    · cases hu_2
      refine lv_if_eq (tgt := 42) hx hb dX11_strike_16 (by decide) (fun _ => ?_) (fun c_0 => absurd (zD_eq zk_0 zk_z) c_0)
      refine lv_bipush (v := (-5)) hx hb dX11_strike_42 (by decide +kernel) ?_
      exact z_iret (v := (-5)) hx hb hr hlocks hP hD hS dX11_strike_44 ⟨_, mInv_E hv_1⟩
  · obtain ⟨hv_1, hj_1⟩ := hu_1
    try dsimp only at hj_1
    subst J_1
    refine lv_if_ne (tgt := 11) hx hb dX11_strike_5 (by decide) (fun c_0 => absurd (zD_eq zk_0 zk_z) c_0) (fun _ => ?_)
    refine lv_bipush (v := (-2)) hx hb dX11_strike_8 (by decide +kernel) ?_
    exact z_iret (v := (-2)) hx hb hr hlocks hP hD hS dX11_strike_10 ⟨_, mInv_E hv_1⟩
