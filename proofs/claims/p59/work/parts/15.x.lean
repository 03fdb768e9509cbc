set_option maxHeartbeats 4000000 in
set_option maxRecDepth 100000 in
theorem xk_X10_thingsOwnedBy (l : Launch) (D : va_G) (q : Nat → Nat) (cA : Nat → ClassId) (F : Nat → Nat → Int32) (I R : Nat → Nat → Int32) (J : Nat → Nat → Int64) (hI : xInv F (I, R, J)) (pa0 : Int32) (hpa0 : zR (-1) 4 pa0) : zMi l D vwCl (zXtys cA) 81 q (zXd q cA) yX10_thingsOwnedBy cX10_thingsOwnedBy 4 (some .int) ({ frames := 4, cells := 0, slots := 0, locals := 90 } : Room) [.ref (q 0), .int (pa0)] (I, R, J) (fun r u => zR 0 63 r ∧ xInv F u) := by
  intro sz
  refine z_body (by decide +kernel) (Nat.le_of_ble_eq_true rfl) (fun p e s m below meth c ls hx hb hml hr ht hown hlocks hsz hK hP hD hS hl => ?_)
  have hA : ∀ a, s.heap.size ≤ a → zA 81 q sz a := fun a h => Or.inr (hsz ▸ h)
  have hl : lv_has ls 4 [(0, .ref (q 0)), (1, .int (pa0))] := hl
  refine lv_iconst (v := nI 0) hx hb dX10_thingsOwnedBy_0 (by decide +kernel) ?_
  refine lv_istore_n (lv' := [(2, .int (nI 0)), (0, .ref (q 0)), (1, .int (pa0))]) hx hb dX10_thingsOwnedBy_1 rfl hl (by decide) rfl (fun ls hl => ?_)
  refine lv_iconst (v := nI 0) hx hb dX10_thingsOwnedBy_2 (by decide +kernel) ?_
  refine lv_istore_n (lv' := [(3, .int (nI 0)), (2, .int (nI 0)), (0, .ref (q 0)), (1, .int (pa0))]) hx hb dX10_thingsOwnedBy_3 rfl hl (by decide) rfl (fun ls hl => ?_)
  have loop_73 : ∀ N : Nat, ∀ x_70 : Int32, zR 0 63 x_70 → ∀ x_71 : Int32, zR 0 6 x_71 → ∀ I_72 : Nat → Nat → Int32, ∀ R_72 : Nat → Nat → Int32, ∀ J_72 : Nat → Nat → Int64, xInv F (I_72, R_72, J_72) → (2147483648 - (x_71).toInt).toNat < N → ∀ (H : Heap) (locs : List Loc), va_P D vwCl (zw 81 q (zXd q cA) I_72 R_72 J_72) H → va_D (zA 81 q sz) (zw 81 q (zXd q cA) I_72 R_72 J_72) → va_S (zA 81 q sz) s.heap H locs → ∀ ls : Array Slot, lv_has ls 4 [(0, .ref (q 0)), (1, .int (pa0)), (2, .int (x_70)), (3, .int (x_71))] → W p l e ({ frames := 4, cells := 0, slots := 0, locals := 90 } : Room) s m ([.ref (q 0), .int (pa0)] : List Value).toArray below meth c H locs 0 0 (MQ below (va_Qi (fun r u => zR 0 63 r ∧ xInv F u) (zB D vwCl 81 q (zXd q cA) sz) (zA 81 q sz)) ([.ref (q 0), .int (pa0)] : List Value).toArray s 0 0 (zA 81 q sz)) (F0 m 4 ls []) := by
    intro N
    induction N with
    | zero => intro x_70 hx_70 x_71 hx_71 I_72 R_72 J_72 hI_72 hN; exact absurd hN (Nat.not_lt_zero _)
    | succ N ih_75 =>
      intro x_70 hx_70 x_71 hx_71 I_72 R_72 J_72 hI_72 hN_74 H locs hP hD hS ls hl
      refine lv_iload_n hx hb dX10_thingsOwnedBy_4 rfl (lv_at hl 3 rfl) ?_
      refine lv_aload_n hx hb dX10_thingsOwnedBy_5 rfl (lv_at hl 0 rfl) ?_
      refine z_get hx hb ht hown hK hP ziX10 rfl 0 (by decide) 1 (by decide) hw_2_94 rfl (v := .ref (q 3)) rfl dX10_thingsOwnedBy_6 ?_
      refine z_get hx hb ht hown hK hP ziX2 rfl 3 (by decide) 5 (by decide) hw_1_93 rfl (v := .int (I_72 3 5)) rfl dX10_thingsOwnedBy_9 ?_
      have f_76 : zR 0 6 (I_72 3 5) := xI hI_72 3 5
      refine lv_icmp_ge (tgt := 50) hx hb dX10_thingsOwnedBy_12 (by decide) (fun c_77 => ?_) (fun c_77 => ?_)
      · have t_c_77 := z_leT c_77
        refine lv_iload_n hx hb dX10_thingsOwnedBy_50 rfl (lv_at hl 2 rfl) ?_
        exact z_iret (v := x_70) hx hb hr hlocks hP hD hS dX10_thingsOwnedBy_51 ⟨hx_70, hI_72⟩
      · have t_c_77 := z_leF c_77
        have f_78 : zR 0 5 (x_71) := zR_ltx t_c_77 hx_71 f_76 (by decide)
        have f_79 : zR 1 6 (I_72 3 5) := zR_lty t_c_77 hx_71 f_76 (by decide)
        refine lv_aload_n hx hb dX10_thingsOwnedBy_15 rfl (lv_at hl 0 rfl) ?_
        refine z_get hx hb ht hown hK hP ziX10 rfl 0 (by decide) 6 (by decide) hw_2_99 rfl (v := .ref (q 39)) rfl dX10_thingsOwnedBy_16 ?_
        refine lv_aload_n hx hb dX10_thingsOwnedBy_19 rfl (lv_at hl 0 rfl) ?_
        refine z_get hx hb ht hown hK hP ziX10 rfl 0 (by decide) 4 (by decide) hw_2_97 rfl (v := .ref (q 15)) rfl dX10_thingsOwnedBy_20 ?_
        refine lv_iload_n hx hb dX10_thingsOwnedBy_23 rfl (lv_at hl 3 rfl) ?_
        refine z_callVv (k := 39) (As := [.ref (q 15), .int (x_71)]) (rest := []) hx hb hml hown ht (xk_X8_follow l D q cA F _ _ _ hI_72 (x_71) f_78) hw_4_35 hmX8_follow ⟨rfl, rfl⟩ (na := 2) rfl (by decide +kernel) (by decide) (by decide) rfl rfl hK hP hD hS hA hl.1 rfl (Nat.le_of_ble_eq_true rfl) ⟨Nat.zero_le _, Nat.zero_le _⟩ dX10_thingsOwnedBy_24 (fun I_80 R_80 J_80 H locs hp_80 hP hD hS _ _ => ?_)
        refine lv_aload_n hx hb dX10_thingsOwnedBy_27 rfl (lv_at hl 0 rfl) ?_
        refine z_get hx hb ht hown hK hP ziX10 rfl 0 (by decide) 6 (by decide) hw_2_99 rfl (v := .ref (q 39)) rfl dX10_thingsOwnedBy_28 ?_
        refine z_callVi (k := 39) (As := []) (rest := []) hx hb hml hown ht (xk_X8_last l D q cA F _ _ _ hp_80 ) hw_4_46 hmX8_last ⟨rfl, rfl⟩ (na := 0) rfl (by decide +kernel) (by decide) (by decide) rfl rfl hK hP hD hS hA hl.1 rfl (Nat.le_of_ble_eq_true rfl) ⟨Nat.zero_le _, Nat.zero_le _⟩ dX10_thingsOwnedBy_31 (fun r_81 I_81 R_81 J_81 H locs hp_81 hP hD hS _ _ => ?_)
        cases hp_81
        refine lv_iload_n hx hb dX10_thingsOwnedBy_34 rfl (lv_at hl 1 rfl) ?_
        have t_87 : ∀ x_86 : Int32, zR 0 63 x_86 → ∀ (H : Heap) (locs : List Loc), va_P D vwCl (zw 81 q (zXd q cA) I_80 R_80 J_80) H → va_D (zA 81 q sz) (zw 81 q (zXd q cA) I_80 R_80 J_80) → va_S (zA 81 q sz) s.heap H locs → ∀ ls : Array Slot, lv_has ls 4 [(0, .ref (q 0)), (1, .int (pa0)), (2, .int (x_86)), (3, .int (x_71))] → W p l e ({ frames := 4, cells := 0, slots := 0, locals := 90 } : Room) s m ([.ref (q 0), .int (pa0)] : List Value).toArray below meth c H locs 0 0 (MQ below (va_Qi (fun r u => zR 0 63 r ∧ xInv F u) (zB D vwCl 81 q (zXd q cA) sz) (zA 81 q sz)) ([.ref (q 0), .int (pa0)] : List Value).toArray s 0 0 (zA 81 q sz)) (F0 m 44 ls []) := by
          intro x_86 hx_86 H locs hP hD hS ls hl
          obtain ⟨v_88, ev_88⟩ : ∃ y : Int32, y = x_71 + nI 1 := ⟨_, rfl⟩
          have hv_88 : zR 1 6 v_88 := ev_88 ▸ zR_add f_78 zk_1 (by decide)
          have mv_88 : v_88.toInt = (x_71).toInt + 1 := by rw [ev_88, zR_addE f_78 zk_1 (by decide)]; rfl
          refine lv_iinc (v := v_88) (lv' := [(3, .int (v_88)), (0, .ref (q 0)), (1, .int (pa0)), (2, .int (x_86))]) hx hb dX10_thingsOwnedBy_44 hl (k := 3) rfl (ev_88 ▸ rfl) (by decide) rfl (fun ls hl => ?_)
          refine lv_goto (tgt := 4) hx hb dX10_thingsOwnedBy_47 (by decide) ?_
          exact ih_75 (x_86) hx_86 (v_88) (zR_w hv_88 (by decide)) _ _ _ hp_80 (z2_up mv_88 (by decide) hN_74) _ _ hP hD hS _ (lv_sub hl [1, 2, 3, 0] rfl)
        refine lv_icmp_ne (tgt := 44) hx hb dX10_thingsOwnedBy_35 (by decide) (fun c_82 => ?_) (fun c_82 => ?_)
        · have t_c_82 := z_eqF c_82
          exact t_87 (x_70) hx_70 _ _ hP hD hS _ (lv_sub hl [0, 1, 2, 3] rfl)
        · have t_c_82 := z_eqT c_82
          have f_89 : zR (-1) 4 (r_81) := zR_eqx t_c_82 hpa0
          refine lv_iload_n hx hb dX10_thingsOwnedBy_38 rfl (lv_at hl 2 rfl) ?_
          refine lv_iconst (v := nI 1) hx hb dX10_thingsOwnedBy_39 (by decide +kernel) ?_
          refine lv_iload_n hx hb dX10_thingsOwnedBy_40 rfl (lv_at hl 3 rfl) ?_
          refine lv_ishl hx hb dX10_thingsOwnedBy_41 ?_
          refine z_rng (a := 1) (b := 32) (zR_shl1 5 f_78 (by decide)) (fun v_90 hv_90 => ?_)
          refine lv_ior hx hb dX10_thingsOwnedBy_42 ?_
          refine z_rng (a := 0) (b := 63) (zR_or 6 hx_70 hv_90 (by decide)) (fun v_91 hv_91 => ?_)
          refine lv_istore_n (lv' := [(2, .int (v_91)), (0, .ref (q 0)), (1, .int (pa0)), (3, .int (x_71))]) hx hb dX10_thingsOwnedBy_43 rfl hl (by decide) rfl (fun ls hl => ?_)
          exact t_87 (v_91) hv_91 _ _ hP hD hS _ (lv_sub hl [1, 2, 0, 3] rfl)
  exact loop_73 _ (nI 0) (zR_w zk_0 (by decide)) (nI 0) (zR_w zk_0 (by decide)) _ _ _ hI (Nat.lt_succ_self _) _ _ hP hD hS _ (lv_sub hl [2, 3, 1, 0] rfl)
set_option maxHeartbeats 4000000 in
set_option maxRecDepth 100000 in
theorem xk_X10_rings (l : Launch) (D : va_G) (q : Nat → Nat) (cA : Nat → ClassId) (F : Nat → Nat → Int32) (I R : Nat → Nat → Int32) (J : Nat → Nat → Int64) (hI : xInv F (I, R, J))  : zMi l D vwCl (zXtys cA) 81 q (zXd q cA) yX10_rings cX10_rings 1 (some .int) ({ frames := 5, cells := 0, slots := 0, locals := 113 } : Room) [.ref (q 0)] (I, R, J) (fun r u => zR (-2) 63 r ∧ xInv F u) := by
  intro sz
  refine z_body (by decide +kernel) (Nat.le_of_ble_eq_true rfl) (fun p e s m below meth c ls hx hb hml hr ht hown hlocks hsz hK hP hD hS hl => ?_)
  have hA : ∀ a, s.heap.size ≤ a → zA 81 q sz a := fun a h => Or.inr (hsz ▸ h)
  have hl : lv_has ls 1 [(0, .ref (q 0))] := hl
  refine lv_aload_n hx hb dX10_rings_0 rfl (lv_at hl 0 rfl) ?_
  refine z_callVi (k := 0) (As := []) (rest := []) hx hb hml hown ht (xk_X10_hasCity l D q cA F _ _ _ hI ) hw_4_0 hmX10_hasCity ⟨rfl, rfl⟩ (na := 0) rfl (by decide +kernel) (by decide) (by decide) rfl rfl hK hP hD hS hA hl.1 rfl (Nat.le_of_ble_eq_true rfl) ⟨Nat.zero_le _, Nat.zero_le _⟩ dX10_rings_1 (fun r_1 I_1 R_1 J_1 H locs hp_1 hP hD hS _ _ => ?_)
  rcases hp_1 with ⟨rfl, hu_1⟩ | ⟨rfl, hu_1⟩
  · cases hu_1
    refine lv_if_eq (tgt := 15) hx hb dX10_rings_4 (by decide) (fun c_0 => absurd c_0 (zD_ne zk_1 zk_z (by decide))) (fun _ => ?_)
    refine lv_aload_n hx hb dX10_rings_7 rfl (lv_at hl 0 rfl) ?_
    refine lv_iconst (v := (-1)) hx hb dX10_rings_8 (by decide +kernel) ?_
    refine z_callVi (k := 0) (As := [.int ((-1))]) (rest := []) hx hb hml hown ht (xk_X10_thingsOwnedBy l D q cA F _ _ _ hI ((-1)) (zR_w zk_m1 (by decide))) hw_4_58 hmX10_thingsOwnedBy ⟨rfl, rfl⟩ (na := 1) rfl (by decide +kernel) (by decide) (by decide) rfl rfl hK hP hD hS hA hl.1 rfl (Nat.le_of_ble_eq_true rfl) ⟨Nat.zero_le _, Nat.zero_le _⟩ dX10_rings_9 (fun r_2 I_2 R_2 J_2 H locs hp_2 hP hD hS _ _ => ?_)
    obtain ⟨hr_2, hu_2⟩ := hp_2
    refine lv_goto (tgt := 17) hx hb dX10_rings_12 (by decide) ?_
    exact z_iret (v := r_2) hx hb hr hlocks hP hD hS dX10_rings_17 ⟨(zR_w hr_2 (by decide)), hu_2⟩
  · cases hu_1
    refine lv_if_eq (tgt := 15) hx hb dX10_rings_4 (by decide) (fun _ => ?_) (fun c_0 => absurd (zD_eq zk_0 zk_z) c_0)
    refine lv_bipush (v := (-2)) hx hb dX10_rings_15 (by decide +kernel) ?_
    exact z_iret (v := (-2)) hx hb hr hlocks hP hD hS dX10_rings_17 ⟨(zR_w zk_m2 (by decide)), hI⟩
set_option maxHeartbeats 4000000 in
set_option maxRecDepth 100000 in
theorem xk_X10_thingsOwnedBy_1 (l : Launch) (D : va_G) (q : Nat → Nat) (cA : Nat → ClassId) (F : Nat → Nat → Int32) (I R : Nat → Nat → Int32) (J : Nat → Nat → Int64) (hI : xInv F (I, R, J)) (pa0 : Int32) (hpa0 : zR 0 4 pa0) : zMi l D vwCl (zXtys cA) 81 q (zXd q cA) yX10_thingsOwnedBy cX10_thingsOwnedBy 4 (some .int) ({ frames := 4, cells := 0, slots := 0, locals := 90 } : Room) [.ref (q 0), .int (pa0)] (I, R, J) (fun r u => zR 0 63 r ∧ xInv F u) := by
  intro sz
  refine z_body (by decide +kernel) (Nat.le_of_ble_eq_true rfl) (fun p e s m below meth c ls hx hb hml hr ht hown hlocks hsz hK hP hD hS hl => ?_)
  have hA : ∀ a, s.heap.size ≤ a → zA 81 q sz a := fun a h => Or.inr (hsz ▸ h)
  have hl : lv_has ls 4 [(0, .ref (q 0)), (1, .int (pa0))] := hl
  refine lv_iconst (v := nI 0) hx hb dX10_thingsOwnedBy_0 (by decide +kernel) ?_
  refine lv_istore_n (lv' := [(2, .int (nI 0)), (0, .ref (q 0)), (1, .int (pa0))]) hx hb dX10_thingsOwnedBy_1 rfl hl (by decide) rfl (fun ls hl => ?_)
  refine lv_iconst (v := nI 0) hx hb dX10_thingsOwnedBy_2 (by decide +kernel) ?_
  refine lv_istore_n (lv' := [(3, .int (nI 0)), (2, .int (nI 0)), (0, .ref (q 0)), (1, .int (pa0))]) hx hb dX10_thingsOwnedBy_3 rfl hl (by decide) rfl (fun ls hl => ?_)
  have loop_73 : ∀ N : Nat, ∀ x_70 : Int32, zR 0 63 x_70 → ∀ x_71 : Int32, zR 0 6 x_71 → ∀ I_72 : Nat → Nat → Int32, ∀ R_72 : Nat → Nat → Int32, ∀ J_72 : Nat → Nat → Int64, xInv F (I_72, R_72, J_72) → (2147483648 - (x_71).toInt).toNat < N → ∀ (H : Heap) (locs : List Loc), va_P D vwCl (zw 81 q (zXd q cA) I_72 R_72 J_72) H → va_D (zA 81 q sz) (zw 81 q (zXd q cA) I_72 R_72 J_72) → va_S (zA 81 q sz) s.heap H locs → ∀ ls : Array Slot, lv_has ls 4 [(0, .ref (q 0)), (1, .int (pa0)), (2, .int (x_70)), (3, .int (x_71))] → W p l e ({ frames := 4, cells := 0, slots := 0, locals := 90 } : Room) s m ([.ref (q 0), .int (pa0)] : List Value).toArray below meth c H locs 0 0 (MQ below (va_Qi (fun r u => zR 0 63 r ∧ xInv F u) (zB D vwCl 81 q (zXd q cA) sz) (zA 81 q sz)) ([.ref (q 0), .int (pa0)] : List Value).toArray s 0 0 (zA 81 q sz)) (F0 m 4 ls []) := by
    intro N
    induction N with
    | zero => intro x_70 hx_70 x_71 hx_71 I_72 R_72 J_72 hI_72 hN; exact absurd hN (Nat.not_lt_zero _)
    | succ N ih_75 =>
      intro x_70 hx_70 x_71 hx_71 I_72 R_72 J_72 hI_72 hN_74 H locs hP hD hS ls hl
      refine lv_iload_n hx hb dX10_thingsOwnedBy_4 rfl (lv_at hl 3 rfl) ?_
      refine lv_aload_n hx hb dX10_thingsOwnedBy_5 rfl (lv_at hl 0 rfl) ?_
      refine z_get hx hb ht hown hK hP ziX10 rfl 0 (by decide) 1 (by decide) hw_2_94 rfl (v := .ref (q 3)) rfl dX10_thingsOwnedBy_6 ?_
      refine z_get hx hb ht hown hK hP ziX2 rfl 3 (by decide) 5 (by decide) hw_1_93 rfl (v := .int (I_72 3 5)) rfl dX10_thingsOwnedBy_9 ?_
      have f_76 : zR 0 6 (I_72 3 5) := xI hI_72 3 5
      refine lv_icmp_ge (tgt := 50) hx hb dX10_thingsOwnedBy_12 (by decide) (fun c_77 => ?_) (fun c_77 => ?_)
      · have t_c_77 := z_leT c_77
        refine lv_iload_n hx hb dX10_thingsOwnedBy_50 rfl (lv_at hl 2 rfl) ?_
        exact z_iret (v := x_70) hx hb hr hlocks hP hD hS dX10_thingsOwnedBy_51 ⟨hx_70, hI_72⟩
      · have t_c_77 := z_leF c_77
        have f_78 : zR 0 5 (x_71) := zR_ltx t_c_77 hx_71 f_76 (by decide)
        have f_79 : zR 1 6 (I_72 3 5) := zR_lty t_c_77 hx_71 f_76 (by decide)
        refine lv_aload_n hx hb dX10_thingsOwnedBy_15 rfl (lv_at hl 0 rfl) ?_
        refine z_get hx hb ht hown hK hP ziX10 rfl 0 (by decide) 6 (by decide) hw_2_99 rfl (v := .ref (q 39)) rfl dX10_thingsOwnedBy_16 ?_
        refine lv_aload_n hx hb dX10_thingsOwnedBy_19 rfl (lv_at hl 0 rfl) ?_
        refine z_get hx hb ht hown hK hP ziX10 rfl 0 (by decide) 4 (by decide) hw_2_97 rfl (v := .ref (q 15)) rfl dX10_thingsOwnedBy_20 ?_
        refine lv_iload_n hx hb dX10_thingsOwnedBy_23 rfl (lv_at hl 3 rfl) ?_
        refine z_callVv (k := 39) (As := [.ref (q 15), .int (x_71)]) (rest := []) hx hb hml hown ht (xk_X8_follow l D q cA F _ _ _ hI_72 (x_71) f_78) hw_4_35 hmX8_follow ⟨rfl, rfl⟩ (na := 2) rfl (by decide +kernel) (by decide) (by decide) rfl rfl hK hP hD hS hA hl.1 rfl (Nat.le_of_ble_eq_true rfl) ⟨Nat.zero_le _, Nat.zero_le _⟩ dX10_thingsOwnedBy_24 (fun I_80 R_80 J_80 H locs hp_80 hP hD hS _ _ => ?_)
        refine lv_aload_n hx hb dX10_thingsOwnedBy_27 rfl (lv_at hl 0 rfl) ?_
        refine z_get hx hb ht hown hK hP ziX10 rfl 0 (by decide) 6 (by decide) hw_2_99 rfl (v := .ref (q 39)) rfl dX10_thingsOwnedBy_28 ?_
        refine z_callVi (k := 39) (As := []) (rest := []) hx hb hml hown ht (xk_X8_last l D q cA F _ _ _ hp_80 ) hw_4_46 hmX8_last ⟨rfl, rfl⟩ (na := 0) rfl (by decide +kernel) (by decide) (by decide) rfl rfl hK hP hD hS hA hl.1 rfl (Nat.le_of_ble_eq_true rfl) ⟨Nat.zero_le _, Nat.zero_le _⟩ dX10_thingsOwnedBy_31 (fun r_81 I_81 R_81 J_81 H locs hp_81 hP hD hS _ _ => ?_)
        cases hp_81
        refine lv_iload_n hx hb dX10_thingsOwnedBy_34 rfl (lv_at hl 1 rfl) ?_
        have t_87 : ∀ x_86 : Int32, zR 0 63 x_86 → ∀ (H : Heap) (locs : List Loc), va_P D vwCl (zw 81 q (zXd q cA) I_80 R_80 J_80) H → va_D (zA 81 q sz) (zw 81 q (zXd q cA) I_80 R_80 J_80) → va_S (zA 81 q sz) s.heap H locs → ∀ ls : Array Slot, lv_has ls 4 [(0, .ref (q 0)), (1, .int (pa0)), (2, .int (x_86)), (3, .int (x_71))] → W p l e ({ frames := 4, cells := 0, slots := 0, locals := 90 } : Room) s m ([.ref (q 0), .int (pa0)] : List Value).toArray below meth c H locs 0 0 (MQ below (va_Qi (fun r u => zR 0 63 r ∧ xInv F u) (zB D vwCl 81 q (zXd q cA) sz) (zA 81 q sz)) ([.ref (q 0), .int (pa0)] : List Value).toArray s 0 0 (zA 81 q sz)) (F0 m 44 ls []) := by
          intro x_86 hx_86 H locs hP hD hS ls hl
          obtain ⟨v_88, ev_88⟩ : ∃ y : Int32, y = x_71 + nI 1 := ⟨_, rfl⟩
          have hv_88 : zR 1 6 v_88 := ev_88 ▸ zR_add f_78 zk_1 (by decide)
          have mv_88 : v_88.toInt = (x_71).toInt + 1 := by rw [ev_88, zR_addE f_78 zk_1 (by decide)]; rfl
          refine lv_iinc (v := v_88) (lv' := [(3, .int (v_88)), (0, .ref (q 0)), (1, .int (pa0)), (2, .int (x_86))]) hx hb dX10_thingsOwnedBy_44 hl (k := 3) rfl (ev_88 ▸ rfl) (by decide) rfl (fun ls hl => ?_)
          refine lv_goto (tgt := 4) hx hb dX10_thingsOwnedBy_47 (by decide) ?_
          exact ih_75 (x_86) hx_86 (v_88) (zR_w hv_88 (by decide)) _ _ _ hp_80 (z2_up mv_88 (by decide) hN_74) _ _ hP hD hS _ (lv_sub hl [1, 2, 3, 0] rfl)
        refine lv_icmp_ne (tgt := 44) hx hb dX10_thingsOwnedBy_35 (by decide) (fun c_82 => ?_) (fun c_82 => ?_)
        · have t_c_82 := z_eqF c_82
          exact t_87 (x_70) hx_70 _ _ hP hD hS _ (lv_sub hl [0, 1, 2, 3] rfl)
        · have t_c_82 := z_eqT c_82
          have f_89 : zR 0 4 (r_81) := zR_eqx t_c_82 hpa0
          refine lv_iload_n hx hb dX10_thingsOwnedBy_38 rfl (lv_at hl 2 rfl) ?_
          refine lv_iconst (v := nI 1) hx hb dX10_thingsOwnedBy_39 (by decide +kernel) ?_
          refine lv_iload_n hx hb dX10_thingsOwnedBy_40 rfl (lv_at hl 3 rfl) ?_
          refine lv_ishl hx hb dX10_thingsOwnedBy_41 ?_
          refine z_rng (a := 1) (b := 32) (zR_shl1 5 f_78 (by decide)) (fun v_90 hv_90 => ?_)
          refine lv_ior hx hb dX10_thingsOwnedBy_42 ?_
          refine z_rng (a := 0) (b := 63) (zR_or 6 hx_70 hv_90 (by decide)) (fun v_91 hv_91 => ?_)
          refine lv_istore_n (lv' := [(2, .int (v_91)), (0, .ref (q 0)), (1, .int (pa0)), (3, .int (x_71))]) hx hb dX10_thingsOwnedBy_43 rfl hl (by decide) rfl (fun ls hl => ?_)
          exact t_87 (v_91) hv_91 _ _ hP hD hS _ (lv_sub hl [1, 2, 0, 3] rfl)
  exact loop_73 _ (nI 0) (zR_w zk_0 (by decide)) (nI 0) (zR_w zk_0 (by decide)) _ _ _ hI (Nat.lt_succ_self _) _ _ hP hD hS _ (lv_sub hl [2, 3, 1, 0] rfl)
set_option maxHeartbeats 4000000 in
set_option maxRecDepth 100000 in
theorem xk_X10_owns (l : Launch) (D : va_G) (q : Nat → Nat) (cA : Nat → ClassId) (F : Nat → Nat → Int32) (I R : Nat → Nat → Int32) (J : Nat → Nat → Int64) (hI : xInv F (I, R, J)) (pa0 : Int32) : zMi l D vwCl (zXtys cA) 81 q (zXd q cA) yX10_owns cX10_owns 2 (some .int) ({ frames := 5, cells := 0, slots := 0, locals := 113 } : Room) [.ref (q 0), .int (pa0)] (I, R, J) (fun r u => zR (-2) 63 r ∧ xInv F u) := by
  intro sz
  refine z_body (by decide +kernel) (Nat.le_of_ble_eq_true rfl) (fun p e s m below meth c ls hx hb hml hr ht hown hlocks hsz hK hP hD hS hl => ?_)
  have hA : ∀ a, s.heap.size ≤ a → zA 81 q sz a := fun a h => Or.inr (hsz ▸ h)
  have hl : lv_has ls 2 [(0, .ref (q 0)), (1, .int (pa0))] := hl
  refine lv_aload_n hx hb dX10_owns_0 rfl (lv_at hl 0 rfl) ?_
  refine lv_iload_n hx hb dX10_owns_1 rfl (lv_at hl 1 rfl) ?_
  refine z_callVi (k := 0) (As := [.int (pa0)]) (rest := []) hx hb hml hown ht (xk_X10_isHouse l D q cA F _ _ _ hI (pa0)) hw_3_59 hmX10_isHouse ⟨rfl, rfl⟩ (na := 1) rfl (by decide +kernel) (by decide) (by decide) rfl rfl hK hP hD hS hA hl.1 rfl (Nat.le_of_ble_eq_true rfl) ⟨Nat.zero_le _, Nat.zero_le _⟩ dX10_owns_2 (fun r_1 I_1 R_1 J_1 H locs hp_1 hP hD hS _ _ => ?_)
  rcases hp_1 with ⟨rfl, hu_1, f0_1⟩ | ⟨rfl, hu_1⟩
  · cases hu_1
    refine lv_if_eq (tgt := 16) hx hb dX10_owns_5 (by decide) (fun c_0 => absurd c_0 (zD_ne zk_1 zk_z (by decide))) (fun _ => ?_)
    refine lv_aload_n hx hb dX10_owns_8 rfl (lv_at hl 0 rfl) ?_
    refine lv_iload_n hx hb dX10_owns_9 rfl (lv_at hl 1 rfl) ?_
    refine z_callVi (k := 0) (As := [.int (pa0)]) (rest := []) hx hb hml hown ht (xk_X10_thingsOwnedBy_1 l D q cA F _ _ _ hI (pa0) f0_1) hw_4_58 hmX10_thingsOwnedBy ⟨rfl, rfl⟩ (na := 1) rfl (by decide +kernel) (by decide) (by decide) rfl rfl hK hP hD hS hA hl.1 rfl (Nat.le_of_ble_eq_true rfl) ⟨Nat.zero_le _, Nat.zero_le _⟩ dX10_owns_10 (fun r_2 I_2 R_2 J_2 H locs hp_2 hP hD hS _ _ => ?_)
    obtain ⟨hr_2, hu_2⟩ := hp_2
    refine lv_goto (tgt := 18) hx hb dX10_owns_13 (by decide) ?_
    exact z_iret (v := r_2) hx hb hr hlocks hP hD hS dX10_owns_18 ⟨(zR_w hr_2 (by decide)), hu_2⟩
  · cases hu_1
    refine lv_if_eq (tgt := 16) hx hb dX10_owns_5 (by decide) (fun _ => ?_) (fun c_0 => absurd (zD_eq zk_0 zk_z) c_0)
    refine lv_bipush (v := (-2)) hx hb dX10_owns_16 (by decide +kernel) ?_
    exact z_iret (v := (-2)) hx hb hr hlocks hP hD hS dX10_owns_18 ⟨(zR_w zk_m2 (by decide)), hI⟩
set_option maxHeartbeats 4000000 in
set_option maxRecDepth 100000 in
theorem xk_X8_contradict_2 (l : Launch) (D : va_G) (q : Nat → Nat) (cA : Nat → ClassId) (F : Nat → Nat → Int32) (I R : Nat → Nat → Int32) (J : Nat → Nat → Int64) (hI : xInv F (I, R, J)) (pa1 : Int32) (hpa1 : zR 0 23 pa1) (pa2 : Int32) (hpa2 : zR 0 23 pa2) : zMi l D vwCl (zXtys cA) 81 q (zXd q cA) yX8_contradict cX8_contradict 3 (some .boolean) ({ frames := 2, cells := 0, slots := 0, locals := 42 } : Room) [.ref (q 15), .int (pa1), .int (pa2)] (I, R, J) (fun r u => (r = nI 1 ∧ u = (I, R, J)) ∨ (r = nI 0 ∧ u = (I, R, J))) := by
  intro sz
  refine z_body (by decide +kernel) (Nat.le_of_ble_eq_true rfl) (fun p e s m below meth c ls hx hb hml hr ht hown hlocks hsz hK hP hD hS hl => ?_)
  have hA : ∀ a, s.heap.size ≤ a → zA 81 q sz a := fun a h => Or.inr (hsz ▸ h)
  have hl : lv_has ls 3 [(0, .ref (q 15)), (1, .int (pa1)), (2, .int (pa2))] := hl
  refine lv_aload_n hx hb dX8_contradict_0 rfl (lv_at hl 0 rfl) ?_
  refine z_get hx hb ht hown hK hP ziX9 rfl 15 (by decide) 7 (by decide) hw_1_172 rfl (v := .ref (q 19)) rfl dX8_contradict_1 ?_
  refine lv_iload_n hx hb dX8_contradict_4 rfl (lv_at hl 1 rfl) ?_
  refine z_iald hx hb hK hP 19 (by decide) 13 rfl rfl (zR_vin hpa1 (by decide)) dX8_contradict_5 ?_
  refine z_eqi (y := R 19 (pa1).toNatClampNeg) rfl ?_
  have f_1 : zR 0 4 (R 19 (pa1).toNatClampNeg) := xR hI 19 (pa1).toNatClampNeg
  refine lv_aload_n hx hb dX8_contradict_6 rfl (lv_at hl 0 rfl) ?_
  refine z_get hx hb ht hown hK hP ziX9 rfl 15 (by decide) 7 (by decide) hw_1_172 rfl (v := .ref (q 19)) rfl dX8_contradict_7 ?_
  refine lv_iload_n hx hb dX8_contradict_10 rfl (lv_at hl 2 rfl) ?_
  refine z_iald hx hb hK hP 19 (by decide) 13 rfl rfl (zR_vin hpa2 (by decide)) dX8_contradict_11 ?_
  refine z_eqi (y := R 19 (pa2).toNatClampNeg) rfl ?_
  have f_2 : zR 0 4 (R 19 (pa2).toNatClampNeg) := xR hI 19 (pa2).toNatClampNeg
  refine lv_icmp_ne (tgt := 50) hx hb dX8_contradict_12 (by decide) (fun c_3 => ?_) (fun c_3 => ?_)
  · have t_c_3 := z_eqF c_3
    refine lv_iconst (v := nI 0) hx hb dX8_contradict_50 (by decide +kernel) ?_
    exact z_zret (v := nI 0) hx hb hr hlocks hP hD hS (by decide +kernel) dX8_contradict_51 (Or.inr ⟨rfl, rfl⟩)
  · have t_c_3 := z_eqT c_3
    refine lv_aload_n hx hb dX8_contradict_15 rfl (lv_at hl 0 rfl) ?_
    refine z_get hx hb ht hown hK hP ziX9 rfl 15 (by decide) 8 (by decide) hw_1_176 rfl (v := .ref (q 20)) rfl dX8_contradict_16 ?_
    refine lv_iload_n hx hb dX8_contradict_19 rfl (lv_at hl 1 rfl) ?_
    refine z_iald hx hb hK hP 20 (by decide) 14 rfl rfl (zR_vin hpa1 (by decide)) dX8_contradict_20 ?_
    refine z_eqi (y := R 20 (pa1).toNatClampNeg) rfl ?_
    have f_4 : zR 0 5 (R 20 (pa1).toNatClampNeg) := xR hI 20 (pa1).toNatClampNeg
    refine lv_aload_n hx hb dX8_contradict_21 rfl (lv_at hl 0 rfl) ?_
    refine z_get hx hb ht hown hK hP ziX9 rfl 15 (by decide) 8 (by decide) hw_1_176 rfl (v := .ref (q 20)) rfl dX8_contradict_22 ?_
    refine lv_iload_n hx hb dX8_contradict_25 rfl (lv_at hl 2 rfl) ?_
    refine z_iald hx hb hK hP 20 (by decide) 14 rfl rfl (zR_vin hpa2 (by decide)) dX8_contradict_26 ?_
    refine z_eqi (y := R 20 (pa2).toNatClampNeg) rfl ?_
    have f_5 : zR 0 5 (R 20 (pa2).toNatClampNeg) := xR hI 20 (pa2).toNatClampNeg
    refine lv_icmp_ne (tgt := 50) hx hb dX8_contradict_27 (by decide) (fun c_6 => ?_) (fun c_6 => ?_)
    · have t_c_6 := z_eqF c_6
      refine lv_iconst (v := nI 0) hx hb dX8_contradict_50 (by decide +kernel) ?_
      exact z_zret (v := nI 0) hx hb hr hlocks hP hD hS (by decide +kernel) dX8_contradict_51 (Or.inr ⟨rfl, rfl⟩)
    · have t_c_6 := z_eqT c_6
      refine lv_aload_n hx hb dX8_contradict_30 rfl (lv_at hl 0 rfl) ?_
      refine lv_iload_n hx hb dX8_contradict_31 rfl (lv_at hl 1 rfl) ?_
      refine z_callVi (k := 15) (As := [.int (pa1)]) (rest := []) hx hb hml hown ht (xk_X9_binds l D q cA F _ _ _ hI (pa1) hpa1) hw_4_42 hmX9_binds ⟨rfl, rfl⟩ (na := 1) rfl (by decide +kernel) (by decide) (by decide) rfl rfl hK hP hD hS hA hl.1 rfl (Nat.le_of_ble_eq_true rfl) ⟨Nat.zero_le _, Nat.zero_le _⟩ dX8_contradict_32 (fun r_7 I_7 R_7 J_7 H locs hp_7 hP hD hS _ _ => ?_)
      rcases hp_7 with ⟨rfl, hu_7⟩ | ⟨rfl, hu_7⟩
      · cases hu_7
        refine lv_if_eq (tgt := 50) hx hb dX8_contradict_35 (by decide) (fun c_0 => absurd c_0 (zD_ne zk_1 zk_z (by decide))) (fun _ => ?_)
        refine lv_aload_n hx hb dX8_contradict_38 rfl (lv_at hl 0 rfl) ?_
        refine lv_iload_n hx hb dX8_contradict_39 rfl (lv_at hl 2 rfl) ?_
        refine z_callVi (k := 15) (As := [.int (pa2)]) (rest := []) hx hb hml hown ht (xk_X9_binds l D q cA F _ _ _ hI (pa2) hpa2) hw_4_42 hmX9_binds ⟨rfl, rfl⟩ (na := 1) rfl (by decide +kernel) (by decide) (by decide) rfl rfl hK hP hD hS hA hl.1 rfl (Nat.le_of_ble_eq_true rfl) ⟨Nat.zero_le _, Nat.zero_le _⟩ dX8_contradict_40 (fun r_8 I_8 R_8 J_8 H locs hp_8 hP hD hS _ _ => ?_)
        rcases hp_8 with ⟨rfl, hu_8⟩ | ⟨rfl, hu_8⟩
        · cases hu_8
          refine lv_if_eq (tgt := 50) hx hb dX8_contradict_43 (by decide) (fun c_0 => absurd c_0 (zD_ne zk_1 zk_z (by decide))) (fun _ => ?_)
          refine lv_iconst (v := nI 1) hx hb dX8_contradict_46 (by decide +kernel) ?_
          refine lv_goto (tgt := 51) hx hb dX8_contradict_47 (by decide) ?_
          exact z_zret (v := nI 1) hx hb hr hlocks hP hD hS (by decide +kernel) dX8_contradict_51 (Or.inl ⟨rfl, rfl⟩)
        · cases hu_8
          refine lv_if_eq (tgt := 50) hx hb dX8_contradict_43 (by decide) (fun _ => ?_) (fun c_0 => absurd (zD_eq zk_0 zk_z) c_0)
          refine lv_iconst (v := nI 0) hx hb dX8_contradict_50 (by decide +kernel) ?_
          exact z_zret (v := nI 0) hx hb hr hlocks hP hD hS (by decide +kernel) dX8_contradict_51 (Or.inr ⟨rfl, rfl⟩)
      · cases hu_7
        refine lv_if_eq (tgt := 50) hx hb dX8_contradict_35 (by decide) (fun _ => ?_) (fun c_0 => absurd (zD_eq zk_0 zk_z) c_0)
        refine lv_iconst (v := nI 0) hx hb dX8_contradict_50 (by decide +kernel) ?_
        exact z_zret (v := nI 0) hx hb hr hlocks hP hD hS (by decide +kernel) dX8_contradict_51 (Or.inr ⟨rfl, rfl⟩)
set_option maxHeartbeats 4000000 in
set_option maxRecDepth 100000 in
theorem xk_X8_pairs (l : Launch) (D : va_G) (q : Nat → Nat) (cA : Nat → ClassId) (F : Nat → Nat → Int32) (I R : Nat → Nat → Int32) (J : Nat → Nat → Int64) (hI : xInv F (I, R, J))  : zMi l D vwCl (zXtys cA) 81 q (zXd q cA) yX8_pairs cX8_pairs 5 (some .int) ({ frames := 3, cells := 0, slots := 0, locals := 64 } : Room) [.ref (q 39), .ref (q 15)] (I, R, J) (fun _ u => u = (I, R, J)) := by
  intro sz
  refine z_body (by decide +kernel) (Nat.le_of_ble_eq_true rfl) (fun p e s m below meth c ls hx hb hml hr ht hown hlocks hsz hK hP hD hS hl => ?_)
  have hA : ∀ a, s.heap.size ≤ a → zA 81 q sz a := fun a h => Or.inr (hsz ▸ h)
  have hl : lv_has ls 5 [(0, .ref (q 39)), (1, .ref (q 15))] := hl
  refine lv_iconst (v := nI 0) hx hb dX8_pairs_0 (by decide +kernel) ?_
  refine lv_istore_n (lv' := [(2, .int (nI 0)), (0, .ref (q 39)), (1, .ref (q 15))]) hx hb dX8_pairs_1 rfl hl (by decide) rfl (fun ls hl => ?_)
  refine lv_iconst (v := nI 0) hx hb dX8_pairs_2 (by decide +kernel) ?_
  refine lv_istore_n (lv' := [(3, .int (nI 0)), (2, .int (nI 0)), (0, .ref (q 39)), (1, .ref (q 15))]) hx hb dX8_pairs_3 rfl hl (by decide) rfl (fun ls hl => ?_)
  have loop_186 : ∀ N : Nat, ∀ x_184 : Int32, ∀ x_185 : Int32, zR 0 24 x_185 → (2147483648 - (x_185).toInt).toNat < N → ∀ (H : Heap) (locs : List Loc), va_P D vwCl (zw 81 q (zXd q cA) I R J) H → va_D (zA 81 q sz) (zw 81 q (zXd q cA) I R J) → va_S (zA 81 q sz) s.heap H locs → ∀ ls : Array Slot, lv_has ls 5 [(0, .ref (q 39)), (1, .ref (q 15)), (2, .int (x_184)), (3, .int (x_185))] → W p l e ({ frames := 3, cells := 0, slots := 0, locals := 64 } : Room) s m ([.ref (q 39), .ref (q 15)] : List Value).toArray below meth c H locs 0 0 (MQ below (va_Qi (fun _ u => u = (I, R, J)) (zB D vwCl 81 q (zXd q cA) sz) (zA 81 q sz)) ([.ref (q 39), .ref (q 15)] : List Value).toArray s 0 0 (zA 81 q sz)) (F0 m 4 ls []) := by
    intro N
    induction N with
    | zero => intro x_184 x_185 hx_185 hN; exact absurd hN (Nat.not_lt_zero _)
    | succ N ih_188 =>
      intro x_184 x_185 hx_185 hN_187 H locs hP hD hS ls hl
      refine lv_iload_n hx hb dX8_pairs_4 rfl (lv_at hl 3 rfl) ?_
      refine lv_aload_n hx hb dX8_pairs_5 rfl (lv_at hl 1 rfl) ?_
      refine z_get hx hb ht hown hK hP ziX9 rfl 15 (by decide) 2 (by decide) hw_1_160 rfl (v := .int (I 15 2)) rfl dX8_pairs_6 ?_
      have f_189 : zR 0 24 (I 15 2) := xI hI 15 2
      refine lv_icmp_ge (tgt := 51) hx hb dX8_pairs_9 (by decide) (fun c_190 => ?_) (fun c_190 => ?_)
      · have t_c_190 := z_leT c_190
        refine lv_iload_n hx hb dX8_pairs_51 rfl (lv_at hl 2 rfl) ?_
        exact z_iret (v := x_184) hx hb hr hlocks hP hD hS dX8_pairs_52 rfl
      · have t_c_190 := z_leF c_190
        have f_191 : zR 0 23 (x_185) := zR_ltx t_c_190 hx_185 f_189 (by decide)
        have f_192 : zR 1 24 (I 15 2) := zR_lty t_c_190 hx_185 f_189 (by decide)
        refine lv_iconst (v := nI 0) hx hb dX8_pairs_12 (by decide +kernel) ?_
        refine lv_istore (lv' := [(4, .int (nI 0)), (0, .ref (q 39)), (1, .ref (q 15)), (2, .int (x_184)), (3, .int (x_185))]) hx hb dX8_pairs_13 hl (by decide) rfl (fun ls hl => ?_)
        have loop_228 : ∀ N : Nat, ∀ x_226 : Int32, ∀ x_227 : Int32, zR 0 23 x_227 → (2147483648 - (x_227).toInt).toNat < N → ∀ (H : Heap) (locs : List Loc), va_P D vwCl (zw 81 q (zXd q cA) I R J) H → va_D (zA 81 q sz) (zw 81 q (zXd q cA) I R J) → va_S (zA 81 q sz) s.heap H locs → ∀ ls : Array Slot, lv_has ls 5 [(0, .ref (q 39)), (1, .ref (q 15)), (2, .int (x_226)), (3, .int (x_185)), (4, .int (x_227))] → W p l e ({ frames := 3, cells := 0, slots := 0, locals := 64 } : Room) s m ([.ref (q 39), .ref (q 15)] : List Value).toArray below meth c H locs 0 0 (MQ below (va_Qi (fun _ u => u = (I, R, J)) (zB D vwCl 81 q (zXd q cA) sz) (zA 81 q sz)) ([.ref (q 39), .ref (q 15)] : List Value).toArray s 0 0 (zA 81 q sz)) (F0 m 15 ls []) := by
          intro N
          induction N with
          | zero => intro x_226 x_227 hx_227 hN; exact absurd hN (Nat.not_lt_zero _)
          | succ N ih_230 =>
            intro x_226 x_227 hx_227 hN_229 H locs hP hD hS ls hl
            refine lv_iload hx hb dX8_pairs_15 (lv_at hl 4 rfl) ?_
            refine lv_iload_n hx hb dX8_pairs_17 rfl (lv_at hl 3 rfl) ?_
            refine lv_icmp_ge (tgt := 45) hx hb dX8_pairs_18 (by decide) (fun c_231 => ?_) (fun c_231 => ?_)
            · have t_c_231 := z_leT c_231
              obtain ⟨v_238, ev_238⟩ : ∃ y : Int32, y = x_185 + nI 1 := ⟨_, rfl⟩
              have hv_238 : zR 1 24 v_238 := ev_238 ▸ zR_add f_191 zk_1 (by decide)
              have mv_238 : v_238.toInt = (x_185).toInt + 1 := by rw [ev_238, zR_addE f_191 zk_1 (by decide)]; rfl
              refine lv_iinc (v := v_238) (lv' := [(3, .int (v_238)), (0, .ref (q 39)), (1, .ref (q 15)), (2, .int (x_226)), (4, .int (x_227))]) hx hb dX8_pairs_45 hl (k := 3) rfl (ev_238 ▸ rfl) (by decide) rfl (fun ls hl => ?_)
              refine lv_goto (tgt := 4) hx hb dX8_pairs_48 (by decide) ?_
              exact ih_188 (x_226) (v_238) (zR_w hv_238 (by decide)) (z2_up mv_238 (by decide) hN_187) _ _ hP hD hS _ (lv_sub hl [1, 2, 3, 0] rfl)
            · have t_c_231 := z_leF c_231
              have f_239 : zR 0 22 (x_227) := zR_ltx t_c_231 hx_227 f_191 (by decide)
              have f_240 : zR 1 23 (x_185) := zR_lty t_c_231 hx_227 f_191 (by decide)
              refine lv_iload_n hx hb dX8_pairs_21 rfl (lv_at hl 2 rfl) ?_
              refine lv_aload_n hx hb dX8_pairs_22 rfl (lv_at hl 1 rfl) ?_
              refine lv_iload_n hx hb dX8_pairs_23 rfl (lv_at hl 3 rfl) ?_
              refine lv_iload hx hb dX8_pairs_24 (lv_at hl 4 rfl) ?_
              have t_243 : ∀ x_242 : Int32, zR 0 1 x_242 → ∀ (H : Heap) (locs : List Loc), va_P D vwCl (zw 81 q (zXd q cA) I R J) H → va_D (zA 81 q sz) (zw 81 q (zXd q cA) I R J) → va_S (zA 81 q sz) s.heap H locs → ∀ ls : Array Slot, lv_has ls 5 [(0, .ref (q 39)), (1, .ref (q 15)), (2, .int (x_226)), (3, .int (x_185)), (4, .int (x_227))] → W p l e ({ frames := 3, cells := 0, slots := 0, locals := 64 } : Room) s m ([.ref (q 39), .ref (q 15)] : List Value).toArray below meth c H locs 0 0 (MQ below (va_Qi (fun _ u => u = (I, R, J)) (zB D vwCl 81 q (zXd q cA) sz) (zA 81 q sz)) ([.ref (q 39), .ref (q 15)] : List Value).toArray s 0 0 (zA 81 q sz)) (F0 m 37 ls [.int (x_242), .int (x_226)]) := by
                intro x_242 hx_242 H locs hP hD hS ls hl
                refine lv_iadd hx hb dX8_pairs_37 ?_
                refine z_any (fun v_244 => ?_)
                refine lv_istore_n (lv' := [(2, .int (v_244)), (0, .ref (q 39)), (1, .ref (q 15)), (3, .int (x_185)), (4, .int (x_227))]) hx hb dX8_pairs_38 rfl hl (by decide) rfl (fun ls hl => ?_)
                obtain ⟨v_245, ev_245⟩ : ∃ y : Int32, y = x_227 + nI 1 := ⟨_, rfl⟩
                have hv_245 : zR 1 23 v_245 := ev_245 ▸ zR_add f_239 zk_1 (by decide)
                have mv_245 : v_245.toInt = (x_227).toInt + 1 := by rw [ev_245, zR_addE f_239 zk_1 (by decide)]; rfl
                refine lv_iinc (v := v_245) (lv' := [(4, .int (v_245)), (2, .int (v_244)), (0, .ref (q 39)), (1, .ref (q 15)), (3, .int (x_185))]) hx hb dX8_pairs_39 hl (k := 4) rfl (ev_245 ▸ rfl) (by decide) rfl (fun ls hl => ?_)
                refine lv_goto (tgt := 15) hx hb dX8_pairs_42 (by decide) ?_
                exact ih_230 (v_244) (v_245) (zR_w hv_245 (by decide)) (z2_up mv_245 (by decide) hN_229) _ _ hP hD hS _ (lv_sub hl [2, 3, 1, 4, 0] rfl)
              refine z_callSi (As := [.ref (q 15), .int (x_185), .int (x_227)]) (rest := [.int (x_226)]) hx hb hml hown ht (xk_X8_contradict_2 l D q cA F _ _ _ hI (x_185) (zR_w f_240 (by decide)) (x_227) (zR_w f_239 (by decide))) hw_4_74 hmX8_contradict ⟨rfl, rfl⟩ (na := 3) rfl (by decide +kernel) (by decide) hK hP hD hS hA hl.1 rfl (Nat.le_of_ble_eq_true rfl) ⟨Nat.zero_le _, Nat.zero_le _⟩ dX8_pairs_26 (fun r_241 I_241 R_241 J_241 H locs hp_241 hP hD hS _ _ => ?_)
              rcases hp_241 with ⟨rfl, hu_241⟩ | ⟨rfl, hu_241⟩
              · cases hu_241
                refine lv_if_eq (tgt := 36) hx hb dX8_pairs_29 (by decide) (fun c_0 => absurd c_0 (zD_ne zk_1 zk_z (by decide))) (fun _ => ?_)
                refine lv_iconst (v := nI 1) hx hb dX8_pairs_32 (by decide +kernel) ?_
                refine lv_goto (tgt := 37) hx hb dX8_pairs_33 (by decide) ?_
                exact t_243 (nI 1) (zR_w zk_1 (by decide)) _ _ hP hD hS _ (lv_sub hl [0, 1, 2, 3, 4] rfl)
              · cases hu_241
                refine lv_if_eq (tgt := 36) hx hb dX8_pairs_29 (by decide) (fun _ => ?_) (fun c_0 => absurd (zD_eq zk_0 zk_z) c_0)
                refine lv_iconst (v := nI 0) hx hb dX8_pairs_36 (by decide +kernel) ?_
                exact t_243 (nI 0) (zR_w zk_0 (by decide)) _ _ hP hD hS _ (lv_sub hl [0, 1, 2, 3, 4] rfl)
        exact loop_228 _ (x_184) (nI 0) (zR_w zk_0 (by decide)) (Nat.lt_succ_self _) _ _ hP hD hS _ (lv_sub hl [1, 2, 3, 4, 0] rfl)
  exact loop_186 _ (nI 0) (nI 0) (zR_w zk_0 (by decide)) (Nat.lt_succ_self _) _ _ hP hD hS _ (lv_sub hl [2, 3, 1, 0] rfl)
set_option maxHeartbeats 4000000 in
set_option maxRecDepth 100000 in
theorem xk_X10_twice (l : Launch) (D : va_G) (q : Nat → Nat) (cA : Nat → ClassId) (F : Nat → Nat → Int32) (I R : Nat → Nat → Int32) (J : Nat → Nat → Int64) (hI : xInv F (I, R, J))  : zMi l D vwCl (zXtys cA) 81 q (zXd q cA) yX10_twice cX10_twice 1 (some .int) ({ frames := 4, cells := 0, slots := 0, locals := 88 } : Room) [.ref (q 0)] (I, R, J) (fun _ u => u = (I, R, J)) := by
  intro sz
  refine z_body (by decide +kernel) (Nat.le_of_ble_eq_true rfl) (fun p e s m below meth c ls hx hb hml hr ht hown hlocks hsz hK hP hD hS hl => ?_)
  have hA : ∀ a, s.heap.size ≤ a → zA 81 q sz a := fun a h => Or.inr (hsz ▸ h)
  have hl : lv_has ls 1 [(0, .ref (q 0))] := hl
  refine lv_aload_n hx hb dX10_twice_0 rfl (lv_at hl 0 rfl) ?_
  refine z_callVi (k := 0) (As := []) (rest := []) hx hb hml hown ht (xk_X10_hasCity l D q cA F _ _ _ hI ) hw_4_0 hmX10_hasCity ⟨rfl, rfl⟩ (na := 0) rfl (by decide +kernel) (by decide) (by decide) rfl rfl hK hP hD hS hA hl.1 rfl (Nat.le_of_ble_eq_true rfl) ⟨Nat.zero_le _, Nat.zero_le _⟩ dX10_twice_1 (fun r_1 I_1 R_1 J_1 H locs hp_1 hP hD hS _ _ => ?_)
  rcases hp_1 with ⟨rfl, hu_1⟩ | ⟨rfl, hu_1⟩
  · cases hu_1
    refine lv_if_eq (tgt := 21) hx hb dX10_twice_4 (by decide) (fun c_0 => absurd c_0 (zD_ne zk_1 zk_z (by decide))) (fun _ => ?_)
    refine lv_aload_n hx hb dX10_twice_7 rfl (lv_at hl 0 rfl) ?_
    refine z_get hx hb ht hown hK hP ziX10 rfl 0 (by decide) 6 (by decide) hw_2_99 rfl (v := .ref (q 39)) rfl dX10_twice_8 ?_
    refine lv_aload_n hx hb dX10_twice_11 rfl (lv_at hl 0 rfl) ?_
    refine z_get hx hb ht hown hK hP ziX10 rfl 0 (by decide) 4 (by decide) hw_2_97 rfl (v := .ref (q 15)) rfl dX10_twice_12 ?_
    refine z_callVi (k := 39) (As := [.ref (q 15)]) (rest := []) hx hb hml hown ht (xk_X8_pairs l D q cA F _ _ _ hI ) hw_4_70 hmX8_pairs ⟨rfl, rfl⟩ (na := 1) rfl (by decide +kernel) (by decide) (by decide) rfl rfl hK hP hD hS hA hl.1 rfl (Nat.le_of_ble_eq_true rfl) ⟨Nat.zero_le _, Nat.zero_le _⟩ dX10_twice_15 (fun r_2 I_2 R_2 J_2 H locs hp_2 hP hD hS _ _ => ?_)
    cases hp_2
    refine lv_goto (tgt := 23) hx hb dX10_twice_18 (by decide) ?_
    exact z_iret (v := r_2) hx hb hr hlocks hP hD hS dX10_twice_23 rfl
  · cases hu_1
    refine lv_if_eq (tgt := 21) hx hb dX10_twice_4 (by decide) (fun _ => ?_) (fun c_0 => absurd (zD_eq zk_0 zk_z) c_0)
    refine lv_bipush (v := (-2)) hx hb dX10_twice_21 (by decide +kernel) ?_
    exact z_iret (v := (-2)) hx hb hr hlocks hP hD hS dX10_twice_23 rfl
set_option maxHeartbeats 4000000 in
set_option maxRecDepth 100000 in
theorem xk_J7_fill_53178_3 (l : Launch) (D : va_G) (q : Nat → Nat) (cA : Nat → ClassId) (F : Nat → Nat → Int32) (I R : Nat → Nat → Int32) (J : Nat → Nat → Int64) (hI : xInv F (I, R, J)) (pa1 : Int32) (hpa1 : zR (-1) 4 pa1) : zMv l D vwCl (zXtys cA) 81 q (zXd q cA) yJ7_fill_53178 cJ7_fill_53178 4 none ({ frames := 0, cells := 0, slots := 0, locals := 0 } : Room) [.ref (q 41), .int (pa1)] (I, R, J) (fun u => xInv F u) := by
  intro sz
  refine z_body (by decide +kernel) (Nat.le_of_ble_eq_true rfl) (fun p e s m below meth c ls hx hb hml hr ht hown hlocks hsz hK hP hD hS hl => ?_)
  have hA : ∀ a, s.heap.size ≤ a → zA 81 q sz a := fun a h => Or.inr (hsz ▸ h)
  have hl : lv_has ls 4 [(0, .ref (q 41)), (1, .int (pa1))] := hl
  refine lv_iconst (v := nI 0) hx hb dJ7_fill_53178_0 (by decide +kernel) ?_
  refine lv_istore_n (lv' := [(2, .int (nI 0)), (0, .ref (q 41)), (1, .int (pa1))]) hx hb dJ7_fill_53178_1 rfl hl (by decide) rfl (fun ls hl => ?_)
  refine lv_aload_n hx hb dJ7_fill_53178_2 rfl (lv_at hl 1 rfl) ?_
  refine z_alen hx hb hK hP 41 (by decide) 33 rfl rfl dJ7_fill_53178_3 ?_
  refine lv_istore_n (lv' := [(3, .int (nI 25)), (2, .int (nI 0)), (0, .ref (q 41)), (1, .int (pa1))]) hx hb dJ7_fill_53178_4 rfl hl (by decide) rfl (fun ls hl => ?_)
  have loop_22 : ∀ N : Nat, ∀ x_20 : Int32, zR 0 25 x_20 → ∀ R_21 : Nat → Nat → Int32, xInv F (I, R_21, J) → (2147483648 - (x_20).toInt).toNat < N → ∀ (H : Heap) (locs : List Loc), va_P D vwCl (zw 81 q (zXd q cA) I R_21 J) H → va_D (zA 81 q sz) (zw 81 q (zXd q cA) I R_21 J) → va_S (zA 81 q sz) s.heap H locs → ∀ ls : Array Slot, lv_has ls 4 [(0, .ref (q 41)), (1, .int (pa1)), (2, .int (x_20)), (3, .int (nI 25))] → W p l e ({ frames := 0, cells := 0, slots := 0, locals := 0 } : Room) s m ([.ref (q 41), .int (pa1)] : List Value).toArray below meth c H locs 0 0 (MQ below (va_Qv (fun u => xInv F u) (zB D vwCl 81 q (zXd q cA) sz) (zA 81 q sz)) ([.ref (q 41), .int (pa1)] : List Value).toArray s 0 0 (zA 81 q sz)) (F0 m 5 ls []) := by
    intro N
    induction N with
    | zero => intro x_20 hx_20 R_21 hI_21 hN; exact absurd hN (Nat.not_lt_zero _)
    | succ N ih_24 =>
      intro x_20 hx_20 R_21 hI_21 hN_23 H locs hP hD hS ls hl
      refine lv_iload_n hx hb dJ7_fill_53178_5 rfl (lv_at hl 2 rfl) ?_
      refine lv_iload_n hx hb dJ7_fill_53178_6 rfl (lv_at hl 3 rfl) ?_
      refine lv_icmp_ge (tgt := 20) hx hb dJ7_fill_53178_7 (by decide) (fun c_25 => ?_) (fun c_25 => ?_)
      · have t_c_25 := z_leT c_25
        have f_26 : zR 25 25 (x_20) := zR_ley t_c_25 zk_25 hx_20 (by decide)
        exact z_vret hx hb hr hlocks hP hD hS dJ7_fill_53178_20 hI_21
      · have t_c_25 := z_leF c_25
        have f_27 : zR 0 24 (x_20) := zR_ltx t_c_25 hx_20 zk_25 (by decide)
        refine lv_aload_n hx hb dJ7_fill_53178_10 rfl (lv_at hl 0 rfl) ?_
        refine lv_iload_n hx hb dJ7_fill_53178_11 rfl (lv_at hl 2 rfl) ?_
        refine lv_iload_n hx hb dJ7_fill_53178_12 rfl (lv_at hl 1 rfl) ?_
        refine z_iast hx hb hK hP hD hS 41 (by decide) 33 (fun _ => rfl) rfl (zR_vin f_27 (by decide)) dJ7_fill_53178_13 (fun H locs hP hD hS => ?_)
        have hI_28 := xInv_R hI_21 41 (x_20).toNatClampNeg (pa1) (show zR (-1) 23 (pa1) from zR_w hpa1 (by decide)) rfl
        obtain ⟨v_29, ev_29⟩ : ∃ y : Int32, y = x_20 + nI 1 := ⟨_, rfl⟩
        have hv_29 : zR 1 25 v_29 := ev_29 ▸ zR_add f_27 zk_1 (by decide)
        have mv_29 : v_29.toInt = (x_20).toInt + 1 := by rw [ev_29, zR_addE f_27 zk_1 (by decide)]; rfl
        refine lv_iinc (v := v_29) (lv' := [(2, .int (v_29)), (0, .ref (q 41)), (1, .int (pa1)), (3, .int (nI 25))]) hx hb dJ7_fill_53178_14 hl (k := 2) rfl (ev_29 ▸ rfl) (by decide) rfl (fun ls hl => ?_)
        refine lv_goto (tgt := 5) hx hb dJ7_fill_53178_17 (by decide) ?_
        exact ih_24 (v_29) (zR_w hv_29 (by decide)) _ hI_28 (z2_up mv_29 (by decide) hN_23) _ _ hP hD hS _ (lv_sub hl [1, 2, 0, 3] rfl)
  exact loop_22 _ (nI 0) (zR_w zk_0 (by decide)) _ hI (Nat.lt_succ_self _) _ _ hP hD hS _ (lv_sub hl [2, 3, 1, 0] rfl)
set_option maxHeartbeats 4000000 in
set_option maxRecDepth 100000 in
theorem xk_J7_fill_53178_4 (l : Launch) (D : va_G) (q : Nat → Nat) (cA : Nat → ClassId) (F : Nat → Nat → Int32) (I R : Nat → Nat → Int32) (J : Nat → Nat → Int64) (hI : xInv F (I, R, J)) (pa1 : Int32) (hpa1 : zR (-1) 4 pa1) : zMv l D vwCl (zXtys cA) 81 q (zXd q cA) yJ7_fill_53178 cJ7_fill_53178 4 none ({ frames := 0, cells := 0, slots := 0, locals := 0 } : Room) [.ref (q 42), .int (pa1)] (I, R, J) (fun u => xInv F u) := by
  intro sz
  refine z_body (by decide +kernel) (Nat.le_of_ble_eq_true rfl) (fun p e s m below meth c ls hx hb hml hr ht hown hlocks hsz hK hP hD hS hl => ?_)
  have hA : ∀ a, s.heap.size ≤ a → zA 81 q sz a := fun a h => Or.inr (hsz ▸ h)
  have hl : lv_has ls 4 [(0, .ref (q 42)), (1, .int (pa1))] := hl
  refine lv_iconst (v := nI 0) hx hb dJ7_fill_53178_0 (by decide +kernel) ?_
  refine lv_istore_n (lv' := [(2, .int (nI 0)), (0, .ref (q 42)), (1, .int (pa1))]) hx hb dJ7_fill_53178_1 rfl hl (by decide) rfl (fun ls hl => ?_)
  refine lv_aload_n hx hb dJ7_fill_53178_2 rfl (lv_at hl 1 rfl) ?_
  refine z_alen hx hb hK hP 42 (by decide) 34 rfl rfl dJ7_fill_53178_3 ?_
  refine lv_istore_n (lv' := [(3, .int (nI 5)), (2, .int (nI 0)), (0, .ref (q 42)), (1, .int (pa1))]) hx hb dJ7_fill_53178_4 rfl hl (by decide) rfl (fun ls hl => ?_)
  have loop_22 : ∀ N : Nat, ∀ x_20 : Int32, zR 0 5 x_20 → ∀ R_21 : Nat → Nat → Int32, xInv F (I, R_21, J) → (2147483648 - (x_20).toInt).toNat < N → ∀ (H : Heap) (locs : List Loc), va_P D vwCl (zw 81 q (zXd q cA) I R_21 J) H → va_D (zA 81 q sz) (zw 81 q (zXd q cA) I R_21 J) → va_S (zA 81 q sz) s.heap H locs → ∀ ls : Array Slot, lv_has ls 4 [(0, .ref (q 42)), (1, .int (pa1)), (2, .int (x_20)), (3, .int (nI 5))] → W p l e ({ frames := 0, cells := 0, slots := 0, locals := 0 } : Room) s m ([.ref (q 42), .int (pa1)] : List Value).toArray below meth c H locs 0 0 (MQ below (va_Qv (fun u => xInv F u) (zB D vwCl 81 q (zXd q cA) sz) (zA 81 q sz)) ([.ref (q 42), .int (pa1)] : List Value).toArray s 0 0 (zA 81 q sz)) (F0 m 5 ls []) := by
    intro N
    induction N with
    | zero => intro x_20 hx_20 R_21 hI_21 hN; exact absurd hN (Nat.not_lt_zero _)
    | succ N ih_24 =>
      intro x_20 hx_20 R_21 hI_21 hN_23 H locs hP hD hS ls hl
      refine lv_iload_n hx hb dJ7_fill_53178_5 rfl (lv_at hl 2 rfl) ?_
      refine lv_iload_n hx hb dJ7_fill_53178_6 rfl (lv_at hl 3 rfl) ?_
      refine lv_icmp_ge (tgt := 20) hx hb dJ7_fill_53178_7 (by decide) (fun c_25 => ?_) (fun c_25 => ?_)
      · have t_c_25 := z_leT c_25
        have f_26 : zR 5 5 (x_20) := zR_ley t_c_25 zk_5 hx_20 (by decide)
        exact z_vret hx hb hr hlocks hP hD hS dJ7_fill_53178_20 hI_21
      · have t_c_25 := z_leF c_25
        have f_27 : zR 0 4 (x_20) := zR_ltx t_c_25 hx_20 zk_5 (by decide)
        refine lv_aload_n hx hb dJ7_fill_53178_10 rfl (lv_at hl 0 rfl) ?_
        refine lv_iload_n hx hb dJ7_fill_53178_11 rfl (lv_at hl 2 rfl) ?_
        refine lv_iload_n hx hb dJ7_fill_53178_12 rfl (lv_at hl 1 rfl) ?_
        refine z_iast hx hb hK hP hD hS 42 (by decide) 34 (fun _ => rfl) rfl (zR_vin f_27 (by decide)) dJ7_fill_53178_13 (fun H locs hP hD hS => ?_)
        have hI_28 := xInv_R hI_21 42 (x_20).toNatClampNeg (pa1) hpa1 rfl
        obtain ⟨v_29, ev_29⟩ : ∃ y : Int32, y = x_20 + nI 1 := ⟨_, rfl⟩
        have hv_29 : zR 1 5 v_29 := ev_29 ▸ zR_add f_27 zk_1 (by decide)
        have mv_29 : v_29.toInt = (x_20).toInt + 1 := by rw [ev_29, zR_addE f_27 zk_1 (by decide)]; rfl
        refine lv_iinc (v := v_29) (lv' := [(2, .int (v_29)), (0, .ref (q 42)), (1, .int (pa1)), (3, .int (nI 5))]) hx hb dJ7_fill_53178_14 hl (k := 2) rfl (ev_29 ▸ rfl) (by decide) rfl (fun ls hl => ?_)
        refine lv_goto (tgt := 5) hx hb dJ7_fill_53178_17 (by decide) ?_
        exact ih_24 (v_29) (zR_w hv_29 (by decide)) _ hI_28 (z2_up mv_29 (by decide) hN_23) _ _ hP hD hS _ (lv_sub hl [1, 2, 0, 3] rfl)
  exact loop_22 _ (nI 0) (zR_w zk_0 (by decide)) _ hI (Nat.lt_succ_self _) _ _ hP hD hS _ (lv_sub hl [2, 3, 1, 0] rfl)
set_option maxHeartbeats 4000000 in
set_option maxRecDepth 100000 in
theorem xk_J6_bitCount_0f7a4_1 (l : Launch) (D : va_G) (q : Nat → Nat) (cA : Nat → ClassId) (F : Nat → Nat → Int32) (I R : Nat → Nat → Int32) (J : Nat → Nat → Int64) (hI : xInv F (I, R, J)) (pa0 : Int32) (hpa0 : zR 0 1 pa0) : zMi l D vwCl (zXtys cA) 81 q (zXd q cA) yJ6_bitCount_0f7a4 cJ6_bitCount_0f7a4 1 (some .int) ({ frames := 0, cells := 0, slots := 0, locals := 0 } : Room) [.int (pa0)] (I, R, J) (fun r u => zR 0 63 r ∧ u = (I, R, J)) := by
  intro sz
  refine z_body (by decide +kernel) (Nat.le_of_ble_eq_true rfl) (fun p e s m below meth c ls hx hb hml hr ht hown hlocks hsz hK hP hD hS hl => ?_)
  have hA : ∀ a, s.heap.size ≤ a → zA 81 q sz a := fun a h => Or.inr (hsz ▸ h)
  have hl : lv_has ls 1 [(0, .int (pa0))] := hl
  refine lv_iload_n hx hb dJ6_bitCount_0f7a4_0 rfl (lv_at hl 0 rfl) ?_
  refine lv_iload_n hx hb dJ6_bitCount_0f7a4_1 rfl (lv_at hl 0 rfl) ?_
  refine lv_iconst (v := nI 1) hx hb dJ6_bitCount_0f7a4_2 (by decide +kernel) ?_
  refine lv_iushr hx hb dJ6_bitCount_0f7a4_3 rfl ?_
  refine z_any (fun v_1 => ?_)
  refine lv_ldcw (v := nI 1431655765) hx hb hown (ht _ hw_3_197) dJ6_bitCount_0f7a4_4 ?_
  refine lv_iand hx hb dJ6_bitCount_0f7a4_7 ?_
  refine z_rng (a := 0) (b := 1431655765) (zR_andr zk_1431655765 (by decide)) (fun v_2 hv_2 => ?_)
  refine lv_isub hx hb dJ6_bitCount_0f7a4_8 ?_
  refine z_rng (a := (-1431655765)) (b := 1) (zR_sub hpa0 hv_2 (by decide)) (fun v_3 hv_3 => ?_)
  refine lv_istore_n (lv' := [(0, .int (v_3))]) hx hb dJ6_bitCount_0f7a4_9 rfl hl (by decide) rfl (fun ls hl => ?_)
  refine lv_iload_n hx hb dJ6_bitCount_0f7a4_10 rfl (lv_at hl 0 rfl) ?_
  refine lv_ldcw (v := nI 858993459) hx hb hown (ht _ hw_3_198) dJ6_bitCount_0f7a4_11 ?_
  refine lv_iand hx hb dJ6_bitCount_0f7a4_14 ?_
  refine z_rng (a := 0) (b := 858993459) (zR_andr zk_858993459 (by decide)) (fun v_4 hv_4 => ?_)
  refine lv_iload_n hx hb dJ6_bitCount_0f7a4_15 rfl (lv_at hl 0 rfl) ?_
  refine lv_iconst (v := nI 2) hx hb dJ6_bitCount_0f7a4_16 (by decide +kernel) ?_
  refine lv_iushr hx hb dJ6_bitCount_0f7a4_17 rfl ?_
  refine z_any (fun v_5 => ?_)
  refine lv_ldcw (v := nI 858993459) hx hb hown (ht _ hw_3_198) dJ6_bitCount_0f7a4_18 ?_
  refine lv_iand hx hb dJ6_bitCount_0f7a4_21 ?_
  refine z_rng (a := 0) (b := 858993459) (zR_andr zk_858993459 (by decide)) (fun v_6 hv_6 => ?_)
  refine lv_iadd hx hb dJ6_bitCount_0f7a4_22 ?_
  refine z_rng (a := 0) (b := 1717986918) (zR_add hv_4 hv_6 (by decide)) (fun v_7 hv_7 => ?_)
  refine lv_istore_n (lv' := [(0, .int (v_7))]) hx hb dJ6_bitCount_0f7a4_23 rfl hl (by decide) rfl (fun ls hl => ?_)
  refine lv_iload_n hx hb dJ6_bitCount_0f7a4_24 rfl (lv_at hl 0 rfl) ?_
  refine lv_iload_n hx hb dJ6_bitCount_0f7a4_25 rfl (lv_at hl 0 rfl) ?_
  refine lv_iconst (v := nI 4) hx hb dJ6_bitCount_0f7a4_26 (by decide +kernel) ?_
  refine lv_iushr hx hb dJ6_bitCount_0f7a4_27 rfl ?_
  refine z_any (fun v_8 => ?_)
  refine lv_iadd hx hb dJ6_bitCount_0f7a4_28 ?_
  refine z_any (fun v_9 => ?_)
  refine lv_ldcw (v := nI 252645135) hx hb hown (ht _ hw_3_199) dJ6_bitCount_0f7a4_29 ?_
  refine lv_iand hx hb dJ6_bitCount_0f7a4_32 ?_
  refine z_rng (a := 0) (b := 252645135) (zR_andr zk_252645135 (by decide)) (fun v_10 hv_10 => ?_)
  refine lv_istore_n (lv' := [(0, .int (v_10))]) hx hb dJ6_bitCount_0f7a4_33 rfl hl (by decide) rfl (fun ls hl => ?_)
  refine lv_iload_n hx hb dJ6_bitCount_0f7a4_34 rfl (lv_at hl 0 rfl) ?_
  refine lv_iload_n hx hb dJ6_bitCount_0f7a4_35 rfl (lv_at hl 0 rfl) ?_
  refine lv_bipush (v := nI 8) hx hb dJ6_bitCount_0f7a4_36 (by decide +kernel) ?_
  refine lv_iushr hx hb dJ6_bitCount_0f7a4_38 rfl ?_
  refine z_any (fun v_11 => ?_)
  refine lv_iadd hx hb dJ6_bitCount_0f7a4_39 ?_
  refine z_any (fun v_12 => ?_)
  refine lv_istore_n (lv' := [(0, .int (v_12))]) hx hb dJ6_bitCount_0f7a4_40 rfl hl (by decide) rfl (fun ls hl => ?_)
  refine lv_iload_n hx hb dJ6_bitCount_0f7a4_41 rfl (lv_at hl 0 rfl) ?_
  refine lv_iload_n hx hb dJ6_bitCount_0f7a4_42 rfl (lv_at hl 0 rfl) ?_
  refine lv_bipush (v := nI 16) hx hb dJ6_bitCount_0f7a4_43 (by decide +kernel) ?_
  refine lv_iushr hx hb dJ6_bitCount_0f7a4_45 rfl ?_
  refine z_any (fun v_13 => ?_)
  refine lv_iadd hx hb dJ6_bitCount_0f7a4_46 ?_
  refine z_any (fun v_14 => ?_)
  refine lv_istore_n (lv' := [(0, .int (v_14))]) hx hb dJ6_bitCount_0f7a4_47 rfl hl (by decide) rfl (fun ls hl => ?_)
  refine lv_iload_n hx hb dJ6_bitCount_0f7a4_48 rfl (lv_at hl 0 rfl) ?_
  refine lv_bipush (v := nI 63) hx hb dJ6_bitCount_0f7a4_49 (by decide +kernel) ?_
  refine lv_iand hx hb dJ6_bitCount_0f7a4_51 ?_
  refine z_rng (a := 0) (b := 63) (zR_andr zk_63 (by decide)) (fun v_15 hv_15 => ?_)
  exact z_iret (v := v_15) hx hb hr hlocks hP hD hS dJ6_bitCount_0f7a4_52 ⟨hv_15, rfl⟩
set_option maxHeartbeats 4000000 in
set_option maxRecDepth 100000 in
theorem xk_X8_isBetter (l : Launch) (D : va_G) (q : Nat → Nat) (cA : Nat → ClassId) (F : Nat → Nat → Int32) (I R : Nat → Nat → Int32) (J : Nat → Nat → Int64) (hI : xInv F (I, R, J)) (pa0 : Int32) : zMi l D vwCl (zXtys cA) 81 q (zXd q cA) yX8_isBetter cX8_isBetter 3 (some .boolean) ({ frames := 1, cells := 0, slots := 0, locals := 20 } : Room) [.ref (q 39), .int (pa0)] (I, R, J) (fun r u => (r = nI 1 ∧ u = (I, R, J)) ∨ (r = nI 0 ∧ u = (I, R, J))) := by
  intro sz
  refine z_body (by decide +kernel) (Nat.le_of_ble_eq_true rfl) (fun p e s m below meth c ls hx hb hml hr ht hown hlocks hsz hK hP hD hS hl => ?_)
  have hA : ∀ a, s.heap.size ≤ a → zA 81 q sz a := fun a h => Or.inr (hsz ▸ h)
  have hl : lv_has ls 3 [(0, .ref (q 39)), (1, .int (pa0))] := hl
  refine lv_iload_n hx hb dX8_isBetter_0 rfl (lv_at hl 1 rfl) ?_
  refine z_callSi (As := [.int (pa0)]) (rest := []) hx hb hml hown ht (xk_J6_bitCount_0f7a4 l D q cA F _ _ _ hI (pa0)) hw_4_98 hmJ6_bitCount_0f7a4 ⟨rfl, rfl⟩ (na := 1) rfl (by decide +kernel) (by decide) hK hP hD hS hA hl.1 rfl (Nat.le_of_ble_eq_true rfl) ⟨Nat.zero_le _, Nat.zero_le _⟩ dX8_isBetter_1 (fun r_1 I_1 R_1 J_1 H locs hp_1 hP hD hS _ _ => ?_)
  obtain ⟨hr_1, hu_1⟩ := hp_1
  cases hu_1
  refine lv_aload_n hx hb dX8_isBetter_4 rfl (lv_at hl 0 rfl) ?_
  refine z_get hx hb ht hown hK hP ziX8 rfl 39 (by decide) 5 (by decide) hw_1_234 rfl (v := .int (I 39 5)) rfl dX8_isBetter_5 ?_
  refine z_callSi (As := [.int (I 39 5)]) (rest := [.int (r_1)]) hx hb hml hown ht (xk_J6_bitCount_0f7a4 l D q cA F _ _ _ hI (I 39 5)) hw_4_98 hmJ6_bitCount_0f7a4 ⟨rfl, rfl⟩ (na := 1) rfl (by decide +kernel) (by decide) hK hP hD hS hA hl.1 rfl (Nat.le_of_ble_eq_true rfl) ⟨Nat.zero_le _, Nat.zero_le _⟩ dX8_isBetter_8 (fun r_2 I_2 R_2 J_2 H locs hp_2 hP hD hS _ _ => ?_)
  obtain ⟨hr_2, hu_2⟩ := hp_2
  cases hu_2
  refine lv_isub hx hb dX8_isBetter_11 ?_
  refine z_rng (a := (-63)) (b := 63) (zR_sub hr_1 hr_2 (by decide)) (fun v_3 hv_3 => ?_)
  refine lv_istore_n (lv' := [(2, .int (v_3)), (0, .ref (q 39)), (1, .int (pa0))]) hx hb dX8_isBetter_12 rfl hl (by decide) rfl (fun ls hl => ?_)
  refine lv_iload_n hx hb dX8_isBetter_13 rfl (lv_at hl 0 rfl) ?_
  refine lv_if_gt (tgt := 29) hx hb dX8_isBetter_14 (by decide) (fun c_4 => ?_) (fun c_4 => ?_)
  · have t_c_4 := z_ltT c_4
    have f_5 : zR 1 63 (v_3) := zR_lty t_c_4 zk_z hv_3 (by decide)
    refine lv_iconst (v := nI 1) hx hb dX8_isBetter_29 (by decide +kernel) ?_
    refine lv_goto (tgt := 34) hx hb dX8_isBetter_30 (by decide) ?_
    exact z_zret (v := nI 1) hx hb hr hlocks hP hD hS (by decide +kernel) dX8_isBetter_34 (Or.inl ⟨rfl, rfl⟩)
  · have t_c_4 := z_ltF c_4
    have f_6 : zR (-63) 0 (v_3) := zR_lex t_c_4 hv_3 zk_z (by decide)
    refine lv_iload_n hx hb dX8_isBetter_17 rfl (lv_at hl 0 rfl) ?_
    refine lv_if_ne (tgt := 33) hx hb dX8_isBetter_18 (by decide) (fun c_7 => ?_) (fun c_7 => ?_)
    · have t_c_7 := z_eqF c_7
      have f_8 : zR (-63) (-1) (v_3) := zR_nex t_c_7 f_6 zk_z (by decide)
      refine lv_iconst (v := nI 0) hx hb dX8_isBetter_33 (by decide +kernel) ?_
      exact z_zret (v := nI 0) hx hb hr hlocks hP hD hS (by decide +kernel) dX8_isBetter_34 (Or.inr ⟨rfl, rfl⟩)
    · have t_c_7 := z_eqT c_7
      have f_9 : zR 0 0 (v_3) := zR_eqx t_c_7 zk_z
      refine lv_iload_n hx hb dX8_isBetter_21 rfl (lv_at hl 2 rfl) ?_
      refine lv_aload_n hx hb dX8_isBetter_22 rfl (lv_at hl 1 rfl) ?_
      refine z_get hx hb ht hown hK hP ziX8 rfl 39 (by decide) 5 (by decide) hw_1_234 rfl (v := .int (I 39 5)) rfl dX8_isBetter_23 ?_
      refine lv_icmp_le (tgt := 33) hx hb dX8_isBetter_26 (by decide) (fun c_10 => ?_) (fun c_10 => ?_)
      · have t_c_10 := z_leT c_10
        refine lv_iconst (v := nI 0) hx hb dX8_isBetter_33 (by decide +kernel) ?_
        exact z_zret (v := nI 0) hx hb hr hlocks hP hD hS (by decide +kernel) dX8_isBetter_34 (Or.inr ⟨rfl, rfl⟩)
      · have t_c_10 := z_leF c_10
        have f_11 : zR (-2147483648) 2147483646 (I 39 5) := zR_ltx t_c_10 (zR_any (I 39 5)) (zR_any (pa0)) (by decide)
        have f_12 : zR (-2147483647) 2147483647 (pa0) := zR_lty t_c_10 (zR_any (I 39 5)) (zR_any (pa0)) (by decide)
        refine lv_iconst (v := nI 1) hx hb dX8_isBetter_29 (by decide +kernel) ?_
        refine lv_goto (tgt := 34) hx hb dX8_isBetter_30 (by decide) ?_
        exact z_zret (v := nI 1) hx hb hr hlocks hP hD hS (by decide +kernel) dX8_isBetter_34 (Or.inl ⟨rfl, rfl⟩)
set_option maxHeartbeats 4000000 in
set_option maxRecDepth 100000 in
theorem xk_X8_keep_5 (l : Launch) (D : va_G) (q : Nat → Nat) (cA : Nat → ClassId) (F : Nat → Nat → Int32) (I R : Nat → Nat → Int32) (J : Nat → Nat → Int64) (hI : xInv F (I, R, J)) (pa1 : Int32) : zMv l D vwCl (zXtys cA) 81 q (zXd q cA) yX8_keep cX8_keep 5 none ({ frames := 2, cells := 0, slots := 0, locals := 42 } : Room) [.ref (q 39), .int (nI 5), .int (pa1)] (I, R, J) (fun u => xInv F u) := by
  intro sz
  refine z_body (by decide +kernel) (Nat.le_of_ble_eq_true rfl) (fun p e s m below meth c ls hx hb hml hr ht hown hlocks hsz hK hP hD hS hl => ?_)
  have hA : ∀ a, s.heap.size ≤ a → zA 81 q sz a := fun a h => Or.inr (hsz ▸ h)
  have hl : lv_has ls 5 [(0, .ref (q 39)), (1, .int (nI 5)), (2, .int (pa1))] := hl
  refine lv_iload_n hx hb dX8_keep_0 rfl (lv_at hl 1 rfl) ?_
  refine lv_iconst (v := nI 5) hx hb dX8_keep_1 (by decide +kernel) ?_
  refine lv_icmp_lt (tgt := 19) hx hb dX8_keep_2 (by decide) (fun c_0 => absurd c_0 (zD_nlt zk_5 zk_5 (by decide))) (fun _ => ?_)
  refine lv_aload_n hx hb dX8_keep_5 rfl (lv_at hl 0 rfl) ?_
  refine lv_iload_n hx hb dX8_keep_6 rfl (lv_at hl 2 rfl) ?_
  refine z_callVi (k := 39) (As := [.int (pa1)]) (rest := []) hx hb hml hown ht (xk_X8_isBetter l D q cA F _ _ _ hI (pa1)) hw_4_94 hmX8_isBetter ⟨rfl, rfl⟩ (na := 1) rfl (by decide +kernel) (by decide) (by decide) rfl rfl hK hP hD hS hA hl.1 rfl (Nat.le_of_ble_eq_true rfl) ⟨Nat.zero_le _, Nat.zero_le _⟩ dX8_keep_7 (fun r_1 I_1 R_1 J_1 H locs hp_1 hP hD hS _ _ => ?_)
  rcases hp_1 with ⟨rfl, hu_1⟩ | ⟨rfl, hu_1⟩
  · cases hu_1
    refine lv_if_eq (tgt := 18) hx hb dX8_keep_10 (by decide) (fun c_0 => absurd c_0 (zD_ne zk_1 zk_z (by decide))) (fun _ => ?_)
    refine lv_aload_n hx hb dX8_keep_13 rfl (lv_at hl 0 rfl) ?_
    refine lv_iload_n hx hb dX8_keep_14 rfl (lv_at hl 2 rfl) ?_
    refine z_putI hx hb ht hown hK hP hD hS ziX8 tyX8 tyX8_ok nmX8 rfl 39 (by decide) 5 (by decide) hw_1_234 rfl (v := pa1) rfl rfl rfl (Nat.le_of_ble_eq_true rfl) rfl dX8_keep_15 (fun H locs hP hD hS => ?_)
    have hI_2 := xInv_I hI 39 5 (pa1) (zR_any (pa1)) rfl
    exact z_vret hx hb hr hlocks hP hD hS dX8_keep_18 hI_2
  · cases hu_1
    refine lv_if_eq (tgt := 18) hx hb dX8_keep_10 (by decide) (fun _ => ?_) (fun c_0 => absurd (zD_eq zk_0 zk_z) c_0)
    exact z_vret hx hb hr hlocks hP hD hS dX8_keep_18 hI
set_option maxHeartbeats 4000000 in
set_option maxRecDepth 100000 in
theorem xk_X8_leads_4 (l : Launch) (D : va_G) (q : Nat → Nat) (cA : Nat → ClassId) (F : Nat → Nat → Int32) (I R : Nat → Nat → Int32) (J : Nat → Nat → Int64) (hI : xInv F (I, R, J)) (pa0 : Int32) (hpa0 : zR 0 4 pa0) (pa1 : Int32) (hpa1 : zR 0 4 pa1) : zMi l D vwCl (zXtys cA) 81 q (zXd q cA) yX8_leads cX8_leads 5 (some .boolean) ({ frames := 0, cells := 0, slots := 0, locals := 0 } : Room) [.ref (q 39), .int (pa0), .int (pa1)] (I, R, J) (fun r u => (r = nI 1 ∧ u = (I, R, J)) ∨ (r = nI 0 ∧ u = (I, R, J))) := by
  intro sz
  refine z_body (by decide +kernel) (Nat.le_of_ble_eq_true rfl) (fun p e s m below meth c ls hx hb hml hr ht hown hlocks hsz hK hP hD hS hl => ?_)
  have hA : ∀ a, s.heap.size ≤ a → zA 81 q sz a := fun a h => Or.inr (hsz ▸ h)
  have hl : lv_has ls 5 [(0, .ref (q 39)), (1, .int (pa0)), (2, .int (pa1))] := hl
  refine lv_iload_n hx hb dX8_leads_0 rfl (lv_at hl 1 rfl) ?_
  refine lv_istore_n (lv' := [(3, .int (pa0)), (0, .ref (q 39)), (1, .int (pa0)), (2, .int (pa1))]) hx hb dX8_leads_1 rfl hl (by decide) rfl (fun ls hl => ?_)
  refine lv_iconst (v := nI 0) hx hb dX8_leads_2 (by decide +kernel) ?_
  refine lv_istore (lv' := [(4, .int (nI 0)), (3, .int (pa0)), (0, .ref (q 39)), (1, .int (pa0)), (2, .int (pa1))]) hx hb dX8_leads_3 hl (by decide) rfl (fun ls hl => ?_)
  have loop_35 : ∀ N : Nat, ∀ x_33 : Int32, zR (-1) 4 x_33 → ∀ x_34 : Int32, zR 0 5 x_34 → (2147483648 - (x_34).toInt).toNat < N → ∀ (H : Heap) (locs : List Loc), va_P D vwCl (zw 81 q (zXd q cA) I R J) H → va_D (zA 81 q sz) (zw 81 q (zXd q cA) I R J) → va_S (zA 81 q sz) s.heap H locs → ∀ ls : Array Slot, lv_has ls 5 [(0, .ref (q 39)), (1, .int (pa0)), (2, .int (pa1)), (3, .int (x_33)), (4, .int (x_34))] → W p l e ({ frames := 0, cells := 0, slots := 0, locals := 0 } : Room) s m ([.ref (q 39), .int (pa0), .int (pa1)] : List Value).toArray below meth c H locs 0 0 (MQ below (va_Qi (fun r u => (r = nI 1 ∧ u = (I, R, J)) ∨ (r = nI 0 ∧ u = (I, R, J))) (zB D vwCl 81 q (zXd q cA) sz) (zA 81 q sz)) ([.ref (q 39), .int (pa0), .int (pa1)] : List Value).toArray s 0 0 (zA 81 q sz)) (F0 m 5 ls []) := by
    intro N
    induction N with
    | zero => intro x_33 hx_33 x_34 hx_34 hN; exact absurd hN (Nat.not_lt_zero _)
    | succ N ih_37 =>
      intro x_33 hx_33 x_34 hx_34 hN_36 H locs hP hD hS ls hl
      refine lv_iload hx hb dX8_leads_5 (lv_at hl 4 rfl) ?_
      refine lv_iconst (v := nI 5) hx hb dX8_leads_7 (by decide +kernel) ?_
      refine lv_icmp_ge (tgt := 36) hx hb dX8_leads_8 (by decide) (fun c_38 => ?_) (fun c_38 => ?_)
      · have t_c_38 := z_leT c_38
        have f_39 : zR 5 5 (x_34) := zR_ley t_c_38 zk_5 hx_34 (by decide)
        refine lv_iconst (v := nI 0) hx hb dX8_leads_36 (by decide +kernel) ?_
        exact z_zret (v := nI 0) hx hb hr hlocks hP hD hS (by decide +kernel) dX8_leads_37 (Or.inr ⟨rfl, rfl⟩)
      · have t_c_38 := z_leF c_38
        have f_40 : zR 0 4 (x_34) := zR_ltx t_c_38 hx_34 zk_5 (by decide)
        refine lv_iload_n hx hb dX8_leads_11 rfl (lv_at hl 3 rfl) ?_
        refine lv_iconst (v := (-1)) hx hb dX8_leads_12 (by decide +kernel) ?_
        refine lv_icmp_eq (tgt := 36) hx hb dX8_leads_13 (by decide) (fun c_41 => ?_) (fun c_41 => ?_)
        · have t_c_41 := z_eqT c_41
          have f_42 : zR (-1) (-1) (x_33) := zR_eqx t_c_41 zk_m1
          refine lv_iconst (v := nI 0) hx hb dX8_leads_36 (by decide +kernel) ?_
          exact z_zret (v := nI 0) hx hb hr hlocks hP hD hS (by decide +kernel) dX8_leads_37 (Or.inr ⟨rfl, rfl⟩)
        · have t_c_41 := z_eqF c_41
          have f_43 : zR 0 4 (x_33) := zR_nex t_c_41 hx_33 zk_m1 (by decide)
          refine lv_iload_n hx hb dX8_leads_16 rfl (lv_at hl 3 rfl) ?_
          refine lv_iload_n hx hb dX8_leads_17 rfl (lv_at hl 2 rfl) ?_
          refine lv_icmp_ne (tgt := 23) hx hb dX8_leads_18 (by decide) (fun c_44 => ?_) (fun c_44 => ?_)
          · have t_c_44 := z_eqF c_44
            refine lv_aload_n hx hb dX8_leads_23 rfl (lv_at hl 0 rfl) ?_
            refine z_get hx hb ht hown hK hP ziX8 rfl 39 (by decide) 4 (by decide) hw_1_233 rfl (v := .ref (q 42)) rfl dX8_leads_24 ?_
            refine lv_iload_n hx hb dX8_leads_27 rfl (lv_at hl 3 rfl) ?_
            refine z_iald hx hb hK hP 42 (by decide) 34 rfl rfl (zR_vin f_43 (by decide)) dX8_leads_28 ?_
            refine z_eqi (y := R 42 (x_33).toNatClampNeg) rfl ?_
            have f_45 : zR (-1) 4 (R 42 (x_33).toNatClampNeg) := xR hI 42 (x_33).toNatClampNeg
            refine lv_istore_n (lv' := [(3, .int (R 42 (x_33).toNatClampNeg)), (0, .ref (q 39)), (1, .int (pa0)), (2, .int (pa1)), (4, .int (x_34))]) hx hb dX8_leads_29 rfl hl (by decide) rfl (fun ls hl => ?_)
            obtain ⟨v_46, ev_46⟩ : ∃ y : Int32, y = x_34 + nI 1 := ⟨_, rfl⟩
            have hv_46 : zR 1 5 v_46 := ev_46 ▸ zR_add f_40 zk_1 (by decide)
            have mv_46 : v_46.toInt = (x_34).toInt + 1 := by rw [ev_46, zR_addE f_40 zk_1 (by decide)]; rfl
            refine lv_iinc (v := v_46) (lv' := [(4, .int (v_46)), (3, .int (R 42 (x_33).toNatClampNeg)), (0, .ref (q 39)), (1, .int (pa0)), (2, .int (pa1))]) hx hb dX8_leads_30 hl (k := 4) rfl (ev_46 ▸ rfl) (by decide) rfl (fun ls hl => ?_)
            refine lv_goto (tgt := 5) hx hb dX8_leads_33 (by decide) ?_
            exact ih_37 (R 42 (x_33).toNatClampNeg) f_45 (v_46) (zR_w hv_46 (by decide)) (z2_up mv_46 (by decide) hN_36) _ _ hP hD hS _ (lv_sub hl [2, 3, 4, 1, 0] rfl)
          · have t_c_44 := z_eqT c_44
            refine lv_iconst (v := nI 1) hx hb dX8_leads_21 (by decide +kernel) ?_
            exact z_zret (v := nI 1) hx hb hr hlocks hP hD hS (by decide +kernel) dX8_leads_22 (Or.inl ⟨rfl, rfl⟩)
  exact loop_35 _ (pa0) (zR_w hpa0 (by decide)) (nI 0) (zR_w zk_0 (by decide)) (Nat.lt_succ_self _) _ _ hP hD hS _ (lv_sub hl [2, 3, 4, 1, 0] rfl)
set_option maxHeartbeats 4000000 in
set_option maxRecDepth 100000 in
theorem xk_X8_keep_4 (l : Launch) (D : va_G) (q : Nat → Nat) (cA : Nat → ClassId) (F : Nat → Nat → Int32) (I R : Nat → Nat → Int32) (J : Nat → Nat → Int64) (hI : xInv F (I, R, J)) (pa1 : Int32) : zMv l D vwCl (zXtys cA) 81 q (zXd q cA) yX8_keep cX8_keep 5 none ({ frames := 3, cells := 0, slots := 0, locals := 66 } : Room) [.ref (q 39), .int (nI 4), .int (pa1)] (I, R, J) (fun u => xInv F u) := by
  intro sz
  refine z_body (by decide +kernel) (Nat.le_of_ble_eq_true rfl) (fun p e s m below meth c ls hx hb hml hr ht hown hlocks hsz hK hP hD hS hl => ?_)
  have hA : ∀ a, s.heap.size ≤ a → zA 81 q sz a := fun a h => Or.inr (hsz ▸ h)
  have hl : lv_has ls 5 [(0, .ref (q 39)), (1, .int (nI 4)), (2, .int (pa1))] := hl
  refine lv_iload_n hx hb dX8_keep_0 rfl (lv_at hl 1 rfl) ?_
  refine lv_iconst (v := nI 5) hx hb dX8_keep_1 (by decide +kernel) ?_
  refine lv_icmp_lt (tgt := 19) hx hb dX8_keep_2 (by decide) (fun _ => ?_) (fun c_0 => absurd (zD_lt zk_4 zk_5 (by decide)) c_0)
  refine lv_iload_n hx hb dX8_keep_19 rfl (lv_at hl 2 rfl) ?_
  refine z_callSi (As := [.int (pa1)]) (rest := []) hx hb hml hown ht (xk_J6_bitCount_0f7a4 l D q cA F _ _ _ hI (pa1)) hw_4_98 hmJ6_bitCount_0f7a4 ⟨rfl, rfl⟩ (na := 1) rfl (by decide +kernel) (by decide) hK hP hD hS hA hl.1 rfl (Nat.le_of_ble_eq_true rfl) ⟨Nat.zero_le _, Nat.zero_le _⟩ dX8_keep_20 (fun r_1 I_1 R_1 J_1 H locs hp_1 hP hD hS _ _ => ?_)
  obtain ⟨hr_1, hu_1⟩ := hp_1
  cases hu_1
  refine lv_iconst (v := nI 5) hx hb dX8_keep_23 (by decide +kernel) ?_
  refine lv_iadd hx hb dX8_keep_24 ?_
  refine z_addc 5 68 hr_1 zk_5 (by decide) (fun v_2 hv_2 mv_2 => ?_)
  refine lv_iload_n hx hb dX8_keep_25 rfl (lv_at hl 1 rfl) ?_
  refine lv_isub hx hb dX8_keep_26 ?_
  refine z_subc 1 64 (-4) hv_2 zk_4 (by decide) (fun v_3 hv_3 mv_3 => ?_)
  refine lv_aload_n hx hb dX8_keep_27 rfl (lv_at hl 0 rfl) ?_
  refine z_get hx hb ht hown hK hP ziX8 rfl 39 (by decide) 5 (by decide) hw_1_234 rfl (v := .int (I 39 5)) rfl dX8_keep_28 ?_
  refine z_callSi (As := [.int (I 39 5)]) (rest := [.int (v_3)]) hx hb hml hown ht (xk_J6_bitCount_0f7a4 l D q cA F _ _ _ hI (I 39 5)) hw_4_98 hmJ6_bitCount_0f7a4 ⟨rfl, rfl⟩ (na := 1) rfl (by decide +kernel) (by decide) hK hP hD hS hA hl.1 rfl (Nat.le_of_ble_eq_true rfl) ⟨Nat.zero_le _, Nat.zero_le _⟩ dX8_keep_31 (fun r_4 I_4 R_4 J_4 H locs hp_4 hP hD hS _ _ => ?_)
  obtain ⟨hr_4, hu_4⟩ := hp_4
  cases hu_4
  refine lv_icmp_ge (tgt := 38) hx hb dX8_keep_34 (by decide) (fun c_5 => ?_) (fun c_5 => ?_)
  · have t_c_5 := z_leT c_5
    refine lv_iconst (v := nI 0) hx hb dX8_keep_38 (by decide +kernel) ?_
    refine lv_istore_n (lv' := [(3, .int (nI 0)), (0, .ref (q 39)), (1, .int (nI 4)), (2, .int (pa1))]) hx hb dX8_keep_39 rfl hl (by decide) rfl (fun ls hl => ?_)
    have loop_70 : ∀ N : Nat, ∀ x_68 : Int32, zR 0 5 x_68 → ∀ I_69 : Nat → Nat → Int32, ∀ R_69 : Nat → Nat → Int32, ∀ J_69 : Nat → Nat → Int64, xInv F (I_69, R_69, J_69) → (2147483648 - (x_68).toInt).toNat < N → ∀ (H : Heap) (locs : List Loc), va_P D vwCl (zw 81 q (zXd q cA) I_69 R_69 J_69) H → va_D (zA 81 q sz) (zw 81 q (zXd q cA) I_69 R_69 J_69) → va_S (zA 81 q sz) s.heap H locs → ∀ ls : Array Slot, lv_has ls 5 [(0, .ref (q 39)), (1, .int (nI 4)), (2, .int (pa1)), (3, .int (x_68))] → W p l e ({ frames := 3, cells := 0, slots := 0, locals := 66 } : Room) s m ([.ref (q 39), .int (nI 4), .int (pa1)] : List Value).toArray below meth c H locs 0 0 (MQ below (va_Qv (fun u => xInv F u) (zB D vwCl 81 q (zXd q cA) sz) (zA 81 q sz)) ([.ref (q 39), .int (nI 4), .int (pa1)] : List Value).toArray s 0 0 (zA 81 q sz)) (F0 m 40 ls []) := by
      intro N
      induction N with
      | zero => intro x_68 hx_68 I_69 R_69 J_69 hI_69 hN; exact absurd hN (Nat.not_lt_zero _)
      | succ N ih_72 =>
        intro x_68 hx_68 I_69 R_69 J_69 hI_69 hN_71 H locs hP hD hS ls hl
        refine lv_iload_n hx hb dX8_keep_40 rfl (lv_at hl 3 rfl) ?_
        refine lv_iconst (v := nI 5) hx hb dX8_keep_41 (by decide +kernel) ?_
        refine lv_icmp_ge (tgt := 105) hx hb dX8_keep_42 (by decide) (fun c_73 => ?_) (fun c_73 => ?_)
        · have t_c_73 := z_leT c_73
          have f_89 : zR 5 5 (x_68) := zR_ley t_c_73 zk_5 hx_68 (by decide)
          refine lv_aload_n hx hb dX8_keep_105 rfl (lv_at hl 0 rfl) ?_
          refine lv_iload_n hx hb dX8_keep_106 rfl (lv_at hl 1 rfl) ?_
          refine lv_iconst (v := nI 1) hx hb dX8_keep_107 (by decide +kernel) ?_
          refine lv_iadd hx hb dX8_keep_108 ?_
          refine z_eqi (y := nI 5) (by decide +kernel) ?_
          refine lv_iload_n hx hb dX8_keep_109 rfl (lv_at hl 2 rfl) ?_
          refine z_callVv (k := 39) (As := [.int (nI 5), .int (pa1)]) (rest := []) hx hb hml hown ht (xk_X8_keep_5 l D q cA F _ _ _ hI_69 (pa1)) hw_4_90 hmX8_keep ⟨rfl, rfl⟩ (na := 2) rfl (by decide +kernel) (by decide) (by decide) rfl rfl hK hP hD hS hA hl.1 rfl (Nat.le_of_ble_eq_true rfl) ⟨Nat.zero_le _, Nat.zero_le _⟩ dX8_keep_110 (fun I_90 R_90 J_90 H locs hp_90 hP hD hS _ _ => ?_)
          exact z_vret hx hb hr hlocks hP hD hS dX8_keep_113 hp_90
        · have t_c_73 := z_leF c_73
          have f_91 : zR 0 4 (x_68) := zR_ltx t_c_73 hx_68 zk_5 (by decide)
          refine lv_aload_n hx hb dX8_keep_45 rfl (lv_at hl 0 rfl) ?_
          refine z_get hx hb ht hown hK hP ziX8 rfl 39 (by decide) 3 (by decide) hw_1_232 rfl (v := .ref (q 41)) rfl dX8_keep_46 ?_
          refine lv_iload_n hx hb dX8_keep_49 rfl (lv_at hl 1 rfl) ?_
          refine lv_iconst (v := nI 5) hx hb dX8_keep_50 (by decide +kernel) ?_
          refine lv_imul hx hb dX8_keep_51 ?_
          refine z_eqi (y := nI 20) (by decide +kernel) ?_
          refine lv_iload_n hx hb dX8_keep_52 rfl (lv_at hl 3 rfl) ?_
          refine lv_iadd hx hb dX8_keep_53 ?_
          refine z_cadd 20 24 zk_20 f_91 (by decide) (fun v_92 hv_92 mv_92 => ?_)
          refine z_iald hx hb hK hP 41 (by decide) 33 rfl rfl (zR_vin hv_92 (by decide)) dX8_keep_54 ?_
          refine z_eqi (y := R_69 41 (v_92).toNatClampNeg) rfl ?_
          have f_93 : zR (-1) 23 (R_69 41 (v_92).toNatClampNeg) := xR hI_69 41 (v_92).toNatClampNeg
          refine lv_istore (lv' := [(4, .int (R_69 41 (v_92).toNatClampNeg)), (0, .ref (q 39)), (1, .int (nI 4)), (2, .int (pa1)), (3, .int (x_68))]) hx hb dX8_keep_55 hl (by decide) rfl (fun ls hl => ?_)
          refine lv_iload hx hb dX8_keep_57 (lv_at hl 0 rfl) ?_
          refine lv_iconst (v := (-1)) hx hb dX8_keep_59 (by decide +kernel) ?_
          have t_104 : ∀ I_103 : Nat → Nat → Int32, ∀ R_103 : Nat → Nat → Int32, ∀ J_103 : Nat → Nat → Int64, xInv F (I_103, R_103, J_103) → ∀ (H : Heap) (locs : List Loc), va_P D vwCl (zw 81 q (zXd q cA) I_103 R_103 J_103) H → va_D (zA 81 q sz) (zw 81 q (zXd q cA) I_103 R_103 J_103) → va_S (zA 81 q sz) s.heap H locs → ∀ ls : Array Slot, lv_has ls 5 [(0, .ref (q 39)), (1, .int (nI 4)), (2, .int (pa1)), (3, .int (x_68)), (4, .int (R_69 41 (v_92).toNatClampNeg))] → W p l e ({ frames := 3, cells := 0, slots := 0, locals := 66 } : Room) s m ([.ref (q 39), .int (nI 4), .int (pa1)] : List Value).toArray below meth c H locs 0 0 (MQ below (va_Qv (fun u => xInv F u) (zB D vwCl 81 q (zXd q cA) sz) (zA 81 q sz)) ([.ref (q 39), .int (nI 4), .int (pa1)] : List Value).toArray s 0 0 (zA 81 q sz)) (F0 m 99 ls []) := by
            intro I_103 R_103 J_103 hI_103 H locs hP hD hS ls hl
            obtain ⟨v_105, ev_105⟩ : ∃ y : Int32, y = x_68 + nI 1 := ⟨_, rfl⟩
            have hv_105 : zR 1 5 v_105 := ev_105 ▸ zR_add f_91 zk_1 (by decide)
            have mv_105 : v_105.toInt = (x_68).toInt + 1 := by rw [ev_105, zR_addE f_91 zk_1 (by decide)]; rfl
            refine lv_iinc (v := v_105) (lv' := [(3, .int (v_105)), (0, .ref (q 39)), (1, .int (nI 4)), (2, .int (pa1)), (4, .int (R_69 41 (v_92).toNatClampNeg))]) hx hb dX8_keep_99 hl (k := 3) rfl (ev_105 ▸ rfl) (by decide) rfl (fun ls hl => ?_)
            refine lv_goto (tgt := 40) hx hb dX8_keep_102 (by decide) ?_
            exact ih_72 (v_105) (zR_w hv_105 (by decide)) _ _ _ hI_103 (z2_up mv_105 (by decide) hN_71) _ _ hP hD hS _ (lv_sub hl [1, 2, 3, 0] rfl)
          refine lv_icmp_eq (tgt := 99) hx hb dX8_keep_60 (by decide) (fun c_94 => ?_) (fun c_94 => ?_)
          · have t_c_94 := z_eqT c_94
            have f_106 : zR (-1) (-1) (R_69 41 (v_92).toNatClampNeg) := zR_eqx t_c_94 zk_m1
            exact t_104 _ _ _ hI_69 _ _ hP hD hS _ (lv_sub hl [1, 2, 3, 4, 0] rfl)
          · have t_c_94 := z_eqF c_94
            have f_107 : zR 0 23 (R_69 41 (v_92).toNatClampNeg) := zR_nex t_c_94 f_93 zk_m1 (by decide)
            refine lv_aload_n hx hb dX8_keep_63 rfl (lv_at hl 1 rfl) ?_
            refine lv_iload_n hx hb dX8_keep_64 rfl (lv_at hl 4 rfl) ?_
            refine lv_iload_n hx hb dX8_keep_65 rfl (lv_at hl 2 rfl) ?_
            refine z_callVi (k := 39) (As := [.int (x_68), .int (nI 4)]) (rest := []) hx hb hml hown ht (xk_X8_leads_4 l D q cA F _ _ _ hI_69 (x_68) f_91 (nI 4) (zR_w zk_4 (by decide))) hw_4_99 hmX8_leads ⟨rfl, rfl⟩ (na := 2) rfl (by decide +kernel) (by decide) (by decide) rfl rfl hK hP hD hS hA hl.1 rfl (Nat.le_of_ble_eq_true rfl) ⟨Nat.zero_le _, Nat.zero_le _⟩ dX8_keep_66 (fun r_108 I_108 R_108 J_108 H locs hp_108 hP hD hS _ _ => ?_)
            rcases hp_108 with ⟨rfl, hu_108⟩ | ⟨rfl, hu_108⟩
            · cases hu_108
              refine lv_if_ne (tgt := 99) hx hb dX8_keep_69 (by decide) (fun _ => ?_) (fun c_0 => absurd c_0 (zD_ne zk_1 zk_z (by decide)))
              exact t_104 _ _ _ hI_69 _ _ hP hD hS _ (lv_sub hl [1, 2, 3, 4, 0] rfl)
            · cases hu_108
              refine lv_if_ne (tgt := 99) hx hb dX8_keep_69 (by decide) (fun c_0 => absurd (zD_eq zk_0 zk_z) c_0) (fun _ => ?_)
              refine lv_aload_n hx hb dX8_keep_72 rfl (lv_at hl 1 rfl) ?_
              refine z_get hx hb ht hown hK hP ziX8 rfl 39 (by decide) 4 (by decide) hw_1_233 rfl (v := .ref (q 42)) rfl dX8_keep_73 ?_
              refine lv_iload_n hx hb dX8_keep_76 rfl (lv_at hl 2 rfl) ?_
              refine lv_iload_n hx hb dX8_keep_77 rfl (lv_at hl 4 rfl) ?_
              refine z_iast hx hb hK hP hD hS 42 (by decide) 34 (fun _ => rfl) rfl (zR_vin zk_4 (by decide)) dX8_keep_78 (fun H locs hP hD hS => ?_)
              have hI_109 := xInv_R hI_69 42 (nI 4).toNatClampNeg (x_68) (show zR (-1) 4 (x_68) from zR_w f_91 (by decide)) rfl
              refine lv_aload_n hx hb dX8_keep_79 rfl (lv_at hl 1 rfl) ?_
              refine lv_iload_n hx hb dX8_keep_80 rfl (lv_at hl 2 rfl) ?_
              refine lv_iconst (v := nI 1) hx hb dX8_keep_81 (by decide +kernel) ?_
              refine lv_iadd hx hb dX8_keep_82 ?_
              refine z_eqi (y := nI 5) (by decide +kernel) ?_
              refine lv_iload_n hx hb dX8_keep_83 rfl (lv_at hl 3 rfl) ?_
              refine lv_iconst (v := nI 1) hx hb dX8_keep_84 (by decide +kernel) ?_
              refine lv_iload hx hb dX8_keep_85 (lv_at hl 0 rfl) ?_
              refine lv_ishl hx hb dX8_keep_87 ?_
              refine z_rng (a := 1) (b := 8388608) (zR_shl1 23 f_107 (by decide)) (fun v_110 hv_110 => ?_)
              refine lv_ior hx hb dX8_keep_88 ?_
              refine z_any (fun v_111 => ?_)
              refine z_callVv (k := 39) (As := [.int (nI 5), .int (v_111)]) (rest := []) hx hb hml hown ht (xk_X8_keep_5 l D q cA F _ _ _ hI_109 (v_111)) hw_4_90 hmX8_keep ⟨rfl, rfl⟩ (na := 2) rfl (by decide +kernel) (by decide) (by decide) rfl rfl hK hP hD hS hA hl.1 rfl (Nat.le_of_ble_eq_true rfl) ⟨Nat.zero_le _, Nat.zero_le _⟩ dX8_keep_89 (fun I_112 R_112 J_112 H locs hp_112 hP hD hS _ _ => ?_)
              refine lv_aload_n hx hb dX8_keep_92 rfl (lv_at hl 1 rfl) ?_
              refine z_get hx hb ht hown hK hP ziX8 rfl 39 (by decide) 4 (by decide) hw_1_233 rfl (v := .ref (q 42)) rfl dX8_keep_93 ?_
              refine lv_iload_n hx hb dX8_keep_96 rfl (lv_at hl 2 rfl) ?_
              refine lv_iconst (v := (-1)) hx hb dX8_keep_97 (by decide +kernel) ?_
              refine z_iast hx hb hK hP hD hS 42 (by decide) 34 (fun _ => rfl) rfl (zR_vin zk_4 (by decide)) dX8_keep_98 (fun H locs hP hD hS => ?_)
              have hI_113 := xInv_R hp_112 42 (nI 4).toNatClampNeg ((-1)) (show zR (-1) 4 ((-1)) from zR_w zk_m1 (by decide)) rfl
              exact t_104 _ _ _ hI_113 _ _ hP hD hS _ (lv_sub hl [1, 2, 3, 4, 0] rfl)
    exact loop_70 _ (nI 0) (zR_w zk_0 (by decide)) _ _ _ hI (Nat.lt_succ_self _) _ _ hP hD hS _ (lv_sub hl [1, 2, 3, 0] rfl)
  · have t_c_5 := z_leF c_5
    have f_114 : zR 1 62 (v_3) := zR_ltx t_c_5 hv_3 hr_4 (by decide)
    have f_115 : zR 5 66 (v_2) := zR_shift mv_3 f_114 (by decide)
    have f_116 : zR 2 63 (r_4) := zR_lty t_c_5 hv_3 hr_4 (by decide)
    exact z_vret hx hb hr hlocks hP hD hS dX8_keep_37 hI
set_option maxHeartbeats 4000000 in
set_option maxRecDepth 100000 in
theorem xk_X8_leads_5 (l : Launch) (D : va_G) (q : Nat → Nat) (cA : Nat → ClassId) (F : Nat → Nat → Int32) (I R : Nat → Nat → Int32) (J : Nat → Nat → Int64) (hI : xInv F (I, R, J)) (pa0 : Int32) (hpa0 : zR 0 4 pa0) (pa1 : Int32) (hpa1 : zR 0 3 pa1) : zMi l D vwCl (zXtys cA) 81 q (zXd q cA) yX8_leads cX8_leads 5 (some .boolean) ({ frames := 0, cells := 0, slots := 0, locals := 0 } : Room) [.ref (q 39), .int (pa0), .int (pa1)] (I, R, J) (fun r u => (r = nI 1 ∧ u = (I, R, J)) ∨ (r = nI 0 ∧ u = (I, R, J))) := by
  intro sz
  refine z_body (by decide +kernel) (Nat.le_of_ble_eq_true rfl) (fun p e s m below meth c ls hx hb hml hr ht hown hlocks hsz hK hP hD hS hl => ?_)
  have hA : ∀ a, s.heap.size ≤ a → zA 81 q sz a := fun a h => Or.inr (hsz ▸ h)
  have hl : lv_has ls 5 [(0, .ref (q 39)), (1, .int (pa0)), (2, .int (pa1))] := hl
  refine lv_iload_n hx hb dX8_leads_0 rfl (lv_at hl 1 rfl) ?_
  refine lv_istore_n (lv' := [(3, .int (pa0)), (0, .ref (q 39)), (1, .int (pa0)), (2, .int (pa1))]) hx hb dX8_leads_1 rfl hl (by decide) rfl (fun ls hl => ?_)
  refine lv_iconst (v := nI 0) hx hb dX8_leads_2 (by decide +kernel) ?_
  refine lv_istore (lv' := [(4, .int (nI 0)), (3, .int (pa0)), (0, .ref (q 39)), (1, .int (pa0)), (2, .int (pa1))]) hx hb dX8_leads_3 hl (by decide) rfl (fun ls hl => ?_)
  have loop_39 : ∀ N : Nat, ∀ x_37 : Int32, zR (-1) 4 x_37 → ∀ x_38 : Int32, zR 0 5 x_38 → (2147483648 - (x_38).toInt).toNat < N → ∀ (H : Heap) (locs : List Loc), va_P D vwCl (zw 81 q (zXd q cA) I R J) H → va_D (zA 81 q sz) (zw 81 q (zXd q cA) I R J) → va_S (zA 81 q sz) s.heap H locs → ∀ ls : Array Slot, lv_has ls 5 [(0, .ref (q 39)), (1, .int (pa0)), (2, .int (pa1)), (3, .int (x_37)), (4, .int (x_38))] → W p l e ({ frames := 0, cells := 0, slots := 0, locals := 0 } : Room) s m ([.ref (q 39), .int (pa0), .int (pa1)] : List Value).toArray below meth c H locs 0 0 (MQ below (va_Qi (fun r u => (r = nI 1 ∧ u = (I, R, J)) ∨ (r = nI 0 ∧ u = (I, R, J))) (zB D vwCl 81 q (zXd q cA) sz) (zA 81 q sz)) ([.ref (q 39), .int (pa0), .int (pa1)] : List Value).toArray s 0 0 (zA 81 q sz)) (F0 m 5 ls []) := by
    intro N
    induction N with
    | zero => intro x_37 hx_37 x_38 hx_38 hN; exact absurd hN (Nat.not_lt_zero _)
    | succ N ih_41 =>
      intro x_37 hx_37 x_38 hx_38 hN_40 H locs hP hD hS ls hl
      refine lv_iload hx hb dX8_leads_5 (lv_at hl 4 rfl) ?_
      refine lv_iconst (v := nI 5) hx hb dX8_leads_7 (by decide +kernel) ?_
      refine lv_icmp_ge (tgt := 36) hx hb dX8_leads_8 (by decide) (fun c_42 => ?_) (fun c_42 => ?_)
      · have t_c_42 := z_leT c_42
        have f_43 : zR 5 5 (x_38) := zR_ley t_c_42 zk_5 hx_38 (by decide)
        refine lv_iconst (v := nI 0) hx hb dX8_leads_36 (by decide +kernel) ?_
        exact z_zret (v := nI 0) hx hb hr hlocks hP hD hS (by decide +kernel) dX8_leads_37 (Or.inr ⟨rfl, rfl⟩)
      · have t_c_42 := z_leF c_42
        have f_44 : zR 0 4 (x_38) := zR_ltx t_c_42 hx_38 zk_5 (by decide)
        refine lv_iload_n hx hb dX8_leads_11 rfl (lv_at hl 3 rfl) ?_
        refine lv_iconst (v := (-1)) hx hb dX8_leads_12 (by decide +kernel) ?_
        refine lv_icmp_eq (tgt := 36) hx hb dX8_leads_13 (by decide) (fun c_45 => ?_) (fun c_45 => ?_)
        · have t_c_45 := z_eqT c_45
          have f_46 : zR (-1) (-1) (x_37) := zR_eqx t_c_45 zk_m1
          refine lv_iconst (v := nI 0) hx hb dX8_leads_36 (by decide +kernel) ?_
          exact z_zret (v := nI 0) hx hb hr hlocks hP hD hS (by decide +kernel) dX8_leads_37 (Or.inr ⟨rfl, rfl⟩)
        · have t_c_45 := z_eqF c_45
          have f_47 : zR 0 4 (x_37) := zR_nex t_c_45 hx_37 zk_m1 (by decide)
          refine lv_iload_n hx hb dX8_leads_16 rfl (lv_at hl 3 rfl) ?_
          refine lv_iload_n hx hb dX8_leads_17 rfl (lv_at hl 2 rfl) ?_
          refine lv_icmp_ne (tgt := 23) hx hb dX8_leads_18 (by decide) (fun c_48 => ?_) (fun c_48 => ?_)
          · have t_c_48 := z_eqF c_48
            refine lv_aload_n hx hb dX8_leads_23 rfl (lv_at hl 0 rfl) ?_
            refine z_get hx hb ht hown hK hP ziX8 rfl 39 (by decide) 4 (by decide) hw_1_233 rfl (v := .ref (q 42)) rfl dX8_leads_24 ?_
            refine lv_iload_n hx hb dX8_leads_27 rfl (lv_at hl 3 rfl) ?_
            refine z_iald hx hb hK hP 42 (by decide) 34 rfl rfl (zR_vin f_47 (by decide)) dX8_leads_28 ?_
            refine z_eqi (y := R 42 (x_37).toNatClampNeg) rfl ?_
            have f_49 : zR (-1) 4 (R 42 (x_37).toNatClampNeg) := xR hI 42 (x_37).toNatClampNeg
            refine lv_istore_n (lv' := [(3, .int (R 42 (x_37).toNatClampNeg)), (0, .ref (q 39)), (1, .int (pa0)), (2, .int (pa1)), (4, .int (x_38))]) hx hb dX8_leads_29 rfl hl (by decide) rfl (fun ls hl => ?_)
            obtain ⟨v_50, ev_50⟩ : ∃ y : Int32, y = x_38 + nI 1 := ⟨_, rfl⟩
            have hv_50 : zR 1 5 v_50 := ev_50 ▸ zR_add f_44 zk_1 (by decide)
            have mv_50 : v_50.toInt = (x_38).toInt + 1 := by rw [ev_50, zR_addE f_44 zk_1 (by decide)]; rfl
            refine lv_iinc (v := v_50) (lv' := [(4, .int (v_50)), (3, .int (R 42 (x_37).toNatClampNeg)), (0, .ref (q 39)), (1, .int (pa0)), (2, .int (pa1))]) hx hb dX8_leads_30 hl (k := 4) rfl (ev_50 ▸ rfl) (by decide) rfl (fun ls hl => ?_)
            refine lv_goto (tgt := 5) hx hb dX8_leads_33 (by decide) ?_
            exact ih_41 (R 42 (x_37).toNatClampNeg) f_49 (v_50) (zR_w hv_50 (by decide)) (z2_up mv_50 (by decide) hN_40) _ _ hP hD hS _ (lv_sub hl [2, 3, 4, 1, 0] rfl)
          · have t_c_48 := z_eqT c_48
            have f_51 : zR 0 3 (x_37) := zR_eqx t_c_48 hpa1
            refine lv_iconst (v := nI 1) hx hb dX8_leads_21 (by decide +kernel) ?_
            exact z_zret (v := nI 1) hx hb hr hlocks hP hD hS (by decide +kernel) dX8_leads_22 (Or.inl ⟨rfl, rfl⟩)
  exact loop_39 _ (pa0) (zR_w hpa0 (by decide)) (nI 0) (zR_w zk_0 (by decide)) (Nat.lt_succ_self _) _ _ hP hD hS _ (lv_sub hl [2, 3, 4, 1, 0] rfl)
set_option maxHeartbeats 4000000 in
set_option maxRecDepth 100000 in
theorem xk_X8_keep_3 (l : Launch) (D : va_G) (q : Nat → Nat) (cA : Nat → ClassId) (F : Nat → Nat → Int32) (I R : Nat → Nat → Int32) (J : Nat → Nat → Int64) (hI : xInv F (I, R, J)) (pa1 : Int32) : zMv l D vwCl (zXtys cA) 81 q (zXd q cA) yX8_keep cX8_keep 5 none ({ frames := 4, cells := 0, slots := 0, locals := 90 } : Room) [.ref (q 39), .int (nI 3), .int (pa1)] (I, R, J) (fun u => xInv F u) := by
  intro sz
  refine z_body (by decide +kernel) (Nat.le_of_ble_eq_true rfl) (fun p e s m below meth c ls hx hb hml hr ht hown hlocks hsz hK hP hD hS hl => ?_)
  have hA : ∀ a, s.heap.size ≤ a → zA 81 q sz a := fun a h => Or.inr (hsz ▸ h)
  have hl : lv_has ls 5 [(0, .ref (q 39)), (1, .int (nI 3)), (2, .int (pa1))] := hl
  refine lv_iload_n hx hb dX8_keep_0 rfl (lv_at hl 1 rfl) ?_
  refine lv_iconst (v := nI 5) hx hb dX8_keep_1 (by decide +kernel) ?_
  refine lv_icmp_lt (tgt := 19) hx hb dX8_keep_2 (by decide) (fun _ => ?_) (fun c_0 => absurd (zD_lt zk_3 zk_5 (by decide)) c_0)
  refine lv_iload_n hx hb dX8_keep_19 rfl (lv_at hl 2 rfl) ?_
  refine z_callSi (As := [.int (pa1)]) (rest := []) hx hb hml hown ht (xk_J6_bitCount_0f7a4 l D q cA F _ _ _ hI (pa1)) hw_4_98 hmJ6_bitCount_0f7a4 ⟨rfl, rfl⟩ (na := 1) rfl (by decide +kernel) (by decide) hK hP hD hS hA hl.1 rfl (Nat.le_of_ble_eq_true rfl) ⟨Nat.zero_le _, Nat.zero_le _⟩ dX8_keep_20 (fun r_1 I_1 R_1 J_1 H locs hp_1 hP hD hS _ _ => ?_)
  obtain ⟨hr_1, hu_1⟩ := hp_1
  cases hu_1
  refine lv_iconst (v := nI 5) hx hb dX8_keep_23 (by decide +kernel) ?_
  refine lv_iadd hx hb dX8_keep_24 ?_
  refine z_addc 5 68 hr_1 zk_5 (by decide) (fun v_2 hv_2 mv_2 => ?_)
  refine lv_iload_n hx hb dX8_keep_25 rfl (lv_at hl 1 rfl) ?_
  refine lv_isub hx hb dX8_keep_26 ?_
  refine z_subc 2 65 (-3) hv_2 zk_3 (by decide) (fun v_3 hv_3 mv_3 => ?_)
  refine lv_aload_n hx hb dX8_keep_27 rfl (lv_at hl 0 rfl) ?_
  refine z_get hx hb ht hown hK hP ziX8 rfl 39 (by decide) 5 (by decide) hw_1_234 rfl (v := .int (I 39 5)) rfl dX8_keep_28 ?_
  refine z_callSi (As := [.int (I 39 5)]) (rest := [.int (v_3)]) hx hb hml hown ht (xk_J6_bitCount_0f7a4 l D q cA F _ _ _ hI (I 39 5)) hw_4_98 hmJ6_bitCount_0f7a4 ⟨rfl, rfl⟩ (na := 1) rfl (by decide +kernel) (by decide) hK hP hD hS hA hl.1 rfl (Nat.le_of_ble_eq_true rfl) ⟨Nat.zero_le _, Nat.zero_le _⟩ dX8_keep_31 (fun r_4 I_4 R_4 J_4 H locs hp_4 hP hD hS _ _ => ?_)
  obtain ⟨hr_4, hu_4⟩ := hp_4
  cases hu_4
  refine lv_icmp_ge (tgt := 38) hx hb dX8_keep_34 (by decide) (fun c_5 => ?_) (fun c_5 => ?_)
  · have t_c_5 := z_leT c_5
    refine lv_iconst (v := nI 0) hx hb dX8_keep_38 (by decide +kernel) ?_
    refine lv_istore_n (lv' := [(3, .int (nI 0)), (0, .ref (q 39)), (1, .int (nI 3)), (2, .int (pa1))]) hx hb dX8_keep_39 rfl hl (by decide) rfl (fun ls hl => ?_)
    have loop_70 : ∀ N : Nat, ∀ x_68 : Int32, zR 0 5 x_68 → ∀ I_69 : Nat → Nat → Int32, ∀ R_69 : Nat → Nat → Int32, ∀ J_69 : Nat → Nat → Int64, xInv F (I_69, R_69, J_69) → (2147483648 - (x_68).toInt).toNat < N → ∀ (H : Heap) (locs : List Loc), va_P D vwCl (zw 81 q (zXd q cA) I_69 R_69 J_69) H → va_D (zA 81 q sz) (zw 81 q (zXd q cA) I_69 R_69 J_69) → va_S (zA 81 q sz) s.heap H locs → ∀ ls : Array Slot, lv_has ls 5 [(0, .ref (q 39)), (1, .int (nI 3)), (2, .int (pa1)), (3, .int (x_68))] → W p l e ({ frames := 4, cells := 0, slots := 0, locals := 90 } : Room) s m ([.ref (q 39), .int (nI 3), .int (pa1)] : List Value).toArray below meth c H locs 0 0 (MQ below (va_Qv (fun u => xInv F u) (zB D vwCl 81 q (zXd q cA) sz) (zA 81 q sz)) ([.ref (q 39), .int (nI 3), .int (pa1)] : List Value).toArray s 0 0 (zA 81 q sz)) (F0 m 40 ls []) := by
      intro N
      induction N with
      | zero => intro x_68 hx_68 I_69 R_69 J_69 hI_69 hN; exact absurd hN (Nat.not_lt_zero _)
      | succ N ih_72 =>
        intro x_68 hx_68 I_69 R_69 J_69 hI_69 hN_71 H locs hP hD hS ls hl
        refine lv_iload_n hx hb dX8_keep_40 rfl (lv_at hl 3 rfl) ?_
        refine lv_iconst (v := nI 5) hx hb dX8_keep_41 (by decide +kernel) ?_
        refine lv_icmp_ge (tgt := 105) hx hb dX8_keep_42 (by decide) (fun c_73 => ?_) (fun c_73 => ?_)
        · have t_c_73 := z_leT c_73
          have f_89 : zR 5 5 (x_68) := zR_ley t_c_73 zk_5 hx_68 (by decide)
          refine lv_aload_n hx hb dX8_keep_105 rfl (lv_at hl 0 rfl) ?_
          refine lv_iload_n hx hb dX8_keep_106 rfl (lv_at hl 1 rfl) ?_
          refine lv_iconst (v := nI 1) hx hb dX8_keep_107 (by decide +kernel) ?_
          refine lv_iadd hx hb dX8_keep_108 ?_
          refine z_eqi (y := nI 4) (by decide +kernel) ?_
          refine lv_iload_n hx hb dX8_keep_109 rfl (lv_at hl 2 rfl) ?_
          refine z_callVv (k := 39) (As := [.int (nI 4), .int (pa1)]) (rest := []) hx hb hml hown ht (xk_X8_keep_4 l D q cA F _ _ _ hI_69 (pa1)) hw_4_90 hmX8_keep ⟨rfl, rfl⟩ (na := 2) rfl (by decide +kernel) (by decide) (by decide) rfl rfl hK hP hD hS hA hl.1 rfl (Nat.le_of_ble_eq_true rfl) ⟨Nat.zero_le _, Nat.zero_le _⟩ dX8_keep_110 (fun I_90 R_90 J_90 H locs hp_90 hP hD hS _ _ => ?_)
          exact z_vret hx hb hr hlocks hP hD hS dX8_keep_113 hp_90
        · have t_c_73 := z_leF c_73
          have f_91 : zR 0 4 (x_68) := zR_ltx t_c_73 hx_68 zk_5 (by decide)
          refine lv_aload_n hx hb dX8_keep_45 rfl (lv_at hl 0 rfl) ?_
          refine z_get hx hb ht hown hK hP ziX8 rfl 39 (by decide) 3 (by decide) hw_1_232 rfl (v := .ref (q 41)) rfl dX8_keep_46 ?_
          refine lv_iload_n hx hb dX8_keep_49 rfl (lv_at hl 1 rfl) ?_
          refine lv_iconst (v := nI 5) hx hb dX8_keep_50 (by decide +kernel) ?_
          refine lv_imul hx hb dX8_keep_51 ?_
          refine z_eqi (y := nI 15) (by decide +kernel) ?_
          refine lv_iload_n hx hb dX8_keep_52 rfl (lv_at hl 3 rfl) ?_
          refine lv_iadd hx hb dX8_keep_53 ?_
          refine z_cadd 15 19 zk_15 f_91 (by decide) (fun v_92 hv_92 mv_92 => ?_)
          refine z_iald hx hb hK hP 41 (by decide) 33 rfl rfl (zR_vin hv_92 (by decide)) dX8_keep_54 ?_
          refine z_eqi (y := R_69 41 (v_92).toNatClampNeg) rfl ?_
          have f_93 : zR (-1) 23 (R_69 41 (v_92).toNatClampNeg) := xR hI_69 41 (v_92).toNatClampNeg
          refine lv_istore (lv' := [(4, .int (R_69 41 (v_92).toNatClampNeg)), (0, .ref (q 39)), (1, .int (nI 3)), (2, .int (pa1)), (3, .int (x_68))]) hx hb dX8_keep_55 hl (by decide) rfl (fun ls hl => ?_)
          refine lv_iload hx hb dX8_keep_57 (lv_at hl 0 rfl) ?_
          refine lv_iconst (v := (-1)) hx hb dX8_keep_59 (by decide +kernel) ?_
          have t_104 : ∀ I_103 : Nat → Nat → Int32, ∀ R_103 : Nat → Nat → Int32, ∀ J_103 : Nat → Nat → Int64, xInv F (I_103, R_103, J_103) → ∀ (H : Heap) (locs : List Loc), va_P D vwCl (zw 81 q (zXd q cA) I_103 R_103 J_103) H → va_D (zA 81 q sz) (zw 81 q (zXd q cA) I_103 R_103 J_103) → va_S (zA 81 q sz) s.heap H locs → ∀ ls : Array Slot, lv_has ls 5 [(0, .ref (q 39)), (1, .int (nI 3)), (2, .int (pa1)), (3, .int (x_68)), (4, .int (R_69 41 (v_92).toNatClampNeg))] → W p l e ({ frames := 4, cells := 0, slots := 0, locals := 90 } : Room) s m ([.ref (q 39), .int (nI 3), .int (pa1)] : List Value).toArray below meth c H locs 0 0 (MQ below (va_Qv (fun u => xInv F u) (zB D vwCl 81 q (zXd q cA) sz) (zA 81 q sz)) ([.ref (q 39), .int (nI 3), .int (pa1)] : List Value).toArray s 0 0 (zA 81 q sz)) (F0 m 99 ls []) := by
            intro I_103 R_103 J_103 hI_103 H locs hP hD hS ls hl
            obtain ⟨v_105, ev_105⟩ : ∃ y : Int32, y = x_68 + nI 1 := ⟨_, rfl⟩
            have hv_105 : zR 1 5 v_105 := ev_105 ▸ zR_add f_91 zk_1 (by decide)
            have mv_105 : v_105.toInt = (x_68).toInt + 1 := by rw [ev_105, zR_addE f_91 zk_1 (by decide)]; rfl
            refine lv_iinc (v := v_105) (lv' := [(3, .int (v_105)), (0, .ref (q 39)), (1, .int (nI 3)), (2, .int (pa1)), (4, .int (R_69 41 (v_92).toNatClampNeg))]) hx hb dX8_keep_99 hl (k := 3) rfl (ev_105 ▸ rfl) (by decide) rfl (fun ls hl => ?_)
            refine lv_goto (tgt := 40) hx hb dX8_keep_102 (by decide) ?_
            exact ih_72 (v_105) (zR_w hv_105 (by decide)) _ _ _ hI_103 (z2_up mv_105 (by decide) hN_71) _ _ hP hD hS _ (lv_sub hl [1, 2, 3, 0] rfl)
          refine lv_icmp_eq (tgt := 99) hx hb dX8_keep_60 (by decide) (fun c_94 => ?_) (fun c_94 => ?_)
          · have t_c_94 := z_eqT c_94
            have f_106 : zR (-1) (-1) (R_69 41 (v_92).toNatClampNeg) := zR_eqx t_c_94 zk_m1
            exact t_104 _ _ _ hI_69 _ _ hP hD hS _ (lv_sub hl [1, 2, 3, 4, 0] rfl)
          · have t_c_94 := z_eqF c_94
            have f_107 : zR 0 23 (R_69 41 (v_92).toNatClampNeg) := zR_nex t_c_94 f_93 zk_m1 (by decide)
            refine lv_aload_n hx hb dX8_keep_63 rfl (lv_at hl 1 rfl) ?_
            refine lv_iload_n hx hb dX8_keep_64 rfl (lv_at hl 4 rfl) ?_
            refine lv_iload_n hx hb dX8_keep_65 rfl (lv_at hl 2 rfl) ?_
            refine z_callVi (k := 39) (As := [.int (x_68), .int (nI 3)]) (rest := []) hx hb hml hown ht (xk_X8_leads_5 l D q cA F _ _ _ hI_69 (x_68) f_91 (nI 3) (zR_w zk_3 (by decide))) hw_4_99 hmX8_leads ⟨rfl, rfl⟩ (na := 2) rfl (by decide +kernel) (by decide) (by decide) rfl rfl hK hP hD hS hA hl.1 rfl (Nat.le_of_ble_eq_true rfl) ⟨Nat.zero_le _, Nat.zero_le _⟩ dX8_keep_66 (fun r_108 I_108 R_108 J_108 H locs hp_108 hP hD hS _ _ => ?_)
            rcases hp_108 with ⟨rfl, hu_108⟩ | ⟨rfl, hu_108⟩
            · cases hu_108
              refine lv_if_ne (tgt := 99) hx hb dX8_keep_69 (by decide) (fun _ => ?_) (fun c_0 => absurd c_0 (zD_ne zk_1 zk_z (by decide)))
              exact t_104 _ _ _ hI_69 _ _ hP hD hS _ (lv_sub hl [1, 2, 3, 4, 0] rfl)
            · cases hu_108
              refine lv_if_ne (tgt := 99) hx hb dX8_keep_69 (by decide) (fun c_0 => absurd (zD_eq zk_0 zk_z) c_0) (fun _ => ?_)
              refine lv_aload_n hx hb dX8_keep_72 rfl (lv_at hl 1 rfl) ?_
              refine z_get hx hb ht hown hK hP ziX8 rfl 39 (by decide) 4 (by decide) hw_1_233 rfl (v := .ref (q 42)) rfl dX8_keep_73 ?_
              refine lv_iload_n hx hb dX8_keep_76 rfl (lv_at hl 2 rfl) ?_
              refine lv_iload_n hx hb dX8_keep_77 rfl (lv_at hl 4 rfl) ?_
              refine z_iast hx hb hK hP hD hS 42 (by decide) 34 (fun _ => rfl) rfl (zR_vin zk_3 (by decide)) dX8_keep_78 (fun H locs hP hD hS => ?_)
              have hI_109 := xInv_R hI_69 42 (nI 3).toNatClampNeg (x_68) (show zR (-1) 4 (x_68) from zR_w f_91 (by decide)) rfl
              refine lv_aload_n hx hb dX8_keep_79 rfl (lv_at hl 1 rfl) ?_
              refine lv_iload_n hx hb dX8_keep_80 rfl (lv_at hl 2 rfl) ?_
              refine lv_iconst (v := nI 1) hx hb dX8_keep_81 (by decide +kernel) ?_
              refine lv_iadd hx hb dX8_keep_82 ?_
              refine z_eqi (y := nI 4) (by decide +kernel) ?_
              refine lv_iload_n hx hb dX8_keep_83 rfl (lv_at hl 3 rfl) ?_
              refine lv_iconst (v := nI 1) hx hb dX8_keep_84 (by decide +kernel) ?_
              refine lv_iload hx hb dX8_keep_85 (lv_at hl 0 rfl) ?_
              refine lv_ishl hx hb dX8_keep_87 ?_
              refine z_rng (a := 1) (b := 8388608) (zR_shl1 23 f_107 (by decide)) (fun v_110 hv_110 => ?_)
              refine lv_ior hx hb dX8_keep_88 ?_
              refine z_any (fun v_111 => ?_)
              refine z_callVv (k := 39) (As := [.int (nI 4), .int (v_111)]) (rest := []) hx hb hml hown ht (xk_X8_keep_4 l D q cA F _ _ _ hI_109 (v_111)) hw_4_90 hmX8_keep ⟨rfl, rfl⟩ (na := 2) rfl (by decide +kernel) (by decide) (by decide) rfl rfl hK hP hD hS hA hl.1 rfl (Nat.le_of_ble_eq_true rfl) ⟨Nat.zero_le _, Nat.zero_le _⟩ dX8_keep_89 (fun I_112 R_112 J_112 H locs hp_112 hP hD hS _ _ => ?_)
              refine lv_aload_n hx hb dX8_keep_92 rfl (lv_at hl 1 rfl) ?_
              refine z_get hx hb ht hown hK hP ziX8 rfl 39 (by decide) 4 (by decide) hw_1_233 rfl (v := .ref (q 42)) rfl dX8_keep_93 ?_
              refine lv_iload_n hx hb dX8_keep_96 rfl (lv_at hl 2 rfl) ?_
              refine lv_iconst (v := (-1)) hx hb dX8_keep_97 (by decide +kernel) ?_
              refine z_iast hx hb hK hP hD hS 42 (by decide) 34 (fun _ => rfl) rfl (zR_vin zk_3 (by decide)) dX8_keep_98 (fun H locs hP hD hS => ?_)
              have hI_113 := xInv_R hp_112 42 (nI 3).toNatClampNeg ((-1)) (show zR (-1) 4 ((-1)) from zR_w zk_m1 (by decide)) rfl
              exact t_104 _ _ _ hI_113 _ _ hP hD hS _ (lv_sub hl [1, 2, 3, 4, 0] rfl)
    exact loop_70 _ (nI 0) (zR_w zk_0 (by decide)) _ _ _ hI (Nat.lt_succ_self _) _ _ hP hD hS _ (lv_sub hl [1, 2, 3, 0] rfl)
  · have t_c_5 := z_leF c_5
    have f_114 : zR 2 62 (v_3) := zR_ltx t_c_5 hv_3 hr_4 (by decide)
    have f_115 : zR 5 65 (v_2) := zR_shift mv_3 f_114 (by decide)
    have f_116 : zR 3 63 (r_4) := zR_lty t_c_5 hv_3 hr_4 (by decide)
    exact z_vret hx hb hr hlocks hP hD hS dX8_keep_37 hI
set_option maxHeartbeats 4000000 in
set_option maxRecDepth 100000 in
theorem xk_X8_leads_6 (l : Launch) (D : va_G) (q : Nat → Nat) (cA : Nat → ClassId) (F : Nat → Nat → Int32) (I R : Nat → Nat → Int32) (J : Nat → Nat → Int64) (hI : xInv F (I, R, J)) (pa0 : Int32) (hpa0 : zR 0 4 pa0) (pa1 : Int32) (hpa1 : zR 0 2 pa1) : zMi l D vwCl (zXtys cA) 81 q (zXd q cA) yX8_leads cX8_leads 5 (some .boolean) ({ frames := 0, cells := 0, slots := 0, locals := 0 } : Room) [.ref (q 39), .int (pa0), .int (pa1)] (I, R, J) (fun r u => (r = nI 1 ∧ u = (I, R, J)) ∨ (r = nI 0 ∧ u = (I, R, J))) := by
  intro sz
  refine z_body (by decide +kernel) (Nat.le_of_ble_eq_true rfl) (fun p e s m below meth c ls hx hb hml hr ht hown hlocks hsz hK hP hD hS hl => ?_)
  have hA : ∀ a, s.heap.size ≤ a → zA 81 q sz a := fun a h => Or.inr (hsz ▸ h)
  have hl : lv_has ls 5 [(0, .ref (q 39)), (1, .int (pa0)), (2, .int (pa1))] := hl
  refine lv_iload_n hx hb dX8_leads_0 rfl (lv_at hl 1 rfl) ?_
  refine lv_istore_n (lv' := [(3, .int (pa0)), (0, .ref (q 39)), (1, .int (pa0)), (2, .int (pa1))]) hx hb dX8_leads_1 rfl hl (by decide) rfl (fun ls hl => ?_)
  refine lv_iconst (v := nI 0) hx hb dX8_leads_2 (by decide +kernel) ?_
  refine lv_istore (lv' := [(4, .int (nI 0)), (3, .int (pa0)), (0, .ref (q 39)), (1, .int (pa0)), (2, .int (pa1))]) hx hb dX8_leads_3 hl (by decide) rfl (fun ls hl => ?_)
  have loop_39 : ∀ N : Nat, ∀ x_37 : Int32, zR (-1) 4 x_37 → ∀ x_38 : Int32, zR 0 5 x_38 → (2147483648 - (x_38).toInt).toNat < N → ∀ (H : Heap) (locs : List Loc), va_P D vwCl (zw 81 q (zXd q cA) I R J) H → va_D (zA 81 q sz) (zw 81 q (zXd q cA) I R J) → va_S (zA 81 q sz) s.heap H locs → ∀ ls : Array Slot, lv_has ls 5 [(0, .ref (q 39)), (1, .int (pa0)), (2, .int (pa1)), (3, .int (x_37)), (4, .int (x_38))] → W p l e ({ frames := 0, cells := 0, slots := 0, locals := 0 } : Room) s m ([.ref (q 39), .int (pa0), .int (pa1)] : List Value).toArray below meth c H locs 0 0 (MQ below (va_Qi (fun r u => (r = nI 1 ∧ u = (I, R, J)) ∨ (r = nI 0 ∧ u = (I, R, J))) (zB D vwCl 81 q (zXd q cA) sz) (zA 81 q sz)) ([.ref (q 39), .int (pa0), .int (pa1)] : List Value).toArray s 0 0 (zA 81 q sz)) (F0 m 5 ls []) := by
    intro N
    induction N with
    | zero => intro x_37 hx_37 x_38 hx_38 hN; exact absurd hN (Nat.not_lt_zero _)
    | succ N ih_41 =>
      intro x_37 hx_37 x_38 hx_38 hN_40 H locs hP hD hS ls hl
      refine lv_iload hx hb dX8_leads_5 (lv_at hl 4 rfl) ?_
      refine lv_iconst (v := nI 5) hx hb dX8_leads_7 (by decide +kernel) ?_
      refine lv_icmp_ge (tgt := 36) hx hb dX8_leads_8 (by decide) (fun c_42 => ?_) (fun c_42 => ?_)
      · have t_c_42 := z_leT c_42
        have f_43 : zR 5 5 (x_38) := zR_ley t_c_42 zk_5 hx_38 (by decide)
        refine lv_iconst (v := nI 0) hx hb dX8_leads_36 (by decide +kernel) ?_
        exact z_zret (v := nI 0) hx hb hr hlocks hP hD hS (by decide +kernel) dX8_leads_37 (Or.inr ⟨rfl, rfl⟩)
      · have t_c_42 := z_leF c_42
        have f_44 : zR 0 4 (x_38) := zR_ltx t_c_42 hx_38 zk_5 (by decide)
        refine lv_iload_n hx hb dX8_leads_11 rfl (lv_at hl 3 rfl) ?_
        refine lv_iconst (v := (-1)) hx hb dX8_leads_12 (by decide +kernel) ?_
        refine lv_icmp_eq (tgt := 36) hx hb dX8_leads_13 (by decide) (fun c_45 => ?_) (fun c_45 => ?_)
        · have t_c_45 := z_eqT c_45
          have f_46 : zR (-1) (-1) (x_37) := zR_eqx t_c_45 zk_m1
          refine lv_iconst (v := nI 0) hx hb dX8_leads_36 (by decide +kernel) ?_
          exact z_zret (v := nI 0) hx hb hr hlocks hP hD hS (by decide +kernel) dX8_leads_37 (Or.inr ⟨rfl, rfl⟩)
        · have t_c_45 := z_eqF c_45
          have f_47 : zR 0 4 (x_37) := zR_nex t_c_45 hx_37 zk_m1 (by decide)
          refine lv_iload_n hx hb dX8_leads_16 rfl (lv_at hl 3 rfl) ?_
          refine lv_iload_n hx hb dX8_leads_17 rfl (lv_at hl 2 rfl) ?_
          refine lv_icmp_ne (tgt := 23) hx hb dX8_leads_18 (by decide) (fun c_48 => ?_) (fun c_48 => ?_)
          · have t_c_48 := z_eqF c_48
            refine lv_aload_n hx hb dX8_leads_23 rfl (lv_at hl 0 rfl) ?_
            refine z_get hx hb ht hown hK hP ziX8 rfl 39 (by decide) 4 (by decide) hw_1_233 rfl (v := .ref (q 42)) rfl dX8_leads_24 ?_
            refine lv_iload_n hx hb dX8_leads_27 rfl (lv_at hl 3 rfl) ?_
            refine z_iald hx hb hK hP 42 (by decide) 34 rfl rfl (zR_vin f_47 (by decide)) dX8_leads_28 ?_
            refine z_eqi (y := R 42 (x_37).toNatClampNeg) rfl ?_
            have f_49 : zR (-1) 4 (R 42 (x_37).toNatClampNeg) := xR hI 42 (x_37).toNatClampNeg
            refine lv_istore_n (lv' := [(3, .int (R 42 (x_37).toNatClampNeg)), (0, .ref (q 39)), (1, .int (pa0)), (2, .int (pa1)), (4, .int (x_38))]) hx hb dX8_leads_29 rfl hl (by decide) rfl (fun ls hl => ?_)
            obtain ⟨v_50, ev_50⟩ : ∃ y : Int32, y = x_38 + nI 1 := ⟨_, rfl⟩
            have hv_50 : zR 1 5 v_50 := ev_50 ▸ zR_add f_44 zk_1 (by decide)
            have mv_50 : v_50.toInt = (x_38).toInt + 1 := by rw [ev_50, zR_addE f_44 zk_1 (by decide)]; rfl
            refine lv_iinc (v := v_50) (lv' := [(4, .int (v_50)), (3, .int (R 42 (x_37).toNatClampNeg)), (0, .ref (q 39)), (1, .int (pa0)), (2, .int (pa1))]) hx hb dX8_leads_30 hl (k := 4) rfl (ev_50 ▸ rfl) (by decide) rfl (fun ls hl => ?_)
            refine lv_goto (tgt := 5) hx hb dX8_leads_33 (by decide) ?_
            exact ih_41 (R 42 (x_37).toNatClampNeg) f_49 (v_50) (zR_w hv_50 (by decide)) (z2_up mv_50 (by decide) hN_40) _ _ hP hD hS _ (lv_sub hl [2, 3, 4, 1, 0] rfl)
          · have t_c_48 := z_eqT c_48
            have f_51 : zR 0 2 (x_37) := zR_eqx t_c_48 hpa1
            refine lv_iconst (v := nI 1) hx hb dX8_leads_21 (by decide +kernel) ?_
            exact z_zret (v := nI 1) hx hb hr hlocks hP hD hS (by decide +kernel) dX8_leads_22 (Or.inl ⟨rfl, rfl⟩)
  exact loop_39 _ (pa0) (zR_w hpa0 (by decide)) (nI 0) (zR_w zk_0 (by decide)) (Nat.lt_succ_self _) _ _ hP hD hS _ (lv_sub hl [2, 3, 4, 1, 0] rfl)
set_option maxHeartbeats 4000000 in
set_option maxRecDepth 100000 in
theorem xk_X8_keep_2 (l : Launch) (D : va_G) (q : Nat → Nat) (cA : Nat → ClassId) (F : Nat → Nat → Int32) (I R : Nat → Nat → Int32) (J : Nat → Nat → Int64) (hI : xInv F (I, R, J)) (pa1 : Int32) : zMv l D vwCl (zXtys cA) 81 q (zXd q cA) yX8_keep cX8_keep 5 none ({ frames := 5, cells := 0, slots := 0, locals := 114 } : Room) [.ref (q 39), .int (nI 2), .int (pa1)] (I, R, J) (fun u => xInv F u) := by
  intro sz
  refine z_body (by decide +kernel) (Nat.le_of_ble_eq_true rfl) (fun p e s m below meth c ls hx hb hml hr ht hown hlocks hsz hK hP hD hS hl => ?_)
  have hA : ∀ a, s.heap.size ≤ a → zA 81 q sz a := fun a h => Or.inr (hsz ▸ h)
  have hl : lv_has ls 5 [(0, .ref (q 39)), (1, .int (nI 2)), (2, .int (pa1))] := hl
  refine lv_iload_n hx hb dX8_keep_0 rfl (lv_at hl 1 rfl) ?_
  refine lv_iconst (v := nI 5) hx hb dX8_keep_1 (by decide +kernel) ?_
  refine lv_icmp_lt (tgt := 19) hx hb dX8_keep_2 (by decide) (fun _ => ?_) (fun c_0 => absurd (zD_lt zk_2 zk_5 (by decide)) c_0)
  refine lv_iload_n hx hb dX8_keep_19 rfl (lv_at hl 2 rfl) ?_
  refine z_callSi (As := [.int (pa1)]) (rest := []) hx hb hml hown ht (xk_J6_bitCount_0f7a4 l D q cA F _ _ _ hI (pa1)) hw_4_98 hmJ6_bitCount_0f7a4 ⟨rfl, rfl⟩ (na := 1) rfl (by decide +kernel) (by decide) hK hP hD hS hA hl.1 rfl (Nat.le_of_ble_eq_true rfl) ⟨Nat.zero_le _, Nat.zero_le _⟩ dX8_keep_20 (fun r_1 I_1 R_1 J_1 H locs hp_1 hP hD hS _ _ => ?_)
  obtain ⟨hr_1, hu_1⟩ := hp_1
  cases hu_1
  refine lv_iconst (v := nI 5) hx hb dX8_keep_23 (by decide +kernel) ?_
  refine lv_iadd hx hb dX8_keep_24 ?_
  refine z_addc 5 68 hr_1 zk_5 (by decide) (fun v_2 hv_2 mv_2 => ?_)
  refine lv_iload_n hx hb dX8_keep_25 rfl (lv_at hl 1 rfl) ?_
  refine lv_isub hx hb dX8_keep_26 ?_
  refine z_subc 3 66 (-2) hv_2 zk_2 (by decide) (fun v_3 hv_3 mv_3 => ?_)
  refine lv_aload_n hx hb dX8_keep_27 rfl (lv_at hl 0 rfl) ?_
  refine z_get hx hb ht hown hK hP ziX8 rfl 39 (by decide) 5 (by decide) hw_1_234 rfl (v := .int (I 39 5)) rfl dX8_keep_28 ?_
  refine z_callSi (As := [.int (I 39 5)]) (rest := [.int (v_3)]) hx hb hml hown ht (xk_J6_bitCount_0f7a4 l D q cA F _ _ _ hI (I 39 5)) hw_4_98 hmJ6_bitCount_0f7a4 ⟨rfl, rfl⟩ (na := 1) rfl (by decide +kernel) (by decide) hK hP hD hS hA hl.1 rfl (Nat.le_of_ble_eq_true rfl) ⟨Nat.zero_le _, Nat.zero_le _⟩ dX8_keep_31 (fun r_4 I_4 R_4 J_4 H locs hp_4 hP hD hS _ _ => ?_)
  obtain ⟨hr_4, hu_4⟩ := hp_4
  cases hu_4
  refine lv_icmp_ge (tgt := 38) hx hb dX8_keep_34 (by decide) (fun c_5 => ?_) (fun c_5 => ?_)
  · have t_c_5 := z_leT c_5
    refine lv_iconst (v := nI 0) hx hb dX8_keep_38 (by decide +kernel) ?_
    refine lv_istore_n (lv' := [(3, .int (nI 0)), (0, .ref (q 39)), (1, .int (nI 2)), (2, .int (pa1))]) hx hb dX8_keep_39 rfl hl (by decide) rfl (fun ls hl => ?_)
    have loop_70 : ∀ N : Nat, ∀ x_68 : Int32, zR 0 5 x_68 → ∀ I_69 : Nat → Nat → Int32, ∀ R_69 : Nat → Nat → Int32, ∀ J_69 : Nat → Nat → Int64, xInv F (I_69, R_69, J_69) → (2147483648 - (x_68).toInt).toNat < N → ∀ (H : Heap) (locs : List Loc), va_P D vwCl (zw 81 q (zXd q cA) I_69 R_69 J_69) H → va_D (zA 81 q sz) (zw 81 q (zXd q cA) I_69 R_69 J_69) → va_S (zA 81 q sz) s.heap H locs → ∀ ls : Array Slot, lv_has ls 5 [(0, .ref (q 39)), (1, .int (nI 2)), (2, .int (pa1)), (3, .int (x_68))] → W p l e ({ frames := 5, cells := 0, slots := 0, locals := 114 } : Room) s m ([.ref (q 39), .int (nI 2), .int (pa1)] : List Value).toArray below meth c H locs 0 0 (MQ below (va_Qv (fun u => xInv F u) (zB D vwCl 81 q (zXd q cA) sz) (zA 81 q sz)) ([.ref (q 39), .int (nI 2), .int (pa1)] : List Value).toArray s 0 0 (zA 81 q sz)) (F0 m 40 ls []) := by
      intro N
      induction N with
      | zero => intro x_68 hx_68 I_69 R_69 J_69 hI_69 hN; exact absurd hN (Nat.not_lt_zero _)
      | succ N ih_72 =>
        intro x_68 hx_68 I_69 R_69 J_69 hI_69 hN_71 H locs hP hD hS ls hl
        refine lv_iload_n hx hb dX8_keep_40 rfl (lv_at hl 3 rfl) ?_
        refine lv_iconst (v := nI 5) hx hb dX8_keep_41 (by decide +kernel) ?_
        refine lv_icmp_ge (tgt := 105) hx hb dX8_keep_42 (by decide) (fun c_73 => ?_) (fun c_73 => ?_)
        · have t_c_73 := z_leT c_73
          have f_89 : zR 5 5 (x_68) := zR_ley t_c_73 zk_5 hx_68 (by decide)
          refine lv_aload_n hx hb dX8_keep_105 rfl (lv_at hl 0 rfl) ?_
          refine lv_iload_n hx hb dX8_keep_106 rfl (lv_at hl 1 rfl) ?_
          refine lv_iconst (v := nI 1) hx hb dX8_keep_107 (by decide +kernel) ?_
          refine lv_iadd hx hb dX8_keep_108 ?_
          refine z_eqi (y := nI 3) (by decide +kernel) ?_
          refine lv_iload_n hx hb dX8_keep_109 rfl (lv_at hl 2 rfl) ?_
          refine z_callVv (k := 39) (As := [.int (nI 3), .int (pa1)]) (rest := []) hx hb hml hown ht (xk_X8_keep_3 l D q cA F _ _ _ hI_69 (pa1)) hw_4_90 hmX8_keep ⟨rfl, rfl⟩ (na := 2) rfl (by decide +kernel) (by decide) (by decide) rfl rfl hK hP hD hS hA hl.1 rfl (Nat.le_of_ble_eq_true rfl) ⟨Nat.zero_le _, Nat.zero_le _⟩ dX8_keep_110 (fun I_90 R_90 J_90 H locs hp_90 hP hD hS _ _ => ?_)
          exact z_vret hx hb hr hlocks hP hD hS dX8_keep_113 hp_90
        · have t_c_73 := z_leF c_73
          have f_91 : zR 0 4 (x_68) := zR_ltx t_c_73 hx_68 zk_5 (by decide)
          refine lv_aload_n hx hb dX8_keep_45 rfl (lv_at hl 0 rfl) ?_
          refine z_get hx hb ht hown hK hP ziX8 rfl 39 (by decide) 3 (by decide) hw_1_232 rfl (v := .ref (q 41)) rfl dX8_keep_46 ?_
          refine lv_iload_n hx hb dX8_keep_49 rfl (lv_at hl 1 rfl) ?_
          refine lv_iconst (v := nI 5) hx hb dX8_keep_50 (by decide +kernel) ?_
          refine lv_imul hx hb dX8_keep_51 ?_
          refine z_eqi (y := nI 10) (by decide +kernel) ?_
          refine lv_iload_n hx hb dX8_keep_52 rfl (lv_at hl 3 rfl) ?_
          refine lv_iadd hx hb dX8_keep_53 ?_
          refine z_cadd 10 14 zk_10 f_91 (by decide) (fun v_92 hv_92 mv_92 => ?_)
          refine z_iald hx hb hK hP 41 (by decide) 33 rfl rfl (zR_vin hv_92 (by decide)) dX8_keep_54 ?_
          refine z_eqi (y := R_69 41 (v_92).toNatClampNeg) rfl ?_
          have f_93 : zR (-1) 23 (R_69 41 (v_92).toNatClampNeg) := xR hI_69 41 (v_92).toNatClampNeg
          refine lv_istore (lv' := [(4, .int (R_69 41 (v_92).toNatClampNeg)), (0, .ref (q 39)), (1, .int (nI 2)), (2, .int (pa1)), (3, .int (x_68))]) hx hb dX8_keep_55 hl (by decide) rfl (fun ls hl => ?_)
          refine lv_iload hx hb dX8_keep_57 (lv_at hl 0 rfl) ?_
          refine lv_iconst (v := (-1)) hx hb dX8_keep_59 (by decide +kernel) ?_
          have t_104 : ∀ I_103 : Nat → Nat → Int32, ∀ R_103 : Nat → Nat → Int32, ∀ J_103 : Nat → Nat → Int64, xInv F (I_103, R_103, J_103) → ∀ (H : Heap) (locs : List Loc), va_P D vwCl (zw 81 q (zXd q cA) I_103 R_103 J_103) H → va_D (zA 81 q sz) (zw 81 q (zXd q cA) I_103 R_103 J_103) → va_S (zA 81 q sz) s.heap H locs → ∀ ls : Array Slot, lv_has ls 5 [(0, .ref (q 39)), (1, .int (nI 2)), (2, .int (pa1)), (3, .int (x_68)), (4, .int (R_69 41 (v_92).toNatClampNeg))] → W p l e ({ frames := 5, cells := 0, slots := 0, locals := 114 } : Room) s m ([.ref (q 39), .int (nI 2), .int (pa1)] : List Value).toArray below meth c H locs 0 0 (MQ below (va_Qv (fun u => xInv F u) (zB D vwCl 81 q (zXd q cA) sz) (zA 81 q sz)) ([.ref (q 39), .int (nI 2), .int (pa1)] : List Value).toArray s 0 0 (zA 81 q sz)) (F0 m 99 ls []) := by
            intro I_103 R_103 J_103 hI_103 H locs hP hD hS ls hl
            obtain ⟨v_105, ev_105⟩ : ∃ y : Int32, y = x_68 + nI 1 := ⟨_, rfl⟩
            have hv_105 : zR 1 5 v_105 := ev_105 ▸ zR_add f_91 zk_1 (by decide)
            have mv_105 : v_105.toInt = (x_68).toInt + 1 := by rw [ev_105, zR_addE f_91 zk_1 (by decide)]; rfl
            refine lv_iinc (v := v_105) (lv' := [(3, .int (v_105)), (0, .ref (q 39)), (1, .int (nI 2)), (2, .int (pa1)), (4, .int (R_69 41 (v_92).toNatClampNeg))]) hx hb dX8_keep_99 hl (k := 3) rfl (ev_105 ▸ rfl) (by decide) rfl (fun ls hl => ?_)
            refine lv_goto (tgt := 40) hx hb dX8_keep_102 (by decide) ?_
            exact ih_72 (v_105) (zR_w hv_105 (by decide)) _ _ _ hI_103 (z2_up mv_105 (by decide) hN_71) _ _ hP hD hS _ (lv_sub hl [1, 2, 3, 0] rfl)
          refine lv_icmp_eq (tgt := 99) hx hb dX8_keep_60 (by decide) (fun c_94 => ?_) (fun c_94 => ?_)
          · have t_c_94 := z_eqT c_94
            have f_106 : zR (-1) (-1) (R_69 41 (v_92).toNatClampNeg) := zR_eqx t_c_94 zk_m1
            exact t_104 _ _ _ hI_69 _ _ hP hD hS _ (lv_sub hl [1, 2, 3, 4, 0] rfl)
          · have t_c_94 := z_eqF c_94
            have f_107 : zR 0 23 (R_69 41 (v_92).toNatClampNeg) := zR_nex t_c_94 f_93 zk_m1 (by decide)
            refine lv_aload_n hx hb dX8_keep_63 rfl (lv_at hl 1 rfl) ?_
            refine lv_iload_n hx hb dX8_keep_64 rfl (lv_at hl 4 rfl) ?_
            refine lv_iload_n hx hb dX8_keep_65 rfl (lv_at hl 2 rfl) ?_
            refine z_callVi (k := 39) (As := [.int (x_68), .int (nI 2)]) (rest := []) hx hb hml hown ht (xk_X8_leads_6 l D q cA F _ _ _ hI_69 (x_68) f_91 (nI 2) (zR_w zk_2 (by decide))) hw_4_99 hmX8_leads ⟨rfl, rfl⟩ (na := 2) rfl (by decide +kernel) (by decide) (by decide) rfl rfl hK hP hD hS hA hl.1 rfl (Nat.le_of_ble_eq_true rfl) ⟨Nat.zero_le _, Nat.zero_le _⟩ dX8_keep_66 (fun r_108 I_108 R_108 J_108 H locs hp_108 hP hD hS _ _ => ?_)
            rcases hp_108 with ⟨rfl, hu_108⟩ | ⟨rfl, hu_108⟩
            · cases hu_108
              refine lv_if_ne (tgt := 99) hx hb dX8_keep_69 (by decide) (fun _ => ?_) (fun c_0 => absurd c_0 (zD_ne zk_1 zk_z (by decide)))
              exact t_104 _ _ _ hI_69 _ _ hP hD hS _ (lv_sub hl [1, 2, 3, 4, 0] rfl)
            · cases hu_108
              refine lv_if_ne (tgt := 99) hx hb dX8_keep_69 (by decide) (fun c_0 => absurd (zD_eq zk_0 zk_z) c_0) (fun _ => ?_)
              refine lv_aload_n hx hb dX8_keep_72 rfl (lv_at hl 1 rfl) ?_
              refine z_get hx hb ht hown hK hP ziX8 rfl 39 (by decide) 4 (by decide) hw_1_233 rfl (v := .ref (q 42)) rfl dX8_keep_73 ?_
              refine lv_iload_n hx hb dX8_keep_76 rfl (lv_at hl 2 rfl) ?_
              refine lv_iload_n hx hb dX8_keep_77 rfl (lv_at hl 4 rfl) ?_
              refine z_iast hx hb hK hP hD hS 42 (by decide) 34 (fun _ => rfl) rfl (zR_vin zk_2 (by decide)) dX8_keep_78 (fun H locs hP hD hS => ?_)
              have hI_109 := xInv_R hI_69 42 (nI 2).toNatClampNeg (x_68) (show zR (-1) 4 (x_68) from zR_w f_91 (by decide)) rfl
              refine lv_aload_n hx hb dX8_keep_79 rfl (lv_at hl 1 rfl) ?_
              refine lv_iload_n hx hb dX8_keep_80 rfl (lv_at hl 2 rfl) ?_
              refine lv_iconst (v := nI 1) hx hb dX8_keep_81 (by decide +kernel) ?_
              refine lv_iadd hx hb dX8_keep_82 ?_
              refine z_eqi (y := nI 3) (by decide +kernel) ?_
              refine lv_iload_n hx hb dX8_keep_83 rfl (lv_at hl 3 rfl) ?_
              refine lv_iconst (v := nI 1) hx hb dX8_keep_84 (by decide +kernel) ?_
              refine lv_iload hx hb dX8_keep_85 (lv_at hl 0 rfl) ?_
              refine lv_ishl hx hb dX8_keep_87 ?_
              refine z_rng (a := 1) (b := 8388608) (zR_shl1 23 f_107 (by decide)) (fun v_110 hv_110 => ?_)
              refine lv_ior hx hb dX8_keep_88 ?_
              refine z_any (fun v_111 => ?_)
              refine z_callVv (k := 39) (As := [.int (nI 3), .int (v_111)]) (rest := []) hx hb hml hown ht (xk_X8_keep_3 l D q cA F _ _ _ hI_109 (v_111)) hw_4_90 hmX8_keep ⟨rfl, rfl⟩ (na := 2) rfl (by decide +kernel) (by decide) (by decide) rfl rfl hK hP hD hS hA hl.1 rfl (Nat.le_of_ble_eq_true rfl) ⟨Nat.zero_le _, Nat.zero_le _⟩ dX8_keep_89 (fun I_112 R_112 J_112 H locs hp_112 hP hD hS _ _ => ?_)
              refine lv_aload_n hx hb dX8_keep_92 rfl (lv_at hl 1 rfl) ?_
              refine z_get hx hb ht hown hK hP ziX8 rfl 39 (by decide) 4 (by decide) hw_1_233 rfl (v := .ref (q 42)) rfl dX8_keep_93 ?_
              refine lv_iload_n hx hb dX8_keep_96 rfl (lv_at hl 2 rfl) ?_
              refine lv_iconst (v := (-1)) hx hb dX8_keep_97 (by decide +kernel) ?_
              refine z_iast hx hb hK hP hD hS 42 (by decide) 34 (fun _ => rfl) rfl (zR_vin zk_2 (by decide)) dX8_keep_98 (fun H locs hP hD hS => ?_)
              have hI_113 := xInv_R hp_112 42 (nI 2).toNatClampNeg ((-1)) (show zR (-1) 4 ((-1)) from zR_w zk_m1 (by decide)) rfl
              exact t_104 _ _ _ hI_113 _ _ hP hD hS _ (lv_sub hl [1, 2, 3, 4, 0] rfl)
    exact loop_70 _ (nI 0) (zR_w zk_0 (by decide)) _ _ _ hI (Nat.lt_succ_self _) _ _ hP hD hS _ (lv_sub hl [1, 2, 3, 0] rfl)
  · have t_c_5 := z_leF c_5
    have f_114 : zR 3 62 (v_3) := zR_ltx t_c_5 hv_3 hr_4 (by decide)
    have f_115 : zR 5 64 (v_2) := zR_shift mv_3 f_114 (by decide)
    have f_116 : zR 4 63 (r_4) := zR_lty t_c_5 hv_3 hr_4 (by decide)
    exact z_vret hx hb hr hlocks hP hD hS dX8_keep_37 hI
set_option maxHeartbeats 4000000 in
set_option maxRecDepth 100000 in
theorem xk_X8_leads_7 (l : Launch) (D : va_G) (q : Nat → Nat) (cA : Nat → ClassId) (F : Nat → Nat → Int32) (I R : Nat → Nat → Int32) (J : Nat → Nat → Int64) (hI : xInv F (I, R, J)) (pa0 : Int32) (hpa0 : zR 0 4 pa0) (pa1 : Int32) (hpa1 : zR 0 1 pa1) : zMi l D vwCl (zXtys cA) 81 q (zXd q cA) yX8_leads cX8_leads 5 (some .boolean) ({ frames := 0, cells := 0, slots := 0, locals := 0 } : Room) [.ref (q 39), .int (pa0), .int (pa1)] (I, R, J) (fun r u => (r = nI 1 ∧ u = (I, R, J)) ∨ (r = nI 0 ∧ u = (I, R, J))) := by
  intro sz
  refine z_body (by decide +kernel) (Nat.le_of_ble_eq_true rfl) (fun p e s m below meth c ls hx hb hml hr ht hown hlocks hsz hK hP hD hS hl => ?_)
  have hA : ∀ a, s.heap.size ≤ a → zA 81 q sz a := fun a h => Or.inr (hsz ▸ h)
  have hl : lv_has ls 5 [(0, .ref (q 39)), (1, .int (pa0)), (2, .int (pa1))] := hl
  refine lv_iload_n hx hb dX8_leads_0 rfl (lv_at hl 1 rfl) ?_
  refine lv_istore_n (lv' := [(3, .int (pa0)), (0, .ref (q 39)), (1, .int (pa0)), (2, .int (pa1))]) hx hb dX8_leads_1 rfl hl (by decide) rfl (fun ls hl => ?_)
  refine lv_iconst (v := nI 0) hx hb dX8_leads_2 (by decide +kernel) ?_
  refine lv_istore (lv' := [(4, .int (nI 0)), (3, .int (pa0)), (0, .ref (q 39)), (1, .int (pa0)), (2, .int (pa1))]) hx hb dX8_leads_3 hl (by decide) rfl (fun ls hl => ?_)
  have loop_39 : ∀ N : Nat, ∀ x_37 : Int32, zR (-1) 4 x_37 → ∀ x_38 : Int32, zR 0 5 x_38 → (2147483648 - (x_38).toInt).toNat < N → ∀ (H : Heap) (locs : List Loc), va_P D vwCl (zw 81 q (zXd q cA) I R J) H → va_D (zA 81 q sz) (zw 81 q (zXd q cA) I R J) → va_S (zA 81 q sz) s.heap H locs → ∀ ls : Array Slot, lv_has ls 5 [(0, .ref (q 39)), (1, .int (pa0)), (2, .int (pa1)), (3, .int (x_37)), (4, .int (x_38))] → W p l e ({ frames := 0, cells := 0, slots := 0, locals := 0 } : Room) s m ([.ref (q 39), .int (pa0), .int (pa1)] : List Value).toArray below meth c H locs 0 0 (MQ below (va_Qi (fun r u => (r = nI 1 ∧ u = (I, R, J)) ∨ (r = nI 0 ∧ u = (I, R, J))) (zB D vwCl 81 q (zXd q cA) sz) (zA 81 q sz)) ([.ref (q 39), .int (pa0), .int (pa1)] : List Value).toArray s 0 0 (zA 81 q sz)) (F0 m 5 ls []) := by
    intro N
    induction N with
    | zero => intro x_37 hx_37 x_38 hx_38 hN; exact absurd hN (Nat.not_lt_zero _)
    | succ N ih_41 =>
      intro x_37 hx_37 x_38 hx_38 hN_40 H locs hP hD hS ls hl
      refine lv_iload hx hb dX8_leads_5 (lv_at hl 4 rfl) ?_
      refine lv_iconst (v := nI 5) hx hb dX8_leads_7 (by decide +kernel) ?_
      refine lv_icmp_ge (tgt := 36) hx hb dX8_leads_8 (by decide) (fun c_42 => ?_) (fun c_42 => ?_)
      · have t_c_42 := z_leT c_42
        have f_43 : zR 5 5 (x_38) := zR_ley t_c_42 zk_5 hx_38 (by decide)
        refine lv_iconst (v := nI 0) hx hb dX8_leads_36 (by decide +kernel) ?_
        exact z_zret (v := nI 0) hx hb hr hlocks hP hD hS (by decide +kernel) dX8_leads_37 (Or.inr ⟨rfl, rfl⟩)
      · have t_c_42 := z_leF c_42
        have f_44 : zR 0 4 (x_38) := zR_ltx t_c_42 hx_38 zk_5 (by decide)
        refine lv_iload_n hx hb dX8_leads_11 rfl (lv_at hl 3 rfl) ?_
        refine lv_iconst (v := (-1)) hx hb dX8_leads_12 (by decide +kernel) ?_
        refine lv_icmp_eq (tgt := 36) hx hb dX8_leads_13 (by decide) (fun c_45 => ?_) (fun c_45 => ?_)
        · have t_c_45 := z_eqT c_45
          have f_46 : zR (-1) (-1) (x_37) := zR_eqx t_c_45 zk_m1
          refine lv_iconst (v := nI 0) hx hb dX8_leads_36 (by decide +kernel) ?_
          exact z_zret (v := nI 0) hx hb hr hlocks hP hD hS (by decide +kernel) dX8_leads_37 (Or.inr ⟨rfl, rfl⟩)
        · have t_c_45 := z_eqF c_45
          have f_47 : zR 0 4 (x_37) := zR_nex t_c_45 hx_37 zk_m1 (by decide)
          refine lv_iload_n hx hb dX8_leads_16 rfl (lv_at hl 3 rfl) ?_
          refine lv_iload_n hx hb dX8_leads_17 rfl (lv_at hl 2 rfl) ?_
          refine lv_icmp_ne (tgt := 23) hx hb dX8_leads_18 (by decide) (fun c_48 => ?_) (fun c_48 => ?_)
          · have t_c_48 := z_eqF c_48
            refine lv_aload_n hx hb dX8_leads_23 rfl (lv_at hl 0 rfl) ?_
            refine z_get hx hb ht hown hK hP ziX8 rfl 39 (by decide) 4 (by decide) hw_1_233 rfl (v := .ref (q 42)) rfl dX8_leads_24 ?_
            refine lv_iload_n hx hb dX8_leads_27 rfl (lv_at hl 3 rfl) ?_
            refine z_iald hx hb hK hP 42 (by decide) 34 rfl rfl (zR_vin f_47 (by decide)) dX8_leads_28 ?_
            refine z_eqi (y := R 42 (x_37).toNatClampNeg) rfl ?_
            have f_49 : zR (-1) 4 (R 42 (x_37).toNatClampNeg) := xR hI 42 (x_37).toNatClampNeg
            refine lv_istore_n (lv' := [(3, .int (R 42 (x_37).toNatClampNeg)), (0, .ref (q 39)), (1, .int (pa0)), (2, .int (pa1)), (4, .int (x_38))]) hx hb dX8_leads_29 rfl hl (by decide) rfl (fun ls hl => ?_)
            obtain ⟨v_50, ev_50⟩ : ∃ y : Int32, y = x_38 + nI 1 := ⟨_, rfl⟩
            have hv_50 : zR 1 5 v_50 := ev_50 ▸ zR_add f_44 zk_1 (by decide)
            have mv_50 : v_50.toInt = (x_38).toInt + 1 := by rw [ev_50, zR_addE f_44 zk_1 (by decide)]; rfl
            refine lv_iinc (v := v_50) (lv' := [(4, .int (v_50)), (3, .int (R 42 (x_37).toNatClampNeg)), (0, .ref (q 39)), (1, .int (pa0)), (2, .int (pa1))]) hx hb dX8_leads_30 hl (k := 4) rfl (ev_50 ▸ rfl) (by decide) rfl (fun ls hl => ?_)
            refine lv_goto (tgt := 5) hx hb dX8_leads_33 (by decide) ?_
            exact ih_41 (R 42 (x_37).toNatClampNeg) f_49 (v_50) (zR_w hv_50 (by decide)) (z2_up mv_50 (by decide) hN_40) _ _ hP hD hS _ (lv_sub hl [2, 3, 4, 1, 0] rfl)
          · have t_c_48 := z_eqT c_48
            have f_51 : zR 0 1 (x_37) := zR_eqx t_c_48 hpa1
            refine lv_iconst (v := nI 1) hx hb dX8_leads_21 (by decide +kernel) ?_
            exact z_zret (v := nI 1) hx hb hr hlocks hP hD hS (by decide +kernel) dX8_leads_22 (Or.inl ⟨rfl, rfl⟩)
  exact loop_39 _ (pa0) (zR_w hpa0 (by decide)) (nI 0) (zR_w zk_0 (by decide)) (Nat.lt_succ_self _) _ _ hP hD hS _ (lv_sub hl [2, 3, 4, 1, 0] rfl)
set_option maxHeartbeats 4000000 in
set_option maxRecDepth 100000 in
theorem xk_X8_keep_1 (l : Launch) (D : va_G) (q : Nat → Nat) (cA : Nat → ClassId) (F : Nat → Nat → Int32) (I R : Nat → Nat → Int32) (J : Nat → Nat → Int64) (hI : xInv F (I, R, J)) (pa1 : Int32) : zMv l D vwCl (zXtys cA) 81 q (zXd q cA) yX8_keep cX8_keep 5 none ({ frames := 6, cells := 0, slots := 0, locals := 138 } : Room) [.ref (q 39), .int (nI 1), .int (pa1)] (I, R, J) (fun u => xInv F u) := by
  intro sz
  refine z_body (by decide +kernel) (Nat.le_of_ble_eq_true rfl) (fun p e s m below meth c ls hx hb hml hr ht hown hlocks hsz hK hP hD hS hl => ?_)
  have hA : ∀ a, s.heap.size ≤ a → zA 81 q sz a := fun a h => Or.inr (hsz ▸ h)
  have hl : lv_has ls 5 [(0, .ref (q 39)), (1, .int (nI 1)), (2, .int (pa1))] := hl
  refine lv_iload_n hx hb dX8_keep_0 rfl (lv_at hl 1 rfl) ?_
  refine lv_iconst (v := nI 5) hx hb dX8_keep_1 (by decide +kernel) ?_
  refine lv_icmp_lt (tgt := 19) hx hb dX8_keep_2 (by decide) (fun _ => ?_) (fun c_0 => absurd (zD_lt zk_1 zk_5 (by decide)) c_0)
  refine lv_iload_n hx hb dX8_keep_19 rfl (lv_at hl 2 rfl) ?_
  refine z_callSi (As := [.int (pa1)]) (rest := []) hx hb hml hown ht (xk_J6_bitCount_0f7a4 l D q cA F _ _ _ hI (pa1)) hw_4_98 hmJ6_bitCount_0f7a4 ⟨rfl, rfl⟩ (na := 1) rfl (by decide +kernel) (by decide) hK hP hD hS hA hl.1 rfl (Nat.le_of_ble_eq_true rfl) ⟨Nat.zero_le _, Nat.zero_le _⟩ dX8_keep_20 (fun r_1 I_1 R_1 J_1 H locs hp_1 hP hD hS _ _ => ?_)
  obtain ⟨hr_1, hu_1⟩ := hp_1
  cases hu_1
  refine lv_iconst (v := nI 5) hx hb dX8_keep_23 (by decide +kernel) ?_
  refine lv_iadd hx hb dX8_keep_24 ?_
  refine z_addc 5 68 hr_1 zk_5 (by decide) (fun v_2 hv_2 mv_2 => ?_)
  refine lv_iload_n hx hb dX8_keep_25 rfl (lv_at hl 1 rfl) ?_
  refine lv_isub hx hb dX8_keep_26 ?_
  refine z_subc 4 67 (-1) hv_2 zk_1 (by decide) (fun v_3 hv_3 mv_3 => ?_)
  refine lv_aload_n hx hb dX8_keep_27 rfl (lv_at hl 0 rfl) ?_
  refine z_get hx hb ht hown hK hP ziX8 rfl 39 (by decide) 5 (by decide) hw_1_234 rfl (v := .int (I 39 5)) rfl dX8_keep_28 ?_
  refine z_callSi (As := [.int (I 39 5)]) (rest := [.int (v_3)]) hx hb hml hown ht (xk_J6_bitCount_0f7a4 l D q cA F _ _ _ hI (I 39 5)) hw_4_98 hmJ6_bitCount_0f7a4 ⟨rfl, rfl⟩ (na := 1) rfl (by decide +kernel) (by decide) hK hP hD hS hA hl.1 rfl (Nat.le_of_ble_eq_true rfl) ⟨Nat.zero_le _, Nat.zero_le _⟩ dX8_keep_31 (fun r_4 I_4 R_4 J_4 H locs hp_4 hP hD hS _ _ => ?_)
  obtain ⟨hr_4, hu_4⟩ := hp_4
  cases hu_4
  refine lv_icmp_ge (tgt := 38) hx hb dX8_keep_34 (by decide) (fun c_5 => ?_) (fun c_5 => ?_)
  · have t_c_5 := z_leT c_5
    refine lv_iconst (v := nI 0) hx hb dX8_keep_38 (by decide +kernel) ?_
    refine lv_istore_n (lv' := [(3, .int (nI 0)), (0, .ref (q 39)), (1, .int (nI 1)), (2, .int (pa1))]) hx hb dX8_keep_39 rfl hl (by decide) rfl (fun ls hl => ?_)
    have loop_70 : ∀ N : Nat, ∀ x_68 : Int32, zR 0 5 x_68 → ∀ I_69 : Nat → Nat → Int32, ∀ R_69 : Nat → Nat → Int32, ∀ J_69 : Nat → Nat → Int64, xInv F (I_69, R_69, J_69) → (2147483648 - (x_68).toInt).toNat < N → ∀ (H : Heap) (locs : List Loc), va_P D vwCl (zw 81 q (zXd q cA) I_69 R_69 J_69) H → va_D (zA 81 q sz) (zw 81 q (zXd q cA) I_69 R_69 J_69) → va_S (zA 81 q sz) s.heap H locs → ∀ ls : Array Slot, lv_has ls 5 [(0, .ref (q 39)), (1, .int (nI 1)), (2, .int (pa1)), (3, .int (x_68))] → W p l e ({ frames := 6, cells := 0, slots := 0, locals := 138 } : Room) s m ([.ref (q 39), .int (nI 1), .int (pa1)] : List Value).toArray below meth c H locs 0 0 (MQ below (va_Qv (fun u => xInv F u) (zB D vwCl 81 q (zXd q cA) sz) (zA 81 q sz)) ([.ref (q 39), .int (nI 1), .int (pa1)] : List Value).toArray s 0 0 (zA 81 q sz)) (F0 m 40 ls []) := by
      intro N
      induction N with
      | zero => intro x_68 hx_68 I_69 R_69 J_69 hI_69 hN; exact absurd hN (Nat.not_lt_zero _)
      | succ N ih_72 =>
        intro x_68 hx_68 I_69 R_69 J_69 hI_69 hN_71 H locs hP hD hS ls hl
        refine lv_iload_n hx hb dX8_keep_40 rfl (lv_at hl 3 rfl) ?_
        refine lv_iconst (v := nI 5) hx hb dX8_keep_41 (by decide +kernel) ?_
        refine lv_icmp_ge (tgt := 105) hx hb dX8_keep_42 (by decide) (fun c_73 => ?_) (fun c_73 => ?_)
        · have t_c_73 := z_leT c_73
          have f_89 : zR 5 5 (x_68) := zR_ley t_c_73 zk_5 hx_68 (by decide)
          refine lv_aload_n hx hb dX8_keep_105 rfl (lv_at hl 0 rfl) ?_
          refine lv_iload_n hx hb dX8_keep_106 rfl (lv_at hl 1 rfl) ?_
          refine lv_iconst (v := nI 1) hx hb dX8_keep_107 (by decide +kernel) ?_
          refine lv_iadd hx hb dX8_keep_108 ?_
          refine z_eqi (y := nI 2) (by decide +kernel) ?_
          refine lv_iload_n hx hb dX8_keep_109 rfl (lv_at hl 2 rfl) ?_
          refine z_callVv (k := 39) (As := [.int (nI 2), .int (pa1)]) (rest := []) hx hb hml hown ht (xk_X8_keep_2 l D q cA F _ _ _ hI_69 (pa1)) hw_4_90 hmX8_keep ⟨rfl, rfl⟩ (na := 2) rfl (by decide +kernel) (by decide) (by decide) rfl rfl hK hP hD hS hA hl.1 rfl (Nat.le_of_ble_eq_true rfl) ⟨Nat.zero_le _, Nat.zero_le _⟩ dX8_keep_110 (fun I_90 R_90 J_90 H locs hp_90 hP hD hS _ _ => ?_)
          exact z_vret hx hb hr hlocks hP hD hS dX8_keep_113 hp_90
        · have t_c_73 := z_leF c_73
          have f_91 : zR 0 4 (x_68) := zR_ltx t_c_73 hx_68 zk_5 (by decide)
          refine lv_aload_n hx hb dX8_keep_45 rfl (lv_at hl 0 rfl) ?_
          refine z_get hx hb ht hown hK hP ziX8 rfl 39 (by decide) 3 (by decide) hw_1_232 rfl (v := .ref (q 41)) rfl dX8_keep_46 ?_
          refine lv_iload_n hx hb dX8_keep_49 rfl (lv_at hl 1 rfl) ?_
          refine lv_iconst (v := nI 5) hx hb dX8_keep_50 (by decide +kernel) ?_
          refine lv_imul hx hb dX8_keep_51 ?_
          refine z_eqi (y := nI 5) (by decide +kernel) ?_
          refine lv_iload_n hx hb dX8_keep_52 rfl (lv_at hl 3 rfl) ?_
          refine lv_iadd hx hb dX8_keep_53 ?_
          refine z_cadd 5 9 zk_5 f_91 (by decide) (fun v_92 hv_92 mv_92 => ?_)
          refine z_iald hx hb hK hP 41 (by decide) 33 rfl rfl (zR_vin hv_92 (by decide)) dX8_keep_54 ?_
          refine z_eqi (y := R_69 41 (v_92).toNatClampNeg) rfl ?_
          have f_93 : zR (-1) 23 (R_69 41 (v_92).toNatClampNeg) := xR hI_69 41 (v_92).toNatClampNeg
          refine lv_istore (lv' := [(4, .int (R_69 41 (v_92).toNatClampNeg)), (0, .ref (q 39)), (1, .int (nI 1)), (2, .int (pa1)), (3, .int (x_68))]) hx hb dX8_keep_55 hl (by decide) rfl (fun ls hl => ?_)
          refine lv_iload hx hb dX8_keep_57 (lv_at hl 0 rfl) ?_
          refine lv_iconst (v := (-1)) hx hb dX8_keep_59 (by decide +kernel) ?_
          have t_104 : ∀ I_103 : Nat → Nat → Int32, ∀ R_103 : Nat → Nat → Int32, ∀ J_103 : Nat → Nat → Int64, xInv F (I_103, R_103, J_103) → ∀ (H : Heap) (locs : List Loc), va_P D vwCl (zw 81 q (zXd q cA) I_103 R_103 J_103) H → va_D (zA 81 q sz) (zw 81 q (zXd q cA) I_103 R_103 J_103) → va_S (zA 81 q sz) s.heap H locs → ∀ ls : Array Slot, lv_has ls 5 [(0, .ref (q 39)), (1, .int (nI 1)), (2, .int (pa1)), (3, .int (x_68)), (4, .int (R_69 41 (v_92).toNatClampNeg))] → W p l e ({ frames := 6, cells := 0, slots := 0, locals := 138 } : Room) s m ([.ref (q 39), .int (nI 1), .int (pa1)] : List Value).toArray below meth c H locs 0 0 (MQ below (va_Qv (fun u => xInv F u) (zB D vwCl 81 q (zXd q cA) sz) (zA 81 q sz)) ([.ref (q 39), .int (nI 1), .int (pa1)] : List Value).toArray s 0 0 (zA 81 q sz)) (F0 m 99 ls []) := by
            intro I_103 R_103 J_103 hI_103 H locs hP hD hS ls hl
            obtain ⟨v_105, ev_105⟩ : ∃ y : Int32, y = x_68 + nI 1 := ⟨_, rfl⟩
            have hv_105 : zR 1 5 v_105 := ev_105 ▸ zR_add f_91 zk_1 (by decide)
            have mv_105 : v_105.toInt = (x_68).toInt + 1 := by rw [ev_105, zR_addE f_91 zk_1 (by decide)]; rfl
            refine lv_iinc (v := v_105) (lv' := [(3, .int (v_105)), (0, .ref (q 39)), (1, .int (nI 1)), (2, .int (pa1)), (4, .int (R_69 41 (v_92).toNatClampNeg))]) hx hb dX8_keep_99 hl (k := 3) rfl (ev_105 ▸ rfl) (by decide) rfl (fun ls hl => ?_)
            refine lv_goto (tgt := 40) hx hb dX8_keep_102 (by decide) ?_
            exact ih_72 (v_105) (zR_w hv_105 (by decide)) _ _ _ hI_103 (z2_up mv_105 (by decide) hN_71) _ _ hP hD hS _ (lv_sub hl [1, 2, 3, 0] rfl)
          refine lv_icmp_eq (tgt := 99) hx hb dX8_keep_60 (by decide) (fun c_94 => ?_) (fun c_94 => ?_)
          · have t_c_94 := z_eqT c_94
            have f_106 : zR (-1) (-1) (R_69 41 (v_92).toNatClampNeg) := zR_eqx t_c_94 zk_m1
            exact t_104 _ _ _ hI_69 _ _ hP hD hS _ (lv_sub hl [1, 2, 3, 4, 0] rfl)
          · have t_c_94 := z_eqF c_94
            have f_107 : zR 0 23 (R_69 41 (v_92).toNatClampNeg) := zR_nex t_c_94 f_93 zk_m1 (by decide)
            refine lv_aload_n hx hb dX8_keep_63 rfl (lv_at hl 1 rfl) ?_
            refine lv_iload_n hx hb dX8_keep_64 rfl (lv_at hl 4 rfl) ?_
            refine lv_iload_n hx hb dX8_keep_65 rfl (lv_at hl 2 rfl) ?_
            refine z_callVi (k := 39) (As := [.int (x_68), .int (nI 1)]) (rest := []) hx hb hml hown ht (xk_X8_leads_7 l D q cA F _ _ _ hI_69 (x_68) f_91 (nI 1) (zR_w zk_1 (by decide))) hw_4_99 hmX8_leads ⟨rfl, rfl⟩ (na := 2) rfl (by decide +kernel) (by decide) (by decide) rfl rfl hK hP hD hS hA hl.1 rfl (Nat.le_of_ble_eq_true rfl) ⟨Nat.zero_le _, Nat.zero_le _⟩ dX8_keep_66 (fun r_108 I_108 R_108 J_108 H locs hp_108 hP hD hS _ _ => ?_)
            rcases hp_108 with ⟨rfl, hu_108⟩ | ⟨rfl, hu_108⟩
            · cases hu_108
              refine lv_if_ne (tgt := 99) hx hb dX8_keep_69 (by decide) (fun _ => ?_) (fun c_0 => absurd c_0 (zD_ne zk_1 zk_z (by decide)))
              exact t_104 _ _ _ hI_69 _ _ hP hD hS _ (lv_sub hl [1, 2, 3, 4, 0] rfl)
            · cases hu_108
              refine lv_if_ne (tgt := 99) hx hb dX8_keep_69 (by decide) (fun c_0 => absurd (zD_eq zk_0 zk_z) c_0) (fun _ => ?_)
              refine lv_aload_n hx hb dX8_keep_72 rfl (lv_at hl 1 rfl) ?_
              refine z_get hx hb ht hown hK hP ziX8 rfl 39 (by decide) 4 (by decide) hw_1_233 rfl (v := .ref (q 42)) rfl dX8_keep_73 ?_
              refine lv_iload_n hx hb dX8_keep_76 rfl (lv_at hl 2 rfl) ?_
              refine lv_iload_n hx hb dX8_keep_77 rfl (lv_at hl 4 rfl) ?_
              refine z_iast hx hb hK hP hD hS 42 (by decide) 34 (fun _ => rfl) rfl (zR_vin zk_1 (by decide)) dX8_keep_78 (fun H locs hP hD hS => ?_)
              have hI_109 := xInv_R hI_69 42 (nI 1).toNatClampNeg (x_68) (show zR (-1) 4 (x_68) from zR_w f_91 (by decide)) rfl
              refine lv_aload_n hx hb dX8_keep_79 rfl (lv_at hl 1 rfl) ?_
              refine lv_iload_n hx hb dX8_keep_80 rfl (lv_at hl 2 rfl) ?_
              refine lv_iconst (v := nI 1) hx hb dX8_keep_81 (by decide +kernel) ?_
              refine lv_iadd hx hb dX8_keep_82 ?_
              refine z_eqi (y := nI 2) (by decide +kernel) ?_
              refine lv_iload_n hx hb dX8_keep_83 rfl (lv_at hl 3 rfl) ?_
              refine lv_iconst (v := nI 1) hx hb dX8_keep_84 (by decide +kernel) ?_
              refine lv_iload hx hb dX8_keep_85 (lv_at hl 0 rfl) ?_
              refine lv_ishl hx hb dX8_keep_87 ?_
              refine z_rng (a := 1) (b := 8388608) (zR_shl1 23 f_107 (by decide)) (fun v_110 hv_110 => ?_)
              refine lv_ior hx hb dX8_keep_88 ?_
              refine z_any (fun v_111 => ?_)
              refine z_callVv (k := 39) (As := [.int (nI 2), .int (v_111)]) (rest := []) hx hb hml hown ht (xk_X8_keep_2 l D q cA F _ _ _ hI_109 (v_111)) hw_4_90 hmX8_keep ⟨rfl, rfl⟩ (na := 2) rfl (by decide +kernel) (by decide) (by decide) rfl rfl hK hP hD hS hA hl.1 rfl (Nat.le_of_ble_eq_true rfl) ⟨Nat.zero_le _, Nat.zero_le _⟩ dX8_keep_89 (fun I_112 R_112 J_112 H locs hp_112 hP hD hS _ _ => ?_)
              refine lv_aload_n hx hb dX8_keep_92 rfl (lv_at hl 1 rfl) ?_
              refine z_get hx hb ht hown hK hP ziX8 rfl 39 (by decide) 4 (by decide) hw_1_233 rfl (v := .ref (q 42)) rfl dX8_keep_93 ?_
              refine lv_iload_n hx hb dX8_keep_96 rfl (lv_at hl 2 rfl) ?_
              refine lv_iconst (v := (-1)) hx hb dX8_keep_97 (by decide +kernel) ?_
              refine z_iast hx hb hK hP hD hS 42 (by decide) 34 (fun _ => rfl) rfl (zR_vin zk_1 (by decide)) dX8_keep_98 (fun H locs hP hD hS => ?_)
              have hI_113 := xInv_R hp_112 42 (nI 1).toNatClampNeg ((-1)) (show zR (-1) 4 ((-1)) from zR_w zk_m1 (by decide)) rfl
              exact t_104 _ _ _ hI_113 _ _ hP hD hS _ (lv_sub hl [1, 2, 3, 4, 0] rfl)
    exact loop_70 _ (nI 0) (zR_w zk_0 (by decide)) _ _ _ hI (Nat.lt_succ_self _) _ _ hP hD hS _ (lv_sub hl [1, 2, 3, 0] rfl)
  · have t_c_5 := z_leF c_5
    have f_114 : zR 4 62 (v_3) := zR_ltx t_c_5 hv_3 hr_4 (by decide)
    have f_115 : zR 5 63 (v_2) := zR_shift mv_3 f_114 (by decide)
    have f_116 : zR 5 63 (r_4) := zR_lty t_c_5 hv_3 hr_4 (by decide)
    exact z_vret hx hb hr hlocks hP hD hS dX8_keep_37 hI
set_option maxHeartbeats 4000000 in
set_option maxRecDepth 100000 in
theorem xk_X8_isBetter_1 (l : Launch) (D : va_G) (q : Nat → Nat) (cA : Nat → ClassId) (F : Nat → Nat → Int32) (I R : Nat → Nat → Int32) (J : Nat → Nat → Int64) (hI : xInv F (I, R, J)) (pa0 : Int32) (hpa0 : zR 0 1 pa0) : zMi l D vwCl (zXtys cA) 81 q (zXd q cA) yX8_isBetter cX8_isBetter 3 (some .boolean) ({ frames := 1, cells := 0, slots := 0, locals := 20 } : Room) [.ref (q 39), .int (pa0)] (I, R, J) (fun r u => (r = nI 1 ∧ u = (I, R, J)) ∨ (r = nI 0 ∧ u = (I, R, J))) := by
  intro sz
  refine z_body (by decide +kernel) (Nat.le_of_ble_eq_true rfl) (fun p e s m below meth c ls hx hb hml hr ht hown hlocks hsz hK hP hD hS hl => ?_)
  have hA : ∀ a, s.heap.size ≤ a → zA 81 q sz a := fun a h => Or.inr (hsz ▸ h)
  have hl : lv_has ls 3 [(0, .ref (q 39)), (1, .int (pa0))] := hl
  refine lv_iload_n hx hb dX8_isBetter_0 rfl (lv_at hl 1 rfl) ?_
  refine z_callSi (As := [.int (pa0)]) (rest := []) hx hb hml hown ht (xk_J6_bitCount_0f7a4_1 l D q cA F _ _ _ hI (pa0) hpa0) hw_4_98 hmJ6_bitCount_0f7a4 ⟨rfl, rfl⟩ (na := 1) rfl (by decide +kernel) (by decide) hK hP hD hS hA hl.1 rfl (Nat.le_of_ble_eq_true rfl) ⟨Nat.zero_le _, Nat.zero_le _⟩ dX8_isBetter_1 (fun r_1 I_1 R_1 J_1 H locs hp_1 hP hD hS _ _ => ?_)
  obtain ⟨hr_1, hu_1⟩ := hp_1
  cases hu_1
  refine lv_aload_n hx hb dX8_isBetter_4 rfl (lv_at hl 0 rfl) ?_
  refine z_get hx hb ht hown hK hP ziX8 rfl 39 (by decide) 5 (by decide) hw_1_234 rfl (v := .int (I 39 5)) rfl dX8_isBetter_5 ?_
  refine z_callSi (As := [.int (I 39 5)]) (rest := [.int (r_1)]) hx hb hml hown ht (xk_J6_bitCount_0f7a4 l D q cA F _ _ _ hI (I 39 5)) hw_4_98 hmJ6_bitCount_0f7a4 ⟨rfl, rfl⟩ (na := 1) rfl (by decide +kernel) (by decide) hK hP hD hS hA hl.1 rfl (Nat.le_of_ble_eq_true rfl) ⟨Nat.zero_le _, Nat.zero_le _⟩ dX8_isBetter_8 (fun r_2 I_2 R_2 J_2 H locs hp_2 hP hD hS _ _ => ?_)
  obtain ⟨hr_2, hu_2⟩ := hp_2
  cases hu_2
  refine lv_isub hx hb dX8_isBetter_11 ?_
  refine z_rng (a := (-63)) (b := 63) (zR_sub hr_1 hr_2 (by decide)) (fun v_3 hv_3 => ?_)
  refine lv_istore_n (lv' := [(2, .int (v_3)), (0, .ref (q 39)), (1, .int (pa0))]) hx hb dX8_isBetter_12 rfl hl (by decide) rfl (fun ls hl => ?_)
  refine lv_iload_n hx hb dX8_isBetter_13 rfl (lv_at hl 0 rfl) ?_
  refine lv_if_gt (tgt := 29) hx hb dX8_isBetter_14 (by decide) (fun c_4 => ?_) (fun c_4 => ?_)
  · have t_c_4 := z_ltT c_4
    have f_5 : zR 1 63 (v_3) := zR_lty t_c_4 zk_z hv_3 (by decide)
    refine lv_iconst (v := nI 1) hx hb dX8_isBetter_29 (by decide +kernel) ?_
    refine lv_goto (tgt := 34) hx hb dX8_isBetter_30 (by decide) ?_
    exact z_zret (v := nI 1) hx hb hr hlocks hP hD hS (by decide +kernel) dX8_isBetter_34 (Or.inl ⟨rfl, rfl⟩)
  · have t_c_4 := z_ltF c_4
    have f_6 : zR (-63) 0 (v_3) := zR_lex t_c_4 hv_3 zk_z (by decide)
    refine lv_iload_n hx hb dX8_isBetter_17 rfl (lv_at hl 0 rfl) ?_
    refine lv_if_ne (tgt := 33) hx hb dX8_isBetter_18 (by decide) (fun c_7 => ?_) (fun c_7 => ?_)
    · have t_c_7 := z_eqF c_7
      have f_8 : zR (-63) (-1) (v_3) := zR_nex t_c_7 f_6 zk_z (by decide)
      refine lv_iconst (v := nI 0) hx hb dX8_isBetter_33 (by decide +kernel) ?_
      exact z_zret (v := nI 0) hx hb hr hlocks hP hD hS (by decide +kernel) dX8_isBetter_34 (Or.inr ⟨rfl, rfl⟩)
    · have t_c_7 := z_eqT c_7
      have f_9 : zR 0 0 (v_3) := zR_eqx t_c_7 zk_z
      refine lv_iload_n hx hb dX8_isBetter_21 rfl (lv_at hl 2 rfl) ?_
      refine lv_aload_n hx hb dX8_isBetter_22 rfl (lv_at hl 1 rfl) ?_
      refine z_get hx hb ht hown hK hP ziX8 rfl 39 (by decide) 5 (by decide) hw_1_234 rfl (v := .int (I 39 5)) rfl dX8_isBetter_23 ?_
      refine lv_icmp_le (tgt := 33) hx hb dX8_isBetter_26 (by decide) (fun c_10 => ?_) (fun c_10 => ?_)
      · have t_c_10 := z_leT c_10
        have f_11 : zR 0 2147483647 (I 39 5) := zR_ley t_c_10 hpa0 (zR_any (I 39 5)) (by decide)
        refine lv_iconst (v := nI 0) hx hb dX8_isBetter_33 (by decide +kernel) ?_
        exact z_zret (v := nI 0) hx hb hr hlocks hP hD hS (by decide +kernel) dX8_isBetter_34 (Or.inr ⟨rfl, rfl⟩)
      · have t_c_10 := z_leF c_10
        have f_12 : zR (-2147483648) 0 (I 39 5) := zR_ltx t_c_10 (zR_any (I 39 5)) hpa0 (by decide)
        refine lv_iconst (v := nI 1) hx hb dX8_isBetter_29 (by decide +kernel) ?_
        refine lv_goto (tgt := 34) hx hb dX8_isBetter_30 (by decide) ?_
        exact z_zret (v := nI 1) hx hb hr hlocks hP hD hS (by decide +kernel) dX8_isBetter_34 (Or.inl ⟨rfl, rfl⟩)
set_option maxHeartbeats 4000000 in
set_option maxRecDepth 100000 in
theorem xk_X8_keep_10 (l : Launch) (D : va_G) (q : Nat → Nat) (cA : Nat → ClassId) (F : Nat → Nat → Int32) (I R : Nat → Nat → Int32) (J : Nat → Nat → Int64) (hI : xInv F (I, R, J)) (pa1 : Int32) (hpa1 : zR 0 1 pa1) : zMv l D vwCl (zXtys cA) 81 q (zXd q cA) yX8_keep cX8_keep 5 none ({ frames := 2, cells := 0, slots := 0, locals := 42 } : Room) [.ref (q 39), .int (nI 5), .int (pa1)] (I, R, J) (fun u => xInv F u) := by
  intro sz
  refine z_body (by decide +kernel) (Nat.le_of_ble_eq_true rfl) (fun p e s m below meth c ls hx hb hml hr ht hown hlocks hsz hK hP hD hS hl => ?_)
  have hA : ∀ a, s.heap.size ≤ a → zA 81 q sz a := fun a h => Or.inr (hsz ▸ h)
  have hl : lv_has ls 5 [(0, .ref (q 39)), (1, .int (nI 5)), (2, .int (pa1))] := hl
  refine lv_iload_n hx hb dX8_keep_0 rfl (lv_at hl 1 rfl) ?_
  refine lv_iconst (v := nI 5) hx hb dX8_keep_1 (by decide +kernel) ?_
  refine lv_icmp_lt (tgt := 19) hx hb dX8_keep_2 (by decide) (fun c_0 => absurd c_0 (zD_nlt zk_5 zk_5 (by decide))) (fun _ => ?_)
  refine lv_aload_n hx hb dX8_keep_5 rfl (lv_at hl 0 rfl) ?_
  refine lv_iload_n hx hb dX8_keep_6 rfl (lv_at hl 2 rfl) ?_
  refine z_callVi (k := 39) (As := [.int (pa1)]) (rest := []) hx hb hml hown ht (xk_X8_isBetter_1 l D q cA F _ _ _ hI (pa1) hpa1) hw_4_94 hmX8_isBetter ⟨rfl, rfl⟩ (na := 1) rfl (by decide +kernel) (by decide) (by decide) rfl rfl hK hP hD hS hA hl.1 rfl (Nat.le_of_ble_eq_true rfl) ⟨Nat.zero_le _, Nat.zero_le _⟩ dX8_keep_7 (fun r_1 I_1 R_1 J_1 H locs hp_1 hP hD hS _ _ => ?_)
  rcases hp_1 with ⟨rfl, hu_1⟩ | ⟨rfl, hu_1⟩
  · cases hu_1
    refine lv_if_eq (tgt := 18) hx hb dX8_keep_10 (by decide) (fun c_0 => absurd c_0 (zD_ne zk_1 zk_z (by decide))) (fun _ => ?_)
    refine lv_aload_n hx hb dX8_keep_13 rfl (lv_at hl 0 rfl) ?_
    refine lv_iload_n hx hb dX8_keep_14 rfl (lv_at hl 2 rfl) ?_
    refine z_putI hx hb ht hown hK hP hD hS ziX8 tyX8 tyX8_ok nmX8 rfl 39 (by decide) 5 (by decide) hw_1_234 rfl (v := pa1) rfl rfl rfl (Nat.le_of_ble_eq_true rfl) rfl dX8_keep_15 (fun H locs hP hD hS => ?_)
    have hI_2 := xInv_I hI 39 5 (pa1) (zR_any (pa1)) rfl
    exact z_vret hx hb hr hlocks hP hD hS dX8_keep_18 hI_2
  · cases hu_1
    refine lv_if_eq (tgt := 18) hx hb dX8_keep_10 (by decide) (fun _ => ?_) (fun c_0 => absurd (zD_eq zk_0 zk_z) c_0)
    exact z_vret hx hb hr hlocks hP hD hS dX8_keep_18 hI
set_option maxHeartbeats 4000000 in
set_option maxRecDepth 100000 in
theorem xk_X8_keep_9 (l : Launch) (D : va_G) (q : Nat → Nat) (cA : Nat → ClassId) (F : Nat → Nat → Int32) (I R : Nat → Nat → Int32) (J : Nat → Nat → Int64) (hI : xInv F (I, R, J)) (pa1 : Int32) (hpa1 : zR 0 1 pa1) : zMv l D vwCl (zXtys cA) 81 q (zXd q cA) yX8_keep cX8_keep 5 none ({ frames := 3, cells := 0, slots := 0, locals := 66 } : Room) [.ref (q 39), .int (nI 4), .int (pa1)] (I, R, J) (fun u => xInv F u) := by
  intro sz
  refine z_body (by decide +kernel) (Nat.le_of_ble_eq_true rfl) (fun p e s m below meth c ls hx hb hml hr ht hown hlocks hsz hK hP hD hS hl => ?_)
  have hA : ∀ a, s.heap.size ≤ a → zA 81 q sz a := fun a h => Or.inr (hsz ▸ h)
  have hl : lv_has ls 5 [(0, .ref (q 39)), (1, .int (nI 4)), (2, .int (pa1))] := hl
  refine lv_iload_n hx hb dX8_keep_0 rfl (lv_at hl 1 rfl) ?_
  refine lv_iconst (v := nI 5) hx hb dX8_keep_1 (by decide +kernel) ?_
  refine lv_icmp_lt (tgt := 19) hx hb dX8_keep_2 (by decide) (fun _ => ?_) (fun c_0 => absurd (zD_lt zk_4 zk_5 (by decide)) c_0)
  refine lv_iload_n hx hb dX8_keep_19 rfl (lv_at hl 2 rfl) ?_
  refine z_callSi (As := [.int (pa1)]) (rest := []) hx hb hml hown ht (xk_J6_bitCount_0f7a4_1 l D q cA F _ _ _ hI (pa1) hpa1) hw_4_98 hmJ6_bitCount_0f7a4 ⟨rfl, rfl⟩ (na := 1) rfl (by decide +kernel) (by decide) hK hP hD hS hA hl.1 rfl (Nat.le_of_ble_eq_true rfl) ⟨Nat.zero_le _, Nat.zero_le _⟩ dX8_keep_20 (fun r_1 I_1 R_1 J_1 H locs hp_1 hP hD hS _ _ => ?_)
  obtain ⟨hr_1, hu_1⟩ := hp_1
  cases hu_1
  refine lv_iconst (v := nI 5) hx hb dX8_keep_23 (by decide +kernel) ?_
  refine lv_iadd hx hb dX8_keep_24 ?_
  refine z_addc 5 68 hr_1 zk_5 (by decide) (fun v_2 hv_2 mv_2 => ?_)
  refine lv_iload_n hx hb dX8_keep_25 rfl (lv_at hl 1 rfl) ?_
  refine lv_isub hx hb dX8_keep_26 ?_
  refine z_subc 1 64 (-4) hv_2 zk_4 (by decide) (fun v_3 hv_3 mv_3 => ?_)
  refine lv_aload_n hx hb dX8_keep_27 rfl (lv_at hl 0 rfl) ?_
  refine z_get hx hb ht hown hK hP ziX8 rfl 39 (by decide) 5 (by decide) hw_1_234 rfl (v := .int (I 39 5)) rfl dX8_keep_28 ?_
  refine z_callSi (As := [.int (I 39 5)]) (rest := [.int (v_3)]) hx hb hml hown ht (xk_J6_bitCount_0f7a4 l D q cA F _ _ _ hI (I 39 5)) hw_4_98 hmJ6_bitCount_0f7a4 ⟨rfl, rfl⟩ (na := 1) rfl (by decide +kernel) (by decide) hK hP hD hS hA hl.1 rfl (Nat.le_of_ble_eq_true rfl) ⟨Nat.zero_le _, Nat.zero_le _⟩ dX8_keep_31 (fun r_4 I_4 R_4 J_4 H locs hp_4 hP hD hS _ _ => ?_)
  obtain ⟨hr_4, hu_4⟩ := hp_4
  cases hu_4
  refine lv_icmp_ge (tgt := 38) hx hb dX8_keep_34 (by decide) (fun c_5 => ?_) (fun c_5 => ?_)
  · have t_c_5 := z_leT c_5
    refine lv_iconst (v := nI 0) hx hb dX8_keep_38 (by decide +kernel) ?_
    refine lv_istore_n (lv' := [(3, .int (nI 0)), (0, .ref (q 39)), (1, .int (nI 4)), (2, .int (pa1))]) hx hb dX8_keep_39 rfl hl (by decide) rfl (fun ls hl => ?_)
    have loop_70 : ∀ N : Nat, ∀ x_68 : Int32, zR 0 5 x_68 → ∀ I_69 : Nat → Nat → Int32, ∀ R_69 : Nat → Nat → Int32, ∀ J_69 : Nat → Nat → Int64, xInv F (I_69, R_69, J_69) → (2147483648 - (x_68).toInt).toNat < N → ∀ (H : Heap) (locs : List Loc), va_P D vwCl (zw 81 q (zXd q cA) I_69 R_69 J_69) H → va_D (zA 81 q sz) (zw 81 q (zXd q cA) I_69 R_69 J_69) → va_S (zA 81 q sz) s.heap H locs → ∀ ls : Array Slot, lv_has ls 5 [(0, .ref (q 39)), (1, .int (nI 4)), (2, .int (pa1)), (3, .int (x_68))] → W p l e ({ frames := 3, cells := 0, slots := 0, locals := 66 } : Room) s m ([.ref (q 39), .int (nI 4), .int (pa1)] : List Value).toArray below meth c H locs 0 0 (MQ below (va_Qv (fun u => xInv F u) (zB D vwCl 81 q (zXd q cA) sz) (zA 81 q sz)) ([.ref (q 39), .int (nI 4), .int (pa1)] : List Value).toArray s 0 0 (zA 81 q sz)) (F0 m 40 ls []) := by
      intro N
      induction N with
      | zero => intro x_68 hx_68 I_69 R_69 J_69 hI_69 hN; exact absurd hN (Nat.not_lt_zero _)
      | succ N ih_72 =>
        intro x_68 hx_68 I_69 R_69 J_69 hI_69 hN_71 H locs hP hD hS ls hl
        refine lv_iload_n hx hb dX8_keep_40 rfl (lv_at hl 3 rfl) ?_
        refine lv_iconst (v := nI 5) hx hb dX8_keep_41 (by decide +kernel) ?_
        refine lv_icmp_ge (tgt := 105) hx hb dX8_keep_42 (by decide) (fun c_73 => ?_) (fun c_73 => ?_)
        · have t_c_73 := z_leT c_73
          have f_89 : zR 5 5 (x_68) := zR_ley t_c_73 zk_5 hx_68 (by decide)
          refine lv_aload_n hx hb dX8_keep_105 rfl (lv_at hl 0 rfl) ?_
          refine lv_iload_n hx hb dX8_keep_106 rfl (lv_at hl 1 rfl) ?_
          refine lv_iconst (v := nI 1) hx hb dX8_keep_107 (by decide +kernel) ?_
          refine lv_iadd hx hb dX8_keep_108 ?_
          refine z_eqi (y := nI 5) (by decide +kernel) ?_
          refine lv_iload_n hx hb dX8_keep_109 rfl (lv_at hl 2 rfl) ?_
          refine z_callVv (k := 39) (As := [.int (nI 5), .int (pa1)]) (rest := []) hx hb hml hown ht (xk_X8_keep_10 l D q cA F _ _ _ hI_69 (pa1) hpa1) hw_4_90 hmX8_keep ⟨rfl, rfl⟩ (na := 2) rfl (by decide +kernel) (by decide) (by decide) rfl rfl hK hP hD hS hA hl.1 rfl (Nat.le_of_ble_eq_true rfl) ⟨Nat.zero_le _, Nat.zero_le _⟩ dX8_keep_110 (fun I_90 R_90 J_90 H locs hp_90 hP hD hS _ _ => ?_)
          exact z_vret hx hb hr hlocks hP hD hS dX8_keep_113 hp_90
        · have t_c_73 := z_leF c_73
          have f_91 : zR 0 4 (x_68) := zR_ltx t_c_73 hx_68 zk_5 (by decide)
          refine lv_aload_n hx hb dX8_keep_45 rfl (lv_at hl 0 rfl) ?_
          refine z_get hx hb ht hown hK hP ziX8 rfl 39 (by decide) 3 (by decide) hw_1_232 rfl (v := .ref (q 41)) rfl dX8_keep_46 ?_
          refine lv_iload_n hx hb dX8_keep_49 rfl (lv_at hl 1 rfl) ?_
          refine lv_iconst (v := nI 5) hx hb dX8_keep_50 (by decide +kernel) ?_
          refine lv_imul hx hb dX8_keep_51 ?_
          refine z_eqi (y := nI 20) (by decide +kernel) ?_
          refine lv_iload_n hx hb dX8_keep_52 rfl (lv_at hl 3 rfl) ?_
          refine lv_iadd hx hb dX8_keep_53 ?_
          refine z_cadd 20 24 zk_20 f_91 (by decide) (fun v_92 hv_92 mv_92 => ?_)
          refine z_iald hx hb hK hP 41 (by decide) 33 rfl rfl (zR_vin hv_92 (by decide)) dX8_keep_54 ?_
          refine z_eqi (y := R_69 41 (v_92).toNatClampNeg) rfl ?_
          have f_93 : zR (-1) 23 (R_69 41 (v_92).toNatClampNeg) := xR hI_69 41 (v_92).toNatClampNeg
          refine lv_istore (lv' := [(4, .int (R_69 41 (v_92).toNatClampNeg)), (0, .ref (q 39)), (1, .int (nI 4)), (2, .int (pa1)), (3, .int (x_68))]) hx hb dX8_keep_55 hl (by decide) rfl (fun ls hl => ?_)
          refine lv_iload hx hb dX8_keep_57 (lv_at hl 0 rfl) ?_
          refine lv_iconst (v := (-1)) hx hb dX8_keep_59 (by decide +kernel) ?_
          have t_104 : ∀ I_103 : Nat → Nat → Int32, ∀ R_103 : Nat → Nat → Int32, ∀ J_103 : Nat → Nat → Int64, xInv F (I_103, R_103, J_103) → ∀ (H : Heap) (locs : List Loc), va_P D vwCl (zw 81 q (zXd q cA) I_103 R_103 J_103) H → va_D (zA 81 q sz) (zw 81 q (zXd q cA) I_103 R_103 J_103) → va_S (zA 81 q sz) s.heap H locs → ∀ ls : Array Slot, lv_has ls 5 [(0, .ref (q 39)), (1, .int (nI 4)), (2, .int (pa1)), (3, .int (x_68)), (4, .int (R_69 41 (v_92).toNatClampNeg))] → W p l e ({ frames := 3, cells := 0, slots := 0, locals := 66 } : Room) s m ([.ref (q 39), .int (nI 4), .int (pa1)] : List Value).toArray below meth c H locs 0 0 (MQ below (va_Qv (fun u => xInv F u) (zB D vwCl 81 q (zXd q cA) sz) (zA 81 q sz)) ([.ref (q 39), .int (nI 4), .int (pa1)] : List Value).toArray s 0 0 (zA 81 q sz)) (F0 m 99 ls []) := by
            intro I_103 R_103 J_103 hI_103 H locs hP hD hS ls hl
            obtain ⟨v_105, ev_105⟩ : ∃ y : Int32, y = x_68 + nI 1 := ⟨_, rfl⟩
            have hv_105 : zR 1 5 v_105 := ev_105 ▸ zR_add f_91 zk_1 (by decide)
            have mv_105 : v_105.toInt = (x_68).toInt + 1 := by rw [ev_105, zR_addE f_91 zk_1 (by decide)]; rfl
            refine lv_iinc (v := v_105) (lv' := [(3, .int (v_105)), (0, .ref (q 39)), (1, .int (nI 4)), (2, .int (pa1)), (4, .int (R_69 41 (v_92).toNatClampNeg))]) hx hb dX8_keep_99 hl (k := 3) rfl (ev_105 ▸ rfl) (by decide) rfl (fun ls hl => ?_)
            refine lv_goto (tgt := 40) hx hb dX8_keep_102 (by decide) ?_
            exact ih_72 (v_105) (zR_w hv_105 (by decide)) _ _ _ hI_103 (z2_up mv_105 (by decide) hN_71) _ _ hP hD hS _ (lv_sub hl [1, 2, 3, 0] rfl)
          refine lv_icmp_eq (tgt := 99) hx hb dX8_keep_60 (by decide) (fun c_94 => ?_) (fun c_94 => ?_)
          · have t_c_94 := z_eqT c_94
            have f_106 : zR (-1) (-1) (R_69 41 (v_92).toNatClampNeg) := zR_eqx t_c_94 zk_m1
            exact t_104 _ _ _ hI_69 _ _ hP hD hS _ (lv_sub hl [1, 2, 3, 4, 0] rfl)
          · have t_c_94 := z_eqF c_94
            have f_107 : zR 0 23 (R_69 41 (v_92).toNatClampNeg) := zR_nex t_c_94 f_93 zk_m1 (by decide)
            refine lv_aload_n hx hb dX8_keep_63 rfl (lv_at hl 1 rfl) ?_
            refine lv_iload_n hx hb dX8_keep_64 rfl (lv_at hl 4 rfl) ?_
            refine lv_iload_n hx hb dX8_keep_65 rfl (lv_at hl 2 rfl) ?_
            refine z_callVi (k := 39) (As := [.int (x_68), .int (nI 4)]) (rest := []) hx hb hml hown ht (xk_X8_leads_4 l D q cA F _ _ _ hI_69 (x_68) f_91 (nI 4) (zR_w zk_4 (by decide))) hw_4_99 hmX8_leads ⟨rfl, rfl⟩ (na := 2) rfl (by decide +kernel) (by decide) (by decide) rfl rfl hK hP hD hS hA hl.1 rfl (Nat.le_of_ble_eq_true rfl) ⟨Nat.zero_le _, Nat.zero_le _⟩ dX8_keep_66 (fun r_108 I_108 R_108 J_108 H locs hp_108 hP hD hS _ _ => ?_)
            rcases hp_108 with ⟨rfl, hu_108⟩ | ⟨rfl, hu_108⟩
            · cases hu_108
              refine lv_if_ne (tgt := 99) hx hb dX8_keep_69 (by decide) (fun _ => ?_) (fun c_0 => absurd c_0 (zD_ne zk_1 zk_z (by decide)))
              exact t_104 _ _ _ hI_69 _ _ hP hD hS _ (lv_sub hl [1, 2, 3, 4, 0] rfl)
            · cases hu_108
              refine lv_if_ne (tgt := 99) hx hb dX8_keep_69 (by decide) (fun c_0 => absurd (zD_eq zk_0 zk_z) c_0) (fun _ => ?_)
              refine lv_aload_n hx hb dX8_keep_72 rfl (lv_at hl 1 rfl) ?_
              refine z_get hx hb ht hown hK hP ziX8 rfl 39 (by decide) 4 (by decide) hw_1_233 rfl (v := .ref (q 42)) rfl dX8_keep_73 ?_
              refine lv_iload_n hx hb dX8_keep_76 rfl (lv_at hl 2 rfl) ?_
              refine lv_iload_n hx hb dX8_keep_77 rfl (lv_at hl 4 rfl) ?_
              refine z_iast hx hb hK hP hD hS 42 (by decide) 34 (fun _ => rfl) rfl (zR_vin zk_4 (by decide)) dX8_keep_78 (fun H locs hP hD hS => ?_)
              have hI_109 := xInv_R hI_69 42 (nI 4).toNatClampNeg (x_68) (show zR (-1) 4 (x_68) from zR_w f_91 (by decide)) rfl
              refine lv_aload_n hx hb dX8_keep_79 rfl (lv_at hl 1 rfl) ?_
              refine lv_iload_n hx hb dX8_keep_80 rfl (lv_at hl 2 rfl) ?_
              refine lv_iconst (v := nI 1) hx hb dX8_keep_81 (by decide +kernel) ?_
              refine lv_iadd hx hb dX8_keep_82 ?_
              refine z_eqi (y := nI 5) (by decide +kernel) ?_
              refine lv_iload_n hx hb dX8_keep_83 rfl (lv_at hl 3 rfl) ?_
              refine lv_iconst (v := nI 1) hx hb dX8_keep_84 (by decide +kernel) ?_
              refine lv_iload hx hb dX8_keep_85 (lv_at hl 0 rfl) ?_
              refine lv_ishl hx hb dX8_keep_87 ?_
              refine z_rng (a := 1) (b := 8388608) (zR_shl1 23 f_107 (by decide)) (fun v_110 hv_110 => ?_)
              refine lv_ior hx hb dX8_keep_88 ?_
              refine z_rng (a := 0) (b := 16777215) (zR_or 24 hpa1 hv_110 (by decide)) (fun v_111 hv_111 => ?_)
              refine z_callVv (k := 39) (As := [.int (nI 5), .int (v_111)]) (rest := []) hx hb hml hown ht (xk_X8_keep_5 l D q cA F _ _ _ hI_109 (v_111)) hw_4_90 hmX8_keep ⟨rfl, rfl⟩ (na := 2) rfl (by decide +kernel) (by decide) (by decide) rfl rfl hK hP hD hS hA hl.1 rfl (Nat.le_of_ble_eq_true rfl) ⟨Nat.zero_le _, Nat.zero_le _⟩ dX8_keep_89 (fun I_112 R_112 J_112 H locs hp_112 hP hD hS _ _ => ?_)
              refine lv_aload_n hx hb dX8_keep_92 rfl (lv_at hl 1 rfl) ?_
              refine z_get hx hb ht hown hK hP ziX8 rfl 39 (by decide) 4 (by decide) hw_1_233 rfl (v := .ref (q 42)) rfl dX8_keep_93 ?_
              refine lv_iload_n hx hb dX8_keep_96 rfl (lv_at hl 2 rfl) ?_
              refine lv_iconst (v := (-1)) hx hb dX8_keep_97 (by decide +kernel) ?_
              refine z_iast hx hb hK hP hD hS 42 (by decide) 34 (fun _ => rfl) rfl (zR_vin zk_4 (by decide)) dX8_keep_98 (fun H locs hP hD hS => ?_)
              have hI_113 := xInv_R hp_112 42 (nI 4).toNatClampNeg ((-1)) (show zR (-1) 4 ((-1)) from zR_w zk_m1 (by decide)) rfl
              exact t_104 _ _ _ hI_113 _ _ hP hD hS _ (lv_sub hl [1, 2, 3, 4, 0] rfl)
    exact loop_70 _ (nI 0) (zR_w zk_0 (by decide)) _ _ _ hI (Nat.lt_succ_self _) _ _ hP hD hS _ (lv_sub hl [1, 2, 3, 0] rfl)
  · have t_c_5 := z_leF c_5
    have f_114 : zR 1 62 (v_3) := zR_ltx t_c_5 hv_3 hr_4 (by decide)
    have f_115 : zR 5 66 (v_2) := zR_shift mv_3 f_114 (by decide)
    have f_116 : zR 2 63 (r_4) := zR_lty t_c_5 hv_3 hr_4 (by decide)
    exact z_vret hx hb hr hlocks hP hD hS dX8_keep_37 hI
