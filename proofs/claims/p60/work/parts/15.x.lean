set_option maxHeartbeats 4000000 in
set_option maxRecDepth 100000 in
theorem xk_X10_hits (l : Launch) (D : va_G) (q : Nat → Nat) (cA : Nat → ClassId) (F : Nat → Nat → Int32) (I R : Nat → Nat → Int32) (J : Nat → Nat → Int64) (hI : xInv F (I, R, J)) (pa0 : Int32) : zMi l D vwCl (zXtys cA) 81 q (zXd q cA) yX10_hits cX10_hits 2 (some .int) ({ frames := 4, cells := 0, slots := 0, locals := 91 } : Room) [.ref (q 0), .int (pa0)] (I, R, J) (fun r u => zR (-2) 4 r ∧ u = (I, R, J)) := by
  intro sz
  refine z_body (by decide +kernel) (Nat.le_of_ble_eq_true rfl) (fun p e s m below meth c ls hx hb hml hr ht hown hlocks hsz hK hP hD hS hl => ?_)
  have hA : ∀ a, s.heap.size ≤ a → zA 81 q sz a := fun a h => Or.inr (hsz ▸ h)
  have hl : lv_has ls 2 [(0, .ref (q 0)), (1, .int (pa0))] := hl
  refine lv_aload_n hx hb dX10_hits_0 rfl (lv_at hl 0 rfl) ?_
  refine lv_iload_n hx hb dX10_hits_1 rfl (lv_at hl 1 rfl) ?_
  refine z_callVi (k := 0) (As := [.int (pa0)]) (rest := []) hx hb hml hown ht (xk_X10_isHouse l D q cA F _ _ _ hI (pa0)) hw_3_59 hmX10_isHouse ⟨rfl, rfl⟩ (na := 1) rfl (by decide +kernel) (by decide) (by decide) rfl rfl hK hP hD hS hA hl.1 rfl (Nat.le_of_ble_eq_true rfl) ⟨Nat.zero_le _, Nat.zero_le _⟩ dX10_hits_2 (fun r_1 I_1 R_1 J_1 H locs hp_1 hP hD hS _ _ => ?_)
  rcases hp_1 with ⟨rfl, hu_1, f0_1⟩ | ⟨rfl, hu_1⟩
  · cases hu_1
    refine lv_if_eq (tgt := 16) hx hb dX10_hits_5 (by decide) (fun c_0 => absurd c_0 (zD_ne zk_1 zk_z (by decide))) (fun _ => ?_)
    refine lv_aload_n hx hb dX10_hits_8 rfl (lv_at hl 0 rfl) ?_
    refine lv_iload_n hx hb dX10_hits_9 rfl (lv_at hl 1 rfl) ?_
    refine z_callVi (k := 0) (As := [.int (pa0)]) (rest := []) hx hb hml hown ht (xk_X10_hardestHitBy l D q cA F _ _ _ hI (pa0) f0_1) hw_4_201 hmX10_hardestHitBy ⟨rfl, rfl⟩ (na := 1) rfl (by decide +kernel) (by decide) (by decide) rfl rfl hK hP hD hS hA hl.1 rfl (Nat.le_of_ble_eq_true rfl) ⟨Nat.zero_le _, Nat.zero_le _⟩ dX10_hits_10 (fun r_2 I_2 R_2 J_2 H locs hp_2 hP hD hS _ _ => ?_)
    obtain ⟨hr_2, hu_2⟩ := hp_2
    cases hu_2
    refine lv_goto (tgt := 18) hx hb dX10_hits_13 (by decide) ?_
    exact z_iret (v := r_2) hx hb hr hlocks hP hD hS dX10_hits_18 ⟨(zR_w hr_2 (by decide)), rfl⟩
  · cases hu_1
    refine lv_if_eq (tgt := 16) hx hb dX10_hits_5 (by decide) (fun _ => ?_) (fun c_0 => absurd (zD_eq zk_0 zk_z) c_0)
    refine lv_bipush (v := (-2)) hx hb dX10_hits_16 (by decide +kernel) ?_
    exact z_iret (v := (-2)) hx hb hr hlocks hP hD hS dX10_hits_18 ⟨(zR_w zk_m2 (by decide)), rfl⟩
set_option maxHeartbeats 4000000 in
set_option maxRecDepth 100000 in
theorem xk_X10_mostWanted (l : Launch) (D : va_G) (q : Nat → Nat) (cA : Nat → ClassId) (F : Nat → Nat → Int32) (I R : Nat → Nat → Int32) (J : Nat → Nat → Int64) (hI : xInv F (I, R, J)) (pa0 : Int32) (hpa0 : zR 0 4 pa0) (pa1 : Int32) (hpa1 : zR 0 999 pa1) : zMi l D vwCl (zXtys cA) 81 q (zXd q cA) yX10_mostWanted cX10_mostWanted 7 (some .int) ({ frames := 1, cells := 0, slots := 0, locals := 22 } : Room) [.ref (q 0), .int (pa0), .int (pa1)] (I, R, J) (fun r u => zR (-1) 5 r ∧ u = (I, R, J)) := by
  intro sz
  refine z_body (by decide +kernel) (Nat.le_of_ble_eq_true rfl) (fun p e s m below meth c ls hx hb hml hr ht hown hlocks hsz hK hP hD hS hl => ?_)
  have hA : ∀ a, s.heap.size ≤ a → zA 81 q sz a := fun a h => Or.inr (hsz ▸ h)
  have hl : lv_has ls 7 [(0, .ref (q 0)), (1, .int (pa0)), (2, .int (pa1))] := hl
  refine lv_iconst (v := (-1)) hx hb dX10_mostWanted_0 (by decide +kernel) ?_
  refine lv_istore_n (lv' := [(3, .int ((-1))), (0, .ref (q 0)), (1, .int (pa0)), (2, .int (pa1))]) hx hb dX10_mostWanted_1 rfl hl (by decide) rfl (fun ls hl => ?_)
  refine lv_iconst (v := nI 0) hx hb dX10_mostWanted_2 (by decide +kernel) ?_
  refine lv_istore (lv' := [(4, .int (nI 0)), (3, .int ((-1))), (0, .ref (q 0)), (1, .int (pa0)), (2, .int (pa1))]) hx hb dX10_mostWanted_3 hl (by decide) rfl (fun ls hl => ?_)
  refine lv_iconst (v := nI 0) hx hb dX10_mostWanted_5 (by decide +kernel) ?_
  refine lv_istore (lv' := [(5, .int (nI 0)), (4, .int (nI 0)), (3, .int ((-1))), (0, .ref (q 0)), (1, .int (pa0)), (2, .int (pa1))]) hx hb dX10_mostWanted_6 hl (by decide) rfl (fun ls hl => ?_)
  have loop_95 : ∀ N : Nat, ∀ x_92 : Int32, zR (-1) 5 x_92 → ∀ x_93 : Int32, zR 0 2147483647 x_93 → ∀ x_94 : Int32, zR 0 6 x_94 → (2147483648 - (x_94).toInt).toNat < N → ∀ (H : Heap) (locs : List Loc), va_P D vwCl (zw 81 q (zXd q cA) I R J) H → va_D (zA 81 q sz) (zw 81 q (zXd q cA) I R J) → va_S (zA 81 q sz) s.heap H locs → ∀ ls : Array Slot, lv_has ls 7 [(0, .ref (q 0)), (1, .int (pa0)), (2, .int (pa1)), (3, .int (x_92)), (4, .int (x_93)), (5, .int (x_94))] → W p l e ({ frames := 1, cells := 0, slots := 0, locals := 22 } : Room) s m ([.ref (q 0), .int (pa0), .int (pa1)] : List Value).toArray below meth c H locs 0 0 (MQ below (va_Qi (fun r u => zR (-1) 5 r ∧ u = (I, R, J)) (zB D vwCl 81 q (zXd q cA) sz) (zA 81 q sz)) ([.ref (q 0), .int (pa0), .int (pa1)] : List Value).toArray s 0 0 (zA 81 q sz)) (F0 m 8 ls []) := by
    intro N
    induction N with
    | zero => intro x_92 hx_92 x_93 hx_93 x_94 hx_94 hN; exact absurd hN (Nat.not_lt_zero _)
    | succ N ih_97 =>
      intro x_92 hx_92 x_93 hx_93 x_94 hx_94 hN_96 H locs hP hD hS ls hl
      refine lv_iload hx hb dX10_mostWanted_8 (lv_at hl 5 rfl) ?_
      refine lv_aload_n hx hb dX10_mostWanted_10 rfl (lv_at hl 0 rfl) ?_
      refine z_get hx hb ht hown hK hP ziX10 rfl 0 (by decide) 1 (by decide) hw_2_94 rfl (v := .ref (q 3)) rfl dX10_mostWanted_11 ?_
      refine z_get hx hb ht hown hK hP ziX2 rfl 3 (by decide) 5 (by decide) hw_1_93 rfl (v := .int (I 3 5)) rfl dX10_mostWanted_14 ?_
      have f_98 : zR 0 6 (I 3 5) := xI hI 3 5
      refine lv_icmp_ge (tgt := 61) hx hb dX10_mostWanted_17 (by decide) (fun c_99 => ?_) (fun c_99 => ?_)
      · have t_c_99 := z_leT c_99
        refine lv_iload_n hx hb dX10_mostWanted_61 rfl (lv_at hl 3 rfl) ?_
        exact z_iret (v := x_92) hx hb hr hlocks hP hD hS dX10_mostWanted_62 ⟨hx_92, rfl⟩
      · have t_c_99 := z_leF c_99
        have f_100 : zR 0 5 (x_94) := zR_ltx t_c_99 hx_94 f_98 (by decide)
        have f_101 : zR 1 6 (I 3 5) := zR_lty t_c_99 hx_94 f_98 (by decide)
        refine lv_aload_n hx hb dX10_mostWanted_20 rfl (lv_at hl 0 rfl) ?_
        refine z_get hx hb ht hown hK hP ziX10 rfl 0 (by decide) 1 (by decide) hw_2_94 rfl (v := .ref (q 3)) rfl dX10_mostWanted_21 ?_
        refine lv_iload_n hx hb dX10_mostWanted_24 rfl (lv_at hl 1 rfl) ?_
        refine lv_iload hx hb dX10_mostWanted_25 (lv_at hl 5 rfl) ?_
        refine z_callVi (k := 3) (As := [.int (pa0), .int (x_94)]) (rest := []) hx hb hml hown ht (xk_X2_moreTo l D q cA F _ _ _ hI (pa0) hpa0 (x_94) f_100) hw_4_225 hmX2_moreTo ⟨rfl, rfl⟩ (na := 2) rfl (by decide +kernel) (by decide) (by decide) rfl rfl hK hP hD hS hA hl.1 rfl (Nat.le_of_ble_eq_true rfl) ⟨Nat.zero_le _, Nat.zero_le _⟩ dX10_mostWanted_27 (fun r_102 I_102 R_102 J_102 H locs hp_102 hP hD hS _ _ => ?_)
        cases hp_102
        refine lv_istore (lv' := [(6, .int (r_102)), (0, .ref (q 0)), (1, .int (pa0)), (2, .int (pa1)), (3, .int (x_92)), (4, .int (x_93)), (5, .int (x_94))]) hx hb dX10_mostWanted_30 hl (by decide) rfl (fun ls hl => ?_)
        refine lv_iload_n hx hb dX10_mostWanted_32 rfl (lv_at hl 3 rfl) ?_
        refine lv_iload hx hb dX10_mostWanted_33 (lv_at hl 6 rfl) ?_
        refine lv_ishr hx hb dX10_mostWanted_35 ?_
        refine z_any (fun v_103 => ?_)
        refine lv_iconst (v := nI 1) hx hb dX10_mostWanted_36 (by decide +kernel) ?_
        refine lv_iand hx hb dX10_mostWanted_37 ?_
        refine z_rng (a := 0) (b := 1) (zR_andr zk_1 (by decide)) (fun v_104 hv_104 => ?_)
        have t_113 : ∀ x_111 : Int32, zR (-1) 5 x_111 → ∀ x_112 : Int32, zR 0 2147483647 x_112 → ∀ (H : Heap) (locs : List Loc), va_P D vwCl (zw 81 q (zXd q cA) I R J) H → va_D (zA 81 q sz) (zw 81 q (zXd q cA) I R J) → va_S (zA 81 q sz) s.heap H locs → ∀ ls : Array Slot, lv_has ls 7 [(0, .ref (q 0)), (1, .int (pa0)), (2, .int (pa1)), (3, .int (x_111)), (4, .int (x_112)), (5, .int (x_94)), (6, .int (r_102))] → W p l e ({ frames := 1, cells := 0, slots := 0, locals := 22 } : Room) s m ([.ref (q 0), .int (pa0), .int (pa1)] : List Value).toArray below meth c H locs 0 0 (MQ below (va_Qi (fun r u => zR (-1) 5 r ∧ u = (I, R, J)) (zB D vwCl 81 q (zXd q cA) sz) (zA 81 q sz)) ([.ref (q 0), .int (pa0), .int (pa1)] : List Value).toArray s 0 0 (zA 81 q sz)) (F0 m 55 ls []) := by
          intro x_111 hx_111 x_112 hx_112 H locs hP hD hS ls hl
          obtain ⟨v_114, ev_114⟩ : ∃ y : Int32, y = x_94 + nI 1 := ⟨_, rfl⟩
          have hv_114 : zR 1 6 v_114 := ev_114 ▸ zR_add f_100 zk_1 (by decide)
          have mv_114 : v_114.toInt = (x_94).toInt + 1 := by rw [ev_114, zR_addE f_100 zk_1 (by decide)]; rfl
          refine lv_iinc (v := v_114) (lv' := [(5, .int (v_114)), (0, .ref (q 0)), (1, .int (pa0)), (2, .int (pa1)), (3, .int (x_111)), (4, .int (x_112)), (6, .int (r_102))]) hx hb dX10_mostWanted_55 hl (k := 5) rfl (ev_114 ▸ rfl) (by decide) rfl (fun ls hl => ?_)
          refine lv_goto (tgt := 8) hx hb dX10_mostWanted_58 (by decide) ?_
          exact ih_97 (x_111) hx_111 (x_112) hx_112 (v_114) (zR_w hv_114 (by decide)) (z2_up mv_114 (by decide) hN_96) _ _ hP hD hS _ (lv_sub hl [1, 2, 3, 4, 5, 0] rfl)
        refine lv_if_eq (tgt := 55) hx hb dX10_mostWanted_38 (by decide) (fun c_105 => ?_) (fun c_105 => ?_)
        · have t_c_105 := z_eqT c_105
          have f_115 : zR 0 0 (v_104) := zR_eqx t_c_105 zk_z
          exact t_113 (x_92) hx_92 (x_93) hx_93 _ _ hP hD hS _ (lv_sub hl [1, 2, 3, 4, 5, 6, 0] rfl)
        · have t_c_105 := z_eqF c_105
          have f_116 : zR 1 1 (v_104) := zR_nex t_c_105 hv_104 zk_z (by decide)
          refine lv_iload hx hb dX10_mostWanted_41 (lv_at hl 0 rfl) ?_
          refine lv_iload hx hb dX10_mostWanted_43 (lv_at hl 5 rfl) ?_
          refine lv_icmp_le (tgt := 55) hx hb dX10_mostWanted_45 (by decide) (fun c_117 => ?_) (fun c_117 => ?_)
          · have t_c_117 := z_leT c_117
            exact t_113 (x_92) hx_92 (x_93) hx_93 _ _ hP hD hS _ (lv_sub hl [1, 2, 3, 4, 5, 6, 0] rfl)
          · have t_c_117 := z_leF c_117
            have f_118 : zR 0 2147483646 (x_93) := zR_ltx t_c_117 hx_93 (zR_any (r_102)) (by decide)
            have f_119 : zR 1 2147483647 (r_102) := zR_lty t_c_117 hx_93 (zR_any (r_102)) (by decide)
            refine lv_iload hx hb dX10_mostWanted_48 (lv_at hl 0 rfl) ?_
            refine lv_istore (lv' := [(4, .int (r_102)), (6, .int (r_102)), (0, .ref (q 0)), (1, .int (pa0)), (2, .int (pa1)), (3, .int (x_92)), (5, .int (x_94))]) hx hb dX10_mostWanted_50 hl (by decide) rfl (fun ls hl => ?_)
            refine lv_iload hx hb dX10_mostWanted_52 (lv_at hl 6 rfl) ?_
            refine lv_istore_n (lv' := [(3, .int (x_94)), (4, .int (r_102)), (6, .int (r_102)), (0, .ref (q 0)), (1, .int (pa0)), (2, .int (pa1)), (5, .int (x_94))]) hx hb dX10_mostWanted_54 rfl hl (by decide) rfl (fun ls hl => ?_)
            exact t_113 (x_94) (zR_w f_100 (by decide)) (r_102) (zR_w f_119 (by decide)) _ _ hP hD hS _ (lv_sub hl [3, 4, 5, 0, 1, 6, 2] rfl)
  exact loop_95 _ ((-1)) (zR_w zk_m1 (by decide)) (nI 0) (zR_w zk_0 (by decide)) (nI 0) (zR_w zk_0 (by decide)) (Nat.lt_succ_self _) _ _ hP hD hS _ (lv_sub hl [3, 4, 5, 2, 1, 0] rfl)
set_option maxHeartbeats 4000000 in
set_option maxRecDepth 100000 in
theorem xk_X10_wishOf_1 (l : Launch) (D : va_G) (q : Nat → Nat) (cA : Nat → ClassId) (F : Nat → Nat → Int32) (I R : Nat → Nat → Int32) (J : Nat → Nat → Int64) (hI : xInv F (I, R, J)) (pa0 : Int32) (hpa0 : zR 0 4 pa0) (pa1 : Int32) (hpa1 : zR 0 3 pa1) : zMi l D vwCl (zXtys cA) 81 q (zXd q cA) yX10_wishOf cX10_wishOf 6 (some .int) ({ frames := 2, cells := 0, slots := 0, locals := 48 } : Room) [.ref (q 0), .int (pa0), .int (pa1)] (I, R, J) (fun r u => zR (-1) 5 r ∧ u = (I, R, J)) := by
  intro sz
  refine z_body (by decide +kernel) (Nat.le_of_ble_eq_true rfl) (fun p e s m below meth c ls hx hb hml hr ht hown hlocks hsz hK hP hD hS hl => ?_)
  have hA : ∀ a, s.heap.size ≤ a → zA 81 q sz a := fun a h => Or.inr (hsz ▸ h)
  have hl : lv_has ls 6 [(0, .ref (q 0)), (1, .int (pa0)), (2, .int (pa1))] := hl
  refine lv_aload_n hx hb dX10_wishOf_0 rfl (lv_at hl 0 rfl) ?_
  refine z_get hx hb ht hown hK hP ziX10 rfl 0 (by decide) 4 (by decide) hw_2_97 rfl (v := .ref (q 15)) rfl dX10_wishOf_1 ?_
  refine lv_iload_n hx hb dX10_wishOf_4 rfl (lv_at hl 1 rfl) ?_
  refine z_callVi (k := 15) (As := [.int (pa0)]) (rest := []) hx hb hml hown ht (xk_X9_inReachOf l D q cA F _ _ _ hI (pa0) hpa0) hw_4_124 hmX9_inReachOf ⟨rfl, rfl⟩ (na := 1) rfl (by decide +kernel) (by decide) (by decide) rfl rfl hK hP hD hS hA hl.1 rfl (Nat.le_of_ble_eq_true rfl) ⟨Nat.zero_le _, Nat.zero_le _⟩ dX10_wishOf_5 (fun r_1 I_1 R_1 J_1 H locs hp_1 hP hD hS _ _ => ?_)
  obtain ⟨hr_1, hu_1⟩ := hp_1
  cases hu_1
  refine lv_istore_n (lv' := [(3, .int (r_1)), (0, .ref (q 0)), (1, .int (pa0)), (2, .int (pa1))]) hx hb dX10_wishOf_8 rfl hl (by decide) rfl (fun ls hl => ?_)
  refine lv_iconst (v := (-1)) hx hb dX10_wishOf_9 (by decide +kernel) ?_
  refine lv_istore (lv' := [(4, .int ((-1))), (3, .int (r_1)), (0, .ref (q 0)), (1, .int (pa0)), (2, .int (pa1))]) hx hb dX10_wishOf_10 hl (by decide) rfl (fun ls hl => ?_)
  refine lv_iconst (v := nI 0) hx hb dX10_wishOf_12 (by decide +kernel) ?_
  refine lv_istore (lv' := [(5, .int (nI 0)), (4, .int ((-1))), (3, .int (r_1)), (0, .ref (q 0)), (1, .int (pa0)), (2, .int (pa1))]) hx hb dX10_wishOf_13 hl (by decide) rfl (fun ls hl => ?_)
  have loop_54 : ∀ N : Nat, ∀ x_51 : Int32, zR 0 63 x_51 → ∀ x_52 : Int32, zR (-1) 5 x_52 → ∀ x_53 : Int32, zR 0 4 x_53 → (2147483648 - (x_53).toInt).toNat < N → ∀ (H : Heap) (locs : List Loc), va_P D vwCl (zw 81 q (zXd q cA) I R J) H → va_D (zA 81 q sz) (zw 81 q (zXd q cA) I R J) → va_S (zA 81 q sz) s.heap H locs → ∀ ls : Array Slot, lv_has ls 6 [(0, .ref (q 0)), (1, .int (pa0)), (2, .int (pa1)), (3, .int (x_51)), (4, .int (x_52)), (5, .int (x_53))] → W p l e ({ frames := 2, cells := 0, slots := 0, locals := 48 } : Room) s m ([.ref (q 0), .int (pa0), .int (pa1)] : List Value).toArray below meth c H locs 0 0 (MQ below (va_Qi (fun r u => zR (-1) 5 r ∧ u = (I, R, J)) (zB D vwCl 81 q (zXd q cA) sz) (zA 81 q sz)) ([.ref (q 0), .int (pa0), .int (pa1)] : List Value).toArray s 0 0 (zA 81 q sz)) (F0 m 15 ls []) := by
    intro N
    induction N with
    | zero => intro x_51 hx_51 x_52 hx_52 x_53 hx_53 hN; exact absurd hN (Nat.not_lt_zero _)
    | succ N ih_56 =>
      intro x_51 hx_51 x_52 hx_52 x_53 hx_53 hN_55 H locs hP hD hS ls hl
      refine lv_iload hx hb dX10_wishOf_15 (lv_at hl 5 rfl) ?_
      refine lv_iload_n hx hb dX10_wishOf_17 rfl (lv_at hl 2 rfl) ?_
      refine lv_icmp_gt (tgt := 58) hx hb dX10_wishOf_18 (by decide) (fun c_57 => ?_) (fun c_57 => ?_)
      · have t_c_57 := z_ltT c_57
        have f_58 : zR 1 4 (x_53) := zR_lty t_c_57 hpa1 hx_53 (by decide)
        refine lv_iload hx hb dX10_wishOf_58 (lv_at hl 4 rfl) ?_
        exact z_iret (v := x_52) hx hb hr hlocks hP hD hS dX10_wishOf_60 ⟨hx_52, rfl⟩
      · have t_c_57 := z_ltF c_57
        have f_59 : zR 0 3 (x_53) := zR_lex t_c_57 hx_53 hpa1 (by decide)
        refine lv_iload hx hb dX10_wishOf_21 (lv_at hl 5 rfl) ?_
        refine lv_iconst (v := nI 4) hx hb dX10_wishOf_23 (by decide +kernel) ?_
        refine lv_icmp_ge (tgt := 58) hx hb dX10_wishOf_24 (by decide) (fun c_0 => absurd c_0 (zD_nle zk_4 f_59 (by decide))) (fun _ => ?_)
        refine lv_aload_n hx hb dX10_wishOf_27 rfl (lv_at hl 0 rfl) ?_
        refine lv_iload_n hx hb dX10_wishOf_28 rfl (lv_at hl 1 rfl) ?_
        refine lv_iload_n hx hb dX10_wishOf_29 rfl (lv_at hl 3 rfl) ?_
        refine z_callVi (k := 0) (As := [.int (pa0), .int (x_51)]) (rest := []) hx hb hml hown ht (xk_X10_mostWanted l D q cA F _ _ _ hI (pa0) hpa0 (x_51) (zR_w hx_51 (by decide))) hw_4_221 hmX10_mostWanted ⟨rfl, rfl⟩ (na := 2) rfl (by decide +kernel) (by decide) (by decide) rfl rfl hK hP hD hS hA hl.1 rfl (Nat.le_of_ble_eq_true rfl) ⟨Nat.zero_le _, Nat.zero_le _⟩ dX10_wishOf_30 (fun r_60 I_60 R_60 J_60 H locs hp_60 hP hD hS _ _ => ?_)
        obtain ⟨hr_60, hu_60⟩ := hp_60
        cases hu_60
        refine lv_istore (lv' := [(4, .int (r_60)), (0, .ref (q 0)), (1, .int (pa0)), (2, .int (pa1)), (3, .int (x_51)), (5, .int (x_53))]) hx hb dX10_wishOf_33 hl (by decide) rfl (fun ls hl => ?_)
        refine lv_iload hx hb dX10_wishOf_35 (lv_at hl 0 rfl) ?_
        refine lv_iconst (v := (-1)) hx hb dX10_wishOf_37 (by decide +kernel) ?_
        refine lv_icmp_ne (tgt := 43) hx hb dX10_wishOf_38 (by decide) (fun c_61 => ?_) (fun c_61 => ?_)
        · have t_c_61 := z_eqF c_61
          have f_62 : zR 0 5 (r_60) := zR_nex t_c_61 hr_60 zk_m1 (by decide)
          refine lv_iload_n hx hb dX10_wishOf_43 rfl (lv_at hl 4 rfl) ?_
          refine lv_iconst (v := nI 1) hx hb dX10_wishOf_44 (by decide +kernel) ?_
          refine lv_iload hx hb dX10_wishOf_45 (lv_at hl 0 rfl) ?_
          refine lv_ishl hx hb dX10_wishOf_47 ?_
          refine z_rng (a := 1) (b := 32) (zR_shl1 5 f_62 (by decide)) (fun v_63 hv_63 => ?_)
          refine lv_iconst (v := (-1)) hx hb dX10_wishOf_48 (by decide +kernel) ?_
          refine lv_ixor hx hb dX10_wishOf_49 ?_
          refine z_any (fun v_64 => ?_)
          refine lv_iand hx hb dX10_wishOf_50 ?_
          refine z_rng (a := 0) (b := 63) (zR_andl hx_51 (by decide)) (fun v_65 hv_65 => ?_)
          refine lv_istore_n (lv' := [(3, .int (v_65)), (4, .int (r_60)), (0, .ref (q 0)), (1, .int (pa0)), (2, .int (pa1)), (5, .int (x_53))]) hx hb dX10_wishOf_51 rfl hl (by decide) rfl (fun ls hl => ?_)
          obtain ⟨v_66, ev_66⟩ : ∃ y : Int32, y = x_53 + nI 1 := ⟨_, rfl⟩
          have hv_66 : zR 1 4 v_66 := ev_66 ▸ zR_add f_59 zk_1 (by decide)
          have mv_66 : v_66.toInt = (x_53).toInt + 1 := by rw [ev_66, zR_addE f_59 zk_1 (by decide)]; rfl
          refine lv_iinc (v := v_66) (lv' := [(5, .int (v_66)), (3, .int (v_65)), (4, .int (r_60)), (0, .ref (q 0)), (1, .int (pa0)), (2, .int (pa1))]) hx hb dX10_wishOf_52 hl (k := 5) rfl (ev_66 ▸ rfl) (by decide) rfl (fun ls hl => ?_)
          refine lv_goto (tgt := 15) hx hb dX10_wishOf_55 (by decide) ?_
          exact ih_56 (v_65) hv_65 (r_60) (zR_w f_62 (by decide)) (v_66) (zR_w hv_66 (by decide)) (z2_up mv_66 (by decide) hN_55) _ _ hP hD hS _ (lv_sub hl [3, 4, 5, 1, 2, 0] rfl)
        · have t_c_61 := z_eqT c_61
          have f_67 : zR (-1) (-1) (r_60) := zR_eqx t_c_61 zk_m1
          refine lv_iconst (v := (-1)) hx hb dX10_wishOf_41 (by decide +kernel) ?_
          exact z_iret (v := (-1)) hx hb hr hlocks hP hD hS dX10_wishOf_42 ⟨(zR_w zk_m1 (by decide)), rfl⟩
  exact loop_54 _ (r_1) hr_1 ((-1)) (zR_w zk_m1 (by decide)) (nI 0) (zR_w zk_0 (by decide)) (Nat.lt_succ_self _) _ _ hP hD hS _ (lv_sub hl [3, 4, 5, 2, 1, 0] rfl)
set_option maxHeartbeats 4000000 in
set_option maxRecDepth 100000 in
theorem xk_X10_plan (l : Launch) (D : va_G) (q : Nat → Nat) (cA : Nat → ClassId) (F : Nat → Nat → Int32) (I R : Nat → Nat → Int32) (J : Nat → Nat → Int64) (hI : xInv F (I, R, J)) (pa0 : Int32) (pa1 : Int32) : zMi l D vwCl (zXtys cA) 81 q (zXd q cA) yX10_plan cX10_plan 6 (some .int) ({ frames := 3, cells := 0, slots := 0, locals := 73 } : Room) [.ref (q 0), .int (pa0), .int (pa1)] (I, R, J) (fun _ u => u = (I, R, J)) := by
  intro sz
  refine z_body (by decide +kernel) (Nat.le_of_ble_eq_true rfl) (fun p e s m below meth c ls hx hb hml hr ht hown hlocks hsz hK hP hD hS hl => ?_)
  have hA : ∀ a, s.heap.size ≤ a → zA 81 q sz a := fun a h => Or.inr (hsz ▸ h)
  have hl : lv_has ls 6 [(0, .ref (q 0)), (1, .int (pa0)), (2, .int (pa1))] := hl
  refine lv_aload_n hx hb dX10_plan_0 rfl (lv_at hl 0 rfl) ?_
  refine lv_iload_n hx hb dX10_plan_1 rfl (lv_at hl 1 rfl) ?_
  refine z_callVi (k := 0) (As := [.int (pa0)]) (rest := []) hx hb hml hown ht (xk_X10_isHouse l D q cA F _ _ _ hI (pa0)) hw_3_59 hmX10_isHouse ⟨rfl, rfl⟩ (na := 1) rfl (by decide +kernel) (by decide) (by decide) rfl rfl hK hP hD hS hA hl.1 rfl (Nat.le_of_ble_eq_true rfl) ⟨Nat.zero_le _, Nat.zero_le _⟩ dX10_plan_2 (fun r_1 I_1 R_1 J_1 H locs hp_1 hP hD hS _ _ => ?_)
  rcases hp_1 with ⟨rfl, hu_1, f0_1⟩ | ⟨rfl, hu_1⟩
  · cases hu_1
    refine lv_if_eq (tgt := 18) hx hb dX10_plan_5 (by decide) (fun c_0 => absurd c_0 (zD_ne zk_1 zk_z (by decide))) (fun _ => ?_)
    refine lv_iload_n hx hb dX10_plan_8 rfl (lv_at hl 2 rfl) ?_
    refine lv_iconst (v := nI 1) hx hb dX10_plan_9 (by decide +kernel) ?_
    refine lv_icmp_lt (tgt := 18) hx hb dX10_plan_10 (by decide) (fun c_2 => ?_) (fun c_2 => ?_)
    · have t_c_2 := z_ltT c_2
      have f_3 : zR (-2147483648) 0 (pa1) := zR_ltx t_c_2 (zR_any (pa1)) zk_1 (by decide)
      refine lv_bipush (v := (-2)) hx hb dX10_plan_18 (by decide +kernel) ?_
      exact z_iret (v := (-2)) hx hb hr hlocks hP hD hS dX10_plan_20 rfl
    · have t_c_2 := z_ltF c_2
      have f_4 : zR 1 2147483647 (pa1) := zR_ley t_c_2 zk_1 (zR_any (pa1)) (by decide)
      refine lv_iload_n hx hb dX10_plan_13 rfl (lv_at hl 2 rfl) ?_
      refine lv_iconst (v := nI 4) hx hb dX10_plan_14 (by decide +kernel) ?_
      refine lv_icmp_le (tgt := 21) hx hb dX10_plan_15 (by decide) (fun c_5 => ?_) (fun c_5 => ?_)
      · have t_c_5 := z_leT c_5
        have f_6 : zR 1 4 (pa1) := zR_lex t_c_5 f_4 zk_4 (by decide)
        refine lv_iconst (v := nI 0) hx hb dX10_plan_21 (by decide +kernel) ?_
        refine lv_istore_n (lv' := [(3, .int (nI 0)), (0, .ref (q 0)), (1, .int (pa0)), (2, .int (pa1))]) hx hb dX10_plan_22 rfl hl (by decide) rfl (fun ls hl => ?_)
        refine lv_iconst (v := nI 0) hx hb dX10_plan_23 (by decide +kernel) ?_
        refine lv_istore (lv' := [(4, .int (nI 0)), (3, .int (nI 0)), (0, .ref (q 0)), (1, .int (pa0)), (2, .int (pa1))]) hx hb dX10_plan_24 hl (by decide) rfl (fun ls hl => ?_)
        have loop_55 : ∀ N : Nat, ∀ x_53 : Int32, ∀ x_54 : Int32, zR 0 4 x_54 → (2147483648 - (x_54).toInt).toNat < N → ∀ (H : Heap) (locs : List Loc), va_P D vwCl (zw 81 q (zXd q cA) I R J) H → va_D (zA 81 q sz) (zw 81 q (zXd q cA) I R J) → va_S (zA 81 q sz) s.heap H locs → ∀ ls : Array Slot, lv_has ls 6 [(0, .ref (q 0)), (1, .int (pa0)), (2, .int (pa1)), (3, .int (x_53)), (4, .int (x_54))] → W p l e ({ frames := 3, cells := 0, slots := 0, locals := 73 } : Room) s m ([.ref (q 0), .int (pa0), .int (pa1)] : List Value).toArray below meth c H locs 0 0 (MQ below (va_Qi (fun _ u => u = (I, R, J)) (zB D vwCl 81 q (zXd q cA) sz) (zA 81 q sz)) ([.ref (q 0), .int (pa0), .int (pa1)] : List Value).toArray s 0 0 (zA 81 q sz)) (F0 m 26 ls []) := by
          intro N
          induction N with
          | zero => intro x_53 x_54 hx_54 hN; exact absurd hN (Nat.not_lt_zero _)
          | succ N ih_57 =>
            intro x_53 x_54 hx_54 hN_56 H locs hP hD hS ls hl
            refine lv_iload hx hb dX10_plan_26 (lv_at hl 4 rfl) ?_
            refine lv_iload_n hx hb dX10_plan_28 rfl (lv_at hl 2 rfl) ?_
            refine lv_icmp_ge (tgt := 70) hx hb dX10_plan_29 (by decide) (fun c_58 => ?_) (fun c_58 => ?_)
            · have t_c_58 := z_leT c_58
              have f_59 : zR 1 4 (x_54) := zR_ley t_c_58 f_6 hx_54 (by decide)
              refine lv_iload_n hx hb dX10_plan_70 rfl (lv_at hl 3 rfl) ?_
              exact z_iret (v := x_53) hx hb hr hlocks hP hD hS dX10_plan_71 rfl
            · have t_c_58 := z_leF c_58
              have f_60 : zR 0 3 (x_54) := zR_ltx t_c_58 hx_54 f_6 (by decide)
              refine lv_aload_n hx hb dX10_plan_32 rfl (lv_at hl 0 rfl) ?_
              refine lv_iload_n hx hb dX10_plan_33 rfl (lv_at hl 1 rfl) ?_
              refine lv_iload hx hb dX10_plan_34 (lv_at hl 4 rfl) ?_
              refine z_callVi (k := 0) (As := [.int (pa0), .int (x_54)]) (rest := []) hx hb hml hown ht (xk_X10_wishOf_1 l D q cA F _ _ _ hI (pa0) f0_1 (x_54) f_60) hw_4_217 hmX10_wishOf ⟨rfl, rfl⟩ (na := 2) rfl (by decide +kernel) (by decide) (by decide) rfl rfl hK hP hD hS hA hl.1 rfl (Nat.le_of_ble_eq_true rfl) ⟨Nat.zero_le _, Nat.zero_le _⟩ dX10_plan_36 (fun r_61 I_61 R_61 J_61 H locs hp_61 hP hD hS _ _ => ?_)
              obtain ⟨hr_61, hu_61⟩ := hp_61
              cases hu_61
              refine lv_istore (lv' := [(5, .int (r_61)), (0, .ref (q 0)), (1, .int (pa0)), (2, .int (pa1)), (3, .int (x_53)), (4, .int (x_54))]) hx hb dX10_plan_39 hl (by decide) rfl (fun ls hl => ?_)
              refine lv_iload_n hx hb dX10_plan_41 rfl (lv_at hl 4 rfl) ?_
              refine lv_iload hx hb dX10_plan_42 (lv_at hl 0 rfl) ?_
              refine lv_iconst (v := (-1)) hx hb dX10_plan_44 (by decide +kernel) ?_
              have t_67 : ∀ x_66 : Int32, ∀ (H : Heap) (locs : List Loc), va_P D vwCl (zw 81 q (zXd q cA) I R J) H → va_D (zA 81 q sz) (zw 81 q (zXd q cA) I R J) → va_S (zA 81 q sz) s.heap H locs → ∀ ls : Array Slot, lv_has ls 6 [(0, .ref (q 0)), (1, .int (pa0)), (2, .int (pa1)), (3, .int (x_53)), (4, .int (x_54)), (5, .int (r_61))] → W p l e ({ frames := 3, cells := 0, slots := 0, locals := 73 } : Room) s m ([.ref (q 0), .int (pa0), .int (pa1)] : List Value).toArray below meth c H locs 0 0 (MQ below (va_Qi (fun _ u => u = (I, R, J)) (zB D vwCl 81 q (zXd q cA) sz) (zA 81 q sz)) ([.ref (q 0), .int (pa0), .int (pa1)] : List Value).toArray s 0 0 (zA 81 q sz)) (F0 m 62 ls [.int (x_66), .int (x_53)]) := by
                intro x_66 H locs hP hD hS ls hl
                refine lv_iadd hx hb dX10_plan_62 ?_
                refine z_any (fun v_68 => ?_)
                refine lv_istore_n (lv' := [(3, .int (v_68)), (0, .ref (q 0)), (1, .int (pa0)), (2, .int (pa1)), (4, .int (x_54)), (5, .int (r_61))]) hx hb dX10_plan_63 rfl hl (by decide) rfl (fun ls hl => ?_)
                obtain ⟨v_69, ev_69⟩ : ∃ y : Int32, y = x_54 + nI 1 := ⟨_, rfl⟩
                have hv_69 : zR 1 4 v_69 := ev_69 ▸ zR_add f_60 zk_1 (by decide)
                have mv_69 : v_69.toInt = (x_54).toInt + 1 := by rw [ev_69, zR_addE f_60 zk_1 (by decide)]; rfl
                refine lv_iinc (v := v_69) (lv' := [(4, .int (v_69)), (3, .int (v_68)), (0, .ref (q 0)), (1, .int (pa0)), (2, .int (pa1)), (5, .int (r_61))]) hx hb dX10_plan_64 hl (k := 4) rfl (ev_69 ▸ rfl) (by decide) rfl (fun ls hl => ?_)
                refine lv_goto (tgt := 26) hx hb dX10_plan_67 (by decide) ?_
                exact ih_57 (v_68) (v_69) (zR_w hv_69 (by decide)) (z2_up mv_69 (by decide) hN_56) _ _ hP hD hS _ (lv_sub hl [2, 3, 4, 1, 0] rfl)
              refine lv_icmp_ne (tgt := 52) hx hb dX10_plan_45 (by decide) (fun c_62 => ?_) (fun c_62 => ?_)
              · have t_c_62 := z_eqF c_62
                have f_70 : zR 0 5 (r_61) := zR_nex t_c_62 hr_61 zk_m1 (by decide)
                refine lv_aload_n hx hb dX10_plan_52 rfl (lv_at hl 1 rfl) ?_
                refine z_get hx hb ht hown hK hP ziX10 rfl 0 (by decide) 1 (by decide) hw_2_94 rfl (v := .ref (q 3)) rfl dX10_plan_53 ?_
                refine lv_iload_n hx hb dX10_plan_56 rfl (lv_at hl 2 rfl) ?_
                refine lv_iload hx hb dX10_plan_57 (lv_at hl 0 rfl) ?_
                refine z_callVi (k := 3) (As := [.int (pa0), .int (r_61)]) (rest := [.int (x_53)]) hx hb hml hown ht (xk_X2_moreTo l D q cA F _ _ _ hI (pa0) f0_1 (r_61) f_70) hw_4_225 hmX2_moreTo ⟨rfl, rfl⟩ (na := 2) rfl (by decide +kernel) (by decide) (by decide) rfl rfl hK hP hD hS hA hl.1 rfl (Nat.le_of_ble_eq_true rfl) ⟨Nat.zero_le _, Nat.zero_le _⟩ dX10_plan_59 (fun r_71 I_71 R_71 J_71 H locs hp_71 hP hD hS _ _ => ?_)
                cases hp_71
                exact t_67 (r_71) _ _ hP hD hS _ (lv_sub hl [1, 2, 3, 4, 5, 0] rfl)
              · have t_c_62 := z_eqT c_62
                have f_72 : zR (-1) (-1) (r_61) := zR_eqx t_c_62 zk_m1
                refine lv_iconst (v := nI 0) hx hb dX10_plan_48 (by decide +kernel) ?_
                refine lv_goto (tgt := 62) hx hb dX10_plan_49 (by decide) ?_
                exact t_67 (nI 0) _ _ hP hD hS _ (lv_sub hl [1, 2, 3, 4, 5, 0] rfl)
        exact loop_55 _ (nI 0) (nI 0) (zR_w zk_0 (by decide)) (Nat.lt_succ_self _) _ _ hP hD hS _ (lv_sub hl [2, 3, 4, 1, 0] rfl)
      · have t_c_5 := z_leF c_5
        have f_73 : zR 5 2147483647 (pa1) := zR_lty t_c_5 zk_4 f_4 (by decide)
        refine lv_bipush (v := (-2)) hx hb dX10_plan_18 (by decide +kernel) ?_
        exact z_iret (v := (-2)) hx hb hr hlocks hP hD hS dX10_plan_20 rfl
  · cases hu_1
    refine lv_if_eq (tgt := 18) hx hb dX10_plan_5 (by decide) (fun _ => ?_) (fun c_0 => absurd (zD_eq zk_0 zk_z) c_0)
    refine lv_bipush (v := (-2)) hx hb dX10_plan_18 (by decide +kernel) ?_
    exact z_iret (v := (-2)) hx hb hr hlocks hP hD hS dX10_plan_20 rfl
set_option maxHeartbeats 4000000 in
set_option maxRecDepth 100000 in
theorem xk_X10_plans (l : Launch) (D : va_G) (q : Nat → Nat) (cA : Nat → ClassId) (F : Nat → Nat → Int32) (I R : Nat → Nat → Int32) (J : Nat → Nat → Int64) (hI : xInv F (I, R, J)) (pa0 : Int32) (pa1 : Int32) (pa2 : Int32) : zMi l D vwCl (zXtys cA) 81 q (zXd q cA) yX10_plans cX10_plans 4 (some .int) ({ frames := 3, cells := 0, slots := 0, locals := 73 } : Room) [.ref (q 0), .int (pa0), .int (pa1), .int (pa2)] (I, R, J) (fun r u => zR (-2) 5 r ∧ u = (I, R, J)) := by
  intro sz
  refine z_body (by decide +kernel) (Nat.le_of_ble_eq_true rfl) (fun p e s m below meth c ls hx hb hml hr ht hown hlocks hsz hK hP hD hS hl => ?_)
  have hA : ∀ a, s.heap.size ≤ a → zA 81 q sz a := fun a h => Or.inr (hsz ▸ h)
  have hl : lv_has ls 4 [(0, .ref (q 0)), (1, .int (pa0)), (2, .int (pa1)), (3, .int (pa2))] := hl
  refine lv_aload_n hx hb dX10_plans_0 rfl (lv_at hl 0 rfl) ?_
  refine lv_iload_n hx hb dX10_plans_1 rfl (lv_at hl 1 rfl) ?_
  refine z_callVi (k := 0) (As := [.int (pa0)]) (rest := []) hx hb hml hown ht (xk_X10_isHouse l D q cA F _ _ _ hI (pa0)) hw_3_59 hmX10_isHouse ⟨rfl, rfl⟩ (na := 1) rfl (by decide +kernel) (by decide) (by decide) rfl rfl hK hP hD hS hA hl.1 rfl (Nat.le_of_ble_eq_true rfl) ⟨Nat.zero_le _, Nat.zero_le _⟩ dX10_plans_2 (fun r_1 I_1 R_1 J_1 H locs hp_1 hP hD hS _ _ => ?_)
  rcases hp_1 with ⟨rfl, hu_1, f0_1⟩ | ⟨rfl, hu_1⟩
  · cases hu_1
    refine lv_if_eq (tgt := 18) hx hb dX10_plans_5 (by decide) (fun c_0 => absurd c_0 (zD_ne zk_1 zk_z (by decide))) (fun _ => ?_)
    refine lv_iload_n hx hb dX10_plans_8 rfl (lv_at hl 2 rfl) ?_
    refine lv_iconst (v := nI 1) hx hb dX10_plans_9 (by decide +kernel) ?_
    refine lv_icmp_lt (tgt := 18) hx hb dX10_plans_10 (by decide) (fun c_2 => ?_) (fun c_2 => ?_)
    · have t_c_2 := z_ltT c_2
      have f_3 : zR (-2147483648) 0 (pa1) := zR_ltx t_c_2 (zR_any (pa1)) zk_1 (by decide)
      refine lv_bipush (v := (-2)) hx hb dX10_plans_18 (by decide +kernel) ?_
      exact z_iret (v := (-2)) hx hb hr hlocks hP hD hS dX10_plans_20 ⟨(zR_w zk_m2 (by decide)), rfl⟩
    · have t_c_2 := z_ltF c_2
      have f_4 : zR 1 2147483647 (pa1) := zR_ley t_c_2 zk_1 (zR_any (pa1)) (by decide)
      refine lv_iload_n hx hb dX10_plans_13 rfl (lv_at hl 2 rfl) ?_
      refine lv_iconst (v := nI 4) hx hb dX10_plans_14 (by decide +kernel) ?_
      refine lv_icmp_le (tgt := 21) hx hb dX10_plans_15 (by decide) (fun c_5 => ?_) (fun c_5 => ?_)
      · have t_c_5 := z_leT c_5
        have f_6 : zR 1 4 (pa1) := zR_lex t_c_5 f_4 zk_4 (by decide)
        refine lv_iload_n hx hb dX10_plans_21 rfl (lv_at hl 3 rfl) ?_
        refine lv_if_lt (tgt := 39) hx hb dX10_plans_22 (by decide) (fun c_7 => ?_) (fun c_7 => ?_)
        · have t_c_7 := z_ltT c_7
          have f_8 : zR (-2147483648) (-1) (pa2) := zR_ltx t_c_7 (zR_any (pa2)) zk_z (by decide)
          refine lv_iconst (v := (-1)) hx hb dX10_plans_39 (by decide +kernel) ?_
          exact z_iret (v := (-1)) hx hb hr hlocks hP hD hS dX10_plans_40 ⟨(zR_w zk_m1 (by decide)), rfl⟩
        · have t_c_7 := z_ltF c_7
          have f_9 : zR 0 2147483647 (pa2) := zR_ley t_c_7 zk_z (zR_any (pa2)) (by decide)
          refine lv_iload_n hx hb dX10_plans_25 rfl (lv_at hl 3 rfl) ?_
          refine lv_iload_n hx hb dX10_plans_26 rfl (lv_at hl 2 rfl) ?_
          refine lv_icmp_ge (tgt := 39) hx hb dX10_plans_27 (by decide) (fun c_10 => ?_) (fun c_10 => ?_)
          · have t_c_10 := z_leT c_10
            have f_11 : zR 1 2147483647 (pa2) := zR_ley t_c_10 f_6 f_9 (by decide)
            refine lv_iconst (v := (-1)) hx hb dX10_plans_39 (by decide +kernel) ?_
            exact z_iret (v := (-1)) hx hb hr hlocks hP hD hS dX10_plans_40 ⟨(zR_w zk_m1 (by decide)), rfl⟩
          · have t_c_10 := z_leF c_10
            have f_12 : zR 0 3 (pa2) := zR_ltx t_c_10 f_9 f_6 (by decide)
            refine lv_aload_n hx hb dX10_plans_30 rfl (lv_at hl 0 rfl) ?_
            refine lv_iload_n hx hb dX10_plans_31 rfl (lv_at hl 1 rfl) ?_
            refine lv_iload_n hx hb dX10_plans_32 rfl (lv_at hl 3 rfl) ?_
            refine z_callVi (k := 0) (As := [.int (pa0), .int (pa2)]) (rest := []) hx hb hml hown ht (xk_X10_wishOf_1 l D q cA F _ _ _ hI (pa0) f0_1 (pa2) f_12) hw_4_217 hmX10_wishOf ⟨rfl, rfl⟩ (na := 2) rfl (by decide +kernel) (by decide) (by decide) rfl rfl hK hP hD hS hA hl.1 rfl (Nat.le_of_ble_eq_true rfl) ⟨Nat.zero_le _, Nat.zero_le _⟩ dX10_plans_33 (fun r_13 I_13 R_13 J_13 H locs hp_13 hP hD hS _ _ => ?_)
            obtain ⟨hr_13, hu_13⟩ := hp_13
            cases hu_13
            refine lv_goto (tgt := 40) hx hb dX10_plans_36 (by decide) ?_
            exact z_iret (v := r_13) hx hb hr hlocks hP hD hS dX10_plans_40 ⟨(zR_w hr_13 (by decide)), rfl⟩
      · have t_c_5 := z_leF c_5
        have f_14 : zR 5 2147483647 (pa1) := zR_lty t_c_5 zk_4 f_4 (by decide)
        refine lv_bipush (v := (-2)) hx hb dX10_plans_18 (by decide +kernel) ?_
        exact z_iret (v := (-2)) hx hb hr hlocks hP hD hS dX10_plans_20 ⟨(zR_w zk_m2 (by decide)), rfl⟩
  · cases hu_1
    refine lv_if_eq (tgt := 18) hx hb dX10_plans_5 (by decide) (fun _ => ?_) (fun c_0 => absurd (zD_eq zk_0 zk_z) c_0)
    refine lv_bipush (v := (-2)) hx hb dX10_plans_18 (by decide +kernel) ?_
    exact z_iret (v := (-2)) hx hb hr hlocks hP hD hS dX10_plans_20 ⟨(zR_w zk_m2 (by decide)), rfl⟩
set_option maxHeartbeats 4000000 in
set_option maxRecDepth 100000 in
theorem xk_X10_change (l : Launch) (D : va_G) (q : Nat → Nat) (cA : Nat → ClassId) (F : Nat → Nat → Int32) (I R : Nat → Nat → Int32) (J : Nat → Nat → Int64) (hI : xInv F (I, R, J)) (pa0 : Int32) (pa1 : Int32) : zMi l D vwCl (zXtys cA) 81 q (zXd q cA) yX10_change cX10_change 5 (some .int) ({ frames := 2, cells := 0, slots := 0, locals := 44 } : Room) [.ref (q 0), .int (pa0), .int (pa1)] (I, R, J) (fun r u => zR (-2) 55 r ∧ u = (I, R, J)) := by
  intro sz
  refine z_body (by decide +kernel) (Nat.le_of_ble_eq_true rfl) (fun p e s m below meth c ls hx hb hml hr ht hown hlocks hsz hK hP hD hS hl => ?_)
  have hA : ∀ a, s.heap.size ≤ a → zA 81 q sz a := fun a h => Or.inr (hsz ▸ h)
  have hl : lv_has ls 5 [(0, .ref (q 0)), (1, .int (pa0)), (2, .int (pa1))] := hl
  refine lv_aload_n hx hb dX10_change_0 rfl (lv_at hl 0 rfl) ?_
  refine lv_iload_n hx hb dX10_change_1 rfl (lv_at hl 1 rfl) ?_
  refine z_callVi (k := 0) (As := [.int (pa0)]) (rest := []) hx hb hml hown ht (xk_X10_isHouse l D q cA F _ _ _ hI (pa0)) hw_3_59 hmX10_isHouse ⟨rfl, rfl⟩ (na := 1) rfl (by decide +kernel) (by decide) (by decide) rfl rfl hK hP hD hS hA hl.1 rfl (Nat.le_of_ble_eq_true rfl) ⟨Nat.zero_le _, Nat.zero_le _⟩ dX10_change_2 (fun r_1 I_1 R_1 J_1 H locs hp_1 hP hD hS _ _ => ?_)
  rcases hp_1 with ⟨rfl, hu_1, f0_1⟩ | ⟨rfl, hu_1⟩
  · cases hu_1
    refine lv_if_eq (tgt := 21) hx hb dX10_change_5 (by decide) (fun c_0 => absurd c_0 (zD_ne zk_1 zk_z (by decide))) (fun _ => ?_)
    refine lv_aload_n hx hb dX10_change_8 rfl (lv_at hl 0 rfl) ?_
    refine lv_iload_n hx hb dX10_change_9 rfl (lv_at hl 2 rfl) ?_
    refine z_callVi (k := 0) (As := [.int (pa1)]) (rest := []) hx hb hml hown ht (xk_X10_isHouse l D q cA F _ _ _ hI (pa1)) hw_3_59 hmX10_isHouse ⟨rfl, rfl⟩ (na := 1) rfl (by decide +kernel) (by decide) (by decide) rfl rfl hK hP hD hS hA hl.1 rfl (Nat.le_of_ble_eq_true rfl) ⟨Nat.zero_le _, Nat.zero_le _⟩ dX10_change_10 (fun r_2 I_2 R_2 J_2 H locs hp_2 hP hD hS _ _ => ?_)
    rcases hp_2 with ⟨rfl, hu_2, f0_2⟩ | ⟨rfl, hu_2⟩
    · cases hu_2
      refine lv_if_eq (tgt := 21) hx hb dX10_change_13 (by decide) (fun c_0 => absurd c_0 (zD_ne zk_1 zk_z (by decide))) (fun _ => ?_)
      refine lv_iload_n hx hb dX10_change_16 rfl (lv_at hl 1 rfl) ?_
      refine lv_iload_n hx hb dX10_change_17 rfl (lv_at hl 2 rfl) ?_
      refine lv_icmp_ne (tgt := 24) hx hb dX10_change_18 (by decide) (fun c_3 => ?_) (fun c_3 => ?_)
      · have t_c_3 := z_eqF c_3
        refine lv_iconst (v := nI 0) hx hb dX10_change_24 (by decide +kernel) ?_
        refine lv_istore_n (lv' := [(3, .int (nI 0)), (0, .ref (q 0)), (1, .int (pa0)), (2, .int (pa1))]) hx hb dX10_change_25 rfl hl (by decide) rfl (fun ls hl => ?_)
        have loop_379 : ∀ N : Nat, ∀ x_378 : Int32, zR 0 6 x_378 → (2147483648 - (x_378).toInt).toNat < N → ∀ (H : Heap) (locs : List Loc), va_P D vwCl (zw 81 q (zXd q cA) I R J) H → va_D (zA 81 q sz) (zw 81 q (zXd q cA) I R J) → va_S (zA 81 q sz) s.heap H locs → ∀ ls : Array Slot, lv_has ls 5 [(0, .ref (q 0)), (1, .int (pa0)), (2, .int (pa1)), (3, .int (x_378))] → W p l e ({ frames := 2, cells := 0, slots := 0, locals := 44 } : Room) s m ([.ref (q 0), .int (pa0), .int (pa1)] : List Value).toArray below meth c H locs 0 0 (MQ below (va_Qi (fun r u => zR (-2) 55 r ∧ u = (I, R, J)) (zB D vwCl 81 q (zXd q cA) sz) (zA 81 q sz)) ([.ref (q 0), .int (pa0), .int (pa1)] : List Value).toArray s 0 0 (zA 81 q sz)) (F0 m 26 ls []) := by
          intro N
          induction N with
          | zero => intro x_378 hx_378 hN; exact absurd hN (Nat.not_lt_zero _)
          | succ N ih_381 =>
            intro x_378 hx_378 hN_380 H locs hP hD hS ls hl
            refine lv_iload_n hx hb dX10_change_26 rfl (lv_at hl 3 rfl) ?_
            refine lv_aload_n hx hb dX10_change_27 rfl (lv_at hl 0 rfl) ?_
            refine z_get hx hb ht hown hK hP ziX10 rfl 0 (by decide) 1 (by decide) hw_2_94 rfl (v := .ref (q 3)) rfl dX10_change_28 ?_
            refine z_get hx hb ht hown hK hP ziX2 rfl 3 (by decide) 5 (by decide) hw_1_93 rfl (v := .int (I 3 5)) rfl dX10_change_31 ?_
            have f_382 : zR 0 6 (I 3 5) := xI hI 3 5
            refine lv_icmp_ge (tgt := 143) hx hb dX10_change_34 (by decide) (fun c_383 => ?_) (fun c_383 => ?_)
            · have t_c_383 := z_leT c_383
              refine lv_iconst (v := (-1)) hx hb dX10_change_143 (by decide +kernel) ?_
              exact z_iret (v := (-1)) hx hb hr hlocks hP hD hS dX10_change_144 ⟨(zR_w zk_m1 (by decide)), rfl⟩
            · have t_c_383 := z_leF c_383
              have f_384 : zR 0 5 (x_378) := zR_ltx t_c_383 hx_378 f_382 (by decide)
              have f_385 : zR 1 6 (I 3 5) := zR_lty t_c_383 hx_378 f_382 (by decide)
              refine lv_iconst (v := nI 0) hx hb dX10_change_37 (by decide +kernel) ?_
              refine lv_istore (lv' := [(4, .int (nI 0)), (0, .ref (q 0)), (1, .int (pa0)), (2, .int (pa1)), (3, .int (x_378))]) hx hb dX10_change_38 hl (by decide) rfl (fun ls hl => ?_)
              have loop_478 : ∀ N : Nat, ∀ x_477 : Int32, zR 0 6 x_477 → (2147483648 - (x_477).toInt).toNat < N → ∀ (H : Heap) (locs : List Loc), va_P D vwCl (zw 81 q (zXd q cA) I R J) H → va_D (zA 81 q sz) (zw 81 q (zXd q cA) I R J) → va_S (zA 81 q sz) s.heap H locs → ∀ ls : Array Slot, lv_has ls 5 [(0, .ref (q 0)), (1, .int (pa0)), (2, .int (pa1)), (3, .int (x_378)), (4, .int (x_477))] → W p l e ({ frames := 2, cells := 0, slots := 0, locals := 44 } : Room) s m ([.ref (q 0), .int (pa0), .int (pa1)] : List Value).toArray below meth c H locs 0 0 (MQ below (va_Qi (fun r u => zR (-2) 55 r ∧ u = (I, R, J)) (zB D vwCl 81 q (zXd q cA) sz) (zA 81 q sz)) ([.ref (q 0), .int (pa0), .int (pa1)] : List Value).toArray s 0 0 (zA 81 q sz)) (F0 m 40 ls []) := by
                intro N
                induction N with
                | zero => intro x_477 hx_477 hN; exact absurd hN (Nat.not_lt_zero _)
                | succ N ih_480 =>
                  intro x_477 hx_477 hN_479 H locs hP hD hS ls hl
                  refine lv_iload hx hb dX10_change_40 (lv_at hl 4 rfl) ?_
                  refine lv_aload_n hx hb dX10_change_42 rfl (lv_at hl 0 rfl) ?_
                  refine z_get hx hb ht hown hK hP ziX10 rfl 0 (by decide) 1 (by decide) hw_2_94 rfl (v := .ref (q 3)) rfl dX10_change_43 ?_
                  refine z_get hx hb ht hown hK hP ziX2 rfl 3 (by decide) 5 (by decide) hw_1_93 rfl (v := .int (I 3 5)) rfl dX10_change_46 ?_
                  refine lv_icmp_ge (tgt := 137) hx hb dX10_change_49 (by decide) (fun c_481 => ?_) (fun c_481 => ?_)
                  · have t_c_481 := z_leT c_481
                    have f_482 : zR 1 6 (x_477) := zR_ley t_c_481 f_385 hx_477 (by decide)
                    obtain ⟨v_483, ev_483⟩ : ∃ y : Int32, y = x_378 + nI 1 := ⟨_, rfl⟩
                    have hv_483 : zR 1 6 v_483 := ev_483 ▸ zR_add f_384 zk_1 (by decide)
                    have mv_483 : v_483.toInt = (x_378).toInt + 1 := by rw [ev_483, zR_addE f_384 zk_1 (by decide)]; rfl
                    refine lv_iinc (v := v_483) (lv' := [(3, .int (v_483)), (0, .ref (q 0)), (1, .int (pa0)), (2, .int (pa1)), (4, .int (x_477))]) hx hb dX10_change_137 hl (k := 3) rfl (ev_483 ▸ rfl) (by decide) rfl (fun ls hl => ?_)
                    refine lv_goto (tgt := 26) hx hb dX10_change_140 (by decide) ?_
                    exact ih_381 (v_483) (zR_w hv_483 (by decide)) (z2_up mv_483 (by decide) hN_380) _ _ hP hD hS _ (lv_sub hl [1, 2, 3, 0] rfl)
                  · have t_c_481 := z_leF c_481
                    have f_484 : zR 0 5 (x_477) := zR_ltx t_c_481 hx_477 f_385 (by decide)
                    refine lv_aload_n hx hb dX10_change_52 rfl (lv_at hl 0 rfl) ?_
                    refine z_get hx hb ht hown hK hP ziX10 rfl 0 (by decide) 4 (by decide) hw_2_97 rfl (v := .ref (q 15)) rfl dX10_change_53 ?_
                    refine z_get hx hb ht hown hK hP ziX9 rfl 15 (by decide) 5 (by decide) hw_1_168 rfl (v := .ref (q 17)) rfl dX10_change_56 ?_
                    refine lv_iload_n hx hb dX10_change_59 rfl (lv_at hl 3 rfl) ?_
                    refine z_iald hx hb hK hP 17 (by decide) 11 rfl rfl (zR_vin f_384 (by decide)) dX10_change_60 ?_
                    refine z_eqi (y := R 17 (x_378).toNatClampNeg) rfl ?_
                    have f_485 : zR 0 4 (R 17 (x_378).toNatClampNeg) := xR hI 17 (x_378).toNatClampNeg
                    refine lv_iload_n hx hb dX10_change_61 rfl (lv_at hl 1 rfl) ?_
                    refine lv_icmp_ne (tgt := 131) hx hb dX10_change_62 (by decide) (fun c_486 => ?_) (fun c_486 => ?_)
                    · have t_c_486 := z_eqF c_486
                      obtain ⟨v_487, ev_487⟩ : ∃ y : Int32, y = x_477 + nI 1 := ⟨_, rfl⟩
                      have hv_487 : zR 1 6 v_487 := ev_487 ▸ zR_add f_484 zk_1 (by decide)
                      have mv_487 : v_487.toInt = (x_477).toInt + 1 := by rw [ev_487, zR_addE f_484 zk_1 (by decide)]; rfl
                      refine lv_iinc (v := v_487) (lv' := [(4, .int (v_487)), (0, .ref (q 0)), (1, .int (pa0)), (2, .int (pa1)), (3, .int (x_378))]) hx hb dX10_change_131 hl (k := 4) rfl (ev_487 ▸ rfl) (by decide) rfl (fun ls hl => ?_)
                      refine lv_goto (tgt := 40) hx hb dX10_change_134 (by decide) ?_
                      exact ih_480 (v_487) (zR_w hv_487 (by decide)) (z2_up mv_487 (by decide) hN_479) _ _ hP hD hS _ (lv_sub hl [1, 2, 3, 4, 0] rfl)
                    · have t_c_486 := z_eqT c_486
                      refine lv_aload_n hx hb dX10_change_65 rfl (lv_at hl 0 rfl) ?_
                      refine z_get hx hb ht hown hK hP ziX10 rfl 0 (by decide) 4 (by decide) hw_2_97 rfl (v := .ref (q 15)) rfl dX10_change_66 ?_
                      refine z_get hx hb ht hown hK hP ziX9 rfl 15 (by decide) 5 (by decide) hw_1_168 rfl (v := .ref (q 17)) rfl dX10_change_69 ?_
                      refine lv_iload hx hb dX10_change_72 (lv_at hl 4 rfl) ?_
                      refine z_iald hx hb hK hP 17 (by decide) 11 rfl rfl (zR_vin f_484 (by decide)) dX10_change_74 ?_
                      refine z_eqi (y := R 17 (x_477).toNatClampNeg) rfl ?_
                      have f_488 : zR 0 4 (R 17 (x_477).toNatClampNeg) := xR hI 17 (x_477).toNatClampNeg
                      refine lv_iload_n hx hb dX10_change_75 rfl (lv_at hl 2 rfl) ?_
                      refine lv_icmp_ne (tgt := 131) hx hb dX10_change_76 (by decide) (fun c_489 => ?_) (fun c_489 => ?_)
                      · have t_c_489 := z_eqF c_489
                        obtain ⟨v_490, ev_490⟩ : ∃ y : Int32, y = x_477 + nI 1 := ⟨_, rfl⟩
                        have hv_490 : zR 1 6 v_490 := ev_490 ▸ zR_add f_484 zk_1 (by decide)
                        have mv_490 : v_490.toInt = (x_477).toInt + 1 := by rw [ev_490, zR_addE f_484 zk_1 (by decide)]; rfl
                        refine lv_iinc (v := v_490) (lv' := [(4, .int (v_490)), (0, .ref (q 0)), (1, .int (pa0)), (2, .int (pa1)), (3, .int (x_378))]) hx hb dX10_change_131 hl (k := 4) rfl (ev_490 ▸ rfl) (by decide) rfl (fun ls hl => ?_)
                        refine lv_goto (tgt := 40) hx hb dX10_change_134 (by decide) ?_
                        exact ih_480 (v_490) (zR_w hv_490 (by decide)) (z2_up mv_490 (by decide) hN_479) _ _ hP hD hS _ (lv_sub hl [1, 2, 3, 4, 0] rfl)
                      · have t_c_489 := z_eqT c_489
                        refine lv_aload_n hx hb dX10_change_79 rfl (lv_at hl 0 rfl) ?_
                        refine z_get hx hb ht hown hK hP ziX10 rfl 0 (by decide) 1 (by decide) hw_2_94 rfl (v := .ref (q 3)) rfl dX10_change_80 ?_
                        refine lv_iload_n hx hb dX10_change_83 rfl (lv_at hl 1 rfl) ?_
                        refine lv_iload hx hb dX10_change_84 (lv_at hl 4 rfl) ?_
                        refine z_callVi (k := 3) (As := [.int (pa0), .int (x_477)]) (rest := []) hx hb hml hown ht (xk_X2_valueTo l D q cA F _ _ _ hI (pa0) f0_1 (x_477) f_484) hw_3_95 hmX2_valueTo ⟨rfl, rfl⟩ (na := 2) rfl (by decide +kernel) (by decide) (by decide) rfl rfl hK hP hD hS hA hl.1 rfl (Nat.le_of_ble_eq_true rfl) ⟨Nat.zero_le _, Nat.zero_le _⟩ dX10_change_86 (fun r_491 I_491 R_491 J_491 H locs hp_491 hP hD hS _ _ => ?_)
                        cases hp_491
                        refine lv_aload_n hx hb dX10_change_89 rfl (lv_at hl 0 rfl) ?_
                        refine z_get hx hb ht hown hK hP ziX10 rfl 0 (by decide) 1 (by decide) hw_2_94 rfl (v := .ref (q 3)) rfl dX10_change_90 ?_
                        refine lv_iload_n hx hb dX10_change_93 rfl (lv_at hl 1 rfl) ?_
                        refine lv_iload_n hx hb dX10_change_94 rfl (lv_at hl 3 rfl) ?_
                        refine z_callVi (k := 3) (As := [.int (pa0), .int (x_378)]) (rest := [.int (r_491)]) hx hb hml hown ht (xk_X2_valueTo l D q cA F _ _ _ hI (pa0) f0_1 (x_378) f_384) hw_3_95 hmX2_valueTo ⟨rfl, rfl⟩ (na := 2) rfl (by decide +kernel) (by decide) (by decide) rfl rfl hK hP hD hS hA hl.1 rfl (Nat.le_of_ble_eq_true rfl) ⟨Nat.zero_le _, Nat.zero_le _⟩ dX10_change_95 (fun r_492 I_492 R_492 J_492 H locs hp_492 hP hD hS _ _ => ?_)
                        cases hp_492
                        refine lv_icmp_le (tgt := 131) hx hb dX10_change_98 (by decide) (fun c_493 => ?_) (fun c_493 => ?_)
                        · have t_c_493 := z_leT c_493
                          obtain ⟨v_494, ev_494⟩ : ∃ y : Int32, y = x_477 + nI 1 := ⟨_, rfl⟩
                          have hv_494 : zR 1 6 v_494 := ev_494 ▸ zR_add f_484 zk_1 (by decide)
                          have mv_494 : v_494.toInt = (x_477).toInt + 1 := by rw [ev_494, zR_addE f_484 zk_1 (by decide)]; rfl
                          refine lv_iinc (v := v_494) (lv' := [(4, .int (v_494)), (0, .ref (q 0)), (1, .int (pa0)), (2, .int (pa1)), (3, .int (x_378))]) hx hb dX10_change_131 hl (k := 4) rfl (ev_494 ▸ rfl) (by decide) rfl (fun ls hl => ?_)
                          refine lv_goto (tgt := 40) hx hb dX10_change_134 (by decide) ?_
                          exact ih_480 (v_494) (zR_w hv_494 (by decide)) (z2_up mv_494 (by decide) hN_479) _ _ hP hD hS _ (lv_sub hl [1, 2, 3, 4, 0] rfl)
                        · have t_c_493 := z_leF c_493
                          have f_495 : zR (-2147483648) 2147483646 (r_492) := zR_ltx t_c_493 (zR_any (r_492)) (zR_any (r_491)) (by decide)
                          have f_496 : zR (-2147483647) 2147483647 (r_491) := zR_lty t_c_493 (zR_any (r_492)) (zR_any (r_491)) (by decide)
                          refine lv_aload_n hx hb dX10_change_101 rfl (lv_at hl 0 rfl) ?_
                          refine z_get hx hb ht hown hK hP ziX10 rfl 0 (by decide) 1 (by decide) hw_2_94 rfl (v := .ref (q 3)) rfl dX10_change_102 ?_
                          refine lv_iload_n hx hb dX10_change_105 rfl (lv_at hl 2 rfl) ?_
                          refine lv_iload_n hx hb dX10_change_106 rfl (lv_at hl 3 rfl) ?_
                          refine z_callVi (k := 3) (As := [.int (pa1), .int (x_378)]) (rest := []) hx hb hml hown ht (xk_X2_valueTo l D q cA F _ _ _ hI (pa1) f0_2 (x_378) f_384) hw_3_95 hmX2_valueTo ⟨rfl, rfl⟩ (na := 2) rfl (by decide +kernel) (by decide) (by decide) rfl rfl hK hP hD hS hA hl.1 rfl (Nat.le_of_ble_eq_true rfl) ⟨Nat.zero_le _, Nat.zero_le _⟩ dX10_change_107 (fun r_497 I_497 R_497 J_497 H locs hp_497 hP hD hS _ _ => ?_)
                          cases hp_497
                          refine lv_aload_n hx hb dX10_change_110 rfl (lv_at hl 0 rfl) ?_
                          refine z_get hx hb ht hown hK hP ziX10 rfl 0 (by decide) 1 (by decide) hw_2_94 rfl (v := .ref (q 3)) rfl dX10_change_111 ?_
                          refine lv_iload_n hx hb dX10_change_114 rfl (lv_at hl 2 rfl) ?_
                          refine lv_iload hx hb dX10_change_115 (lv_at hl 4 rfl) ?_
                          refine z_callVi (k := 3) (As := [.int (pa1), .int (x_477)]) (rest := [.int (r_497)]) hx hb hml hown ht (xk_X2_valueTo l D q cA F _ _ _ hI (pa1) f0_2 (x_477) f_484) hw_3_95 hmX2_valueTo ⟨rfl, rfl⟩ (na := 2) rfl (by decide +kernel) (by decide) (by decide) rfl rfl hK hP hD hS hA hl.1 rfl (Nat.le_of_ble_eq_true rfl) ⟨Nat.zero_le _, Nat.zero_le _⟩ dX10_change_117 (fun r_498 I_498 R_498 J_498 H locs hp_498 hP hD hS _ _ => ?_)
                          cases hp_498
                          refine lv_icmp_le (tgt := 131) hx hb dX10_change_120 (by decide) (fun c_499 => ?_) (fun c_499 => ?_)
                          · have t_c_499 := z_leT c_499
                            obtain ⟨v_500, ev_500⟩ : ∃ y : Int32, y = x_477 + nI 1 := ⟨_, rfl⟩
                            have hv_500 : zR 1 6 v_500 := ev_500 ▸ zR_add f_484 zk_1 (by decide)
                            have mv_500 : v_500.toInt = (x_477).toInt + 1 := by rw [ev_500, zR_addE f_484 zk_1 (by decide)]; rfl
                            refine lv_iinc (v := v_500) (lv' := [(4, .int (v_500)), (0, .ref (q 0)), (1, .int (pa0)), (2, .int (pa1)), (3, .int (x_378))]) hx hb dX10_change_131 hl (k := 4) rfl (ev_500 ▸ rfl) (by decide) rfl (fun ls hl => ?_)
                            refine lv_goto (tgt := 40) hx hb dX10_change_134 (by decide) ?_
                            exact ih_480 (v_500) (zR_w hv_500 (by decide)) (z2_up mv_500 (by decide) hN_479) _ _ hP hD hS _ (lv_sub hl [1, 2, 3, 4, 0] rfl)
                          · have t_c_499 := z_leF c_499
                            have f_501 : zR (-2147483648) 2147483646 (r_498) := zR_ltx t_c_499 (zR_any (r_498)) (zR_any (r_497)) (by decide)
                            have f_502 : zR (-2147483647) 2147483647 (r_497) := zR_lty t_c_499 (zR_any (r_498)) (zR_any (r_497)) (by decide)
                            refine lv_bipush (v := nI 10) hx hb dX10_change_123 (by decide +kernel) ?_
                            refine lv_iload_n hx hb dX10_change_125 rfl (lv_at hl 3 rfl) ?_
                            refine lv_imul hx hb dX10_change_126 ?_
                            refine z_rng (a := 0) (b := 50) (zR_mul zk_10 f_384 (by decide)) (fun v_503 hv_503 => ?_)
                            refine lv_iload hx hb dX10_change_127 (lv_at hl 4 rfl) ?_
                            refine lv_iadd hx hb dX10_change_129 ?_
                            refine z_rng (a := 0) (b := 55) (zR_add hv_503 f_484 (by decide)) (fun v_504 hv_504 => ?_)
                            exact z_iret (v := v_504) hx hb hr hlocks hP hD hS dX10_change_130 ⟨(zR_w hv_504 (by decide)), rfl⟩
              exact loop_478 _ (nI 0) (zR_w zk_0 (by decide)) (Nat.lt_succ_self _) _ _ hP hD hS _ (lv_sub hl [1, 2, 3, 4, 0] rfl)
        exact loop_379 _ (nI 0) (zR_w zk_0 (by decide)) (Nat.lt_succ_self _) _ _ hP hD hS _ (lv_sub hl [1, 2, 3, 0] rfl)
      · have t_c_3 := z_eqT c_3
        refine lv_bipush (v := (-2)) hx hb dX10_change_21 (by decide +kernel) ?_
        exact z_iret (v := (-2)) hx hb hr hlocks hP hD hS dX10_change_23 ⟨(zR_w zk_m2 (by decide)), rfl⟩
    · cases hu_2
      refine lv_if_eq (tgt := 21) hx hb dX10_change_13 (by decide) (fun _ => ?_) (fun c_0 => absurd (zD_eq zk_0 zk_z) c_0)
      refine lv_bipush (v := (-2)) hx hb dX10_change_21 (by decide +kernel) ?_
      exact z_iret (v := (-2)) hx hb hr hlocks hP hD hS dX10_change_23 ⟨(zR_w zk_m2 (by decide)), rfl⟩
  · cases hu_1
    refine lv_if_eq (tgt := 21) hx hb dX10_change_5 (by decide) (fun _ => ?_) (fun c_0 => absurd (zD_eq zk_0 zk_z) c_0)
    refine lv_bipush (v := (-2)) hx hb dX10_change_21 (by decide +kernel) ?_
    exact z_iret (v := (-2)) hx hb hr hlocks hP hD hS dX10_change_23 ⟨(zR_w zk_m2 (by decide)), rfl⟩
set_option maxHeartbeats 4000000 in
set_option maxRecDepth 100000 in
theorem xk_X3_with_3 (l : Launch) (D : va_G) (q : Nat → Nat) (cA : Nat → ClassId) (F : Nat → Nat → Int32) (I R : Nat → Nat → Int32) (J : Nat → Nat → Int64) (hI : xInv F (I, R, J)) (pa1 : Int32) (hpa1 : zR 0 5 pa1) (pa2 : Int32) (hpa2 : zR 0 31 pa2) (pa3 : Int32) (hpa3 : zR 0 4 pa3) : zMi l D vwCl (zXtys cA) 81 q (zXd q cA) yX3_with cX3_with 6 (some .int) ({ frames := 2, cells := 0, slots := 0, locals := 44 } : Room) [.ref (q 43), .ref (q 3), .int (pa1), .int (pa2), .int (pa3)] (I, R, J) (fun _ u => u = (I, R, J)) := by
  intro sz
  refine z_body (by decide +kernel) (Nat.le_of_ble_eq_true rfl) (fun p e s m below meth c ls hx hb hml hr ht hown hlocks hsz hK hP hD hS hl => ?_)
  have hA : ∀ a, s.heap.size ≤ a → zA 81 q sz a := fun a h => Or.inr (hsz ▸ h)
  have hl : lv_has ls 6 [(0, .ref (q 43)), (1, .ref (q 3)), (2, .int (pa1)), (3, .int (pa2)), (4, .int (pa3))] := hl
  refine lv_iconst (v := nI 1) hx hb dX3_with_0 (by decide +kernel) ?_
  refine lv_iload hx hb dX3_with_1 (lv_at hl 4 rfl) ?_
  refine lv_ishl hx hb dX3_with_3 ?_
  refine z_rng (a := 1) (b := 16) (zR_shl1 4 hpa3 (by decide)) (fun v_1 hv_1 => ?_)
  refine lv_istore (lv' := [(5, .int (v_1)), (0, .ref (q 43)), (1, .ref (q 3)), (2, .int (pa1)), (3, .int (pa2)), (4, .int (pa3))]) hx hb dX3_with_4 hl (by decide) rfl (fun ls hl => ?_)
  refine lv_iload_n hx hb dX3_with_6 rfl (lv_at hl 4 rfl) ?_
  refine lv_iload hx hb dX3_with_7 (lv_at hl 0 rfl) ?_
  refine lv_iand hx hb dX3_with_9 ?_
  refine z_rng (a := 0) (b := 16) (zR_andr hv_1 (by decide)) (fun v_2 hv_2 => ?_)
  refine lv_if_eq (tgt := 15) hx hb dX3_with_10 (by decide) (fun c_3 => ?_) (fun c_3 => ?_)
  · have t_c_3 := z_eqT c_3
    have f_4 : zR 0 0 (v_2) := zR_eqx t_c_3 zk_z
    refine lv_aload_n hx hb dX3_with_15 rfl (lv_at hl 2 rfl) ?_
    refine lv_iload hx hb dX3_with_16 (lv_at hl 5 rfl) ?_
    refine lv_iload_n hx hb dX3_with_18 rfl (lv_at hl 3 rfl) ?_
    refine z_callVi (k := 3) (As := [.int (pa3), .int (pa1)]) (rest := []) hx hb hml hown ht (xk_X2_valueTo l D q cA F _ _ _ hI (pa3) hpa3 (pa1) hpa1) hw_5_10 hmX2_valueTo ⟨rfl, rfl⟩ (na := 2) rfl (by decide +kernel) (by decide) (by decide) rfl rfl hK hP hD hS hA hl.1 rfl (Nat.le_of_ble_eq_true rfl) ⟨Nat.zero_le _, Nat.zero_le _⟩ dX3_with_19 (fun r_5 I_5 R_5 J_5 H locs hp_5 hP hD hS _ _ => ?_)
    cases hp_5
    refine lv_aload_n hx hb dX3_with_22 rfl (lv_at hl 1 rfl) ?_
    refine z_get hx hb ht hown hK hP ziX3 rfl 43 (by decide) 0 (by decide) hw_2_14 rfl (v := .ref (q 44)) rfl dX3_with_23 ?_
    refine lv_iload_n hx hb dX3_with_26 rfl (lv_at hl 3 rfl) ?_
    refine lv_iconst (v := nI 1) hx hb dX3_with_27 (by decide +kernel) ?_
    refine lv_iadd hx hb dX3_with_28 ?_
    refine z_addc 1 6 hpa1 zk_1 (by decide) (fun v_6 hv_6 mv_6 => ?_)
    refine lv_bipush (v := nI 32) hx hb dX3_with_29 (by decide +kernel) ?_
    refine lv_imul hx hb dX3_with_31 ?_
    refine z_rng (a := 0) (b := 192) (zR_mul hv_6 zk_32 (by decide)) (fun v_7 hv_7 => ?_)
    refine lv_iload_n hx hb dX3_with_32 rfl (lv_at hl 4 rfl) ?_
    refine lv_iload hx hb dX3_with_33 (lv_at hl 0 rfl) ?_
    refine lv_ior hx hb dX3_with_35 ?_
    refine z_rng (a := 0) (b := 31) (zR_or 5 hpa2 hv_1 (by decide)) (fun v_8 hv_8 => ?_)
    refine lv_iadd hx hb dX3_with_36 ?_
    refine z_rng (a := 0) (b := 223) (zR_add hv_7 hv_8 (by decide)) (fun v_9 hv_9 => ?_)
    refine z_iald hx hb hK hP 44 (by decide) 35 rfl rfl (zR_vin hv_9 (by decide)) dX3_with_37 ?_
    refine z_eqi (y := R 44 (v_9).toNatClampNeg) rfl ?_
    refine lv_iadd hx hb dX3_with_38 ?_
    refine z_any (fun v_10 => ?_)
    exact z_iret (v := v_10) hx hb hr hlocks hP hD hS dX3_with_39 rfl
  · have t_c_3 := z_eqF c_3
    have f_11 : zR 1 16 (v_2) := zR_nex t_c_3 hv_2 zk_z (by decide)
    refine lv_iconst (v := (-1)) hx hb dX3_with_13 (by decide +kernel) ?_
    exact z_iret (v := (-1)) hx hb hr hlocks hP hD hS dX3_with_14 rfl
set_option maxHeartbeats 4000000 in
set_option maxRecDepth 100000 in
theorem xk_X3_weigh (l : Launch) (D : va_G) (q : Nat → Nat) (cA : Nat → ClassId) (F : Nat → Nat → Int32) (I R : Nat → Nat → Int32) (J : Nat → Nat → Int64) (hI : xInv F (I, R, J))  : zMv l D vwCl (zXtys cA) 81 q (zXd q cA) yX3_weigh cX3_weigh 7 none ({ frames := 3, cells := 0, slots := 0, locals := 69 } : Room) [.ref (q 43), .ref (q 3)] (I, R, J) (fun u => xInv F u) := by
  intro sz
  refine z_body (by decide +kernel) (Nat.le_of_ble_eq_true rfl) (fun p e s m below meth c ls hx hb hml hr ht hown hlocks hsz hK hP hD hS hl => ?_)
  have hA : ∀ a, s.heap.size ≤ a → zA 81 q sz a := fun a h => Or.inr (hsz ▸ h)
  have hl : lv_has ls 7 [(0, .ref (q 43)), (1, .ref (q 3))] := hl
  refine lv_iconst (v := nI 1) hx hb dX3_weigh_0 (by decide +kernel) ?_
  refine lv_aload_n hx hb dX3_weigh_1 rfl (lv_at hl 1 rfl) ?_
  refine z_get hx hb ht hown hK hP ziX2 rfl 3 (by decide) 4 (by decide) hw_1_83 rfl (v := .int (I 3 4)) rfl dX3_weigh_2 ?_
  have f_1 : zR 0 5 (I 3 4) := xI hI 3 4
  refine lv_ishl hx hb dX3_weigh_5 ?_
  refine z_rng (a := 1) (b := 32) (zR_shl1 5 f_1 (by decide)) (fun v_2 hv_2 => ?_)
  refine lv_istore_n (lv' := [(2, .int (v_2)), (0, .ref (q 43)), (1, .ref (q 3))]) hx hb dX3_weigh_6 rfl hl (by decide) rfl (fun ls hl => ?_)
  refine lv_iconst (v := nI 0) hx hb dX3_weigh_7 (by decide +kernel) ?_
  refine lv_istore_n (lv' := [(3, .int (nI 0)), (2, .int (v_2)), (0, .ref (q 43)), (1, .ref (q 3))]) hx hb dX3_weigh_8 rfl hl (by decide) rfl (fun ls hl => ?_)
  have loop_39 : ∀ N : Nat, ∀ x_37 : Int32, zR 0 32 x_37 → ∀ R_38 : Nat → Nat → Int32, xInv F (I, R_38, J) → (2147483648 - (x_37).toInt).toNat < N → ∀ (H : Heap) (locs : List Loc), va_P D vwCl (zw 81 q (zXd q cA) I R_38 J) H → va_D (zA 81 q sz) (zw 81 q (zXd q cA) I R_38 J) → va_S (zA 81 q sz) s.heap H locs → ∀ ls : Array Slot, lv_has ls 7 [(0, .ref (q 43)), (1, .ref (q 3)), (2, .int (v_2)), (3, .int (x_37))] → W p l e ({ frames := 3, cells := 0, slots := 0, locals := 69 } : Room) s m ([.ref (q 43), .ref (q 3)] : List Value).toArray below meth c H locs 0 0 (MQ below (va_Qv (fun u => xInv F u) (zB D vwCl 81 q (zXd q cA) sz) (zA 81 q sz)) ([.ref (q 43), .ref (q 3)] : List Value).toArray s 0 0 (zA 81 q sz)) (F0 m 9 ls []) := by
    intro N
    induction N with
    | zero => intro x_37 hx_37 R_38 hI_38 hN; exact absurd hN (Nat.not_lt_zero _)
    | succ N ih_41 =>
      intro x_37 hx_37 R_38 hI_38 hN_40 H locs hP hD hS ls hl
      refine lv_iload_n hx hb dX3_weigh_9 rfl (lv_at hl 3 rfl) ?_
      refine lv_iload_n hx hb dX3_weigh_10 rfl (lv_at hl 2 rfl) ?_
      refine lv_icmp_ge (tgt := 35) hx hb dX3_weigh_11 (by decide) (fun c_42 => ?_) (fun c_42 => ?_)
      · have t_c_42 := z_leT c_42
        have f_50 : zR 1 32 (x_37) := zR_ley t_c_42 hv_2 hx_37 (by decide)
        refine lv_aload_n hx hb dX3_weigh_35 rfl (lv_at hl 1 rfl) ?_
        refine z_get hx hb ht hown hK hP ziX2 rfl 3 (by decide) 5 (by decide) hw_1_89 rfl (v := .int (I 3 5)) rfl dX3_weigh_36 ?_
        have f_51 : zR 0 6 (I 3 5) := xI hI 3 5
        refine lv_iconst (v := nI 1) hx hb dX3_weigh_39 (by decide +kernel) ?_
        refine lv_isub hx hb dX3_weigh_40 ?_
        refine z_subc (-1) 5 (-1) f_51 zk_1 (by decide) (fun v_52 hv_52 mv_52 => ?_)
        refine lv_istore_n (lv' := [(3, .int (v_52)), (0, .ref (q 43)), (1, .ref (q 3)), (2, .int (v_2))]) hx hb dX3_weigh_41 rfl hl (by decide) rfl (fun ls hl => ?_)
        have loop_401 : ∀ N : Nat, ∀ x_399 : Int32, zR (-1) 5 x_399 → ∀ R_400 : Nat → Nat → Int32, xInv F (I, R_400, J) → ((x_399).toInt + 2147483649).toNat < N → ∀ (H : Heap) (locs : List Loc), va_P D vwCl (zw 81 q (zXd q cA) I R_400 J) H → va_D (zA 81 q sz) (zw 81 q (zXd q cA) I R_400 J) → va_S (zA 81 q sz) s.heap H locs → ∀ ls : Array Slot, lv_has ls 7 [(0, .ref (q 43)), (1, .ref (q 3)), (2, .int (v_2)), (3, .int (x_399))] → W p l e ({ frames := 3, cells := 0, slots := 0, locals := 69 } : Room) s m ([.ref (q 43), .ref (q 3)] : List Value).toArray below meth c H locs 0 0 (MQ below (va_Qv (fun u => xInv F u) (zB D vwCl 81 q (zXd q cA) sz) (zA 81 q sz)) ([.ref (q 43), .ref (q 3)] : List Value).toArray s 0 0 (zA 81 q sz)) (F0 m 42 ls []) := by
          intro N
          induction N with
          | zero => intro x_399 hx_399 R_400 hI_400 hN; exact absurd hN (Nat.not_lt_zero _)
          | succ N ih_403 =>
            intro x_399 hx_399 R_400 hI_400 hN_402 H locs hP hD hS ls hl
            refine lv_iload_n hx hb dX3_weigh_42 rfl (lv_at hl 3 rfl) ?_
            refine lv_if_lt (tgt := 132) hx hb dX3_weigh_43 (by decide) (fun c_404 => ?_) (fun c_404 => ?_)
            · have t_c_404 := z_ltT c_404
              have f_405 : zR (-1) (-1) (x_399) := zR_ltx t_c_404 hx_399 zk_z (by decide)
              exact z_vret hx hb hr hlocks hP hD hS dX3_weigh_132 hI_400
            · have t_c_404 := z_ltF c_404
              have f_406 : zR 0 5 (x_399) := zR_ley t_c_404 zk_z hx_399 (by decide)
              refine lv_iconst (v := nI 0) hx hb dX3_weigh_46 (by decide +kernel) ?_
              refine lv_istore (lv' := [(4, .int (nI 0)), (0, .ref (q 43)), (1, .ref (q 3)), (2, .int (v_2)), (3, .int (x_399))]) hx hb dX3_weigh_47 hl (by decide) rfl (fun ls hl => ?_)
              have loop_575 : ∀ N : Nat, ∀ x_573 : Int32, zR 0 32 x_573 → ∀ R_574 : Nat → Nat → Int32, xInv F (I, R_574, J) → (2147483648 - (x_573).toInt).toNat < N → ∀ (H : Heap) (locs : List Loc), va_P D vwCl (zw 81 q (zXd q cA) I R_574 J) H → va_D (zA 81 q sz) (zw 81 q (zXd q cA) I R_574 J) → va_S (zA 81 q sz) s.heap H locs → ∀ ls : Array Slot, lv_has ls 7 [(0, .ref (q 43)), (1, .ref (q 3)), (2, .int (v_2)), (3, .int (x_399)), (4, .int (x_573))] → W p l e ({ frames := 3, cells := 0, slots := 0, locals := 69 } : Room) s m ([.ref (q 43), .ref (q 3)] : List Value).toArray below meth c H locs 0 0 (MQ below (va_Qv (fun u => xInv F u) (zB D vwCl 81 q (zXd q cA) sz) (zA 81 q sz)) ([.ref (q 43), .ref (q 3)] : List Value).toArray s 0 0 (zA 81 q sz)) (F0 m 49 ls []) := by
                intro N
                induction N with
                | zero => intro x_573 hx_573 R_574 hI_574 hN; exact absurd hN (Nat.not_lt_zero _)
                | succ N ih_577 =>
                  intro x_573 hx_573 R_574 hI_574 hN_576 H locs hP hD hS ls hl
                  refine lv_iload hx hb dX3_weigh_49 (lv_at hl 4 rfl) ?_
                  refine lv_iload_n hx hb dX3_weigh_51 rfl (lv_at hl 2 rfl) ?_
                  refine lv_icmp_ge (tgt := 126) hx hb dX3_weigh_52 (by decide) (fun c_578 => ?_) (fun c_578 => ?_)
                  · have t_c_578 := z_leT c_578
                    have f_619 : zR 1 32 (x_573) := zR_ley t_c_578 hv_2 hx_573 (by decide)
                    obtain ⟨v_620, ev_620⟩ : ∃ y : Int32, y = x_399 + (-1) := ⟨_, rfl⟩
                    have hv_620 : zR (-1) 4 v_620 := ev_620 ▸ zR_add f_406 zk_m1 (by decide)
                    have mv_620 : v_620.toInt = (x_399).toInt + (-1) := by rw [ev_620, zR_addE f_406 zk_m1 (by decide)]; rfl
                    refine lv_iinc (v := v_620) (lv' := [(3, .int (v_620)), (0, .ref (q 43)), (1, .ref (q 3)), (2, .int (v_2)), (4, .int (x_573))]) hx hb dX3_weigh_126 hl (k := 3) rfl (ev_620 ▸ rfl) (by decide) rfl (fun ls hl => ?_)
                    refine lv_goto (tgt := 42) hx hb dX3_weigh_129 (by decide) ?_
                    exact ih_403 (v_620) (zR_w hv_620 (by decide)) _ hI_574 (z2_dn mv_620 (by decide) hN_402) _ _ hP hD hS _ (lv_sub hl [1, 2, 3, 0] rfl)
                  · have t_c_578 := z_leF c_578
                    have f_621 : zR 0 31 (x_573) := zR_ltx t_c_578 hx_573 hv_2 (by decide)
                    refine lv_aload_n hx hb dX3_weigh_55 rfl (lv_at hl 0 rfl) ?_
                    refine z_get hx hb ht hown hK hP ziX3 rfl 43 (by decide) 0 (by decide) hw_2_14 rfl (v := .ref (q 44)) rfl dX3_weigh_56 ?_
                    refine lv_iload_n hx hb dX3_weigh_59 rfl (lv_at hl 3 rfl) ?_
                    refine lv_iconst (v := nI 1) hx hb dX3_weigh_60 (by decide +kernel) ?_
                    refine lv_iadd hx hb dX3_weigh_61 ?_
                    refine z_addc 1 6 f_406 zk_1 (by decide) (fun v_622 hv_622 mv_622 => ?_)
                    refine lv_bipush (v := nI 32) hx hb dX3_weigh_62 (by decide +kernel) ?_
                    refine lv_imul hx hb dX3_weigh_64 ?_
                    refine z_rng (a := 0) (b := 192) (zR_mul hv_622 zk_32 (by decide)) (fun v_623 hv_623 => ?_)
                    refine lv_iload hx hb dX3_weigh_65 (lv_at hl 4 rfl) ?_
                    refine lv_iadd hx hb dX3_weigh_67 ?_
                    refine z_rng (a := 0) (b := 223) (zR_add hv_623 f_621 (by decide)) (fun v_624 hv_624 => ?_)
                    refine z_iald hx hb hK hP 44 (by decide) 35 rfl rfl (zR_vin hv_624 (by decide)) dX3_weigh_68 ?_
                    refine z_eqi (y := R_574 44 (v_624).toNatClampNeg) rfl ?_
                    refine lv_istore (lv' := [(5, .int (R_574 44 (v_624).toNatClampNeg)), (0, .ref (q 43)), (1, .ref (q 3)), (2, .int (v_2)), (3, .int (x_399)), (4, .int (x_573))]) hx hb dX3_weigh_69 hl (by decide) rfl (fun ls hl => ?_)
                    refine lv_iconst (v := nI 0) hx hb dX3_weigh_71 (by decide +kernel) ?_
                    refine lv_istore (lv' := [(6, .int (nI 0)), (5, .int (R_574 44 (v_624).toNatClampNeg)), (0, .ref (q 43)), (1, .ref (q 3)), (2, .int (v_2)), (3, .int (x_399)), (4, .int (x_573))]) hx hb dX3_weigh_72 hl (by decide) rfl (fun ls hl => ?_)
                    have loop_656 : ∀ N : Nat, ∀ x_654 : Int32, ∀ x_655 : Int32, zR 0 5 x_655 → (2147483648 - (x_655).toInt).toNat < N → ∀ (H : Heap) (locs : List Loc), va_P D vwCl (zw 81 q (zXd q cA) I R_574 J) H → va_D (zA 81 q sz) (zw 81 q (zXd q cA) I R_574 J) → va_S (zA 81 q sz) s.heap H locs → ∀ ls : Array Slot, lv_has ls 7 [(0, .ref (q 43)), (1, .ref (q 3)), (2, .int (v_2)), (3, .int (x_399)), (4, .int (x_573)), (5, .int (x_654)), (6, .int (x_655))] → W p l e ({ frames := 3, cells := 0, slots := 0, locals := 69 } : Room) s m ([.ref (q 43), .ref (q 3)] : List Value).toArray below meth c H locs 0 0 (MQ below (va_Qv (fun u => xInv F u) (zB D vwCl 81 q (zXd q cA) sz) (zA 81 q sz)) ([.ref (q 43), .ref (q 3)] : List Value).toArray s 0 0 (zA 81 q sz)) (F0 m 74 ls []) := by
                      intro N
                      induction N with
                      | zero => intro x_654 x_655 hx_655 hN; exact absurd hN (Nat.not_lt_zero _)
                      | succ N ih_658 =>
                        intro x_654 x_655 hx_655 hN_657 H locs hP hD hS ls hl
                        refine lv_iload hx hb dX3_weigh_74 (lv_at hl 6 rfl) ?_
                        refine lv_aload_n hx hb dX3_weigh_76 rfl (lv_at hl 1 rfl) ?_
                        refine z_get hx hb ht hown hK hP ziX2 rfl 3 (by decide) 4 (by decide) hw_1_83 rfl (v := .int (I 3 4)) rfl dX3_weigh_77 ?_
                        refine lv_icmp_ge (tgt := 106) hx hb dX3_weigh_80 (by decide) (fun c_659 => ?_) (fun c_659 => ?_)
                        · have t_c_659 := z_leT c_659
                          refine lv_aload_n hx hb dX3_weigh_106 rfl (lv_at hl 0 rfl) ?_
                          refine z_get hx hb ht hown hK hP ziX3 rfl 43 (by decide) 0 (by decide) hw_2_14 rfl (v := .ref (q 44)) rfl dX3_weigh_107 ?_
                          refine lv_iload_n hx hb dX3_weigh_110 rfl (lv_at hl 3 rfl) ?_
                          refine lv_bipush (v := nI 32) hx hb dX3_weigh_111 (by decide +kernel) ?_
                          refine lv_imul hx hb dX3_weigh_113 ?_
                          refine z_rng (a := 0) (b := 160) (zR_mul f_406 zk_32 (by decide)) (fun v_665 hv_665 => ?_)
                          refine lv_iload hx hb dX3_weigh_114 (lv_at hl 4 rfl) ?_
                          refine lv_iadd hx hb dX3_weigh_116 ?_
                          refine z_rng (a := 0) (b := 191) (zR_add hv_665 f_621 (by decide)) (fun v_666 hv_666 => ?_)
                          refine lv_iload hx hb dX3_weigh_117 (lv_at hl 5 rfl) ?_
                          refine z_iast hx hb hK hP hD hS 44 (by decide) 35 (fun _ => rfl) rfl (zR_vin hv_666 (by decide)) dX3_weigh_119 (fun H locs hP hD hS => ?_)
                          have hI_667 := xInv_R hI_574 44 (v_666).toNatClampNeg (x_654) (zR_any _) rfl
                          obtain ⟨v_668, ev_668⟩ : ∃ y : Int32, y = x_573 + nI 1 := ⟨_, rfl⟩
                          have hv_668 : zR 1 32 v_668 := ev_668 ▸ zR_add f_621 zk_1 (by decide)
                          have mv_668 : v_668.toInt = (x_573).toInt + 1 := by rw [ev_668, zR_addE f_621 zk_1 (by decide)]; rfl
                          refine lv_iinc (v := v_668) (lv' := [(4, .int (v_668)), (0, .ref (q 43)), (1, .ref (q 3)), (2, .int (v_2)), (3, .int (x_399)), (5, .int (x_654)), (6, .int (x_655))]) hx hb dX3_weigh_120 hl (k := 4) rfl (ev_668 ▸ rfl) (by decide) rfl (fun ls hl => ?_)
                          refine lv_goto (tgt := 49) hx hb dX3_weigh_123 (by decide) ?_
                          exact ih_577 (v_668) (zR_w hv_668 (by decide)) _ hI_667 (z2_up mv_668 (by decide) hN_576) _ _ hP hD hS _ (lv_sub hl [1, 2, 3, 4, 0] rfl)
                        · have t_c_659 := z_leF c_659
                          have f_669 : zR 0 4 (x_655) := zR_ltx t_c_659 hx_655 f_1 (by decide)
                          have f_670 : zR 1 5 (I 3 4) := zR_lty t_c_659 hx_655 f_1 (by decide)
                          refine lv_iload hx hb dX3_weigh_83 (lv_at hl 5 rfl) ?_
                          refine lv_aload_n hx hb dX3_weigh_85 rfl (lv_at hl 0 rfl) ?_
                          refine lv_aload_n hx hb dX3_weigh_86 rfl (lv_at hl 1 rfl) ?_
                          refine lv_iload_n hx hb dX3_weigh_87 rfl (lv_at hl 3 rfl) ?_
                          refine lv_iload hx hb dX3_weigh_88 (lv_at hl 4 rfl) ?_
                          refine lv_iload hx hb dX3_weigh_90 (lv_at hl 6 rfl) ?_
                          refine z_callVi (k := 43) (As := [.ref (q 3), .int (x_399), .int (x_573), .int (x_655)]) (rest := [.int (x_654)]) hx hb hml hown ht (xk_X3_with_3 l D q cA F _ _ _ hI_574 (x_399) f_406 (x_573) f_621 (x_655) f_669) hw_5_6 hmX3_with ⟨rfl, rfl⟩ (na := 4) rfl (by decide +kernel) (by decide) (by decide) rfl rfl hK hP hD hS hA hl.1 rfl (Nat.le_of_ble_eq_true rfl) ⟨Nat.zero_le _, Nat.zero_le _⟩ dX3_weigh_92 (fun r_671 I_671 R_671 J_671 H locs hp_671 hP hD hS _ _ => ?_)
                          cases hp_671
                          refine va_mmax hx hb (hml.trans hl.1.symm) hown (ht _ hw_5_11) (ht _ hw_5_12) (ht _ hw_1_19) (ht _ hw_5_13) (by decide) (Nat.le_of_ble_eq_true rfl) (Nat.zero_le _) (Nat.zero_le _) dX3_weigh_95 ?_
                          refine z_any (fun v_672 => ?_)
                          refine lv_istore (lv' := [(5, .int (v_672)), (0, .ref (q 43)), (1, .ref (q 3)), (2, .int (v_2)), (3, .int (x_399)), (4, .int (x_573)), (6, .int (x_655))]) hx hb dX3_weigh_98 hl (by decide) rfl (fun ls hl => ?_)
                          obtain ⟨v_673, ev_673⟩ : ∃ y : Int32, y = x_655 + nI 1 := ⟨_, rfl⟩
                          have hv_673 : zR 1 5 v_673 := ev_673 ▸ zR_add f_669 zk_1 (by decide)
                          have mv_673 : v_673.toInt = (x_655).toInt + 1 := by rw [ev_673, zR_addE f_669 zk_1 (by decide)]; rfl
                          refine lv_iinc (v := v_673) (lv' := [(6, .int (v_673)), (5, .int (v_672)), (0, .ref (q 43)), (1, .ref (q 3)), (2, .int (v_2)), (3, .int (x_399)), (4, .int (x_573))]) hx hb dX3_weigh_100 hl (k := 6) rfl (ev_673 ▸ rfl) (by decide) rfl (fun ls hl => ?_)
                          refine lv_goto (tgt := 74) hx hb dX3_weigh_103 (by decide) ?_
                          exact ih_658 (v_672) (v_673) (zR_w hv_673 (by decide)) (z2_up mv_673 (by decide) hN_657) _ _ hP hD hS _ (lv_sub hl [2, 3, 4, 5, 6, 1, 0] rfl)
                    exact loop_656 _ (R_574 44 (v_624).toNatClampNeg) (nI 0) (zR_w zk_0 (by decide)) (Nat.lt_succ_self _) _ _ hP hD hS _ (lv_sub hl [2, 3, 4, 5, 6, 1, 0] rfl)
              exact loop_575 _ (nI 0) (zR_w zk_0 (by decide)) _ hI_400 (Nat.lt_succ_self _) _ _ hP hD hS _ (lv_sub hl [1, 2, 3, 4, 0] rfl)
        exact loop_401 _ (v_52) hv_52 _ hI_38 (Nat.lt_succ_self _) _ _ hP hD hS _ (lv_sub hl [1, 2, 3, 0] rfl)
      · have t_c_42 := z_leF c_42
        have f_674 : zR 0 31 (x_37) := zR_ltx t_c_42 hx_37 hv_2 (by decide)
        refine lv_aload_n hx hb dX3_weigh_14 rfl (lv_at hl 0 rfl) ?_
        refine z_get hx hb ht hown hK hP ziX3 rfl 43 (by decide) 0 (by decide) hw_2_14 rfl (v := .ref (q 44)) rfl dX3_weigh_15 ?_
        refine lv_aload_n hx hb dX3_weigh_18 rfl (lv_at hl 1 rfl) ?_
        refine z_get hx hb ht hown hK hP ziX2 rfl 3 (by decide) 5 (by decide) hw_1_89 rfl (v := .int (I 3 5)) rfl dX3_weigh_19 ?_
        have f_675 : zR 0 6 (I 3 5) := xI hI 3 5
        refine lv_bipush (v := nI 32) hx hb dX3_weigh_22 (by decide +kernel) ?_
        refine lv_imul hx hb dX3_weigh_24 ?_
        refine z_rng (a := 0) (b := 192) (zR_mul f_675 zk_32 (by decide)) (fun v_676 hv_676 => ?_)
        refine lv_iload_n hx hb dX3_weigh_25 rfl (lv_at hl 3 rfl) ?_
        refine lv_iadd hx hb dX3_weigh_26 ?_
        refine z_rng (a := 0) (b := 223) (zR_add hv_676 f_674 (by decide)) (fun v_677 hv_677 => ?_)
        refine lv_iconst (v := nI 0) hx hb dX3_weigh_27 (by decide +kernel) ?_
        refine z_iast hx hb hK hP hD hS 44 (by decide) 35 (fun _ => rfl) rfl (zR_vin hv_677 (by decide)) dX3_weigh_28 (fun H locs hP hD hS => ?_)
        have hI_678 := xInv_R hI_38 44 (v_677).toNatClampNeg (nI 0) (zR_any _) rfl
        obtain ⟨v_679, ev_679⟩ : ∃ y : Int32, y = x_37 + nI 1 := ⟨_, rfl⟩
        have hv_679 : zR 1 32 v_679 := ev_679 ▸ zR_add f_674 zk_1 (by decide)
        have mv_679 : v_679.toInt = (x_37).toInt + 1 := by rw [ev_679, zR_addE f_674 zk_1 (by decide)]; rfl
        refine lv_iinc (v := v_679) (lv' := [(3, .int (v_679)), (0, .ref (q 43)), (1, .ref (q 3)), (2, .int (v_2))]) hx hb dX3_weigh_29 hl (k := 3) rfl (ev_679 ▸ rfl) (by decide) rfl (fun ls hl => ?_)
        refine lv_goto (tgt := 9) hx hb dX3_weigh_32 (by decide) ?_
        exact ih_41 (v_679) (zR_w hv_679 (by decide)) _ hI_678 (z2_up mv_679 (by decide) hN_40) _ _ hP hD hS _ (lv_sub hl [1, 2, 3, 0] rfl)
  exact loop_39 _ (nI 0) (zR_w zk_0 (by decide)) _ hI (Nat.lt_succ_self _) _ _ hP hD hS _ (lv_sub hl [2, 3, 1, 0] rfl)
set_option maxHeartbeats 4000000 in
set_option maxRecDepth 100000 in
theorem xk_X3_greatest (l : Launch) (D : va_G) (q : Nat → Nat) (cA : Nat → ClassId) (F : Nat → Nat → Int32) (I R : Nat → Nat → Int32) (J : Nat → Nat → Int64) (hI : xInv F (I, R, J))  : zMi l D vwCl (zXtys cA) 81 q (zXd q cA) yX3_greatest cX3_greatest 2 (some .int) ({ frames := 4, cells := 0, slots := 0, locals := 95 } : Room) [.ref (q 43), .ref (q 3)] (I, R, J) (fun _ u => xInv F u) := by
  intro sz
  refine z_body (by decide +kernel) (Nat.le_of_ble_eq_true rfl) (fun p e s m below meth c ls hx hb hml hr ht hown hlocks hsz hK hP hD hS hl => ?_)
  have hA : ∀ a, s.heap.size ≤ a → zA 81 q sz a := fun a h => Or.inr (hsz ▸ h)
  have hl : lv_has ls 2 [(0, .ref (q 43)), (1, .ref (q 3))] := hl
  refine lv_aload_n hx hb dX3_greatest_0 rfl (lv_at hl 0 rfl) ?_
  refine lv_aload_n hx hb dX3_greatest_1 rfl (lv_at hl 1 rfl) ?_
  refine z_callVv (k := 43) (As := [.ref (q 3)]) (rest := []) hx hb hml hown ht (xk_X3_weigh l D q cA F _ _ _ hI ) hw_5_2 hmX3_weigh ⟨rfl, rfl⟩ (na := 1) rfl (by decide +kernel) (by decide) (by decide) rfl rfl hK hP hD hS hA hl.1 rfl (Nat.le_of_ble_eq_true rfl) ⟨Nat.zero_le _, Nat.zero_le _⟩ dX3_greatest_2 (fun I_1 R_1 J_1 H locs hp_1 hP hD hS _ _ => ?_)
  refine lv_aload_n hx hb dX3_greatest_5 rfl (lv_at hl 0 rfl) ?_
  refine z_get hx hb ht hown hK hP ziX3 rfl 43 (by decide) 0 (by decide) hw_2_14 rfl (v := .ref (q 44)) rfl dX3_greatest_6 ?_
  refine lv_iconst (v := nI 0) hx hb dX3_greatest_9 (by decide +kernel) ?_
  refine z_iald hx hb hK hP 44 (by decide) 35 rfl rfl (zR_vin zk_0 (by decide)) dX3_greatest_10 ?_
  refine z_eqi (y := R_1 44 (nI 0).toNatClampNeg) rfl ?_
  exact z_iret (v := R_1 44 (nI 0).toNatClampNeg) hx hb hr hlocks hP hD hS dX3_greatest_11 hp_1
set_option maxHeartbeats 4000000 in
set_option maxRecDepth 100000 in
theorem xk_X10_deal (l : Launch) (D : va_G) (q : Nat → Nat) (cA : Nat → ClassId) (F : Nat → Nat → Int32) (I R : Nat → Nat → Int32) (J : Nat → Nat → Int64) (hI : xInv F (I, R, J))  : zMi l D vwCl (zXtys cA) 81 q (zXd q cA) yX10_deal cX10_deal 1 (some .int) ({ frames := 5, cells := 0, slots := 0, locals := 116 } : Room) [.ref (q 0)] (I, R, J) (fun _ u => xInv F u) := by
  intro sz
  refine z_body (by decide +kernel) (Nat.le_of_ble_eq_true rfl) (fun p e s m below meth c ls hx hb hml hr ht hown hlocks hsz hK hP hD hS hl => ?_)
  have hA : ∀ a, s.heap.size ≤ a → zA 81 q sz a := fun a h => Or.inr (hsz ▸ h)
  have hl : lv_has ls 1 [(0, .ref (q 0))] := hl
  refine lv_aload_n hx hb dX10_deal_0 rfl (lv_at hl 0 rfl) ?_
  refine z_callVi (k := 0) (As := []) (rest := []) hx hb hml hown ht (xk_X10_hasCity l D q cA F _ _ _ hI ) hw_4_0 hmX10_hasCity ⟨rfl, rfl⟩ (na := 0) rfl (by decide +kernel) (by decide) (by decide) rfl rfl hK hP hD hS hA hl.1 rfl (Nat.le_of_ble_eq_true rfl) ⟨Nat.zero_le _, Nat.zero_le _⟩ dX10_deal_1 (fun r_1 I_1 R_1 J_1 H locs hp_1 hP hD hS _ _ => ?_)
  rcases hp_1 with ⟨rfl, hu_1⟩ | ⟨rfl, hu_1⟩
  · cases hu_1
    refine lv_if_eq (tgt := 21) hx hb dX10_deal_4 (by decide) (fun c_0 => absurd c_0 (zD_ne zk_1 zk_z (by decide))) (fun _ => ?_)
    refine lv_aload_n hx hb dX10_deal_7 rfl (lv_at hl 0 rfl) ?_
    refine z_get hx hb ht hown hK hP ziX10 rfl 0 (by decide) 7 (by decide) hw_2_100 rfl (v := .ref (q 43)) rfl dX10_deal_8 ?_
    refine lv_aload_n hx hb dX10_deal_11 rfl (lv_at hl 0 rfl) ?_
    refine z_get hx hb ht hown hK hP ziX10 rfl 0 (by decide) 1 (by decide) hw_2_94 rfl (v := .ref (q 3)) rfl dX10_deal_12 ?_
    refine z_callVi (k := 43) (As := [.ref (q 3)]) (rest := []) hx hb hml hown ht (xk_X3_greatest l D q cA F _ _ _ hI ) hw_4_238 hmX3_greatest ⟨rfl, rfl⟩ (na := 1) rfl (by decide +kernel) (by decide) (by decide) rfl rfl hK hP hD hS hA hl.1 rfl (Nat.le_of_ble_eq_true rfl) ⟨Nat.zero_le _, Nat.zero_le _⟩ dX10_deal_15 (fun r_2 I_2 R_2 J_2 H locs hp_2 hP hD hS _ _ => ?_)
    refine lv_goto (tgt := 23) hx hb dX10_deal_18 (by decide) ?_
    exact z_iret (v := r_2) hx hb hr hlocks hP hD hS dX10_deal_23 hp_2
  · cases hu_1
    refine lv_if_eq (tgt := 21) hx hb dX10_deal_4 (by decide) (fun _ => ?_) (fun c_0 => absurd (zD_eq zk_0 zk_z) c_0)
    refine lv_bipush (v := (-2)) hx hb dX10_deal_21 (by decide +kernel) ?_
    exact z_iret (v := (-2)) hx hb hr hlocks hP hD hS dX10_deal_23 hI
set_option maxHeartbeats 4000000 in
set_option maxRecDepth 100000 in
theorem xk_X3_firstFor_2 (l : Launch) (D : va_G) (q : Nat → Nat) (cA : Nat → ClassId) (F : Nat → Nat → Int32) (I R : Nat → Nat → Int32) (J : Nat → Nat → Int64) (hI : xInv F (I, R, J)) (pa1 : Int32) (hpa1 : zR 0 5 pa1) (pa2 : Int32) (hpa2 : zR 0 31 pa2) : zMi l D vwCl (zXtys cA) 81 q (zXd q cA) yX3_firstFor cX3_firstFor 5 (some .int) ({ frames := 3, cells := 0, slots := 0, locals := 69 } : Room) [.ref (q 43), .ref (q 3), .int (pa1), .int (pa2)] (I, R, J) (fun r u => zR (-1) 4 r ∧ u = (I, R, J)) := by
  intro sz
  refine z_body (by decide +kernel) (Nat.le_of_ble_eq_true rfl) (fun p e s m below meth c ls hx hb hml hr ht hown hlocks hsz hK hP hD hS hl => ?_)
  have hA : ∀ a, s.heap.size ≤ a → zA 81 q sz a := fun a h => Or.inr (hsz ▸ h)
  have hl : lv_has ls 5 [(0, .ref (q 43)), (1, .ref (q 3)), (2, .int (pa1)), (3, .int (pa2))] := hl
  refine lv_iconst (v := nI 0) hx hb dX3_firstFor_0 (by decide +kernel) ?_
  refine lv_istore (lv' := [(4, .int (nI 0)), (0, .ref (q 43)), (1, .ref (q 3)), (2, .int (pa1)), (3, .int (pa2))]) hx hb dX3_firstFor_1 hl (by decide) rfl (fun ls hl => ?_)
  have loop_40 : ∀ N : Nat, ∀ x_39 : Int32, zR 0 5 x_39 → (2147483648 - (x_39).toInt).toNat < N → ∀ (H : Heap) (locs : List Loc), va_P D vwCl (zw 81 q (zXd q cA) I R J) H → va_D (zA 81 q sz) (zw 81 q (zXd q cA) I R J) → va_S (zA 81 q sz) s.heap H locs → ∀ ls : Array Slot, lv_has ls 5 [(0, .ref (q 43)), (1, .ref (q 3)), (2, .int (pa1)), (3, .int (pa2)), (4, .int (x_39))] → W p l e ({ frames := 3, cells := 0, slots := 0, locals := 69 } : Room) s m ([.ref (q 43), .ref (q 3), .int (pa1), .int (pa2)] : List Value).toArray below meth c H locs 0 0 (MQ below (va_Qi (fun r u => zR (-1) 4 r ∧ u = (I, R, J)) (zB D vwCl 81 q (zXd q cA) sz) (zA 81 q sz)) ([.ref (q 43), .ref (q 3), .int (pa1), .int (pa2)] : List Value).toArray s 0 0 (zA 81 q sz)) (F0 m 3 ls []) := by
    intro N
    induction N with
    | zero => intro x_39 hx_39 hN; exact absurd hN (Nat.not_lt_zero _)
    | succ N ih_42 =>
      intro x_39 hx_39 hN_41 H locs hP hD hS ls hl
      refine lv_iload hx hb dX3_firstFor_3 (lv_at hl 4 rfl) ?_
      refine lv_aload_n hx hb dX3_firstFor_5 rfl (lv_at hl 1 rfl) ?_
      refine z_get hx hb ht hown hK hP ziX2 rfl 3 (by decide) 4 (by decide) hw_1_83 rfl (v := .int (I 3 4)) rfl dX3_firstFor_6 ?_
      have f_43 : zR 0 5 (I 3 4) := xI hI 3 4
      refine lv_icmp_ge (tgt := 44) hx hb dX3_firstFor_9 (by decide) (fun c_44 => ?_) (fun c_44 => ?_)
      · have t_c_44 := z_leT c_44
        refine lv_iconst (v := (-1)) hx hb dX3_firstFor_44 (by decide +kernel) ?_
        exact z_iret (v := (-1)) hx hb hr hlocks hP hD hS dX3_firstFor_45 ⟨(zR_w zk_m1 (by decide)), rfl⟩
      · have t_c_44 := z_leF c_44
        have f_45 : zR 0 4 (x_39) := zR_ltx t_c_44 hx_39 f_43 (by decide)
        have f_46 : zR 1 5 (I 3 4) := zR_lty t_c_44 hx_39 f_43 (by decide)
        refine lv_aload_n hx hb dX3_firstFor_12 rfl (lv_at hl 0 rfl) ?_
        refine lv_aload_n hx hb dX3_firstFor_13 rfl (lv_at hl 1 rfl) ?_
        refine lv_iload_n hx hb dX3_firstFor_14 rfl (lv_at hl 2 rfl) ?_
        refine lv_iload_n hx hb dX3_firstFor_15 rfl (lv_at hl 3 rfl) ?_
        refine lv_iload hx hb dX3_firstFor_16 (lv_at hl 4 rfl) ?_
        refine z_callVi (k := 43) (As := [.ref (q 3), .int (pa1), .int (pa2), .int (x_39)]) (rest := []) hx hb hml hown ht (xk_X3_with_3 l D q cA F _ _ _ hI (pa1) hpa1 (pa2) hpa2 (x_39) f_45) hw_5_6 hmX3_with ⟨rfl, rfl⟩ (na := 4) rfl (by decide +kernel) (by decide) (by decide) rfl rfl hK hP hD hS hA hl.1 rfl (Nat.le_of_ble_eq_true rfl) ⟨Nat.zero_le _, Nat.zero_le _⟩ dX3_firstFor_18 (fun r_47 I_47 R_47 J_47 H locs hp_47 hP hD hS _ _ => ?_)
        cases hp_47
        refine lv_aload_n hx hb dX3_firstFor_21 rfl (lv_at hl 0 rfl) ?_
        refine z_get hx hb ht hown hK hP ziX3 rfl 43 (by decide) 0 (by decide) hw_2_14 rfl (v := .ref (q 44)) rfl dX3_firstFor_22 ?_
        refine lv_iload_n hx hb dX3_firstFor_25 rfl (lv_at hl 2 rfl) ?_
        refine lv_bipush (v := nI 32) hx hb dX3_firstFor_26 (by decide +kernel) ?_
        refine lv_imul hx hb dX3_firstFor_28 ?_
        refine z_rng (a := 0) (b := 160) (zR_mul hpa1 zk_32 (by decide)) (fun v_48 hv_48 => ?_)
        refine lv_iload_n hx hb dX3_firstFor_29 rfl (lv_at hl 3 rfl) ?_
        refine lv_iadd hx hb dX3_firstFor_30 ?_
        refine z_rng (a := 0) (b := 191) (zR_add hv_48 hpa2 (by decide)) (fun v_49 hv_49 => ?_)
        refine z_iald hx hb hK hP 44 (by decide) 35 rfl rfl (zR_vin hv_49 (by decide)) dX3_firstFor_31 ?_
        refine z_eqi (y := R 44 (v_49).toNatClampNeg) rfl ?_
        refine lv_icmp_ne (tgt := 38) hx hb dX3_firstFor_32 (by decide) (fun c_50 => ?_) (fun c_50 => ?_)
        · have t_c_50 := z_eqF c_50
          obtain ⟨v_51, ev_51⟩ : ∃ y : Int32, y = x_39 + nI 1 := ⟨_, rfl⟩
          have hv_51 : zR 1 5 v_51 := ev_51 ▸ zR_add f_45 zk_1 (by decide)
          have mv_51 : v_51.toInt = (x_39).toInt + 1 := by rw [ev_51, zR_addE f_45 zk_1 (by decide)]; rfl
          refine lv_iinc (v := v_51) (lv' := [(4, .int (v_51)), (0, .ref (q 43)), (1, .ref (q 3)), (2, .int (pa1)), (3, .int (pa2))]) hx hb dX3_firstFor_38 hl (k := 4) rfl (ev_51 ▸ rfl) (by decide) rfl (fun ls hl => ?_)
          refine lv_goto (tgt := 3) hx hb dX3_firstFor_41 (by decide) ?_
          exact ih_42 (v_51) (zR_w hv_51 (by decide)) (z2_up mv_51 (by decide) hN_41) _ _ hP hD hS _ (lv_sub hl [1, 2, 3, 4, 0] rfl)
        · have t_c_50 := z_eqT c_50
          refine lv_iload hx hb dX3_firstFor_35 (lv_at hl 4 rfl) ?_
          exact z_iret (v := x_39) hx hb hr hlocks hP hD hS dX3_firstFor_37 ⟨(zR_w f_45 (by decide)), rfl⟩
  exact loop_40 _ (nI 0) (zR_w zk_0 (by decide)) (Nat.lt_succ_self _) _ _ hP hD hS _ (lv_sub hl [1, 2, 3, 4, 0] rfl)
set_option maxHeartbeats 4000000 in
set_option maxRecDepth 100000 in
theorem xk_X3_houseOf (l : Launch) (D : va_G) (q : Nat → Nat) (cA : Nat → ClassId) (F : Nat → Nat → Int32) (I R : Nat → Nat → Int32) (J : Nat → Nat → Int64) (hI : xInv F (I, R, J)) (pa1 : Int32) (hpa1 : zR 0 5 pa1) : zMi l D vwCl (zXtys cA) 81 q (zXd q cA) yX3_houseOf cX3_houseOf 6 (some .int) ({ frames := 4, cells := 0, slots := 0, locals := 95 } : Room) [.ref (q 43), .ref (q 3), .int (pa1)] (I, R, J) (fun r u => zR (-1) 4 r ∧ xInv F u) := by
  intro sz
  refine z_body (by decide +kernel) (Nat.le_of_ble_eq_true rfl) (fun p e s m below meth c ls hx hb hml hr ht hown hlocks hsz hK hP hD hS hl => ?_)
  have hA : ∀ a, s.heap.size ≤ a → zA 81 q sz a := fun a h => Or.inr (hsz ▸ h)
  have hl : lv_has ls 6 [(0, .ref (q 43)), (1, .ref (q 3)), (2, .int (pa1))] := hl
  refine lv_aload_n hx hb dX3_houseOf_0 rfl (lv_at hl 0 rfl) ?_
  refine lv_aload_n hx hb dX3_houseOf_1 rfl (lv_at hl 1 rfl) ?_
  refine z_callVv (k := 43) (As := [.ref (q 3)]) (rest := []) hx hb hml hown ht (xk_X3_weigh l D q cA F _ _ _ hI ) hw_5_2 hmX3_weigh ⟨rfl, rfl⟩ (na := 1) rfl (by decide +kernel) (by decide) (by decide) rfl rfl hK hP hD hS hA hl.1 rfl (Nat.le_of_ble_eq_true rfl) ⟨Nat.zero_le _, Nat.zero_le _⟩ dX3_houseOf_2 (fun I_1 R_1 J_1 H locs hp_1 hP hD hS _ _ => ?_)
  refine lv_iconst (v := nI 0) hx hb dX3_houseOf_5 (by decide +kernel) ?_
  refine lv_istore_n (lv' := [(3, .int (nI 0)), (0, .ref (q 43)), (1, .ref (q 3)), (2, .int (pa1))]) hx hb dX3_houseOf_6 rfl hl (by decide) rfl (fun ls hl => ?_)
  refine lv_iconst (v := (-1)) hx hb dX3_houseOf_7 (by decide +kernel) ?_
  refine lv_istore (lv' := [(4, .int ((-1))), (3, .int (nI 0)), (0, .ref (q 43)), (1, .ref (q 3)), (2, .int (pa1))]) hx hb dX3_houseOf_8 hl (by decide) rfl (fun ls hl => ?_)
  refine lv_iconst (v := nI 0) hx hb dX3_houseOf_10 (by decide +kernel) ?_
  refine lv_istore (lv' := [(5, .int (nI 0)), (4, .int ((-1))), (3, .int (nI 0)), (0, .ref (q 43)), (1, .ref (q 3)), (2, .int (pa1))]) hx hb dX3_houseOf_11 hl (by decide) rfl (fun ls hl => ?_)
  have loop_54 : ∀ N : Nat, ∀ x_51 : Int32, zR 0 31 x_51 → ∀ x_52 : Int32, zR (-1) 4 x_52 → ∀ x_53 : Int32, zR 0 6 x_53 → (2147483648 - (x_53).toInt).toNat < N → ∀ (H : Heap) (locs : List Loc), va_P D vwCl (zw 81 q (zXd q cA) I_1 R_1 J_1) H → va_D (zA 81 q sz) (zw 81 q (zXd q cA) I_1 R_1 J_1) → va_S (zA 81 q sz) s.heap H locs → ∀ ls : Array Slot, lv_has ls 6 [(0, .ref (q 43)), (1, .ref (q 3)), (2, .int (pa1)), (3, .int (x_51)), (4, .int (x_52)), (5, .int (x_53))] → W p l e ({ frames := 4, cells := 0, slots := 0, locals := 95 } : Room) s m ([.ref (q 43), .ref (q 3), .int (pa1)] : List Value).toArray below meth c H locs 0 0 (MQ below (va_Qi (fun r u => zR (-1) 4 r ∧ xInv F u) (zB D vwCl 81 q (zXd q cA) sz) (zA 81 q sz)) ([.ref (q 43), .ref (q 3), .int (pa1)] : List Value).toArray s 0 0 (zA 81 q sz)) (F0 m 13 ls []) := by
    intro N
    induction N with
    | zero => intro x_51 hx_51 x_52 hx_52 x_53 hx_53 hN; exact absurd hN (Nat.not_lt_zero _)
    | succ N ih_56 =>
      intro x_51 hx_51 x_52 hx_52 x_53 hx_53 hN_55 H locs hP hD hS ls hl
      refine lv_iload hx hb dX3_houseOf_13 (lv_at hl 5 rfl) ?_
      refine lv_iload_n hx hb dX3_houseOf_15 rfl (lv_at hl 2 rfl) ?_
      refine lv_icmp_gt (tgt := 52) hx hb dX3_houseOf_16 (by decide) (fun c_57 => ?_) (fun c_57 => ?_)
      · have t_c_57 := z_ltT c_57
        have f_58 : zR 1 6 (x_53) := zR_lty t_c_57 hpa1 hx_53 (by decide)
        refine lv_iload hx hb dX3_houseOf_52 (lv_at hl 4 rfl) ?_
        exact z_iret (v := x_52) hx hb hr hlocks hP hD hS dX3_houseOf_54 ⟨hx_52, hp_1⟩
      · have t_c_57 := z_ltF c_57
        have f_59 : zR 0 5 (x_53) := zR_lex t_c_57 hx_53 hpa1 (by decide)
        refine lv_aload_n hx hb dX3_houseOf_19 rfl (lv_at hl 0 rfl) ?_
        refine lv_aload_n hx hb dX3_houseOf_20 rfl (lv_at hl 1 rfl) ?_
        refine lv_iload hx hb dX3_houseOf_21 (lv_at hl 5 rfl) ?_
        refine lv_iload_n hx hb dX3_houseOf_23 rfl (lv_at hl 3 rfl) ?_
        refine z_callVi (k := 43) (As := [.ref (q 3), .int (x_53), .int (x_51)]) (rest := []) hx hb hml hown ht (xk_X3_firstFor_2 l D q cA F _ _ _ hp_1 (x_53) f_59 (x_51) hx_51) hw_5_22 hmX3_firstFor ⟨rfl, rfl⟩ (na := 3) rfl (by decide +kernel) (by decide) (by decide) rfl rfl hK hP hD hS hA hl.1 rfl (Nat.le_of_ble_eq_true rfl) ⟨Nat.zero_le _, Nat.zero_le _⟩ dX3_houseOf_24 (fun r_60 I_60 R_60 J_60 H locs hp_60 hP hD hS _ _ => ?_)
        obtain ⟨hr_60, hu_60⟩ := hp_60
        cases hu_60
        refine lv_istore (lv' := [(4, .int (r_60)), (0, .ref (q 43)), (1, .ref (q 3)), (2, .int (pa1)), (3, .int (x_51)), (5, .int (x_53))]) hx hb dX3_houseOf_27 hl (by decide) rfl (fun ls hl => ?_)
        refine lv_iload_n hx hb dX3_houseOf_29 rfl (lv_at hl 4 rfl) ?_
        refine lv_iload hx hb dX3_houseOf_30 (lv_at hl 0 rfl) ?_
        refine lv_iconst (v := (-1)) hx hb dX3_houseOf_32 (by decide +kernel) ?_
        have t_66 : ∀ x_65 : Int32, zR 0 16 x_65 → ∀ (H : Heap) (locs : List Loc), va_P D vwCl (zw 81 q (zXd q cA) I_1 R_1 J_1) H → va_D (zA 81 q sz) (zw 81 q (zXd q cA) I_1 R_1 J_1) → va_S (zA 81 q sz) s.heap H locs → ∀ ls : Array Slot, lv_has ls 6 [(0, .ref (q 43)), (1, .ref (q 3)), (2, .int (pa1)), (3, .int (x_51)), (4, .int (r_60)), (5, .int (x_53))] → W p l e ({ frames := 4, cells := 0, slots := 0, locals := 95 } : Room) s m ([.ref (q 43), .ref (q 3), .int (pa1)] : List Value).toArray below meth c H locs 0 0 (MQ below (va_Qi (fun r u => zR (-1) 4 r ∧ xInv F u) (zB D vwCl 81 q (zXd q cA) sz) (zA 81 q sz)) ([.ref (q 43), .ref (q 3), .int (pa1)] : List Value).toArray s 0 0 (zA 81 q sz)) (F0 m 44 ls [.int (x_65), .int (x_51)]) := by
          intro x_65 hx_65 H locs hP hD hS ls hl
          refine lv_ior hx hb dX3_houseOf_44 ?_
          refine z_rng (a := 0) (b := 31) (zR_or 5 hx_51 hx_65 (by decide)) (fun v_67 hv_67 => ?_)
          refine lv_istore_n (lv' := [(3, .int (v_67)), (0, .ref (q 43)), (1, .ref (q 3)), (2, .int (pa1)), (4, .int (r_60)), (5, .int (x_53))]) hx hb dX3_houseOf_45 rfl hl (by decide) rfl (fun ls hl => ?_)
          obtain ⟨v_68, ev_68⟩ : ∃ y : Int32, y = x_53 + nI 1 := ⟨_, rfl⟩
          have hv_68 : zR 1 6 v_68 := ev_68 ▸ zR_add f_59 zk_1 (by decide)
          have mv_68 : v_68.toInt = (x_53).toInt + 1 := by rw [ev_68, zR_addE f_59 zk_1 (by decide)]; rfl
          refine lv_iinc (v := v_68) (lv' := [(5, .int (v_68)), (3, .int (v_67)), (0, .ref (q 43)), (1, .ref (q 3)), (2, .int (pa1)), (4, .int (r_60))]) hx hb dX3_houseOf_46 hl (k := 5) rfl (ev_68 ▸ rfl) (by decide) rfl (fun ls hl => ?_)
          refine lv_goto (tgt := 13) hx hb dX3_houseOf_49 (by decide) ?_
          exact ih_56 (v_67) hv_67 (r_60) hr_60 (v_68) (zR_w hv_68 (by decide)) (z2_up mv_68 (by decide) hN_55) _ _ hP hD hS _ (lv_sub hl [2, 3, 4, 1, 5, 0] rfl)
        refine lv_icmp_ne (tgt := 40) hx hb dX3_houseOf_33 (by decide) (fun c_61 => ?_) (fun c_61 => ?_)
        · have t_c_61 := z_eqF c_61
          have f_69 : zR 0 4 (r_60) := zR_nex t_c_61 hr_60 zk_m1 (by decide)
          refine lv_iconst (v := nI 1) hx hb dX3_houseOf_40 (by decide +kernel) ?_
          refine lv_iload hx hb dX3_houseOf_41 (lv_at hl 0 rfl) ?_
          refine lv_ishl hx hb dX3_houseOf_43 ?_
          refine z_rng (a := 1) (b := 16) (zR_shl1 4 f_69 (by decide)) (fun v_70 hv_70 => ?_)
          exact t_66 (v_70) (zR_w hv_70 (by decide)) _ _ hP hD hS _ (lv_sub hl [1, 2, 3, 4, 0, 5] rfl)
        · have t_c_61 := z_eqT c_61
          have f_71 : zR (-1) (-1) (r_60) := zR_eqx t_c_61 zk_m1
          refine lv_iconst (v := nI 0) hx hb dX3_houseOf_36 (by decide +kernel) ?_
          refine lv_goto (tgt := 44) hx hb dX3_houseOf_37 (by decide) ?_
          exact t_66 (nI 0) (zR_w zk_0 (by decide)) _ _ hP hD hS _ (lv_sub hl [1, 2, 3, 4, 0, 5] rfl)
  exact loop_54 _ (nI 0) (zR_w zk_0 (by decide)) ((-1)) (zR_w zk_m1 (by decide)) (nI 0) (zR_w zk_0 (by decide)) (Nat.lt_succ_self _) _ _ hP hD hS _ (lv_sub hl [3, 4, 5, 2, 1, 0] rfl)
set_option maxHeartbeats 4000000 in
set_option maxRecDepth 100000 in
theorem xk_X10_deals (l : Launch) (D : va_G) (q : Nat → Nat) (cA : Nat → ClassId) (F : Nat → Nat → Int32) (I R : Nat → Nat → Int32) (J : Nat → Nat → Int64) (hI : xInv F (I, R, J)) (pa0 : Int32) : zMi l D vwCl (zXtys cA) 81 q (zXd q cA) yX10_deals cX10_deals 2 (some .int) ({ frames := 5, cells := 0, slots := 0, locals := 120 } : Room) [.ref (q 0), .int (pa0)] (I, R, J) (fun r u => zR (-2) 4 r ∧ xInv F u) := by
  intro sz
  refine z_body (by decide +kernel) (Nat.le_of_ble_eq_true rfl) (fun p e s m below meth c ls hx hb hml hr ht hown hlocks hsz hK hP hD hS hl => ?_)
  have hA : ∀ a, s.heap.size ≤ a → zA 81 q sz a := fun a h => Or.inr (hsz ▸ h)
  have hl : lv_has ls 2 [(0, .ref (q 0)), (1, .int (pa0))] := hl
  refine lv_aload_n hx hb dX10_deals_0 rfl (lv_at hl 0 rfl) ?_
  refine lv_iload_n hx hb dX10_deals_1 rfl (lv_at hl 1 rfl) ?_
  refine z_callVi (k := 0) (As := [.int (pa0)]) (rest := []) hx hb hml hown ht (xk_X10_isThing l D q cA F _ _ _ hI (pa0)) hw_3_87 hmX10_isThing ⟨rfl, rfl⟩ (na := 1) rfl (by decide +kernel) (by decide) (by decide) rfl rfl hK hP hD hS hA hl.1 rfl (Nat.le_of_ble_eq_true rfl) ⟨Nat.zero_le _, Nat.zero_le _⟩ dX10_deals_2 (fun r_1 I_1 R_1 J_1 H locs hp_1 hP hD hS _ _ => ?_)
  rcases hp_1 with ⟨rfl, hu_1, f0_1⟩ | ⟨rfl, hu_1⟩
  · cases hu_1
    refine lv_if_eq (tgt := 23) hx hb dX10_deals_5 (by decide) (fun c_0 => absurd c_0 (zD_ne zk_1 zk_z (by decide))) (fun _ => ?_)
    refine lv_aload_n hx hb dX10_deals_8 rfl (lv_at hl 0 rfl) ?_
    refine z_get hx hb ht hown hK hP ziX10 rfl 0 (by decide) 7 (by decide) hw_2_100 rfl (v := .ref (q 43)) rfl dX10_deals_9 ?_
    refine lv_aload_n hx hb dX10_deals_12 rfl (lv_at hl 0 rfl) ?_
    refine z_get hx hb ht hown hK hP ziX10 rfl 0 (by decide) 1 (by decide) hw_2_94 rfl (v := .ref (q 3)) rfl dX10_deals_13 ?_
    refine lv_iload_n hx hb dX10_deals_16 rfl (lv_at hl 1 rfl) ?_
    refine z_callVi (k := 43) (As := [.ref (q 3), .int (pa0)]) (rest := []) hx hb hml hown ht (xk_X3_houseOf l D q cA F _ _ _ hI (pa0) f0_1) hw_5_18 hmX3_houseOf ⟨rfl, rfl⟩ (na := 2) rfl (by decide +kernel) (by decide) (by decide) rfl rfl hK hP hD hS hA hl.1 rfl (Nat.le_of_ble_eq_true rfl) ⟨Nat.zero_le _, Nat.zero_le _⟩ dX10_deals_17 (fun r_2 I_2 R_2 J_2 H locs hp_2 hP hD hS _ _ => ?_)
    obtain ⟨hr_2, hu_2⟩ := hp_2
    refine lv_goto (tgt := 25) hx hb dX10_deals_20 (by decide) ?_
    exact z_iret (v := r_2) hx hb hr hlocks hP hD hS dX10_deals_25 ⟨(zR_w hr_2 (by decide)), hu_2⟩
  · cases hu_1
    refine lv_if_eq (tgt := 23) hx hb dX10_deals_5 (by decide) (fun _ => ?_) (fun c_0 => absurd (zD_eq zk_0 zk_z) c_0)
    refine lv_bipush (v := (-2)) hx hb dX10_deals_23 (by decide +kernel) ?_
    exact z_iret (v := (-2)) hx hb hr hlocks hP hD hS dX10_deals_25 ⟨(zR_w zk_m2 (by decide)), hI⟩
set_option maxHeartbeats 4000000 in
set_option maxRecDepth 100000 in
theorem xk_X10_isCost (l : Launch) (D : va_G) (q : Nat → Nat) (cA : Nat → ClassId) (F : Nat → Nat → Int32) (I R : Nat → Nat → Int32) (J : Nat → Nat → Int64) (hI : xInv F (I, R, J)) (pa0 : Int32) : zMi l D vwCl (zXtys cA) 81 q (zXd q cA) yX10_isCost cX10_isCost 1 (some .boolean) ({ frames := 0, cells := 0, slots := 0, locals := 0 } : Room) [.int (pa0)] (I, R, J) (fun r u => (r = nI 1 ∧ u = (I, R, J) ∧ zR 0 999 pa0) ∨ (r = nI 0 ∧ u = (I, R, J) ∧ (pa0.toInt < 0 ∨ 999 < pa0.toInt))) := by
  intro sz
  refine z_body (by decide +kernel) (Nat.le_of_ble_eq_true rfl) (fun p e s m below meth c ls hx hb hml hr ht hown hlocks hsz hK hP hD hS hl => ?_)
  have hA : ∀ a, s.heap.size ≤ a → zA 81 q sz a := fun a h => Or.inr (hsz ▸ h)
  have hl : lv_has ls 1 [(0, .int (pa0))] := hl
  refine lv_iload_n hx hb dX10_isCost_0 rfl (lv_at hl 0 rfl) ?_
  refine lv_if_lt (tgt := 15) hx hb dX10_isCost_1 (by decide) (fun c_1 => ?_) (fun c_1 => ?_)
  · have t_c_1 := z_ltT c_1
    have f_2 : zR (-2147483648) (-1) (pa0) := zR_ltx t_c_1 (zR_any (pa0)) zk_z (by decide)
    refine lv_iconst (v := nI 0) hx hb dX10_isCost_15 (by decide +kernel) ?_
    exact z_zret (v := nI 0) hx hb hr hlocks hP hD hS (by decide +kernel) dX10_isCost_16 (Or.inr ⟨rfl, rfl, (Or.inl (Int.lt_of_le_of_lt f_2.2 (by decide)))⟩)
  · have t_c_1 := z_ltF c_1
    have f_3 : zR 0 2147483647 (pa0) := zR_ley t_c_1 zk_z (zR_any (pa0)) (by decide)
    refine lv_iload_n hx hb dX10_isCost_4 rfl (lv_at hl 0 rfl) ?_
    refine lv_sipush (v := nI 999) hx hb dX10_isCost_5 (by decide +kernel) ?_
    refine lv_icmp_gt (tgt := 15) hx hb dX10_isCost_8 (by decide) (fun c_4 => ?_) (fun c_4 => ?_)
    · have t_c_4 := z_ltT c_4
      have f_5 : zR 1000 2147483647 (pa0) := zR_lty t_c_4 zk_999 f_3 (by decide)
      refine lv_iconst (v := nI 0) hx hb dX10_isCost_15 (by decide +kernel) ?_
      exact z_zret (v := nI 0) hx hb hr hlocks hP hD hS (by decide +kernel) dX10_isCost_16 (Or.inr ⟨rfl, rfl, (Or.inr (Int.lt_of_lt_of_le (by decide) f_5.1))⟩)
    · have t_c_4 := z_ltF c_4
      have f_6 : zR 0 999 (pa0) := zR_lex t_c_4 f_3 zk_999 (by decide)
      refine lv_iconst (v := nI 1) hx hb dX10_isCost_11 (by decide +kernel) ?_
      refine lv_goto (tgt := 16) hx hb dX10_isCost_12 (by decide) ?_
      exact z_zret (v := nI 1) hx hb hr hlocks hP hD hS (by decide +kernel) dX10_isCost_16 (Or.inl ⟨rfl, rfl, f_6⟩)
set_option maxHeartbeats 4000000 in
set_option maxRecDepth 100000 in
theorem xk_X9_lossOf_1 (l : Launch) (D : va_G) (q : Nat → Nat) (cA : Nat → ClassId) (F : Nat → Nat → Int32) (I R : Nat → Nat → Int32) (J : Nat → Nat → Int64) (hI : xInv F (I, R, J)) (pa0 : Int32) (hpa0 : zR 0 4 pa0) : zMi l D vwCl (zXtys cA) 81 q (zXd q cA) yX9_lossOf cX9_lossOf 4 (some .int) ({ frames := 1, cells := 0, slots := 0, locals := 64 } : Room) [.ref (q 15), .int (pa0)] (I, R, J) (fun _ u => u = (I, R, J)) := by
  intro sz
  refine z_body (by decide +kernel) (Nat.le_of_ble_eq_true rfl) (fun p e s m below meth c ls hx hb hml hr ht hown hlocks hsz hK hP hD hS hl => ?_)
  have hA : ∀ a, s.heap.size ≤ a → zA 81 q sz a := fun a h => Or.inr (hsz ▸ h)
  have hl : lv_has ls 4 [(0, .ref (q 15)), (1, .int (pa0))] := hl
  refine lv_iconst (v := nI 0) hx hb dX9_lossOf_0 (by decide +kernel) ?_
  refine lv_istore_n (lv' := [(2, .int (nI 0)), (0, .ref (q 15)), (1, .int (pa0))]) hx hb dX9_lossOf_1 rfl hl (by decide) rfl (fun ls hl => ?_)
  refine lv_iconst (v := nI 0) hx hb dX9_lossOf_2 (by decide +kernel) ?_
  refine lv_istore_n (lv' := [(3, .int (nI 0)), (2, .int (nI 0)), (0, .ref (q 15)), (1, .int (pa0))]) hx hb dX9_lossOf_3 rfl hl (by decide) rfl (fun ls hl => ?_)
  have loop_48 : ∀ N : Nat, ∀ x_46 : Int32, ∀ x_47 : Int32, zR 0 6 x_47 → (2147483648 - (x_47).toInt).toNat < N → ∀ (H : Heap) (locs : List Loc), va_P D vwCl (zw 81 q (zXd q cA) I R J) H → va_D (zA 81 q sz) (zw 81 q (zXd q cA) I R J) → va_S (zA 81 q sz) s.heap H locs → ∀ ls : Array Slot, lv_has ls 4 [(0, .ref (q 15)), (1, .int (pa0)), (2, .int (x_46)), (3, .int (x_47))] → W p l e ({ frames := 1, cells := 0, slots := 0, locals := 64 } : Room) s m ([.ref (q 15), .int (pa0)] : List Value).toArray below meth c H locs 0 0 (MQ below (va_Qi (fun _ u => u = (I, R, J)) (zB D vwCl 81 q (zXd q cA) sz) (zA 81 q sz)) ([.ref (q 15), .int (pa0)] : List Value).toArray s 0 0 (zA 81 q sz)) (F0 m 4 ls []) := by
    intro N
    induction N with
    | zero => intro x_46 x_47 hx_47 hN; exact absurd hN (Nat.not_lt_zero _)
    | succ N ih_50 =>
      intro x_46 x_47 hx_47 hN_49 H locs hP hD hS ls hl
      refine lv_iload_n hx hb dX9_lossOf_4 rfl (lv_at hl 3 rfl) ?_
      refine lv_aload_n hx hb dX9_lossOf_5 rfl (lv_at hl 0 rfl) ?_
      refine z_get hx hb ht hown hK hP ziX9 rfl 15 (by decide) 0 (by decide) hw_1_154 rfl (v := .ref (q 3)) rfl dX9_lossOf_6 ?_
      refine z_get hx hb ht hown hK hP ziX2 rfl 3 (by decide) 5 (by decide) hw_1_92 rfl (v := .int (I 3 5)) rfl dX9_lossOf_9 ?_
      have f_51 : zR 0 6 (I 3 5) := xI hI 3 5
      refine lv_icmp_ge (tgt := 45) hx hb dX9_lossOf_12 (by decide) (fun c_52 => ?_) (fun c_52 => ?_)
      · have t_c_52 := z_leT c_52
        refine lv_iload_n hx hb dX9_lossOf_45 rfl (lv_at hl 2 rfl) ?_
        exact z_iret (v := x_46) hx hb hr hlocks hP hD hS dX9_lossOf_46 rfl
      · have t_c_52 := z_leF c_52
        have f_53 : zR 0 5 (x_47) := zR_ltx t_c_52 hx_47 f_51 (by decide)
        have f_54 : zR 1 6 (I 3 5) := zR_lty t_c_52 hx_47 f_51 (by decide)
        refine lv_aload_n hx hb dX9_lossOf_15 rfl (lv_at hl 0 rfl) ?_
        refine z_get hx hb ht hown hK hP ziX9 rfl 15 (by decide) 5 (by decide) hw_1_166 rfl (v := .ref (q 17)) rfl dX9_lossOf_16 ?_
        refine lv_iload_n hx hb dX9_lossOf_19 rfl (lv_at hl 3 rfl) ?_
        refine z_iald hx hb hK hP 17 (by decide) 11 rfl rfl (zR_vin f_53 (by decide)) dX9_lossOf_20 ?_
        refine z_eqi (y := R 17 (x_47).toNatClampNeg) rfl ?_
        have f_55 : zR 0 4 (R 17 (x_47).toNatClampNeg) := xR hI 17 (x_47).toNatClampNeg
        refine lv_iload_n hx hb dX9_lossOf_21 rfl (lv_at hl 1 rfl) ?_
        have t_60 : ∀ x_59 : Int32, ∀ (H : Heap) (locs : List Loc), va_P D vwCl (zw 81 q (zXd q cA) I R J) H → va_D (zA 81 q sz) (zw 81 q (zXd q cA) I R J) → va_S (zA 81 q sz) s.heap H locs → ∀ ls : Array Slot, lv_has ls 4 [(0, .ref (q 15)), (1, .int (pa0)), (2, .int (x_59)), (3, .int (x_47))] → W p l e ({ frames := 1, cells := 0, slots := 0, locals := 64 } : Room) s m ([.ref (q 15), .int (pa0)] : List Value).toArray below meth c H locs 0 0 (MQ below (va_Qi (fun _ u => u = (I, R, J)) (zB D vwCl 81 q (zXd q cA) sz) (zA 81 q sz)) ([.ref (q 15), .int (pa0)] : List Value).toArray s 0 0 (zA 81 q sz)) (F0 m 39 ls []) := by
          intro x_59 H locs hP hD hS ls hl
          obtain ⟨v_61, ev_61⟩ : ∃ y : Int32, y = x_47 + nI 1 := ⟨_, rfl⟩
          have hv_61 : zR 1 6 v_61 := ev_61 ▸ zR_add f_53 zk_1 (by decide)
          have mv_61 : v_61.toInt = (x_47).toInt + 1 := by rw [ev_61, zR_addE f_53 zk_1 (by decide)]; rfl
          refine lv_iinc (v := v_61) (lv' := [(3, .int (v_61)), (0, .ref (q 15)), (1, .int (pa0)), (2, .int (x_59))]) hx hb dX9_lossOf_39 hl (k := 3) rfl (ev_61 ▸ rfl) (by decide) rfl (fun ls hl => ?_)
          refine lv_goto (tgt := 4) hx hb dX9_lossOf_42 (by decide) ?_
          exact ih_50 (x_59) (v_61) (zR_w hv_61 (by decide)) (z2_up mv_61 (by decide) hN_49) _ _ hP hD hS _ (lv_sub hl [1, 2, 3, 0] rfl)
        refine lv_icmp_ne (tgt := 39) hx hb dX9_lossOf_22 (by decide) (fun c_56 => ?_) (fun c_56 => ?_)
        · have t_c_56 := z_eqF c_56
          exact t_60 (x_46) _ _ hP hD hS _ (lv_sub hl [0, 1, 2, 3] rfl)
        · have t_c_56 := z_eqT c_56
          refine lv_iload_n hx hb dX9_lossOf_25 rfl (lv_at hl 2 rfl) ?_
          refine lv_aload_n hx hb dX9_lossOf_26 rfl (lv_at hl 0 rfl) ?_
          refine z_get hx hb ht hown hK hP ziX9 rfl 15 (by decide) 0 (by decide) hw_1_154 rfl (v := .ref (q 3)) rfl dX9_lossOf_27 ?_
          refine lv_iload_n hx hb dX9_lossOf_30 rfl (lv_at hl 1 rfl) ?_
          refine lv_iload_n hx hb dX9_lossOf_31 rfl (lv_at hl 3 rfl) ?_
          refine z_callVi (k := 3) (As := [.int (pa0), .int (x_47)]) (rest := [.int (x_46)]) hx hb hml hown ht (xk_X2_moreTo l D q cA F _ _ _ hI (pa0) hpa0 (x_47) f_53) hw_5_41 hmX2_moreTo ⟨rfl, rfl⟩ (na := 2) rfl (by decide +kernel) (by decide) (by decide) rfl rfl hK hP hD hS hA hl.1 rfl (Nat.le_of_ble_eq_true rfl) ⟨Nat.zero_le _, Nat.zero_le _⟩ dX9_lossOf_32 (fun r_62 I_62 R_62 J_62 H locs hp_62 hP hD hS _ _ => ?_)
          cases hp_62
          refine va_mmax hx hb (hml.trans hl.1.symm) hown (ht _ hw_5_42) (ht _ hw_5_12) (ht _ hw_1_19) (ht _ hw_5_13) (by decide) (Nat.le_of_ble_eq_true rfl) (Nat.zero_le _) (Nat.zero_le _) dX9_lossOf_35 ?_
          refine z_any (fun v_63 => ?_)
          refine lv_istore_n (lv' := [(2, .int (v_63)), (0, .ref (q 15)), (1, .int (pa0)), (3, .int (x_47))]) hx hb dX9_lossOf_38 rfl hl (by decide) rfl (fun ls hl => ?_)
          exact t_60 (v_63) _ _ hP hD hS _ (lv_sub hl [1, 2, 0, 3] rfl)
  exact loop_48 _ (nI 0) (nI 0) (zR_w zk_0 (by decide)) (Nat.lt_succ_self _) _ _ hP hD hS _ (lv_sub hl [2, 3, 1, 0] rfl)
set_option maxHeartbeats 4000000 in
set_option maxRecDepth 100000 in
theorem xk_X10_isAtRest_1 (l : Launch) (D : va_G) (q : Nat → Nat) (cA : Nat → ClassId) (F : Nat → Nat → Int32) (I R : Nat → Nat → Int32) (J : Nat → Nat → Int64) (hI : xInv F (I, R, J)) (pa0 : Int32) (hpa0 : zR 0 31 pa0) (pa1 : Int32) (hpa1 : zR 0 999 pa1) : zMi l D vwCl (zXtys cA) 81 q (zXd q cA) yX10_isAtRest cX10_isAtRest 6 (some .boolean) ({ frames := 2, cells := 0, slots := 0, locals := 87 } : Room) [.ref (q 0), .int (pa0), .int (pa1)] (I, R, J) (fun r u => (r = nI 1 ∧ u = (I, R, J)) ∨ (r = nI 0 ∧ u = (I, R, J))) := by
  intro sz
  refine z_body (by decide +kernel) (Nat.le_of_ble_eq_true rfl) (fun p e s m below meth c ls hx hb hml hr ht hown hlocks hsz hK hP hD hS hl => ?_)
  have hA : ∀ a, s.heap.size ≤ a → zA 81 q sz a := fun a h => Or.inr (hsz ▸ h)
  have hl : lv_has ls 6 [(0, .ref (q 0)), (1, .int (pa0)), (2, .int (pa1))] := hl
  refine lv_iconst (v := nI 0) hx hb dX10_isAtRest_0 (by decide +kernel) ?_
  refine lv_istore_n (lv' := [(3, .int (nI 0)), (0, .ref (q 0)), (1, .int (pa0)), (2, .int (pa1))]) hx hb dX10_isAtRest_1 rfl hl (by decide) rfl (fun ls hl => ?_)
  have loop_91 : ∀ N : Nat, ∀ x_90 : Int32, zR 0 5 x_90 → (2147483648 - (x_90).toInt).toNat < N → ∀ (H : Heap) (locs : List Loc), va_P D vwCl (zw 81 q (zXd q cA) I R J) H → va_D (zA 81 q sz) (zw 81 q (zXd q cA) I R J) → va_S (zA 81 q sz) s.heap H locs → ∀ ls : Array Slot, lv_has ls 6 [(0, .ref (q 0)), (1, .int (pa0)), (2, .int (pa1)), (3, .int (x_90))] → W p l e ({ frames := 2, cells := 0, slots := 0, locals := 87 } : Room) s m ([.ref (q 0), .int (pa0), .int (pa1)] : List Value).toArray below meth c H locs 0 0 (MQ below (va_Qi (fun r u => (r = nI 1 ∧ u = (I, R, J)) ∨ (r = nI 0 ∧ u = (I, R, J))) (zB D vwCl 81 q (zXd q cA) sz) (zA 81 q sz)) ([.ref (q 0), .int (pa0), .int (pa1)] : List Value).toArray s 0 0 (zA 81 q sz)) (F0 m 2 ls []) := by
    intro N
    induction N with
    | zero => intro x_90 hx_90 hN; exact absurd hN (Nat.not_lt_zero _)
    | succ N ih_93 =>
      intro x_90 hx_90 hN_92 H locs hP hD hS ls hl
      refine lv_iload_n hx hb dX10_isAtRest_2 rfl (lv_at hl 3 rfl) ?_
      refine lv_aload_n hx hb dX10_isAtRest_3 rfl (lv_at hl 0 rfl) ?_
      refine z_get hx hb ht hown hK hP ziX10 rfl 0 (by decide) 1 (by decide) hw_2_94 rfl (v := .ref (q 3)) rfl dX10_isAtRest_4 ?_
      refine z_get hx hb ht hown hK hP ziX2 rfl 3 (by decide) 4 (by decide) hw_1_85 rfl (v := .int (I 3 4)) rfl dX10_isAtRest_7 ?_
      have f_94 : zR 0 5 (I 3 4) := xI hI 3 4
      refine lv_icmp_ge (tgt := 66) hx hb dX10_isAtRest_10 (by decide) (fun c_95 => ?_) (fun c_95 => ?_)
      · have t_c_95 := z_leT c_95
        refine lv_iconst (v := nI 1) hx hb dX10_isAtRest_66 (by decide +kernel) ?_
        exact z_zret (v := nI 1) hx hb hr hlocks hP hD hS (by decide +kernel) dX10_isAtRest_67 (Or.inl ⟨rfl, rfl⟩)
      · have t_c_95 := z_leF c_95
        have f_96 : zR 0 4 (x_90) := zR_ltx t_c_95 hx_90 f_94 (by decide)
        have f_97 : zR 1 5 (I 3 4) := zR_lty t_c_95 hx_90 f_94 (by decide)
        refine lv_aload_n hx hb dX10_isAtRest_13 rfl (lv_at hl 0 rfl) ?_
        refine z_get hx hb ht hown hK hP ziX10 rfl 0 (by decide) 4 (by decide) hw_2_97 rfl (v := .ref (q 15)) rfl dX10_isAtRest_14 ?_
        refine lv_iload_n hx hb dX10_isAtRest_17 rfl (lv_at hl 3 rfl) ?_
        refine z_callVi (k := 15) (As := [.int (x_90)]) (rest := []) hx hb hml hown ht (xk_X9_lossOf_1 l D q cA F _ _ _ hI (x_90) f_96) hw_5_37 hmX9_lossOf ⟨rfl, rfl⟩ (na := 1) rfl (by decide +kernel) (by decide) (by decide) rfl rfl hK hP hD hS hA hl.1 rfl (Nat.le_of_ble_eq_true rfl) ⟨Nat.zero_le _, Nat.zero_le _⟩ dX10_isAtRest_18 (fun r_98 I_98 R_98 J_98 H locs hp_98 hP hD hS _ _ => ?_)
        cases hp_98
        refine lv_istore (lv' := [(4, .int (r_98)), (0, .ref (q 0)), (1, .int (pa0)), (2, .int (pa1)), (3, .int (x_90))]) hx hb dX10_isAtRest_21 hl (by decide) rfl (fun ls hl => ?_)
        refine lv_iload_n hx hb dX10_isAtRest_23 rfl (lv_at hl 2 rfl) ?_
        refine lv_iload_n hx hb dX10_isAtRest_24 rfl (lv_at hl 4 rfl) ?_
        refine lv_ishr hx hb dX10_isAtRest_25 ?_
        refine z_any (fun v_99 => ?_)
        refine lv_iconst (v := nI 1) hx hb dX10_isAtRest_26 (by decide +kernel) ?_
        refine lv_iand hx hb dX10_isAtRest_27 ?_
        refine z_rng (a := 0) (b := 1) (zR_andr zk_1 (by decide)) (fun v_100 hv_100 => ?_)
        have t_105 : ∀ x_104 : Int32, zR 0 1 x_104 → ∀ (H : Heap) (locs : List Loc), va_P D vwCl (zw 81 q (zXd q cA) I R J) H → va_D (zA 81 q sz) (zw 81 q (zXd q cA) I R J) → va_S (zA 81 q sz) s.heap H locs → ∀ ls : Array Slot, lv_has ls 6 [(0, .ref (q 0)), (1, .int (pa0)), (2, .int (pa1)), (3, .int (x_90)), (4, .int (r_98))] → W p l e ({ frames := 2, cells := 0, slots := 0, locals := 87 } : Room) s m ([.ref (q 0), .int (pa0), .int (pa1)] : List Value).toArray below meth c H locs 0 0 (MQ below (va_Qi (fun r u => (r = nI 1 ∧ u = (I, R, J)) ∨ (r = nI 0 ∧ u = (I, R, J))) (zB D vwCl 81 q (zXd q cA) sz) (zA 81 q sz)) ([.ref (q 0), .int (pa0), .int (pa1)] : List Value).toArray s 0 0 (zA 81 q sz)) (F0 m 36 ls [.int (x_104)]) := by
          intro x_104 hx_104 H locs hP hD hS ls hl
          refine lv_istore (lv' := [(5, .int (x_104)), (0, .ref (q 0)), (1, .int (pa0)), (2, .int (pa1)), (3, .int (x_90)), (4, .int (r_98))]) hx hb dX10_isAtRest_36 hl (by decide) rfl (fun ls hl => ?_)
          refine lv_iload hx hb dX10_isAtRest_38 (lv_at hl 0 rfl) ?_
          refine lv_if_eq (tgt := 52) hx hb dX10_isAtRest_40 (by decide) (fun c_106 => ?_) (fun c_106 => ?_)
          · have t_c_106 := z_eqT c_106
            have f_107 : zR 0 0 (x_104) := zR_eqx t_c_106 zk_z
            refine lv_iload_n hx hb dX10_isAtRest_52 rfl (lv_at hl 3 rfl) ?_
            refine lv_iload hx hb dX10_isAtRest_53 (lv_at hl 5 rfl) ?_
            refine lv_icmp_ge (tgt := 60) hx hb dX10_isAtRest_55 (by decide) (fun c_108 => ?_) (fun c_108 => ?_)
            · have t_c_108 := z_leT c_108
              have f_109 : zR (-2147483648) 999 (r_98) := zR_lex t_c_108 (zR_any (r_98)) hpa1 (by decide)
              obtain ⟨v_110, ev_110⟩ : ∃ y : Int32, y = x_90 + nI 1 := ⟨_, rfl⟩
              have hv_110 : zR 1 5 v_110 := ev_110 ▸ zR_add f_96 zk_1 (by decide)
              have mv_110 : v_110.toInt = (x_90).toInt + 1 := by rw [ev_110, zR_addE f_96 zk_1 (by decide)]; rfl
              refine lv_iinc (v := v_110) (lv' := [(3, .int (v_110)), (5, .int (x_104)), (0, .ref (q 0)), (1, .int (pa0)), (2, .int (pa1)), (4, .int (r_98))]) hx hb dX10_isAtRest_60 hl (k := 4) rfl (ev_110 ▸ rfl) (by decide) rfl (fun ls hl => ?_)
              refine lv_goto (tgt := 2) hx hb dX10_isAtRest_63 (by decide) ?_
              exact ih_93 (v_110) (zR_w hv_110 (by decide)) (z2_up mv_110 (by decide) hN_92) _ _ hP hD hS _ (lv_sub hl [2, 3, 4, 0] rfl)
            · have t_c_108 := z_leF c_108
              have f_111 : zR 1 2147483647 (r_98) := zR_lty t_c_108 hpa1 (zR_any (r_98)) (by decide)
              refine lv_iconst (v := nI 0) hx hb dX10_isAtRest_58 (by decide +kernel) ?_
              exact z_zret (v := nI 0) hx hb hr hlocks hP hD hS (by decide +kernel) dX10_isAtRest_59 (Or.inr ⟨rfl, rfl⟩)
          · have t_c_106 := z_eqF c_106
            have f_112 : zR 1 1 (x_104) := zR_nex t_c_106 hx_104 zk_z (by decide)
            refine lv_iload hx hb dX10_isAtRest_43 (lv_at hl 5 rfl) ?_
            refine lv_iload_n hx hb dX10_isAtRest_45 rfl (lv_at hl 3 rfl) ?_
            refine lv_icmp_ge (tgt := 60) hx hb dX10_isAtRest_46 (by decide) (fun c_113 => ?_) (fun c_113 => ?_)
            · have t_c_113 := z_leT c_113
              have f_114 : zR 0 2147483647 (r_98) := zR_ley t_c_113 hpa1 (zR_any (r_98)) (by decide)
              obtain ⟨v_115, ev_115⟩ : ∃ y : Int32, y = x_90 + nI 1 := ⟨_, rfl⟩
              have hv_115 : zR 1 5 v_115 := ev_115 ▸ zR_add f_96 zk_1 (by decide)
              have mv_115 : v_115.toInt = (x_90).toInt + 1 := by rw [ev_115, zR_addE f_96 zk_1 (by decide)]; rfl
              refine lv_iinc (v := v_115) (lv' := [(3, .int (v_115)), (5, .int (x_104)), (0, .ref (q 0)), (1, .int (pa0)), (2, .int (pa1)), (4, .int (r_98))]) hx hb dX10_isAtRest_60 hl (k := 4) rfl (ev_115 ▸ rfl) (by decide) rfl (fun ls hl => ?_)
              refine lv_goto (tgt := 2) hx hb dX10_isAtRest_63 (by decide) ?_
              exact ih_93 (v_115) (zR_w hv_115 (by decide)) (z2_up mv_115 (by decide) hN_92) _ _ hP hD hS _ (lv_sub hl [2, 3, 4, 0] rfl)
            · have t_c_113 := z_leF c_113
              have f_116 : zR (-2147483648) 998 (r_98) := zR_ltx t_c_113 (zR_any (r_98)) hpa1 (by decide)
              refine lv_goto (tgt := 58) hx hb dX10_isAtRest_49 (by decide) ?_
              refine lv_iconst (v := nI 0) hx hb dX10_isAtRest_58 (by decide +kernel) ?_
              exact z_zret (v := nI 0) hx hb hr hlocks hP hD hS (by decide +kernel) dX10_isAtRest_59 (Or.inr ⟨rfl, rfl⟩)
        refine lv_if_eq (tgt := 35) hx hb dX10_isAtRest_28 (by decide) (fun c_101 => ?_) (fun c_101 => ?_)
        · have t_c_101 := z_eqT c_101
          have f_117 : zR 0 0 (v_100) := zR_eqx t_c_101 zk_z
          refine lv_iconst (v := nI 0) hx hb dX10_isAtRest_35 (by decide +kernel) ?_
          exact t_105 (nI 0) (zR_w zk_0 (by decide)) _ _ hP hD hS _ (lv_sub hl [1, 2, 3, 4, 0] rfl)
        · have t_c_101 := z_eqF c_101
          have f_118 : zR 1 1 (v_100) := zR_nex t_c_101 hv_100 zk_z (by decide)
          refine lv_iconst (v := nI 1) hx hb dX10_isAtRest_31 (by decide +kernel) ?_
          refine lv_goto (tgt := 36) hx hb dX10_isAtRest_32 (by decide) ?_
          exact t_105 (nI 1) (zR_w zk_1 (by decide)) _ _ hP hD hS _ (lv_sub hl [1, 2, 3, 4, 0] rfl)
  exact loop_91 _ (nI 0) (zR_w zk_0 (by decide)) (Nat.lt_succ_self _) _ _ hP hD hS _ (lv_sub hl [1, 2, 3, 0] rfl)
set_option maxHeartbeats 4000000 in
set_option maxRecDepth 100000 in
theorem xk_X10_rests (l : Launch) (D : va_G) (q : Nat → Nat) (cA : Nat → ClassId) (F : Nat → Nat → Int32) (I R : Nat → Nat → Int32) (J : Nat → Nat → Int64) (hI : xInv F (I, R, J)) (pa0 : Int32) : zMi l D vwCl (zXtys cA) 81 q (zXd q cA) yX10_rests cX10_rests 4 (some .int) ({ frames := 3, cells := 0, slots := 0, locals := 112 } : Room) [.ref (q 0), .int (pa0)] (I, R, J) (fun _ u => u = (I, R, J)) := by
  intro sz
  refine z_body (by decide +kernel) (Nat.le_of_ble_eq_true rfl) (fun p e s m below meth c ls hx hb hml hr ht hown hlocks hsz hK hP hD hS hl => ?_)
  have hA : ∀ a, s.heap.size ≤ a → zA 81 q sz a := fun a h => Or.inr (hsz ▸ h)
  have hl : lv_has ls 4 [(0, .ref (q 0)), (1, .int (pa0))] := hl
  refine lv_aload_n hx hb dX10_rests_0 rfl (lv_at hl 0 rfl) ?_
  refine z_callVi (k := 0) (As := []) (rest := []) hx hb hml hown ht (xk_X10_hasCity l D q cA F _ _ _ hI ) hw_4_0 hmX10_hasCity ⟨rfl, rfl⟩ (na := 0) rfl (by decide +kernel) (by decide) (by decide) rfl rfl hK hP hD hS hA hl.1 rfl (Nat.le_of_ble_eq_true rfl) ⟨Nat.zero_le _, Nat.zero_le _⟩ dX10_rests_1 (fun r_1 I_1 R_1 J_1 H locs hp_1 hP hD hS _ _ => ?_)
  rcases hp_1 with ⟨rfl, hu_1⟩ | ⟨rfl, hu_1⟩
  · cases hu_1
    refine lv_if_eq (tgt := 14) hx hb dX10_rests_4 (by decide) (fun c_0 => absurd c_0 (zD_ne zk_1 zk_z (by decide))) (fun _ => ?_)
    refine lv_iload_n hx hb dX10_rests_7 rfl (lv_at hl 1 rfl) ?_
    refine z_callSi (As := [.int (pa0)]) (rest := []) hx hb hml hown ht (xk_X10_isCost l D q cA F _ _ _ hI (pa0)) hw_5_30 hmX10_isCost ⟨rfl, rfl⟩ (na := 1) rfl (by decide +kernel) (by decide) hK hP hD hS hA hl.1 rfl (Nat.le_of_ble_eq_true rfl) ⟨Nat.zero_le _, Nat.zero_le _⟩ dX10_rests_8 (fun r_2 I_2 R_2 J_2 H locs hp_2 hP hD hS _ _ => ?_)
    rcases hp_2 with ⟨rfl, hu_2, f0_2⟩ | ⟨rfl, hu_2, nn_2⟩
    · cases hu_2
      refine lv_if_ne (tgt := 17) hx hb dX10_rests_11 (by decide) (fun _ => ?_) (fun c_0 => absurd c_0 (zD_ne zk_1 zk_z (by decide)))
      refine lv_iconst (v := nI 0) hx hb dX10_rests_17 (by decide +kernel) ?_
      refine lv_istore_n (lv' := [(2, .int (nI 0)), (0, .ref (q 0)), (1, .int (pa0))]) hx hb dX10_rests_18 rfl hl (by decide) rfl (fun ls hl => ?_)
      refine lv_iconst (v := nI 0) hx hb dX10_rests_19 (by decide +kernel) ?_
      refine lv_istore_n (lv' := [(3, .int (nI 0)), (2, .int (nI 0)), (0, .ref (q 0)), (1, .int (pa0))]) hx hb dX10_rests_20 rfl hl (by decide) rfl (fun ls hl => ?_)
      have loop_120 : ∀ N : Nat, ∀ x_118 : Int32, ∀ x_119 : Int32, zR 0 32 x_119 → (2147483648 - (x_119).toInt).toNat < N → ∀ (H : Heap) (locs : List Loc), va_P D vwCl (zw 81 q (zXd q cA) I R J) H → va_D (zA 81 q sz) (zw 81 q (zXd q cA) I R J) → va_S (zA 81 q sz) s.heap H locs → ∀ ls : Array Slot, lv_has ls 4 [(0, .ref (q 0)), (1, .int (pa0)), (2, .int (x_118)), (3, .int (x_119))] → W p l e ({ frames := 3, cells := 0, slots := 0, locals := 112 } : Room) s m ([.ref (q 0), .int (pa0)] : List Value).toArray below meth c H locs 0 0 (MQ below (va_Qi (fun _ u => u = (I, R, J)) (zB D vwCl 81 q (zXd q cA) sz) (zA 81 q sz)) ([.ref (q 0), .int (pa0)] : List Value).toArray s 0 0 (zA 81 q sz)) (F0 m 21 ls []) := by
        intro N
        induction N with
        | zero => intro x_118 x_119 hx_119 hN; exact absurd hN (Nat.not_lt_zero _)
        | succ N ih_122 =>
          intro x_118 x_119 hx_119 hN_121 H locs hP hD hS ls hl
          refine lv_iload_n hx hb dX10_rests_21 rfl (lv_at hl 3 rfl) ?_
          refine lv_iconst (v := nI 1) hx hb dX10_rests_22 (by decide +kernel) ?_
          refine lv_aload_n hx hb dX10_rests_23 rfl (lv_at hl 0 rfl) ?_
          refine z_get hx hb ht hown hK hP ziX10 rfl 0 (by decide) 1 (by decide) hw_2_94 rfl (v := .ref (q 3)) rfl dX10_rests_24 ?_
          refine z_get hx hb ht hown hK hP ziX2 rfl 3 (by decide) 4 (by decide) hw_1_85 rfl (v := .int (I 3 4)) rfl dX10_rests_27 ?_
          have f_123 : zR 0 5 (I 3 4) := xI hI 3 4
          refine lv_ishl hx hb dX10_rests_30 ?_
          refine z_rng (a := 1) (b := 32) (zR_shl1 5 f_123 (by decide)) (fun v_124 hv_124 => ?_)
          refine lv_icmp_ge (tgt := 57) hx hb dX10_rests_31 (by decide) (fun c_125 => ?_) (fun c_125 => ?_)
          · have t_c_125 := z_leT c_125
            have f_126 : zR 1 32 (x_119) := zR_ley t_c_125 hv_124 hx_119 (by decide)
            refine lv_iload_n hx hb dX10_rests_57 rfl (lv_at hl 2 rfl) ?_
            exact z_iret (v := x_118) hx hb hr hlocks hP hD hS dX10_rests_58 rfl
          · have t_c_125 := z_leF c_125
            have f_127 : zR 0 31 (x_119) := zR_ltx t_c_125 hx_119 hv_124 (by decide)
            refine lv_iload_n hx hb dX10_rests_34 rfl (lv_at hl 2 rfl) ?_
            refine lv_aload_n hx hb dX10_rests_35 rfl (lv_at hl 0 rfl) ?_
            refine lv_iload_n hx hb dX10_rests_36 rfl (lv_at hl 3 rfl) ?_
            refine lv_iload_n hx hb dX10_rests_37 rfl (lv_at hl 1 rfl) ?_
            have t_130 : ∀ x_129 : Int32, zR 0 1 x_129 → ∀ (H : Heap) (locs : List Loc), va_P D vwCl (zw 81 q (zXd q cA) I R J) H → va_D (zA 81 q sz) (zw 81 q (zXd q cA) I R J) → va_S (zA 81 q sz) s.heap H locs → ∀ ls : Array Slot, lv_has ls 4 [(0, .ref (q 0)), (1, .int (pa0)), (2, .int (x_118)), (3, .int (x_119))] → W p l e ({ frames := 3, cells := 0, slots := 0, locals := 112 } : Room) s m ([.ref (q 0), .int (pa0)] : List Value).toArray below meth c H locs 0 0 (MQ below (va_Qi (fun _ u => u = (I, R, J)) (zB D vwCl 81 q (zXd q cA) sz) (zA 81 q sz)) ([.ref (q 0), .int (pa0)] : List Value).toArray s 0 0 (zA 81 q sz)) (F0 m 49 ls [.int (x_129), .int (x_118)]) := by
              intro x_129 hx_129 H locs hP hD hS ls hl
              refine lv_iadd hx hb dX10_rests_49 ?_
              refine z_any (fun v_131 => ?_)
              refine lv_istore_n (lv' := [(2, .int (v_131)), (0, .ref (q 0)), (1, .int (pa0)), (3, .int (x_119))]) hx hb dX10_rests_50 rfl hl (by decide) rfl (fun ls hl => ?_)
              obtain ⟨v_132, ev_132⟩ : ∃ y : Int32, y = x_119 + nI 1 := ⟨_, rfl⟩
              have hv_132 : zR 1 32 v_132 := ev_132 ▸ zR_add f_127 zk_1 (by decide)
              have mv_132 : v_132.toInt = (x_119).toInt + 1 := by rw [ev_132, zR_addE f_127 zk_1 (by decide)]; rfl
              refine lv_iinc (v := v_132) (lv' := [(3, .int (v_132)), (2, .int (v_131)), (0, .ref (q 0)), (1, .int (pa0))]) hx hb dX10_rests_51 hl (k := 3) rfl (ev_132 ▸ rfl) (by decide) rfl (fun ls hl => ?_)
              refine lv_goto (tgt := 21) hx hb dX10_rests_54 (by decide) ?_
              exact ih_122 (v_131) (v_132) (zR_w hv_132 (by decide)) (z2_up mv_132 (by decide) hN_121) _ _ hP hD hS _ (lv_sub hl [2, 3, 1, 0] rfl)
            refine z_callVi (k := 0) (As := [.int (x_119), .int (pa0)]) (rest := [.int (x_118)]) hx hb hml hown ht (xk_X10_isAtRest_1 l D q cA F _ _ _ hI (x_119) f_127 (pa0) f0_2) hw_5_33 hmX10_isAtRest ⟨rfl, rfl⟩ (na := 2) rfl (by decide +kernel) (by decide) (by decide) rfl rfl hK hP hD hS hA hl.1 rfl (Nat.le_of_ble_eq_true rfl) ⟨Nat.zero_le _, Nat.zero_le _⟩ dX10_rests_38 (fun r_128 I_128 R_128 J_128 H locs hp_128 hP hD hS _ _ => ?_)
            rcases hp_128 with ⟨rfl, hu_128⟩ | ⟨rfl, hu_128⟩
            · cases hu_128
              refine lv_if_eq (tgt := 48) hx hb dX10_rests_41 (by decide) (fun c_0 => absurd c_0 (zD_ne zk_1 zk_z (by decide))) (fun _ => ?_)
              refine lv_iconst (v := nI 1) hx hb dX10_rests_44 (by decide +kernel) ?_
              refine lv_goto (tgt := 49) hx hb dX10_rests_45 (by decide) ?_
              exact t_130 (nI 1) (zR_w zk_1 (by decide)) _ _ hP hD hS _ (lv_sub hl [0, 1, 2, 3] rfl)
            · cases hu_128
              refine lv_if_eq (tgt := 48) hx hb dX10_rests_41 (by decide) (fun _ => ?_) (fun c_0 => absurd (zD_eq zk_0 zk_z) c_0)
              refine lv_iconst (v := nI 0) hx hb dX10_rests_48 (by decide +kernel) ?_
              exact t_130 (nI 0) (zR_w zk_0 (by decide)) _ _ hP hD hS _ (lv_sub hl [0, 1, 2, 3] rfl)
      exact loop_120 _ (nI 0) (nI 0) (zR_w zk_0 (by decide)) (Nat.lt_succ_self _) _ _ hP hD hS _ (lv_sub hl [2, 3, 1, 0] rfl)
    · cases hu_2
      refine lv_if_ne (tgt := 17) hx hb dX10_rests_11 (by decide) (fun c_0 => absurd (zD_eq zk_0 zk_z) c_0) (fun _ => ?_)
      refine lv_bipush (v := (-2)) hx hb dX10_rests_14 (by decide +kernel) ?_
      exact z_iret (v := (-2)) hx hb hr hlocks hP hD hS dX10_rests_16 rfl
  · cases hu_1
    refine lv_if_eq (tgt := 14) hx hb dX10_rests_4 (by decide) (fun _ => ?_) (fun c_0 => absurd (zD_eq zk_0 zk_z) c_0)
    refine lv_bipush (v := (-2)) hx hb dX10_rests_14 (by decide +kernel) ?_
    exact z_iret (v := (-2)) hx hb hr hlocks hP hD hS dX10_rests_16 rfl
set_option maxHeartbeats 4000000 in
set_option maxRecDepth 100000 in
theorem xk_X10_rest (l : Launch) (D : va_G) (q : Nat → Nat) (cA : Nat → ClassId) (F : Nat → Nat → Int32) (I R : Nat → Nat → Int32) (J : Nat → Nat → Int64) (hI : xInv F (I, R, J)) (pa0 : Int32) : zMi l D vwCl (zXtys cA) 81 q (zXd q cA) yX10_rest cX10_rest 3 (some .int) ({ frames := 3, cells := 0, slots := 0, locals := 112 } : Room) [.ref (q 0), .int (pa0)] (I, R, J) (fun r u => zR (-2) 31 r ∧ u = (I, R, J)) := by
  intro sz
  refine z_body (by decide +kernel) (Nat.le_of_ble_eq_true rfl) (fun p e s m below meth c ls hx hb hml hr ht hown hlocks hsz hK hP hD hS hl => ?_)
  have hA : ∀ a, s.heap.size ≤ a → zA 81 q sz a := fun a h => Or.inr (hsz ▸ h)
  have hl : lv_has ls 3 [(0, .ref (q 0)), (1, .int (pa0))] := hl
  refine lv_aload_n hx hb dX10_rest_0 rfl (lv_at hl 0 rfl) ?_
  refine z_callVi (k := 0) (As := []) (rest := []) hx hb hml hown ht (xk_X10_hasCity l D q cA F _ _ _ hI ) hw_4_0 hmX10_hasCity ⟨rfl, rfl⟩ (na := 0) rfl (by decide +kernel) (by decide) (by decide) rfl rfl hK hP hD hS hA hl.1 rfl (Nat.le_of_ble_eq_true rfl) ⟨Nat.zero_le _, Nat.zero_le _⟩ dX10_rest_1 (fun r_1 I_1 R_1 J_1 H locs hp_1 hP hD hS _ _ => ?_)
  rcases hp_1 with ⟨rfl, hu_1⟩ | ⟨rfl, hu_1⟩
  · cases hu_1
    refine lv_if_eq (tgt := 14) hx hb dX10_rest_4 (by decide) (fun c_0 => absurd c_0 (zD_ne zk_1 zk_z (by decide))) (fun _ => ?_)
    refine lv_iload_n hx hb dX10_rest_7 rfl (lv_at hl 1 rfl) ?_
    refine z_callSi (As := [.int (pa0)]) (rest := []) hx hb hml hown ht (xk_X10_isCost l D q cA F _ _ _ hI (pa0)) hw_5_30 hmX10_isCost ⟨rfl, rfl⟩ (na := 1) rfl (by decide +kernel) (by decide) hK hP hD hS hA hl.1 rfl (Nat.le_of_ble_eq_true rfl) ⟨Nat.zero_le _, Nat.zero_le _⟩ dX10_rest_8 (fun r_2 I_2 R_2 J_2 H locs hp_2 hP hD hS _ _ => ?_)
    rcases hp_2 with ⟨rfl, hu_2, f0_2⟩ | ⟨rfl, hu_2, nn_2⟩
    · cases hu_2
      refine lv_if_ne (tgt := 17) hx hb dX10_rest_11 (by decide) (fun _ => ?_) (fun c_0 => absurd c_0 (zD_ne zk_1 zk_z (by decide)))
      refine lv_iconst (v := nI 0) hx hb dX10_rest_17 (by decide +kernel) ?_
      refine lv_istore_n (lv' := [(2, .int (nI 0)), (0, .ref (q 0)), (1, .int (pa0))]) hx hb dX10_rest_18 rfl hl (by decide) rfl (fun ls hl => ?_)
      have loop_31 : ∀ N : Nat, ∀ x_30 : Int32, zR 0 32 x_30 → (2147483648 - (x_30).toInt).toNat < N → ∀ (H : Heap) (locs : List Loc), va_P D vwCl (zw 81 q (zXd q cA) I R J) H → va_D (zA 81 q sz) (zw 81 q (zXd q cA) I R J) → va_S (zA 81 q sz) s.heap H locs → ∀ ls : Array Slot, lv_has ls 3 [(0, .ref (q 0)), (1, .int (pa0)), (2, .int (x_30))] → W p l e ({ frames := 3, cells := 0, slots := 0, locals := 112 } : Room) s m ([.ref (q 0), .int (pa0)] : List Value).toArray below meth c H locs 0 0 (MQ below (va_Qi (fun r u => zR (-2) 31 r ∧ u = (I, R, J)) (zB D vwCl 81 q (zXd q cA) sz) (zA 81 q sz)) ([.ref (q 0), .int (pa0)] : List Value).toArray s 0 0 (zA 81 q sz)) (F0 m 19 ls []) := by
        intro N
        induction N with
        | zero => intro x_30 hx_30 hN; exact absurd hN (Nat.not_lt_zero _)
        | succ N ih_33 =>
          intro x_30 hx_30 hN_32 H locs hP hD hS ls hl
          refine lv_iload_n hx hb dX10_rest_19 rfl (lv_at hl 2 rfl) ?_
          refine lv_iconst (v := nI 1) hx hb dX10_rest_20 (by decide +kernel) ?_
          refine lv_aload_n hx hb dX10_rest_21 rfl (lv_at hl 0 rfl) ?_
          refine z_get hx hb ht hown hK hP ziX10 rfl 0 (by decide) 1 (by decide) hw_2_94 rfl (v := .ref (q 3)) rfl dX10_rest_22 ?_
          refine z_get hx hb ht hown hK hP ziX2 rfl 3 (by decide) 4 (by decide) hw_1_85 rfl (v := .int (I 3 4)) rfl dX10_rest_25 ?_
          have f_34 : zR 0 5 (I 3 4) := xI hI 3 4
          refine lv_ishl hx hb dX10_rest_28 ?_
          refine z_rng (a := 1) (b := 32) (zR_shl1 5 f_34 (by decide)) (fun v_35 hv_35 => ?_)
          refine lv_icmp_ge (tgt := 49) hx hb dX10_rest_29 (by decide) (fun c_36 => ?_) (fun c_36 => ?_)
          · have t_c_36 := z_leT c_36
            have f_37 : zR 1 32 (x_30) := zR_ley t_c_36 hv_35 hx_30 (by decide)
            refine lv_iconst (v := (-1)) hx hb dX10_rest_49 (by decide +kernel) ?_
            exact z_iret (v := (-1)) hx hb hr hlocks hP hD hS dX10_rest_50 ⟨(zR_w zk_m1 (by decide)), rfl⟩
          · have t_c_36 := z_leF c_36
            have f_38 : zR 0 31 (x_30) := zR_ltx t_c_36 hx_30 hv_35 (by decide)
            refine lv_aload_n hx hb dX10_rest_32 rfl (lv_at hl 0 rfl) ?_
            refine lv_iload_n hx hb dX10_rest_33 rfl (lv_at hl 2 rfl) ?_
            refine lv_iload_n hx hb dX10_rest_34 rfl (lv_at hl 1 rfl) ?_
            refine z_callVi (k := 0) (As := [.int (x_30), .int (pa0)]) (rest := []) hx hb hml hown ht (xk_X10_isAtRest_1 l D q cA F _ _ _ hI (x_30) f_38 (pa0) f0_2) hw_5_33 hmX10_isAtRest ⟨rfl, rfl⟩ (na := 2) rfl (by decide +kernel) (by decide) (by decide) rfl rfl hK hP hD hS hA hl.1 rfl (Nat.le_of_ble_eq_true rfl) ⟨Nat.zero_le _, Nat.zero_le _⟩ dX10_rest_35 (fun r_39 I_39 R_39 J_39 H locs hp_39 hP hD hS _ _ => ?_)
            rcases hp_39 with ⟨rfl, hu_39⟩ | ⟨rfl, hu_39⟩
            · cases hu_39
              refine lv_if_eq (tgt := 43) hx hb dX10_rest_38 (by decide) (fun c_0 => absurd c_0 (zD_ne zk_1 zk_z (by decide))) (fun _ => ?_)
              refine lv_iload_n hx hb dX10_rest_41 rfl (lv_at hl 2 rfl) ?_
              exact z_iret (v := x_30) hx hb hr hlocks hP hD hS dX10_rest_42 ⟨(zR_w f_38 (by decide)), rfl⟩
            · cases hu_39
              refine lv_if_eq (tgt := 43) hx hb dX10_rest_38 (by decide) (fun _ => ?_) (fun c_0 => absurd (zD_eq zk_0 zk_z) c_0)
              obtain ⟨v_40, ev_40⟩ : ∃ y : Int32, y = x_30 + nI 1 := ⟨_, rfl⟩
              have hv_40 : zR 1 32 v_40 := ev_40 ▸ zR_add f_38 zk_1 (by decide)
              have mv_40 : v_40.toInt = (x_30).toInt + 1 := by rw [ev_40, zR_addE f_38 zk_1 (by decide)]; rfl
              refine lv_iinc (v := v_40) (lv' := [(2, .int (v_40)), (0, .ref (q 0)), (1, .int (pa0))]) hx hb dX10_rest_43 hl (k := 2) rfl (ev_40 ▸ rfl) (by decide) rfl (fun ls hl => ?_)
              refine lv_goto (tgt := 19) hx hb dX10_rest_46 (by decide) ?_
              exact ih_33 (v_40) (zR_w hv_40 (by decide)) (z2_up mv_40 (by decide) hN_32) _ _ hP hD hS _ (lv_sub hl [1, 2, 0] rfl)
      exact loop_31 _ (nI 0) (zR_w zk_0 (by decide)) (Nat.lt_succ_self _) _ _ hP hD hS _ (lv_sub hl [1, 2, 0] rfl)
    · cases hu_2
      refine lv_if_ne (tgt := 17) hx hb dX10_rest_11 (by decide) (fun c_0 => absurd (zD_eq zk_0 zk_z) c_0) (fun _ => ?_)
      refine lv_bipush (v := (-2)) hx hb dX10_rest_14 (by decide +kernel) ?_
      exact z_iret (v := (-2)) hx hb hr hlocks hP hD hS dX10_rest_16 ⟨(zR_w zk_m2 (by decide)), rfl⟩
  · cases hu_1
    refine lv_if_eq (tgt := 14) hx hb dX10_rest_4 (by decide) (fun _ => ?_) (fun c_0 => absurd (zD_eq zk_0 zk_z) c_0)
    refine lv_bipush (v := (-2)) hx hb dX10_rest_14 (by decide +kernel) ?_
    exact z_iret (v := (-2)) hx hb hr hlocks hP hD hS dX10_rest_16 ⟨(zR_w zk_m2 (by decide)), rfl⟩
set_option maxHeartbeats 4000000 in
set_option maxRecDepth 100000 in
theorem xk_X10_dear (l : Launch) (D : va_G) (q : Nat → Nat) (cA : Nat → ClassId) (F : Nat → Nat → Int32) (I R : Nat → Nat → Int32) (J : Nat → Nat → Int64) (hI : xInv F (I, R, J))  : zMi l D vwCl (zXtys cA) 81 q (zXd q cA) yX10_dear cX10_dear 3 (some .int) ({ frames := 2, cells := 0, slots := 0, locals := 87 } : Room) [.ref (q 0)] (I, R, J) (fun _ u => u = (I, R, J)) := by
  intro sz
  refine z_body (by decide +kernel) (Nat.le_of_ble_eq_true rfl) (fun p e s m below meth c ls hx hb hml hr ht hown hlocks hsz hK hP hD hS hl => ?_)
  have hA : ∀ a, s.heap.size ≤ a → zA 81 q sz a := fun a h => Or.inr (hsz ▸ h)
  have hl : lv_has ls 3 [(0, .ref (q 0))] := hl
  refine lv_aload_n hx hb dX10_dear_0 rfl (lv_at hl 0 rfl) ?_
  refine z_callVi (k := 0) (As := []) (rest := []) hx hb hml hown ht (xk_X10_hasCity l D q cA F _ _ _ hI ) hw_4_0 hmX10_hasCity ⟨rfl, rfl⟩ (na := 0) rfl (by decide +kernel) (by decide) (by decide) rfl rfl hK hP hD hS hA hl.1 rfl (Nat.le_of_ble_eq_true rfl) ⟨Nat.zero_le _, Nat.zero_le _⟩ dX10_dear_1 (fun r_1 I_1 R_1 J_1 H locs hp_1 hP hD hS _ _ => ?_)
  rcases hp_1 with ⟨rfl, hu_1⟩ | ⟨rfl, hu_1⟩
  · cases hu_1
    refine lv_if_ne (tgt := 10) hx hb dX10_dear_4 (by decide) (fun _ => ?_) (fun c_0 => absurd c_0 (zD_ne zk_1 zk_z (by decide)))
    refine lv_sipush (v := nI 999) hx hb dX10_dear_10 (by decide +kernel) ?_
    refine lv_istore_n (lv' := [(1, .int (nI 999)), (0, .ref (q 0))]) hx hb dX10_dear_13 rfl hl (by decide) rfl (fun ls hl => ?_)
    refine lv_iconst (v := nI 0) hx hb dX10_dear_14 (by decide +kernel) ?_
    refine lv_istore_n (lv' := [(2, .int (nI 0)), (1, .int (nI 999)), (0, .ref (q 0))]) hx hb dX10_dear_15 rfl hl (by decide) rfl (fun ls hl => ?_)
    have loop_37 : ∀ N : Nat, ∀ x_35 : Int32, ∀ x_36 : Int32, zR 0 5 x_36 → (2147483648 - (x_36).toInt).toNat < N → ∀ (H : Heap) (locs : List Loc), va_P D vwCl (zw 81 q (zXd q cA) I R J) H → va_D (zA 81 q sz) (zw 81 q (zXd q cA) I R J) → va_S (zA 81 q sz) s.heap H locs → ∀ ls : Array Slot, lv_has ls 3 [(0, .ref (q 0)), (1, .int (x_35)), (2, .int (x_36))] → W p l e ({ frames := 2, cells := 0, slots := 0, locals := 87 } : Room) s m ([.ref (q 0)] : List Value).toArray below meth c H locs 0 0 (MQ below (va_Qi (fun _ u => u = (I, R, J)) (zB D vwCl 81 q (zXd q cA) sz) (zA 81 q sz)) ([.ref (q 0)] : List Value).toArray s 0 0 (zA 81 q sz)) (F0 m 16 ls []) := by
      intro N
      induction N with
      | zero => intro x_35 x_36 hx_36 hN; exact absurd hN (Nat.not_lt_zero _)
      | succ N ih_39 =>
        intro x_35 x_36 hx_36 hN_38 H locs hP hD hS ls hl
        refine lv_iload_n hx hb dX10_dear_16 rfl (lv_at hl 2 rfl) ?_
        refine lv_aload_n hx hb dX10_dear_17 rfl (lv_at hl 0 rfl) ?_
        refine z_get hx hb ht hown hK hP ziX10 rfl 0 (by decide) 1 (by decide) hw_2_94 rfl (v := .ref (q 3)) rfl dX10_dear_18 ?_
        refine z_get hx hb ht hown hK hP ziX2 rfl 3 (by decide) 4 (by decide) hw_1_85 rfl (v := .int (I 3 4)) rfl dX10_dear_21 ?_
        have f_40 : zR 0 5 (I 3 4) := xI hI 3 4
        refine lv_icmp_ge (tgt := 46) hx hb dX10_dear_24 (by decide) (fun c_41 => ?_) (fun c_41 => ?_)
        · have t_c_41 := z_leT c_41
          refine lv_iload_n hx hb dX10_dear_46 rfl (lv_at hl 1 rfl) ?_
          exact z_iret (v := x_35) hx hb hr hlocks hP hD hS dX10_dear_47 rfl
        · have t_c_41 := z_leF c_41
          have f_42 : zR 0 4 (x_36) := zR_ltx t_c_41 hx_36 f_40 (by decide)
          have f_43 : zR 1 5 (I 3 4) := zR_lty t_c_41 hx_36 f_40 (by decide)
          refine lv_iload_n hx hb dX10_dear_27 rfl (lv_at hl 1 rfl) ?_
          refine lv_aload_n hx hb dX10_dear_28 rfl (lv_at hl 0 rfl) ?_
          refine z_get hx hb ht hown hK hP ziX10 rfl 0 (by decide) 4 (by decide) hw_2_97 rfl (v := .ref (q 15)) rfl dX10_dear_29 ?_
          refine lv_iload_n hx hb dX10_dear_32 rfl (lv_at hl 2 rfl) ?_
          refine z_callVi (k := 15) (As := [.int (x_36)]) (rest := [.int (x_35)]) hx hb hml hown ht (xk_X9_lossOf_1 l D q cA F _ _ _ hI (x_36) f_42) hw_5_37 hmX9_lossOf ⟨rfl, rfl⟩ (na := 1) rfl (by decide +kernel) (by decide) (by decide) rfl rfl hK hP hD hS hA hl.1 rfl (Nat.le_of_ble_eq_true rfl) ⟨Nat.zero_le _, Nat.zero_le _⟩ dX10_dear_33 (fun r_44 I_44 R_44 J_44 H locs hp_44 hP hD hS _ _ => ?_)
          cases hp_44
          refine va_mmin hx hb (hml.trans hl.1.symm) hown (ht _ hw_5_51) (ht _ hw_3_217) (ht _ hw_1_19) (ht _ hw_3_218) (by decide) (Nat.le_of_ble_eq_true rfl) (Nat.zero_le _) (Nat.zero_le _) dX10_dear_36 ?_
          refine z_any (fun v_45 => ?_)
          refine lv_istore_n (lv' := [(1, .int (v_45)), (0, .ref (q 0)), (2, .int (x_36))]) hx hb dX10_dear_39 rfl hl (by decide) rfl (fun ls hl => ?_)
          obtain ⟨v_46, ev_46⟩ : ∃ y : Int32, y = x_36 + nI 1 := ⟨_, rfl⟩
          have hv_46 : zR 1 5 v_46 := ev_46 ▸ zR_add f_42 zk_1 (by decide)
          have mv_46 : v_46.toInt = (x_36).toInt + 1 := by rw [ev_46, zR_addE f_42 zk_1 (by decide)]; rfl
          refine lv_iinc (v := v_46) (lv' := [(2, .int (v_46)), (1, .int (v_45)), (0, .ref (q 0))]) hx hb dX10_dear_40 hl (k := 2) rfl (ev_46 ▸ rfl) (by decide) rfl (fun ls hl => ?_)
          refine lv_goto (tgt := 16) hx hb dX10_dear_43 (by decide) ?_
          exact ih_39 (v_45) (v_46) (zR_w hv_46 (by decide)) (z2_up mv_46 (by decide) hN_38) _ _ hP hD hS _ (lv_sub hl [2, 1, 0] rfl)
    exact loop_37 _ (nI 999) (nI 0) (zR_w zk_0 (by decide)) (Nat.lt_succ_self _) _ _ hP hD hS _ (lv_sub hl [2, 1, 0] rfl)
  · cases hu_1
    refine lv_if_ne (tgt := 10) hx hb dX10_dear_4 (by decide) (fun c_0 => absurd (zD_eq zk_0 zk_z) c_0) (fun _ => ?_)
    refine lv_bipush (v := (-2)) hx hb dX10_dear_7 (by decide +kernel) ?_
    exact z_iret (v := (-2)) hx hb hr hlocks hP hD hS dX10_dear_9 rfl
set_option maxHeartbeats 4000000 in
set_option maxRecDepth 100000 in
theorem xk_X10_isSlot (l : Launch) (D : va_G) (q : Nat → Nat) (cA : Nat → ClassId) (F : Nat → Nat → Int32) (I R : Nat → Nat → Int32) (J : Nat → Nat → Int64) (hI : xInv F (I, R, J)) (pa0 : Int32) : zMi l D vwCl (zXtys cA) 81 q (zXd q cA) yX10_isSlot cX10_isSlot 1 (some .boolean) ({ frames := 0, cells := 0, slots := 0, locals := 0 } : Room) [.int (pa0)] (I, R, J) (fun r u => (r = nI 1 ∧ u = (I, R, J) ∧ zR 0 3 pa0) ∨ (r = nI 0 ∧ u = (I, R, J) ∧ (pa0.toInt < 0 ∨ 3 < pa0.toInt))) := by
  intro sz
  refine z_body (by decide +kernel) (Nat.le_of_ble_eq_true rfl) (fun p e s m below meth c ls hx hb hml hr ht hown hlocks hsz hK hP hD hS hl => ?_)
  have hA : ∀ a, s.heap.size ≤ a → zA 81 q sz a := fun a h => Or.inr (hsz ▸ h)
  have hl : lv_has ls 1 [(0, .int (pa0))] := hl
  refine lv_iload_n hx hb dX10_isSlot_0 rfl (lv_at hl 0 rfl) ?_
  refine lv_if_lt (tgt := 13) hx hb dX10_isSlot_1 (by decide) (fun c_1 => ?_) (fun c_1 => ?_)
  · have t_c_1 := z_ltT c_1
    have f_2 : zR (-2147483648) (-1) (pa0) := zR_ltx t_c_1 (zR_any (pa0)) zk_z (by decide)
    refine lv_iconst (v := nI 0) hx hb dX10_isSlot_13 (by decide +kernel) ?_
    exact z_zret (v := nI 0) hx hb hr hlocks hP hD hS (by decide +kernel) dX10_isSlot_14 (Or.inr ⟨rfl, rfl, (Or.inl (Int.lt_of_le_of_lt f_2.2 (by decide)))⟩)
  · have t_c_1 := z_ltF c_1
    have f_3 : zR 0 2147483647 (pa0) := zR_ley t_c_1 zk_z (zR_any (pa0)) (by decide)
    refine lv_iload_n hx hb dX10_isSlot_4 rfl (lv_at hl 0 rfl) ?_
    refine lv_iconst (v := nI 4) hx hb dX10_isSlot_5 (by decide +kernel) ?_
    refine lv_icmp_ge (tgt := 13) hx hb dX10_isSlot_6 (by decide) (fun c_4 => ?_) (fun c_4 => ?_)
    · have t_c_4 := z_leT c_4
      have f_5 : zR 4 2147483647 (pa0) := zR_ley t_c_4 zk_4 f_3 (by decide)
      refine lv_iconst (v := nI 0) hx hb dX10_isSlot_13 (by decide +kernel) ?_
      exact z_zret (v := nI 0) hx hb hr hlocks hP hD hS (by decide +kernel) dX10_isSlot_14 (Or.inr ⟨rfl, rfl, (Or.inr (Int.lt_of_lt_of_le (by decide) f_5.1))⟩)
    · have t_c_4 := z_leF c_4
      have f_6 : zR 0 3 (pa0) := zR_ltx t_c_4 f_3 zk_4 (by decide)
      refine lv_iconst (v := nI 1) hx hb dX10_isSlot_9 (by decide +kernel) ?_
      refine lv_goto (tgt := 14) hx hb dX10_isSlot_10 (by decide) ?_
      exact z_zret (v := nI 1) hx hb hr hlocks hP hD hS (by decide +kernel) dX10_isSlot_14 (Or.inl ⟨rfl, rfl, f_6⟩)
set_option maxHeartbeats 4000000 in
set_option maxRecDepth 100000 in
theorem xk_X6_isThere (l : Launch) (D : va_G) (q : Nat → Nat) (cA : Nat → ClassId) (F : Nat → Nat → Int32) (I R : Nat → Nat → Int32) (J : Nat → Nat → Int64) (hI : xInv F (I, R, J))  : zMi l D vwCl (zXtys cA) 81 q (zXd q cA) yX6_isThere cX6_isThere 1 (some .boolean) ({ frames := 0, cells := 0, slots := 0, locals := 0 } : Room) [.ref (q 73)] (I, R, J) (fun r u => (r = nI 1 ∧ u = (I, R, J) ∧ (I 73 1).toInt ≠ -1) ∨ (r = nI 0 ∧ u = (I, R, J) ∧ (I 73 1).toInt = -1)) := by
  intro sz
  refine z_body (by decide +kernel) (Nat.le_of_ble_eq_true rfl) (fun p e s m below meth c ls hx hb hml hr ht hown hlocks hsz hK hP hD hS hl => ?_)
  have hA : ∀ a, s.heap.size ≤ a → zA 81 q sz a := fun a h => Or.inr (hsz ▸ h)
  have hl : lv_has ls 1 [(0, .ref (q 73))] := hl
  refine lv_aload_n hx hb dX6_isThere_0 rfl (lv_at hl 0 rfl) ?_
  refine z_get hx hb ht hown hK hP ziX6 rfl 73 (by decide) 1 (by decide) hw_2_79 rfl (v := .int (I 73 1)) rfl dX6_isThere_1 ?_
  have f_1 : zR (-1) 60 (I 73 1) := xI hI 73 1
  refine lv_iconst (v := (-1)) hx hb dX6_isThere_4 (by decide +kernel) ?_
  refine lv_icmp_eq (tgt := 12) hx hb dX6_isThere_5 (by decide) (fun c_2 => ?_) (fun c_2 => ?_)
  · have t_c_2 := z_eqT c_2
    have f_3 : zR (-1) (-1) (I 73 1) := zR_eqx t_c_2 zk_m1
    refine lv_iconst (v := nI 0) hx hb dX6_isThere_12 (by decide +kernel) ?_
    exact z_zret (v := nI 0) hx hb hr hlocks hP hD hS (by decide +kernel) dX6_isThere_13 (Or.inr ⟨rfl, rfl, t_c_2.trans (by decide +kernel)⟩)
  · have t_c_2 := z_eqF c_2
    have f_4 : zR 0 60 (I 73 1) := zR_nex t_c_2 f_1 zk_m1 (by decide)
    refine lv_iconst (v := nI 1) hx hb dX6_isThere_8 (by decide +kernel) ?_
    refine lv_goto (tgt := 13) hx hb dX6_isThere_9 (by decide) ?_
    exact z_zret (v := nI 1) hx hb hr hlocks hP hD hS (by decide +kernel) dX6_isThere_13 (Or.inl ⟨rfl, rfl, fun h => t_c_2 (h.trans (by decide +kernel))⟩)
set_option maxHeartbeats 4000000 in
set_option maxRecDepth 100000 in
theorem xk_X1_isWithin (l : Launch) (D : va_G) (q : Nat → Nat) (cA : Nat → ClassId) (F : Nat → Nat → Int32) (I R : Nat → Nat → Int32) (J : Nat → Nat → Int64) (hI : xInv F (I, R, J)) (pa0 : Int64) (pa1 : Int32) (hpa1 : zR 0 1 pa1) (pa2 : Int32) (hpa2 : zR (-1) 4 pa2) : zMi l D vwCl (zXtys cA) 81 q (zXd q cA) yX1_isWithin cX1_isWithin 4 (some .boolean) ({ frames := 0, cells := 0, slots := 0, locals := 0 } : Room) [.long (pa0), .int (pa1), .int (pa2)] (I, R, J) (fun r u => (r = nI 1 ∧ u = (I, R, J) ∧ zL 0 4 pa0 ∧ zR 0 4 pa2) ∨ (r = nI 0 ∧ u = (I, R, J))) := by
  intro sz
  refine z_body (by decide +kernel) (Nat.le_of_ble_eq_true rfl) (fun p e s m below meth c ls hx hb hml hr ht hown hlocks hsz hK hP hD hS hl => ?_)
  have hA : ∀ a, s.heap.size ≤ a → zA 81 q sz a := fun a h => Or.inr (hsz ▸ h)
  have hl : lv_has ls 4 [(0, .long (pa0)), (2, .int (pa1)), (3, .int (pa2))] := hl
  refine lv_lload_n hx hb dX1_isWithin_0 rfl (lv_at hl 0 rfl) ?_
  refine lv_iload_n hx hb dX1_isWithin_1 rfl (lv_at hl 1 rfl) ?_
  refine lv_i2l (v := (pa1).toInt64) hx hb dX1_isWithin_2 rfl ?_
  refine W.lcmp hx hb dX1_isWithin_3 ?_
  refine lv_if_lt (tgt := 18) hx hb dX1_isWithin_4 (by decide) (fun c_1 => ?_) (fun c_1 => ?_)
  · have t_c_1 := z_lltT ((lg_cmp_lt _ _).mp c_1)
    have f_2 : zL (-9223372036854775808) 0 (pa0) := zL_ltx t_c_1 (zL_any (pa0)) (zR_i2l hpa1) (by decide)
    refine lv_iconst (v := nI 0) hx hb dX1_isWithin_18 (by decide +kernel) ?_
    exact z_zret (v := nI 0) hx hb hr hlocks hP hD hS (by decide +kernel) dX1_isWithin_19 (Or.inr ⟨rfl, rfl⟩)
  · have t_c_1 := z_lltF (fun h => c_1 ((lg_cmp_lt _ _).mpr h))
    have f_3 : zL 0 9223372036854775807 (pa0) := zL_ley t_c_1 (zR_i2l hpa1) (zL_any (pa0)) (by decide)
    refine lv_lload_n hx hb dX1_isWithin_7 rfl (lv_at hl 0 rfl) ?_
    refine lv_iload_n hx hb dX1_isWithin_8 rfl (lv_at hl 2 rfl) ?_
    refine lv_i2l (v := (pa2).toInt64) hx hb dX1_isWithin_9 rfl ?_
    refine W.lcmp hx hb dX1_isWithin_10 ?_
    refine lv_if_gt (tgt := 18) hx hb dX1_isWithin_11 (by decide) (fun c_4 => ?_) (fun c_4 => ?_)
    · have t_c_4 := z_lltT ((lg_cmp_gt _ _).mp c_4)
      refine lv_iconst (v := nI 0) hx hb dX1_isWithin_18 (by decide +kernel) ?_
      exact z_zret (v := nI 0) hx hb hr hlocks hP hD hS (by decide +kernel) dX1_isWithin_19 (Or.inr ⟨rfl, rfl⟩)
    · have t_c_4 := z_lltF (fun h => c_4 ((lg_cmp_gt _ _).mpr h))
      have f_5 : zL 0 4 (pa0) := zL_lex t_c_4 f_3 (zR_i2l hpa2) (by decide)
      have f_6 : zL 0 4 ((pa2).toInt64) := zL_ley t_c_4 f_3 (zR_i2l hpa2) (by decide)
      have f_7 : zR 0 4 (pa2) := zL_back f_6
      refine lv_iconst (v := nI 1) hx hb dX1_isWithin_14 (by decide +kernel) ?_
      refine lv_goto (tgt := 19) hx hb dX1_isWithin_15 (by decide) ?_
      exact z_zret (v := nI 1) hx hb hr hlocks hP hD hS (by decide +kernel) dX1_isWithin_19 (Or.inl ⟨rfl, rfl, f_5, f_7⟩)
set_option maxHeartbeats 4000000 in
set_option maxRecDepth 100000 in
theorem xk_X1_isWithin_1 (l : Launch) (D : va_G) (q : Nat → Nat) (cA : Nat → ClassId) (F : Nat → Nat → Int32) (I R : Nat → Nat → Int32) (J : Nat → Nat → Int64) (hI : xInv F (I, R, J)) (pa0 : Int64) (pa1 : Int32) (hpa1 : zR 0 1 pa1) (pa2 : Int32) (hpa2 : zR (-1) 5 pa2) : zMi l D vwCl (zXtys cA) 81 q (zXd q cA) yX1_isWithin cX1_isWithin 4 (some .boolean) ({ frames := 0, cells := 0, slots := 0, locals := 0 } : Room) [.long (pa0), .int (pa1), .int (pa2)] (I, R, J) (fun r u => (r = nI 1 ∧ u = (I, R, J) ∧ zL 0 5 pa0 ∧ zR 0 5 pa2) ∨ (r = nI 0 ∧ u = (I, R, J))) := by
  intro sz
  refine z_body (by decide +kernel) (Nat.le_of_ble_eq_true rfl) (fun p e s m below meth c ls hx hb hml hr ht hown hlocks hsz hK hP hD hS hl => ?_)
  have hA : ∀ a, s.heap.size ≤ a → zA 81 q sz a := fun a h => Or.inr (hsz ▸ h)
  have hl : lv_has ls 4 [(0, .long (pa0)), (2, .int (pa1)), (3, .int (pa2))] := hl
  refine lv_lload_n hx hb dX1_isWithin_0 rfl (lv_at hl 0 rfl) ?_
  refine lv_iload_n hx hb dX1_isWithin_1 rfl (lv_at hl 1 rfl) ?_
  refine lv_i2l (v := (pa1).toInt64) hx hb dX1_isWithin_2 rfl ?_
  refine W.lcmp hx hb dX1_isWithin_3 ?_
  refine lv_if_lt (tgt := 18) hx hb dX1_isWithin_4 (by decide) (fun c_1 => ?_) (fun c_1 => ?_)
  · have t_c_1 := z_lltT ((lg_cmp_lt _ _).mp c_1)
    have f_2 : zL (-9223372036854775808) 0 (pa0) := zL_ltx t_c_1 (zL_any (pa0)) (zR_i2l hpa1) (by decide)
    refine lv_iconst (v := nI 0) hx hb dX1_isWithin_18 (by decide +kernel) ?_
    exact z_zret (v := nI 0) hx hb hr hlocks hP hD hS (by decide +kernel) dX1_isWithin_19 (Or.inr ⟨rfl, rfl⟩)
  · have t_c_1 := z_lltF (fun h => c_1 ((lg_cmp_lt _ _).mpr h))
    have f_3 : zL 0 9223372036854775807 (pa0) := zL_ley t_c_1 (zR_i2l hpa1) (zL_any (pa0)) (by decide)
    refine lv_lload_n hx hb dX1_isWithin_7 rfl (lv_at hl 0 rfl) ?_
    refine lv_iload_n hx hb dX1_isWithin_8 rfl (lv_at hl 2 rfl) ?_
    refine lv_i2l (v := (pa2).toInt64) hx hb dX1_isWithin_9 rfl ?_
    refine W.lcmp hx hb dX1_isWithin_10 ?_
    refine lv_if_gt (tgt := 18) hx hb dX1_isWithin_11 (by decide) (fun c_4 => ?_) (fun c_4 => ?_)
    · have t_c_4 := z_lltT ((lg_cmp_gt _ _).mp c_4)
      refine lv_iconst (v := nI 0) hx hb dX1_isWithin_18 (by decide +kernel) ?_
      exact z_zret (v := nI 0) hx hb hr hlocks hP hD hS (by decide +kernel) dX1_isWithin_19 (Or.inr ⟨rfl, rfl⟩)
    · have t_c_4 := z_lltF (fun h => c_4 ((lg_cmp_gt _ _).mpr h))
      have f_5 : zL 0 5 (pa0) := zL_lex t_c_4 f_3 (zR_i2l hpa2) (by decide)
      have f_6 : zL 0 5 ((pa2).toInt64) := zL_ley t_c_4 f_3 (zR_i2l hpa2) (by decide)
      have f_7 : zR 0 5 (pa2) := zL_back f_6
      refine lv_iconst (v := nI 1) hx hb dX1_isWithin_14 (by decide +kernel) ?_
      refine lv_goto (tgt := 19) hx hb dX1_isWithin_15 (by decide) ?_
      exact z_zret (v := nI 1) hx hb hr hlocks hP hD hS (by decide +kernel) dX1_isWithin_19 (Or.inl ⟨rfl, rfl, f_5, f_7⟩)
set_option maxHeartbeats 4000000 in
set_option maxRecDepth 100000 in
theorem xk_X1_isWithin_2 (l : Launch) (D : va_G) (q : Nat → Nat) (cA : Nat → ClassId) (F : Nat → Nat → Int32) (I R : Nat → Nat → Int32) (J : Nat → Nat → Int64) (hI : xInv F (I, R, J)) (pa0 : Int64) (pa1 : Int32) (hpa1 : zR 0 1 pa1) (pa2 : Int32) (hpa2 : zR 0 9999 pa2) : zMi l D vwCl (zXtys cA) 81 q (zXd q cA) yX1_isWithin cX1_isWithin 4 (some .boolean) ({ frames := 0, cells := 0, slots := 0, locals := 0 } : Room) [.long (pa0), .int (pa1), .int (pa2)] (I, R, J) (fun r u => (r = nI 1 ∧ u = (I, R, J) ∧ zL 0 9999 pa0) ∨ (r = nI 0 ∧ u = (I, R, J))) := by
  intro sz
  refine z_body (by decide +kernel) (Nat.le_of_ble_eq_true rfl) (fun p e s m below meth c ls hx hb hml hr ht hown hlocks hsz hK hP hD hS hl => ?_)
  have hA : ∀ a, s.heap.size ≤ a → zA 81 q sz a := fun a h => Or.inr (hsz ▸ h)
  have hl : lv_has ls 4 [(0, .long (pa0)), (2, .int (pa1)), (3, .int (pa2))] := hl
  refine lv_lload_n hx hb dX1_isWithin_0 rfl (lv_at hl 0 rfl) ?_
  refine lv_iload_n hx hb dX1_isWithin_1 rfl (lv_at hl 1 rfl) ?_
  refine lv_i2l (v := (pa1).toInt64) hx hb dX1_isWithin_2 rfl ?_
  refine W.lcmp hx hb dX1_isWithin_3 ?_
  refine lv_if_lt (tgt := 18) hx hb dX1_isWithin_4 (by decide) (fun c_1 => ?_) (fun c_1 => ?_)
  · have t_c_1 := z_lltT ((lg_cmp_lt _ _).mp c_1)
    have f_2 : zL (-9223372036854775808) 0 (pa0) := zL_ltx t_c_1 (zL_any (pa0)) (zR_i2l hpa1) (by decide)
    refine lv_iconst (v := nI 0) hx hb dX1_isWithin_18 (by decide +kernel) ?_
    exact z_zret (v := nI 0) hx hb hr hlocks hP hD hS (by decide +kernel) dX1_isWithin_19 (Or.inr ⟨rfl, rfl⟩)
  · have t_c_1 := z_lltF (fun h => c_1 ((lg_cmp_lt _ _).mpr h))
    have f_3 : zL 0 9223372036854775807 (pa0) := zL_ley t_c_1 (zR_i2l hpa1) (zL_any (pa0)) (by decide)
    refine lv_lload_n hx hb dX1_isWithin_7 rfl (lv_at hl 0 rfl) ?_
    refine lv_iload_n hx hb dX1_isWithin_8 rfl (lv_at hl 2 rfl) ?_
    refine lv_i2l (v := (pa2).toInt64) hx hb dX1_isWithin_9 rfl ?_
    refine W.lcmp hx hb dX1_isWithin_10 ?_
    refine lv_if_gt (tgt := 18) hx hb dX1_isWithin_11 (by decide) (fun c_4 => ?_) (fun c_4 => ?_)
    · have t_c_4 := z_lltT ((lg_cmp_gt _ _).mp c_4)
      have f_5 : zL 1 9223372036854775807 (pa0) := zL_lty t_c_4 (zR_i2l hpa2) f_3 (by decide)
      refine lv_iconst (v := nI 0) hx hb dX1_isWithin_18 (by decide +kernel) ?_
      exact z_zret (v := nI 0) hx hb hr hlocks hP hD hS (by decide +kernel) dX1_isWithin_19 (Or.inr ⟨rfl, rfl⟩)
    · have t_c_4 := z_lltF (fun h => c_4 ((lg_cmp_gt _ _).mpr h))
      have f_6 : zL 0 9999 (pa0) := zL_lex t_c_4 f_3 (zR_i2l hpa2) (by decide)
      refine lv_iconst (v := nI 1) hx hb dX1_isWithin_14 (by decide +kernel) ?_
      refine lv_goto (tgt := 19) hx hb dX1_isWithin_15 (by decide) ?_
      exact z_zret (v := nI 1) hx hb hr hlocks hP hD hS (by decide +kernel) dX1_isWithin_19 (Or.inl ⟨rfl, rfl, f_6⟩)
set_option maxHeartbeats 4000000 in
set_option maxRecDepth 100000 in
theorem xk_X1_isWithin_3 (l : Launch) (D : va_G) (q : Nat → Nat) (cA : Nat → ClassId) (F : Nat → Nat → Int32) (I R : Nat → Nat → Int32) (J : Nat → Nat → Int64) (hI : xInv F (I, R, J)) (pa0 : Int64) (pa1 : Int32) (hpa1 : zR 0 1 pa1) (pa2 : Int32) (hpa2 : zR 0 60 pa2) : zMi l D vwCl (zXtys cA) 81 q (zXd q cA) yX1_isWithin cX1_isWithin 4 (some .boolean) ({ frames := 0, cells := 0, slots := 0, locals := 0 } : Room) [.long (pa0), .int (pa1), .int (pa2)] (I, R, J) (fun r u => (r = nI 1 ∧ u = (I, R, J) ∧ zL 0 60 pa0) ∨ (r = nI 0 ∧ u = (I, R, J))) := by
  intro sz
  refine z_body (by decide +kernel) (Nat.le_of_ble_eq_true rfl) (fun p e s m below meth c ls hx hb hml hr ht hown hlocks hsz hK hP hD hS hl => ?_)
  have hA : ∀ a, s.heap.size ≤ a → zA 81 q sz a := fun a h => Or.inr (hsz ▸ h)
  have hl : lv_has ls 4 [(0, .long (pa0)), (2, .int (pa1)), (3, .int (pa2))] := hl
  refine lv_lload_n hx hb dX1_isWithin_0 rfl (lv_at hl 0 rfl) ?_
  refine lv_iload_n hx hb dX1_isWithin_1 rfl (lv_at hl 1 rfl) ?_
  refine lv_i2l (v := (pa1).toInt64) hx hb dX1_isWithin_2 rfl ?_
  refine W.lcmp hx hb dX1_isWithin_3 ?_
  refine lv_if_lt (tgt := 18) hx hb dX1_isWithin_4 (by decide) (fun c_1 => ?_) (fun c_1 => ?_)
  · have t_c_1 := z_lltT ((lg_cmp_lt _ _).mp c_1)
    have f_2 : zL (-9223372036854775808) 0 (pa0) := zL_ltx t_c_1 (zL_any (pa0)) (zR_i2l hpa1) (by decide)
    refine lv_iconst (v := nI 0) hx hb dX1_isWithin_18 (by decide +kernel) ?_
    exact z_zret (v := nI 0) hx hb hr hlocks hP hD hS (by decide +kernel) dX1_isWithin_19 (Or.inr ⟨rfl, rfl⟩)
  · have t_c_1 := z_lltF (fun h => c_1 ((lg_cmp_lt _ _).mpr h))
    have f_3 : zL 0 9223372036854775807 (pa0) := zL_ley t_c_1 (zR_i2l hpa1) (zL_any (pa0)) (by decide)
    refine lv_lload_n hx hb dX1_isWithin_7 rfl (lv_at hl 0 rfl) ?_
    refine lv_iload_n hx hb dX1_isWithin_8 rfl (lv_at hl 2 rfl) ?_
    refine lv_i2l (v := (pa2).toInt64) hx hb dX1_isWithin_9 rfl ?_
    refine W.lcmp hx hb dX1_isWithin_10 ?_
    refine lv_if_gt (tgt := 18) hx hb dX1_isWithin_11 (by decide) (fun c_4 => ?_) (fun c_4 => ?_)
    · have t_c_4 := z_lltT ((lg_cmp_gt _ _).mp c_4)
      have f_5 : zL 1 9223372036854775807 (pa0) := zL_lty t_c_4 (zR_i2l hpa2) f_3 (by decide)
      refine lv_iconst (v := nI 0) hx hb dX1_isWithin_18 (by decide +kernel) ?_
      exact z_zret (v := nI 0) hx hb hr hlocks hP hD hS (by decide +kernel) dX1_isWithin_19 (Or.inr ⟨rfl, rfl⟩)
    · have t_c_4 := z_lltF (fun h => c_4 ((lg_cmp_gt _ _).mpr h))
      have f_6 : zL 0 60 (pa0) := zL_lex t_c_4 f_3 (zR_i2l hpa2) (by decide)
      refine lv_iconst (v := nI 1) hx hb dX1_isWithin_14 (by decide +kernel) ?_
      refine lv_goto (tgt := 19) hx hb dX1_isWithin_15 (by decide) ?_
      exact z_zret (v := nI 1) hx hb hr hlocks hP hD hS (by decide +kernel) dX1_isWithin_19 (Or.inl ⟨rfl, rfl, f_6⟩)
