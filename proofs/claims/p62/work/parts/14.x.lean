set_option maxHeartbeats 4000000 in
set_option maxRecDepth 100000 in
theorem xk_X10_change (l : Launch) (D : va_G) (q : Nat → Nat) (cA : Nat → ClassId) (F : Nat → Nat → Int32) (I R : Nat → Nat → Int32) (J : Nat → Nat → Int64) (hI : xInv F (I, R, J)) (pa0 : Int32) (pa1 : Int32) : zMi l D vwCl (zXtys cA) 81 q (zXd q cA) yX10_change cX10_change 5 (some .int) ({ frames := 2, cells := 0, slots := 0, locals := 44 } : Room) [.ref (q 0), .int (pa0), .int (pa1)] (I, R, J) (fun r u => zR (-2) 55 r ∧ u = (I, R, J)) := by
  intro sz
  refine z_body (by decide +kernel) (Nat.le_of_ble_eq_true rfl) (fun p e s m below meth c ls hx hb hml hr ht hown hlocks hsz hK hP hD hS hl => ?_)
  have hA : ∀ a, s.heap.size ≤ a → zA 81 q sz a := fun a h => Or.inr (hsz ▸ h)
  have hl : lv_has ls 5 [(0, .ref (q 0)), (1, .int (pa0)), (2, .int (pa1))] := hl
  refine lv_aload_n hx hb dX10_change_0 rfl (lv_at hl 0 rfl) ?_
  refine lv_iload_n hx hb dX10_change_1 rfl (lv_at hl 1 rfl) ?_
  refine z_callVi (k := 0) (As := [.int (pa0)]) (rest := []) hx hb hml hown ht (xk_X10_isHouse l D q cA F _ _ _ hI (pa0)) hw_3_59 hmX10_isHouse ⟨rfl, rfl⟩ (na := 1) rfl (by decide +kernel) (by decide) (by decide) rfl rfl hK hP hD hS hA hl.1 rfl (Nat.le_of_ble_eq_true rfl) ⟨Nat.zero_le _, Nat.zero_le _⟩ dX10_change_2 (fun r_1 I_1 R_1 J_1 H locs hp_1 hP hD hS _ _ => ?_)
  rcases hp_1 with ⟨rfl, hu_1, f0_1⟩ | ⟨rfl, hu_1⟩
  · cases hu_1
    refine lv_if_eq (tgt := 21) hx hb dX10_change_5 (by decide) (fun c_0 => absurd c_0 (zD_ne zk_1 zk_z (by decide))) (fun _ => ?_)
    refine lv_aload_n hx hb dX10_change_8 rfl (lv_at hl 0 rfl) ?_
    refine lv_iload_n hx hb dX10_change_9 rfl (lv_at hl 2 rfl) ?_
    refine z_callVi (k := 0) (As := [.int (pa1)]) (rest := []) hx hb hml hown ht (xk_X10_isHouse l D q cA F _ _ _ hI (pa1)) hw_3_59 hmX10_isHouse ⟨rfl, rfl⟩ (na := 1) rfl (by decide +kernel) (by decide) (by decide) rfl rfl hK hP hD hS hA hl.1 rfl (Nat.le_of_ble_eq_true rfl) ⟨Nat.zero_le _, Nat.zero_le _⟩ dX10_change_10 (fun r_2 I_2 R_2 J_2 H locs hp_2 hP hD hS _ _ => ?_)
    rcases hp_2 with ⟨rfl, hu_2, f0_2⟩ | ⟨rfl, hu_2⟩
    · cases hu_2
      refine lv_if_eq (tgt := 21) hx hb dX10_change_13 (by decide) (fun c_0 => absurd c_0 (zD_ne zk_1 zk_z (by decide))) (fun _ => ?_)
      refine lv_iload_n hx hb dX10_change_16 rfl (lv_at hl 1 rfl) ?_
      refine lv_iload_n hx hb dX10_change_17 rfl (lv_at hl 2 rfl) ?_
      refine lv_icmp_ne (tgt := 24) hx hb dX10_change_18 (by decide) (fun c_3 => ?_) (fun c_3 => ?_)
      · have t_c_3 := z_eqF c_3
        refine lv_iconst (v := nI 0) hx hb dX10_change_24 (by decide +kernel) ?_
        refine lv_istore_n (lv' := [(3, .int (nI 0)), (0, .ref (q 0)), (1, .int (pa0)), (2, .int (pa1))]) hx hb dX10_change_25 rfl hl (by decide) rfl (fun ls hl => ?_)
        have loop_379 : ∀ N : Nat, ∀ x_378 : Int32, zR 0 6 x_378 → (2147483648 - (x_378).toInt).toNat < N → ∀ (H : Heap) (locs : List Loc), va_P D vwCl (zw 81 q (zXd q cA) I R J) H → va_D (zA 81 q sz) (zw 81 q (zXd q cA) I R J) → va_S (zA 81 q sz) s.heap H locs → ∀ ls : Array Slot, lv_has ls 5 [(0, .ref (q 0)), (1, .int (pa0)), (2, .int (pa1)), (3, .int (x_378))] → W p l e ({ frames := 2, cells := 0, slots := 0, locals := 44 } : Room) s m ([.ref (q 0), .int (pa0), .int (pa1)] : List Value).toArray below meth c H locs 0 0 (MQ below (va_Qi (fun r u => zR (-2) 55 r ∧ u = (I, R, J)) (zB D vwCl 81 q (zXd q cA) sz) (zA 81 q sz)) ([.ref (q 0), .int (pa0), .int (pa1)] : List Value).toArray s 0 0 (zA 81 q sz)) (F0 m 26 ls []) := by
          intro N
          induction N with
          | zero => intro x_378 hx_378 hN; exact absurd hN (Nat.not_lt_zero _)
          | succ N ih_381 =>
            intro x_378 hx_378 hN_380 H locs hP hD hS ls hl
            refine lv_iload_n hx hb dX10_change_26 rfl (lv_at hl 3 rfl) ?_
            refine lv_aload_n hx hb dX10_change_27 rfl (lv_at hl 0 rfl) ?_
            refine z_get hx hb ht hown hK hP ziX10 rfl 0 (by decide) 1 (by decide) hw_2_94 rfl (v := .ref (q 3)) rfl dX10_change_28 ?_
            refine z_get hx hb ht hown hK hP ziX2 rfl 3 (by decide) 5 (by decide) hw_1_93 rfl (v := .int (I 3 5)) rfl dX10_change_31 ?_
            have f_382 : zR 0 6 (I 3 5) := xI hI 3 5
            refine lv_icmp_ge (tgt := 143) hx hb dX10_change_34 (by decide) (fun c_383 => ?_) (fun c_383 => ?_)
            · have t_c_383 := z_leT c_383
              refine lv_iconst (v := (-1)) hx hb dX10_change_143 (by decide +kernel) ?_
              exact z_iret (v := (-1)) hx hb hr hlocks hP hD hS dX10_change_144 ⟨(zR_w zk_m1 (by decide)), rfl⟩
            · have t_c_383 := z_leF c_383
              have f_384 : zR 0 5 (x_378) := zR_ltx t_c_383 hx_378 f_382 (by decide)
              have f_385 : zR 1 6 (I 3 5) := zR_lty t_c_383 hx_378 f_382 (by decide)
              refine lv_iconst (v := nI 0) hx hb dX10_change_37 (by decide +kernel) ?_
              refine lv_istore (lv' := [(4, .int (nI 0)), (0, .ref (q 0)), (1, .int (pa0)), (2, .int (pa1)), (3, .int (x_378))]) hx hb dX10_change_38 hl (by decide) rfl (fun ls hl => ?_)
              have loop_478 : ∀ N : Nat, ∀ x_477 : Int32, zR 0 6 x_477 → (2147483648 - (x_477).toInt).toNat < N → ∀ (H : Heap) (locs : List Loc), va_P D vwCl (zw 81 q (zXd q cA) I R J) H → va_D (zA 81 q sz) (zw 81 q (zXd q cA) I R J) → va_S (zA 81 q sz) s.heap H locs → ∀ ls : Array Slot, lv_has ls 5 [(0, .ref (q 0)), (1, .int (pa0)), (2, .int (pa1)), (3, .int (x_378)), (4, .int (x_477))] → W p l e ({ frames := 2, cells := 0, slots := 0, locals := 44 } : Room) s m ([.ref (q 0), .int (pa0), .int (pa1)] : List Value).toArray below meth c H locs 0 0 (MQ below (va_Qi (fun r u => zR (-2) 55 r ∧ u = (I, R, J)) (zB D vwCl 81 q (zXd q cA) sz) (zA 81 q sz)) ([.ref (q 0), .int (pa0), .int (pa1)] : List Value).toArray s 0 0 (zA 81 q sz)) (F0 m 40 ls []) := by
                intro N
                induction N with
                | zero => intro x_477 hx_477 hN; exact absurd hN (Nat.not_lt_zero _)
                | succ N ih_480 =>
                  intro x_477 hx_477 hN_479 H locs hP hD hS ls hl
                  refine lv_iload hx hb dX10_change_40 (lv_at hl 4 rfl) ?_
                  refine lv_aload_n hx hb dX10_change_42 rfl (lv_at hl 0 rfl) ?_
                  refine z_get hx hb ht hown hK hP ziX10 rfl 0 (by decide) 1 (by decide) hw_2_94 rfl (v := .ref (q 3)) rfl dX10_change_43 ?_
                  refine z_get hx hb ht hown hK hP ziX2 rfl 3 (by decide) 5 (by decide) hw_1_93 rfl (v := .int (I 3 5)) rfl dX10_change_46 ?_
                  refine lv_icmp_ge (tgt := 137) hx hb dX10_change_49 (by decide) (fun c_481 => ?_) (fun c_481 => ?_)
                  · have t_c_481 := z_leT c_481
                    have f_482 : zR 1 6 (x_477) := zR_ley t_c_481 f_385 hx_477 (by decide)
                    obtain ⟨v_483, ev_483⟩ : ∃ y : Int32, y = x_378 + nI 1 := ⟨_, rfl⟩
                    have hv_483 : zR 1 6 v_483 := ev_483 ▸ zR_add f_384 zk_1 (by decide)
                    have mv_483 : v_483.toInt = (x_378).toInt + 1 := by rw [ev_483, zR_addE f_384 zk_1 (by decide)]; rfl
                    refine lv_iinc (v := v_483) (lv' := [(3, .int (v_483)), (0, .ref (q 0)), (1, .int (pa0)), (2, .int (pa1)), (4, .int (x_477))]) hx hb dX10_change_137 hl (k := 3) rfl (ev_483 ▸ rfl) (by decide) rfl (fun ls hl => ?_)
                    refine lv_goto (tgt := 26) hx hb dX10_change_140 (by decide) ?_
                    exact ih_381 (v_483) (zR_w hv_483 (by decide)) (z2_up mv_483 (by decide) hN_380) _ _ hP hD hS _ (lv_sub hl [1, 2, 3, 0] rfl)
                  · have t_c_481 := z_leF c_481
                    have f_484 : zR 0 5 (x_477) := zR_ltx t_c_481 hx_477 f_385 (by decide)
                    refine lv_aload_n hx hb dX10_change_52 rfl (lv_at hl 0 rfl) ?_
                    refine z_get hx hb ht hown hK hP ziX10 rfl 0 (by decide) 4 (by decide) hw_2_97 rfl (v := .ref (q 15)) rfl dX10_change_53 ?_
                    refine z_get hx hb ht hown hK hP ziX9 rfl 15 (by decide) 5 (by decide) hw_1_168 rfl (v := .ref (q 17)) rfl dX10_change_56 ?_
                    refine lv_iload_n hx hb dX10_change_59 rfl (lv_at hl 3 rfl) ?_
                    refine z_iald hx hb hK hP 17 (by decide) 11 rfl rfl (zR_vin f_384 (by decide)) dX10_change_60 ?_
                    refine z_eqi (y := R 17 (x_378).toNatClampNeg) rfl ?_
                    have f_485 : zR 0 4 (R 17 (x_378).toNatClampNeg) := xR hI 17 (x_378).toNatClampNeg
                    refine lv_iload_n hx hb dX10_change_61 rfl (lv_at hl 1 rfl) ?_
                    refine lv_icmp_ne (tgt := 131) hx hb dX10_change_62 (by decide) (fun c_486 => ?_) (fun c_486 => ?_)
                    · have t_c_486 := z_eqF c_486
                      obtain ⟨v_487, ev_487⟩ : ∃ y : Int32, y = x_477 + nI 1 := ⟨_, rfl⟩
                      have hv_487 : zR 1 6 v_487 := ev_487 ▸ zR_add f_484 zk_1 (by decide)
                      have mv_487 : v_487.toInt = (x_477).toInt + 1 := by rw [ev_487, zR_addE f_484 zk_1 (by decide)]; rfl
                      refine lv_iinc (v := v_487) (lv' := [(4, .int (v_487)), (0, .ref (q 0)), (1, .int (pa0)), (2, .int (pa1)), (3, .int (x_378))]) hx hb dX10_change_131 hl (k := 4) rfl (ev_487 ▸ rfl) (by decide) rfl (fun ls hl => ?_)
                      refine lv_goto (tgt := 40) hx hb dX10_change_134 (by decide) ?_
                      exact ih_480 (v_487) (zR_w hv_487 (by decide)) (z2_up mv_487 (by decide) hN_479) _ _ hP hD hS _ (lv_sub hl [1, 2, 3, 4, 0] rfl)
                    · have t_c_486 := z_eqT c_486
                      refine lv_aload_n hx hb dX10_change_65 rfl (lv_at hl 0 rfl) ?_
                      refine z_get hx hb ht hown hK hP ziX10 rfl 0 (by decide) 4 (by decide) hw_2_97 rfl (v := .ref (q 15)) rfl dX10_change_66 ?_
                      refine z_get hx hb ht hown hK hP ziX9 rfl 15 (by decide) 5 (by decide) hw_1_168 rfl (v := .ref (q 17)) rfl dX10_change_69 ?_
                      refine lv_iload hx hb dX10_change_72 (lv_at hl 4 rfl) ?_
                      refine z_iald hx hb hK hP 17 (by decide) 11 rfl rfl (zR_vin f_484 (by decide)) dX10_change_74 ?_
                      refine z_eqi (y := R 17 (x_477).toNatClampNeg) rfl ?_
                      have f_488 : zR 0 4 (R 17 (x_477).toNatClampNeg) := xR hI 17 (x_477).toNatClampNeg
                      refine lv_iload_n hx hb dX10_change_75 rfl (lv_at hl 2 rfl) ?_
                      refine lv_icmp_ne (tgt := 131) hx hb dX10_change_76 (by decide) (fun c_489 => ?_) (fun c_489 => ?_)
                      · have t_c_489 := z_eqF c_489
                        obtain ⟨v_490, ev_490⟩ : ∃ y : Int32, y = x_477 + nI 1 := ⟨_, rfl⟩
                        have hv_490 : zR 1 6 v_490 := ev_490 ▸ zR_add f_484 zk_1 (by decide)
                        have mv_490 : v_490.toInt = (x_477).toInt + 1 := by rw [ev_490, zR_addE f_484 zk_1 (by decide)]; rfl
                        refine lv_iinc (v := v_490) (lv' := [(4, .int (v_490)), (0, .ref (q 0)), (1, .int (pa0)), (2, .int (pa1)), (3, .int (x_378))]) hx hb dX10_change_131 hl (k := 4) rfl (ev_490 ▸ rfl) (by decide) rfl (fun ls hl => ?_)
                        refine lv_goto (tgt := 40) hx hb dX10_change_134 (by decide) ?_
                        exact ih_480 (v_490) (zR_w hv_490 (by decide)) (z2_up mv_490 (by decide) hN_479) _ _ hP hD hS _ (lv_sub hl [1, 2, 3, 4, 0] rfl)
                      · have t_c_489 := z_eqT c_489
                        refine lv_aload_n hx hb dX10_change_79 rfl (lv_at hl 0 rfl) ?_
                        refine z_get hx hb ht hown hK hP ziX10 rfl 0 (by decide) 1 (by decide) hw_2_94 rfl (v := .ref (q 3)) rfl dX10_change_80 ?_
                        refine lv_iload_n hx hb dX10_change_83 rfl (lv_at hl 1 rfl) ?_
                        refine lv_iload hx hb dX10_change_84 (lv_at hl 4 rfl) ?_
                        refine z_callVi (k := 3) (As := [.int (pa0), .int (x_477)]) (rest := []) hx hb hml hown ht (xk_X2_valueTo l D q cA F _ _ _ hI (pa0) f0_1 (x_477) f_484) hw_3_95 hmX2_valueTo ⟨rfl, rfl⟩ (na := 2) rfl (by decide +kernel) (by decide) (by decide) rfl rfl hK hP hD hS hA hl.1 rfl (Nat.le_of_ble_eq_true rfl) ⟨Nat.zero_le _, Nat.zero_le _⟩ dX10_change_86 (fun r_491 I_491 R_491 J_491 H locs hp_491 hP hD hS _ _ => ?_)
                        cases hp_491
                        refine lv_aload_n hx hb dX10_change_89 rfl (lv_at hl 0 rfl) ?_
                        refine z_get hx hb ht hown hK hP ziX10 rfl 0 (by decide) 1 (by decide) hw_2_94 rfl (v := .ref (q 3)) rfl dX10_change_90 ?_
                        refine lv_iload_n hx hb dX10_change_93 rfl (lv_at hl 1 rfl) ?_
                        refine lv_iload_n hx hb dX10_change_94 rfl (lv_at hl 3 rfl) ?_
                        refine z_callVi (k := 3) (As := [.int (pa0), .int (x_378)]) (rest := [.int (r_491)]) hx hb hml hown ht (xk_X2_valueTo l D q cA F _ _ _ hI (pa0) f0_1 (x_378) f_384) hw_3_95 hmX2_valueTo ⟨rfl, rfl⟩ (na := 2) rfl (by decide +kernel) (by decide) (by decide) rfl rfl hK hP hD hS hA hl.1 rfl (Nat.le_of_ble_eq_true rfl) ⟨Nat.zero_le _, Nat.zero_le _⟩ dX10_change_95 (fun r_492 I_492 R_492 J_492 H locs hp_492 hP hD hS _ _ => ?_)
                        cases hp_492
                        refine lv_icmp_le (tgt := 131) hx hb dX10_change_98 (by decide) (fun c_493 => ?_) (fun c_493 => ?_)
                        · have t_c_493 := z_leT c_493
                          obtain ⟨v_494, ev_494⟩ : ∃ y : Int32, y = x_477 + nI 1 := ⟨_, rfl⟩
                          have hv_494 : zR 1 6 v_494 := ev_494 ▸ zR_add f_484 zk_1 (by decide)
                          have mv_494 : v_494.toInt = (x_477).toInt + 1 := by rw [ev_494, zR_addE f_484 zk_1 (by decide)]; rfl
                          refine lv_iinc (v := v_494) (lv' := [(4, .int (v_494)), (0, .ref (q 0)), (1, .int (pa0)), (2, .int (pa1)), (3, .int (x_378))]) hx hb dX10_change_131 hl (k := 4) rfl (ev_494 ▸ rfl) (by decide) rfl (fun ls hl => ?_)
                          refine lv_goto (tgt := 40) hx hb dX10_change_134 (by decide) ?_
                          exact ih_480 (v_494) (zR_w hv_494 (by decide)) (z2_up mv_494 (by decide) hN_479) _ _ hP hD hS _ (lv_sub hl [1, 2, 3, 4, 0] rfl)
                        · have t_c_493 := z_leF c_493
                          have f_495 : zR (-2147483648) 2147483646 (r_492) := zR_ltx t_c_493 (zR_any (r_492)) (zR_any (r_491)) (by decide)
                          have f_496 : zR (-2147483647) 2147483647 (r_491) := zR_lty t_c_493 (zR_any (r_492)) (zR_any (r_491)) (by decide)
                          refine lv_aload_n hx hb dX10_change_101 rfl (lv_at hl 0 rfl) ?_
                          refine z_get hx hb ht hown hK hP ziX10 rfl 0 (by decide) 1 (by decide) hw_2_94 rfl (v := .ref (q 3)) rfl dX10_change_102 ?_
                          refine lv_iload_n hx hb dX10_change_105 rfl (lv_at hl 2 rfl) ?_
                          refine lv_iload_n hx hb dX10_change_106 rfl (lv_at hl 3 rfl) ?_
                          refine z_callVi (k := 3) (As := [.int (pa1), .int (x_378)]) (rest := []) hx hb hml hown ht (xk_X2_valueTo l D q cA F _ _ _ hI (pa1) f0_2 (x_378) f_384) hw_3_95 hmX2_valueTo ⟨rfl, rfl⟩ (na := 2) rfl (by decide +kernel) (by decide) (by decide) rfl rfl hK hP hD hS hA hl.1 rfl (Nat.le_of_ble_eq_true rfl) ⟨Nat.zero_le _, Nat.zero_le _⟩ dX10_change_107 (fun r_497 I_497 R_497 J_497 H locs hp_497 hP hD hS _ _ => ?_)
                          cases hp_497
                          refine lv_aload_n hx hb dX10_change_110 rfl (lv_at hl 0 rfl) ?_
                          refine z_get hx hb ht hown hK hP ziX10 rfl 0 (by decide) 1 (by decide) hw_2_94 rfl (v := .ref (q 3)) rfl dX10_change_111 ?_
                          refine lv_iload_n hx hb dX10_change_114 rfl (lv_at hl 2 rfl) ?_
                          refine lv_iload hx hb dX10_change_115 (lv_at hl 4 rfl) ?_
                          refine z_callVi (k := 3) (As := [.int (pa1), .int (x_477)]) (rest := [.int (r_497)]) hx hb hml hown ht (xk_X2_valueTo l D q cA F _ _ _ hI (pa1) f0_2 (x_477) f_484) hw_3_95 hmX2_valueTo ⟨rfl, rfl⟩ (na := 2) rfl (by decide +kernel) (by decide) (by decide) rfl rfl hK hP hD hS hA hl.1 rfl (Nat.le_of_ble_eq_true rfl) ⟨Nat.zero_le _, Nat.zero_le _⟩ dX10_change_117 (fun r_498 I_498 R_498 J_498 H locs hp_498 hP hD hS _ _ => ?_)
                          cases hp_498
                          refine lv_icmp_le (tgt := 131) hx hb dX10_change_120 (by decide) (fun c_499 => ?_) (fun c_499 => ?_)
                          · have t_c_499 := z_leT c_499
                            obtain ⟨v_500, ev_500⟩ : ∃ y : Int32, y = x_477 + nI 1 := ⟨_, rfl⟩
                            have hv_500 : zR 1 6 v_500 := ev_500 ▸ zR_add f_484 zk_1 (by decide)
                            have mv_500 : v_500.toInt = (x_477).toInt + 1 := by rw [ev_500, zR_addE f_484 zk_1 (by decide)]; rfl
                            refine lv_iinc (v := v_500) (lv' := [(4, .int (v_500)), (0, .ref (q 0)), (1, .int (pa0)), (2, .int (pa1)), (3, .int (x_378))]) hx hb dX10_change_131 hl (k := 4) rfl (ev_500 ▸ rfl) (by decide) rfl (fun ls hl => ?_)
                            refine lv_goto (tgt := 40) hx hb dX10_change_134 (by decide) ?_
                            exact ih_480 (v_500) (zR_w hv_500 (by decide)) (z2_up mv_500 (by decide) hN_479) _ _ hP hD hS _ (lv_sub hl [1, 2, 3, 4, 0] rfl)
                          · have t_c_499 := z_leF c_499
                            have f_501 : zR (-2147483648) 2147483646 (r_498) := zR_ltx t_c_499 (zR_any (r_498)) (zR_any (r_497)) (by decide)
                            have f_502 : zR (-2147483647) 2147483647 (r_497) := zR_lty t_c_499 (zR_any (r_498)) (zR_any (r_497)) (by decide)
                            refine lv_bipush (v := nI 10) hx hb dX10_change_123 (by decide +kernel) ?_
                            refine lv_iload_n hx hb dX10_change_125 rfl (lv_at hl 3 rfl) ?_
                            refine lv_imul hx hb dX10_change_126 ?_
                            refine z_rng (a := 0) (b := 50) (zR_mul zk_10 f_384 (by decide)) (fun v_503 hv_503 => ?_)
                            refine lv_iload hx hb dX10_change_127 (lv_at hl 4 rfl) ?_
                            refine lv_iadd hx hb dX10_change_129 ?_
                            refine z_rng (a := 0) (b := 55) (zR_add hv_503 f_484 (by decide)) (fun v_504 hv_504 => ?_)
                            exact z_iret (v := v_504) hx hb hr hlocks hP hD hS dX10_change_130 ⟨(zR_w hv_504 (by decide)), rfl⟩
              exact loop_478 _ (nI 0) (zR_w zk_0 (by decide)) (Nat.lt_succ_self _) _ _ hP hD hS _ (lv_sub hl [1, 2, 3, 4, 0] rfl)
        exact loop_379 _ (nI 0) (zR_w zk_0 (by decide)) (Nat.lt_succ_self _) _ _ hP hD hS _ (lv_sub hl [1, 2, 3, 0] rfl)
      · have t_c_3 := z_eqT c_3
        refine lv_bipush (v := (-2)) hx hb dX10_change_21 (by decide +kernel) ?_
        exact z_iret (v := (-2)) hx hb hr hlocks hP hD hS dX10_change_23 ⟨(zR_w zk_m2 (by decide)), rfl⟩
    · cases hu_2
      refine lv_if_eq (tgt := 21) hx hb dX10_change_13 (by decide) (fun _ => ?_) (fun c_0 => absurd (zD_eq zk_0 zk_z) c_0)
      refine lv_bipush (v := (-2)) hx hb dX10_change_21 (by decide +kernel) ?_
      exact z_iret (v := (-2)) hx hb hr hlocks hP hD hS dX10_change_23 ⟨(zR_w zk_m2 (by decide)), rfl⟩
  · cases hu_1
    refine lv_if_eq (tgt := 21) hx hb dX10_change_5 (by decide) (fun _ => ?_) (fun c_0 => absurd (zD_eq zk_0 zk_z) c_0)
    refine lv_bipush (v := (-2)) hx hb dX10_change_21 (by decide +kernel) ?_
    exact z_iret (v := (-2)) hx hb hr hlocks hP hD hS dX10_change_23 ⟨(zR_w zk_m2 (by decide)), rfl⟩
set_option maxHeartbeats 4000000 in
set_option maxRecDepth 100000 in
theorem xk_X3_with_3 (l : Launch) (D : va_G) (q : Nat → Nat) (cA : Nat → ClassId) (F : Nat → Nat → Int32) (I R : Nat → Nat → Int32) (J : Nat → Nat → Int64) (hI : xInv F (I, R, J)) (pa1 : Int32) (hpa1 : zR 0 5 pa1) (pa2 : Int32) (hpa2 : zR 0 31 pa2) (pa3 : Int32) (hpa3 : zR 0 4 pa3) : zMi l D vwCl (zXtys cA) 81 q (zXd q cA) yX3_with cX3_with 6 (some .int) ({ frames := 2, cells := 0, slots := 0, locals := 44 } : Room) [.ref (q 43), .ref (q 3), .int (pa1), .int (pa2), .int (pa3)] (I, R, J) (fun _ u => u = (I, R, J)) := by
  intro sz
  refine z_body (by decide +kernel) (Nat.le_of_ble_eq_true rfl) (fun p e s m below meth c ls hx hb hml hr ht hown hlocks hsz hK hP hD hS hl => ?_)
  have hA : ∀ a, s.heap.size ≤ a → zA 81 q sz a := fun a h => Or.inr (hsz ▸ h)
  have hl : lv_has ls 6 [(0, .ref (q 43)), (1, .ref (q 3)), (2, .int (pa1)), (3, .int (pa2)), (4, .int (pa3))] := hl
  refine lv_iconst (v := nI 1) hx hb dX3_with_0 (by decide +kernel) ?_
  refine lv_iload hx hb dX3_with_1 (lv_at hl 4 rfl) ?_
  refine lv_ishl hx hb dX3_with_3 ?_
  refine z_rng (a := 1) (b := 16) (zR_shl1 4 hpa3 (by decide)) (fun v_1 hv_1 => ?_)
  refine lv_istore (lv' := [(5, .int (v_1)), (0, .ref (q 43)), (1, .ref (q 3)), (2, .int (pa1)), (3, .int (pa2)), (4, .int (pa3))]) hx hb dX3_with_4 hl (by decide) rfl (fun ls hl => ?_)
  refine lv_iload_n hx hb dX3_with_6 rfl (lv_at hl 4 rfl) ?_
  refine lv_iload hx hb dX3_with_7 (lv_at hl 0 rfl) ?_
  refine lv_iand hx hb dX3_with_9 ?_
  refine z_rng (a := 0) (b := 16) (zR_andr hv_1 (by decide)) (fun v_2 hv_2 => ?_)
  refine lv_if_eq (tgt := 15) hx hb dX3_with_10 (by decide) (fun c_3 => ?_) (fun c_3 => ?_)
  · have t_c_3 := z_eqT c_3
    have f_4 : zR 0 0 (v_2) := zR_eqx t_c_3 zk_z
    refine lv_aload_n hx hb dX3_with_15 rfl (lv_at hl 2 rfl) ?_
    refine lv_iload hx hb dX3_with_16 (lv_at hl 5 rfl) ?_
    refine lv_iload_n hx hb dX3_with_18 rfl (lv_at hl 3 rfl) ?_
    refine z_callVi (k := 3) (As := [.int (pa3), .int (pa1)]) (rest := []) hx hb hml hown ht (xk_X2_valueTo l D q cA F _ _ _ hI (pa3) hpa3 (pa1) hpa1) hw_5_10 hmX2_valueTo ⟨rfl, rfl⟩ (na := 2) rfl (by decide +kernel) (by decide) (by decide) rfl rfl hK hP hD hS hA hl.1 rfl (Nat.le_of_ble_eq_true rfl) ⟨Nat.zero_le _, Nat.zero_le _⟩ dX3_with_19 (fun r_5 I_5 R_5 J_5 H locs hp_5 hP hD hS _ _ => ?_)
    cases hp_5
    refine lv_aload_n hx hb dX3_with_22 rfl (lv_at hl 1 rfl) ?_
    refine z_get hx hb ht hown hK hP ziX3 rfl 43 (by decide) 0 (by decide) hw_2_14 rfl (v := .ref (q 44)) rfl dX3_with_23 ?_
    refine lv_iload_n hx hb dX3_with_26 rfl (lv_at hl 3 rfl) ?_
    refine lv_iconst (v := nI 1) hx hb dX3_with_27 (by decide +kernel) ?_
    refine lv_iadd hx hb dX3_with_28 ?_
    refine z_addc 1 6 hpa1 zk_1 (by decide) (fun v_6 hv_6 mv_6 => ?_)
    refine lv_bipush (v := nI 32) hx hb dX3_with_29 (by decide +kernel) ?_
    refine lv_imul hx hb dX3_with_31 ?_
    refine z_rng (a := 0) (b := 192) (zR_mul hv_6 zk_32 (by decide)) (fun v_7 hv_7 => ?_)
    refine lv_iload_n hx hb dX3_with_32 rfl (lv_at hl 4 rfl) ?_
    refine lv_iload hx hb dX3_with_33 (lv_at hl 0 rfl) ?_
    refine lv_ior hx hb dX3_with_35 ?_
    refine z_rng (a := 0) (b := 31) (zR_or 5 hpa2 hv_1 (by decide)) (fun v_8 hv_8 => ?_)
    refine lv_iadd hx hb dX3_with_36 ?_
    refine z_rng (a := 0) (b := 223) (zR_add hv_7 hv_8 (by decide)) (fun v_9 hv_9 => ?_)
    refine z_iald hx hb hK hP 44 (by decide) 35 rfl rfl (zR_vin hv_9 (by decide)) dX3_with_37 ?_
    refine z_eqi (y := R 44 (v_9).toNatClampNeg) rfl ?_
    refine lv_iadd hx hb dX3_with_38 ?_
    refine z_any (fun v_10 => ?_)
    exact z_iret (v := v_10) hx hb hr hlocks hP hD hS dX3_with_39 rfl
  · have t_c_3 := z_eqF c_3
    have f_11 : zR 1 16 (v_2) := zR_nex t_c_3 hv_2 zk_z (by decide)
    refine lv_iconst (v := (-1)) hx hb dX3_with_13 (by decide +kernel) ?_
    exact z_iret (v := (-1)) hx hb hr hlocks hP hD hS dX3_with_14 rfl
set_option maxHeartbeats 4000000 in
set_option maxRecDepth 100000 in
theorem xk_X3_weigh (l : Launch) (D : va_G) (q : Nat → Nat) (cA : Nat → ClassId) (F : Nat → Nat → Int32) (I R : Nat → Nat → Int32) (J : Nat → Nat → Int64) (hI : xInv F (I, R, J))  : zMv l D vwCl (zXtys cA) 81 q (zXd q cA) yX3_weigh cX3_weigh 7 none ({ frames := 3, cells := 0, slots := 0, locals := 69 } : Room) [.ref (q 43), .ref (q 3)] (I, R, J) (fun u => xInv F u) := by
  intro sz
  refine z_body (by decide +kernel) (Nat.le_of_ble_eq_true rfl) (fun p e s m below meth c ls hx hb hml hr ht hown hlocks hsz hK hP hD hS hl => ?_)
  have hA : ∀ a, s.heap.size ≤ a → zA 81 q sz a := fun a h => Or.inr (hsz ▸ h)
  have hl : lv_has ls 7 [(0, .ref (q 43)), (1, .ref (q 3))] := hl
  refine lv_iconst (v := nI 1) hx hb dX3_weigh_0 (by decide +kernel) ?_
  refine lv_aload_n hx hb dX3_weigh_1 rfl (lv_at hl 1 rfl) ?_
  refine z_get hx hb ht hown hK hP ziX2 rfl 3 (by decide) 4 (by decide) hw_1_83 rfl (v := .int (I 3 4)) rfl dX3_weigh_2 ?_
  have f_1 : zR 0 5 (I 3 4) := xI hI 3 4
  refine lv_ishl hx hb dX3_weigh_5 ?_
  refine z_rng (a := 1) (b := 32) (zR_shl1 5 f_1 (by decide)) (fun v_2 hv_2 => ?_)
  refine lv_istore_n (lv' := [(2, .int (v_2)), (0, .ref (q 43)), (1, .ref (q 3))]) hx hb dX3_weigh_6 rfl hl (by decide) rfl (fun ls hl => ?_)
  refine lv_iconst (v := nI 0) hx hb dX3_weigh_7 (by decide +kernel) ?_
  refine lv_istore_n (lv' := [(3, .int (nI 0)), (2, .int (v_2)), (0, .ref (q 43)), (1, .ref (q 3))]) hx hb dX3_weigh_8 rfl hl (by decide) rfl (fun ls hl => ?_)
  have loop_39 : ∀ N : Nat, ∀ x_37 : Int32, zR 0 32 x_37 → ∀ R_38 : Nat → Nat → Int32, xInv F (I, R_38, J) → (2147483648 - (x_37).toInt).toNat < N → ∀ (H : Heap) (locs : List Loc), va_P D vwCl (zw 81 q (zXd q cA) I R_38 J) H → va_D (zA 81 q sz) (zw 81 q (zXd q cA) I R_38 J) → va_S (zA 81 q sz) s.heap H locs → ∀ ls : Array Slot, lv_has ls 7 [(0, .ref (q 43)), (1, .ref (q 3)), (2, .int (v_2)), (3, .int (x_37))] → W p l e ({ frames := 3, cells := 0, slots := 0, locals := 69 } : Room) s m ([.ref (q 43), .ref (q 3)] : List Value).toArray below meth c H locs 0 0 (MQ below (va_Qv (fun u => xInv F u) (zB D vwCl 81 q (zXd q cA) sz) (zA 81 q sz)) ([.ref (q 43), .ref (q 3)] : List Value).toArray s 0 0 (zA 81 q sz)) (F0 m 9 ls []) := by
    intro N
    induction N with
    | zero => intro x_37 hx_37 R_38 hI_38 hN; exact absurd hN (Nat.not_lt_zero _)
    | succ N ih_41 =>
      intro x_37 hx_37 R_38 hI_38 hN_40 H locs hP hD hS ls hl
      refine lv_iload_n hx hb dX3_weigh_9 rfl (lv_at hl 3 rfl) ?_
      refine lv_iload_n hx hb dX3_weigh_10 rfl (lv_at hl 2 rfl) ?_
      refine lv_icmp_ge (tgt := 35) hx hb dX3_weigh_11 (by decide) (fun c_42 => ?_) (fun c_42 => ?_)
      · have t_c_42 := z_leT c_42
        have f_50 : zR 1 32 (x_37) := zR_ley t_c_42 hv_2 hx_37 (by decide)
        refine lv_aload_n hx hb dX3_weigh_35 rfl (lv_at hl 1 rfl) ?_
        refine z_get hx hb ht hown hK hP ziX2 rfl 3 (by decide) 5 (by decide) hw_1_89 rfl (v := .int (I 3 5)) rfl dX3_weigh_36 ?_
        have f_51 : zR 0 6 (I 3 5) := xI hI 3 5
        refine lv_iconst (v := nI 1) hx hb dX3_weigh_39 (by decide +kernel) ?_
        refine lv_isub hx hb dX3_weigh_40 ?_
        refine z_subc (-1) 5 (-1) f_51 zk_1 (by decide) (fun v_52 hv_52 mv_52 => ?_)
        refine lv_istore_n (lv' := [(3, .int (v_52)), (0, .ref (q 43)), (1, .ref (q 3)), (2, .int (v_2))]) hx hb dX3_weigh_41 rfl hl (by decide) rfl (fun ls hl => ?_)
        have loop_401 : ∀ N : Nat, ∀ x_399 : Int32, zR (-1) 5 x_399 → ∀ R_400 : Nat → Nat → Int32, xInv F (I, R_400, J) → ((x_399).toInt + 2147483649).toNat < N → ∀ (H : Heap) (locs : List Loc), va_P D vwCl (zw 81 q (zXd q cA) I R_400 J) H → va_D (zA 81 q sz) (zw 81 q (zXd q cA) I R_400 J) → va_S (zA 81 q sz) s.heap H locs → ∀ ls : Array Slot, lv_has ls 7 [(0, .ref (q 43)), (1, .ref (q 3)), (2, .int (v_2)), (3, .int (x_399))] → W p l e ({ frames := 3, cells := 0, slots := 0, locals := 69 } : Room) s m ([.ref (q 43), .ref (q 3)] : List Value).toArray below meth c H locs 0 0 (MQ below (va_Qv (fun u => xInv F u) (zB D vwCl 81 q (zXd q cA) sz) (zA 81 q sz)) ([.ref (q 43), .ref (q 3)] : List Value).toArray s 0 0 (zA 81 q sz)) (F0 m 42 ls []) := by
          intro N
          induction N with
          | zero => intro x_399 hx_399 R_400 hI_400 hN; exact absurd hN (Nat.not_lt_zero _)
          | succ N ih_403 =>
            intro x_399 hx_399 R_400 hI_400 hN_402 H locs hP hD hS ls hl
            refine lv_iload_n hx hb dX3_weigh_42 rfl (lv_at hl 3 rfl) ?_
            refine lv_if_lt (tgt := 132) hx hb dX3_weigh_43 (by decide) (fun c_404 => ?_) (fun c_404 => ?_)
            · have t_c_404 := z_ltT c_404
              have f_405 : zR (-1) (-1) (x_399) := zR_ltx t_c_404 hx_399 zk_z (by decide)
              exact z_vret hx hb hr hlocks hP hD hS dX3_weigh_132 hI_400
            · have t_c_404 := z_ltF c_404
              have f_406 : zR 0 5 (x_399) := zR_ley t_c_404 zk_z hx_399 (by decide)
              refine lv_iconst (v := nI 0) hx hb dX3_weigh_46 (by decide +kernel) ?_
              refine lv_istore (lv' := [(4, .int (nI 0)), (0, .ref (q 43)), (1, .ref (q 3)), (2, .int (v_2)), (3, .int (x_399))]) hx hb dX3_weigh_47 hl (by decide) rfl (fun ls hl => ?_)
              have loop_575 : ∀ N : Nat, ∀ x_573 : Int32, zR 0 32 x_573 → ∀ R_574 : Nat → Nat → Int32, xInv F (I, R_574, J) → (2147483648 - (x_573).toInt).toNat < N → ∀ (H : Heap) (locs : List Loc), va_P D vwCl (zw 81 q (zXd q cA) I R_574 J) H → va_D (zA 81 q sz) (zw 81 q (zXd q cA) I R_574 J) → va_S (zA 81 q sz) s.heap H locs → ∀ ls : Array Slot, lv_has ls 7 [(0, .ref (q 43)), (1, .ref (q 3)), (2, .int (v_2)), (3, .int (x_399)), (4, .int (x_573))] → W p l e ({ frames := 3, cells := 0, slots := 0, locals := 69 } : Room) s m ([.ref (q 43), .ref (q 3)] : List Value).toArray below meth c H locs 0 0 (MQ below (va_Qv (fun u => xInv F u) (zB D vwCl 81 q (zXd q cA) sz) (zA 81 q sz)) ([.ref (q 43), .ref (q 3)] : List Value).toArray s 0 0 (zA 81 q sz)) (F0 m 49 ls []) := by
                intro N
                induction N with
                | zero => intro x_573 hx_573 R_574 hI_574 hN; exact absurd hN (Nat.not_lt_zero _)
                | succ N ih_577 =>
                  intro x_573 hx_573 R_574 hI_574 hN_576 H locs hP hD hS ls hl
                  refine lv_iload hx hb dX3_weigh_49 (lv_at hl 4 rfl) ?_
                  refine lv_iload_n hx hb dX3_weigh_51 rfl (lv_at hl 2 rfl) ?_
                  refine lv_icmp_ge (tgt := 126) hx hb dX3_weigh_52 (by decide) (fun c_578 => ?_) (fun c_578 => ?_)
                  · have t_c_578 := z_leT c_578
                    have f_619 : zR 1 32 (x_573) := zR_ley t_c_578 hv_2 hx_573 (by decide)
                    obtain ⟨v_620, ev_620⟩ : ∃ y : Int32, y = x_399 + (-1) := ⟨_, rfl⟩
                    have hv_620 : zR (-1) 4 v_620 := ev_620 ▸ zR_add f_406 zk_m1 (by decide)
                    have mv_620 : v_620.toInt = (x_399).toInt + (-1) := by rw [ev_620, zR_addE f_406 zk_m1 (by decide)]; rfl
                    refine lv_iinc (v := v_620) (lv' := [(3, .int (v_620)), (0, .ref (q 43)), (1, .ref (q 3)), (2, .int (v_2)), (4, .int (x_573))]) hx hb dX3_weigh_126 hl (k := 3) rfl (ev_620 ▸ rfl) (by decide) rfl (fun ls hl => ?_)
                    refine lv_goto (tgt := 42) hx hb dX3_weigh_129 (by decide) ?_
                    exact ih_403 (v_620) (zR_w hv_620 (by decide)) _ hI_574 (z2_dn mv_620 (by decide) hN_402) _ _ hP hD hS _ (lv_sub hl [1, 2, 3, 0] rfl)
                  · have t_c_578 := z_leF c_578
                    have f_621 : zR 0 31 (x_573) := zR_ltx t_c_578 hx_573 hv_2 (by decide)
                    refine lv_aload_n hx hb dX3_weigh_55 rfl (lv_at hl 0 rfl) ?_
                    refine z_get hx hb ht hown hK hP ziX3 rfl 43 (by decide) 0 (by decide) hw_2_14 rfl (v := .ref (q 44)) rfl dX3_weigh_56 ?_
                    refine lv_iload_n hx hb dX3_weigh_59 rfl (lv_at hl 3 rfl) ?_
                    refine lv_iconst (v := nI 1) hx hb dX3_weigh_60 (by decide +kernel) ?_
                    refine lv_iadd hx hb dX3_weigh_61 ?_
                    refine z_addc 1 6 f_406 zk_1 (by decide) (fun v_622 hv_622 mv_622 => ?_)
                    refine lv_bipush (v := nI 32) hx hb dX3_weigh_62 (by decide +kernel) ?_
                    refine lv_imul hx hb dX3_weigh_64 ?_
                    refine z_rng (a := 0) (b := 192) (zR_mul hv_622 zk_32 (by decide)) (fun v_623 hv_623 => ?_)
                    refine lv_iload hx hb dX3_weigh_65 (lv_at hl 4 rfl) ?_
                    refine lv_iadd hx hb dX3_weigh_67 ?_
                    refine z_rng (a := 0) (b := 223) (zR_add hv_623 f_621 (by decide)) (fun v_624 hv_624 => ?_)
                    refine z_iald hx hb hK hP 44 (by decide) 35 rfl rfl (zR_vin hv_624 (by decide)) dX3_weigh_68 ?_
                    refine z_eqi (y := R_574 44 (v_624).toNatClampNeg) rfl ?_
                    refine lv_istore (lv' := [(5, .int (R_574 44 (v_624).toNatClampNeg)), (0, .ref (q 43)), (1, .ref (q 3)), (2, .int (v_2)), (3, .int (x_399)), (4, .int (x_573))]) hx hb dX3_weigh_69 hl (by decide) rfl (fun ls hl => ?_)
                    refine lv_iconst (v := nI 0) hx hb dX3_weigh_71 (by decide +kernel) ?_
                    refine lv_istore (lv' := [(6, .int (nI 0)), (5, .int (R_574 44 (v_624).toNatClampNeg)), (0, .ref (q 43)), (1, .ref (q 3)), (2, .int (v_2)), (3, .int (x_399)), (4, .int (x_573))]) hx hb dX3_weigh_72 hl (by decide) rfl (fun ls hl => ?_)
                    have loop_656 : ∀ N : Nat, ∀ x_654 : Int32, ∀ x_655 : Int32, zR 0 5 x_655 → (2147483648 - (x_655).toInt).toNat < N → ∀ (H : Heap) (locs : List Loc), va_P D vwCl (zw 81 q (zXd q cA) I R_574 J) H → va_D (zA 81 q sz) (zw 81 q (zXd q cA) I R_574 J) → va_S (zA 81 q sz) s.heap H locs → ∀ ls : Array Slot, lv_has ls 7 [(0, .ref (q 43)), (1, .ref (q 3)), (2, .int (v_2)), (3, .int (x_399)), (4, .int (x_573)), (5, .int (x_654)), (6, .int (x_655))] → W p l e ({ frames := 3, cells := 0, slots := 0, locals := 69 } : Room) s m ([.ref (q 43), .ref (q 3)] : List Value).toArray below meth c H locs 0 0 (MQ below (va_Qv (fun u => xInv F u) (zB D vwCl 81 q (zXd q cA) sz) (zA 81 q sz)) ([.ref (q 43), .ref (q 3)] : List Value).toArray s 0 0 (zA 81 q sz)) (F0 m 74 ls []) := by
                      intro N
                      induction N with
                      | zero => intro x_654 x_655 hx_655 hN; exact absurd hN (Nat.not_lt_zero _)
                      | succ N ih_658 =>
                        intro x_654 x_655 hx_655 hN_657 H locs hP hD hS ls hl
                        refine lv_iload hx hb dX3_weigh_74 (lv_at hl 6 rfl) ?_
                        refine lv_aload_n hx hb dX3_weigh_76 rfl (lv_at hl 1 rfl) ?_
                        refine z_get hx hb ht hown hK hP ziX2 rfl 3 (by decide) 4 (by decide) hw_1_83 rfl (v := .int (I 3 4)) rfl dX3_weigh_77 ?_
                        refine lv_icmp_ge (tgt := 106) hx hb dX3_weigh_80 (by decide) (fun c_659 => ?_) (fun c_659 => ?_)
                        · have t_c_659 := z_leT c_659
                          refine lv_aload_n hx hb dX3_weigh_106 rfl (lv_at hl 0 rfl) ?_
                          refine z_get hx hb ht hown hK hP ziX3 rfl 43 (by decide) 0 (by decide) hw_2_14 rfl (v := .ref (q 44)) rfl dX3_weigh_107 ?_
                          refine lv_iload_n hx hb dX3_weigh_110 rfl (lv_at hl 3 rfl) ?_
                          refine lv_bipush (v := nI 32) hx hb dX3_weigh_111 (by decide +kernel) ?_
                          refine lv_imul hx hb dX3_weigh_113 ?_
                          refine z_rng (a := 0) (b := 160) (zR_mul f_406 zk_32 (by decide)) (fun v_665 hv_665 => ?_)
                          refine lv_iload hx hb dX3_weigh_114 (lv_at hl 4 rfl) ?_
                          refine lv_iadd hx hb dX3_weigh_116 ?_
                          refine z_rng (a := 0) (b := 191) (zR_add hv_665 f_621 (by decide)) (fun v_666 hv_666 => ?_)
                          refine lv_iload hx hb dX3_weigh_117 (lv_at hl 5 rfl) ?_
                          refine z_iast hx hb hK hP hD hS 44 (by decide) 35 (fun _ => rfl) rfl (zR_vin hv_666 (by decide)) dX3_weigh_119 (fun H locs hP hD hS => ?_)
                          have hI_667 := xInv_R hI_574 44 (v_666).toNatClampNeg (x_654) (zR_any _) rfl
                          obtain ⟨v_668, ev_668⟩ : ∃ y : Int32, y = x_573 + nI 1 := ⟨_, rfl⟩
                          have hv_668 : zR 1 32 v_668 := ev_668 ▸ zR_add f_621 zk_1 (by decide)
                          have mv_668 : v_668.toInt = (x_573).toInt + 1 := by rw [ev_668, zR_addE f_621 zk_1 (by decide)]; rfl
                          refine lv_iinc (v := v_668) (lv' := [(4, .int (v_668)), (0, .ref (q 43)), (1, .ref (q 3)), (2, .int (v_2)), (3, .int (x_399)), (5, .int (x_654)), (6, .int (x_655))]) hx hb dX3_weigh_120 hl (k := 4) rfl (ev_668 ▸ rfl) (by decide) rfl (fun ls hl => ?_)
                          refine lv_goto (tgt := 49) hx hb dX3_weigh_123 (by decide) ?_
                          exact ih_577 (v_668) (zR_w hv_668 (by decide)) _ hI_667 (z2_up mv_668 (by decide) hN_576) _ _ hP hD hS _ (lv_sub hl [1, 2, 3, 4, 0] rfl)
                        · have t_c_659 := z_leF c_659
                          have f_669 : zR 0 4 (x_655) := zR_ltx t_c_659 hx_655 f_1 (by decide)
                          have f_670 : zR 1 5 (I 3 4) := zR_lty t_c_659 hx_655 f_1 (by decide)
                          refine lv_iload hx hb dX3_weigh_83 (lv_at hl 5 rfl) ?_
                          refine lv_aload_n hx hb dX3_weigh_85 rfl (lv_at hl 0 rfl) ?_
                          refine lv_aload_n hx hb dX3_weigh_86 rfl (lv_at hl 1 rfl) ?_
                          refine lv_iload_n hx hb dX3_weigh_87 rfl (lv_at hl 3 rfl) ?_
                          refine lv_iload hx hb dX3_weigh_88 (lv_at hl 4 rfl) ?_
                          refine lv_iload hx hb dX3_weigh_90 (lv_at hl 6 rfl) ?_
                          refine z_callVi (k := 43) (As := [.ref (q 3), .int (x_399), .int (x_573), .int (x_655)]) (rest := [.int (x_654)]) hx hb hml hown ht (xk_X3_with_3 l D q cA F _ _ _ hI_574 (x_399) f_406 (x_573) f_621 (x_655) f_669) hw_5_6 hmX3_with ⟨rfl, rfl⟩ (na := 4) rfl (by decide +kernel) (by decide) (by decide) rfl rfl hK hP hD hS hA hl.1 rfl (Nat.le_of_ble_eq_true rfl) ⟨Nat.zero_le _, Nat.zero_le _⟩ dX3_weigh_92 (fun r_671 I_671 R_671 J_671 H locs hp_671 hP hD hS _ _ => ?_)
                          cases hp_671
                          refine va_mmax hx hb (hml.trans hl.1.symm) hown (ht _ hw_5_11) (ht _ hw_5_12) (ht _ hw_1_19) (ht _ hw_5_13) (by decide) (Nat.le_of_ble_eq_true rfl) (Nat.zero_le _) (Nat.zero_le _) dX3_weigh_95 ?_
                          refine z_any (fun v_672 => ?_)
                          refine lv_istore (lv' := [(5, .int (v_672)), (0, .ref (q 43)), (1, .ref (q 3)), (2, .int (v_2)), (3, .int (x_399)), (4, .int (x_573)), (6, .int (x_655))]) hx hb dX3_weigh_98 hl (by decide) rfl (fun ls hl => ?_)
                          obtain ⟨v_673, ev_673⟩ : ∃ y : Int32, y = x_655 + nI 1 := ⟨_, rfl⟩
                          have hv_673 : zR 1 5 v_673 := ev_673 ▸ zR_add f_669 zk_1 (by decide)
                          have mv_673 : v_673.toInt = (x_655).toInt + 1 := by rw [ev_673, zR_addE f_669 zk_1 (by decide)]; rfl
                          refine lv_iinc (v := v_673) (lv' := [(6, .int (v_673)), (5, .int (v_672)), (0, .ref (q 43)), (1, .ref (q 3)), (2, .int (v_2)), (3, .int (x_399)), (4, .int (x_573))]) hx hb dX3_weigh_100 hl (k := 6) rfl (ev_673 ▸ rfl) (by decide) rfl (fun ls hl => ?_)
                          refine lv_goto (tgt := 74) hx hb dX3_weigh_103 (by decide) ?_
                          exact ih_658 (v_672) (v_673) (zR_w hv_673 (by decide)) (z2_up mv_673 (by decide) hN_657) _ _ hP hD hS _ (lv_sub hl [2, 3, 4, 5, 6, 1, 0] rfl)
                    exact loop_656 _ (R_574 44 (v_624).toNatClampNeg) (nI 0) (zR_w zk_0 (by decide)) (Nat.lt_succ_self _) _ _ hP hD hS _ (lv_sub hl [2, 3, 4, 5, 6, 1, 0] rfl)
              exact loop_575 _ (nI 0) (zR_w zk_0 (by decide)) _ hI_400 (Nat.lt_succ_self _) _ _ hP hD hS _ (lv_sub hl [1, 2, 3, 4, 0] rfl)
        exact loop_401 _ (v_52) hv_52 _ hI_38 (Nat.lt_succ_self _) _ _ hP hD hS _ (lv_sub hl [1, 2, 3, 0] rfl)
      · have t_c_42 := z_leF c_42
        have f_674 : zR 0 31 (x_37) := zR_ltx t_c_42 hx_37 hv_2 (by decide)
        refine lv_aload_n hx hb dX3_weigh_14 rfl (lv_at hl 0 rfl) ?_
        refine z_get hx hb ht hown hK hP ziX3 rfl 43 (by decide) 0 (by decide) hw_2_14 rfl (v := .ref (q 44)) rfl dX3_weigh_15 ?_
        refine lv_aload_n hx hb dX3_weigh_18 rfl (lv_at hl 1 rfl) ?_
        refine z_get hx hb ht hown hK hP ziX2 rfl 3 (by decide) 5 (by decide) hw_1_89 rfl (v := .int (I 3 5)) rfl dX3_weigh_19 ?_
        have f_675 : zR 0 6 (I 3 5) := xI hI 3 5
        refine lv_bipush (v := nI 32) hx hb dX3_weigh_22 (by decide +kernel) ?_
        refine lv_imul hx hb dX3_weigh_24 ?_
        refine z_rng (a := 0) (b := 192) (zR_mul f_675 zk_32 (by decide)) (fun v_676 hv_676 => ?_)
        refine lv_iload_n hx hb dX3_weigh_25 rfl (lv_at hl 3 rfl) ?_
        refine lv_iadd hx hb dX3_weigh_26 ?_
        refine z_rng (a := 0) (b := 223) (zR_add hv_676 f_674 (by decide)) (fun v_677 hv_677 => ?_)
        refine lv_iconst (v := nI 0) hx hb dX3_weigh_27 (by decide +kernel) ?_
        refine z_iast hx hb hK hP hD hS 44 (by decide) 35 (fun _ => rfl) rfl (zR_vin hv_677 (by decide)) dX3_weigh_28 (fun H locs hP hD hS => ?_)
        have hI_678 := xInv_R hI_38 44 (v_677).toNatClampNeg (nI 0) (zR_any _) rfl
        obtain ⟨v_679, ev_679⟩ : ∃ y : Int32, y = x_37 + nI 1 := ⟨_, rfl⟩
        have hv_679 : zR 1 32 v_679 := ev_679 ▸ zR_add f_674 zk_1 (by decide)
        have mv_679 : v_679.toInt = (x_37).toInt + 1 := by rw [ev_679, zR_addE f_674 zk_1 (by decide)]; rfl
        refine lv_iinc (v := v_679) (lv' := [(3, .int (v_679)), (0, .ref (q 43)), (1, .ref (q 3)), (2, .int (v_2))]) hx hb dX3_weigh_29 hl (k := 3) rfl (ev_679 ▸ rfl) (by decide) rfl (fun ls hl => ?_)
        refine lv_goto (tgt := 9) hx hb dX3_weigh_32 (by decide) ?_
        exact ih_41 (v_679) (zR_w hv_679 (by decide)) _ hI_678 (z2_up mv_679 (by decide) hN_40) _ _ hP hD hS _ (lv_sub hl [1, 2, 3, 0] rfl)
  exact loop_39 _ (nI 0) (zR_w zk_0 (by decide)) _ hI (Nat.lt_succ_self _) _ _ hP hD hS _ (lv_sub hl [2, 3, 1, 0] rfl)
set_option maxHeartbeats 4000000 in
set_option maxRecDepth 100000 in
theorem xk_X3_greatest (l : Launch) (D : va_G) (q : Nat → Nat) (cA : Nat → ClassId) (F : Nat → Nat → Int32) (I R : Nat → Nat → Int32) (J : Nat → Nat → Int64) (hI : xInv F (I, R, J))  : zMi l D vwCl (zXtys cA) 81 q (zXd q cA) yX3_greatest cX3_greatest 2 (some .int) ({ frames := 4, cells := 0, slots := 0, locals := 95 } : Room) [.ref (q 43), .ref (q 3)] (I, R, J) (fun _ u => xInv F u) := by
  intro sz
  refine z_body (by decide +kernel) (Nat.le_of_ble_eq_true rfl) (fun p e s m below meth c ls hx hb hml hr ht hown hlocks hsz hK hP hD hS hl => ?_)
  have hA : ∀ a, s.heap.size ≤ a → zA 81 q sz a := fun a h => Or.inr (hsz ▸ h)
  have hl : lv_has ls 2 [(0, .ref (q 43)), (1, .ref (q 3))] := hl
  refine lv_aload_n hx hb dX3_greatest_0 rfl (lv_at hl 0 rfl) ?_
  refine lv_aload_n hx hb dX3_greatest_1 rfl (lv_at hl 1 rfl) ?_
  refine z_callVv (k := 43) (As := [.ref (q 3)]) (rest := []) hx hb hml hown ht (xk_X3_weigh l D q cA F _ _ _ hI ) hw_5_2 hmX3_weigh ⟨rfl, rfl⟩ (na := 1) rfl (by decide +kernel) (by decide) (by decide) rfl rfl hK hP hD hS hA hl.1 rfl (Nat.le_of_ble_eq_true rfl) ⟨Nat.zero_le _, Nat.zero_le _⟩ dX3_greatest_2 (fun I_1 R_1 J_1 H locs hp_1 hP hD hS _ _ => ?_)
  refine lv_aload_n hx hb dX3_greatest_5 rfl (lv_at hl 0 rfl) ?_
  refine z_get hx hb ht hown hK hP ziX3 rfl 43 (by decide) 0 (by decide) hw_2_14 rfl (v := .ref (q 44)) rfl dX3_greatest_6 ?_
  refine lv_iconst (v := nI 0) hx hb dX3_greatest_9 (by decide +kernel) ?_
  refine z_iald hx hb hK hP 44 (by decide) 35 rfl rfl (zR_vin zk_0 (by decide)) dX3_greatest_10 ?_
  refine z_eqi (y := R_1 44 (nI 0).toNatClampNeg) rfl ?_
  exact z_iret (v := R_1 44 (nI 0).toNatClampNeg) hx hb hr hlocks hP hD hS dX3_greatest_11 hp_1
set_option maxHeartbeats 4000000 in
set_option maxRecDepth 100000 in
theorem xk_X10_deal (l : Launch) (D : va_G) (q : Nat → Nat) (cA : Nat → ClassId) (F : Nat → Nat → Int32) (I R : Nat → Nat → Int32) (J : Nat → Nat → Int64) (hI : xInv F (I, R, J))  : zMi l D vwCl (zXtys cA) 81 q (zXd q cA) yX10_deal cX10_deal 1 (some .int) ({ frames := 5, cells := 0, slots := 0, locals := 116 } : Room) [.ref (q 0)] (I, R, J) (fun _ u => xInv F u) := by
  intro sz
  refine z_body (by decide +kernel) (Nat.le_of_ble_eq_true rfl) (fun p e s m below meth c ls hx hb hml hr ht hown hlocks hsz hK hP hD hS hl => ?_)
  have hA : ∀ a, s.heap.size ≤ a → zA 81 q sz a := fun a h => Or.inr (hsz ▸ h)
  have hl : lv_has ls 1 [(0, .ref (q 0))] := hl
  refine lv_aload_n hx hb dX10_deal_0 rfl (lv_at hl 0 rfl) ?_
  refine z_callVi (k := 0) (As := []) (rest := []) hx hb hml hown ht (xk_X10_hasCity l D q cA F _ _ _ hI ) hw_4_0 hmX10_hasCity ⟨rfl, rfl⟩ (na := 0) rfl (by decide +kernel) (by decide) (by decide) rfl rfl hK hP hD hS hA hl.1 rfl (Nat.le_of_ble_eq_true rfl) ⟨Nat.zero_le _, Nat.zero_le _⟩ dX10_deal_1 (fun r_1 I_1 R_1 J_1 H locs hp_1 hP hD hS _ _ => ?_)
  rcases hp_1 with ⟨rfl, hu_1⟩ | ⟨rfl, hu_1⟩
  · cases hu_1
    refine lv_if_eq (tgt := 21) hx hb dX10_deal_4 (by decide) (fun c_0 => absurd c_0 (zD_ne zk_1 zk_z (by decide))) (fun _ => ?_)
    refine lv_aload_n hx hb dX10_deal_7 rfl (lv_at hl 0 rfl) ?_
    refine z_get hx hb ht hown hK hP ziX10 rfl 0 (by decide) 7 (by decide) hw_2_100 rfl (v := .ref (q 43)) rfl dX10_deal_8 ?_
    refine lv_aload_n hx hb dX10_deal_11 rfl (lv_at hl 0 rfl) ?_
    refine z_get hx hb ht hown hK hP ziX10 rfl 0 (by decide) 1 (by decide) hw_2_94 rfl (v := .ref (q 3)) rfl dX10_deal_12 ?_
    refine z_callVi (k := 43) (As := [.ref (q 3)]) (rest := []) hx hb hml hown ht (xk_X3_greatest l D q cA F _ _ _ hI ) hw_4_238 hmX3_greatest ⟨rfl, rfl⟩ (na := 1) rfl (by decide +kernel) (by decide) (by decide) rfl rfl hK hP hD hS hA hl.1 rfl (Nat.le_of_ble_eq_true rfl) ⟨Nat.zero_le _, Nat.zero_le _⟩ dX10_deal_15 (fun r_2 I_2 R_2 J_2 H locs hp_2 hP hD hS _ _ => ?_)
    refine lv_goto (tgt := 23) hx hb dX10_deal_18 (by decide) ?_
    exact z_iret (v := r_2) hx hb hr hlocks hP hD hS dX10_deal_23 hp_2
  · cases hu_1
    refine lv_if_eq (tgt := 21) hx hb dX10_deal_4 (by decide) (fun _ => ?_) (fun c_0 => absurd (zD_eq zk_0 zk_z) c_0)
    refine lv_bipush (v := (-2)) hx hb dX10_deal_21 (by decide +kernel) ?_
    exact z_iret (v := (-2)) hx hb hr hlocks hP hD hS dX10_deal_23 hI
set_option maxHeartbeats 4000000 in
set_option maxRecDepth 100000 in
theorem xk_X3_firstFor_2 (l : Launch) (D : va_G) (q : Nat → Nat) (cA : Nat → ClassId) (F : Nat → Nat → Int32) (I R : Nat → Nat → Int32) (J : Nat → Nat → Int64) (hI : xInv F (I, R, J)) (pa1 : Int32) (hpa1 : zR 0 5 pa1) (pa2 : Int32) (hpa2 : zR 0 31 pa2) : zMi l D vwCl (zXtys cA) 81 q (zXd q cA) yX3_firstFor cX3_firstFor 5 (some .int) ({ frames := 3, cells := 0, slots := 0, locals := 69 } : Room) [.ref (q 43), .ref (q 3), .int (pa1), .int (pa2)] (I, R, J) (fun r u => zR (-1) 4 r ∧ u = (I, R, J)) := by
  intro sz
  refine z_body (by decide +kernel) (Nat.le_of_ble_eq_true rfl) (fun p e s m below meth c ls hx hb hml hr ht hown hlocks hsz hK hP hD hS hl => ?_)
  have hA : ∀ a, s.heap.size ≤ a → zA 81 q sz a := fun a h => Or.inr (hsz ▸ h)
  have hl : lv_has ls 5 [(0, .ref (q 43)), (1, .ref (q 3)), (2, .int (pa1)), (3, .int (pa2))] := hl
  refine lv_iconst (v := nI 0) hx hb dX3_firstFor_0 (by decide +kernel) ?_
  refine lv_istore (lv' := [(4, .int (nI 0)), (0, .ref (q 43)), (1, .ref (q 3)), (2, .int (pa1)), (3, .int (pa2))]) hx hb dX3_firstFor_1 hl (by decide) rfl (fun ls hl => ?_)
  have loop_40 : ∀ N : Nat, ∀ x_39 : Int32, zR 0 5 x_39 → (2147483648 - (x_39).toInt).toNat < N → ∀ (H : Heap) (locs : List Loc), va_P D vwCl (zw 81 q (zXd q cA) I R J) H → va_D (zA 81 q sz) (zw 81 q (zXd q cA) I R J) → va_S (zA 81 q sz) s.heap H locs → ∀ ls : Array Slot, lv_has ls 5 [(0, .ref (q 43)), (1, .ref (q 3)), (2, .int (pa1)), (3, .int (pa2)), (4, .int (x_39))] → W p l e ({ frames := 3, cells := 0, slots := 0, locals := 69 } : Room) s m ([.ref (q 43), .ref (q 3), .int (pa1), .int (pa2)] : List Value).toArray below meth c H locs 0 0 (MQ below (va_Qi (fun r u => zR (-1) 4 r ∧ u = (I, R, J)) (zB D vwCl 81 q (zXd q cA) sz) (zA 81 q sz)) ([.ref (q 43), .ref (q 3), .int (pa1), .int (pa2)] : List Value).toArray s 0 0 (zA 81 q sz)) (F0 m 3 ls []) := by
    intro N
    induction N with
    | zero => intro x_39 hx_39 hN; exact absurd hN (Nat.not_lt_zero _)
    | succ N ih_42 =>
      intro x_39 hx_39 hN_41 H locs hP hD hS ls hl
      refine lv_iload hx hb dX3_firstFor_3 (lv_at hl 4 rfl) ?_
      refine lv_aload_n hx hb dX3_firstFor_5 rfl (lv_at hl 1 rfl) ?_
      refine z_get hx hb ht hown hK hP ziX2 rfl 3 (by decide) 4 (by decide) hw_1_83 rfl (v := .int (I 3 4)) rfl dX3_firstFor_6 ?_
      have f_43 : zR 0 5 (I 3 4) := xI hI 3 4
      refine lv_icmp_ge (tgt := 44) hx hb dX3_firstFor_9 (by decide) (fun c_44 => ?_) (fun c_44 => ?_)
      · have t_c_44 := z_leT c_44
        refine lv_iconst (v := (-1)) hx hb dX3_firstFor_44 (by decide +kernel) ?_
        exact z_iret (v := (-1)) hx hb hr hlocks hP hD hS dX3_firstFor_45 ⟨(zR_w zk_m1 (by decide)), rfl⟩
      · have t_c_44 := z_leF c_44
        have f_45 : zR 0 4 (x_39) := zR_ltx t_c_44 hx_39 f_43 (by decide)
        have f_46 : zR 1 5 (I 3 4) := zR_lty t_c_44 hx_39 f_43 (by decide)
        refine lv_aload_n hx hb dX3_firstFor_12 rfl (lv_at hl 0 rfl) ?_
        refine lv_aload_n hx hb dX3_firstFor_13 rfl (lv_at hl 1 rfl) ?_
        refine lv_iload_n hx hb dX3_firstFor_14 rfl (lv_at hl 2 rfl) ?_
        refine lv_iload_n hx hb dX3_firstFor_15 rfl (lv_at hl 3 rfl) ?_
        refine lv_iload hx hb dX3_firstFor_16 (lv_at hl 4 rfl) ?_
        refine z_callVi (k := 43) (As := [.ref (q 3), .int (pa1), .int (pa2), .int (x_39)]) (rest := []) hx hb hml hown ht (xk_X3_with_3 l D q cA F _ _ _ hI (pa1) hpa1 (pa2) hpa2 (x_39) f_45) hw_5_6 hmX3_with ⟨rfl, rfl⟩ (na := 4) rfl (by decide +kernel) (by decide) (by decide) rfl rfl hK hP hD hS hA hl.1 rfl (Nat.le_of_ble_eq_true rfl) ⟨Nat.zero_le _, Nat.zero_le _⟩ dX3_firstFor_18 (fun r_47 I_47 R_47 J_47 H locs hp_47 hP hD hS _ _ => ?_)
        cases hp_47
        refine lv_aload_n hx hb dX3_firstFor_21 rfl (lv_at hl 0 rfl) ?_
        refine z_get hx hb ht hown hK hP ziX3 rfl 43 (by decide) 0 (by decide) hw_2_14 rfl (v := .ref (q 44)) rfl dX3_firstFor_22 ?_
        refine lv_iload_n hx hb dX3_firstFor_25 rfl (lv_at hl 2 rfl) ?_
        refine lv_bipush (v := nI 32) hx hb dX3_firstFor_26 (by decide +kernel) ?_
        refine lv_imul hx hb dX3_firstFor_28 ?_
        refine z_rng (a := 0) (b := 160) (zR_mul hpa1 zk_32 (by decide)) (fun v_48 hv_48 => ?_)
        refine lv_iload_n hx hb dX3_firstFor_29 rfl (lv_at hl 3 rfl) ?_
        refine lv_iadd hx hb dX3_firstFor_30 ?_
        refine z_rng (a := 0) (b := 191) (zR_add hv_48 hpa2 (by decide)) (fun v_49 hv_49 => ?_)
        refine z_iald hx hb hK hP 44 (by decide) 35 rfl rfl (zR_vin hv_49 (by decide)) dX3_firstFor_31 ?_
        refine z_eqi (y := R 44 (v_49).toNatClampNeg) rfl ?_
        refine lv_icmp_ne (tgt := 38) hx hb dX3_firstFor_32 (by decide) (fun c_50 => ?_) (fun c_50 => ?_)
        · have t_c_50 := z_eqF c_50
          obtain ⟨v_51, ev_51⟩ : ∃ y : Int32, y = x_39 + nI 1 := ⟨_, rfl⟩
          have hv_51 : zR 1 5 v_51 := ev_51 ▸ zR_add f_45 zk_1 (by decide)
          have mv_51 : v_51.toInt = (x_39).toInt + 1 := by rw [ev_51, zR_addE f_45 zk_1 (by decide)]; rfl
          refine lv_iinc (v := v_51) (lv' := [(4, .int (v_51)), (0, .ref (q 43)), (1, .ref (q 3)), (2, .int (pa1)), (3, .int (pa2))]) hx hb dX3_firstFor_38 hl (k := 4) rfl (ev_51 ▸ rfl) (by decide) rfl (fun ls hl => ?_)
          refine lv_goto (tgt := 3) hx hb dX3_firstFor_41 (by decide) ?_
          exact ih_42 (v_51) (zR_w hv_51 (by decide)) (z2_up mv_51 (by decide) hN_41) _ _ hP hD hS _ (lv_sub hl [1, 2, 3, 4, 0] rfl)
        · have t_c_50 := z_eqT c_50
          refine lv_iload hx hb dX3_firstFor_35 (lv_at hl 4 rfl) ?_
          exact z_iret (v := x_39) hx hb hr hlocks hP hD hS dX3_firstFor_37 ⟨(zR_w f_45 (by decide)), rfl⟩
  exact loop_40 _ (nI 0) (zR_w zk_0 (by decide)) (Nat.lt_succ_self _) _ _ hP hD hS _ (lv_sub hl [1, 2, 3, 4, 0] rfl)
set_option maxHeartbeats 4000000 in
set_option maxRecDepth 100000 in
theorem xk_X3_houseOf (l : Launch) (D : va_G) (q : Nat → Nat) (cA : Nat → ClassId) (F : Nat → Nat → Int32) (I R : Nat → Nat → Int32) (J : Nat → Nat → Int64) (hI : xInv F (I, R, J)) (pa1 : Int32) (hpa1 : zR 0 5 pa1) : zMi l D vwCl (zXtys cA) 81 q (zXd q cA) yX3_houseOf cX3_houseOf 6 (some .int) ({ frames := 4, cells := 0, slots := 0, locals := 95 } : Room) [.ref (q 43), .ref (q 3), .int (pa1)] (I, R, J) (fun r u => zR (-1) 4 r ∧ xInv F u) := by
  intro sz
  refine z_body (by decide +kernel) (Nat.le_of_ble_eq_true rfl) (fun p e s m below meth c ls hx hb hml hr ht hown hlocks hsz hK hP hD hS hl => ?_)
  have hA : ∀ a, s.heap.size ≤ a → zA 81 q sz a := fun a h => Or.inr (hsz ▸ h)
  have hl : lv_has ls 6 [(0, .ref (q 43)), (1, .ref (q 3)), (2, .int (pa1))] := hl
  refine lv_aload_n hx hb dX3_houseOf_0 rfl (lv_at hl 0 rfl) ?_
  refine lv_aload_n hx hb dX3_houseOf_1 rfl (lv_at hl 1 rfl) ?_
  refine z_callVv (k := 43) (As := [.ref (q 3)]) (rest := []) hx hb hml hown ht (xk_X3_weigh l D q cA F _ _ _ hI ) hw_5_2 hmX3_weigh ⟨rfl, rfl⟩ (na := 1) rfl (by decide +kernel) (by decide) (by decide) rfl rfl hK hP hD hS hA hl.1 rfl (Nat.le_of_ble_eq_true rfl) ⟨Nat.zero_le _, Nat.zero_le _⟩ dX3_houseOf_2 (fun I_1 R_1 J_1 H locs hp_1 hP hD hS _ _ => ?_)
  refine lv_iconst (v := nI 0) hx hb dX3_houseOf_5 (by decide +kernel) ?_
  refine lv_istore_n (lv' := [(3, .int (nI 0)), (0, .ref (q 43)), (1, .ref (q 3)), (2, .int (pa1))]) hx hb dX3_houseOf_6 rfl hl (by decide) rfl (fun ls hl => ?_)
  refine lv_iconst (v := (-1)) hx hb dX3_houseOf_7 (by decide +kernel) ?_
  refine lv_istore (lv' := [(4, .int ((-1))), (3, .int (nI 0)), (0, .ref (q 43)), (1, .ref (q 3)), (2, .int (pa1))]) hx hb dX3_houseOf_8 hl (by decide) rfl (fun ls hl => ?_)
  refine lv_iconst (v := nI 0) hx hb dX3_houseOf_10 (by decide +kernel) ?_
  refine lv_istore (lv' := [(5, .int (nI 0)), (4, .int ((-1))), (3, .int (nI 0)), (0, .ref (q 43)), (1, .ref (q 3)), (2, .int (pa1))]) hx hb dX3_houseOf_11 hl (by decide) rfl (fun ls hl => ?_)
  have loop_54 : ∀ N : Nat, ∀ x_51 : Int32, zR 0 31 x_51 → ∀ x_52 : Int32, zR (-1) 4 x_52 → ∀ x_53 : Int32, zR 0 6 x_53 → (2147483648 - (x_53).toInt).toNat < N → ∀ (H : Heap) (locs : List Loc), va_P D vwCl (zw 81 q (zXd q cA) I_1 R_1 J_1) H → va_D (zA 81 q sz) (zw 81 q (zXd q cA) I_1 R_1 J_1) → va_S (zA 81 q sz) s.heap H locs → ∀ ls : Array Slot, lv_has ls 6 [(0, .ref (q 43)), (1, .ref (q 3)), (2, .int (pa1)), (3, .int (x_51)), (4, .int (x_52)), (5, .int (x_53))] → W p l e ({ frames := 4, cells := 0, slots := 0, locals := 95 } : Room) s m ([.ref (q 43), .ref (q 3), .int (pa1)] : List Value).toArray below meth c H locs 0 0 (MQ below (va_Qi (fun r u => zR (-1) 4 r ∧ xInv F u) (zB D vwCl 81 q (zXd q cA) sz) (zA 81 q sz)) ([.ref (q 43), .ref (q 3), .int (pa1)] : List Value).toArray s 0 0 (zA 81 q sz)) (F0 m 13 ls []) := by
    intro N
    induction N with
    | zero => intro x_51 hx_51 x_52 hx_52 x_53 hx_53 hN; exact absurd hN (Nat.not_lt_zero _)
    | succ N ih_56 =>
      intro x_51 hx_51 x_52 hx_52 x_53 hx_53 hN_55 H locs hP hD hS ls hl
      refine lv_iload hx hb dX3_houseOf_13 (lv_at hl 5 rfl) ?_
      refine lv_iload_n hx hb dX3_houseOf_15 rfl (lv_at hl 2 rfl) ?_
      refine lv_icmp_gt (tgt := 52) hx hb dX3_houseOf_16 (by decide) (fun c_57 => ?_) (fun c_57 => ?_)
      · have t_c_57 := z_ltT c_57
        have f_58 : zR 1 6 (x_53) := zR_lty t_c_57 hpa1 hx_53 (by decide)
        refine lv_iload hx hb dX3_houseOf_52 (lv_at hl 4 rfl) ?_
        exact z_iret (v := x_52) hx hb hr hlocks hP hD hS dX3_houseOf_54 ⟨hx_52, hp_1⟩
      · have t_c_57 := z_ltF c_57
        have f_59 : zR 0 5 (x_53) := zR_lex t_c_57 hx_53 hpa1 (by decide)
        refine lv_aload_n hx hb dX3_houseOf_19 rfl (lv_at hl 0 rfl) ?_
        refine lv_aload_n hx hb dX3_houseOf_20 rfl (lv_at hl 1 rfl) ?_
        refine lv_iload hx hb dX3_houseOf_21 (lv_at hl 5 rfl) ?_
        refine lv_iload_n hx hb dX3_houseOf_23 rfl (lv_at hl 3 rfl) ?_
        refine z_callVi (k := 43) (As := [.ref (q 3), .int (x_53), .int (x_51)]) (rest := []) hx hb hml hown ht (xk_X3_firstFor_2 l D q cA F _ _ _ hp_1 (x_53) f_59 (x_51) hx_51) hw_5_22 hmX3_firstFor ⟨rfl, rfl⟩ (na := 3) rfl (by decide +kernel) (by decide) (by decide) rfl rfl hK hP hD hS hA hl.1 rfl (Nat.le_of_ble_eq_true rfl) ⟨Nat.zero_le _, Nat.zero_le _⟩ dX3_houseOf_24 (fun r_60 I_60 R_60 J_60 H locs hp_60 hP hD hS _ _ => ?_)
        obtain ⟨hr_60, hu_60⟩ := hp_60
        cases hu_60
        refine lv_istore (lv' := [(4, .int (r_60)), (0, .ref (q 43)), (1, .ref (q 3)), (2, .int (pa1)), (3, .int (x_51)), (5, .int (x_53))]) hx hb dX3_houseOf_27 hl (by decide) rfl (fun ls hl => ?_)
        refine lv_iload_n hx hb dX3_houseOf_29 rfl (lv_at hl 4 rfl) ?_
        refine lv_iload hx hb dX3_houseOf_30 (lv_at hl 0 rfl) ?_
        refine lv_iconst (v := (-1)) hx hb dX3_houseOf_32 (by decide +kernel) ?_
        have t_66 : ∀ x_65 : Int32, zR 0 16 x_65 → ∀ (H : Heap) (locs : List Loc), va_P D vwCl (zw 81 q (zXd q cA) I_1 R_1 J_1) H → va_D (zA 81 q sz) (zw 81 q (zXd q cA) I_1 R_1 J_1) → va_S (zA 81 q sz) s.heap H locs → ∀ ls : Array Slot, lv_has ls 6 [(0, .ref (q 43)), (1, .ref (q 3)), (2, .int (pa1)), (3, .int (x_51)), (4, .int (r_60)), (5, .int (x_53))] → W p l e ({ frames := 4, cells := 0, slots := 0, locals := 95 } : Room) s m ([.ref (q 43), .ref (q 3), .int (pa1)] : List Value).toArray below meth c H locs 0 0 (MQ below (va_Qi (fun r u => zR (-1) 4 r ∧ xInv F u) (zB D vwCl 81 q (zXd q cA) sz) (zA 81 q sz)) ([.ref (q 43), .ref (q 3), .int (pa1)] : List Value).toArray s 0 0 (zA 81 q sz)) (F0 m 44 ls [.int (x_65), .int (x_51)]) := by
          intro x_65 hx_65 H locs hP hD hS ls hl
          refine lv_ior hx hb dX3_houseOf_44 ?_
          refine z_rng (a := 0) (b := 31) (zR_or 5 hx_51 hx_65 (by decide)) (fun v_67 hv_67 => ?_)
          refine lv_istore_n (lv' := [(3, .int (v_67)), (0, .ref (q 43)), (1, .ref (q 3)), (2, .int (pa1)), (4, .int (r_60)), (5, .int (x_53))]) hx hb dX3_houseOf_45 rfl hl (by decide) rfl (fun ls hl => ?_)
          obtain ⟨v_68, ev_68⟩ : ∃ y : Int32, y = x_53 + nI 1 := ⟨_, rfl⟩
          have hv_68 : zR 1 6 v_68 := ev_68 ▸ zR_add f_59 zk_1 (by decide)
          have mv_68 : v_68.toInt = (x_53).toInt + 1 := by rw [ev_68, zR_addE f_59 zk_1 (by decide)]; rfl
          refine lv_iinc (v := v_68) (lv' := [(5, .int (v_68)), (3, .int (v_67)), (0, .ref (q 43)), (1, .ref (q 3)), (2, .int (pa1)), (4, .int (r_60))]) hx hb dX3_houseOf_46 hl (k := 5) rfl (ev_68 ▸ rfl) (by decide) rfl (fun ls hl => ?_)
          refine lv_goto (tgt := 13) hx hb dX3_houseOf_49 (by decide) ?_
          exact ih_56 (v_67) hv_67 (r_60) hr_60 (v_68) (zR_w hv_68 (by decide)) (z2_up mv_68 (by decide) hN_55) _ _ hP hD hS _ (lv_sub hl [2, 3, 4, 1, 5, 0] rfl)
        refine lv_icmp_ne (tgt := 40) hx hb dX3_houseOf_33 (by decide) (fun c_61 => ?_) (fun c_61 => ?_)
        · have t_c_61 := z_eqF c_61
          have f_69 : zR 0 4 (r_60) := zR_nex t_c_61 hr_60 zk_m1 (by decide)
          refine lv_iconst (v := nI 1) hx hb dX3_houseOf_40 (by decide +kernel) ?_
          refine lv_iload hx hb dX3_houseOf_41 (lv_at hl 0 rfl) ?_
          refine lv_ishl hx hb dX3_houseOf_43 ?_
          refine z_rng (a := 1) (b := 16) (zR_shl1 4 f_69 (by decide)) (fun v_70 hv_70 => ?_)
          exact t_66 (v_70) (zR_w hv_70 (by decide)) _ _ hP hD hS _ (lv_sub hl [1, 2, 3, 4, 0, 5] rfl)
        · have t_c_61 := z_eqT c_61
          have f_71 : zR (-1) (-1) (r_60) := zR_eqx t_c_61 zk_m1
          refine lv_iconst (v := nI 0) hx hb dX3_houseOf_36 (by decide +kernel) ?_
          refine lv_goto (tgt := 44) hx hb dX3_houseOf_37 (by decide) ?_
          exact t_66 (nI 0) (zR_w zk_0 (by decide)) _ _ hP hD hS _ (lv_sub hl [1, 2, 3, 4, 0, 5] rfl)
  exact loop_54 _ (nI 0) (zR_w zk_0 (by decide)) ((-1)) (zR_w zk_m1 (by decide)) (nI 0) (zR_w zk_0 (by decide)) (Nat.lt_succ_self _) _ _ hP hD hS _ (lv_sub hl [3, 4, 5, 2, 1, 0] rfl)
set_option maxHeartbeats 4000000 in
set_option maxRecDepth 100000 in
theorem xk_X10_deals (l : Launch) (D : va_G) (q : Nat → Nat) (cA : Nat → ClassId) (F : Nat → Nat → Int32) (I R : Nat → Nat → Int32) (J : Nat → Nat → Int64) (hI : xInv F (I, R, J)) (pa0 : Int32) : zMi l D vwCl (zXtys cA) 81 q (zXd q cA) yX10_deals cX10_deals 2 (some .int) ({ frames := 5, cells := 0, slots := 0, locals := 120 } : Room) [.ref (q 0), .int (pa0)] (I, R, J) (fun r u => zR (-2) 4 r ∧ xInv F u) := by
  intro sz
  refine z_body (by decide +kernel) (Nat.le_of_ble_eq_true rfl) (fun p e s m below meth c ls hx hb hml hr ht hown hlocks hsz hK hP hD hS hl => ?_)
  have hA : ∀ a, s.heap.size ≤ a → zA 81 q sz a := fun a h => Or.inr (hsz ▸ h)
  have hl : lv_has ls 2 [(0, .ref (q 0)), (1, .int (pa0))] := hl
  refine lv_aload_n hx hb dX10_deals_0 rfl (lv_at hl 0 rfl) ?_
  refine lv_iload_n hx hb dX10_deals_1 rfl (lv_at hl 1 rfl) ?_
  refine z_callVi (k := 0) (As := [.int (pa0)]) (rest := []) hx hb hml hown ht (xk_X10_isThing l D q cA F _ _ _ hI (pa0)) hw_3_87 hmX10_isThing ⟨rfl, rfl⟩ (na := 1) rfl (by decide +kernel) (by decide) (by decide) rfl rfl hK hP hD hS hA hl.1 rfl (Nat.le_of_ble_eq_true rfl) ⟨Nat.zero_le _, Nat.zero_le _⟩ dX10_deals_2 (fun r_1 I_1 R_1 J_1 H locs hp_1 hP hD hS _ _ => ?_)
  rcases hp_1 with ⟨rfl, hu_1, f0_1⟩ | ⟨rfl, hu_1⟩
  · cases hu_1
    refine lv_if_eq (tgt := 23) hx hb dX10_deals_5 (by decide) (fun c_0 => absurd c_0 (zD_ne zk_1 zk_z (by decide))) (fun _ => ?_)
    refine lv_aload_n hx hb dX10_deals_8 rfl (lv_at hl 0 rfl) ?_
    refine z_get hx hb ht hown hK hP ziX10 rfl 0 (by decide) 7 (by decide) hw_2_100 rfl (v := .ref (q 43)) rfl dX10_deals_9 ?_
    refine lv_aload_n hx hb dX10_deals_12 rfl (lv_at hl 0 rfl) ?_
    refine z_get hx hb ht hown hK hP ziX10 rfl 0 (by decide) 1 (by decide) hw_2_94 rfl (v := .ref (q 3)) rfl dX10_deals_13 ?_
    refine lv_iload_n hx hb dX10_deals_16 rfl (lv_at hl 1 rfl) ?_
    refine z_callVi (k := 43) (As := [.ref (q 3), .int (pa0)]) (rest := []) hx hb hml hown ht (xk_X3_houseOf l D q cA F _ _ _ hI (pa0) f0_1) hw_5_18 hmX3_houseOf ⟨rfl, rfl⟩ (na := 2) rfl (by decide +kernel) (by decide) (by decide) rfl rfl hK hP hD hS hA hl.1 rfl (Nat.le_of_ble_eq_true rfl) ⟨Nat.zero_le _, Nat.zero_le _⟩ dX10_deals_17 (fun r_2 I_2 R_2 J_2 H locs hp_2 hP hD hS _ _ => ?_)
    obtain ⟨hr_2, hu_2⟩ := hp_2
    refine lv_goto (tgt := 25) hx hb dX10_deals_20 (by decide) ?_
    exact z_iret (v := r_2) hx hb hr hlocks hP hD hS dX10_deals_25 ⟨(zR_w hr_2 (by decide)), hu_2⟩
  · cases hu_1
    refine lv_if_eq (tgt := 23) hx hb dX10_deals_5 (by decide) (fun _ => ?_) (fun c_0 => absurd (zD_eq zk_0 zk_z) c_0)
    refine lv_bipush (v := (-2)) hx hb dX10_deals_23 (by decide +kernel) ?_
    exact z_iret (v := (-2)) hx hb hr hlocks hP hD hS dX10_deals_25 ⟨(zR_w zk_m2 (by decide)), hI⟩
set_option maxHeartbeats 4000000 in
set_option maxRecDepth 100000 in
theorem xk_X10_isCost (l : Launch) (D : va_G) (q : Nat → Nat) (cA : Nat → ClassId) (F : Nat → Nat → Int32) (I R : Nat → Nat → Int32) (J : Nat → Nat → Int64) (hI : xInv F (I, R, J)) (pa0 : Int32) : zMi l D vwCl (zXtys cA) 81 q (zXd q cA) yX10_isCost cX10_isCost 1 (some .boolean) ({ frames := 0, cells := 0, slots := 0, locals := 0 } : Room) [.int (pa0)] (I, R, J) (fun r u => (r = nI 1 ∧ u = (I, R, J) ∧ zR 0 999 pa0) ∨ (r = nI 0 ∧ u = (I, R, J) ∧ (pa0.toInt < 0 ∨ 999 < pa0.toInt))) := by
  intro sz
  refine z_body (by decide +kernel) (Nat.le_of_ble_eq_true rfl) (fun p e s m below meth c ls hx hb hml hr ht hown hlocks hsz hK hP hD hS hl => ?_)
  have hA : ∀ a, s.heap.size ≤ a → zA 81 q sz a := fun a h => Or.inr (hsz ▸ h)
  have hl : lv_has ls 1 [(0, .int (pa0))] := hl
  refine lv_iload_n hx hb dX10_isCost_0 rfl (lv_at hl 0 rfl) ?_
  refine lv_if_lt (tgt := 15) hx hb dX10_isCost_1 (by decide) (fun c_1 => ?_) (fun c_1 => ?_)
  · have t_c_1 := z_ltT c_1
    have f_2 : zR (-2147483648) (-1) (pa0) := zR_ltx t_c_1 (zR_any (pa0)) zk_z (by decide)
    refine lv_iconst (v := nI 0) hx hb dX10_isCost_15 (by decide +kernel) ?_
    exact z_zret (v := nI 0) hx hb hr hlocks hP hD hS (by decide +kernel) dX10_isCost_16 (Or.inr ⟨rfl, rfl, (Or.inl (Int.lt_of_le_of_lt f_2.2 (by decide)))⟩)
  · have t_c_1 := z_ltF c_1
    have f_3 : zR 0 2147483647 (pa0) := zR_ley t_c_1 zk_z (zR_any (pa0)) (by decide)
    refine lv_iload_n hx hb dX10_isCost_4 rfl (lv_at hl 0 rfl) ?_
    refine lv_sipush (v := nI 999) hx hb dX10_isCost_5 (by decide +kernel) ?_
    refine lv_icmp_gt (tgt := 15) hx hb dX10_isCost_8 (by decide) (fun c_4 => ?_) (fun c_4 => ?_)
    · have t_c_4 := z_ltT c_4
      have f_5 : zR 1000 2147483647 (pa0) := zR_lty t_c_4 zk_999 f_3 (by decide)
      refine lv_iconst (v := nI 0) hx hb dX10_isCost_15 (by decide +kernel) ?_
      exact z_zret (v := nI 0) hx hb hr hlocks hP hD hS (by decide +kernel) dX10_isCost_16 (Or.inr ⟨rfl, rfl, (Or.inr (Int.lt_of_lt_of_le (by decide) f_5.1))⟩)
    · have t_c_4 := z_ltF c_4
      have f_6 : zR 0 999 (pa0) := zR_lex t_c_4 f_3 zk_999 (by decide)
      refine lv_iconst (v := nI 1) hx hb dX10_isCost_11 (by decide +kernel) ?_
      refine lv_goto (tgt := 16) hx hb dX10_isCost_12 (by decide) ?_
      exact z_zret (v := nI 1) hx hb hr hlocks hP hD hS (by decide +kernel) dX10_isCost_16 (Or.inl ⟨rfl, rfl, f_6⟩)
set_option maxHeartbeats 4000000 in
set_option maxRecDepth 100000 in
theorem xk_X9_lossOf_1 (l : Launch) (D : va_G) (q : Nat → Nat) (cA : Nat → ClassId) (F : Nat → Nat → Int32) (I R : Nat → Nat → Int32) (J : Nat → Nat → Int64) (hI : xInv F (I, R, J)) (pa0 : Int32) (hpa0 : zR 0 4 pa0) : zMi l D vwCl (zXtys cA) 81 q (zXd q cA) yX9_lossOf cX9_lossOf 4 (some .int) ({ frames := 1, cells := 0, slots := 0, locals := 64 } : Room) [.ref (q 15), .int (pa0)] (I, R, J) (fun _ u => u = (I, R, J)) := by
  intro sz
  refine z_body (by decide +kernel) (Nat.le_of_ble_eq_true rfl) (fun p e s m below meth c ls hx hb hml hr ht hown hlocks hsz hK hP hD hS hl => ?_)
  have hA : ∀ a, s.heap.size ≤ a → zA 81 q sz a := fun a h => Or.inr (hsz ▸ h)
  have hl : lv_has ls 4 [(0, .ref (q 15)), (1, .int (pa0))] := hl
  refine lv_iconst (v := nI 0) hx hb dX9_lossOf_0 (by decide +kernel) ?_
  refine lv_istore_n (lv' := [(2, .int (nI 0)), (0, .ref (q 15)), (1, .int (pa0))]) hx hb dX9_lossOf_1 rfl hl (by decide) rfl (fun ls hl => ?_)
  refine lv_iconst (v := nI 0) hx hb dX9_lossOf_2 (by decide +kernel) ?_
  refine lv_istore_n (lv' := [(3, .int (nI 0)), (2, .int (nI 0)), (0, .ref (q 15)), (1, .int (pa0))]) hx hb dX9_lossOf_3 rfl hl (by decide) rfl (fun ls hl => ?_)
  have loop_48 : ∀ N : Nat, ∀ x_46 : Int32, ∀ x_47 : Int32, zR 0 6 x_47 → (2147483648 - (x_47).toInt).toNat < N → ∀ (H : Heap) (locs : List Loc), va_P D vwCl (zw 81 q (zXd q cA) I R J) H → va_D (zA 81 q sz) (zw 81 q (zXd q cA) I R J) → va_S (zA 81 q sz) s.heap H locs → ∀ ls : Array Slot, lv_has ls 4 [(0, .ref (q 15)), (1, .int (pa0)), (2, .int (x_46)), (3, .int (x_47))] → W p l e ({ frames := 1, cells := 0, slots := 0, locals := 64 } : Room) s m ([.ref (q 15), .int (pa0)] : List Value).toArray below meth c H locs 0 0 (MQ below (va_Qi (fun _ u => u = (I, R, J)) (zB D vwCl 81 q (zXd q cA) sz) (zA 81 q sz)) ([.ref (q 15), .int (pa0)] : List Value).toArray s 0 0 (zA 81 q sz)) (F0 m 4 ls []) := by
    intro N
    induction N with
    | zero => intro x_46 x_47 hx_47 hN; exact absurd hN (Nat.not_lt_zero _)
    | succ N ih_50 =>
      intro x_46 x_47 hx_47 hN_49 H locs hP hD hS ls hl
      refine lv_iload_n hx hb dX9_lossOf_4 rfl (lv_at hl 3 rfl) ?_
      refine lv_aload_n hx hb dX9_lossOf_5 rfl (lv_at hl 0 rfl) ?_
      refine z_get hx hb ht hown hK hP ziX9 rfl 15 (by decide) 0 (by decide) hw_1_154 rfl (v := .ref (q 3)) rfl dX9_lossOf_6 ?_
      refine z_get hx hb ht hown hK hP ziX2 rfl 3 (by decide) 5 (by decide) hw_1_92 rfl (v := .int (I 3 5)) rfl dX9_lossOf_9 ?_
      have f_51 : zR 0 6 (I 3 5) := xI hI 3 5
      refine lv_icmp_ge (tgt := 45) hx hb dX9_lossOf_12 (by decide) (fun c_52 => ?_) (fun c_52 => ?_)
      · have t_c_52 := z_leT c_52
        refine lv_iload_n hx hb dX9_lossOf_45 rfl (lv_at hl 2 rfl) ?_
        exact z_iret (v := x_46) hx hb hr hlocks hP hD hS dX9_lossOf_46 rfl
      · have t_c_52 := z_leF c_52
        have f_53 : zR 0 5 (x_47) := zR_ltx t_c_52 hx_47 f_51 (by decide)
        have f_54 : zR 1 6 (I 3 5) := zR_lty t_c_52 hx_47 f_51 (by decide)
        refine lv_aload_n hx hb dX9_lossOf_15 rfl (lv_at hl 0 rfl) ?_
        refine z_get hx hb ht hown hK hP ziX9 rfl 15 (by decide) 5 (by decide) hw_1_166 rfl (v := .ref (q 17)) rfl dX9_lossOf_16 ?_
        refine lv_iload_n hx hb dX9_lossOf_19 rfl (lv_at hl 3 rfl) ?_
        refine z_iald hx hb hK hP 17 (by decide) 11 rfl rfl (zR_vin f_53 (by decide)) dX9_lossOf_20 ?_
        refine z_eqi (y := R 17 (x_47).toNatClampNeg) rfl ?_
        have f_55 : zR 0 4 (R 17 (x_47).toNatClampNeg) := xR hI 17 (x_47).toNatClampNeg
        refine lv_iload_n hx hb dX9_lossOf_21 rfl (lv_at hl 1 rfl) ?_
        have t_60 : ∀ x_59 : Int32, ∀ (H : Heap) (locs : List Loc), va_P D vwCl (zw 81 q (zXd q cA) I R J) H → va_D (zA 81 q sz) (zw 81 q (zXd q cA) I R J) → va_S (zA 81 q sz) s.heap H locs → ∀ ls : Array Slot, lv_has ls 4 [(0, .ref (q 15)), (1, .int (pa0)), (2, .int (x_59)), (3, .int (x_47))] → W p l e ({ frames := 1, cells := 0, slots := 0, locals := 64 } : Room) s m ([.ref (q 15), .int (pa0)] : List Value).toArray below meth c H locs 0 0 (MQ below (va_Qi (fun _ u => u = (I, R, J)) (zB D vwCl 81 q (zXd q cA) sz) (zA 81 q sz)) ([.ref (q 15), .int (pa0)] : List Value).toArray s 0 0 (zA 81 q sz)) (F0 m 39 ls []) := by
          intro x_59 H locs hP hD hS ls hl
          obtain ⟨v_61, ev_61⟩ : ∃ y : Int32, y = x_47 + nI 1 := ⟨_, rfl⟩
          have hv_61 : zR 1 6 v_61 := ev_61 ▸ zR_add f_53 zk_1 (by decide)
          have mv_61 : v_61.toInt = (x_47).toInt + 1 := by rw [ev_61, zR_addE f_53 zk_1 (by decide)]; rfl
          refine lv_iinc (v := v_61) (lv' := [(3, .int (v_61)), (0, .ref (q 15)), (1, .int (pa0)), (2, .int (x_59))]) hx hb dX9_lossOf_39 hl (k := 3) rfl (ev_61 ▸ rfl) (by decide) rfl (fun ls hl => ?_)
          refine lv_goto (tgt := 4) hx hb dX9_lossOf_42 (by decide) ?_
          exact ih_50 (x_59) (v_61) (zR_w hv_61 (by decide)) (z2_up mv_61 (by decide) hN_49) _ _ hP hD hS _ (lv_sub hl [1, 2, 3, 0] rfl)
        refine lv_icmp_ne (tgt := 39) hx hb dX9_lossOf_22 (by decide) (fun c_56 => ?_) (fun c_56 => ?_)
        · have t_c_56 := z_eqF c_56
          exact t_60 (x_46) _ _ hP hD hS _ (lv_sub hl [0, 1, 2, 3] rfl)
        · have t_c_56 := z_eqT c_56
          refine lv_iload_n hx hb dX9_lossOf_25 rfl (lv_at hl 2 rfl) ?_
          refine lv_aload_n hx hb dX9_lossOf_26 rfl (lv_at hl 0 rfl) ?_
          refine z_get hx hb ht hown hK hP ziX9 rfl 15 (by decide) 0 (by decide) hw_1_154 rfl (v := .ref (q 3)) rfl dX9_lossOf_27 ?_
          refine lv_iload_n hx hb dX9_lossOf_30 rfl (lv_at hl 1 rfl) ?_
          refine lv_iload_n hx hb dX9_lossOf_31 rfl (lv_at hl 3 rfl) ?_
          refine z_callVi (k := 3) (As := [.int (pa0), .int (x_47)]) (rest := [.int (x_46)]) hx hb hml hown ht (xk_X2_moreTo l D q cA F _ _ _ hI (pa0) hpa0 (x_47) f_53) hw_5_41 hmX2_moreTo ⟨rfl, rfl⟩ (na := 2) rfl (by decide +kernel) (by decide) (by decide) rfl rfl hK hP hD hS hA hl.1 rfl (Nat.le_of_ble_eq_true rfl) ⟨Nat.zero_le _, Nat.zero_le _⟩ dX9_lossOf_32 (fun r_62 I_62 R_62 J_62 H locs hp_62 hP hD hS _ _ => ?_)
          cases hp_62
          refine va_mmax hx hb (hml.trans hl.1.symm) hown (ht _ hw_5_42) (ht _ hw_5_12) (ht _ hw_1_19) (ht _ hw_5_13) (by decide) (Nat.le_of_ble_eq_true rfl) (Nat.zero_le _) (Nat.zero_le _) dX9_lossOf_35 ?_
          refine z_any (fun v_63 => ?_)
          refine lv_istore_n (lv' := [(2, .int (v_63)), (0, .ref (q 15)), (1, .int (pa0)), (3, .int (x_47))]) hx hb dX9_lossOf_38 rfl hl (by decide) rfl (fun ls hl => ?_)
          exact t_60 (v_63) _ _ hP hD hS _ (lv_sub hl [1, 2, 0, 3] rfl)
  exact loop_48 _ (nI 0) (nI 0) (zR_w zk_0 (by decide)) (Nat.lt_succ_self _) _ _ hP hD hS _ (lv_sub hl [2, 3, 1, 0] rfl)
set_option maxHeartbeats 4000000 in
set_option maxRecDepth 100000 in
theorem xk_X10_isAtRest_1 (l : Launch) (D : va_G) (q : Nat → Nat) (cA : Nat → ClassId) (F : Nat → Nat → Int32) (I R : Nat → Nat → Int32) (J : Nat → Nat → Int64) (hI : xInv F (I, R, J)) (pa0 : Int32) (hpa0 : zR 0 31 pa0) (pa1 : Int32) (hpa1 : zR 0 999 pa1) : zMi l D vwCl (zXtys cA) 81 q (zXd q cA) yX10_isAtRest cX10_isAtRest 6 (some .boolean) ({ frames := 2, cells := 0, slots := 0, locals := 87 } : Room) [.ref (q 0), .int (pa0), .int (pa1)] (I, R, J) (fun r u => (r = nI 1 ∧ u = (I, R, J)) ∨ (r = nI 0 ∧ u = (I, R, J))) := by
  intro sz
  refine z_body (by decide +kernel) (Nat.le_of_ble_eq_true rfl) (fun p e s m below meth c ls hx hb hml hr ht hown hlocks hsz hK hP hD hS hl => ?_)
  have hA : ∀ a, s.heap.size ≤ a → zA 81 q sz a := fun a h => Or.inr (hsz ▸ h)
  have hl : lv_has ls 6 [(0, .ref (q 0)), (1, .int (pa0)), (2, .int (pa1))] := hl
  refine lv_iconst (v := nI 0) hx hb dX10_isAtRest_0 (by decide +kernel) ?_
  refine lv_istore_n (lv' := [(3, .int (nI 0)), (0, .ref (q 0)), (1, .int (pa0)), (2, .int (pa1))]) hx hb dX10_isAtRest_1 rfl hl (by decide) rfl (fun ls hl => ?_)
  have loop_91 : ∀ N : Nat, ∀ x_90 : Int32, zR 0 5 x_90 → (2147483648 - (x_90).toInt).toNat < N → ∀ (H : Heap) (locs : List Loc), va_P D vwCl (zw 81 q (zXd q cA) I R J) H → va_D (zA 81 q sz) (zw 81 q (zXd q cA) I R J) → va_S (zA 81 q sz) s.heap H locs → ∀ ls : Array Slot, lv_has ls 6 [(0, .ref (q 0)), (1, .int (pa0)), (2, .int (pa1)), (3, .int (x_90))] → W p l e ({ frames := 2, cells := 0, slots := 0, locals := 87 } : Room) s m ([.ref (q 0), .int (pa0), .int (pa1)] : List Value).toArray below meth c H locs 0 0 (MQ below (va_Qi (fun r u => (r = nI 1 ∧ u = (I, R, J)) ∨ (r = nI 0 ∧ u = (I, R, J))) (zB D vwCl 81 q (zXd q cA) sz) (zA 81 q sz)) ([.ref (q 0), .int (pa0), .int (pa1)] : List Value).toArray s 0 0 (zA 81 q sz)) (F0 m 2 ls []) := by
    intro N
    induction N with
    | zero => intro x_90 hx_90 hN; exact absurd hN (Nat.not_lt_zero _)
    | succ N ih_93 =>
      intro x_90 hx_90 hN_92 H locs hP hD hS ls hl
      refine lv_iload_n hx hb dX10_isAtRest_2 rfl (lv_at hl 3 rfl) ?_
      refine lv_aload_n hx hb dX10_isAtRest_3 rfl (lv_at hl 0 rfl) ?_
      refine z_get hx hb ht hown hK hP ziX10 rfl 0 (by decide) 1 (by decide) hw_2_94 rfl (v := .ref (q 3)) rfl dX10_isAtRest_4 ?_
      refine z_get hx hb ht hown hK hP ziX2 rfl 3 (by decide) 4 (by decide) hw_1_85 rfl (v := .int (I 3 4)) rfl dX10_isAtRest_7 ?_
      have f_94 : zR 0 5 (I 3 4) := xI hI 3 4
      refine lv_icmp_ge (tgt := 66) hx hb dX10_isAtRest_10 (by decide) (fun c_95 => ?_) (fun c_95 => ?_)
      · have t_c_95 := z_leT c_95
        refine lv_iconst (v := nI 1) hx hb dX10_isAtRest_66 (by decide +kernel) ?_
        exact z_zret (v := nI 1) hx hb hr hlocks hP hD hS (by decide +kernel) dX10_isAtRest_67 (Or.inl ⟨rfl, rfl⟩)
      · have t_c_95 := z_leF c_95
        have f_96 : zR 0 4 (x_90) := zR_ltx t_c_95 hx_90 f_94 (by decide)
        have f_97 : zR 1 5 (I 3 4) := zR_lty t_c_95 hx_90 f_94 (by decide)
        refine lv_aload_n hx hb dX10_isAtRest_13 rfl (lv_at hl 0 rfl) ?_
        refine z_get hx hb ht hown hK hP ziX10 rfl 0 (by decide) 4 (by decide) hw_2_97 rfl (v := .ref (q 15)) rfl dX10_isAtRest_14 ?_
        refine lv_iload_n hx hb dX10_isAtRest_17 rfl (lv_at hl 3 rfl) ?_
        refine z_callVi (k := 15) (As := [.int (x_90)]) (rest := []) hx hb hml hown ht (xk_X9_lossOf_1 l D q cA F _ _ _ hI (x_90) f_96) hw_5_37 hmX9_lossOf ⟨rfl, rfl⟩ (na := 1) rfl (by decide +kernel) (by decide) (by decide) rfl rfl hK hP hD hS hA hl.1 rfl (Nat.le_of_ble_eq_true rfl) ⟨Nat.zero_le _, Nat.zero_le _⟩ dX10_isAtRest_18 (fun r_98 I_98 R_98 J_98 H locs hp_98 hP hD hS _ _ => ?_)
        cases hp_98
        refine lv_istore (lv' := [(4, .int (r_98)), (0, .ref (q 0)), (1, .int (pa0)), (2, .int (pa1)), (3, .int (x_90))]) hx hb dX10_isAtRest_21 hl (by decide) rfl (fun ls hl => ?_)
        refine lv_iload_n hx hb dX10_isAtRest_23 rfl (lv_at hl 2 rfl) ?_
        refine lv_iload_n hx hb dX10_isAtRest_24 rfl (lv_at hl 4 rfl) ?_
        refine lv_ishr hx hb dX10_isAtRest_25 ?_
        refine z_any (fun v_99 => ?_)
        refine lv_iconst (v := nI 1) hx hb dX10_isAtRest_26 (by decide +kernel) ?_
        refine lv_iand hx hb dX10_isAtRest_27 ?_
        refine z_rng (a := 0) (b := 1) (zR_andr zk_1 (by decide)) (fun v_100 hv_100 => ?_)
        have t_105 : ∀ x_104 : Int32, zR 0 1 x_104 → ∀ (H : Heap) (locs : List Loc), va_P D vwCl (zw 81 q (zXd q cA) I R J) H → va_D (zA 81 q sz) (zw 81 q (zXd q cA) I R J) → va_S (zA 81 q sz) s.heap H locs → ∀ ls : Array Slot, lv_has ls 6 [(0, .ref (q 0)), (1, .int (pa0)), (2, .int (pa1)), (3, .int (x_90)), (4, .int (r_98))] → W p l e ({ frames := 2, cells := 0, slots := 0, locals := 87 } : Room) s m ([.ref (q 0), .int (pa0), .int (pa1)] : List Value).toArray below meth c H locs 0 0 (MQ below (va_Qi (fun r u => (r = nI 1 ∧ u = (I, R, J)) ∨ (r = nI 0 ∧ u = (I, R, J))) (zB D vwCl 81 q (zXd q cA) sz) (zA 81 q sz)) ([.ref (q 0), .int (pa0), .int (pa1)] : List Value).toArray s 0 0 (zA 81 q sz)) (F0 m 36 ls [.int (x_104)]) := by
          intro x_104 hx_104 H locs hP hD hS ls hl
          refine lv_istore (lv' := [(5, .int (x_104)), (0, .ref (q 0)), (1, .int (pa0)), (2, .int (pa1)), (3, .int (x_90)), (4, .int (r_98))]) hx hb dX10_isAtRest_36 hl (by decide) rfl (fun ls hl => ?_)
          refine lv_iload hx hb dX10_isAtRest_38 (lv_at hl 0 rfl) ?_
          refine lv_if_eq (tgt := 52) hx hb dX10_isAtRest_40 (by decide) (fun c_106 => ?_) (fun c_106 => ?_)
          · have t_c_106 := z_eqT c_106
            have f_107 : zR 0 0 (x_104) := zR_eqx t_c_106 zk_z
            refine lv_iload_n hx hb dX10_isAtRest_52 rfl (lv_at hl 3 rfl) ?_
            refine lv_iload hx hb dX10_isAtRest_53 (lv_at hl 5 rfl) ?_
            refine lv_icmp_ge (tgt := 60) hx hb dX10_isAtRest_55 (by decide) (fun c_108 => ?_) (fun c_108 => ?_)
            · have t_c_108 := z_leT c_108
              have f_109 : zR (-2147483648) 999 (r_98) := zR_lex t_c_108 (zR_any (r_98)) hpa1 (by decide)
              obtain ⟨v_110, ev_110⟩ : ∃ y : Int32, y = x_90 + nI 1 := ⟨_, rfl⟩
              have hv_110 : zR 1 5 v_110 := ev_110 ▸ zR_add f_96 zk_1 (by decide)
              have mv_110 : v_110.toInt = (x_90).toInt + 1 := by rw [ev_110, zR_addE f_96 zk_1 (by decide)]; rfl
              refine lv_iinc (v := v_110) (lv' := [(3, .int (v_110)), (5, .int (x_104)), (0, .ref (q 0)), (1, .int (pa0)), (2, .int (pa1)), (4, .int (r_98))]) hx hb dX10_isAtRest_60 hl (k := 4) rfl (ev_110 ▸ rfl) (by decide) rfl (fun ls hl => ?_)
              refine lv_goto (tgt := 2) hx hb dX10_isAtRest_63 (by decide) ?_
              exact ih_93 (v_110) (zR_w hv_110 (by decide)) (z2_up mv_110 (by decide) hN_92) _ _ hP hD hS _ (lv_sub hl [2, 3, 4, 0] rfl)
            · have t_c_108 := z_leF c_108
              have f_111 : zR 1 2147483647 (r_98) := zR_lty t_c_108 hpa1 (zR_any (r_98)) (by decide)
              refine lv_iconst (v := nI 0) hx hb dX10_isAtRest_58 (by decide +kernel) ?_
              exact z_zret (v := nI 0) hx hb hr hlocks hP hD hS (by decide +kernel) dX10_isAtRest_59 (Or.inr ⟨rfl, rfl⟩)
          · have t_c_106 := z_eqF c_106
            have f_112 : zR 1 1 (x_104) := zR_nex t_c_106 hx_104 zk_z (by decide)
            refine lv_iload hx hb dX10_isAtRest_43 (lv_at hl 5 rfl) ?_
            refine lv_iload_n hx hb dX10_isAtRest_45 rfl (lv_at hl 3 rfl) ?_
            refine lv_icmp_ge (tgt := 60) hx hb dX10_isAtRest_46 (by decide) (fun c_113 => ?_) (fun c_113 => ?_)
            · have t_c_113 := z_leT c_113
              have f_114 : zR 0 2147483647 (r_98) := zR_ley t_c_113 hpa1 (zR_any (r_98)) (by decide)
              obtain ⟨v_115, ev_115⟩ : ∃ y : Int32, y = x_90 + nI 1 := ⟨_, rfl⟩
              have hv_115 : zR 1 5 v_115 := ev_115 ▸ zR_add f_96 zk_1 (by decide)
              have mv_115 : v_115.toInt = (x_90).toInt + 1 := by rw [ev_115, zR_addE f_96 zk_1 (by decide)]; rfl
              refine lv_iinc (v := v_115) (lv' := [(3, .int (v_115)), (5, .int (x_104)), (0, .ref (q 0)), (1, .int (pa0)), (2, .int (pa1)), (4, .int (r_98))]) hx hb dX10_isAtRest_60 hl (k := 4) rfl (ev_115 ▸ rfl) (by decide) rfl (fun ls hl => ?_)
              refine lv_goto (tgt := 2) hx hb dX10_isAtRest_63 (by decide) ?_
              exact ih_93 (v_115) (zR_w hv_115 (by decide)) (z2_up mv_115 (by decide) hN_92) _ _ hP hD hS _ (lv_sub hl [2, 3, 4, 0] rfl)
            · have t_c_113 := z_leF c_113
              have f_116 : zR (-2147483648) 998 (r_98) := zR_ltx t_c_113 (zR_any (r_98)) hpa1 (by decide)
              refine lv_goto (tgt := 58) hx hb dX10_isAtRest_49 (by decide) ?_
              refine lv_iconst (v := nI 0) hx hb dX10_isAtRest_58 (by decide +kernel) ?_
              exact z_zret (v := nI 0) hx hb hr hlocks hP hD hS (by decide +kernel) dX10_isAtRest_59 (Or.inr ⟨rfl, rfl⟩)
        refine lv_if_eq (tgt := 35) hx hb dX10_isAtRest_28 (by decide) (fun c_101 => ?_) (fun c_101 => ?_)
        · have t_c_101 := z_eqT c_101
          have f_117 : zR 0 0 (v_100) := zR_eqx t_c_101 zk_z
          refine lv_iconst (v := nI 0) hx hb dX10_isAtRest_35 (by decide +kernel) ?_
          exact t_105 (nI 0) (zR_w zk_0 (by decide)) _ _ hP hD hS _ (lv_sub hl [1, 2, 3, 4, 0] rfl)
        · have t_c_101 := z_eqF c_101
          have f_118 : zR 1 1 (v_100) := zR_nex t_c_101 hv_100 zk_z (by decide)
          refine lv_iconst (v := nI 1) hx hb dX10_isAtRest_31 (by decide +kernel) ?_
          refine lv_goto (tgt := 36) hx hb dX10_isAtRest_32 (by decide) ?_
          exact t_105 (nI 1) (zR_w zk_1 (by decide)) _ _ hP hD hS _ (lv_sub hl [1, 2, 3, 4, 0] rfl)
  exact loop_91 _ (nI 0) (zR_w zk_0 (by decide)) (Nat.lt_succ_self _) _ _ hP hD hS _ (lv_sub hl [1, 2, 3, 0] rfl)
set_option maxHeartbeats 4000000 in
set_option maxRecDepth 100000 in
theorem xk_X10_rests (l : Launch) (D : va_G) (q : Nat → Nat) (cA : Nat → ClassId) (F : Nat → Nat → Int32) (I R : Nat → Nat → Int32) (J : Nat → Nat → Int64) (hI : xInv F (I, R, J)) (pa0 : Int32) : zMi l D vwCl (zXtys cA) 81 q (zXd q cA) yX10_rests cX10_rests 4 (some .int) ({ frames := 3, cells := 0, slots := 0, locals := 112 } : Room) [.ref (q 0), .int (pa0)] (I, R, J) (fun _ u => u = (I, R, J)) := by
  intro sz
  refine z_body (by decide +kernel) (Nat.le_of_ble_eq_true rfl) (fun p e s m below meth c ls hx hb hml hr ht hown hlocks hsz hK hP hD hS hl => ?_)
  have hA : ∀ a, s.heap.size ≤ a → zA 81 q sz a := fun a h => Or.inr (hsz ▸ h)
  have hl : lv_has ls 4 [(0, .ref (q 0)), (1, .int (pa0))] := hl
  refine lv_aload_n hx hb dX10_rests_0 rfl (lv_at hl 0 rfl) ?_
  refine z_callVi (k := 0) (As := []) (rest := []) hx hb hml hown ht (xk_X10_hasCity l D q cA F _ _ _ hI ) hw_4_0 hmX10_hasCity ⟨rfl, rfl⟩ (na := 0) rfl (by decide +kernel) (by decide) (by decide) rfl rfl hK hP hD hS hA hl.1 rfl (Nat.le_of_ble_eq_true rfl) ⟨Nat.zero_le _, Nat.zero_le _⟩ dX10_rests_1 (fun r_1 I_1 R_1 J_1 H locs hp_1 hP hD hS _ _ => ?_)
  rcases hp_1 with ⟨rfl, hu_1⟩ | ⟨rfl, hu_1⟩
  · cases hu_1
    refine lv_if_eq (tgt := 14) hx hb dX10_rests_4 (by decide) (fun c_0 => absurd c_0 (zD_ne zk_1 zk_z (by decide))) (fun _ => ?_)
    refine lv_iload_n hx hb dX10_rests_7 rfl (lv_at hl 1 rfl) ?_
    refine z_callSi (As := [.int (pa0)]) (rest := []) hx hb hml hown ht (xk_X10_isCost l D q cA F _ _ _ hI (pa0)) hw_5_30 hmX10_isCost ⟨rfl, rfl⟩ (na := 1) rfl (by decide +kernel) (by decide) hK hP hD hS hA hl.1 rfl (Nat.le_of_ble_eq_true rfl) ⟨Nat.zero_le _, Nat.zero_le _⟩ dX10_rests_8 (fun r_2 I_2 R_2 J_2 H locs hp_2 hP hD hS _ _ => ?_)
    rcases hp_2 with ⟨rfl, hu_2, f0_2⟩ | ⟨rfl, hu_2, nn_2⟩
    · cases hu_2
      refine lv_if_ne (tgt := 17) hx hb dX10_rests_11 (by decide) (fun _ => ?_) (fun c_0 => absurd c_0 (zD_ne zk_1 zk_z (by decide)))
      refine lv_iconst (v := nI 0) hx hb dX10_rests_17 (by decide +kernel) ?_
      refine lv_istore_n (lv' := [(2, .int (nI 0)), (0, .ref (q 0)), (1, .int (pa0))]) hx hb dX10_rests_18 rfl hl (by decide) rfl (fun ls hl => ?_)
      refine lv_iconst (v := nI 0) hx hb dX10_rests_19 (by decide +kernel) ?_
      refine lv_istore_n (lv' := [(3, .int (nI 0)), (2, .int (nI 0)), (0, .ref (q 0)), (1, .int (pa0))]) hx hb dX10_rests_20 rfl hl (by decide) rfl (fun ls hl => ?_)
      have loop_120 : ∀ N : Nat, ∀ x_118 : Int32, ∀ x_119 : Int32, zR 0 32 x_119 → (2147483648 - (x_119).toInt).toNat < N → ∀ (H : Heap) (locs : List Loc), va_P D vwCl (zw 81 q (zXd q cA) I R J) H → va_D (zA 81 q sz) (zw 81 q (zXd q cA) I R J) → va_S (zA 81 q sz) s.heap H locs → ∀ ls : Array Slot, lv_has ls 4 [(0, .ref (q 0)), (1, .int (pa0)), (2, .int (x_118)), (3, .int (x_119))] → W p l e ({ frames := 3, cells := 0, slots := 0, locals := 112 } : Room) s m ([.ref (q 0), .int (pa0)] : List Value).toArray below meth c H locs 0 0 (MQ below (va_Qi (fun _ u => u = (I, R, J)) (zB D vwCl 81 q (zXd q cA) sz) (zA 81 q sz)) ([.ref (q 0), .int (pa0)] : List Value).toArray s 0 0 (zA 81 q sz)) (F0 m 21 ls []) := by
        intro N
        induction N with
        | zero => intro x_118 x_119 hx_119 hN; exact absurd hN (Nat.not_lt_zero _)
        | succ N ih_122 =>
          intro x_118 x_119 hx_119 hN_121 H locs hP hD hS ls hl
          refine lv_iload_n hx hb dX10_rests_21 rfl (lv_at hl 3 rfl) ?_
          refine lv_iconst (v := nI 1) hx hb dX10_rests_22 (by decide +kernel) ?_
          refine lv_aload_n hx hb dX10_rests_23 rfl (lv_at hl 0 rfl) ?_
          refine z_get hx hb ht hown hK hP ziX10 rfl 0 (by decide) 1 (by decide) hw_2_94 rfl (v := .ref (q 3)) rfl dX10_rests_24 ?_
          refine z_get hx hb ht hown hK hP ziX2 rfl 3 (by decide) 4 (by decide) hw_1_85 rfl (v := .int (I 3 4)) rfl dX10_rests_27 ?_
          have f_123 : zR 0 5 (I 3 4) := xI hI 3 4
          refine lv_ishl hx hb dX10_rests_30 ?_
          refine z_rng (a := 1) (b := 32) (zR_shl1 5 f_123 (by decide)) (fun v_124 hv_124 => ?_)
          refine lv_icmp_ge (tgt := 57) hx hb dX10_rests_31 (by decide) (fun c_125 => ?_) (fun c_125 => ?_)
          · have t_c_125 := z_leT c_125
            have f_126 : zR 1 32 (x_119) := zR_ley t_c_125 hv_124 hx_119 (by decide)
            refine lv_iload_n hx hb dX10_rests_57 rfl (lv_at hl 2 rfl) ?_
            exact z_iret (v := x_118) hx hb hr hlocks hP hD hS dX10_rests_58 rfl
          · have t_c_125 := z_leF c_125
            have f_127 : zR 0 31 (x_119) := zR_ltx t_c_125 hx_119 hv_124 (by decide)
            refine lv_iload_n hx hb dX10_rests_34 rfl (lv_at hl 2 rfl) ?_
            refine lv_aload_n hx hb dX10_rests_35 rfl (lv_at hl 0 rfl) ?_
            refine lv_iload_n hx hb dX10_rests_36 rfl (lv_at hl 3 rfl) ?_
            refine lv_iload_n hx hb dX10_rests_37 rfl (lv_at hl 1 rfl) ?_
            have t_130 : ∀ x_129 : Int32, zR 0 1 x_129 → ∀ (H : Heap) (locs : List Loc), va_P D vwCl (zw 81 q (zXd q cA) I R J) H → va_D (zA 81 q sz) (zw 81 q (zXd q cA) I R J) → va_S (zA 81 q sz) s.heap H locs → ∀ ls : Array Slot, lv_has ls 4 [(0, .ref (q 0)), (1, .int (pa0)), (2, .int (x_118)), (3, .int (x_119))] → W p l e ({ frames := 3, cells := 0, slots := 0, locals := 112 } : Room) s m ([.ref (q 0), .int (pa0)] : List Value).toArray below meth c H locs 0 0 (MQ below (va_Qi (fun _ u => u = (I, R, J)) (zB D vwCl 81 q (zXd q cA) sz) (zA 81 q sz)) ([.ref (q 0), .int (pa0)] : List Value).toArray s 0 0 (zA 81 q sz)) (F0 m 49 ls [.int (x_129), .int (x_118)]) := by
              intro x_129 hx_129 H locs hP hD hS ls hl
              refine lv_iadd hx hb dX10_rests_49 ?_
              refine z_any (fun v_131 => ?_)
              refine lv_istore_n (lv' := [(2, .int (v_131)), (0, .ref (q 0)), (1, .int (pa0)), (3, .int (x_119))]) hx hb dX10_rests_50 rfl hl (by decide) rfl (fun ls hl => ?_)
              obtain ⟨v_132, ev_132⟩ : ∃ y : Int32, y = x_119 + nI 1 := ⟨_, rfl⟩
              have hv_132 : zR 1 32 v_132 := ev_132 ▸ zR_add f_127 zk_1 (by decide)
              have mv_132 : v_132.toInt = (x_119).toInt + 1 := by rw [ev_132, zR_addE f_127 zk_1 (by decide)]; rfl
              refine lv_iinc (v := v_132) (lv' := [(3, .int (v_132)), (2, .int (v_131)), (0, .ref (q 0)), (1, .int (pa0))]) hx hb dX10_rests_51 hl (k := 3) rfl (ev_132 ▸ rfl) (by decide) rfl (fun ls hl => ?_)
              refine lv_goto (tgt := 21) hx hb dX10_rests_54 (by decide) ?_
              exact ih_122 (v_131) (v_132) (zR_w hv_132 (by decide)) (z2_up mv_132 (by decide) hN_121) _ _ hP hD hS _ (lv_sub hl [2, 3, 1, 0] rfl)
            refine z_callVi (k := 0) (As := [.int (x_119), .int (pa0)]) (rest := [.int (x_118)]) hx hb hml hown ht (xk_X10_isAtRest_1 l D q cA F _ _ _ hI (x_119) f_127 (pa0) f0_2) hw_5_33 hmX10_isAtRest ⟨rfl, rfl⟩ (na := 2) rfl (by decide +kernel) (by decide) (by decide) rfl rfl hK hP hD hS hA hl.1 rfl (Nat.le_of_ble_eq_true rfl) ⟨Nat.zero_le _, Nat.zero_le _⟩ dX10_rests_38 (fun r_128 I_128 R_128 J_128 H locs hp_128 hP hD hS _ _ => ?_)
            rcases hp_128 with ⟨rfl, hu_128⟩ | ⟨rfl, hu_128⟩
            · cases hu_128
              refine lv_if_eq (tgt := 48) hx hb dX10_rests_41 (by decide) (fun c_0 => absurd c_0 (zD_ne zk_1 zk_z (by decide))) (fun _ => ?_)
              refine lv_iconst (v := nI 1) hx hb dX10_rests_44 (by decide +kernel) ?_
              refine lv_goto (tgt := 49) hx hb dX10_rests_45 (by decide) ?_
              exact t_130 (nI 1) (zR_w zk_1 (by decide)) _ _ hP hD hS _ (lv_sub hl [0, 1, 2, 3] rfl)
            · cases hu_128
              refine lv_if_eq (tgt := 48) hx hb dX10_rests_41 (by decide) (fun _ => ?_) (fun c_0 => absurd (zD_eq zk_0 zk_z) c_0)
              refine lv_iconst (v := nI 0) hx hb dX10_rests_48 (by decide +kernel) ?_
              exact t_130 (nI 0) (zR_w zk_0 (by decide)) _ _ hP hD hS _ (lv_sub hl [0, 1, 2, 3] rfl)
      exact loop_120 _ (nI 0) (nI 0) (zR_w zk_0 (by decide)) (Nat.lt_succ_self _) _ _ hP hD hS _ (lv_sub hl [2, 3, 1, 0] rfl)
    · cases hu_2
      refine lv_if_ne (tgt := 17) hx hb dX10_rests_11 (by decide) (fun c_0 => absurd (zD_eq zk_0 zk_z) c_0) (fun _ => ?_)
      refine lv_bipush (v := (-2)) hx hb dX10_rests_14 (by decide +kernel) ?_
      exact z_iret (v := (-2)) hx hb hr hlocks hP hD hS dX10_rests_16 rfl
  · cases hu_1
    refine lv_if_eq (tgt := 14) hx hb dX10_rests_4 (by decide) (fun _ => ?_) (fun c_0 => absurd (zD_eq zk_0 zk_z) c_0)
    refine lv_bipush (v := (-2)) hx hb dX10_rests_14 (by decide +kernel) ?_
    exact z_iret (v := (-2)) hx hb hr hlocks hP hD hS dX10_rests_16 rfl
set_option maxHeartbeats 4000000 in
set_option maxRecDepth 100000 in
theorem xk_X10_rest (l : Launch) (D : va_G) (q : Nat → Nat) (cA : Nat → ClassId) (F : Nat → Nat → Int32) (I R : Nat → Nat → Int32) (J : Nat → Nat → Int64) (hI : xInv F (I, R, J)) (pa0 : Int32) : zMi l D vwCl (zXtys cA) 81 q (zXd q cA) yX10_rest cX10_rest 3 (some .int) ({ frames := 3, cells := 0, slots := 0, locals := 112 } : Room) [.ref (q 0), .int (pa0)] (I, R, J) (fun r u => zR (-2) 31 r ∧ u = (I, R, J)) := by
  intro sz
  refine z_body (by decide +kernel) (Nat.le_of_ble_eq_true rfl) (fun p e s m below meth c ls hx hb hml hr ht hown hlocks hsz hK hP hD hS hl => ?_)
  have hA : ∀ a, s.heap.size ≤ a → zA 81 q sz a := fun a h => Or.inr (hsz ▸ h)
  have hl : lv_has ls 3 [(0, .ref (q 0)), (1, .int (pa0))] := hl
  refine lv_aload_n hx hb dX10_rest_0 rfl (lv_at hl 0 rfl) ?_
  refine z_callVi (k := 0) (As := []) (rest := []) hx hb hml hown ht (xk_X10_hasCity l D q cA F _ _ _ hI ) hw_4_0 hmX10_hasCity ⟨rfl, rfl⟩ (na := 0) rfl (by decide +kernel) (by decide) (by decide) rfl rfl hK hP hD hS hA hl.1 rfl (Nat.le_of_ble_eq_true rfl) ⟨Nat.zero_le _, Nat.zero_le _⟩ dX10_rest_1 (fun r_1 I_1 R_1 J_1 H locs hp_1 hP hD hS _ _ => ?_)
  rcases hp_1 with ⟨rfl, hu_1⟩ | ⟨rfl, hu_1⟩
  · cases hu_1
    refine lv_if_eq (tgt := 14) hx hb dX10_rest_4 (by decide) (fun c_0 => absurd c_0 (zD_ne zk_1 zk_z (by decide))) (fun _ => ?_)
    refine lv_iload_n hx hb dX10_rest_7 rfl (lv_at hl 1 rfl) ?_
    refine z_callSi (As := [.int (pa0)]) (rest := []) hx hb hml hown ht (xk_X10_isCost l D q cA F _ _ _ hI (pa0)) hw_5_30 hmX10_isCost ⟨rfl, rfl⟩ (na := 1) rfl (by decide +kernel) (by decide) hK hP hD hS hA hl.1 rfl (Nat.le_of_ble_eq_true rfl) ⟨Nat.zero_le _, Nat.zero_le _⟩ dX10_rest_8 (fun r_2 I_2 R_2 J_2 H locs hp_2 hP hD hS _ _ => ?_)
    rcases hp_2 with ⟨rfl, hu_2, f0_2⟩ | ⟨rfl, hu_2, nn_2⟩
    · cases hu_2
      refine lv_if_ne (tgt := 17) hx hb dX10_rest_11 (by decide) (fun _ => ?_) (fun c_0 => absurd c_0 (zD_ne zk_1 zk_z (by decide)))
      refine lv_iconst (v := nI 0) hx hb dX10_rest_17 (by decide +kernel) ?_
      refine lv_istore_n (lv' := [(2, .int (nI 0)), (0, .ref (q 0)), (1, .int (pa0))]) hx hb dX10_rest_18 rfl hl (by decide) rfl (fun ls hl => ?_)
      have loop_31 : ∀ N : Nat, ∀ x_30 : Int32, zR 0 32 x_30 → (2147483648 - (x_30).toInt).toNat < N → ∀ (H : Heap) (locs : List Loc), va_P D vwCl (zw 81 q (zXd q cA) I R J) H → va_D (zA 81 q sz) (zw 81 q (zXd q cA) I R J) → va_S (zA 81 q sz) s.heap H locs → ∀ ls : Array Slot, lv_has ls 3 [(0, .ref (q 0)), (1, .int (pa0)), (2, .int (x_30))] → W p l e ({ frames := 3, cells := 0, slots := 0, locals := 112 } : Room) s m ([.ref (q 0), .int (pa0)] : List Value).toArray below meth c H locs 0 0 (MQ below (va_Qi (fun r u => zR (-2) 31 r ∧ u = (I, R, J)) (zB D vwCl 81 q (zXd q cA) sz) (zA 81 q sz)) ([.ref (q 0), .int (pa0)] : List Value).toArray s 0 0 (zA 81 q sz)) (F0 m 19 ls []) := by
        intro N
        induction N with
        | zero => intro x_30 hx_30 hN; exact absurd hN (Nat.not_lt_zero _)
        | succ N ih_33 =>
          intro x_30 hx_30 hN_32 H locs hP hD hS ls hl
          refine lv_iload_n hx hb dX10_rest_19 rfl (lv_at hl 2 rfl) ?_
          refine lv_iconst (v := nI 1) hx hb dX10_rest_20 (by decide +kernel) ?_
          refine lv_aload_n hx hb dX10_rest_21 rfl (lv_at hl 0 rfl) ?_
          refine z_get hx hb ht hown hK hP ziX10 rfl 0 (by decide) 1 (by decide) hw_2_94 rfl (v := .ref (q 3)) rfl dX10_rest_22 ?_
          refine z_get hx hb ht hown hK hP ziX2 rfl 3 (by decide) 4 (by decide) hw_1_85 rfl (v := .int (I 3 4)) rfl dX10_rest_25 ?_
          have f_34 : zR 0 5 (I 3 4) := xI hI 3 4
          refine lv_ishl hx hb dX10_rest_28 ?_
          refine z_rng (a := 1) (b := 32) (zR_shl1 5 f_34 (by decide)) (fun v_35 hv_35 => ?_)
          refine lv_icmp_ge (tgt := 49) hx hb dX10_rest_29 (by decide) (fun c_36 => ?_) (fun c_36 => ?_)
          · have t_c_36 := z_leT c_36
            have f_37 : zR 1 32 (x_30) := zR_ley t_c_36 hv_35 hx_30 (by decide)
            refine lv_iconst (v := (-1)) hx hb dX10_rest_49 (by decide +kernel) ?_
            exact z_iret (v := (-1)) hx hb hr hlocks hP hD hS dX10_rest_50 ⟨(zR_w zk_m1 (by decide)), rfl⟩
          · have t_c_36 := z_leF c_36
            have f_38 : zR 0 31 (x_30) := zR_ltx t_c_36 hx_30 hv_35 (by decide)
            refine lv_aload_n hx hb dX10_rest_32 rfl (lv_at hl 0 rfl) ?_
            refine lv_iload_n hx hb dX10_rest_33 rfl (lv_at hl 2 rfl) ?_
            refine lv_iload_n hx hb dX10_rest_34 rfl (lv_at hl 1 rfl) ?_
            refine z_callVi (k := 0) (As := [.int (x_30), .int (pa0)]) (rest := []) hx hb hml hown ht (xk_X10_isAtRest_1 l D q cA F _ _ _ hI (x_30) f_38 (pa0) f0_2) hw_5_33 hmX10_isAtRest ⟨rfl, rfl⟩ (na := 2) rfl (by decide +kernel) (by decide) (by decide) rfl rfl hK hP hD hS hA hl.1 rfl (Nat.le_of_ble_eq_true rfl) ⟨Nat.zero_le _, Nat.zero_le _⟩ dX10_rest_35 (fun r_39 I_39 R_39 J_39 H locs hp_39 hP hD hS _ _ => ?_)
            rcases hp_39 with ⟨rfl, hu_39⟩ | ⟨rfl, hu_39⟩
            · cases hu_39
              refine lv_if_eq (tgt := 43) hx hb dX10_rest_38 (by decide) (fun c_0 => absurd c_0 (zD_ne zk_1 zk_z (by decide))) (fun _ => ?_)
              refine lv_iload_n hx hb dX10_rest_41 rfl (lv_at hl 2 rfl) ?_
              exact z_iret (v := x_30) hx hb hr hlocks hP hD hS dX10_rest_42 ⟨(zR_w f_38 (by decide)), rfl⟩
            · cases hu_39
              refine lv_if_eq (tgt := 43) hx hb dX10_rest_38 (by decide) (fun _ => ?_) (fun c_0 => absurd (zD_eq zk_0 zk_z) c_0)
              obtain ⟨v_40, ev_40⟩ : ∃ y : Int32, y = x_30 + nI 1 := ⟨_, rfl⟩
              have hv_40 : zR 1 32 v_40 := ev_40 ▸ zR_add f_38 zk_1 (by decide)
              have mv_40 : v_40.toInt = (x_30).toInt + 1 := by rw [ev_40, zR_addE f_38 zk_1 (by decide)]; rfl
              refine lv_iinc (v := v_40) (lv' := [(2, .int (v_40)), (0, .ref (q 0)), (1, .int (pa0))]) hx hb dX10_rest_43 hl (k := 2) rfl (ev_40 ▸ rfl) (by decide) rfl (fun ls hl => ?_)
              refine lv_goto (tgt := 19) hx hb dX10_rest_46 (by decide) ?_
              exact ih_33 (v_40) (zR_w hv_40 (by decide)) (z2_up mv_40 (by decide) hN_32) _ _ hP hD hS _ (lv_sub hl [1, 2, 0] rfl)
      exact loop_31 _ (nI 0) (zR_w zk_0 (by decide)) (Nat.lt_succ_self _) _ _ hP hD hS _ (lv_sub hl [1, 2, 0] rfl)
    · cases hu_2
      refine lv_if_ne (tgt := 17) hx hb dX10_rest_11 (by decide) (fun c_0 => absurd (zD_eq zk_0 zk_z) c_0) (fun _ => ?_)
      refine lv_bipush (v := (-2)) hx hb dX10_rest_14 (by decide +kernel) ?_
      exact z_iret (v := (-2)) hx hb hr hlocks hP hD hS dX10_rest_16 ⟨(zR_w zk_m2 (by decide)), rfl⟩
  · cases hu_1
    refine lv_if_eq (tgt := 14) hx hb dX10_rest_4 (by decide) (fun _ => ?_) (fun c_0 => absurd (zD_eq zk_0 zk_z) c_0)
    refine lv_bipush (v := (-2)) hx hb dX10_rest_14 (by decide +kernel) ?_
    exact z_iret (v := (-2)) hx hb hr hlocks hP hD hS dX10_rest_16 ⟨(zR_w zk_m2 (by decide)), rfl⟩
set_option maxHeartbeats 4000000 in
set_option maxRecDepth 100000 in
theorem xk_X10_dear (l : Launch) (D : va_G) (q : Nat → Nat) (cA : Nat → ClassId) (F : Nat → Nat → Int32) (I R : Nat → Nat → Int32) (J : Nat → Nat → Int64) (hI : xInv F (I, R, J))  : zMi l D vwCl (zXtys cA) 81 q (zXd q cA) yX10_dear cX10_dear 3 (some .int) ({ frames := 2, cells := 0, slots := 0, locals := 87 } : Room) [.ref (q 0)] (I, R, J) (fun _ u => u = (I, R, J)) := by
  intro sz
  refine z_body (by decide +kernel) (Nat.le_of_ble_eq_true rfl) (fun p e s m below meth c ls hx hb hml hr ht hown hlocks hsz hK hP hD hS hl => ?_)
  have hA : ∀ a, s.heap.size ≤ a → zA 81 q sz a := fun a h => Or.inr (hsz ▸ h)
  have hl : lv_has ls 3 [(0, .ref (q 0))] := hl
  refine lv_aload_n hx hb dX10_dear_0 rfl (lv_at hl 0 rfl) ?_
  refine z_callVi (k := 0) (As := []) (rest := []) hx hb hml hown ht (xk_X10_hasCity l D q cA F _ _ _ hI ) hw_4_0 hmX10_hasCity ⟨rfl, rfl⟩ (na := 0) rfl (by decide +kernel) (by decide) (by decide) rfl rfl hK hP hD hS hA hl.1 rfl (Nat.le_of_ble_eq_true rfl) ⟨Nat.zero_le _, Nat.zero_le _⟩ dX10_dear_1 (fun r_1 I_1 R_1 J_1 H locs hp_1 hP hD hS _ _ => ?_)
  rcases hp_1 with ⟨rfl, hu_1⟩ | ⟨rfl, hu_1⟩
  · cases hu_1
    refine lv_if_ne (tgt := 10) hx hb dX10_dear_4 (by decide) (fun _ => ?_) (fun c_0 => absurd c_0 (zD_ne zk_1 zk_z (by decide)))
    refine lv_sipush (v := nI 999) hx hb dX10_dear_10 (by decide +kernel) ?_
    refine lv_istore_n (lv' := [(1, .int (nI 999)), (0, .ref (q 0))]) hx hb dX10_dear_13 rfl hl (by decide) rfl (fun ls hl => ?_)
    refine lv_iconst (v := nI 0) hx hb dX10_dear_14 (by decide +kernel) ?_
    refine lv_istore_n (lv' := [(2, .int (nI 0)), (1, .int (nI 999)), (0, .ref (q 0))]) hx hb dX10_dear_15 rfl hl (by decide) rfl (fun ls hl => ?_)
    have loop_37 : ∀ N : Nat, ∀ x_35 : Int32, ∀ x_36 : Int32, zR 0 5 x_36 → (2147483648 - (x_36).toInt).toNat < N → ∀ (H : Heap) (locs : List Loc), va_P D vwCl (zw 81 q (zXd q cA) I R J) H → va_D (zA 81 q sz) (zw 81 q (zXd q cA) I R J) → va_S (zA 81 q sz) s.heap H locs → ∀ ls : Array Slot, lv_has ls 3 [(0, .ref (q 0)), (1, .int (x_35)), (2, .int (x_36))] → W p l e ({ frames := 2, cells := 0, slots := 0, locals := 87 } : Room) s m ([.ref (q 0)] : List Value).toArray below meth c H locs 0 0 (MQ below (va_Qi (fun _ u => u = (I, R, J)) (zB D vwCl 81 q (zXd q cA) sz) (zA 81 q sz)) ([.ref (q 0)] : List Value).toArray s 0 0 (zA 81 q sz)) (F0 m 16 ls []) := by
      intro N
      induction N with
      | zero => intro x_35 x_36 hx_36 hN; exact absurd hN (Nat.not_lt_zero _)
      | succ N ih_39 =>
        intro x_35 x_36 hx_36 hN_38 H locs hP hD hS ls hl
        refine lv_iload_n hx hb dX10_dear_16 rfl (lv_at hl 2 rfl) ?_
        refine lv_aload_n hx hb dX10_dear_17 rfl (lv_at hl 0 rfl) ?_
        refine z_get hx hb ht hown hK hP ziX10 rfl 0 (by decide) 1 (by decide) hw_2_94 rfl (v := .ref (q 3)) rfl dX10_dear_18 ?_
        refine z_get hx hb ht hown hK hP ziX2 rfl 3 (by decide) 4 (by decide) hw_1_85 rfl (v := .int (I 3 4)) rfl dX10_dear_21 ?_
        have f_40 : zR 0 5 (I 3 4) := xI hI 3 4
        refine lv_icmp_ge (tgt := 46) hx hb dX10_dear_24 (by decide) (fun c_41 => ?_) (fun c_41 => ?_)
        · have t_c_41 := z_leT c_41
          refine lv_iload_n hx hb dX10_dear_46 rfl (lv_at hl 1 rfl) ?_
          exact z_iret (v := x_35) hx hb hr hlocks hP hD hS dX10_dear_47 rfl
        · have t_c_41 := z_leF c_41
          have f_42 : zR 0 4 (x_36) := zR_ltx t_c_41 hx_36 f_40 (by decide)
          have f_43 : zR 1 5 (I 3 4) := zR_lty t_c_41 hx_36 f_40 (by decide)
          refine lv_iload_n hx hb dX10_dear_27 rfl (lv_at hl 1 rfl) ?_
          refine lv_aload_n hx hb dX10_dear_28 rfl (lv_at hl 0 rfl) ?_
          refine z_get hx hb ht hown hK hP ziX10 rfl 0 (by decide) 4 (by decide) hw_2_97 rfl (v := .ref (q 15)) rfl dX10_dear_29 ?_
          refine lv_iload_n hx hb dX10_dear_32 rfl (lv_at hl 2 rfl) ?_
          refine z_callVi (k := 15) (As := [.int (x_36)]) (rest := [.int (x_35)]) hx hb hml hown ht (xk_X9_lossOf_1 l D q cA F _ _ _ hI (x_36) f_42) hw_5_37 hmX9_lossOf ⟨rfl, rfl⟩ (na := 1) rfl (by decide +kernel) (by decide) (by decide) rfl rfl hK hP hD hS hA hl.1 rfl (Nat.le_of_ble_eq_true rfl) ⟨Nat.zero_le _, Nat.zero_le _⟩ dX10_dear_33 (fun r_44 I_44 R_44 J_44 H locs hp_44 hP hD hS _ _ => ?_)
          cases hp_44
          refine va_mmin hx hb (hml.trans hl.1.symm) hown (ht _ hw_5_51) (ht _ hw_3_217) (ht _ hw_1_19) (ht _ hw_3_218) (by decide) (Nat.le_of_ble_eq_true rfl) (Nat.zero_le _) (Nat.zero_le _) dX10_dear_36 ?_
          refine z_any (fun v_45 => ?_)
          refine lv_istore_n (lv' := [(1, .int (v_45)), (0, .ref (q 0)), (2, .int (x_36))]) hx hb dX10_dear_39 rfl hl (by decide) rfl (fun ls hl => ?_)
          obtain ⟨v_46, ev_46⟩ : ∃ y : Int32, y = x_36 + nI 1 := ⟨_, rfl⟩
          have hv_46 : zR 1 5 v_46 := ev_46 ▸ zR_add f_42 zk_1 (by decide)
          have mv_46 : v_46.toInt = (x_36).toInt + 1 := by rw [ev_46, zR_addE f_42 zk_1 (by decide)]; rfl
          refine lv_iinc (v := v_46) (lv' := [(2, .int (v_46)), (1, .int (v_45)), (0, .ref (q 0))]) hx hb dX10_dear_40 hl (k := 2) rfl (ev_46 ▸ rfl) (by decide) rfl (fun ls hl => ?_)
          refine lv_goto (tgt := 16) hx hb dX10_dear_43 (by decide) ?_
          exact ih_39 (v_45) (v_46) (zR_w hv_46 (by decide)) (z2_up mv_46 (by decide) hN_38) _ _ hP hD hS _ (lv_sub hl [2, 1, 0] rfl)
    exact loop_37 _ (nI 999) (nI 0) (zR_w zk_0 (by decide)) (Nat.lt_succ_self _) _ _ hP hD hS _ (lv_sub hl [2, 1, 0] rfl)
  · cases hu_1
    refine lv_if_ne (tgt := 10) hx hb dX10_dear_4 (by decide) (fun c_0 => absurd (zD_eq zk_0 zk_z) c_0) (fun _ => ?_)
    refine lv_bipush (v := (-2)) hx hb dX10_dear_7 (by decide +kernel) ?_
    exact z_iret (v := (-2)) hx hb hr hlocks hP hD hS dX10_dear_9 rfl
set_option maxHeartbeats 4000000 in
set_option maxRecDepth 100000 in
theorem xk_X10_isSlot (l : Launch) (D : va_G) (q : Nat → Nat) (cA : Nat → ClassId) (F : Nat → Nat → Int32) (I R : Nat → Nat → Int32) (J : Nat → Nat → Int64) (hI : xInv F (I, R, J)) (pa0 : Int32) : zMi l D vwCl (zXtys cA) 81 q (zXd q cA) yX10_isSlot cX10_isSlot 1 (some .boolean) ({ frames := 0, cells := 0, slots := 0, locals := 0 } : Room) [.int (pa0)] (I, R, J) (fun r u => (r = nI 1 ∧ u = (I, R, J) ∧ zR 0 3 pa0) ∨ (r = nI 0 ∧ u = (I, R, J) ∧ (pa0.toInt < 0 ∨ 3 < pa0.toInt))) := by
  intro sz
  refine z_body (by decide +kernel) (Nat.le_of_ble_eq_true rfl) (fun p e s m below meth c ls hx hb hml hr ht hown hlocks hsz hK hP hD hS hl => ?_)
  have hA : ∀ a, s.heap.size ≤ a → zA 81 q sz a := fun a h => Or.inr (hsz ▸ h)
  have hl : lv_has ls 1 [(0, .int (pa0))] := hl
  refine lv_iload_n hx hb dX10_isSlot_0 rfl (lv_at hl 0 rfl) ?_
  refine lv_if_lt (tgt := 13) hx hb dX10_isSlot_1 (by decide) (fun c_1 => ?_) (fun c_1 => ?_)
  · have t_c_1 := z_ltT c_1
    have f_2 : zR (-2147483648) (-1) (pa0) := zR_ltx t_c_1 (zR_any (pa0)) zk_z (by decide)
    refine lv_iconst (v := nI 0) hx hb dX10_isSlot_13 (by decide +kernel) ?_
    exact z_zret (v := nI 0) hx hb hr hlocks hP hD hS (by decide +kernel) dX10_isSlot_14 (Or.inr ⟨rfl, rfl, (Or.inl (Int.lt_of_le_of_lt f_2.2 (by decide)))⟩)
  · have t_c_1 := z_ltF c_1
    have f_3 : zR 0 2147483647 (pa0) := zR_ley t_c_1 zk_z (zR_any (pa0)) (by decide)
    refine lv_iload_n hx hb dX10_isSlot_4 rfl (lv_at hl 0 rfl) ?_
    refine lv_iconst (v := nI 4) hx hb dX10_isSlot_5 (by decide +kernel) ?_
    refine lv_icmp_ge (tgt := 13) hx hb dX10_isSlot_6 (by decide) (fun c_4 => ?_) (fun c_4 => ?_)
    · have t_c_4 := z_leT c_4
      have f_5 : zR 4 2147483647 (pa0) := zR_ley t_c_4 zk_4 f_3 (by decide)
      refine lv_iconst (v := nI 0) hx hb dX10_isSlot_13 (by decide +kernel) ?_
      exact z_zret (v := nI 0) hx hb hr hlocks hP hD hS (by decide +kernel) dX10_isSlot_14 (Or.inr ⟨rfl, rfl, (Or.inr (Int.lt_of_lt_of_le (by decide) f_5.1))⟩)
    · have t_c_4 := z_leF c_4
      have f_6 : zR 0 3 (pa0) := zR_ltx t_c_4 f_3 zk_4 (by decide)
      refine lv_iconst (v := nI 1) hx hb dX10_isSlot_9 (by decide +kernel) ?_
      refine lv_goto (tgt := 14) hx hb dX10_isSlot_10 (by decide) ?_
      exact z_zret (v := nI 1) hx hb hr hlocks hP hD hS (by decide +kernel) dX10_isSlot_14 (Or.inl ⟨rfl, rfl, f_6⟩)
set_option maxHeartbeats 4000000 in
set_option maxRecDepth 100000 in
theorem xk_X6_isThere (l : Launch) (D : va_G) (q : Nat → Nat) (cA : Nat → ClassId) (F : Nat → Nat → Int32) (I R : Nat → Nat → Int32) (J : Nat → Nat → Int64) (hI : xInv F (I, R, J))  : zMi l D vwCl (zXtys cA) 81 q (zXd q cA) yX6_isThere cX6_isThere 1 (some .boolean) ({ frames := 0, cells := 0, slots := 0, locals := 0 } : Room) [.ref (q 73)] (I, R, J) (fun r u => (r = nI 1 ∧ u = (I, R, J) ∧ (I 73 1).toInt ≠ -1) ∨ (r = nI 0 ∧ u = (I, R, J) ∧ (I 73 1).toInt = -1)) := by
  intro sz
  refine z_body (by decide +kernel) (Nat.le_of_ble_eq_true rfl) (fun p e s m below meth c ls hx hb hml hr ht hown hlocks hsz hK hP hD hS hl => ?_)
  have hA : ∀ a, s.heap.size ≤ a → zA 81 q sz a := fun a h => Or.inr (hsz ▸ h)
  have hl : lv_has ls 1 [(0, .ref (q 73))] := hl
  refine lv_aload_n hx hb dX6_isThere_0 rfl (lv_at hl 0 rfl) ?_
  refine z_get hx hb ht hown hK hP ziX6 rfl 73 (by decide) 1 (by decide) hw_2_79 rfl (v := .int (I 73 1)) rfl dX6_isThere_1 ?_
  have f_1 : zR (-1) 60 (I 73 1) := xI hI 73 1
  refine lv_iconst (v := (-1)) hx hb dX6_isThere_4 (by decide +kernel) ?_
  refine lv_icmp_eq (tgt := 12) hx hb dX6_isThere_5 (by decide) (fun c_2 => ?_) (fun c_2 => ?_)
  · have t_c_2 := z_eqT c_2
    have f_3 : zR (-1) (-1) (I 73 1) := zR_eqx t_c_2 zk_m1
    refine lv_iconst (v := nI 0) hx hb dX6_isThere_12 (by decide +kernel) ?_
    exact z_zret (v := nI 0) hx hb hr hlocks hP hD hS (by decide +kernel) dX6_isThere_13 (Or.inr ⟨rfl, rfl, t_c_2.trans (by decide +kernel)⟩)
  · have t_c_2 := z_eqF c_2
    have f_4 : zR 0 60 (I 73 1) := zR_nex t_c_2 f_1 zk_m1 (by decide)
    refine lv_iconst (v := nI 1) hx hb dX6_isThere_8 (by decide +kernel) ?_
    refine lv_goto (tgt := 13) hx hb dX6_isThere_9 (by decide) ?_
    exact z_zret (v := nI 1) hx hb hr hlocks hP hD hS (by decide +kernel) dX6_isThere_13 (Or.inl ⟨rfl, rfl, fun h => t_c_2 (h.trans (by decide +kernel))⟩)
set_option maxHeartbeats 4000000 in
set_option maxRecDepth 100000 in
theorem xk_X1_isWithin (l : Launch) (D : va_G) (q : Nat → Nat) (cA : Nat → ClassId) (F : Nat → Nat → Int32) (I R : Nat → Nat → Int32) (J : Nat → Nat → Int64) (hI : xInv F (I, R, J)) (pa0 : Int64) (pa1 : Int32) (hpa1 : zR 0 1 pa1) (pa2 : Int32) (hpa2 : zR (-1) 4 pa2) : zMi l D vwCl (zXtys cA) 81 q (zXd q cA) yX1_isWithin cX1_isWithin 4 (some .boolean) ({ frames := 0, cells := 0, slots := 0, locals := 0 } : Room) [.long (pa0), .int (pa1), .int (pa2)] (I, R, J) (fun r u => (r = nI 1 ∧ u = (I, R, J) ∧ zL 0 4 pa0 ∧ zR 0 4 pa2) ∨ (r = nI 0 ∧ u = (I, R, J))) := by
  intro sz
  refine z_body (by decide +kernel) (Nat.le_of_ble_eq_true rfl) (fun p e s m below meth c ls hx hb hml hr ht hown hlocks hsz hK hP hD hS hl => ?_)
  have hA : ∀ a, s.heap.size ≤ a → zA 81 q sz a := fun a h => Or.inr (hsz ▸ h)
  have hl : lv_has ls 4 [(0, .long (pa0)), (2, .int (pa1)), (3, .int (pa2))] := hl
  refine lv_lload_n hx hb dX1_isWithin_0 rfl (lv_at hl 0 rfl) ?_
  refine lv_iload_n hx hb dX1_isWithin_1 rfl (lv_at hl 1 rfl) ?_
  refine lv_i2l (v := (pa1).toInt64) hx hb dX1_isWithin_2 rfl ?_
  refine W.lcmp hx hb dX1_isWithin_3 ?_
  refine lv_if_lt (tgt := 18) hx hb dX1_isWithin_4 (by decide) (fun c_1 => ?_) (fun c_1 => ?_)
  · have t_c_1 := z_lltT ((lg_cmp_lt _ _).mp c_1)
    have f_2 : zL (-9223372036854775808) 0 (pa0) := zL_ltx t_c_1 (zL_any (pa0)) (zR_i2l hpa1) (by decide)
    refine lv_iconst (v := nI 0) hx hb dX1_isWithin_18 (by decide +kernel) ?_
    exact z_zret (v := nI 0) hx hb hr hlocks hP hD hS (by decide +kernel) dX1_isWithin_19 (Or.inr ⟨rfl, rfl⟩)
  · have t_c_1 := z_lltF (fun h => c_1 ((lg_cmp_lt _ _).mpr h))
    have f_3 : zL 0 9223372036854775807 (pa0) := zL_ley t_c_1 (zR_i2l hpa1) (zL_any (pa0)) (by decide)
    refine lv_lload_n hx hb dX1_isWithin_7 rfl (lv_at hl 0 rfl) ?_
    refine lv_iload_n hx hb dX1_isWithin_8 rfl (lv_at hl 2 rfl) ?_
    refine lv_i2l (v := (pa2).toInt64) hx hb dX1_isWithin_9 rfl ?_
    refine W.lcmp hx hb dX1_isWithin_10 ?_
    refine lv_if_gt (tgt := 18) hx hb dX1_isWithin_11 (by decide) (fun c_4 => ?_) (fun c_4 => ?_)
    · have t_c_4 := z_lltT ((lg_cmp_gt _ _).mp c_4)
      refine lv_iconst (v := nI 0) hx hb dX1_isWithin_18 (by decide +kernel) ?_
      exact z_zret (v := nI 0) hx hb hr hlocks hP hD hS (by decide +kernel) dX1_isWithin_19 (Or.inr ⟨rfl, rfl⟩)
    · have t_c_4 := z_lltF (fun h => c_4 ((lg_cmp_gt _ _).mpr h))
      have f_5 : zL 0 4 (pa0) := zL_lex t_c_4 f_3 (zR_i2l hpa2) (by decide)
      have f_6 : zL 0 4 ((pa2).toInt64) := zL_ley t_c_4 f_3 (zR_i2l hpa2) (by decide)
      have f_7 : zR 0 4 (pa2) := zL_back f_6
      refine lv_iconst (v := nI 1) hx hb dX1_isWithin_14 (by decide +kernel) ?_
      refine lv_goto (tgt := 19) hx hb dX1_isWithin_15 (by decide) ?_
      exact z_zret (v := nI 1) hx hb hr hlocks hP hD hS (by decide +kernel) dX1_isWithin_19 (Or.inl ⟨rfl, rfl, f_5, f_7⟩)
set_option maxHeartbeats 4000000 in
set_option maxRecDepth 100000 in
theorem xk_X1_isWithin_1 (l : Launch) (D : va_G) (q : Nat → Nat) (cA : Nat → ClassId) (F : Nat → Nat → Int32) (I R : Nat → Nat → Int32) (J : Nat → Nat → Int64) (hI : xInv F (I, R, J)) (pa0 : Int64) (pa1 : Int32) (hpa1 : zR 0 1 pa1) (pa2 : Int32) (hpa2 : zR (-1) 5 pa2) : zMi l D vwCl (zXtys cA) 81 q (zXd q cA) yX1_isWithin cX1_isWithin 4 (some .boolean) ({ frames := 0, cells := 0, slots := 0, locals := 0 } : Room) [.long (pa0), .int (pa1), .int (pa2)] (I, R, J) (fun r u => (r = nI 1 ∧ u = (I, R, J) ∧ zL 0 5 pa0 ∧ zR 0 5 pa2) ∨ (r = nI 0 ∧ u = (I, R, J))) := by
  intro sz
  refine z_body (by decide +kernel) (Nat.le_of_ble_eq_true rfl) (fun p e s m below meth c ls hx hb hml hr ht hown hlocks hsz hK hP hD hS hl => ?_)
  have hA : ∀ a, s.heap.size ≤ a → zA 81 q sz a := fun a h => Or.inr (hsz ▸ h)
  have hl : lv_has ls 4 [(0, .long (pa0)), (2, .int (pa1)), (3, .int (pa2))] := hl
  refine lv_lload_n hx hb dX1_isWithin_0 rfl (lv_at hl 0 rfl) ?_
  refine lv_iload_n hx hb dX1_isWithin_1 rfl (lv_at hl 1 rfl) ?_
  refine lv_i2l (v := (pa1).toInt64) hx hb dX1_isWithin_2 rfl ?_
  refine W.lcmp hx hb dX1_isWithin_3 ?_
  refine lv_if_lt (tgt := 18) hx hb dX1_isWithin_4 (by decide) (fun c_1 => ?_) (fun c_1 => ?_)
  · have t_c_1 := z_lltT ((lg_cmp_lt _ _).mp c_1)
    have f_2 : zL (-9223372036854775808) 0 (pa0) := zL_ltx t_c_1 (zL_any (pa0)) (zR_i2l hpa1) (by decide)
    refine lv_iconst (v := nI 0) hx hb dX1_isWithin_18 (by decide +kernel) ?_
    exact z_zret (v := nI 0) hx hb hr hlocks hP hD hS (by decide +kernel) dX1_isWithin_19 (Or.inr ⟨rfl, rfl⟩)
  · have t_c_1 := z_lltF (fun h => c_1 ((lg_cmp_lt _ _).mpr h))
    have f_3 : zL 0 9223372036854775807 (pa0) := zL_ley t_c_1 (zR_i2l hpa1) (zL_any (pa0)) (by decide)
    refine lv_lload_n hx hb dX1_isWithin_7 rfl (lv_at hl 0 rfl) ?_
    refine lv_iload_n hx hb dX1_isWithin_8 rfl (lv_at hl 2 rfl) ?_
    refine lv_i2l (v := (pa2).toInt64) hx hb dX1_isWithin_9 rfl ?_
    refine W.lcmp hx hb dX1_isWithin_10 ?_
    refine lv_if_gt (tgt := 18) hx hb dX1_isWithin_11 (by decide) (fun c_4 => ?_) (fun c_4 => ?_)
    · have t_c_4 := z_lltT ((lg_cmp_gt _ _).mp c_4)
      refine lv_iconst (v := nI 0) hx hb dX1_isWithin_18 (by decide +kernel) ?_
      exact z_zret (v := nI 0) hx hb hr hlocks hP hD hS (by decide +kernel) dX1_isWithin_19 (Or.inr ⟨rfl, rfl⟩)
    · have t_c_4 := z_lltF (fun h => c_4 ((lg_cmp_gt _ _).mpr h))
      have f_5 : zL 0 5 (pa0) := zL_lex t_c_4 f_3 (zR_i2l hpa2) (by decide)
      have f_6 : zL 0 5 ((pa2).toInt64) := zL_ley t_c_4 f_3 (zR_i2l hpa2) (by decide)
      have f_7 : zR 0 5 (pa2) := zL_back f_6
      refine lv_iconst (v := nI 1) hx hb dX1_isWithin_14 (by decide +kernel) ?_
      refine lv_goto (tgt := 19) hx hb dX1_isWithin_15 (by decide) ?_
      exact z_zret (v := nI 1) hx hb hr hlocks hP hD hS (by decide +kernel) dX1_isWithin_19 (Or.inl ⟨rfl, rfl, f_5, f_7⟩)
set_option maxHeartbeats 4000000 in
set_option maxRecDepth 100000 in
theorem xk_X1_isWithin_2 (l : Launch) (D : va_G) (q : Nat → Nat) (cA : Nat → ClassId) (F : Nat → Nat → Int32) (I R : Nat → Nat → Int32) (J : Nat → Nat → Int64) (hI : xInv F (I, R, J)) (pa0 : Int64) (pa1 : Int32) (hpa1 : zR 0 1 pa1) (pa2 : Int32) (hpa2 : zR 0 9999 pa2) : zMi l D vwCl (zXtys cA) 81 q (zXd q cA) yX1_isWithin cX1_isWithin 4 (some .boolean) ({ frames := 0, cells := 0, slots := 0, locals := 0 } : Room) [.long (pa0), .int (pa1), .int (pa2)] (I, R, J) (fun r u => (r = nI 1 ∧ u = (I, R, J) ∧ zL 0 9999 pa0) ∨ (r = nI 0 ∧ u = (I, R, J))) := by
  intro sz
  refine z_body (by decide +kernel) (Nat.le_of_ble_eq_true rfl) (fun p e s m below meth c ls hx hb hml hr ht hown hlocks hsz hK hP hD hS hl => ?_)
  have hA : ∀ a, s.heap.size ≤ a → zA 81 q sz a := fun a h => Or.inr (hsz ▸ h)
  have hl : lv_has ls 4 [(0, .long (pa0)), (2, .int (pa1)), (3, .int (pa2))] := hl
  refine lv_lload_n hx hb dX1_isWithin_0 rfl (lv_at hl 0 rfl) ?_
  refine lv_iload_n hx hb dX1_isWithin_1 rfl (lv_at hl 1 rfl) ?_
  refine lv_i2l (v := (pa1).toInt64) hx hb dX1_isWithin_2 rfl ?_
  refine W.lcmp hx hb dX1_isWithin_3 ?_
  refine lv_if_lt (tgt := 18) hx hb dX1_isWithin_4 (by decide) (fun c_1 => ?_) (fun c_1 => ?_)
  · have t_c_1 := z_lltT ((lg_cmp_lt _ _).mp c_1)
    have f_2 : zL (-9223372036854775808) 0 (pa0) := zL_ltx t_c_1 (zL_any (pa0)) (zR_i2l hpa1) (by decide)
    refine lv_iconst (v := nI 0) hx hb dX1_isWithin_18 (by decide +kernel) ?_
    exact z_zret (v := nI 0) hx hb hr hlocks hP hD hS (by decide +kernel) dX1_isWithin_19 (Or.inr ⟨rfl, rfl⟩)
  · have t_c_1 := z_lltF (fun h => c_1 ((lg_cmp_lt _ _).mpr h))
    have f_3 : zL 0 9223372036854775807 (pa0) := zL_ley t_c_1 (zR_i2l hpa1) (zL_any (pa0)) (by decide)
    refine lv_lload_n hx hb dX1_isWithin_7 rfl (lv_at hl 0 rfl) ?_
    refine lv_iload_n hx hb dX1_isWithin_8 rfl (lv_at hl 2 rfl) ?_
    refine lv_i2l (v := (pa2).toInt64) hx hb dX1_isWithin_9 rfl ?_
    refine W.lcmp hx hb dX1_isWithin_10 ?_
    refine lv_if_gt (tgt := 18) hx hb dX1_isWithin_11 (by decide) (fun c_4 => ?_) (fun c_4 => ?_)
    · have t_c_4 := z_lltT ((lg_cmp_gt _ _).mp c_4)
      have f_5 : zL 1 9223372036854775807 (pa0) := zL_lty t_c_4 (zR_i2l hpa2) f_3 (by decide)
      refine lv_iconst (v := nI 0) hx hb dX1_isWithin_18 (by decide +kernel) ?_
      exact z_zret (v := nI 0) hx hb hr hlocks hP hD hS (by decide +kernel) dX1_isWithin_19 (Or.inr ⟨rfl, rfl⟩)
    · have t_c_4 := z_lltF (fun h => c_4 ((lg_cmp_gt _ _).mpr h))
      have f_6 : zL 0 9999 (pa0) := zL_lex t_c_4 f_3 (zR_i2l hpa2) (by decide)
      refine lv_iconst (v := nI 1) hx hb dX1_isWithin_14 (by decide +kernel) ?_
      refine lv_goto (tgt := 19) hx hb dX1_isWithin_15 (by decide) ?_
      exact z_zret (v := nI 1) hx hb hr hlocks hP hD hS (by decide +kernel) dX1_isWithin_19 (Or.inl ⟨rfl, rfl, f_6⟩)
set_option maxHeartbeats 4000000 in
set_option maxRecDepth 100000 in
theorem xk_X1_isWithin_3 (l : Launch) (D : va_G) (q : Nat → Nat) (cA : Nat → ClassId) (F : Nat → Nat → Int32) (I R : Nat → Nat → Int32) (J : Nat → Nat → Int64) (hI : xInv F (I, R, J)) (pa0 : Int64) (pa1 : Int32) (hpa1 : zR 0 1 pa1) (pa2 : Int32) (hpa2 : zR 0 60 pa2) : zMi l D vwCl (zXtys cA) 81 q (zXd q cA) yX1_isWithin cX1_isWithin 4 (some .boolean) ({ frames := 0, cells := 0, slots := 0, locals := 0 } : Room) [.long (pa0), .int (pa1), .int (pa2)] (I, R, J) (fun r u => (r = nI 1 ∧ u = (I, R, J) ∧ zL 0 60 pa0) ∨ (r = nI 0 ∧ u = (I, R, J))) := by
  intro sz
  refine z_body (by decide +kernel) (Nat.le_of_ble_eq_true rfl) (fun p e s m below meth c ls hx hb hml hr ht hown hlocks hsz hK hP hD hS hl => ?_)
  have hA : ∀ a, s.heap.size ≤ a → zA 81 q sz a := fun a h => Or.inr (hsz ▸ h)
  have hl : lv_has ls 4 [(0, .long (pa0)), (2, .int (pa1)), (3, .int (pa2))] := hl
  refine lv_lload_n hx hb dX1_isWithin_0 rfl (lv_at hl 0 rfl) ?_
  refine lv_iload_n hx hb dX1_isWithin_1 rfl (lv_at hl 1 rfl) ?_
  refine lv_i2l (v := (pa1).toInt64) hx hb dX1_isWithin_2 rfl ?_
  refine W.lcmp hx hb dX1_isWithin_3 ?_
  refine lv_if_lt (tgt := 18) hx hb dX1_isWithin_4 (by decide) (fun c_1 => ?_) (fun c_1 => ?_)
  · have t_c_1 := z_lltT ((lg_cmp_lt _ _).mp c_1)
    have f_2 : zL (-9223372036854775808) 0 (pa0) := zL_ltx t_c_1 (zL_any (pa0)) (zR_i2l hpa1) (by decide)
    refine lv_iconst (v := nI 0) hx hb dX1_isWithin_18 (by decide +kernel) ?_
    exact z_zret (v := nI 0) hx hb hr hlocks hP hD hS (by decide +kernel) dX1_isWithin_19 (Or.inr ⟨rfl, rfl⟩)
  · have t_c_1 := z_lltF (fun h => c_1 ((lg_cmp_lt _ _).mpr h))
    have f_3 : zL 0 9223372036854775807 (pa0) := zL_ley t_c_1 (zR_i2l hpa1) (zL_any (pa0)) (by decide)
    refine lv_lload_n hx hb dX1_isWithin_7 rfl (lv_at hl 0 rfl) ?_
    refine lv_iload_n hx hb dX1_isWithin_8 rfl (lv_at hl 2 rfl) ?_
    refine lv_i2l (v := (pa2).toInt64) hx hb dX1_isWithin_9 rfl ?_
    refine W.lcmp hx hb dX1_isWithin_10 ?_
    refine lv_if_gt (tgt := 18) hx hb dX1_isWithin_11 (by decide) (fun c_4 => ?_) (fun c_4 => ?_)
    · have t_c_4 := z_lltT ((lg_cmp_gt _ _).mp c_4)
      have f_5 : zL 1 9223372036854775807 (pa0) := zL_lty t_c_4 (zR_i2l hpa2) f_3 (by decide)
      refine lv_iconst (v := nI 0) hx hb dX1_isWithin_18 (by decide +kernel) ?_
      exact z_zret (v := nI 0) hx hb hr hlocks hP hD hS (by decide +kernel) dX1_isWithin_19 (Or.inr ⟨rfl, rfl⟩)
    · have t_c_4 := z_lltF (fun h => c_4 ((lg_cmp_gt _ _).mpr h))
      have f_6 : zL 0 60 (pa0) := zL_lex t_c_4 f_3 (zR_i2l hpa2) (by decide)
      refine lv_iconst (v := nI 1) hx hb dX1_isWithin_14 (by decide +kernel) ?_
      refine lv_goto (tgt := 19) hx hb dX1_isWithin_15 (by decide) ?_
      exact z_zret (v := nI 1) hx hb hr hlocks hP hD hS (by decide +kernel) dX1_isWithin_19 (Or.inl ⟨rfl, rfl, f_6⟩)
set_option maxHeartbeats 4000000 in
set_option maxRecDepth 100000 in
theorem xk_X1_isSound (l : Launch) (D : va_G) (q : Nat → Nat) (cA : Nat → ClassId) (F : Nat → Nat → Int32) (I R : Nat → Nat → Int32) (J : Nat → Nat → Int64) (hI : xInv F (I, R, J))  : zMi l D vwCl (zXtys cA) 81 q (zXd q cA) yX1_isSound cX1_isSound 4 (some .boolean) ({ frames := 1, cells := 0, slots := 0, locals := 23 } : Room) [.ref (q 46), .ref (q 73), .ref (q 3)] (I, R, J) (fun r u => (r = nI 1 ∧ u = (I, R, J) ∧ xSound (J 74) (F 73 1)) ∨ (r = nI 0 ∧ u = (I, R, J) ∧ True)) := by
  intro sz
  refine z_body (by decide +kernel) (Nat.le_of_ble_eq_true rfl) (fun p e s m below meth c ls hx hb hml hr ht hown hlocks hsz hK hP hD hS hl => ?_)
  have hA : ∀ a, s.heap.size ≤ a → zA 81 q sz a := fun a h => Or.inr (hsz ▸ h)
  have hl : lv_has ls 4 [(0, .ref (q 46)), (1, .ref (q 73)), (2, .ref (q 3))] := hl
  refine lv_aload_n hx hb dX1_isSound_0 rfl (lv_at hl 1 rfl) ?_
  refine z_get hx hb ht hown hK hP ziX6 rfl 73 (by decide) 1 (by decide) hw_2_80 rfl (v := .int (I 73 1)) rfl dX1_isSound_1 ?_
  have f_1 : zR (-1) 60 (I 73 1) := xI hI 73 1
  refine lv_iconst (v := nI 4) hx hb dX1_isSound_4 (by decide +kernel) ?_
  refine lv_irem hx hb dX1_isSound_5 (by decide +kernel) ?_
  refine z_any (fun v_2 => ?_)
  refine lv_if_eq (tgt := 11) hx hb dX1_isSound_6 (by decide) (fun c_3 => ?_) (fun c_3 => ?_)
  · have t_c_3 := z_eqT c_3
    have f_4 : zR 0 0 (v_2) := zR_eqx t_c_3 zk_z
    refine lv_iconst (v := nI 0) hx hb dX1_isSound_11 (by decide +kernel) ?_
    refine lv_istore_n (lv' := [(3, .int (nI 0)), (0, .ref (q 46)), (1, .ref (q 73)), (2, .ref (q 3))]) hx hb dX1_isSound_12 rfl hl (by decide) rfl (fun ls hl => ?_)
    have loop_75 : ∀ N : Nat, ∀ x_73 : Int32, zR 0 60 x_73 → (xSnd (J 74) (x_73)) → (2147483648 - (x_73).toInt).toNat < N → ∀ (H : Heap) (locs : List Loc), va_P D vwCl (zw 81 q (zXd q cA) I R J) H → va_D (zA 81 q sz) (zw 81 q (zXd q cA) I R J) → va_S (zA 81 q sz) s.heap H locs → ∀ ls : Array Slot, lv_has ls 4 [(0, .ref (q 46)), (1, .ref (q 73)), (2, .ref (q 3)), (3, .int (x_73))] → W p l e ({ frames := 1, cells := 0, slots := 0, locals := 23 } : Room) s m ([.ref (q 46), .ref (q 73), .ref (q 3)] : List Value).toArray below meth c H locs 0 0 (MQ below (va_Qi (fun r u => (r = nI 1 ∧ u = (I, R, J) ∧ xSound (J 74) (F 73 1)) ∨ (r = nI 0 ∧ u = (I, R, J) ∧ True)) (zB D vwCl 81 q (zXd q cA) sz) (zA 81 q sz)) ([.ref (q 46), .ref (q 73), .ref (q 3)] : List Value).toArray s 0 0 (zA 81 q sz)) (F0 m 13 ls []) := by
      intro N
      induction N with
      | zero => intro x_73 hx_73 hx_74 hN; exact absurd hN (Nat.not_lt_zero _)
      | succ N ih_77 =>
        intro x_73 hx_73 hx_74 hN_76 H locs hP hD hS ls hl
        refine lv_iload_n hx hb dX1_isSound_13 rfl (lv_at hl 3 rfl) ?_
        refine lv_iconst (v := nI 4) hx hb dX1_isSound_14 (by decide +kernel) ?_
        refine lv_iadd hx hb dX1_isSound_15 ?_
        refine z_addc 4 64 hx_73 zk_4 (by decide) (fun v_78 hv_78 mv_78 => ?_)
        refine lv_aload_n hx hb dX1_isSound_16 rfl (lv_at hl 1 rfl) ?_
        refine z_get hx hb ht hown hK hP ziX6 rfl 73 (by decide) 1 (by decide) hw_2_80 rfl (v := .int (I 73 1)) rfl dX1_isSound_17 ?_
        refine lv_icmp_gt (tgt := 106) hx hb dX1_isSound_20 (by decide) (fun c_79 => ?_) (fun c_79 => ?_)
        · have t_c_79 := z_ltT c_79
          refine lv_iconst (v := nI 1) hx hb dX1_isSound_106 (by decide +kernel) ?_
          exact z_zret (v := nI 1) hx hb hr hlocks hP hD hS (by decide +kernel) dX1_isSound_107 (Or.inl ⟨rfl, rfl, (xFr hI 73 1 rfl) ▸ xSnd_end hx_74 mv_78 t_c_79⟩)
        · have t_c_79 := z_ltF c_79
          have f_80 : zR 4 60 (v_78) := zR_lex t_c_79 hv_78 f_1 (by decide)
          have f_81 : zR 0 56 (x_73) := zR_shift mv_78 f_80 (by decide)
          have f_82 : zR 4 60 (I 73 1) := zR_ley t_c_79 hv_78 f_1 (by decide)
          refine lv_aload_n hx hb dX1_isSound_23 rfl (lv_at hl 1 rfl) ?_
          refine z_get hx hb ht hown hK hP ziX6 rfl 73 (by decide) 2 (by decide) hw_2_83 rfl (v := .ref (q 74)) rfl dX1_isSound_24 ?_
          refine lv_iload_n hx hb dX1_isSound_27 rfl (lv_at hl 3 rfl) ?_
          refine z_lald hx hb hK hP 74 (by decide) 53 rfl rfl (zR_vin f_81 (by decide)) dX1_isSound_28 ?_
          refine z_eql (y := J 74 (x_73).toNatClampNeg) rfl ?_
          refine lv_iconst (v := nI 0) hx hb dX1_isSound_29 (by decide +kernel) ?_
          refine lv_aload_n hx hb dX1_isSound_30 rfl (lv_at hl 2 rfl) ?_
          refine z_get hx hb ht hown hK hP ziX2 rfl 3 (by decide) 4 (by decide) hw_1_82 rfl (v := .int (I 3 4)) rfl dX1_isSound_31 ?_
          have f_83 : zR 0 5 (I 3 4) := xI hI 3 4
          refine lv_iconst (v := nI 1) hx hb dX1_isSound_34 (by decide +kernel) ?_
          refine lv_isub hx hb dX1_isSound_35 ?_
          refine z_subc (-1) 4 (-1) f_83 zk_1 (by decide) (fun v_84 hv_84 mv_84 => ?_)
          refine z_callSi (As := [.long (J 74 (x_73).toNatClampNeg), .int (nI 0), .int (v_84)]) (rest := []) hx hb hml hown ht (xk_X1_isWithin l D q cA F _ _ _ hI (J 74 (x_73).toNatClampNeg) (nI 0) (zR_w zk_0 (by decide)) (v_84) hv_84) hw_5_71 hmX1_isWithin ⟨rfl, rfl⟩ (na := 3) rfl (by decide +kernel) (by decide) hK hP hD hS hA hl.1 rfl (Nat.le_of_ble_eq_true rfl) ⟨Nat.zero_le _, Nat.zero_le _⟩ dX1_isSound_36 (fun r_85 I_85 R_85 J_85 H locs hp_85 hP hD hS _ _ => ?_)
          rcases hp_85 with ⟨rfl, hu_85, f0_85, f2_85⟩ | ⟨rfl, hu_85⟩
          · cases hu_85
            refine lv_if_eq (tgt := 98) hx hb dX1_isSound_39 (by decide) (fun c_0 => absurd c_0 (zD_ne zk_1 zk_z (by decide))) (fun _ => ?_)
            refine lv_aload_n hx hb dX1_isSound_42 rfl (lv_at hl 1 rfl) ?_
            refine z_get hx hb ht hown hK hP ziX6 rfl 73 (by decide) 2 (by decide) hw_2_83 rfl (v := .ref (q 74)) rfl dX1_isSound_43 ?_
            refine lv_iload_n hx hb dX1_isSound_46 rfl (lv_at hl 3 rfl) ?_
            refine lv_iconst (v := nI 1) hx hb dX1_isSound_47 (by decide +kernel) ?_
            refine lv_iadd hx hb dX1_isSound_48 ?_
            refine z_addc 1 57 f_81 zk_1 (by decide) (fun v_86 hv_86 mv_86 => ?_)
            refine z_lald hx hb hK hP 74 (by decide) 53 rfl rfl (zR_vin hv_86 (by decide)) dX1_isSound_49 ?_
            refine z_eql (y := J 74 (v_86).toNatClampNeg) rfl ?_
            refine lv_iconst (v := nI 0) hx hb dX1_isSound_50 (by decide +kernel) ?_
            refine lv_aload_n hx hb dX1_isSound_51 rfl (lv_at hl 2 rfl) ?_
            refine z_get hx hb ht hown hK hP ziX2 rfl 3 (by decide) 5 (by decide) hw_1_88 rfl (v := .int (I 3 5)) rfl dX1_isSound_52 ?_
            have f_87 : zR 0 6 (I 3 5) := xI hI 3 5
            refine lv_iconst (v := nI 1) hx hb dX1_isSound_55 (by decide +kernel) ?_
            refine lv_isub hx hb dX1_isSound_56 ?_
            refine z_subc (-1) 5 (-1) f_87 zk_1 (by decide) (fun v_88 hv_88 mv_88 => ?_)
            refine z_callSi (As := [.long (J 74 (v_86).toNatClampNeg), .int (nI 0), .int (v_88)]) (rest := []) hx hb hml hown ht (xk_X1_isWithin_1 l D q cA F _ _ _ hI (J 74 (v_86).toNatClampNeg) (nI 0) (zR_w zk_0 (by decide)) (v_88) hv_88) hw_5_71 hmX1_isWithin ⟨rfl, rfl⟩ (na := 3) rfl (by decide +kernel) (by decide) hK hP hD hS hA hl.1 rfl (Nat.le_of_ble_eq_true rfl) ⟨Nat.zero_le _, Nat.zero_le _⟩ dX1_isSound_57 (fun r_89 I_89 R_89 J_89 H locs hp_89 hP hD hS _ _ => ?_)
            rcases hp_89 with ⟨rfl, hu_89, f0_89, f2_89⟩ | ⟨rfl, hu_89⟩
            · cases hu_89
              refine lv_if_eq (tgt := 98) hx hb dX1_isSound_60 (by decide) (fun c_0 => absurd c_0 (zD_ne zk_1 zk_z (by decide))) (fun _ => ?_)
              refine lv_aload_n hx hb dX1_isSound_63 rfl (lv_at hl 1 rfl) ?_
              refine z_get hx hb ht hown hK hP ziX6 rfl 73 (by decide) 2 (by decide) hw_2_83 rfl (v := .ref (q 74)) rfl dX1_isSound_64 ?_
              refine lv_iload_n hx hb dX1_isSound_67 rfl (lv_at hl 3 rfl) ?_
              refine lv_iconst (v := nI 2) hx hb dX1_isSound_68 (by decide +kernel) ?_
              refine lv_iadd hx hb dX1_isSound_69 ?_
              refine z_addc 2 58 f_81 zk_2 (by decide) (fun v_90 hv_90 mv_90 => ?_)
              refine z_lald hx hb hK hP 74 (by decide) 53 rfl rfl (zR_vin hv_90 (by decide)) dX1_isSound_70 ?_
              refine z_eql (y := J 74 (v_90).toNatClampNeg) rfl ?_
              refine lv_iconst (v := nI 0) hx hb dX1_isSound_71 (by decide +kernel) ?_
              refine lv_sipush (v := nI 9999) hx hb dX1_isSound_72 (by decide +kernel) ?_
              refine z_callSi (As := [.long (J 74 (v_90).toNatClampNeg), .int (nI 0), .int (nI 9999)]) (rest := []) hx hb hml hown ht (xk_X1_isWithin_2 l D q cA F _ _ _ hI (J 74 (v_90).toNatClampNeg) (nI 0) (zR_w zk_0 (by decide)) (nI 9999) (zR_w zk_9999 (by decide))) hw_5_71 hmX1_isWithin ⟨rfl, rfl⟩ (na := 3) rfl (by decide +kernel) (by decide) hK hP hD hS hA hl.1 rfl (Nat.le_of_ble_eq_true rfl) ⟨Nat.zero_le _, Nat.zero_le _⟩ dX1_isSound_75 (fun r_91 I_91 R_91 J_91 H locs hp_91 hP hD hS _ _ => ?_)
              rcases hp_91 with ⟨rfl, hu_91, f0_91⟩ | ⟨rfl, hu_91⟩
              · cases hu_91
                refine lv_if_eq (tgt := 98) hx hb dX1_isSound_78 (by decide) (fun c_0 => absurd c_0 (zD_ne zk_1 zk_z (by decide))) (fun _ => ?_)
                refine lv_aload_n hx hb dX1_isSound_81 rfl (lv_at hl 1 rfl) ?_
                refine z_get hx hb ht hown hK hP ziX6 rfl 73 (by decide) 2 (by decide) hw_2_83 rfl (v := .ref (q 74)) rfl dX1_isSound_82 ?_
                refine lv_iload_n hx hb dX1_isSound_85 rfl (lv_at hl 3 rfl) ?_
                refine lv_iconst (v := nI 3) hx hb dX1_isSound_86 (by decide +kernel) ?_
                refine lv_iadd hx hb dX1_isSound_87 ?_
                refine z_addc 3 59 f_81 zk_3 (by decide) (fun v_92 hv_92 mv_92 => ?_)
                refine z_lald hx hb hK hP 74 (by decide) 53 rfl rfl (zR_vin hv_92 (by decide)) dX1_isSound_88 ?_
                refine z_eql (y := J 74 (v_92).toNatClampNeg) rfl ?_
                refine lv_iconst (v := nI 1) hx hb dX1_isSound_89 (by decide +kernel) ?_
                refine lv_bipush (v := nI 60) hx hb dX1_isSound_90 (by decide +kernel) ?_
                refine z_callSi (As := [.long (J 74 (v_92).toNatClampNeg), .int (nI 1), .int (nI 60)]) (rest := []) hx hb hml hown ht (xk_X1_isWithin_3 l D q cA F _ _ _ hI (J 74 (v_92).toNatClampNeg) (nI 1) (zR_w zk_1 (by decide)) (nI 60) (zR_w zk_60 (by decide))) hw_5_71 hmX1_isWithin ⟨rfl, rfl⟩ (na := 3) rfl (by decide +kernel) (by decide) hK hP hD hS hA hl.1 rfl (Nat.le_of_ble_eq_true rfl) ⟨Nat.zero_le _, Nat.zero_le _⟩ dX1_isSound_92 (fun r_93 I_93 R_93 J_93 H locs hp_93 hP hD hS _ _ => ?_)
                rcases hp_93 with ⟨rfl, hu_93, f0_93⟩ | ⟨rfl, hu_93⟩
                · cases hu_93
                  refine lv_if_ne (tgt := 100) hx hb dX1_isSound_95 (by decide) (fun _ => ?_) (fun c_0 => absurd c_0 (zD_ne zk_1 zk_z (by decide)))
                  obtain ⟨v_94, ev_94⟩ : ∃ y : Int32, y = x_73 + nI 4 := ⟨_, rfl⟩
                  have hv_94 : zR 4 60 v_94 := ev_94 ▸ zR_add f_81 zk_4 (by decide)
                  have mv_94 : v_94.toInt = (x_73).toInt + 4 := by rw [ev_94, zR_addE f_81 zk_4 (by decide)]; rfl
                  refine lv_iinc (v := v_94) (lv' := [(3, .int (v_94)), (0, .ref (q 46)), (1, .ref (q 73)), (2, .ref (q 3))]) hx hb dX1_isSound_100 hl (k := 3) rfl (ev_94 ▸ rfl) (by decide) rfl (fun ls hl => ?_)
                  refine lv_goto (tgt := 13) hx hb dX1_isSound_103 (by decide) ?_
                  exact ih_77 (v_94) (zR_w hv_94 (by decide)) (xSnd_step hx_74 f0_89 mv_86 mv_94) (z2_up mv_94 (by decide) hN_76) _ _ hP hD hS _ (lv_sub hl [1, 2, 3, 0] rfl)
                · cases hu_93
                  refine lv_if_ne (tgt := 100) hx hb dX1_isSound_95 (by decide) (fun c_0 => absurd (zD_eq zk_0 zk_z) c_0) (fun _ => ?_)
                  refine lv_iconst (v := nI 0) hx hb dX1_isSound_98 (by decide +kernel) ?_
                  exact z_zret (v := nI 0) hx hb hr hlocks hP hD hS (by decide +kernel) dX1_isSound_99 (Or.inr ⟨rfl, rfl, trivial⟩)
              · cases hu_91
                refine lv_if_eq (tgt := 98) hx hb dX1_isSound_78 (by decide) (fun _ => ?_) (fun c_0 => absurd (zD_eq zk_0 zk_z) c_0)
                refine lv_iconst (v := nI 0) hx hb dX1_isSound_98 (by decide +kernel) ?_
                exact z_zret (v := nI 0) hx hb hr hlocks hP hD hS (by decide +kernel) dX1_isSound_99 (Or.inr ⟨rfl, rfl, trivial⟩)
            · cases hu_89
              refine lv_if_eq (tgt := 98) hx hb dX1_isSound_60 (by decide) (fun _ => ?_) (fun c_0 => absurd (zD_eq zk_0 zk_z) c_0)
              refine lv_iconst (v := nI 0) hx hb dX1_isSound_98 (by decide +kernel) ?_
              exact z_zret (v := nI 0) hx hb hr hlocks hP hD hS (by decide +kernel) dX1_isSound_99 (Or.inr ⟨rfl, rfl, trivial⟩)
          · cases hu_85
            refine lv_if_eq (tgt := 98) hx hb dX1_isSound_39 (by decide) (fun _ => ?_) (fun c_0 => absurd (zD_eq zk_0 zk_z) c_0)
            refine lv_iconst (v := nI 0) hx hb dX1_isSound_98 (by decide +kernel) ?_
            exact z_zret (v := nI 0) hx hb hr hlocks hP hD hS (by decide +kernel) dX1_isSound_99 (Or.inr ⟨rfl, rfl, trivial⟩)
    exact loop_75 _ (nI 0) (zR_w zk_0 (by decide)) xSnd_0 (Nat.lt_succ_self _) _ _ hP hD hS _ (lv_sub hl [1, 2, 3, 0] rfl)
  · have t_c_3 := z_eqF c_3
    refine lv_iconst (v := nI 0) hx hb dX1_isSound_9 (by decide +kernel) ?_
    exact z_zret (v := nI 0) hx hb hr hlocks hP hD hS (by decide +kernel) dX1_isSound_10 (Or.inr ⟨rfl, rfl, trivial⟩)
set_option maxHeartbeats 4000000 in
set_option maxRecDepth 100000 in
theorem xk_X1_alike_2 (l : Launch) (D : va_G) (q : Nat → Nat) (cA : Nat → ClassId) (F : Nat → Nat → Int32) (I R : Nat → Nat → Int32) (J : Nat → Nat → Int64) (hI : xInv F (I, R, J)) (pa1 : Int32) (hpa1 : zR 0 56 pa1) : zMi l D vwCl (zXtys cA) 81 q (zXd q cA) yX1_alike cX1_alike 5 (some .int) ({ frames := 1, cells := 0, slots := 0, locals := 21 } : Room) [.ref (q 73), .int (pa1), .ref (q 15)] (I, R, J) (fun r u => zR 0 16777215 r ∧ u = (I, R, J)) := by
  intro sz
  refine z_body (by decide +kernel) (Nat.le_of_ble_eq_true rfl) (fun p e s m below meth c ls hx hb hml hr ht hown hlocks hsz hK hP hD hS hl => ?_)
  have hA : ∀ a, s.heap.size ≤ a → zA 81 q sz a := fun a h => Or.inr (hsz ▸ h)
  have hl : lv_has ls 5 [(0, .ref (q 73)), (1, .int (pa1)), (2, .ref (q 15))] := hl
  refine lv_iconst (v := nI 0) hx hb dX1_alike_0 (by decide +kernel) ?_
  refine lv_istore_n (lv' := [(3, .int (nI 0)), (0, .ref (q 73)), (1, .int (pa1)), (2, .ref (q 15))]) hx hb dX1_alike_1 rfl hl (by decide) rfl (fun ls hl => ?_)
  refine lv_iconst (v := nI 0) hx hb dX1_alike_2 (by decide +kernel) ?_
  refine lv_istore (lv' := [(4, .int (nI 0)), (3, .int (nI 0)), (0, .ref (q 73)), (1, .int (pa1)), (2, .ref (q 15))]) hx hb dX1_alike_3 hl (by decide) rfl (fun ls hl => ?_)
  have loop_103 : ∀ N : Nat, ∀ x_101 : Int32, zR 0 16777215 x_101 → ∀ x_102 : Int32, zR 0 24 x_102 → (2147483648 - (x_102).toInt).toNat < N → ∀ (H : Heap) (locs : List Loc), va_P D vwCl (zw 81 q (zXd q cA) I R J) H → va_D (zA 81 q sz) (zw 81 q (zXd q cA) I R J) → va_S (zA 81 q sz) s.heap H locs → ∀ ls : Array Slot, lv_has ls 5 [(0, .ref (q 73)), (1, .int (pa1)), (2, .ref (q 15)), (3, .int (x_101)), (4, .int (x_102))] → W p l e ({ frames := 1, cells := 0, slots := 0, locals := 21 } : Room) s m ([.ref (q 73), .int (pa1), .ref (q 15)] : List Value).toArray below meth c H locs 0 0 (MQ below (va_Qi (fun r u => zR 0 16777215 r ∧ u = (I, R, J)) (zB D vwCl 81 q (zXd q cA) sz) (zA 81 q sz)) ([.ref (q 73), .int (pa1), .ref (q 15)] : List Value).toArray s 0 0 (zA 81 q sz)) (F0 m 5 ls []) := by
    intro N
    induction N with
    | zero => intro x_101 hx_101 x_102 hx_102 hN; exact absurd hN (Nat.not_lt_zero _)
    | succ N ih_105 =>
      intro x_101 hx_101 x_102 hx_102 hN_104 H locs hP hD hS ls hl
      refine lv_iload hx hb dX1_alike_5 (lv_at hl 4 rfl) ?_
      refine lv_aload_n hx hb dX1_alike_7 rfl (lv_at hl 2 rfl) ?_
      refine z_get hx hb ht hown hK hP ziX9 rfl 15 (by decide) 2 (by decide) hw_1_161 rfl (v := .int (I 15 2)) rfl dX1_alike_8 ?_
      have f_106 : zR 0 24 (I 15 2) := xI hI 15 2
      refine lv_icmp_ge (tgt := 94) hx hb dX1_alike_11 (by decide) (fun c_107 => ?_) (fun c_107 => ?_)
      · have t_c_107 := z_leT c_107
        refine lv_iload_n hx hb dX1_alike_94 rfl (lv_at hl 3 rfl) ?_
        exact z_iret (v := x_101) hx hb hr hlocks hP hD hS dX1_alike_95 ⟨hx_101, rfl⟩
      · have t_c_107 := z_leF c_107
        have f_108 : zR 0 23 (x_102) := zR_ltx t_c_107 hx_102 f_106 (by decide)
        have f_109 : zR 1 24 (I 15 2) := zR_lty t_c_107 hx_102 f_106 (by decide)
        refine lv_aload_n hx hb dX1_alike_14 rfl (lv_at hl 2 rfl) ?_
        refine lv_iload hx hb dX1_alike_15 (lv_at hl 4 rfl) ?_
        have t_124 : ∀ x_123 : Int32, zR 0 16777215 x_123 → ∀ (H : Heap) (locs : List Loc), va_P D vwCl (zw 81 q (zXd q cA) I R J) H → va_D (zA 81 q sz) (zw 81 q (zXd q cA) I R J) → va_S (zA 81 q sz) s.heap H locs → ∀ ls : Array Slot, lv_has ls 5 [(0, .ref (q 73)), (1, .int (pa1)), (2, .ref (q 15)), (3, .int (x_123)), (4, .int (x_102))] → W p l e ({ frames := 1, cells := 0, slots := 0, locals := 21 } : Room) s m ([.ref (q 73), .int (pa1), .ref (q 15)] : List Value).toArray below meth c H locs 0 0 (MQ below (va_Qi (fun r u => zR 0 16777215 r ∧ u = (I, R, J)) (zB D vwCl 81 q (zXd q cA) sz) (zA 81 q sz)) ([.ref (q 73), .int (pa1), .ref (q 15)] : List Value).toArray s 0 0 (zA 81 q sz)) (F0 m 88 ls []) := by
          intro x_123 hx_123 H locs hP hD hS ls hl
          obtain ⟨v_125, ev_125⟩ : ∃ y : Int32, y = x_102 + nI 1 := ⟨_, rfl⟩
          have hv_125 : zR 1 24 v_125 := ev_125 ▸ zR_add f_108 zk_1 (by decide)
          have mv_125 : v_125.toInt = (x_102).toInt + 1 := by rw [ev_125, zR_addE f_108 zk_1 (by decide)]; rfl
          refine lv_iinc (v := v_125) (lv' := [(4, .int (v_125)), (0, .ref (q 73)), (1, .int (pa1)), (2, .ref (q 15)), (3, .int (x_123))]) hx hb dX1_alike_88 hl (k := 4) rfl (ev_125 ▸ rfl) (by decide) rfl (fun ls hl => ?_)
          refine lv_goto (tgt := 5) hx hb dX1_alike_91 (by decide) ?_
          exact ih_105 (x_123) hx_123 (v_125) (zR_w hv_125 (by decide)) (z2_up mv_125 (by decide) hN_104) _ _ hP hD hS _ (lv_sub hl [1, 2, 3, 4, 0] rfl)
        refine z_callVi (k := 15) (As := [.int (x_102)]) (rest := []) hx hb hml hown ht (xk_X9_isOpen_1 l D q cA F _ _ _ hI (x_102) f_108) hw_5_82 hmX9_isOpen ⟨rfl, rfl⟩ (na := 1) rfl (by decide +kernel) (by decide) (by decide) rfl rfl hK hP hD hS hA hl.1 rfl (Nat.le_of_ble_eq_true rfl) ⟨Nat.zero_le _, Nat.zero_le _⟩ dX1_alike_17 (fun r_110 I_110 R_110 J_110 H locs hp_110 hP hD hS _ _ => ?_)
        rcases hp_110 with ⟨rfl, hu_110⟩ | ⟨rfl, hu_110⟩
        · cases hu_110
          refine lv_if_eq (tgt := 88) hx hb dX1_alike_20 (by decide) (fun c_0 => absurd c_0 (zD_ne zk_1 zk_z (by decide))) (fun _ => ?_)
          refine lv_aload_n hx hb dX1_alike_23 rfl (lv_at hl 2 rfl) ?_
          refine z_get hx hb ht hown hK hP ziX9 rfl 15 (by decide) 7 (by decide) hw_1_173 rfl (v := .ref (q 19)) rfl dX1_alike_24 ?_
          refine lv_iload hx hb dX1_alike_27 (lv_at hl 4 rfl) ?_
          refine z_iald hx hb hK hP 19 (by decide) 13 rfl rfl (zR_vin f_108 (by decide)) dX1_alike_29 ?_
          refine z_eqi (y := R 19 (x_102).toNatClampNeg) rfl ?_
          have f_126 : zR 0 4 (R 19 (x_102).toNatClampNeg) := xR hI 19 (x_102).toNatClampNeg
          refine lv_i2l (v := (R 19 (x_102).toNatClampNeg).toInt64) hx hb dX1_alike_30 rfl ?_
          refine lv_aload_n hx hb dX1_alike_31 rfl (lv_at hl 0 rfl) ?_
          refine z_get hx hb ht hown hK hP ziX6 rfl 73 (by decide) 2 (by decide) hw_2_83 rfl (v := .ref (q 74)) rfl dX1_alike_32 ?_
          refine lv_iload_n hx hb dX1_alike_35 rfl (lv_at hl 1 rfl) ?_
          refine z_lald hx hb hK hP 74 (by decide) 53 rfl rfl (zR_vin hpa1 (by decide)) dX1_alike_36 ?_
          refine z_eql (y := J 74 (pa1).toNatClampNeg) rfl ?_
          refine W.lcmp hx hb dX1_alike_37 ?_
          refine lv_if_ne (tgt := 88) hx hb dX1_alike_38 (by decide) (fun c_127 => ?_) (fun c_127 => ?_)
          · have t_c_127 := z_leqF (fun h => c_127 ((lg_cmp_eq _ _).mpr h))
            exact t_124 (x_101) hx_101 _ _ hP hD hS _ (lv_sub hl [0, 1, 2, 3, 4] rfl)
          · have t_c_127 := z_leqT ((lg_cmp_eq _ _).mp c_127)
            have f_128 : zL 0 4 (J 74 (pa1).toNatClampNeg) := zL_eqy t_c_127 (zR_i2l f_126)
            refine lv_aload_n hx hb dX1_alike_41 rfl (lv_at hl 2 rfl) ?_
            refine z_get hx hb ht hown hK hP ziX9 rfl 15 (by decide) 8 (by decide) hw_1_177 rfl (v := .ref (q 20)) rfl dX1_alike_42 ?_
            refine lv_iload hx hb dX1_alike_45 (lv_at hl 4 rfl) ?_
            refine z_iald hx hb hK hP 20 (by decide) 14 rfl rfl (zR_vin f_108 (by decide)) dX1_alike_47 ?_
            refine z_eqi (y := R 20 (x_102).toNatClampNeg) rfl ?_
            have f_129 : zR 0 5 (R 20 (x_102).toNatClampNeg) := xR hI 20 (x_102).toNatClampNeg
            refine lv_i2l (v := (R 20 (x_102).toNatClampNeg).toInt64) hx hb dX1_alike_48 rfl ?_
            refine lv_aload_n hx hb dX1_alike_49 rfl (lv_at hl 0 rfl) ?_
            refine z_get hx hb ht hown hK hP ziX6 rfl 73 (by decide) 2 (by decide) hw_2_83 rfl (v := .ref (q 74)) rfl dX1_alike_50 ?_
            refine lv_iload_n hx hb dX1_alike_53 rfl (lv_at hl 1 rfl) ?_
            refine lv_iconst (v := nI 1) hx hb dX1_alike_54 (by decide +kernel) ?_
            refine lv_iadd hx hb dX1_alike_55 ?_
            refine z_addc 1 57 hpa1 zk_1 (by decide) (fun v_130 hv_130 mv_130 => ?_)
            refine z_lald hx hb hK hP 74 (by decide) 53 rfl rfl (zR_vin hv_130 (by decide)) dX1_alike_56 ?_
            refine z_eql (y := J 74 (v_130).toNatClampNeg) rfl ?_
            refine W.lcmp hx hb dX1_alike_57 ?_
            refine lv_if_ne (tgt := 88) hx hb dX1_alike_58 (by decide) (fun c_131 => ?_) (fun c_131 => ?_)
            · have t_c_131 := z_leqF (fun h => c_131 ((lg_cmp_eq _ _).mpr h))
              exact t_124 (x_101) hx_101 _ _ hP hD hS _ (lv_sub hl [0, 1, 2, 3, 4] rfl)
            · have t_c_131 := z_leqT ((lg_cmp_eq _ _).mp c_131)
              have f_132 : zL 0 5 (J 74 (v_130).toNatClampNeg) := zL_eqy t_c_131 (zR_i2l f_129)
              refine lv_aload_n hx hb dX1_alike_61 rfl (lv_at hl 2 rfl) ?_
              refine z_get hx hb ht hown hK hP ziX9 rfl 15 (by decide) 10 (by decide) hw_1_183 rfl (v := .ref (q 22)) rfl dX1_alike_62 ?_
              refine lv_iload hx hb dX1_alike_65 (lv_at hl 4 rfl) ?_
              refine z_iald hx hb hK hP 22 (by decide) 16 rfl rfl (zR_vin f_108 (by decide)) dX1_alike_67 ?_
              refine z_eqi (y := R 22 (x_102).toNatClampNeg) rfl ?_
              refine lv_i2l (v := (R 22 (x_102).toNatClampNeg).toInt64) hx hb dX1_alike_68 rfl ?_
              refine lv_aload_n hx hb dX1_alike_69 rfl (lv_at hl 0 rfl) ?_
              refine z_get hx hb ht hown hK hP ziX6 rfl 73 (by decide) 2 (by decide) hw_2_83 rfl (v := .ref (q 74)) rfl dX1_alike_70 ?_
              refine lv_iload_n hx hb dX1_alike_73 rfl (lv_at hl 1 rfl) ?_
              refine lv_iconst (v := nI 3) hx hb dX1_alike_74 (by decide +kernel) ?_
              refine lv_iadd hx hb dX1_alike_75 ?_
              refine z_addc 3 59 hpa1 zk_3 (by decide) (fun v_133 hv_133 mv_133 => ?_)
              refine z_lald hx hb hK hP 74 (by decide) 53 rfl rfl (zR_vin hv_133 (by decide)) dX1_alike_76 ?_
              refine z_eql (y := J 74 (v_133).toNatClampNeg) rfl ?_
              refine W.lcmp hx hb dX1_alike_77 ?_
              refine lv_if_ne (tgt := 88) hx hb dX1_alike_78 (by decide) (fun c_134 => ?_) (fun c_134 => ?_)
              · have t_c_134 := z_leqF (fun h => c_134 ((lg_cmp_eq _ _).mpr h))
                exact t_124 (x_101) hx_101 _ _ hP hD hS _ (lv_sub hl [0, 1, 2, 3, 4] rfl)
              · have t_c_134 := z_leqT ((lg_cmp_eq _ _).mp c_134)
                have f_135 : zL (-2147483648) 2147483647 (J 74 (v_133).toNatClampNeg) := zL_eqy t_c_134 (zR_i2l (zR_any (R 22 (x_102).toNatClampNeg)))
                refine lv_iload_n hx hb dX1_alike_81 rfl (lv_at hl 3 rfl) ?_
                refine lv_iconst (v := nI 1) hx hb dX1_alike_82 (by decide +kernel) ?_
                refine lv_iload hx hb dX1_alike_83 (lv_at hl 4 rfl) ?_
                refine lv_ishl hx hb dX1_alike_85 ?_
                refine z_rng (a := 1) (b := 8388608) (zR_shl1 23 f_108 (by decide)) (fun v_136 hv_136 => ?_)
                refine lv_ior hx hb dX1_alike_86 ?_
                refine z_rng (a := 0) (b := 16777215) (zR_or 24 hx_101 hv_136 (by decide)) (fun v_137 hv_137 => ?_)
                refine lv_istore_n (lv' := [(3, .int (v_137)), (0, .ref (q 73)), (1, .int (pa1)), (2, .ref (q 15)), (4, .int (x_102))]) hx hb dX1_alike_87 rfl hl (by decide) rfl (fun ls hl => ?_)
                exact t_124 (v_137) hv_137 _ _ hP hD hS _ (lv_sub hl [1, 2, 3, 0, 4] rfl)
        · cases hu_110
          refine lv_if_eq (tgt := 88) hx hb dX1_alike_20 (by decide) (fun _ => ?_) (fun c_0 => absurd (zD_eq zk_0 zk_z) c_0)
          exact t_124 (x_101) hx_101 _ _ hP hD hS _ (lv_sub hl [0, 1, 2, 3, 4] rfl)
  exact loop_103 _ (nI 0) (zR_w zk_0 (by decide)) (nI 0) (zR_w zk_0 (by decide)) (Nat.lt_succ_self _) _ _ hP hD hS _ (lv_sub hl [2, 3, 4, 1, 0] rfl)
set_option maxHeartbeats 4000000 in
set_option maxRecDepth 100000 in
theorem xk_X1_compare (l : Launch) (D : va_G) (q : Nat → Nat) (cA : Nat → ClassId) (F : Nat → Nat → Int32) (I R : Nat → Nat → Int32) (J : Nat → Nat → Int64) (hI : xInv F (I, R, J)) (hs : xSound (J 74) (F 73 1)) : zMv l D vwCl (zXtys cA) 81 q (zXd q cA) yX1_compare cX1_compare 9 none ({ frames := 2, cells := 0, slots := 0, locals := 45 } : Room) [.ref (q 46), .ref (q 73), .ref (q 15)] (I, R, J) (fun u => xInv F u) := by
  intro sz
  refine z_body (by decide +kernel) (Nat.le_of_ble_eq_true rfl) (fun p e s m below meth c ls hx hb hml hr ht hown hlocks hsz hK hP hD hS hl => ?_)
  have hA : ∀ a, s.heap.size ≤ a → zA 81 q sz a := fun a h => Or.inr (hsz ▸ h)
  have hl : lv_has ls 9 [(0, .ref (q 46)), (1, .ref (q 73)), (2, .ref (q 15))] := hl
  refine lv_aload_n hx hb dX1_compare_0 rfl (lv_at hl 0 rfl) ?_
  refine lv_iconst (v := nI 0) hx hb dX1_compare_1 (by decide +kernel) ?_
  refine z_putI hx hb ht hown hK hP hD hS ziX1 tyX1 tyX1_ok nmX1 rfl 46 (by decide) 0 (by decide) hw_2_34 rfl (v := nI 0) rfl rfl rfl (Nat.le_of_ble_eq_true rfl) rfl dX1_compare_2 (fun H locs hP hD hS => ?_)
  have hI_1 := xInv_I hI 46 0 (nI 0) (zR_any (nI 0)) rfl
  refine lv_aload_n hx hb dX1_compare_5 rfl (lv_at hl 0 rfl) ?_
  refine lv_iconst (v := (-1)) hx hb dX1_compare_6 (by decide +kernel) ?_
  refine z_putI hx hb ht hown hK hP hD hS ziX1 tyX1 tyX1_ok nmX1 rfl 46 (by decide) 1 (by decide) hw_2_36 rfl (v := (-1)) rfl rfl rfl (Nat.le_of_ble_eq_true rfl) rfl dX1_compare_7 (fun H locs hP hD hS => ?_)
  have hI_2 := xInv_I hI_1 46 1 ((-1)) (zR_any ((-1))) rfl
  refine lv_aload_n hx hb dX1_compare_10 rfl (lv_at hl 0 rfl) ?_
  refine lv_iconst (v := nI 0) hx hb dX1_compare_11 (by decide +kernel) ?_
  refine z_putI hx hb ht hown hK hP hD hS ziX1 tyX1 tyX1_ok nmX1 rfl 46 (by decide) 2 (by decide) hw_2_38 rfl (v := nI 0) rfl rfl rfl (Nat.le_of_ble_eq_true rfl) rfl dX1_compare_12 (fun H locs hP hD hS => ?_)
  have hI_3 := xInv_I hI_2 46 2 (nI 0) (zR_any (nI 0)) rfl
  refine lv_aload_n hx hb dX1_compare_15 rfl (lv_at hl 2 rfl) ?_
  refine z_callVi (k := 15) (As := []) (rest := []) hx hb hml hown ht (xk_X9_openPapers l D q cA F _ _ _ hI_3 ) hw_5_78 hmX9_openPapers ⟨rfl, rfl⟩ (na := 0) rfl (by decide +kernel) (by decide) (by decide) rfl rfl hK hP hD hS hA hl.1 rfl (Nat.le_of_ble_eq_true rfl) ⟨Nat.zero_le _, Nat.zero_le _⟩ dX1_compare_16 (fun r_4 I_4 R_4 J_4 H locs hp_4 hP hD hS _ _ => ?_)
  obtain ⟨hr_4, hu_4⟩ := hp_4
  cases hu_4
  refine lv_istore_n (lv' := [(3, .int (r_4)), (0, .ref (q 46)), (1, .ref (q 73)), (2, .ref (q 15))]) hx hb dX1_compare_19 rfl hl (by decide) rfl (fun ls hl => ?_)
  refine lv_iconst (v := nI 0) hx hb dX1_compare_20 (by decide +kernel) ?_
  refine lv_istore (lv' := [(4, .int (nI 0)), (3, .int (r_4)), (0, .ref (q 46)), (1, .ref (q 73)), (2, .ref (q 15))]) hx hb dX1_compare_21 hl (by decide) rfl (fun ls hl => ?_)
  have loop_195 : ∀ N : Nat, ∀ x_191 : Int32, zR 0 16777215 x_191 → ∀ x_192 : Int32, zR 0 60 x_192 → ∀ I_193 : Nat → Nat → Int32, xInv F (I_193, R, J) → (xFour (x_192)) → (2147483648 - (x_192).toInt).toNat < N → ∀ (H : Heap) (locs : List Loc), va_P D vwCl (zw 81 q (zXd q cA) I_193 R J) H → va_D (zA 81 q sz) (zw 81 q (zXd q cA) I_193 R J) → va_S (zA 81 q sz) s.heap H locs → ∀ ls : Array Slot, lv_has ls 9 [(0, .ref (q 46)), (1, .ref (q 73)), (2, .ref (q 15)), (3, .int (x_191)), (4, .int (x_192))] → W p l e ({ frames := 2, cells := 0, slots := 0, locals := 45 } : Room) s m ([.ref (q 46), .ref (q 73), .ref (q 15)] : List Value).toArray below meth c H locs 0 0 (MQ below (va_Qv (fun u => xInv F u) (zB D vwCl 81 q (zXd q cA) sz) (zA 81 q sz)) ([.ref (q 46), .ref (q 73), .ref (q 15)] : List Value).toArray s 0 0 (zA 81 q sz)) (F0 m 23 ls []) := by
    intro N
    induction N with
    | zero => intro x_191 hx_191 x_192 hx_192 I_193 hI_193 hx_194 hN; exact absurd hN (Nat.not_lt_zero _)
    | succ N ih_197 =>
      intro x_191 hx_191 x_192 hx_192 I_193 hI_193 hx_194 hN_196 H locs hP hD hS ls hl
      refine lv_iload hx hb dX1_compare_23 (lv_at hl 4 rfl) ?_
      refine lv_iconst (v := nI 4) hx hb dX1_compare_25 (by decide +kernel) ?_
      refine lv_iadd hx hb dX1_compare_26 ?_
      refine z_addc 4 64 hx_192 zk_4 (by decide) (fun v_198 hv_198 mv_198 => ?_)
      refine lv_aload_n hx hb dX1_compare_27 rfl (lv_at hl 1 rfl) ?_
      refine z_get hx hb ht hown hK hP ziX6 rfl 73 (by decide) 1 (by decide) hw_2_80 rfl (v := .int (I_193 73 1)) rfl dX1_compare_28 ?_
      have f_199 : zR (-1) 60 (I_193 73 1) := xI hI_193 73 1
      refine lv_icmp_gt (tgt := 182) hx hb dX1_compare_31 (by decide) (fun c_200 => ?_) (fun c_200 => ?_)
      · have t_c_200 := z_ltT c_200
        exact z_vret hx hb hr hlocks hP hD hS dX1_compare_182 hI_193
      · have t_c_200 := z_ltF c_200
        have f_201 : zR 4 60 (v_198) := zR_lex t_c_200 hv_198 f_199 (by decide)
        have f_202 : zR 0 56 (x_192) := zR_shift mv_198 f_201 (by decide)
        have f_203 : zR 4 60 (I_193 73 1) := zR_ley t_c_200 hv_198 f_199 (by decide)
        refine lv_aload_n hx hb dX1_compare_34 rfl (lv_at hl 1 rfl) ?_
        refine lv_iload hx hb dX1_compare_35 (lv_at hl 4 rfl) ?_
        refine lv_aload_n hx hb dX1_compare_37 rfl (lv_at hl 2 rfl) ?_
        refine z_callSi (As := [.ref (q 73), .int (x_192), .ref (q 15)]) (rest := []) hx hb hml hown ht (xk_X1_alike_2 l D q cA F _ _ _ hI_193 (x_192) f_202) hw_5_79 hmX1_alike ⟨rfl, rfl⟩ (na := 3) rfl (by decide +kernel) (by decide) hK hP hD hS hA hl.1 rfl (Nat.le_of_ble_eq_true rfl) ⟨Nat.zero_le _, Nat.zero_le _⟩ dX1_compare_38 (fun r_204 I_204 R_204 J_204 H locs hp_204 hP hD hS _ _ => ?_)
        obtain ⟨hr_204, hu_204⟩ := hp_204
        cases hu_204
        refine lv_istore (lv' := [(5, .int (r_204)), (0, .ref (q 46)), (1, .ref (q 73)), (2, .ref (q 15)), (3, .int (x_191)), (4, .int (x_192))]) hx hb dX1_compare_41 hl (by decide) rfl (fun ls hl => ?_)
        refine lv_aload_n hx hb dX1_compare_43 rfl (lv_at hl 2 rfl) ?_
        refine z_get hx hb ht hown hK hP ziX6 rfl 73 (by decide) 2 (by decide) hw_2_83 rfl (v := .ref (q 74)) rfl dX1_compare_44 ?_
        refine lv_iload hx hb dX1_compare_47 (lv_at hl 5 rfl) ?_
        refine lv_iconst (v := nI 1) hx hb dX1_compare_49 (by decide +kernel) ?_
        refine lv_iadd hx hb dX1_compare_50 ?_
        refine z_addc 1 57 f_202 zk_1 (by decide) (fun v_205 hv_205 mv_205 => ?_)
        have f_206 : zL 0 5 (J 74 (v_205).toNatClampNeg) := xSound_at hs hx_194 mv_205 mv_198 t_c_200 (xFr hI_193 73 1 rfl)
        refine z_lald hx hb hK hP 74 (by decide) 53 rfl rfl (zR_vin hv_205 (by decide)) dX1_compare_51 ?_
        refine z_eql (y := J 74 (v_205).toNatClampNeg) rfl ?_
        refine lv_l2i hx hb dX1_compare_52 rfl ?_
        refine z_rng (a := 0) (b := 5) (zL_l2i f_206 (by decide)) (fun v_207 hv_207 => ?_)
        refine lv_istore (lv' := [(6, .int (v_207)), (5, .int (r_204)), (0, .ref (q 46)), (1, .ref (q 73)), (2, .ref (q 15)), (3, .int (x_191)), (4, .int (x_192))]) hx hb dX1_compare_53 hl (by decide) rfl (fun ls hl => ?_)
        refine lv_aload_n hx hb dX1_compare_55 rfl (lv_at hl 3 rfl) ?_
        refine z_get hx hb ht hown hK hP ziX6 rfl 73 (by decide) 2 (by decide) hw_2_83 rfl (v := .ref (q 74)) rfl dX1_compare_56 ?_
        refine lv_iload hx hb dX1_compare_59 (lv_at hl 6 rfl) ?_
        refine lv_iconst (v := nI 2) hx hb dX1_compare_61 (by decide +kernel) ?_
        refine lv_iadd hx hb dX1_compare_62 ?_
        refine z_addc 2 58 f_202 zk_2 (by decide) (fun v_208 hv_208 mv_208 => ?_)
        refine z_lald hx hb hK hP 74 (by decide) 53 rfl rfl (zR_vin hv_208 (by decide)) dX1_compare_63 ?_
        refine z_eql (y := J 74 (v_208).toNatClampNeg) rfl ?_
        refine lv_aload_n hx hb dX1_compare_64 rfl (lv_at hl 4 rfl) ?_
        refine z_get hx hb ht hown hK hP ziX9 rfl 15 (by decide) 0 (by decide) hw_1_155 rfl (v := .ref (q 3)) rfl dX1_compare_65 ?_
        refine z_get hx hb ht hown hK hP ziX2 rfl 3 (by decide) 9 (by decide) hw_1_105 rfl (v := .ref (q 6)) rfl dX1_compare_68 ?_
        refine lv_iload hx hb dX1_compare_71 (lv_at hl 0 rfl) ?_
        refine z_iald hx hb hK hP 6 (by decide) 3 rfl rfl (zR_vin hv_207 (by decide)) dX1_compare_73 ?_
        refine z_eqi (y := R 6 (v_207).toNatClampNeg) rfl ?_
        refine lv_i2l (v := (R 6 (v_207).toNatClampNeg).toInt64) hx hb dX1_compare_74 rfl ?_
        refine W.lcmp hx hb dX1_compare_75 ?_
        have t_212 : ∀ x_211 : Int32, zR 0 1 x_211 → ∀ (H : Heap) (locs : List Loc), va_P D vwCl (zw 81 q (zXd q cA) I_193 R J) H → va_D (zA 81 q sz) (zw 81 q (zXd q cA) I_193 R J) → va_S (zA 81 q sz) s.heap H locs → ∀ ls : Array Slot, lv_has ls 9 [(0, .ref (q 46)), (1, .ref (q 73)), (2, .ref (q 15)), (3, .int (x_191)), (4, .int (x_192)), (5, .int (r_204)), (6, .int (v_207))] → W p l e ({ frames := 2, cells := 0, slots := 0, locals := 45 } : Room) s m ([.ref (q 46), .ref (q 73), .ref (q 15)] : List Value).toArray below meth c H locs 0 0 (MQ below (va_Qv (fun u => xInv F u) (zB D vwCl 81 q (zXd q cA) sz) (zA 81 q sz)) ([.ref (q 46), .ref (q 73), .ref (q 15)] : List Value).toArray s 0 0 (zA 81 q sz)) (F0 m 84 ls [.int (x_211)]) := by
          intro x_211 hx_211 H locs hP hD hS ls hl
          refine lv_istore (lv' := [(7, .int (x_211)), (0, .ref (q 46)), (1, .ref (q 73)), (2, .ref (q 15)), (3, .int (x_191)), (4, .int (x_192)), (5, .int (r_204)), (6, .int (v_207))]) hx hb dX1_compare_84 hl (by decide) rfl (fun ls hl => ?_)
          refine lv_iload hx hb dX1_compare_86 (lv_at hl 0 rfl) ?_
          have t_218 : ∀ x_217 : Int32, zR 0 16777215 x_217 → ∀ (H : Heap) (locs : List Loc), va_P D vwCl (zw 81 q (zXd q cA) I_193 R J) H → va_D (zA 81 q sz) (zw 81 q (zXd q cA) I_193 R J) → va_S (zA 81 q sz) s.heap H locs → ∀ ls : Array Slot, lv_has ls 9 [(0, .ref (q 46)), (1, .ref (q 73)), (2, .ref (q 15)), (3, .int (x_191)), (4, .int (x_192)), (5, .int (r_204)), (6, .int (v_207)), (7, .int (x_211))] → W p l e ({ frames := 2, cells := 0, slots := 0, locals := 45 } : Room) s m ([.ref (q 46), .ref (q 73), .ref (q 15)] : List Value).toArray below meth c H locs 0 0 (MQ below (va_Qv (fun u => xInv F u) (zB D vwCl 81 q (zXd q cA) sz) (zA 81 q sz)) ([.ref (q 46), .ref (q 73), .ref (q 15)] : List Value).toArray s 0 0 (zA 81 q sz)) (F0 m 99 ls [.int (x_217)]) := by
            intro x_217 hx_217 H locs hP hD hS ls hl
            refine lv_istore (lv' := [(8, .int (x_217)), (0, .ref (q 46)), (1, .ref (q 73)), (2, .ref (q 15)), (3, .int (x_191)), (4, .int (x_192)), (5, .int (r_204)), (6, .int (v_207)), (7, .int (x_211))]) hx hb dX1_compare_99 hl (by decide) rfl (fun ls hl => ?_)
            refine lv_iload hx hb dX1_compare_101 (lv_at hl 0 rfl) ?_
            have t_245 : ∀ x_242 : Int32, zR 0 16777215 x_242 → ∀ I_243 : Nat → Nat → Int32, xInv F (I_243, R, J) → zR 4 60 (I_243 73 1) → ∀ (H : Heap) (locs : List Loc), va_P D vwCl (zw 81 q (zXd q cA) I_243 R J) H → va_D (zA 81 q sz) (zw 81 q (zXd q cA) I_243 R J) → va_S (zA 81 q sz) s.heap H locs → ∀ ls : Array Slot, lv_has ls 9 [(0, .ref (q 46)), (1, .ref (q 73)), (2, .ref (q 15)), (3, .int (x_242)), (4, .int (x_192)), (5, .int (r_204)), (6, .int (v_207)), (7, .int (x_211)), (8, .int (x_217))] → W p l e ({ frames := 2, cells := 0, slots := 0, locals := 45 } : Room) s m ([.ref (q 46), .ref (q 73), .ref (q 15)] : List Value).toArray below meth c H locs 0 0 (MQ below (va_Qv (fun u => xInv F u) (zB D vwCl 81 q (zXd q cA) sz) (zA 81 q sz)) ([.ref (q 46), .ref (q 73), .ref (q 15)] : List Value).toArray s 0 0 (zA 81 q sz)) (F0 m 176 ls []) := by
              intro x_242 hx_242 I_243 hI_243 g_244 H locs hP hD hS ls hl
              obtain ⟨v_246, ev_246⟩ : ∃ y : Int32, y = x_192 + nI 4 := ⟨_, rfl⟩
              have hv_246 : zR 4 60 v_246 := ev_246 ▸ zR_add f_202 zk_4 (by decide)
              have mv_246 : v_246.toInt = (x_192).toInt + 4 := by rw [ev_246, zR_addE f_202 zk_4 (by decide)]; rfl
              refine lv_iinc (v := v_246) (lv' := [(4, .int (v_246)), (0, .ref (q 46)), (1, .ref (q 73)), (2, .ref (q 15)), (3, .int (x_242)), (5, .int (r_204)), (6, .int (v_207)), (7, .int (x_211)), (8, .int (x_217))]) hx hb dX1_compare_176 hl (k := 4) rfl (ev_246 ▸ rfl) (by decide) rfl (fun ls hl => ?_)
              refine lv_goto (tgt := 23) hx hb dX1_compare_179 (by decide) ?_
              exact ih_197 (x_242) hx_242 (v_246) (zR_w hv_246 (by decide)) _ hI_243 (xFour_s hx_194 mv_246) (z2_up mv_246 (by decide) hN_196) _ _ hP hD hS _ (lv_sub hl [1, 2, 3, 4, 0] rfl)
            refine lv_if_eq (tgt := 120) hx hb dX1_compare_103 (by decide) (fun c_219 => ?_) (fun c_219 => ?_)
            · have t_c_219 := z_eqT c_219
              have f_247 : zR 0 0 (x_217) := zR_eqx t_c_219 zk_z
              refine lv_aload_n hx hb dX1_compare_120 rfl (lv_at hl 1 rfl) ?_
              refine lv_aload_n hx hb dX1_compare_121 rfl (lv_at hl 1 rfl) ?_
              refine z_get hx hb ht hown hK hP ziX1 rfl 46 (by decide) 0 (by decide) hw_2_34 rfl (v := .int (I_193 46 0)) rfl dX1_compare_122 ?_
              have t_252 : ∀ x_251 : Int32, ∀ (H : Heap) (locs : List Loc), va_P D vwCl (zw 81 q (zXd q cA) I_193 R J) H → va_D (zA 81 q sz) (zw 81 q (zXd q cA) I_193 R J) → va_S (zA 81 q sz) s.heap H locs → ∀ ls : Array Slot, lv_has ls 9 [(0, .ref (q 46)), (1, .ref (q 73)), (2, .ref (q 15)), (3, .int (x_191)), (4, .int (x_192)), (5, .int (r_204)), (6, .int (v_207)), (7, .int (x_211)), (8, .int (x_217))] → W p l e ({ frames := 2, cells := 0, slots := 0, locals := 45 } : Room) s m ([.ref (q 46), .ref (q 73), .ref (q 15)] : List Value).toArray below meth c H locs 0 0 (MQ below (va_Qv (fun u => xInv F u) (zB D vwCl 81 q (zXd q cA) sz) (zA 81 q sz)) ([.ref (q 46), .ref (q 73), .ref (q 15)] : List Value).toArray s 0 0 (zA 81 q sz)) (F0 m 139 ls [.int (x_251), .ref (q 46)]) := by
                intro x_251 H locs hP hD hS ls hl
                refine z_putI hx hb ht hown hK hP hD hS ziX1 tyX1 tyX1_ok nmX1 rfl 46 (by decide) 1 (by decide) hw_2_36 rfl (v := x_251) rfl rfl rfl (Nat.le_of_ble_eq_true rfl) rfl dX1_compare_139 (fun H locs hP hD hS => ?_)
                have hI_253 := xInv_I hI_193 46 1 (x_251) (zR_any (x_251)) rfl
                refine lv_aload_n hx hb dX1_compare_142 rfl (lv_at hl 0 rfl) ?_
                refine lv_dup hx hb dX1_compare_143 rfl ?_
                refine z_get hx hb ht hown hK hP ziX1 rfl 46 (by decide) 0 (by decide) hw_2_34 rfl (v := .int (I_193 46 0)) rfl dX1_compare_144 ?_
                refine lv_iconst (v := nI 1) hx hb dX1_compare_147 (by decide +kernel) ?_
                refine lv_iadd hx hb dX1_compare_148 ?_
                refine z_any (fun v_254 => ?_)
                refine z_putI hx hb ht hown hK hP hD hS ziX1 tyX1 tyX1_ok nmX1 rfl 46 (by decide) 0 (by decide) hw_2_34 rfl (v := v_254) rfl rfl rfl (Nat.le_of_ble_eq_true rfl) rfl dX1_compare_149 (fun H locs hP hD hS => ?_)
                have hI_255 := xInv_I hI_253 46 0 (v_254) (zR_any (v_254)) rfl
                refine lv_aload_n hx hb dX1_compare_152 rfl (lv_at hl 0 rfl) ?_
                refine lv_dup hx hb dX1_compare_153 rfl ?_
                refine z_get hx hb ht hown hK hP ziX1 rfl 46 (by decide) 2 (by decide) hw_2_38 rfl (v := .int (I_193 46 2)) rfl dX1_compare_154 ?_
                refine lv_iload hx hb dX1_compare_157 (lv_at hl 7 rfl) ?_
                have t_263 : ∀ x_262 : Int32, zR 0 1 x_262 → ∀ (H : Heap) (locs : List Loc), va_P D vwCl (zw 81 q (zXd q cA) (zp (zp I_193 46 1 (x_251)) 46 0 (v_254)) R J) H → va_D (zA 81 q sz) (zw 81 q (zXd q cA) (zp (zp I_193 46 1 (x_251)) 46 0 (v_254)) R J) → va_S (zA 81 q sz) s.heap H locs → ∀ ls : Array Slot, lv_has ls 9 [(0, .ref (q 46)), (1, .ref (q 73)), (2, .ref (q 15)), (3, .int (x_191)), (4, .int (x_192)), (5, .int (r_204)), (6, .int (v_207)), (7, .int (x_211)), (8, .int (x_217))] → W p l e ({ frames := 2, cells := 0, slots := 0, locals := 45 } : Room) s m ([.ref (q 46), .ref (q 73), .ref (q 15)] : List Value).toArray below meth c H locs 0 0 (MQ below (va_Qv (fun u => xInv F u) (zB D vwCl 81 q (zXd q cA) sz) (zA 81 q sz)) ([.ref (q 46), .ref (q 73), .ref (q 15)] : List Value).toArray s 0 0 (zA 81 q sz)) (F0 m 172 ls [.int (x_262), .int (I_193 46 2), .ref (q 46)]) := by
                  intro x_262 hx_262 H locs hP hD hS ls hl
                  refine lv_iadd hx hb dX1_compare_172 ?_
                  refine z_any (fun v_264 => ?_)
                  refine z_putI hx hb ht hown hK hP hD hS ziX1 tyX1 tyX1_ok nmX1 rfl 46 (by decide) 2 (by decide) hw_2_38 rfl (v := v_264) rfl rfl rfl (Nat.le_of_ble_eq_true rfl) rfl dX1_compare_173 (fun H locs hP hD hS => ?_)
                  have hI_265 := xInv_I hI_255 46 2 (v_264) (zR_any (v_264)) rfl
                  exact t_245 (x_191) hx_191 _ hI_265 f_203 _ _ hP hD hS _ (lv_sub hl [0, 1, 2, 3, 4, 5, 6, 7, 8] rfl)
                refine lv_if_ne (tgt := 171) hx hb dX1_compare_159 (by decide) (fun c_256 => ?_) (fun c_256 => ?_)
                · have t_c_256 := z_eqF c_256
                  have f_266 : zR 1 1 (x_211) := zR_nex t_c_256 hx_211 zk_z (by decide)
                  refine lv_iconst (v := nI 0) hx hb dX1_compare_171 (by decide +kernel) ?_
                  exact t_263 (nI 0) (zR_w zk_0 (by decide)) _ _ hP hD hS _ (lv_sub hl [0, 1, 2, 3, 4, 5, 6, 7, 8] rfl)
                · have t_c_256 := z_eqT c_256
                  have f_267 : zR 0 0 (x_211) := zR_eqx t_c_256 zk_z
                  refine lv_iload hx hb dX1_compare_162 (lv_at hl 5 rfl) ?_
                  refine lv_if_eq (tgt := 171) hx hb dX1_compare_164 (by decide) (fun c_268 => ?_) (fun c_268 => ?_)
                  · have t_c_268 := z_eqT c_268
                    have f_269 : zR 0 0 (r_204) := zR_eqx t_c_268 zk_z
                    refine lv_iconst (v := nI 0) hx hb dX1_compare_171 (by decide +kernel) ?_
                    exact t_263 (nI 0) (zR_w zk_0 (by decide)) _ _ hP hD hS _ (lv_sub hl [0, 1, 2, 3, 4, 5, 6, 7, 8] rfl)
                  · have t_c_268 := z_eqF c_268
                    have f_270 : zR 1 16777215 (r_204) := zR_nex t_c_268 hr_204 zk_z (by decide)
                    refine lv_iconst (v := nI 1) hx hb dX1_compare_167 (by decide +kernel) ?_
                    refine lv_goto (tgt := 172) hx hb dX1_compare_168 (by decide) ?_
                    exact t_263 (nI 1) (zR_w zk_1 (by decide)) _ _ hP hD hS _ (lv_sub hl [0, 1, 2, 3, 4, 5, 6, 7, 8] rfl)
              refine lv_if_ne (tgt := 135) hx hb dX1_compare_125 (by decide) (fun c_248 => ?_) (fun c_248 => ?_)
              · have t_c_248 := z_eqF c_248
                refine lv_aload_n hx hb dX1_compare_135 rfl (lv_at hl 1 rfl) ?_
                refine z_get hx hb ht hown hK hP ziX1 rfl 46 (by decide) 1 (by decide) hw_2_36 rfl (v := .int (I_193 46 1)) rfl dX1_compare_136 ?_
                exact t_252 (I_193 46 1) _ _ hP hD hS _ (lv_sub hl [1, 2, 3, 4, 5, 6, 7, 8, 0] rfl)
              · have t_c_248 := z_eqT c_248
                have f_271 : zR 0 0 (I_193 46 0) := zR_eqx t_c_248 zk_z
                refine lv_iload hx hb dX1_compare_128 (lv_at hl 5 rfl) ?_
                refine lv_iconst (v := nI 4) hx hb dX1_compare_130 (by decide +kernel) ?_
                refine lv_idiv hx hb dX1_compare_131 (by decide +kernel) ?_
                refine z_rng (a := 0) (b := 14) (zR_divc f_202 zk_4 (by decide)) (fun v_272 hv_272 => ?_)
                refine lv_goto (tgt := 139) hx hb dX1_compare_132 (by decide) ?_
                exact t_252 (v_272) _ _ hP hD hS _ (lv_sub hl [1, 2, 3, 4, 5, 6, 7, 8, 0] rfl)
            · have t_c_219 := z_eqF c_219
              have f_273 : zR 1 16777215 (x_217) := zR_nex t_c_219 hx_217 zk_z (by decide)
              refine lv_iload_n hx hb dX1_compare_106 rfl (lv_at hl 4 rfl) ?_
              refine lv_iload hx hb dX1_compare_107 (lv_at hl 0 rfl) ?_
              refine lv_iload hx hb dX1_compare_109 (lv_at hl 0 rfl) ?_
              refine lv_ineg hx hb dX1_compare_111 ?_
              refine z_any (fun v_274 => ?_)
              refine lv_iand hx hb dX1_compare_112 ?_
              refine z_rng (a := 0) (b := 16777215) (zR_andl f_273 (by decide)) (fun v_275 hv_275 => ?_)
              refine lv_iconst (v := (-1)) hx hb dX1_compare_113 (by decide +kernel) ?_
              refine lv_ixor hx hb dX1_compare_114 ?_
              refine z_any (fun v_276 => ?_)
              refine lv_iand hx hb dX1_compare_115 ?_
              refine z_rng (a := 0) (b := 16777215) (zR_andl hx_191 (by decide)) (fun v_277 hv_277 => ?_)
              refine lv_istore_n (lv' := [(3, .int (v_277)), (8, .int (x_217)), (0, .ref (q 46)), (1, .ref (q 73)), (2, .ref (q 15)), (4, .int (x_192)), (5, .int (r_204)), (6, .int (v_207)), (7, .int (x_211))]) hx hb dX1_compare_116 rfl hl (by decide) rfl (fun ls hl => ?_)
              refine lv_goto (tgt := 176) hx hb dX1_compare_117 (by decide) ?_
              exact t_245 (v_277) hv_277 _ hI_193 f_203 _ _ hP hD hS _ (lv_sub hl [2, 3, 4, 0, 5, 6, 7, 8, 1] rfl)
          refine lv_if_eq (tgt := 98) hx hb dX1_compare_88 (by decide) (fun c_213 => ?_) (fun c_213 => ?_)
          · have t_c_213 := z_eqT c_213
            have f_278 : zR 0 0 (x_211) := zR_eqx t_c_213 zk_z
            refine lv_iconst (v := nI 0) hx hb dX1_compare_98 (by decide +kernel) ?_
            exact t_218 (nI 0) (zR_w zk_0 (by decide)) _ _ hP hD hS _ (lv_sub hl [1, 2, 3, 4, 5, 6, 7, 0] rfl)
          · have t_c_213 := z_eqF c_213
            have f_279 : zR 1 1 (x_211) := zR_nex t_c_213 hx_211 zk_z (by decide)
            refine lv_iload hx hb dX1_compare_91 (lv_at hl 6 rfl) ?_
            refine lv_iload_n hx hb dX1_compare_93 rfl (lv_at hl 4 rfl) ?_
            refine lv_iand hx hb dX1_compare_94 ?_
            refine z_rng (a := 0) (b := 16777215) (zR_andr hx_191 (by decide)) (fun v_280 hv_280 => ?_)
            refine lv_goto (tgt := 99) hx hb dX1_compare_95 (by decide) ?_
            exact t_218 (v_280) hv_280 _ _ hP hD hS _ (lv_sub hl [1, 2, 3, 4, 5, 6, 7, 0] rfl)
        refine lv_if_ne (tgt := 83) hx hb dX1_compare_76 (by decide) (fun c_209 => ?_) (fun c_209 => ?_)
        · have t_c_209 := z_leqF (fun h => c_209 ((lg_cmp_eq _ _).mpr h))
          refine lv_iconst (v := nI 0) hx hb dX1_compare_83 (by decide +kernel) ?_
          exact t_212 (nI 0) (zR_w zk_0 (by decide)) _ _ hP hD hS _ (lv_sub hl [2, 3, 4, 5, 6, 1, 0] rfl)
        · have t_c_209 := z_leqT ((lg_cmp_eq _ _).mp c_209)
          have f_281 : zL (-2147483648) 2147483647 (J 74 (v_208).toNatClampNeg) := zL_eqx t_c_209 (zR_i2l (zR_any (R 6 (v_207).toNatClampNeg)))
          refine lv_iconst (v := nI 1) hx hb dX1_compare_79 (by decide +kernel) ?_
          refine lv_goto (tgt := 84) hx hb dX1_compare_80 (by decide) ?_
          exact t_212 (nI 1) (zR_w zk_1 (by decide)) _ _ hP hD hS _ (lv_sub hl [2, 3, 4, 5, 6, 1, 0] rfl)
  exact loop_195 _ (r_4) hr_4 (nI 0) (zR_w zk_0 (by decide)) _ hI_3 xFour_0 (Nat.lt_succ_self _) _ _ hP hD hS _ (lv_sub hl [2, 3, 4, 1, 0] rfl)
set_option maxHeartbeats 4000000 in
set_option maxRecDepth 100000 in
theorem xk_X6_isThere_1 (l : Launch) (D : va_G) (q : Nat → Nat) (cA : Nat → ClassId) (F : Nat → Nat → Int32) (I R : Nat → Nat → Int32) (J : Nat → Nat → Int64) (hI : xInv F (I, R, J))  : zMi l D vwCl (zXtys cA) 81 q (zXd q cA) yX6_isThere cX6_isThere 1 (some .boolean) ({ frames := 0, cells := 0, slots := 0, locals := 0 } : Room) [.ref (q 75)] (I, R, J) (fun r u => (r = nI 1 ∧ u = (I, R, J) ∧ (I 75 1).toInt ≠ -1) ∨ (r = nI 0 ∧ u = (I, R, J) ∧ (I 75 1).toInt = -1)) := by
  intro sz
  refine z_body (by decide +kernel) (Nat.le_of_ble_eq_true rfl) (fun p e s m below meth c ls hx hb hml hr ht hown hlocks hsz hK hP hD hS hl => ?_)
  have hA : ∀ a, s.heap.size ≤ a → zA 81 q sz a := fun a h => Or.inr (hsz ▸ h)
  have hl : lv_has ls 1 [(0, .ref (q 75))] := hl
  refine lv_aload_n hx hb dX6_isThere_0 rfl (lv_at hl 0 rfl) ?_
  refine z_get hx hb ht hown hK hP ziX6 rfl 75 (by decide) 1 (by decide) hw_2_79 rfl (v := .int (I 75 1)) rfl dX6_isThere_1 ?_
  have f_1 : zR (-1) 60 (I 75 1) := xI hI 75 1
  refine lv_iconst (v := (-1)) hx hb dX6_isThere_4 (by decide +kernel) ?_
  refine lv_icmp_eq (tgt := 12) hx hb dX6_isThere_5 (by decide) (fun c_2 => ?_) (fun c_2 => ?_)
  · have t_c_2 := z_eqT c_2
    have f_3 : zR (-1) (-1) (I 75 1) := zR_eqx t_c_2 zk_m1
    refine lv_iconst (v := nI 0) hx hb dX6_isThere_12 (by decide +kernel) ?_
    exact z_zret (v := nI 0) hx hb hr hlocks hP hD hS (by decide +kernel) dX6_isThere_13 (Or.inr ⟨rfl, rfl, t_c_2.trans (by decide +kernel)⟩)
  · have t_c_2 := z_eqF c_2
    have f_4 : zR 0 60 (I 75 1) := zR_nex t_c_2 f_1 zk_m1 (by decide)
    refine lv_iconst (v := nI 1) hx hb dX6_isThere_8 (by decide +kernel) ?_
    refine lv_goto (tgt := 13) hx hb dX6_isThere_9 (by decide) ?_
    exact z_zret (v := nI 1) hx hb hr hlocks hP hD hS (by decide +kernel) dX6_isThere_13 (Or.inl ⟨rfl, rfl, fun h => t_c_2 (h.trans (by decide +kernel))⟩)
set_option maxHeartbeats 4000000 in
set_option maxRecDepth 100000 in
theorem xk_X1_isSound_1 (l : Launch) (D : va_G) (q : Nat → Nat) (cA : Nat → ClassId) (F : Nat → Nat → Int32) (I R : Nat → Nat → Int32) (J : Nat → Nat → Int64) (hI : xInv F (I, R, J))  : zMi l D vwCl (zXtys cA) 81 q (zXd q cA) yX1_isSound cX1_isSound 4 (some .boolean) ({ frames := 1, cells := 0, slots := 0, locals := 23 } : Room) [.ref (q 46), .ref (q 75), .ref (q 3)] (I, R, J) (fun r u => (r = nI 1 ∧ u = (I, R, J) ∧ xSound (J 76) (F 75 1)) ∨ (r = nI 0 ∧ u = (I, R, J) ∧ True)) := by
  intro sz
  refine z_body (by decide +kernel) (Nat.le_of_ble_eq_true rfl) (fun p e s m below meth c ls hx hb hml hr ht hown hlocks hsz hK hP hD hS hl => ?_)
  have hA : ∀ a, s.heap.size ≤ a → zA 81 q sz a := fun a h => Or.inr (hsz ▸ h)
  have hl : lv_has ls 4 [(0, .ref (q 46)), (1, .ref (q 75)), (2, .ref (q 3))] := hl
  refine lv_aload_n hx hb dX1_isSound_0 rfl (lv_at hl 1 rfl) ?_
  refine z_get hx hb ht hown hK hP ziX6 rfl 75 (by decide) 1 (by decide) hw_2_80 rfl (v := .int (I 75 1)) rfl dX1_isSound_1 ?_
  have f_1 : zR (-1) 60 (I 75 1) := xI hI 75 1
  refine lv_iconst (v := nI 4) hx hb dX1_isSound_4 (by decide +kernel) ?_
  refine lv_irem hx hb dX1_isSound_5 (by decide +kernel) ?_
  refine z_any (fun v_2 => ?_)
  refine lv_if_eq (tgt := 11) hx hb dX1_isSound_6 (by decide) (fun c_3 => ?_) (fun c_3 => ?_)
  · have t_c_3 := z_eqT c_3
    have f_4 : zR 0 0 (v_2) := zR_eqx t_c_3 zk_z
    refine lv_iconst (v := nI 0) hx hb dX1_isSound_11 (by decide +kernel) ?_
    refine lv_istore_n (lv' := [(3, .int (nI 0)), (0, .ref (q 46)), (1, .ref (q 75)), (2, .ref (q 3))]) hx hb dX1_isSound_12 rfl hl (by decide) rfl (fun ls hl => ?_)
    have loop_75 : ∀ N : Nat, ∀ x_73 : Int32, zR 0 60 x_73 → (xSnd (J 76) (x_73)) → (2147483648 - (x_73).toInt).toNat < N → ∀ (H : Heap) (locs : List Loc), va_P D vwCl (zw 81 q (zXd q cA) I R J) H → va_D (zA 81 q sz) (zw 81 q (zXd q cA) I R J) → va_S (zA 81 q sz) s.heap H locs → ∀ ls : Array Slot, lv_has ls 4 [(0, .ref (q 46)), (1, .ref (q 75)), (2, .ref (q 3)), (3, .int (x_73))] → W p l e ({ frames := 1, cells := 0, slots := 0, locals := 23 } : Room) s m ([.ref (q 46), .ref (q 75), .ref (q 3)] : List Value).toArray below meth c H locs 0 0 (MQ below (va_Qi (fun r u => (r = nI 1 ∧ u = (I, R, J) ∧ xSound (J 76) (F 75 1)) ∨ (r = nI 0 ∧ u = (I, R, J) ∧ True)) (zB D vwCl 81 q (zXd q cA) sz) (zA 81 q sz)) ([.ref (q 46), .ref (q 75), .ref (q 3)] : List Value).toArray s 0 0 (zA 81 q sz)) (F0 m 13 ls []) := by
      intro N
      induction N with
      | zero => intro x_73 hx_73 hx_74 hN; exact absurd hN (Nat.not_lt_zero _)
      | succ N ih_77 =>
        intro x_73 hx_73 hx_74 hN_76 H locs hP hD hS ls hl
        refine lv_iload_n hx hb dX1_isSound_13 rfl (lv_at hl 3 rfl) ?_
        refine lv_iconst (v := nI 4) hx hb dX1_isSound_14 (by decide +kernel) ?_
        refine lv_iadd hx hb dX1_isSound_15 ?_
        refine z_addc 4 64 hx_73 zk_4 (by decide) (fun v_78 hv_78 mv_78 => ?_)
        refine lv_aload_n hx hb dX1_isSound_16 rfl (lv_at hl 1 rfl) ?_
        refine z_get hx hb ht hown hK hP ziX6 rfl 75 (by decide) 1 (by decide) hw_2_80 rfl (v := .int (I 75 1)) rfl dX1_isSound_17 ?_
        refine lv_icmp_gt (tgt := 106) hx hb dX1_isSound_20 (by decide) (fun c_79 => ?_) (fun c_79 => ?_)
        · have t_c_79 := z_ltT c_79
          refine lv_iconst (v := nI 1) hx hb dX1_isSound_106 (by decide +kernel) ?_
          exact z_zret (v := nI 1) hx hb hr hlocks hP hD hS (by decide +kernel) dX1_isSound_107 (Or.inl ⟨rfl, rfl, (xFr hI 75 1 rfl) ▸ xSnd_end hx_74 mv_78 t_c_79⟩)
        · have t_c_79 := z_ltF c_79
          have f_80 : zR 4 60 (v_78) := zR_lex t_c_79 hv_78 f_1 (by decide)
          have f_81 : zR 0 56 (x_73) := zR_shift mv_78 f_80 (by decide)
          have f_82 : zR 4 60 (I 75 1) := zR_ley t_c_79 hv_78 f_1 (by decide)
          refine lv_aload_n hx hb dX1_isSound_23 rfl (lv_at hl 1 rfl) ?_
          refine z_get hx hb ht hown hK hP ziX6 rfl 75 (by decide) 2 (by decide) hw_2_83 rfl (v := .ref (q 76)) rfl dX1_isSound_24 ?_
          refine lv_iload_n hx hb dX1_isSound_27 rfl (lv_at hl 3 rfl) ?_
          refine z_lald hx hb hK hP 76 (by decide) 54 rfl rfl (zR_vin f_81 (by decide)) dX1_isSound_28 ?_
          refine z_eql (y := J 76 (x_73).toNatClampNeg) rfl ?_
          refine lv_iconst (v := nI 0) hx hb dX1_isSound_29 (by decide +kernel) ?_
          refine lv_aload_n hx hb dX1_isSound_30 rfl (lv_at hl 2 rfl) ?_
          refine z_get hx hb ht hown hK hP ziX2 rfl 3 (by decide) 4 (by decide) hw_1_82 rfl (v := .int (I 3 4)) rfl dX1_isSound_31 ?_
          have f_83 : zR 0 5 (I 3 4) := xI hI 3 4
          refine lv_iconst (v := nI 1) hx hb dX1_isSound_34 (by decide +kernel) ?_
          refine lv_isub hx hb dX1_isSound_35 ?_
          refine z_subc (-1) 4 (-1) f_83 zk_1 (by decide) (fun v_84 hv_84 mv_84 => ?_)
          refine z_callSi (As := [.long (J 76 (x_73).toNatClampNeg), .int (nI 0), .int (v_84)]) (rest := []) hx hb hml hown ht (xk_X1_isWithin l D q cA F _ _ _ hI (J 76 (x_73).toNatClampNeg) (nI 0) (zR_w zk_0 (by decide)) (v_84) hv_84) hw_5_71 hmX1_isWithin ⟨rfl, rfl⟩ (na := 3) rfl (by decide +kernel) (by decide) hK hP hD hS hA hl.1 rfl (Nat.le_of_ble_eq_true rfl) ⟨Nat.zero_le _, Nat.zero_le _⟩ dX1_isSound_36 (fun r_85 I_85 R_85 J_85 H locs hp_85 hP hD hS _ _ => ?_)
          rcases hp_85 with ⟨rfl, hu_85, f0_85, f2_85⟩ | ⟨rfl, hu_85⟩
          · cases hu_85
            refine lv_if_eq (tgt := 98) hx hb dX1_isSound_39 (by decide) (fun c_0 => absurd c_0 (zD_ne zk_1 zk_z (by decide))) (fun _ => ?_)
            refine lv_aload_n hx hb dX1_isSound_42 rfl (lv_at hl 1 rfl) ?_
            refine z_get hx hb ht hown hK hP ziX6 rfl 75 (by decide) 2 (by decide) hw_2_83 rfl (v := .ref (q 76)) rfl dX1_isSound_43 ?_
            refine lv_iload_n hx hb dX1_isSound_46 rfl (lv_at hl 3 rfl) ?_
            refine lv_iconst (v := nI 1) hx hb dX1_isSound_47 (by decide +kernel) ?_
            refine lv_iadd hx hb dX1_isSound_48 ?_
            refine z_addc 1 57 f_81 zk_1 (by decide) (fun v_86 hv_86 mv_86 => ?_)
            refine z_lald hx hb hK hP 76 (by decide) 54 rfl rfl (zR_vin hv_86 (by decide)) dX1_isSound_49 ?_
            refine z_eql (y := J 76 (v_86).toNatClampNeg) rfl ?_
            refine lv_iconst (v := nI 0) hx hb dX1_isSound_50 (by decide +kernel) ?_
            refine lv_aload_n hx hb dX1_isSound_51 rfl (lv_at hl 2 rfl) ?_
            refine z_get hx hb ht hown hK hP ziX2 rfl 3 (by decide) 5 (by decide) hw_1_88 rfl (v := .int (I 3 5)) rfl dX1_isSound_52 ?_
            have f_87 : zR 0 6 (I 3 5) := xI hI 3 5
            refine lv_iconst (v := nI 1) hx hb dX1_isSound_55 (by decide +kernel) ?_
            refine lv_isub hx hb dX1_isSound_56 ?_
            refine z_subc (-1) 5 (-1) f_87 zk_1 (by decide) (fun v_88 hv_88 mv_88 => ?_)
            refine z_callSi (As := [.long (J 76 (v_86).toNatClampNeg), .int (nI 0), .int (v_88)]) (rest := []) hx hb hml hown ht (xk_X1_isWithin_1 l D q cA F _ _ _ hI (J 76 (v_86).toNatClampNeg) (nI 0) (zR_w zk_0 (by decide)) (v_88) hv_88) hw_5_71 hmX1_isWithin ⟨rfl, rfl⟩ (na := 3) rfl (by decide +kernel) (by decide) hK hP hD hS hA hl.1 rfl (Nat.le_of_ble_eq_true rfl) ⟨Nat.zero_le _, Nat.zero_le _⟩ dX1_isSound_57 (fun r_89 I_89 R_89 J_89 H locs hp_89 hP hD hS _ _ => ?_)
            rcases hp_89 with ⟨rfl, hu_89, f0_89, f2_89⟩ | ⟨rfl, hu_89⟩
            · cases hu_89
              refine lv_if_eq (tgt := 98) hx hb dX1_isSound_60 (by decide) (fun c_0 => absurd c_0 (zD_ne zk_1 zk_z (by decide))) (fun _ => ?_)
              refine lv_aload_n hx hb dX1_isSound_63 rfl (lv_at hl 1 rfl) ?_
              refine z_get hx hb ht hown hK hP ziX6 rfl 75 (by decide) 2 (by decide) hw_2_83 rfl (v := .ref (q 76)) rfl dX1_isSound_64 ?_
              refine lv_iload_n hx hb dX1_isSound_67 rfl (lv_at hl 3 rfl) ?_
              refine lv_iconst (v := nI 2) hx hb dX1_isSound_68 (by decide +kernel) ?_
              refine lv_iadd hx hb dX1_isSound_69 ?_
              refine z_addc 2 58 f_81 zk_2 (by decide) (fun v_90 hv_90 mv_90 => ?_)
              refine z_lald hx hb hK hP 76 (by decide) 54 rfl rfl (zR_vin hv_90 (by decide)) dX1_isSound_70 ?_
              refine z_eql (y := J 76 (v_90).toNatClampNeg) rfl ?_
              refine lv_iconst (v := nI 0) hx hb dX1_isSound_71 (by decide +kernel) ?_
              refine lv_sipush (v := nI 9999) hx hb dX1_isSound_72 (by decide +kernel) ?_
              refine z_callSi (As := [.long (J 76 (v_90).toNatClampNeg), .int (nI 0), .int (nI 9999)]) (rest := []) hx hb hml hown ht (xk_X1_isWithin_2 l D q cA F _ _ _ hI (J 76 (v_90).toNatClampNeg) (nI 0) (zR_w zk_0 (by decide)) (nI 9999) (zR_w zk_9999 (by decide))) hw_5_71 hmX1_isWithin ⟨rfl, rfl⟩ (na := 3) rfl (by decide +kernel) (by decide) hK hP hD hS hA hl.1 rfl (Nat.le_of_ble_eq_true rfl) ⟨Nat.zero_le _, Nat.zero_le _⟩ dX1_isSound_75 (fun r_91 I_91 R_91 J_91 H locs hp_91 hP hD hS _ _ => ?_)
              rcases hp_91 with ⟨rfl, hu_91, f0_91⟩ | ⟨rfl, hu_91⟩
              · cases hu_91
                refine lv_if_eq (tgt := 98) hx hb dX1_isSound_78 (by decide) (fun c_0 => absurd c_0 (zD_ne zk_1 zk_z (by decide))) (fun _ => ?_)
                refine lv_aload_n hx hb dX1_isSound_81 rfl (lv_at hl 1 rfl) ?_
                refine z_get hx hb ht hown hK hP ziX6 rfl 75 (by decide) 2 (by decide) hw_2_83 rfl (v := .ref (q 76)) rfl dX1_isSound_82 ?_
                refine lv_iload_n hx hb dX1_isSound_85 rfl (lv_at hl 3 rfl) ?_
                refine lv_iconst (v := nI 3) hx hb dX1_isSound_86 (by decide +kernel) ?_
                refine lv_iadd hx hb dX1_isSound_87 ?_
                refine z_addc 3 59 f_81 zk_3 (by decide) (fun v_92 hv_92 mv_92 => ?_)
                refine z_lald hx hb hK hP 76 (by decide) 54 rfl rfl (zR_vin hv_92 (by decide)) dX1_isSound_88 ?_
                refine z_eql (y := J 76 (v_92).toNatClampNeg) rfl ?_
                refine lv_iconst (v := nI 1) hx hb dX1_isSound_89 (by decide +kernel) ?_
                refine lv_bipush (v := nI 60) hx hb dX1_isSound_90 (by decide +kernel) ?_
                refine z_callSi (As := [.long (J 76 (v_92).toNatClampNeg), .int (nI 1), .int (nI 60)]) (rest := []) hx hb hml hown ht (xk_X1_isWithin_3 l D q cA F _ _ _ hI (J 76 (v_92).toNatClampNeg) (nI 1) (zR_w zk_1 (by decide)) (nI 60) (zR_w zk_60 (by decide))) hw_5_71 hmX1_isWithin ⟨rfl, rfl⟩ (na := 3) rfl (by decide +kernel) (by decide) hK hP hD hS hA hl.1 rfl (Nat.le_of_ble_eq_true rfl) ⟨Nat.zero_le _, Nat.zero_le _⟩ dX1_isSound_92 (fun r_93 I_93 R_93 J_93 H locs hp_93 hP hD hS _ _ => ?_)
                rcases hp_93 with ⟨rfl, hu_93, f0_93⟩ | ⟨rfl, hu_93⟩
                · cases hu_93
                  refine lv_if_ne (tgt := 100) hx hb dX1_isSound_95 (by decide) (fun _ => ?_) (fun c_0 => absurd c_0 (zD_ne zk_1 zk_z (by decide)))
                  obtain ⟨v_94, ev_94⟩ : ∃ y : Int32, y = x_73 + nI 4 := ⟨_, rfl⟩
                  have hv_94 : zR 4 60 v_94 := ev_94 ▸ zR_add f_81 zk_4 (by decide)
                  have mv_94 : v_94.toInt = (x_73).toInt + 4 := by rw [ev_94, zR_addE f_81 zk_4 (by decide)]; rfl
                  refine lv_iinc (v := v_94) (lv' := [(3, .int (v_94)), (0, .ref (q 46)), (1, .ref (q 75)), (2, .ref (q 3))]) hx hb dX1_isSound_100 hl (k := 3) rfl (ev_94 ▸ rfl) (by decide) rfl (fun ls hl => ?_)
                  refine lv_goto (tgt := 13) hx hb dX1_isSound_103 (by decide) ?_
                  exact ih_77 (v_94) (zR_w hv_94 (by decide)) (xSnd_step hx_74 f0_89 mv_86 mv_94) (z2_up mv_94 (by decide) hN_76) _ _ hP hD hS _ (lv_sub hl [1, 2, 3, 0] rfl)
                · cases hu_93
                  refine lv_if_ne (tgt := 100) hx hb dX1_isSound_95 (by decide) (fun c_0 => absurd (zD_eq zk_0 zk_z) c_0) (fun _ => ?_)
                  refine lv_iconst (v := nI 0) hx hb dX1_isSound_98 (by decide +kernel) ?_
                  exact z_zret (v := nI 0) hx hb hr hlocks hP hD hS (by decide +kernel) dX1_isSound_99 (Or.inr ⟨rfl, rfl, trivial⟩)
              · cases hu_91
                refine lv_if_eq (tgt := 98) hx hb dX1_isSound_78 (by decide) (fun _ => ?_) (fun c_0 => absurd (zD_eq zk_0 zk_z) c_0)
                refine lv_iconst (v := nI 0) hx hb dX1_isSound_98 (by decide +kernel) ?_
                exact z_zret (v := nI 0) hx hb hr hlocks hP hD hS (by decide +kernel) dX1_isSound_99 (Or.inr ⟨rfl, rfl, trivial⟩)
            · cases hu_89
              refine lv_if_eq (tgt := 98) hx hb dX1_isSound_60 (by decide) (fun _ => ?_) (fun c_0 => absurd (zD_eq zk_0 zk_z) c_0)
              refine lv_iconst (v := nI 0) hx hb dX1_isSound_98 (by decide +kernel) ?_
              exact z_zret (v := nI 0) hx hb hr hlocks hP hD hS (by decide +kernel) dX1_isSound_99 (Or.inr ⟨rfl, rfl, trivial⟩)
          · cases hu_85
            refine lv_if_eq (tgt := 98) hx hb dX1_isSound_39 (by decide) (fun _ => ?_) (fun c_0 => absurd (zD_eq zk_0 zk_z) c_0)
            refine lv_iconst (v := nI 0) hx hb dX1_isSound_98 (by decide +kernel) ?_
            exact z_zret (v := nI 0) hx hb hr hlocks hP hD hS (by decide +kernel) dX1_isSound_99 (Or.inr ⟨rfl, rfl, trivial⟩)
    exact loop_75 _ (nI 0) (zR_w zk_0 (by decide)) xSnd_0 (Nat.lt_succ_self _) _ _ hP hD hS _ (lv_sub hl [1, 2, 3, 0] rfl)
  · have t_c_3 := z_eqF c_3
    refine lv_iconst (v := nI 0) hx hb dX1_isSound_9 (by decide +kernel) ?_
    exact z_zret (v := nI 0) hx hb hr hlocks hP hD hS (by decide +kernel) dX1_isSound_10 (Or.inr ⟨rfl, rfl, trivial⟩)
set_option maxHeartbeats 4000000 in
set_option maxRecDepth 100000 in
theorem xk_X1_alike_5 (l : Launch) (D : va_G) (q : Nat → Nat) (cA : Nat → ClassId) (F : Nat → Nat → Int32) (I R : Nat → Nat → Int32) (J : Nat → Nat → Int64) (hI : xInv F (I, R, J)) (pa1 : Int32) (hpa1 : zR 0 56 pa1) : zMi l D vwCl (zXtys cA) 81 q (zXd q cA) yX1_alike cX1_alike 5 (some .int) ({ frames := 1, cells := 0, slots := 0, locals := 21 } : Room) [.ref (q 75), .int (pa1), .ref (q 15)] (I, R, J) (fun r u => zR 0 16777215 r ∧ u = (I, R, J)) := by
  intro sz
  refine z_body (by decide +kernel) (Nat.le_of_ble_eq_true rfl) (fun p e s m below meth c ls hx hb hml hr ht hown hlocks hsz hK hP hD hS hl => ?_)
  have hA : ∀ a, s.heap.size ≤ a → zA 81 q sz a := fun a h => Or.inr (hsz ▸ h)
  have hl : lv_has ls 5 [(0, .ref (q 75)), (1, .int (pa1)), (2, .ref (q 15))] := hl
  refine lv_iconst (v := nI 0) hx hb dX1_alike_0 (by decide +kernel) ?_
  refine lv_istore_n (lv' := [(3, .int (nI 0)), (0, .ref (q 75)), (1, .int (pa1)), (2, .ref (q 15))]) hx hb dX1_alike_1 rfl hl (by decide) rfl (fun ls hl => ?_)
  refine lv_iconst (v := nI 0) hx hb dX1_alike_2 (by decide +kernel) ?_
  refine lv_istore (lv' := [(4, .int (nI 0)), (3, .int (nI 0)), (0, .ref (q 75)), (1, .int (pa1)), (2, .ref (q 15))]) hx hb dX1_alike_3 hl (by decide) rfl (fun ls hl => ?_)
  have loop_103 : ∀ N : Nat, ∀ x_101 : Int32, zR 0 16777215 x_101 → ∀ x_102 : Int32, zR 0 24 x_102 → (2147483648 - (x_102).toInt).toNat < N → ∀ (H : Heap) (locs : List Loc), va_P D vwCl (zw 81 q (zXd q cA) I R J) H → va_D (zA 81 q sz) (zw 81 q (zXd q cA) I R J) → va_S (zA 81 q sz) s.heap H locs → ∀ ls : Array Slot, lv_has ls 5 [(0, .ref (q 75)), (1, .int (pa1)), (2, .ref (q 15)), (3, .int (x_101)), (4, .int (x_102))] → W p l e ({ frames := 1, cells := 0, slots := 0, locals := 21 } : Room) s m ([.ref (q 75), .int (pa1), .ref (q 15)] : List Value).toArray below meth c H locs 0 0 (MQ below (va_Qi (fun r u => zR 0 16777215 r ∧ u = (I, R, J)) (zB D vwCl 81 q (zXd q cA) sz) (zA 81 q sz)) ([.ref (q 75), .int (pa1), .ref (q 15)] : List Value).toArray s 0 0 (zA 81 q sz)) (F0 m 5 ls []) := by
    intro N
    induction N with
    | zero => intro x_101 hx_101 x_102 hx_102 hN; exact absurd hN (Nat.not_lt_zero _)
    | succ N ih_105 =>
      intro x_101 hx_101 x_102 hx_102 hN_104 H locs hP hD hS ls hl
      refine lv_iload hx hb dX1_alike_5 (lv_at hl 4 rfl) ?_
      refine lv_aload_n hx hb dX1_alike_7 rfl (lv_at hl 2 rfl) ?_
      refine z_get hx hb ht hown hK hP ziX9 rfl 15 (by decide) 2 (by decide) hw_1_161 rfl (v := .int (I 15 2)) rfl dX1_alike_8 ?_
      have f_106 : zR 0 24 (I 15 2) := xI hI 15 2
      refine lv_icmp_ge (tgt := 94) hx hb dX1_alike_11 (by decide) (fun c_107 => ?_) (fun c_107 => ?_)
      · have t_c_107 := z_leT c_107
        refine lv_iload_n hx hb dX1_alike_94 rfl (lv_at hl 3 rfl) ?_
        exact z_iret (v := x_101) hx hb hr hlocks hP hD hS dX1_alike_95 ⟨hx_101, rfl⟩
      · have t_c_107 := z_leF c_107
        have f_108 : zR 0 23 (x_102) := zR_ltx t_c_107 hx_102 f_106 (by decide)
        have f_109 : zR 1 24 (I 15 2) := zR_lty t_c_107 hx_102 f_106 (by decide)
        refine lv_aload_n hx hb dX1_alike_14 rfl (lv_at hl 2 rfl) ?_
        refine lv_iload hx hb dX1_alike_15 (lv_at hl 4 rfl) ?_
        have t_124 : ∀ x_123 : Int32, zR 0 16777215 x_123 → ∀ (H : Heap) (locs : List Loc), va_P D vwCl (zw 81 q (zXd q cA) I R J) H → va_D (zA 81 q sz) (zw 81 q (zXd q cA) I R J) → va_S (zA 81 q sz) s.heap H locs → ∀ ls : Array Slot, lv_has ls 5 [(0, .ref (q 75)), (1, .int (pa1)), (2, .ref (q 15)), (3, .int (x_123)), (4, .int (x_102))] → W p l e ({ frames := 1, cells := 0, slots := 0, locals := 21 } : Room) s m ([.ref (q 75), .int (pa1), .ref (q 15)] : List Value).toArray below meth c H locs 0 0 (MQ below (va_Qi (fun r u => zR 0 16777215 r ∧ u = (I, R, J)) (zB D vwCl 81 q (zXd q cA) sz) (zA 81 q sz)) ([.ref (q 75), .int (pa1), .ref (q 15)] : List Value).toArray s 0 0 (zA 81 q sz)) (F0 m 88 ls []) := by
          intro x_123 hx_123 H locs hP hD hS ls hl
          obtain ⟨v_125, ev_125⟩ : ∃ y : Int32, y = x_102 + nI 1 := ⟨_, rfl⟩
          have hv_125 : zR 1 24 v_125 := ev_125 ▸ zR_add f_108 zk_1 (by decide)
          have mv_125 : v_125.toInt = (x_102).toInt + 1 := by rw [ev_125, zR_addE f_108 zk_1 (by decide)]; rfl
          refine lv_iinc (v := v_125) (lv' := [(4, .int (v_125)), (0, .ref (q 75)), (1, .int (pa1)), (2, .ref (q 15)), (3, .int (x_123))]) hx hb dX1_alike_88 hl (k := 4) rfl (ev_125 ▸ rfl) (by decide) rfl (fun ls hl => ?_)
          refine lv_goto (tgt := 5) hx hb dX1_alike_91 (by decide) ?_
          exact ih_105 (x_123) hx_123 (v_125) (zR_w hv_125 (by decide)) (z2_up mv_125 (by decide) hN_104) _ _ hP hD hS _ (lv_sub hl [1, 2, 3, 4, 0] rfl)
        refine z_callVi (k := 15) (As := [.int (x_102)]) (rest := []) hx hb hml hown ht (xk_X9_isOpen_1 l D q cA F _ _ _ hI (x_102) f_108) hw_5_82 hmX9_isOpen ⟨rfl, rfl⟩ (na := 1) rfl (by decide +kernel) (by decide) (by decide) rfl rfl hK hP hD hS hA hl.1 rfl (Nat.le_of_ble_eq_true rfl) ⟨Nat.zero_le _, Nat.zero_le _⟩ dX1_alike_17 (fun r_110 I_110 R_110 J_110 H locs hp_110 hP hD hS _ _ => ?_)
        rcases hp_110 with ⟨rfl, hu_110⟩ | ⟨rfl, hu_110⟩
        · cases hu_110
          refine lv_if_eq (tgt := 88) hx hb dX1_alike_20 (by decide) (fun c_0 => absurd c_0 (zD_ne zk_1 zk_z (by decide))) (fun _ => ?_)
          refine lv_aload_n hx hb dX1_alike_23 rfl (lv_at hl 2 rfl) ?_
          refine z_get hx hb ht hown hK hP ziX9 rfl 15 (by decide) 7 (by decide) hw_1_173 rfl (v := .ref (q 19)) rfl dX1_alike_24 ?_
          refine lv_iload hx hb dX1_alike_27 (lv_at hl 4 rfl) ?_
          refine z_iald hx hb hK hP 19 (by decide) 13 rfl rfl (zR_vin f_108 (by decide)) dX1_alike_29 ?_
          refine z_eqi (y := R 19 (x_102).toNatClampNeg) rfl ?_
          have f_126 : zR 0 4 (R 19 (x_102).toNatClampNeg) := xR hI 19 (x_102).toNatClampNeg
          refine lv_i2l (v := (R 19 (x_102).toNatClampNeg).toInt64) hx hb dX1_alike_30 rfl ?_
          refine lv_aload_n hx hb dX1_alike_31 rfl (lv_at hl 0 rfl) ?_
          refine z_get hx hb ht hown hK hP ziX6 rfl 75 (by decide) 2 (by decide) hw_2_83 rfl (v := .ref (q 76)) rfl dX1_alike_32 ?_
          refine lv_iload_n hx hb dX1_alike_35 rfl (lv_at hl 1 rfl) ?_
          refine z_lald hx hb hK hP 76 (by decide) 54 rfl rfl (zR_vin hpa1 (by decide)) dX1_alike_36 ?_
          refine z_eql (y := J 76 (pa1).toNatClampNeg) rfl ?_
          refine W.lcmp hx hb dX1_alike_37 ?_
          refine lv_if_ne (tgt := 88) hx hb dX1_alike_38 (by decide) (fun c_127 => ?_) (fun c_127 => ?_)
          · have t_c_127 := z_leqF (fun h => c_127 ((lg_cmp_eq _ _).mpr h))
            exact t_124 (x_101) hx_101 _ _ hP hD hS _ (lv_sub hl [0, 1, 2, 3, 4] rfl)
          · have t_c_127 := z_leqT ((lg_cmp_eq _ _).mp c_127)
            have f_128 : zL 0 4 (J 76 (pa1).toNatClampNeg) := zL_eqy t_c_127 (zR_i2l f_126)
            refine lv_aload_n hx hb dX1_alike_41 rfl (lv_at hl 2 rfl) ?_
            refine z_get hx hb ht hown hK hP ziX9 rfl 15 (by decide) 8 (by decide) hw_1_177 rfl (v := .ref (q 20)) rfl dX1_alike_42 ?_
            refine lv_iload hx hb dX1_alike_45 (lv_at hl 4 rfl) ?_
            refine z_iald hx hb hK hP 20 (by decide) 14 rfl rfl (zR_vin f_108 (by decide)) dX1_alike_47 ?_
            refine z_eqi (y := R 20 (x_102).toNatClampNeg) rfl ?_
            have f_129 : zR 0 5 (R 20 (x_102).toNatClampNeg) := xR hI 20 (x_102).toNatClampNeg
            refine lv_i2l (v := (R 20 (x_102).toNatClampNeg).toInt64) hx hb dX1_alike_48 rfl ?_
            refine lv_aload_n hx hb dX1_alike_49 rfl (lv_at hl 0 rfl) ?_
            refine z_get hx hb ht hown hK hP ziX6 rfl 75 (by decide) 2 (by decide) hw_2_83 rfl (v := .ref (q 76)) rfl dX1_alike_50 ?_
            refine lv_iload_n hx hb dX1_alike_53 rfl (lv_at hl 1 rfl) ?_
            refine lv_iconst (v := nI 1) hx hb dX1_alike_54 (by decide +kernel) ?_
            refine lv_iadd hx hb dX1_alike_55 ?_
            refine z_addc 1 57 hpa1 zk_1 (by decide) (fun v_130 hv_130 mv_130 => ?_)
            refine z_lald hx hb hK hP 76 (by decide) 54 rfl rfl (zR_vin hv_130 (by decide)) dX1_alike_56 ?_
            refine z_eql (y := J 76 (v_130).toNatClampNeg) rfl ?_
            refine W.lcmp hx hb dX1_alike_57 ?_
            refine lv_if_ne (tgt := 88) hx hb dX1_alike_58 (by decide) (fun c_131 => ?_) (fun c_131 => ?_)
            · have t_c_131 := z_leqF (fun h => c_131 ((lg_cmp_eq _ _).mpr h))
              exact t_124 (x_101) hx_101 _ _ hP hD hS _ (lv_sub hl [0, 1, 2, 3, 4] rfl)
            · have t_c_131 := z_leqT ((lg_cmp_eq _ _).mp c_131)
              have f_132 : zL 0 5 (J 76 (v_130).toNatClampNeg) := zL_eqy t_c_131 (zR_i2l f_129)
              refine lv_aload_n hx hb dX1_alike_61 rfl (lv_at hl 2 rfl) ?_
              refine z_get hx hb ht hown hK hP ziX9 rfl 15 (by decide) 10 (by decide) hw_1_183 rfl (v := .ref (q 22)) rfl dX1_alike_62 ?_
              refine lv_iload hx hb dX1_alike_65 (lv_at hl 4 rfl) ?_
              refine z_iald hx hb hK hP 22 (by decide) 16 rfl rfl (zR_vin f_108 (by decide)) dX1_alike_67 ?_
              refine z_eqi (y := R 22 (x_102).toNatClampNeg) rfl ?_
              refine lv_i2l (v := (R 22 (x_102).toNatClampNeg).toInt64) hx hb dX1_alike_68 rfl ?_
              refine lv_aload_n hx hb dX1_alike_69 rfl (lv_at hl 0 rfl) ?_
              refine z_get hx hb ht hown hK hP ziX6 rfl 75 (by decide) 2 (by decide) hw_2_83 rfl (v := .ref (q 76)) rfl dX1_alike_70 ?_
              refine lv_iload_n hx hb dX1_alike_73 rfl (lv_at hl 1 rfl) ?_
              refine lv_iconst (v := nI 3) hx hb dX1_alike_74 (by decide +kernel) ?_
              refine lv_iadd hx hb dX1_alike_75 ?_
              refine z_addc 3 59 hpa1 zk_3 (by decide) (fun v_133 hv_133 mv_133 => ?_)
              refine z_lald hx hb hK hP 76 (by decide) 54 rfl rfl (zR_vin hv_133 (by decide)) dX1_alike_76 ?_
              refine z_eql (y := J 76 (v_133).toNatClampNeg) rfl ?_
              refine W.lcmp hx hb dX1_alike_77 ?_
              refine lv_if_ne (tgt := 88) hx hb dX1_alike_78 (by decide) (fun c_134 => ?_) (fun c_134 => ?_)
              · have t_c_134 := z_leqF (fun h => c_134 ((lg_cmp_eq _ _).mpr h))
                exact t_124 (x_101) hx_101 _ _ hP hD hS _ (lv_sub hl [0, 1, 2, 3, 4] rfl)
              · have t_c_134 := z_leqT ((lg_cmp_eq _ _).mp c_134)
                have f_135 : zL (-2147483648) 2147483647 (J 76 (v_133).toNatClampNeg) := zL_eqy t_c_134 (zR_i2l (zR_any (R 22 (x_102).toNatClampNeg)))
                refine lv_iload_n hx hb dX1_alike_81 rfl (lv_at hl 3 rfl) ?_
                refine lv_iconst (v := nI 1) hx hb dX1_alike_82 (by decide +kernel) ?_
                refine lv_iload hx hb dX1_alike_83 (lv_at hl 4 rfl) ?_
                refine lv_ishl hx hb dX1_alike_85 ?_
                refine z_rng (a := 1) (b := 8388608) (zR_shl1 23 f_108 (by decide)) (fun v_136 hv_136 => ?_)
                refine lv_ior hx hb dX1_alike_86 ?_
                refine z_rng (a := 0) (b := 16777215) (zR_or 24 hx_101 hv_136 (by decide)) (fun v_137 hv_137 => ?_)
                refine lv_istore_n (lv' := [(3, .int (v_137)), (0, .ref (q 75)), (1, .int (pa1)), (2, .ref (q 15)), (4, .int (x_102))]) hx hb dX1_alike_87 rfl hl (by decide) rfl (fun ls hl => ?_)
                exact t_124 (v_137) hv_137 _ _ hP hD hS _ (lv_sub hl [1, 2, 3, 0, 4] rfl)
        · cases hu_110
          refine lv_if_eq (tgt := 88) hx hb dX1_alike_20 (by decide) (fun _ => ?_) (fun c_0 => absurd (zD_eq zk_0 zk_z) c_0)
          exact t_124 (x_101) hx_101 _ _ hP hD hS _ (lv_sub hl [0, 1, 2, 3, 4] rfl)
  exact loop_103 _ (nI 0) (zR_w zk_0 (by decide)) (nI 0) (zR_w zk_0 (by decide)) (Nat.lt_succ_self _) _ _ hP hD hS _ (lv_sub hl [2, 3, 4, 1, 0] rfl)
set_option maxHeartbeats 4000000 in
set_option maxRecDepth 100000 in
theorem xk_X1_compare_1 (l : Launch) (D : va_G) (q : Nat → Nat) (cA : Nat → ClassId) (F : Nat → Nat → Int32) (I R : Nat → Nat → Int32) (J : Nat → Nat → Int64) (hI : xInv F (I, R, J)) (hs : xSound (J 76) (F 75 1)) : zMv l D vwCl (zXtys cA) 81 q (zXd q cA) yX1_compare cX1_compare 9 none ({ frames := 2, cells := 0, slots := 0, locals := 45 } : Room) [.ref (q 46), .ref (q 75), .ref (q 15)] (I, R, J) (fun u => xInv F u) := by
  intro sz
  refine z_body (by decide +kernel) (Nat.le_of_ble_eq_true rfl) (fun p e s m below meth c ls hx hb hml hr ht hown hlocks hsz hK hP hD hS hl => ?_)
  have hA : ∀ a, s.heap.size ≤ a → zA 81 q sz a := fun a h => Or.inr (hsz ▸ h)
  have hl : lv_has ls 9 [(0, .ref (q 46)), (1, .ref (q 75)), (2, .ref (q 15))] := hl
  refine lv_aload_n hx hb dX1_compare_0 rfl (lv_at hl 0 rfl) ?_
  refine lv_iconst (v := nI 0) hx hb dX1_compare_1 (by decide +kernel) ?_
  refine z_putI hx hb ht hown hK hP hD hS ziX1 tyX1 tyX1_ok nmX1 rfl 46 (by decide) 0 (by decide) hw_2_34 rfl (v := nI 0) rfl rfl rfl (Nat.le_of_ble_eq_true rfl) rfl dX1_compare_2 (fun H locs hP hD hS => ?_)
  have hI_1 := xInv_I hI 46 0 (nI 0) (zR_any (nI 0)) rfl
  refine lv_aload_n hx hb dX1_compare_5 rfl (lv_at hl 0 rfl) ?_
  refine lv_iconst (v := (-1)) hx hb dX1_compare_6 (by decide +kernel) ?_
  refine z_putI hx hb ht hown hK hP hD hS ziX1 tyX1 tyX1_ok nmX1 rfl 46 (by decide) 1 (by decide) hw_2_36 rfl (v := (-1)) rfl rfl rfl (Nat.le_of_ble_eq_true rfl) rfl dX1_compare_7 (fun H locs hP hD hS => ?_)
  have hI_2 := xInv_I hI_1 46 1 ((-1)) (zR_any ((-1))) rfl
  refine lv_aload_n hx hb dX1_compare_10 rfl (lv_at hl 0 rfl) ?_
  refine lv_iconst (v := nI 0) hx hb dX1_compare_11 (by decide +kernel) ?_
  refine z_putI hx hb ht hown hK hP hD hS ziX1 tyX1 tyX1_ok nmX1 rfl 46 (by decide) 2 (by decide) hw_2_38 rfl (v := nI 0) rfl rfl rfl (Nat.le_of_ble_eq_true rfl) rfl dX1_compare_12 (fun H locs hP hD hS => ?_)
  have hI_3 := xInv_I hI_2 46 2 (nI 0) (zR_any (nI 0)) rfl
  refine lv_aload_n hx hb dX1_compare_15 rfl (lv_at hl 2 rfl) ?_
  refine z_callVi (k := 15) (As := []) (rest := []) hx hb hml hown ht (xk_X9_openPapers l D q cA F _ _ _ hI_3 ) hw_5_78 hmX9_openPapers ⟨rfl, rfl⟩ (na := 0) rfl (by decide +kernel) (by decide) (by decide) rfl rfl hK hP hD hS hA hl.1 rfl (Nat.le_of_ble_eq_true rfl) ⟨Nat.zero_le _, Nat.zero_le _⟩ dX1_compare_16 (fun r_4 I_4 R_4 J_4 H locs hp_4 hP hD hS _ _ => ?_)
  obtain ⟨hr_4, hu_4⟩ := hp_4
  cases hu_4
  refine lv_istore_n (lv' := [(3, .int (r_4)), (0, .ref (q 46)), (1, .ref (q 75)), (2, .ref (q 15))]) hx hb dX1_compare_19 rfl hl (by decide) rfl (fun ls hl => ?_)
  refine lv_iconst (v := nI 0) hx hb dX1_compare_20 (by decide +kernel) ?_
  refine lv_istore (lv' := [(4, .int (nI 0)), (3, .int (r_4)), (0, .ref (q 46)), (1, .ref (q 75)), (2, .ref (q 15))]) hx hb dX1_compare_21 hl (by decide) rfl (fun ls hl => ?_)
  have loop_195 : ∀ N : Nat, ∀ x_191 : Int32, zR 0 16777215 x_191 → ∀ x_192 : Int32, zR 0 60 x_192 → ∀ I_193 : Nat → Nat → Int32, xInv F (I_193, R, J) → (xFour (x_192)) → (2147483648 - (x_192).toInt).toNat < N → ∀ (H : Heap) (locs : List Loc), va_P D vwCl (zw 81 q (zXd q cA) I_193 R J) H → va_D (zA 81 q sz) (zw 81 q (zXd q cA) I_193 R J) → va_S (zA 81 q sz) s.heap H locs → ∀ ls : Array Slot, lv_has ls 9 [(0, .ref (q 46)), (1, .ref (q 75)), (2, .ref (q 15)), (3, .int (x_191)), (4, .int (x_192))] → W p l e ({ frames := 2, cells := 0, slots := 0, locals := 45 } : Room) s m ([.ref (q 46), .ref (q 75), .ref (q 15)] : List Value).toArray below meth c H locs 0 0 (MQ below (va_Qv (fun u => xInv F u) (zB D vwCl 81 q (zXd q cA) sz) (zA 81 q sz)) ([.ref (q 46), .ref (q 75), .ref (q 15)] : List Value).toArray s 0 0 (zA 81 q sz)) (F0 m 23 ls []) := by
    intro N
    induction N with
    | zero => intro x_191 hx_191 x_192 hx_192 I_193 hI_193 hx_194 hN; exact absurd hN (Nat.not_lt_zero _)
    | succ N ih_197 =>
      intro x_191 hx_191 x_192 hx_192 I_193 hI_193 hx_194 hN_196 H locs hP hD hS ls hl
      refine lv_iload hx hb dX1_compare_23 (lv_at hl 4 rfl) ?_
      refine lv_iconst (v := nI 4) hx hb dX1_compare_25 (by decide +kernel) ?_
      refine lv_iadd hx hb dX1_compare_26 ?_
      refine z_addc 4 64 hx_192 zk_4 (by decide) (fun v_198 hv_198 mv_198 => ?_)
      refine lv_aload_n hx hb dX1_compare_27 rfl (lv_at hl 1 rfl) ?_
      refine z_get hx hb ht hown hK hP ziX6 rfl 75 (by decide) 1 (by decide) hw_2_80 rfl (v := .int (I_193 75 1)) rfl dX1_compare_28 ?_
      have f_199 : zR (-1) 60 (I_193 75 1) := xI hI_193 75 1
      refine lv_icmp_gt (tgt := 182) hx hb dX1_compare_31 (by decide) (fun c_200 => ?_) (fun c_200 => ?_)
      · have t_c_200 := z_ltT c_200
        exact z_vret hx hb hr hlocks hP hD hS dX1_compare_182 hI_193
      · have t_c_200 := z_ltF c_200
        have f_201 : zR 4 60 (v_198) := zR_lex t_c_200 hv_198 f_199 (by decide)
        have f_202 : zR 0 56 (x_192) := zR_shift mv_198 f_201 (by decide)
        have f_203 : zR 4 60 (I_193 75 1) := zR_ley t_c_200 hv_198 f_199 (by decide)
        refine lv_aload_n hx hb dX1_compare_34 rfl (lv_at hl 1 rfl) ?_
        refine lv_iload hx hb dX1_compare_35 (lv_at hl 4 rfl) ?_
        refine lv_aload_n hx hb dX1_compare_37 rfl (lv_at hl 2 rfl) ?_
        refine z_callSi (As := [.ref (q 75), .int (x_192), .ref (q 15)]) (rest := []) hx hb hml hown ht (xk_X1_alike_5 l D q cA F _ _ _ hI_193 (x_192) f_202) hw_5_79 hmX1_alike ⟨rfl, rfl⟩ (na := 3) rfl (by decide +kernel) (by decide) hK hP hD hS hA hl.1 rfl (Nat.le_of_ble_eq_true rfl) ⟨Nat.zero_le _, Nat.zero_le _⟩ dX1_compare_38 (fun r_204 I_204 R_204 J_204 H locs hp_204 hP hD hS _ _ => ?_)
        obtain ⟨hr_204, hu_204⟩ := hp_204
        cases hu_204
        refine lv_istore (lv' := [(5, .int (r_204)), (0, .ref (q 46)), (1, .ref (q 75)), (2, .ref (q 15)), (3, .int (x_191)), (4, .int (x_192))]) hx hb dX1_compare_41 hl (by decide) rfl (fun ls hl => ?_)
        refine lv_aload_n hx hb dX1_compare_43 rfl (lv_at hl 2 rfl) ?_
        refine z_get hx hb ht hown hK hP ziX6 rfl 75 (by decide) 2 (by decide) hw_2_83 rfl (v := .ref (q 76)) rfl dX1_compare_44 ?_
        refine lv_iload hx hb dX1_compare_47 (lv_at hl 5 rfl) ?_
        refine lv_iconst (v := nI 1) hx hb dX1_compare_49 (by decide +kernel) ?_
        refine lv_iadd hx hb dX1_compare_50 ?_
        refine z_addc 1 57 f_202 zk_1 (by decide) (fun v_205 hv_205 mv_205 => ?_)
        have f_206 : zL 0 5 (J 76 (v_205).toNatClampNeg) := xSound_at hs hx_194 mv_205 mv_198 t_c_200 (xFr hI_193 75 1 rfl)
        refine z_lald hx hb hK hP 76 (by decide) 54 rfl rfl (zR_vin hv_205 (by decide)) dX1_compare_51 ?_
        refine z_eql (y := J 76 (v_205).toNatClampNeg) rfl ?_
        refine lv_l2i hx hb dX1_compare_52 rfl ?_
        refine z_rng (a := 0) (b := 5) (zL_l2i f_206 (by decide)) (fun v_207 hv_207 => ?_)
        refine lv_istore (lv' := [(6, .int (v_207)), (5, .int (r_204)), (0, .ref (q 46)), (1, .ref (q 75)), (2, .ref (q 15)), (3, .int (x_191)), (4, .int (x_192))]) hx hb dX1_compare_53 hl (by decide) rfl (fun ls hl => ?_)
        refine lv_aload_n hx hb dX1_compare_55 rfl (lv_at hl 3 rfl) ?_
        refine z_get hx hb ht hown hK hP ziX6 rfl 75 (by decide) 2 (by decide) hw_2_83 rfl (v := .ref (q 76)) rfl dX1_compare_56 ?_
        refine lv_iload hx hb dX1_compare_59 (lv_at hl 6 rfl) ?_
        refine lv_iconst (v := nI 2) hx hb dX1_compare_61 (by decide +kernel) ?_
        refine lv_iadd hx hb dX1_compare_62 ?_
        refine z_addc 2 58 f_202 zk_2 (by decide) (fun v_208 hv_208 mv_208 => ?_)
        refine z_lald hx hb hK hP 76 (by decide) 54 rfl rfl (zR_vin hv_208 (by decide)) dX1_compare_63 ?_
        refine z_eql (y := J 76 (v_208).toNatClampNeg) rfl ?_
        refine lv_aload_n hx hb dX1_compare_64 rfl (lv_at hl 4 rfl) ?_
        refine z_get hx hb ht hown hK hP ziX9 rfl 15 (by decide) 0 (by decide) hw_1_155 rfl (v := .ref (q 3)) rfl dX1_compare_65 ?_
        refine z_get hx hb ht hown hK hP ziX2 rfl 3 (by decide) 9 (by decide) hw_1_105 rfl (v := .ref (q 6)) rfl dX1_compare_68 ?_
        refine lv_iload hx hb dX1_compare_71 (lv_at hl 0 rfl) ?_
        refine z_iald hx hb hK hP 6 (by decide) 3 rfl rfl (zR_vin hv_207 (by decide)) dX1_compare_73 ?_
        refine z_eqi (y := R 6 (v_207).toNatClampNeg) rfl ?_
        refine lv_i2l (v := (R 6 (v_207).toNatClampNeg).toInt64) hx hb dX1_compare_74 rfl ?_
        refine W.lcmp hx hb dX1_compare_75 ?_
        have t_212 : ∀ x_211 : Int32, zR 0 1 x_211 → ∀ (H : Heap) (locs : List Loc), va_P D vwCl (zw 81 q (zXd q cA) I_193 R J) H → va_D (zA 81 q sz) (zw 81 q (zXd q cA) I_193 R J) → va_S (zA 81 q sz) s.heap H locs → ∀ ls : Array Slot, lv_has ls 9 [(0, .ref (q 46)), (1, .ref (q 75)), (2, .ref (q 15)), (3, .int (x_191)), (4, .int (x_192)), (5, .int (r_204)), (6, .int (v_207))] → W p l e ({ frames := 2, cells := 0, slots := 0, locals := 45 } : Room) s m ([.ref (q 46), .ref (q 75), .ref (q 15)] : List Value).toArray below meth c H locs 0 0 (MQ below (va_Qv (fun u => xInv F u) (zB D vwCl 81 q (zXd q cA) sz) (zA 81 q sz)) ([.ref (q 46), .ref (q 75), .ref (q 15)] : List Value).toArray s 0 0 (zA 81 q sz)) (F0 m 84 ls [.int (x_211)]) := by
          intro x_211 hx_211 H locs hP hD hS ls hl
          refine lv_istore (lv' := [(7, .int (x_211)), (0, .ref (q 46)), (1, .ref (q 75)), (2, .ref (q 15)), (3, .int (x_191)), (4, .int (x_192)), (5, .int (r_204)), (6, .int (v_207))]) hx hb dX1_compare_84 hl (by decide) rfl (fun ls hl => ?_)
          refine lv_iload hx hb dX1_compare_86 (lv_at hl 0 rfl) ?_
          have t_218 : ∀ x_217 : Int32, zR 0 16777215 x_217 → ∀ (H : Heap) (locs : List Loc), va_P D vwCl (zw 81 q (zXd q cA) I_193 R J) H → va_D (zA 81 q sz) (zw 81 q (zXd q cA) I_193 R J) → va_S (zA 81 q sz) s.heap H locs → ∀ ls : Array Slot, lv_has ls 9 [(0, .ref (q 46)), (1, .ref (q 75)), (2, .ref (q 15)), (3, .int (x_191)), (4, .int (x_192)), (5, .int (r_204)), (6, .int (v_207)), (7, .int (x_211))] → W p l e ({ frames := 2, cells := 0, slots := 0, locals := 45 } : Room) s m ([.ref (q 46), .ref (q 75), .ref (q 15)] : List Value).toArray below meth c H locs 0 0 (MQ below (va_Qv (fun u => xInv F u) (zB D vwCl 81 q (zXd q cA) sz) (zA 81 q sz)) ([.ref (q 46), .ref (q 75), .ref (q 15)] : List Value).toArray s 0 0 (zA 81 q sz)) (F0 m 99 ls [.int (x_217)]) := by
            intro x_217 hx_217 H locs hP hD hS ls hl
            refine lv_istore (lv' := [(8, .int (x_217)), (0, .ref (q 46)), (1, .ref (q 75)), (2, .ref (q 15)), (3, .int (x_191)), (4, .int (x_192)), (5, .int (r_204)), (6, .int (v_207)), (7, .int (x_211))]) hx hb dX1_compare_99 hl (by decide) rfl (fun ls hl => ?_)
            refine lv_iload hx hb dX1_compare_101 (lv_at hl 0 rfl) ?_
            have t_245 : ∀ x_242 : Int32, zR 0 16777215 x_242 → ∀ I_243 : Nat → Nat → Int32, xInv F (I_243, R, J) → zR 4 60 (I_243 75 1) → ∀ (H : Heap) (locs : List Loc), va_P D vwCl (zw 81 q (zXd q cA) I_243 R J) H → va_D (zA 81 q sz) (zw 81 q (zXd q cA) I_243 R J) → va_S (zA 81 q sz) s.heap H locs → ∀ ls : Array Slot, lv_has ls 9 [(0, .ref (q 46)), (1, .ref (q 75)), (2, .ref (q 15)), (3, .int (x_242)), (4, .int (x_192)), (5, .int (r_204)), (6, .int (v_207)), (7, .int (x_211)), (8, .int (x_217))] → W p l e ({ frames := 2, cells := 0, slots := 0, locals := 45 } : Room) s m ([.ref (q 46), .ref (q 75), .ref (q 15)] : List Value).toArray below meth c H locs 0 0 (MQ below (va_Qv (fun u => xInv F u) (zB D vwCl 81 q (zXd q cA) sz) (zA 81 q sz)) ([.ref (q 46), .ref (q 75), .ref (q 15)] : List Value).toArray s 0 0 (zA 81 q sz)) (F0 m 176 ls []) := by
              intro x_242 hx_242 I_243 hI_243 g_244 H locs hP hD hS ls hl
              obtain ⟨v_246, ev_246⟩ : ∃ y : Int32, y = x_192 + nI 4 := ⟨_, rfl⟩
              have hv_246 : zR 4 60 v_246 := ev_246 ▸ zR_add f_202 zk_4 (by decide)
              have mv_246 : v_246.toInt = (x_192).toInt + 4 := by rw [ev_246, zR_addE f_202 zk_4 (by decide)]; rfl
              refine lv_iinc (v := v_246) (lv' := [(4, .int (v_246)), (0, .ref (q 46)), (1, .ref (q 75)), (2, .ref (q 15)), (3, .int (x_242)), (5, .int (r_204)), (6, .int (v_207)), (7, .int (x_211)), (8, .int (x_217))]) hx hb dX1_compare_176 hl (k := 4) rfl (ev_246 ▸ rfl) (by decide) rfl (fun ls hl => ?_)
              refine lv_goto (tgt := 23) hx hb dX1_compare_179 (by decide) ?_
              exact ih_197 (x_242) hx_242 (v_246) (zR_w hv_246 (by decide)) _ hI_243 (xFour_s hx_194 mv_246) (z2_up mv_246 (by decide) hN_196) _ _ hP hD hS _ (lv_sub hl [1, 2, 3, 4, 0] rfl)
            refine lv_if_eq (tgt := 120) hx hb dX1_compare_103 (by decide) (fun c_219 => ?_) (fun c_219 => ?_)
            · have t_c_219 := z_eqT c_219
              have f_247 : zR 0 0 (x_217) := zR_eqx t_c_219 zk_z
              refine lv_aload_n hx hb dX1_compare_120 rfl (lv_at hl 1 rfl) ?_
              refine lv_aload_n hx hb dX1_compare_121 rfl (lv_at hl 1 rfl) ?_
              refine z_get hx hb ht hown hK hP ziX1 rfl 46 (by decide) 0 (by decide) hw_2_34 rfl (v := .int (I_193 46 0)) rfl dX1_compare_122 ?_
              have t_252 : ∀ x_251 : Int32, ∀ (H : Heap) (locs : List Loc), va_P D vwCl (zw 81 q (zXd q cA) I_193 R J) H → va_D (zA 81 q sz) (zw 81 q (zXd q cA) I_193 R J) → va_S (zA 81 q sz) s.heap H locs → ∀ ls : Array Slot, lv_has ls 9 [(0, .ref (q 46)), (1, .ref (q 75)), (2, .ref (q 15)), (3, .int (x_191)), (4, .int (x_192)), (5, .int (r_204)), (6, .int (v_207)), (7, .int (x_211)), (8, .int (x_217))] → W p l e ({ frames := 2, cells := 0, slots := 0, locals := 45 } : Room) s m ([.ref (q 46), .ref (q 75), .ref (q 15)] : List Value).toArray below meth c H locs 0 0 (MQ below (va_Qv (fun u => xInv F u) (zB D vwCl 81 q (zXd q cA) sz) (zA 81 q sz)) ([.ref (q 46), .ref (q 75), .ref (q 15)] : List Value).toArray s 0 0 (zA 81 q sz)) (F0 m 139 ls [.int (x_251), .ref (q 46)]) := by
                intro x_251 H locs hP hD hS ls hl
                refine z_putI hx hb ht hown hK hP hD hS ziX1 tyX1 tyX1_ok nmX1 rfl 46 (by decide) 1 (by decide) hw_2_36 rfl (v := x_251) rfl rfl rfl (Nat.le_of_ble_eq_true rfl) rfl dX1_compare_139 (fun H locs hP hD hS => ?_)
                have hI_253 := xInv_I hI_193 46 1 (x_251) (zR_any (x_251)) rfl
                refine lv_aload_n hx hb dX1_compare_142 rfl (lv_at hl 0 rfl) ?_
                refine lv_dup hx hb dX1_compare_143 rfl ?_
                refine z_get hx hb ht hown hK hP ziX1 rfl 46 (by decide) 0 (by decide) hw_2_34 rfl (v := .int (I_193 46 0)) rfl dX1_compare_144 ?_
                refine lv_iconst (v := nI 1) hx hb dX1_compare_147 (by decide +kernel) ?_
                refine lv_iadd hx hb dX1_compare_148 ?_
                refine z_any (fun v_254 => ?_)
                refine z_putI hx hb ht hown hK hP hD hS ziX1 tyX1 tyX1_ok nmX1 rfl 46 (by decide) 0 (by decide) hw_2_34 rfl (v := v_254) rfl rfl rfl (Nat.le_of_ble_eq_true rfl) rfl dX1_compare_149 (fun H locs hP hD hS => ?_)
                have hI_255 := xInv_I hI_253 46 0 (v_254) (zR_any (v_254)) rfl
                refine lv_aload_n hx hb dX1_compare_152 rfl (lv_at hl 0 rfl) ?_
                refine lv_dup hx hb dX1_compare_153 rfl ?_
                refine z_get hx hb ht hown hK hP ziX1 rfl 46 (by decide) 2 (by decide) hw_2_38 rfl (v := .int (I_193 46 2)) rfl dX1_compare_154 ?_
                refine lv_iload hx hb dX1_compare_157 (lv_at hl 7 rfl) ?_
                have t_263 : ∀ x_262 : Int32, zR 0 1 x_262 → ∀ (H : Heap) (locs : List Loc), va_P D vwCl (zw 81 q (zXd q cA) (zp (zp I_193 46 1 (x_251)) 46 0 (v_254)) R J) H → va_D (zA 81 q sz) (zw 81 q (zXd q cA) (zp (zp I_193 46 1 (x_251)) 46 0 (v_254)) R J) → va_S (zA 81 q sz) s.heap H locs → ∀ ls : Array Slot, lv_has ls 9 [(0, .ref (q 46)), (1, .ref (q 75)), (2, .ref (q 15)), (3, .int (x_191)), (4, .int (x_192)), (5, .int (r_204)), (6, .int (v_207)), (7, .int (x_211)), (8, .int (x_217))] → W p l e ({ frames := 2, cells := 0, slots := 0, locals := 45 } : Room) s m ([.ref (q 46), .ref (q 75), .ref (q 15)] : List Value).toArray below meth c H locs 0 0 (MQ below (va_Qv (fun u => xInv F u) (zB D vwCl 81 q (zXd q cA) sz) (zA 81 q sz)) ([.ref (q 46), .ref (q 75), .ref (q 15)] : List Value).toArray s 0 0 (zA 81 q sz)) (F0 m 172 ls [.int (x_262), .int (I_193 46 2), .ref (q 46)]) := by
                  intro x_262 hx_262 H locs hP hD hS ls hl
                  refine lv_iadd hx hb dX1_compare_172 ?_
                  refine z_any (fun v_264 => ?_)
                  refine z_putI hx hb ht hown hK hP hD hS ziX1 tyX1 tyX1_ok nmX1 rfl 46 (by decide) 2 (by decide) hw_2_38 rfl (v := v_264) rfl rfl rfl (Nat.le_of_ble_eq_true rfl) rfl dX1_compare_173 (fun H locs hP hD hS => ?_)
                  have hI_265 := xInv_I hI_255 46 2 (v_264) (zR_any (v_264)) rfl
                  exact t_245 (x_191) hx_191 _ hI_265 f_203 _ _ hP hD hS _ (lv_sub hl [0, 1, 2, 3, 4, 5, 6, 7, 8] rfl)
                refine lv_if_ne (tgt := 171) hx hb dX1_compare_159 (by decide) (fun c_256 => ?_) (fun c_256 => ?_)
                · have t_c_256 := z_eqF c_256
                  have f_266 : zR 1 1 (x_211) := zR_nex t_c_256 hx_211 zk_z (by decide)
                  refine lv_iconst (v := nI 0) hx hb dX1_compare_171 (by decide +kernel) ?_
                  exact t_263 (nI 0) (zR_w zk_0 (by decide)) _ _ hP hD hS _ (lv_sub hl [0, 1, 2, 3, 4, 5, 6, 7, 8] rfl)
                · have t_c_256 := z_eqT c_256
                  have f_267 : zR 0 0 (x_211) := zR_eqx t_c_256 zk_z
                  refine lv_iload hx hb dX1_compare_162 (lv_at hl 5 rfl) ?_
                  refine lv_if_eq (tgt := 171) hx hb dX1_compare_164 (by decide) (fun c_268 => ?_) (fun c_268 => ?_)
                  · have t_c_268 := z_eqT c_268
                    have f_269 : zR 0 0 (r_204) := zR_eqx t_c_268 zk_z
                    refine lv_iconst (v := nI 0) hx hb dX1_compare_171 (by decide +kernel) ?_
                    exact t_263 (nI 0) (zR_w zk_0 (by decide)) _ _ hP hD hS _ (lv_sub hl [0, 1, 2, 3, 4, 5, 6, 7, 8] rfl)
                  · have t_c_268 := z_eqF c_268
                    have f_270 : zR 1 16777215 (r_204) := zR_nex t_c_268 hr_204 zk_z (by decide)
                    refine lv_iconst (v := nI 1) hx hb dX1_compare_167 (by decide +kernel) ?_
                    refine lv_goto (tgt := 172) hx hb dX1_compare_168 (by decide) ?_
                    exact t_263 (nI 1) (zR_w zk_1 (by decide)) _ _ hP hD hS _ (lv_sub hl [0, 1, 2, 3, 4, 5, 6, 7, 8] rfl)
              refine lv_if_ne (tgt := 135) hx hb dX1_compare_125 (by decide) (fun c_248 => ?_) (fun c_248 => ?_)
              · have t_c_248 := z_eqF c_248
                refine lv_aload_n hx hb dX1_compare_135 rfl (lv_at hl 1 rfl) ?_
                refine z_get hx hb ht hown hK hP ziX1 rfl 46 (by decide) 1 (by decide) hw_2_36 rfl (v := .int (I_193 46 1)) rfl dX1_compare_136 ?_
                exact t_252 (I_193 46 1) _ _ hP hD hS _ (lv_sub hl [1, 2, 3, 4, 5, 6, 7, 8, 0] rfl)
              · have t_c_248 := z_eqT c_248
                have f_271 : zR 0 0 (I_193 46 0) := zR_eqx t_c_248 zk_z
                refine lv_iload hx hb dX1_compare_128 (lv_at hl 5 rfl) ?_
                refine lv_iconst (v := nI 4) hx hb dX1_compare_130 (by decide +kernel) ?_
                refine lv_idiv hx hb dX1_compare_131 (by decide +kernel) ?_
                refine z_rng (a := 0) (b := 14) (zR_divc f_202 zk_4 (by decide)) (fun v_272 hv_272 => ?_)
                refine lv_goto (tgt := 139) hx hb dX1_compare_132 (by decide) ?_
                exact t_252 (v_272) _ _ hP hD hS _ (lv_sub hl [1, 2, 3, 4, 5, 6, 7, 8, 0] rfl)
            · have t_c_219 := z_eqF c_219
              have f_273 : zR 1 16777215 (x_217) := zR_nex t_c_219 hx_217 zk_z (by decide)
              refine lv_iload_n hx hb dX1_compare_106 rfl (lv_at hl 4 rfl) ?_
              refine lv_iload hx hb dX1_compare_107 (lv_at hl 0 rfl) ?_
              refine lv_iload hx hb dX1_compare_109 (lv_at hl 0 rfl) ?_
              refine lv_ineg hx hb dX1_compare_111 ?_
              refine z_any (fun v_274 => ?_)
              refine lv_iand hx hb dX1_compare_112 ?_
              refine z_rng (a := 0) (b := 16777215) (zR_andl f_273 (by decide)) (fun v_275 hv_275 => ?_)
              refine lv_iconst (v := (-1)) hx hb dX1_compare_113 (by decide +kernel) ?_
              refine lv_ixor hx hb dX1_compare_114 ?_
              refine z_any (fun v_276 => ?_)
              refine lv_iand hx hb dX1_compare_115 ?_
              refine z_rng (a := 0) (b := 16777215) (zR_andl hx_191 (by decide)) (fun v_277 hv_277 => ?_)
              refine lv_istore_n (lv' := [(3, .int (v_277)), (8, .int (x_217)), (0, .ref (q 46)), (1, .ref (q 75)), (2, .ref (q 15)), (4, .int (x_192)), (5, .int (r_204)), (6, .int (v_207)), (7, .int (x_211))]) hx hb dX1_compare_116 rfl hl (by decide) rfl (fun ls hl => ?_)
              refine lv_goto (tgt := 176) hx hb dX1_compare_117 (by decide) ?_
              exact t_245 (v_277) hv_277 _ hI_193 f_203 _ _ hP hD hS _ (lv_sub hl [2, 3, 4, 0, 5, 6, 7, 8, 1] rfl)
          refine lv_if_eq (tgt := 98) hx hb dX1_compare_88 (by decide) (fun c_213 => ?_) (fun c_213 => ?_)
          · have t_c_213 := z_eqT c_213
            have f_278 : zR 0 0 (x_211) := zR_eqx t_c_213 zk_z
            refine lv_iconst (v := nI 0) hx hb dX1_compare_98 (by decide +kernel) ?_
            exact t_218 (nI 0) (zR_w zk_0 (by decide)) _ _ hP hD hS _ (lv_sub hl [1, 2, 3, 4, 5, 6, 7, 0] rfl)
          · have t_c_213 := z_eqF c_213
            have f_279 : zR 1 1 (x_211) := zR_nex t_c_213 hx_211 zk_z (by decide)
            refine lv_iload hx hb dX1_compare_91 (lv_at hl 6 rfl) ?_
            refine lv_iload_n hx hb dX1_compare_93 rfl (lv_at hl 4 rfl) ?_
            refine lv_iand hx hb dX1_compare_94 ?_
            refine z_rng (a := 0) (b := 16777215) (zR_andr hx_191 (by decide)) (fun v_280 hv_280 => ?_)
            refine lv_goto (tgt := 99) hx hb dX1_compare_95 (by decide) ?_
            exact t_218 (v_280) hv_280 _ _ hP hD hS _ (lv_sub hl [1, 2, 3, 4, 5, 6, 7, 0] rfl)
        refine lv_if_ne (tgt := 83) hx hb dX1_compare_76 (by decide) (fun c_209 => ?_) (fun c_209 => ?_)
        · have t_c_209 := z_leqF (fun h => c_209 ((lg_cmp_eq _ _).mpr h))
          refine lv_iconst (v := nI 0) hx hb dX1_compare_83 (by decide +kernel) ?_
          exact t_212 (nI 0) (zR_w zk_0 (by decide)) _ _ hP hD hS _ (lv_sub hl [2, 3, 4, 5, 6, 1, 0] rfl)
        · have t_c_209 := z_leqT ((lg_cmp_eq _ _).mp c_209)
          have f_281 : zL (-2147483648) 2147483647 (J 76 (v_208).toNatClampNeg) := zL_eqx t_c_209 (zR_i2l (zR_any (R 6 (v_207).toNatClampNeg)))
          refine lv_iconst (v := nI 1) hx hb dX1_compare_79 (by decide +kernel) ?_
          refine lv_goto (tgt := 84) hx hb dX1_compare_80 (by decide) ?_
          exact t_212 (nI 1) (zR_w zk_1 (by decide)) _ _ hP hD hS _ (lv_sub hl [2, 3, 4, 5, 6, 1, 0] rfl)
  exact loop_195 _ (r_4) hr_4 (nI 0) (zR_w zk_0 (by decide)) _ hI_3 xFour_0 (Nat.lt_succ_self _) _ _ hP hD hS _ (lv_sub hl [2, 3, 4, 1, 0] rfl)
set_option maxHeartbeats 4000000 in
set_option maxRecDepth 100000 in
theorem xk_X6_isThere_2 (l : Launch) (D : va_G) (q : Nat → Nat) (cA : Nat → ClassId) (F : Nat → Nat → Int32) (I R : Nat → Nat → Int32) (J : Nat → Nat → Int64) (hI : xInv F (I, R, J))  : zMi l D vwCl (zXtys cA) 81 q (zXd q cA) yX6_isThere cX6_isThere 1 (some .boolean) ({ frames := 0, cells := 0, slots := 0, locals := 0 } : Room) [.ref (q 77)] (I, R, J) (fun r u => (r = nI 1 ∧ u = (I, R, J) ∧ (I 77 1).toInt ≠ -1) ∨ (r = nI 0 ∧ u = (I, R, J) ∧ (I 77 1).toInt = -1)) := by
  intro sz
  refine z_body (by decide +kernel) (Nat.le_of_ble_eq_true rfl) (fun p e s m below meth c ls hx hb hml hr ht hown hlocks hsz hK hP hD hS hl => ?_)
  have hA : ∀ a, s.heap.size ≤ a → zA 81 q sz a := fun a h => Or.inr (hsz ▸ h)
  have hl : lv_has ls 1 [(0, .ref (q 77))] := hl
  refine lv_aload_n hx hb dX6_isThere_0 rfl (lv_at hl 0 rfl) ?_
  refine z_get hx hb ht hown hK hP ziX6 rfl 77 (by decide) 1 (by decide) hw_2_79 rfl (v := .int (I 77 1)) rfl dX6_isThere_1 ?_
  have f_1 : zR (-1) 60 (I 77 1) := xI hI 77 1
  refine lv_iconst (v := (-1)) hx hb dX6_isThere_4 (by decide +kernel) ?_
  refine lv_icmp_eq (tgt := 12) hx hb dX6_isThere_5 (by decide) (fun c_2 => ?_) (fun c_2 => ?_)
  · have t_c_2 := z_eqT c_2
    have f_3 : zR (-1) (-1) (I 77 1) := zR_eqx t_c_2 zk_m1
    refine lv_iconst (v := nI 0) hx hb dX6_isThere_12 (by decide +kernel) ?_
    exact z_zret (v := nI 0) hx hb hr hlocks hP hD hS (by decide +kernel) dX6_isThere_13 (Or.inr ⟨rfl, rfl, t_c_2.trans (by decide +kernel)⟩)
  · have t_c_2 := z_eqF c_2
    have f_4 : zR 0 60 (I 77 1) := zR_nex t_c_2 f_1 zk_m1 (by decide)
    refine lv_iconst (v := nI 1) hx hb dX6_isThere_8 (by decide +kernel) ?_
    refine lv_goto (tgt := 13) hx hb dX6_isThere_9 (by decide) ?_
    exact z_zret (v := nI 1) hx hb hr hlocks hP hD hS (by decide +kernel) dX6_isThere_13 (Or.inl ⟨rfl, rfl, fun h => t_c_2 (h.trans (by decide +kernel))⟩)
set_option maxHeartbeats 4000000 in
set_option maxRecDepth 100000 in
theorem xk_X1_isSound_2 (l : Launch) (D : va_G) (q : Nat → Nat) (cA : Nat → ClassId) (F : Nat → Nat → Int32) (I R : Nat → Nat → Int32) (J : Nat → Nat → Int64) (hI : xInv F (I, R, J))  : zMi l D vwCl (zXtys cA) 81 q (zXd q cA) yX1_isSound cX1_isSound 4 (some .boolean) ({ frames := 1, cells := 0, slots := 0, locals := 23 } : Room) [.ref (q 46), .ref (q 77), .ref (q 3)] (I, R, J) (fun r u => (r = nI 1 ∧ u = (I, R, J) ∧ xSound (J 78) (F 77 1)) ∨ (r = nI 0 ∧ u = (I, R, J) ∧ True)) := by
  intro sz
  refine z_body (by decide +kernel) (Nat.le_of_ble_eq_true rfl) (fun p e s m below meth c ls hx hb hml hr ht hown hlocks hsz hK hP hD hS hl => ?_)
  have hA : ∀ a, s.heap.size ≤ a → zA 81 q sz a := fun a h => Or.inr (hsz ▸ h)
  have hl : lv_has ls 4 [(0, .ref (q 46)), (1, .ref (q 77)), (2, .ref (q 3))] := hl
  refine lv_aload_n hx hb dX1_isSound_0 rfl (lv_at hl 1 rfl) ?_
  refine z_get hx hb ht hown hK hP ziX6 rfl 77 (by decide) 1 (by decide) hw_2_80 rfl (v := .int (I 77 1)) rfl dX1_isSound_1 ?_
  have f_1 : zR (-1) 60 (I 77 1) := xI hI 77 1
  refine lv_iconst (v := nI 4) hx hb dX1_isSound_4 (by decide +kernel) ?_
  refine lv_irem hx hb dX1_isSound_5 (by decide +kernel) ?_
  refine z_any (fun v_2 => ?_)
  refine lv_if_eq (tgt := 11) hx hb dX1_isSound_6 (by decide) (fun c_3 => ?_) (fun c_3 => ?_)
  · have t_c_3 := z_eqT c_3
    have f_4 : zR 0 0 (v_2) := zR_eqx t_c_3 zk_z
    refine lv_iconst (v := nI 0) hx hb dX1_isSound_11 (by decide +kernel) ?_
    refine lv_istore_n (lv' := [(3, .int (nI 0)), (0, .ref (q 46)), (1, .ref (q 77)), (2, .ref (q 3))]) hx hb dX1_isSound_12 rfl hl (by decide) rfl (fun ls hl => ?_)
    have loop_75 : ∀ N : Nat, ∀ x_73 : Int32, zR 0 60 x_73 → (xSnd (J 78) (x_73)) → (2147483648 - (x_73).toInt).toNat < N → ∀ (H : Heap) (locs : List Loc), va_P D vwCl (zw 81 q (zXd q cA) I R J) H → va_D (zA 81 q sz) (zw 81 q (zXd q cA) I R J) → va_S (zA 81 q sz) s.heap H locs → ∀ ls : Array Slot, lv_has ls 4 [(0, .ref (q 46)), (1, .ref (q 77)), (2, .ref (q 3)), (3, .int (x_73))] → W p l e ({ frames := 1, cells := 0, slots := 0, locals := 23 } : Room) s m ([.ref (q 46), .ref (q 77), .ref (q 3)] : List Value).toArray below meth c H locs 0 0 (MQ below (va_Qi (fun r u => (r = nI 1 ∧ u = (I, R, J) ∧ xSound (J 78) (F 77 1)) ∨ (r = nI 0 ∧ u = (I, R, J) ∧ True)) (zB D vwCl 81 q (zXd q cA) sz) (zA 81 q sz)) ([.ref (q 46), .ref (q 77), .ref (q 3)] : List Value).toArray s 0 0 (zA 81 q sz)) (F0 m 13 ls []) := by
      intro N
      induction N with
      | zero => intro x_73 hx_73 hx_74 hN; exact absurd hN (Nat.not_lt_zero _)
      | succ N ih_77 =>
        intro x_73 hx_73 hx_74 hN_76 H locs hP hD hS ls hl
        refine lv_iload_n hx hb dX1_isSound_13 rfl (lv_at hl 3 rfl) ?_
        refine lv_iconst (v := nI 4) hx hb dX1_isSound_14 (by decide +kernel) ?_
        refine lv_iadd hx hb dX1_isSound_15 ?_
        refine z_addc 4 64 hx_73 zk_4 (by decide) (fun v_78 hv_78 mv_78 => ?_)
        refine lv_aload_n hx hb dX1_isSound_16 rfl (lv_at hl 1 rfl) ?_
        refine z_get hx hb ht hown hK hP ziX6 rfl 77 (by decide) 1 (by decide) hw_2_80 rfl (v := .int (I 77 1)) rfl dX1_isSound_17 ?_
        refine lv_icmp_gt (tgt := 106) hx hb dX1_isSound_20 (by decide) (fun c_79 => ?_) (fun c_79 => ?_)
        · have t_c_79 := z_ltT c_79
          refine lv_iconst (v := nI 1) hx hb dX1_isSound_106 (by decide +kernel) ?_
          exact z_zret (v := nI 1) hx hb hr hlocks hP hD hS (by decide +kernel) dX1_isSound_107 (Or.inl ⟨rfl, rfl, (xFr hI 77 1 rfl) ▸ xSnd_end hx_74 mv_78 t_c_79⟩)
        · have t_c_79 := z_ltF c_79
          have f_80 : zR 4 60 (v_78) := zR_lex t_c_79 hv_78 f_1 (by decide)
          have f_81 : zR 0 56 (x_73) := zR_shift mv_78 f_80 (by decide)
          have f_82 : zR 4 60 (I 77 1) := zR_ley t_c_79 hv_78 f_1 (by decide)
          refine lv_aload_n hx hb dX1_isSound_23 rfl (lv_at hl 1 rfl) ?_
          refine z_get hx hb ht hown hK hP ziX6 rfl 77 (by decide) 2 (by decide) hw_2_83 rfl (v := .ref (q 78)) rfl dX1_isSound_24 ?_
          refine lv_iload_n hx hb dX1_isSound_27 rfl (lv_at hl 3 rfl) ?_
          refine z_lald hx hb hK hP 78 (by decide) 55 rfl rfl (zR_vin f_81 (by decide)) dX1_isSound_28 ?_
          refine z_eql (y := J 78 (x_73).toNatClampNeg) rfl ?_
          refine lv_iconst (v := nI 0) hx hb dX1_isSound_29 (by decide +kernel) ?_
          refine lv_aload_n hx hb dX1_isSound_30 rfl (lv_at hl 2 rfl) ?_
          refine z_get hx hb ht hown hK hP ziX2 rfl 3 (by decide) 4 (by decide) hw_1_82 rfl (v := .int (I 3 4)) rfl dX1_isSound_31 ?_
          have f_83 : zR 0 5 (I 3 4) := xI hI 3 4
          refine lv_iconst (v := nI 1) hx hb dX1_isSound_34 (by decide +kernel) ?_
          refine lv_isub hx hb dX1_isSound_35 ?_
          refine z_subc (-1) 4 (-1) f_83 zk_1 (by decide) (fun v_84 hv_84 mv_84 => ?_)
          refine z_callSi (As := [.long (J 78 (x_73).toNatClampNeg), .int (nI 0), .int (v_84)]) (rest := []) hx hb hml hown ht (xk_X1_isWithin l D q cA F _ _ _ hI (J 78 (x_73).toNatClampNeg) (nI 0) (zR_w zk_0 (by decide)) (v_84) hv_84) hw_5_71 hmX1_isWithin ⟨rfl, rfl⟩ (na := 3) rfl (by decide +kernel) (by decide) hK hP hD hS hA hl.1 rfl (Nat.le_of_ble_eq_true rfl) ⟨Nat.zero_le _, Nat.zero_le _⟩ dX1_isSound_36 (fun r_85 I_85 R_85 J_85 H locs hp_85 hP hD hS _ _ => ?_)
          rcases hp_85 with ⟨rfl, hu_85, f0_85, f2_85⟩ | ⟨rfl, hu_85⟩
          · cases hu_85
            refine lv_if_eq (tgt := 98) hx hb dX1_isSound_39 (by decide) (fun c_0 => absurd c_0 (zD_ne zk_1 zk_z (by decide))) (fun _ => ?_)
            refine lv_aload_n hx hb dX1_isSound_42 rfl (lv_at hl 1 rfl) ?_
            refine z_get hx hb ht hown hK hP ziX6 rfl 77 (by decide) 2 (by decide) hw_2_83 rfl (v := .ref (q 78)) rfl dX1_isSound_43 ?_
            refine lv_iload_n hx hb dX1_isSound_46 rfl (lv_at hl 3 rfl) ?_
            refine lv_iconst (v := nI 1) hx hb dX1_isSound_47 (by decide +kernel) ?_
            refine lv_iadd hx hb dX1_isSound_48 ?_
            refine z_addc 1 57 f_81 zk_1 (by decide) (fun v_86 hv_86 mv_86 => ?_)
            refine z_lald hx hb hK hP 78 (by decide) 55 rfl rfl (zR_vin hv_86 (by decide)) dX1_isSound_49 ?_
            refine z_eql (y := J 78 (v_86).toNatClampNeg) rfl ?_
            refine lv_iconst (v := nI 0) hx hb dX1_isSound_50 (by decide +kernel) ?_
            refine lv_aload_n hx hb dX1_isSound_51 rfl (lv_at hl 2 rfl) ?_
            refine z_get hx hb ht hown hK hP ziX2 rfl 3 (by decide) 5 (by decide) hw_1_88 rfl (v := .int (I 3 5)) rfl dX1_isSound_52 ?_
            have f_87 : zR 0 6 (I 3 5) := xI hI 3 5
            refine lv_iconst (v := nI 1) hx hb dX1_isSound_55 (by decide +kernel) ?_
            refine lv_isub hx hb dX1_isSound_56 ?_
            refine z_subc (-1) 5 (-1) f_87 zk_1 (by decide) (fun v_88 hv_88 mv_88 => ?_)
            refine z_callSi (As := [.long (J 78 (v_86).toNatClampNeg), .int (nI 0), .int (v_88)]) (rest := []) hx hb hml hown ht (xk_X1_isWithin_1 l D q cA F _ _ _ hI (J 78 (v_86).toNatClampNeg) (nI 0) (zR_w zk_0 (by decide)) (v_88) hv_88) hw_5_71 hmX1_isWithin ⟨rfl, rfl⟩ (na := 3) rfl (by decide +kernel) (by decide) hK hP hD hS hA hl.1 rfl (Nat.le_of_ble_eq_true rfl) ⟨Nat.zero_le _, Nat.zero_le _⟩ dX1_isSound_57 (fun r_89 I_89 R_89 J_89 H locs hp_89 hP hD hS _ _ => ?_)
            rcases hp_89 with ⟨rfl, hu_89, f0_89, f2_89⟩ | ⟨rfl, hu_89⟩
            · cases hu_89
              refine lv_if_eq (tgt := 98) hx hb dX1_isSound_60 (by decide) (fun c_0 => absurd c_0 (zD_ne zk_1 zk_z (by decide))) (fun _ => ?_)
              refine lv_aload_n hx hb dX1_isSound_63 rfl (lv_at hl 1 rfl) ?_
              refine z_get hx hb ht hown hK hP ziX6 rfl 77 (by decide) 2 (by decide) hw_2_83 rfl (v := .ref (q 78)) rfl dX1_isSound_64 ?_
              refine lv_iload_n hx hb dX1_isSound_67 rfl (lv_at hl 3 rfl) ?_
              refine lv_iconst (v := nI 2) hx hb dX1_isSound_68 (by decide +kernel) ?_
              refine lv_iadd hx hb dX1_isSound_69 ?_
              refine z_addc 2 58 f_81 zk_2 (by decide) (fun v_90 hv_90 mv_90 => ?_)
              refine z_lald hx hb hK hP 78 (by decide) 55 rfl rfl (zR_vin hv_90 (by decide)) dX1_isSound_70 ?_
              refine z_eql (y := J 78 (v_90).toNatClampNeg) rfl ?_
              refine lv_iconst (v := nI 0) hx hb dX1_isSound_71 (by decide +kernel) ?_
              refine lv_sipush (v := nI 9999) hx hb dX1_isSound_72 (by decide +kernel) ?_
              refine z_callSi (As := [.long (J 78 (v_90).toNatClampNeg), .int (nI 0), .int (nI 9999)]) (rest := []) hx hb hml hown ht (xk_X1_isWithin_2 l D q cA F _ _ _ hI (J 78 (v_90).toNatClampNeg) (nI 0) (zR_w zk_0 (by decide)) (nI 9999) (zR_w zk_9999 (by decide))) hw_5_71 hmX1_isWithin ⟨rfl, rfl⟩ (na := 3) rfl (by decide +kernel) (by decide) hK hP hD hS hA hl.1 rfl (Nat.le_of_ble_eq_true rfl) ⟨Nat.zero_le _, Nat.zero_le _⟩ dX1_isSound_75 (fun r_91 I_91 R_91 J_91 H locs hp_91 hP hD hS _ _ => ?_)
              rcases hp_91 with ⟨rfl, hu_91, f0_91⟩ | ⟨rfl, hu_91⟩
              · cases hu_91
                refine lv_if_eq (tgt := 98) hx hb dX1_isSound_78 (by decide) (fun c_0 => absurd c_0 (zD_ne zk_1 zk_z (by decide))) (fun _ => ?_)
                refine lv_aload_n hx hb dX1_isSound_81 rfl (lv_at hl 1 rfl) ?_
                refine z_get hx hb ht hown hK hP ziX6 rfl 77 (by decide) 2 (by decide) hw_2_83 rfl (v := .ref (q 78)) rfl dX1_isSound_82 ?_
                refine lv_iload_n hx hb dX1_isSound_85 rfl (lv_at hl 3 rfl) ?_
                refine lv_iconst (v := nI 3) hx hb dX1_isSound_86 (by decide +kernel) ?_
                refine lv_iadd hx hb dX1_isSound_87 ?_
                refine z_addc 3 59 f_81 zk_3 (by decide) (fun v_92 hv_92 mv_92 => ?_)
                refine z_lald hx hb hK hP 78 (by decide) 55 rfl rfl (zR_vin hv_92 (by decide)) dX1_isSound_88 ?_
                refine z_eql (y := J 78 (v_92).toNatClampNeg) rfl ?_
                refine lv_iconst (v := nI 1) hx hb dX1_isSound_89 (by decide +kernel) ?_
                refine lv_bipush (v := nI 60) hx hb dX1_isSound_90 (by decide +kernel) ?_
                refine z_callSi (As := [.long (J 78 (v_92).toNatClampNeg), .int (nI 1), .int (nI 60)]) (rest := []) hx hb hml hown ht (xk_X1_isWithin_3 l D q cA F _ _ _ hI (J 78 (v_92).toNatClampNeg) (nI 1) (zR_w zk_1 (by decide)) (nI 60) (zR_w zk_60 (by decide))) hw_5_71 hmX1_isWithin ⟨rfl, rfl⟩ (na := 3) rfl (by decide +kernel) (by decide) hK hP hD hS hA hl.1 rfl (Nat.le_of_ble_eq_true rfl) ⟨Nat.zero_le _, Nat.zero_le _⟩ dX1_isSound_92 (fun r_93 I_93 R_93 J_93 H locs hp_93 hP hD hS _ _ => ?_)
                rcases hp_93 with ⟨rfl, hu_93, f0_93⟩ | ⟨rfl, hu_93⟩
                · cases hu_93
                  refine lv_if_ne (tgt := 100) hx hb dX1_isSound_95 (by decide) (fun _ => ?_) (fun c_0 => absurd c_0 (zD_ne zk_1 zk_z (by decide)))
                  obtain ⟨v_94, ev_94⟩ : ∃ y : Int32, y = x_73 + nI 4 := ⟨_, rfl⟩
                  have hv_94 : zR 4 60 v_94 := ev_94 ▸ zR_add f_81 zk_4 (by decide)
                  have mv_94 : v_94.toInt = (x_73).toInt + 4 := by rw [ev_94, zR_addE f_81 zk_4 (by decide)]; rfl
                  refine lv_iinc (v := v_94) (lv' := [(3, .int (v_94)), (0, .ref (q 46)), (1, .ref (q 77)), (2, .ref (q 3))]) hx hb dX1_isSound_100 hl (k := 3) rfl (ev_94 ▸ rfl) (by decide) rfl (fun ls hl => ?_)
                  refine lv_goto (tgt := 13) hx hb dX1_isSound_103 (by decide) ?_
                  exact ih_77 (v_94) (zR_w hv_94 (by decide)) (xSnd_step hx_74 f0_89 mv_86 mv_94) (z2_up mv_94 (by decide) hN_76) _ _ hP hD hS _ (lv_sub hl [1, 2, 3, 0] rfl)
                · cases hu_93
                  refine lv_if_ne (tgt := 100) hx hb dX1_isSound_95 (by decide) (fun c_0 => absurd (zD_eq zk_0 zk_z) c_0) (fun _ => ?_)
                  refine lv_iconst (v := nI 0) hx hb dX1_isSound_98 (by decide +kernel) ?_
                  exact z_zret (v := nI 0) hx hb hr hlocks hP hD hS (by decide +kernel) dX1_isSound_99 (Or.inr ⟨rfl, rfl, trivial⟩)
              · cases hu_91
                refine lv_if_eq (tgt := 98) hx hb dX1_isSound_78 (by decide) (fun _ => ?_) (fun c_0 => absurd (zD_eq zk_0 zk_z) c_0)
                refine lv_iconst (v := nI 0) hx hb dX1_isSound_98 (by decide +kernel) ?_
                exact z_zret (v := nI 0) hx hb hr hlocks hP hD hS (by decide +kernel) dX1_isSound_99 (Or.inr ⟨rfl, rfl, trivial⟩)
            · cases hu_89
              refine lv_if_eq (tgt := 98) hx hb dX1_isSound_60 (by decide) (fun _ => ?_) (fun c_0 => absurd (zD_eq zk_0 zk_z) c_0)
              refine lv_iconst (v := nI 0) hx hb dX1_isSound_98 (by decide +kernel) ?_
              exact z_zret (v := nI 0) hx hb hr hlocks hP hD hS (by decide +kernel) dX1_isSound_99 (Or.inr ⟨rfl, rfl, trivial⟩)
          · cases hu_85
            refine lv_if_eq (tgt := 98) hx hb dX1_isSound_39 (by decide) (fun _ => ?_) (fun c_0 => absurd (zD_eq zk_0 zk_z) c_0)
            refine lv_iconst (v := nI 0) hx hb dX1_isSound_98 (by decide +kernel) ?_
            exact z_zret (v := nI 0) hx hb hr hlocks hP hD hS (by decide +kernel) dX1_isSound_99 (Or.inr ⟨rfl, rfl, trivial⟩)
    exact loop_75 _ (nI 0) (zR_w zk_0 (by decide)) xSnd_0 (Nat.lt_succ_self _) _ _ hP hD hS _ (lv_sub hl [1, 2, 3, 0] rfl)
  · have t_c_3 := z_eqF c_3
    refine lv_iconst (v := nI 0) hx hb dX1_isSound_9 (by decide +kernel) ?_
    exact z_zret (v := nI 0) hx hb hr hlocks hP hD hS (by decide +kernel) dX1_isSound_10 (Or.inr ⟨rfl, rfl, trivial⟩)
set_option maxHeartbeats 4000000 in
set_option maxRecDepth 100000 in
theorem xk_X1_alike_8 (l : Launch) (D : va_G) (q : Nat → Nat) (cA : Nat → ClassId) (F : Nat → Nat → Int32) (I R : Nat → Nat → Int32) (J : Nat → Nat → Int64) (hI : xInv F (I, R, J)) (pa1 : Int32) (hpa1 : zR 0 56 pa1) : zMi l D vwCl (zXtys cA) 81 q (zXd q cA) yX1_alike cX1_alike 5 (some .int) ({ frames := 1, cells := 0, slots := 0, locals := 21 } : Room) [.ref (q 77), .int (pa1), .ref (q 15)] (I, R, J) (fun r u => zR 0 16777215 r ∧ u = (I, R, J)) := by
  intro sz
  refine z_body (by decide +kernel) (Nat.le_of_ble_eq_true rfl) (fun p e s m below meth c ls hx hb hml hr ht hown hlocks hsz hK hP hD hS hl => ?_)
  have hA : ∀ a, s.heap.size ≤ a → zA 81 q sz a := fun a h => Or.inr (hsz ▸ h)
  have hl : lv_has ls 5 [(0, .ref (q 77)), (1, .int (pa1)), (2, .ref (q 15))] := hl
  refine lv_iconst (v := nI 0) hx hb dX1_alike_0 (by decide +kernel) ?_
  refine lv_istore_n (lv' := [(3, .int (nI 0)), (0, .ref (q 77)), (1, .int (pa1)), (2, .ref (q 15))]) hx hb dX1_alike_1 rfl hl (by decide) rfl (fun ls hl => ?_)
  refine lv_iconst (v := nI 0) hx hb dX1_alike_2 (by decide +kernel) ?_
  refine lv_istore (lv' := [(4, .int (nI 0)), (3, .int (nI 0)), (0, .ref (q 77)), (1, .int (pa1)), (2, .ref (q 15))]) hx hb dX1_alike_3 hl (by decide) rfl (fun ls hl => ?_)
  have loop_103 : ∀ N : Nat, ∀ x_101 : Int32, zR 0 16777215 x_101 → ∀ x_102 : Int32, zR 0 24 x_102 → (2147483648 - (x_102).toInt).toNat < N → ∀ (H : Heap) (locs : List Loc), va_P D vwCl (zw 81 q (zXd q cA) I R J) H → va_D (zA 81 q sz) (zw 81 q (zXd q cA) I R J) → va_S (zA 81 q sz) s.heap H locs → ∀ ls : Array Slot, lv_has ls 5 [(0, .ref (q 77)), (1, .int (pa1)), (2, .ref (q 15)), (3, .int (x_101)), (4, .int (x_102))] → W p l e ({ frames := 1, cells := 0, slots := 0, locals := 21 } : Room) s m ([.ref (q 77), .int (pa1), .ref (q 15)] : List Value).toArray below meth c H locs 0 0 (MQ below (va_Qi (fun r u => zR 0 16777215 r ∧ u = (I, R, J)) (zB D vwCl 81 q (zXd q cA) sz) (zA 81 q sz)) ([.ref (q 77), .int (pa1), .ref (q 15)] : List Value).toArray s 0 0 (zA 81 q sz)) (F0 m 5 ls []) := by
    intro N
    induction N with
    | zero => intro x_101 hx_101 x_102 hx_102 hN; exact absurd hN (Nat.not_lt_zero _)
    | succ N ih_105 =>
      intro x_101 hx_101 x_102 hx_102 hN_104 H locs hP hD hS ls hl
      refine lv_iload hx hb dX1_alike_5 (lv_at hl 4 rfl) ?_
      refine lv_aload_n hx hb dX1_alike_7 rfl (lv_at hl 2 rfl) ?_
      refine z_get hx hb ht hown hK hP ziX9 rfl 15 (by decide) 2 (by decide) hw_1_161 rfl (v := .int (I 15 2)) rfl dX1_alike_8 ?_
      have f_106 : zR 0 24 (I 15 2) := xI hI 15 2
      refine lv_icmp_ge (tgt := 94) hx hb dX1_alike_11 (by decide) (fun c_107 => ?_) (fun c_107 => ?_)
      · have t_c_107 := z_leT c_107
        refine lv_iload_n hx hb dX1_alike_94 rfl (lv_at hl 3 rfl) ?_
        exact z_iret (v := x_101) hx hb hr hlocks hP hD hS dX1_alike_95 ⟨hx_101, rfl⟩
      · have t_c_107 := z_leF c_107
        have f_108 : zR 0 23 (x_102) := zR_ltx t_c_107 hx_102 f_106 (by decide)
        have f_109 : zR 1 24 (I 15 2) := zR_lty t_c_107 hx_102 f_106 (by decide)
        refine lv_aload_n hx hb dX1_alike_14 rfl (lv_at hl 2 rfl) ?_
        refine lv_iload hx hb dX1_alike_15 (lv_at hl 4 rfl) ?_
        have t_124 : ∀ x_123 : Int32, zR 0 16777215 x_123 → ∀ (H : Heap) (locs : List Loc), va_P D vwCl (zw 81 q (zXd q cA) I R J) H → va_D (zA 81 q sz) (zw 81 q (zXd q cA) I R J) → va_S (zA 81 q sz) s.heap H locs → ∀ ls : Array Slot, lv_has ls 5 [(0, .ref (q 77)), (1, .int (pa1)), (2, .ref (q 15)), (3, .int (x_123)), (4, .int (x_102))] → W p l e ({ frames := 1, cells := 0, slots := 0, locals := 21 } : Room) s m ([.ref (q 77), .int (pa1), .ref (q 15)] : List Value).toArray below meth c H locs 0 0 (MQ below (va_Qi (fun r u => zR 0 16777215 r ∧ u = (I, R, J)) (zB D vwCl 81 q (zXd q cA) sz) (zA 81 q sz)) ([.ref (q 77), .int (pa1), .ref (q 15)] : List Value).toArray s 0 0 (zA 81 q sz)) (F0 m 88 ls []) := by
          intro x_123 hx_123 H locs hP hD hS ls hl
          obtain ⟨v_125, ev_125⟩ : ∃ y : Int32, y = x_102 + nI 1 := ⟨_, rfl⟩
          have hv_125 : zR 1 24 v_125 := ev_125 ▸ zR_add f_108 zk_1 (by decide)
          have mv_125 : v_125.toInt = (x_102).toInt + 1 := by rw [ev_125, zR_addE f_108 zk_1 (by decide)]; rfl
          refine lv_iinc (v := v_125) (lv' := [(4, .int (v_125)), (0, .ref (q 77)), (1, .int (pa1)), (2, .ref (q 15)), (3, .int (x_123))]) hx hb dX1_alike_88 hl (k := 4) rfl (ev_125 ▸ rfl) (by decide) rfl (fun ls hl => ?_)
          refine lv_goto (tgt := 5) hx hb dX1_alike_91 (by decide) ?_
          exact ih_105 (x_123) hx_123 (v_125) (zR_w hv_125 (by decide)) (z2_up mv_125 (by decide) hN_104) _ _ hP hD hS _ (lv_sub hl [1, 2, 3, 4, 0] rfl)
        refine z_callVi (k := 15) (As := [.int (x_102)]) (rest := []) hx hb hml hown ht (xk_X9_isOpen_1 l D q cA F _ _ _ hI (x_102) f_108) hw_5_82 hmX9_isOpen ⟨rfl, rfl⟩ (na := 1) rfl (by decide +kernel) (by decide) (by decide) rfl rfl hK hP hD hS hA hl.1 rfl (Nat.le_of_ble_eq_true rfl) ⟨Nat.zero_le _, Nat.zero_le _⟩ dX1_alike_17 (fun r_110 I_110 R_110 J_110 H locs hp_110 hP hD hS _ _ => ?_)
        rcases hp_110 with ⟨rfl, hu_110⟩ | ⟨rfl, hu_110⟩
        · cases hu_110
          refine lv_if_eq (tgt := 88) hx hb dX1_alike_20 (by decide) (fun c_0 => absurd c_0 (zD_ne zk_1 zk_z (by decide))) (fun _ => ?_)
          refine lv_aload_n hx hb dX1_alike_23 rfl (lv_at hl 2 rfl) ?_
          refine z_get hx hb ht hown hK hP ziX9 rfl 15 (by decide) 7 (by decide) hw_1_173 rfl (v := .ref (q 19)) rfl dX1_alike_24 ?_
          refine lv_iload hx hb dX1_alike_27 (lv_at hl 4 rfl) ?_
          refine z_iald hx hb hK hP 19 (by decide) 13 rfl rfl (zR_vin f_108 (by decide)) dX1_alike_29 ?_
          refine z_eqi (y := R 19 (x_102).toNatClampNeg) rfl ?_
          have f_126 : zR 0 4 (R 19 (x_102).toNatClampNeg) := xR hI 19 (x_102).toNatClampNeg
          refine lv_i2l (v := (R 19 (x_102).toNatClampNeg).toInt64) hx hb dX1_alike_30 rfl ?_
          refine lv_aload_n hx hb dX1_alike_31 rfl (lv_at hl 0 rfl) ?_
          refine z_get hx hb ht hown hK hP ziX6 rfl 77 (by decide) 2 (by decide) hw_2_83 rfl (v := .ref (q 78)) rfl dX1_alike_32 ?_
          refine lv_iload_n hx hb dX1_alike_35 rfl (lv_at hl 1 rfl) ?_
          refine z_lald hx hb hK hP 78 (by decide) 55 rfl rfl (zR_vin hpa1 (by decide)) dX1_alike_36 ?_
          refine z_eql (y := J 78 (pa1).toNatClampNeg) rfl ?_
          refine W.lcmp hx hb dX1_alike_37 ?_
          refine lv_if_ne (tgt := 88) hx hb dX1_alike_38 (by decide) (fun c_127 => ?_) (fun c_127 => ?_)
          · have t_c_127 := z_leqF (fun h => c_127 ((lg_cmp_eq _ _).mpr h))
            exact t_124 (x_101) hx_101 _ _ hP hD hS _ (lv_sub hl [0, 1, 2, 3, 4] rfl)
          · have t_c_127 := z_leqT ((lg_cmp_eq _ _).mp c_127)
            have f_128 : zL 0 4 (J 78 (pa1).toNatClampNeg) := zL_eqy t_c_127 (zR_i2l f_126)
            refine lv_aload_n hx hb dX1_alike_41 rfl (lv_at hl 2 rfl) ?_
            refine z_get hx hb ht hown hK hP ziX9 rfl 15 (by decide) 8 (by decide) hw_1_177 rfl (v := .ref (q 20)) rfl dX1_alike_42 ?_
            refine lv_iload hx hb dX1_alike_45 (lv_at hl 4 rfl) ?_
            refine z_iald hx hb hK hP 20 (by decide) 14 rfl rfl (zR_vin f_108 (by decide)) dX1_alike_47 ?_
            refine z_eqi (y := R 20 (x_102).toNatClampNeg) rfl ?_
            have f_129 : zR 0 5 (R 20 (x_102).toNatClampNeg) := xR hI 20 (x_102).toNatClampNeg
            refine lv_i2l (v := (R 20 (x_102).toNatClampNeg).toInt64) hx hb dX1_alike_48 rfl ?_
            refine lv_aload_n hx hb dX1_alike_49 rfl (lv_at hl 0 rfl) ?_
            refine z_get hx hb ht hown hK hP ziX6 rfl 77 (by decide) 2 (by decide) hw_2_83 rfl (v := .ref (q 78)) rfl dX1_alike_50 ?_
            refine lv_iload_n hx hb dX1_alike_53 rfl (lv_at hl 1 rfl) ?_
            refine lv_iconst (v := nI 1) hx hb dX1_alike_54 (by decide +kernel) ?_
            refine lv_iadd hx hb dX1_alike_55 ?_
            refine z_addc 1 57 hpa1 zk_1 (by decide) (fun v_130 hv_130 mv_130 => ?_)
            refine z_lald hx hb hK hP 78 (by decide) 55 rfl rfl (zR_vin hv_130 (by decide)) dX1_alike_56 ?_
            refine z_eql (y := J 78 (v_130).toNatClampNeg) rfl ?_
            refine W.lcmp hx hb dX1_alike_57 ?_
            refine lv_if_ne (tgt := 88) hx hb dX1_alike_58 (by decide) (fun c_131 => ?_) (fun c_131 => ?_)
            · have t_c_131 := z_leqF (fun h => c_131 ((lg_cmp_eq _ _).mpr h))
              exact t_124 (x_101) hx_101 _ _ hP hD hS _ (lv_sub hl [0, 1, 2, 3, 4] rfl)
            · have t_c_131 := z_leqT ((lg_cmp_eq _ _).mp c_131)
              have f_132 : zL 0 5 (J 78 (v_130).toNatClampNeg) := zL_eqy t_c_131 (zR_i2l f_129)
              refine lv_aload_n hx hb dX1_alike_61 rfl (lv_at hl 2 rfl) ?_
              refine z_get hx hb ht hown hK hP ziX9 rfl 15 (by decide) 10 (by decide) hw_1_183 rfl (v := .ref (q 22)) rfl dX1_alike_62 ?_
              refine lv_iload hx hb dX1_alike_65 (lv_at hl 4 rfl) ?_
              refine z_iald hx hb hK hP 22 (by decide) 16 rfl rfl (zR_vin f_108 (by decide)) dX1_alike_67 ?_
              refine z_eqi (y := R 22 (x_102).toNatClampNeg) rfl ?_
              refine lv_i2l (v := (R 22 (x_102).toNatClampNeg).toInt64) hx hb dX1_alike_68 rfl ?_
              refine lv_aload_n hx hb dX1_alike_69 rfl (lv_at hl 0 rfl) ?_
              refine z_get hx hb ht hown hK hP ziX6 rfl 77 (by decide) 2 (by decide) hw_2_83 rfl (v := .ref (q 78)) rfl dX1_alike_70 ?_
              refine lv_iload_n hx hb dX1_alike_73 rfl (lv_at hl 1 rfl) ?_
              refine lv_iconst (v := nI 3) hx hb dX1_alike_74 (by decide +kernel) ?_
              refine lv_iadd hx hb dX1_alike_75 ?_
              refine z_addc 3 59 hpa1 zk_3 (by decide) (fun v_133 hv_133 mv_133 => ?_)
              refine z_lald hx hb hK hP 78 (by decide) 55 rfl rfl (zR_vin hv_133 (by decide)) dX1_alike_76 ?_
              refine z_eql (y := J 78 (v_133).toNatClampNeg) rfl ?_
              refine W.lcmp hx hb dX1_alike_77 ?_
              refine lv_if_ne (tgt := 88) hx hb dX1_alike_78 (by decide) (fun c_134 => ?_) (fun c_134 => ?_)
              · have t_c_134 := z_leqF (fun h => c_134 ((lg_cmp_eq _ _).mpr h))
                exact t_124 (x_101) hx_101 _ _ hP hD hS _ (lv_sub hl [0, 1, 2, 3, 4] rfl)
              · have t_c_134 := z_leqT ((lg_cmp_eq _ _).mp c_134)
                have f_135 : zL (-2147483648) 2147483647 (J 78 (v_133).toNatClampNeg) := zL_eqy t_c_134 (zR_i2l (zR_any (R 22 (x_102).toNatClampNeg)))
                refine lv_iload_n hx hb dX1_alike_81 rfl (lv_at hl 3 rfl) ?_
                refine lv_iconst (v := nI 1) hx hb dX1_alike_82 (by decide +kernel) ?_
                refine lv_iload hx hb dX1_alike_83 (lv_at hl 4 rfl) ?_
                refine lv_ishl hx hb dX1_alike_85 ?_
                refine z_rng (a := 1) (b := 8388608) (zR_shl1 23 f_108 (by decide)) (fun v_136 hv_136 => ?_)
                refine lv_ior hx hb dX1_alike_86 ?_
                refine z_rng (a := 0) (b := 16777215) (zR_or 24 hx_101 hv_136 (by decide)) (fun v_137 hv_137 => ?_)
                refine lv_istore_n (lv' := [(3, .int (v_137)), (0, .ref (q 77)), (1, .int (pa1)), (2, .ref (q 15)), (4, .int (x_102))]) hx hb dX1_alike_87 rfl hl (by decide) rfl (fun ls hl => ?_)
                exact t_124 (v_137) hv_137 _ _ hP hD hS _ (lv_sub hl [1, 2, 3, 0, 4] rfl)
        · cases hu_110
          refine lv_if_eq (tgt := 88) hx hb dX1_alike_20 (by decide) (fun _ => ?_) (fun c_0 => absurd (zD_eq zk_0 zk_z) c_0)
          exact t_124 (x_101) hx_101 _ _ hP hD hS _ (lv_sub hl [0, 1, 2, 3, 4] rfl)
  exact loop_103 _ (nI 0) (zR_w zk_0 (by decide)) (nI 0) (zR_w zk_0 (by decide)) (Nat.lt_succ_self _) _ _ hP hD hS _ (lv_sub hl [2, 3, 4, 1, 0] rfl)
set_option maxHeartbeats 4000000 in
set_option maxRecDepth 100000 in
theorem xk_X1_compare_2 (l : Launch) (D : va_G) (q : Nat → Nat) (cA : Nat → ClassId) (F : Nat → Nat → Int32) (I R : Nat → Nat → Int32) (J : Nat → Nat → Int64) (hI : xInv F (I, R, J)) (hs : xSound (J 78) (F 77 1)) : zMv l D vwCl (zXtys cA) 81 q (zXd q cA) yX1_compare cX1_compare 9 none ({ frames := 2, cells := 0, slots := 0, locals := 45 } : Room) [.ref (q 46), .ref (q 77), .ref (q 15)] (I, R, J) (fun u => xInv F u) := by
  intro sz
  refine z_body (by decide +kernel) (Nat.le_of_ble_eq_true rfl) (fun p e s m below meth c ls hx hb hml hr ht hown hlocks hsz hK hP hD hS hl => ?_)
  have hA : ∀ a, s.heap.size ≤ a → zA 81 q sz a := fun a h => Or.inr (hsz ▸ h)
  have hl : lv_has ls 9 [(0, .ref (q 46)), (1, .ref (q 77)), (2, .ref (q 15))] := hl
  refine lv_aload_n hx hb dX1_compare_0 rfl (lv_at hl 0 rfl) ?_
  refine lv_iconst (v := nI 0) hx hb dX1_compare_1 (by decide +kernel) ?_
  refine z_putI hx hb ht hown hK hP hD hS ziX1 tyX1 tyX1_ok nmX1 rfl 46 (by decide) 0 (by decide) hw_2_34 rfl (v := nI 0) rfl rfl rfl (Nat.le_of_ble_eq_true rfl) rfl dX1_compare_2 (fun H locs hP hD hS => ?_)
  have hI_1 := xInv_I hI 46 0 (nI 0) (zR_any (nI 0)) rfl
  refine lv_aload_n hx hb dX1_compare_5 rfl (lv_at hl 0 rfl) ?_
  refine lv_iconst (v := (-1)) hx hb dX1_compare_6 (by decide +kernel) ?_
  refine z_putI hx hb ht hown hK hP hD hS ziX1 tyX1 tyX1_ok nmX1 rfl 46 (by decide) 1 (by decide) hw_2_36 rfl (v := (-1)) rfl rfl rfl (Nat.le_of_ble_eq_true rfl) rfl dX1_compare_7 (fun H locs hP hD hS => ?_)
  have hI_2 := xInv_I hI_1 46 1 ((-1)) (zR_any ((-1))) rfl
  refine lv_aload_n hx hb dX1_compare_10 rfl (lv_at hl 0 rfl) ?_
  refine lv_iconst (v := nI 0) hx hb dX1_compare_11 (by decide +kernel) ?_
  refine z_putI hx hb ht hown hK hP hD hS ziX1 tyX1 tyX1_ok nmX1 rfl 46 (by decide) 2 (by decide) hw_2_38 rfl (v := nI 0) rfl rfl rfl (Nat.le_of_ble_eq_true rfl) rfl dX1_compare_12 (fun H locs hP hD hS => ?_)
  have hI_3 := xInv_I hI_2 46 2 (nI 0) (zR_any (nI 0)) rfl
  refine lv_aload_n hx hb dX1_compare_15 rfl (lv_at hl 2 rfl) ?_
  refine z_callVi (k := 15) (As := []) (rest := []) hx hb hml hown ht (xk_X9_openPapers l D q cA F _ _ _ hI_3 ) hw_5_78 hmX9_openPapers ⟨rfl, rfl⟩ (na := 0) rfl (by decide +kernel) (by decide) (by decide) rfl rfl hK hP hD hS hA hl.1 rfl (Nat.le_of_ble_eq_true rfl) ⟨Nat.zero_le _, Nat.zero_le _⟩ dX1_compare_16 (fun r_4 I_4 R_4 J_4 H locs hp_4 hP hD hS _ _ => ?_)
  obtain ⟨hr_4, hu_4⟩ := hp_4
  cases hu_4
  refine lv_istore_n (lv' := [(3, .int (r_4)), (0, .ref (q 46)), (1, .ref (q 77)), (2, .ref (q 15))]) hx hb dX1_compare_19 rfl hl (by decide) rfl (fun ls hl => ?_)
  refine lv_iconst (v := nI 0) hx hb dX1_compare_20 (by decide +kernel) ?_
  refine lv_istore (lv' := [(4, .int (nI 0)), (3, .int (r_4)), (0, .ref (q 46)), (1, .ref (q 77)), (2, .ref (q 15))]) hx hb dX1_compare_21 hl (by decide) rfl (fun ls hl => ?_)
  have loop_195 : ∀ N : Nat, ∀ x_191 : Int32, zR 0 16777215 x_191 → ∀ x_192 : Int32, zR 0 60 x_192 → ∀ I_193 : Nat → Nat → Int32, xInv F (I_193, R, J) → (xFour (x_192)) → (2147483648 - (x_192).toInt).toNat < N → ∀ (H : Heap) (locs : List Loc), va_P D vwCl (zw 81 q (zXd q cA) I_193 R J) H → va_D (zA 81 q sz) (zw 81 q (zXd q cA) I_193 R J) → va_S (zA 81 q sz) s.heap H locs → ∀ ls : Array Slot, lv_has ls 9 [(0, .ref (q 46)), (1, .ref (q 77)), (2, .ref (q 15)), (3, .int (x_191)), (4, .int (x_192))] → W p l e ({ frames := 2, cells := 0, slots := 0, locals := 45 } : Room) s m ([.ref (q 46), .ref (q 77), .ref (q 15)] : List Value).toArray below meth c H locs 0 0 (MQ below (va_Qv (fun u => xInv F u) (zB D vwCl 81 q (zXd q cA) sz) (zA 81 q sz)) ([.ref (q 46), .ref (q 77), .ref (q 15)] : List Value).toArray s 0 0 (zA 81 q sz)) (F0 m 23 ls []) := by
    intro N
    induction N with
    | zero => intro x_191 hx_191 x_192 hx_192 I_193 hI_193 hx_194 hN; exact absurd hN (Nat.not_lt_zero _)
    | succ N ih_197 =>
      intro x_191 hx_191 x_192 hx_192 I_193 hI_193 hx_194 hN_196 H locs hP hD hS ls hl
      refine lv_iload hx hb dX1_compare_23 (lv_at hl 4 rfl) ?_
      refine lv_iconst (v := nI 4) hx hb dX1_compare_25 (by decide +kernel) ?_
      refine lv_iadd hx hb dX1_compare_26 ?_
      refine z_addc 4 64 hx_192 zk_4 (by decide) (fun v_198 hv_198 mv_198 => ?_)
      refine lv_aload_n hx hb dX1_compare_27 rfl (lv_at hl 1 rfl) ?_
      refine z_get hx hb ht hown hK hP ziX6 rfl 77 (by decide) 1 (by decide) hw_2_80 rfl (v := .int (I_193 77 1)) rfl dX1_compare_28 ?_
      have f_199 : zR (-1) 60 (I_193 77 1) := xI hI_193 77 1
      refine lv_icmp_gt (tgt := 182) hx hb dX1_compare_31 (by decide) (fun c_200 => ?_) (fun c_200 => ?_)
      · have t_c_200 := z_ltT c_200
        exact z_vret hx hb hr hlocks hP hD hS dX1_compare_182 hI_193
      · have t_c_200 := z_ltF c_200
        have f_201 : zR 4 60 (v_198) := zR_lex t_c_200 hv_198 f_199 (by decide)
        have f_202 : zR 0 56 (x_192) := zR_shift mv_198 f_201 (by decide)
        have f_203 : zR 4 60 (I_193 77 1) := zR_ley t_c_200 hv_198 f_199 (by decide)
        refine lv_aload_n hx hb dX1_compare_34 rfl (lv_at hl 1 rfl) ?_
        refine lv_iload hx hb dX1_compare_35 (lv_at hl 4 rfl) ?_
        refine lv_aload_n hx hb dX1_compare_37 rfl (lv_at hl 2 rfl) ?_
        refine z_callSi (As := [.ref (q 77), .int (x_192), .ref (q 15)]) (rest := []) hx hb hml hown ht (xk_X1_alike_8 l D q cA F _ _ _ hI_193 (x_192) f_202) hw_5_79 hmX1_alike ⟨rfl, rfl⟩ (na := 3) rfl (by decide +kernel) (by decide) hK hP hD hS hA hl.1 rfl (Nat.le_of_ble_eq_true rfl) ⟨Nat.zero_le _, Nat.zero_le _⟩ dX1_compare_38 (fun r_204 I_204 R_204 J_204 H locs hp_204 hP hD hS _ _ => ?_)
        obtain ⟨hr_204, hu_204⟩ := hp_204
        cases hu_204
        refine lv_istore (lv' := [(5, .int (r_204)), (0, .ref (q 46)), (1, .ref (q 77)), (2, .ref (q 15)), (3, .int (x_191)), (4, .int (x_192))]) hx hb dX1_compare_41 hl (by decide) rfl (fun ls hl => ?_)
        refine lv_aload_n hx hb dX1_compare_43 rfl (lv_at hl 2 rfl) ?_
        refine z_get hx hb ht hown hK hP ziX6 rfl 77 (by decide) 2 (by decide) hw_2_83 rfl (v := .ref (q 78)) rfl dX1_compare_44 ?_
        refine lv_iload hx hb dX1_compare_47 (lv_at hl 5 rfl) ?_
        refine lv_iconst (v := nI 1) hx hb dX1_compare_49 (by decide +kernel) ?_
        refine lv_iadd hx hb dX1_compare_50 ?_
        refine z_addc 1 57 f_202 zk_1 (by decide) (fun v_205 hv_205 mv_205 => ?_)
        have f_206 : zL 0 5 (J 78 (v_205).toNatClampNeg) := xSound_at hs hx_194 mv_205 mv_198 t_c_200 (xFr hI_193 77 1 rfl)
        refine z_lald hx hb hK hP 78 (by decide) 55 rfl rfl (zR_vin hv_205 (by decide)) dX1_compare_51 ?_
        refine z_eql (y := J 78 (v_205).toNatClampNeg) rfl ?_
        refine lv_l2i hx hb dX1_compare_52 rfl ?_
        refine z_rng (a := 0) (b := 5) (zL_l2i f_206 (by decide)) (fun v_207 hv_207 => ?_)
        refine lv_istore (lv' := [(6, .int (v_207)), (5, .int (r_204)), (0, .ref (q 46)), (1, .ref (q 77)), (2, .ref (q 15)), (3, .int (x_191)), (4, .int (x_192))]) hx hb dX1_compare_53 hl (by decide) rfl (fun ls hl => ?_)
        refine lv_aload_n hx hb dX1_compare_55 rfl (lv_at hl 3 rfl) ?_
        refine z_get hx hb ht hown hK hP ziX6 rfl 77 (by decide) 2 (by decide) hw_2_83 rfl (v := .ref (q 78)) rfl dX1_compare_56 ?_
        refine lv_iload hx hb dX1_compare_59 (lv_at hl 6 rfl) ?_
        refine lv_iconst (v := nI 2) hx hb dX1_compare_61 (by decide +kernel) ?_
        refine lv_iadd hx hb dX1_compare_62 ?_
        refine z_addc 2 58 f_202 zk_2 (by decide) (fun v_208 hv_208 mv_208 => ?_)
        refine z_lald hx hb hK hP 78 (by decide) 55 rfl rfl (zR_vin hv_208 (by decide)) dX1_compare_63 ?_
        refine z_eql (y := J 78 (v_208).toNatClampNeg) rfl ?_
        refine lv_aload_n hx hb dX1_compare_64 rfl (lv_at hl 4 rfl) ?_
        refine z_get hx hb ht hown hK hP ziX9 rfl 15 (by decide) 0 (by decide) hw_1_155 rfl (v := .ref (q 3)) rfl dX1_compare_65 ?_
        refine z_get hx hb ht hown hK hP ziX2 rfl 3 (by decide) 9 (by decide) hw_1_105 rfl (v := .ref (q 6)) rfl dX1_compare_68 ?_
        refine lv_iload hx hb dX1_compare_71 (lv_at hl 0 rfl) ?_
        refine z_iald hx hb hK hP 6 (by decide) 3 rfl rfl (zR_vin hv_207 (by decide)) dX1_compare_73 ?_
        refine z_eqi (y := R 6 (v_207).toNatClampNeg) rfl ?_
        refine lv_i2l (v := (R 6 (v_207).toNatClampNeg).toInt64) hx hb dX1_compare_74 rfl ?_
        refine W.lcmp hx hb dX1_compare_75 ?_
        have t_212 : ∀ x_211 : Int32, zR 0 1 x_211 → ∀ (H : Heap) (locs : List Loc), va_P D vwCl (zw 81 q (zXd q cA) I_193 R J) H → va_D (zA 81 q sz) (zw 81 q (zXd q cA) I_193 R J) → va_S (zA 81 q sz) s.heap H locs → ∀ ls : Array Slot, lv_has ls 9 [(0, .ref (q 46)), (1, .ref (q 77)), (2, .ref (q 15)), (3, .int (x_191)), (4, .int (x_192)), (5, .int (r_204)), (6, .int (v_207))] → W p l e ({ frames := 2, cells := 0, slots := 0, locals := 45 } : Room) s m ([.ref (q 46), .ref (q 77), .ref (q 15)] : List Value).toArray below meth c H locs 0 0 (MQ below (va_Qv (fun u => xInv F u) (zB D vwCl 81 q (zXd q cA) sz) (zA 81 q sz)) ([.ref (q 46), .ref (q 77), .ref (q 15)] : List Value).toArray s 0 0 (zA 81 q sz)) (F0 m 84 ls [.int (x_211)]) := by
          intro x_211 hx_211 H locs hP hD hS ls hl
          refine lv_istore (lv' := [(7, .int (x_211)), (0, .ref (q 46)), (1, .ref (q 77)), (2, .ref (q 15)), (3, .int (x_191)), (4, .int (x_192)), (5, .int (r_204)), (6, .int (v_207))]) hx hb dX1_compare_84 hl (by decide) rfl (fun ls hl => ?_)
          refine lv_iload hx hb dX1_compare_86 (lv_at hl 0 rfl) ?_
          have t_218 : ∀ x_217 : Int32, zR 0 16777215 x_217 → ∀ (H : Heap) (locs : List Loc), va_P D vwCl (zw 81 q (zXd q cA) I_193 R J) H → va_D (zA 81 q sz) (zw 81 q (zXd q cA) I_193 R J) → va_S (zA 81 q sz) s.heap H locs → ∀ ls : Array Slot, lv_has ls 9 [(0, .ref (q 46)), (1, .ref (q 77)), (2, .ref (q 15)), (3, .int (x_191)), (4, .int (x_192)), (5, .int (r_204)), (6, .int (v_207)), (7, .int (x_211))] → W p l e ({ frames := 2, cells := 0, slots := 0, locals := 45 } : Room) s m ([.ref (q 46), .ref (q 77), .ref (q 15)] : List Value).toArray below meth c H locs 0 0 (MQ below (va_Qv (fun u => xInv F u) (zB D vwCl 81 q (zXd q cA) sz) (zA 81 q sz)) ([.ref (q 46), .ref (q 77), .ref (q 15)] : List Value).toArray s 0 0 (zA 81 q sz)) (F0 m 99 ls [.int (x_217)]) := by
            intro x_217 hx_217 H locs hP hD hS ls hl
            refine lv_istore (lv' := [(8, .int (x_217)), (0, .ref (q 46)), (1, .ref (q 77)), (2, .ref (q 15)), (3, .int (x_191)), (4, .int (x_192)), (5, .int (r_204)), (6, .int (v_207)), (7, .int (x_211))]) hx hb dX1_compare_99 hl (by decide) rfl (fun ls hl => ?_)
            refine lv_iload hx hb dX1_compare_101 (lv_at hl 0 rfl) ?_
            have t_245 : ∀ x_242 : Int32, zR 0 16777215 x_242 → ∀ I_243 : Nat → Nat → Int32, xInv F (I_243, R, J) → zR 4 60 (I_243 77 1) → ∀ (H : Heap) (locs : List Loc), va_P D vwCl (zw 81 q (zXd q cA) I_243 R J) H → va_D (zA 81 q sz) (zw 81 q (zXd q cA) I_243 R J) → va_S (zA 81 q sz) s.heap H locs → ∀ ls : Array Slot, lv_has ls 9 [(0, .ref (q 46)), (1, .ref (q 77)), (2, .ref (q 15)), (3, .int (x_242)), (4, .int (x_192)), (5, .int (r_204)), (6, .int (v_207)), (7, .int (x_211)), (8, .int (x_217))] → W p l e ({ frames := 2, cells := 0, slots := 0, locals := 45 } : Room) s m ([.ref (q 46), .ref (q 77), .ref (q 15)] : List Value).toArray below meth c H locs 0 0 (MQ below (va_Qv (fun u => xInv F u) (zB D vwCl 81 q (zXd q cA) sz) (zA 81 q sz)) ([.ref (q 46), .ref (q 77), .ref (q 15)] : List Value).toArray s 0 0 (zA 81 q sz)) (F0 m 176 ls []) := by
              intro x_242 hx_242 I_243 hI_243 g_244 H locs hP hD hS ls hl
              obtain ⟨v_246, ev_246⟩ : ∃ y : Int32, y = x_192 + nI 4 := ⟨_, rfl⟩
              have hv_246 : zR 4 60 v_246 := ev_246 ▸ zR_add f_202 zk_4 (by decide)
              have mv_246 : v_246.toInt = (x_192).toInt + 4 := by rw [ev_246, zR_addE f_202 zk_4 (by decide)]; rfl
              refine lv_iinc (v := v_246) (lv' := [(4, .int (v_246)), (0, .ref (q 46)), (1, .ref (q 77)), (2, .ref (q 15)), (3, .int (x_242)), (5, .int (r_204)), (6, .int (v_207)), (7, .int (x_211)), (8, .int (x_217))]) hx hb dX1_compare_176 hl (k := 4) rfl (ev_246 ▸ rfl) (by decide) rfl (fun ls hl => ?_)
              refine lv_goto (tgt := 23) hx hb dX1_compare_179 (by decide) ?_
              exact ih_197 (x_242) hx_242 (v_246) (zR_w hv_246 (by decide)) _ hI_243 (xFour_s hx_194 mv_246) (z2_up mv_246 (by decide) hN_196) _ _ hP hD hS _ (lv_sub hl [1, 2, 3, 4, 0] rfl)
            refine lv_if_eq (tgt := 120) hx hb dX1_compare_103 (by decide) (fun c_219 => ?_) (fun c_219 => ?_)
            · have t_c_219 := z_eqT c_219
              have f_247 : zR 0 0 (x_217) := zR_eqx t_c_219 zk_z
              refine lv_aload_n hx hb dX1_compare_120 rfl (lv_at hl 1 rfl) ?_
              refine lv_aload_n hx hb dX1_compare_121 rfl (lv_at hl 1 rfl) ?_
              refine z_get hx hb ht hown hK hP ziX1 rfl 46 (by decide) 0 (by decide) hw_2_34 rfl (v := .int (I_193 46 0)) rfl dX1_compare_122 ?_
              have t_252 : ∀ x_251 : Int32, ∀ (H : Heap) (locs : List Loc), va_P D vwCl (zw 81 q (zXd q cA) I_193 R J) H → va_D (zA 81 q sz) (zw 81 q (zXd q cA) I_193 R J) → va_S (zA 81 q sz) s.heap H locs → ∀ ls : Array Slot, lv_has ls 9 [(0, .ref (q 46)), (1, .ref (q 77)), (2, .ref (q 15)), (3, .int (x_191)), (4, .int (x_192)), (5, .int (r_204)), (6, .int (v_207)), (7, .int (x_211)), (8, .int (x_217))] → W p l e ({ frames := 2, cells := 0, slots := 0, locals := 45 } : Room) s m ([.ref (q 46), .ref (q 77), .ref (q 15)] : List Value).toArray below meth c H locs 0 0 (MQ below (va_Qv (fun u => xInv F u) (zB D vwCl 81 q (zXd q cA) sz) (zA 81 q sz)) ([.ref (q 46), .ref (q 77), .ref (q 15)] : List Value).toArray s 0 0 (zA 81 q sz)) (F0 m 139 ls [.int (x_251), .ref (q 46)]) := by
                intro x_251 H locs hP hD hS ls hl
                refine z_putI hx hb ht hown hK hP hD hS ziX1 tyX1 tyX1_ok nmX1 rfl 46 (by decide) 1 (by decide) hw_2_36 rfl (v := x_251) rfl rfl rfl (Nat.le_of_ble_eq_true rfl) rfl dX1_compare_139 (fun H locs hP hD hS => ?_)
                have hI_253 := xInv_I hI_193 46 1 (x_251) (zR_any (x_251)) rfl
                refine lv_aload_n hx hb dX1_compare_142 rfl (lv_at hl 0 rfl) ?_
                refine lv_dup hx hb dX1_compare_143 rfl ?_
                refine z_get hx hb ht hown hK hP ziX1 rfl 46 (by decide) 0 (by decide) hw_2_34 rfl (v := .int (I_193 46 0)) rfl dX1_compare_144 ?_
                refine lv_iconst (v := nI 1) hx hb dX1_compare_147 (by decide +kernel) ?_
                refine lv_iadd hx hb dX1_compare_148 ?_
                refine z_any (fun v_254 => ?_)
                refine z_putI hx hb ht hown hK hP hD hS ziX1 tyX1 tyX1_ok nmX1 rfl 46 (by decide) 0 (by decide) hw_2_34 rfl (v := v_254) rfl rfl rfl (Nat.le_of_ble_eq_true rfl) rfl dX1_compare_149 (fun H locs hP hD hS => ?_)
                have hI_255 := xInv_I hI_253 46 0 (v_254) (zR_any (v_254)) rfl
                refine lv_aload_n hx hb dX1_compare_152 rfl (lv_at hl 0 rfl) ?_
                refine lv_dup hx hb dX1_compare_153 rfl ?_
                refine z_get hx hb ht hown hK hP ziX1 rfl 46 (by decide) 2 (by decide) hw_2_38 rfl (v := .int (I_193 46 2)) rfl dX1_compare_154 ?_
                refine lv_iload hx hb dX1_compare_157 (lv_at hl 7 rfl) ?_
                have t_263 : ∀ x_262 : Int32, zR 0 1 x_262 → ∀ (H : Heap) (locs : List Loc), va_P D vwCl (zw 81 q (zXd q cA) (zp (zp I_193 46 1 (x_251)) 46 0 (v_254)) R J) H → va_D (zA 81 q sz) (zw 81 q (zXd q cA) (zp (zp I_193 46 1 (x_251)) 46 0 (v_254)) R J) → va_S (zA 81 q sz) s.heap H locs → ∀ ls : Array Slot, lv_has ls 9 [(0, .ref (q 46)), (1, .ref (q 77)), (2, .ref (q 15)), (3, .int (x_191)), (4, .int (x_192)), (5, .int (r_204)), (6, .int (v_207)), (7, .int (x_211)), (8, .int (x_217))] → W p l e ({ frames := 2, cells := 0, slots := 0, locals := 45 } : Room) s m ([.ref (q 46), .ref (q 77), .ref (q 15)] : List Value).toArray below meth c H locs 0 0 (MQ below (va_Qv (fun u => xInv F u) (zB D vwCl 81 q (zXd q cA) sz) (zA 81 q sz)) ([.ref (q 46), .ref (q 77), .ref (q 15)] : List Value).toArray s 0 0 (zA 81 q sz)) (F0 m 172 ls [.int (x_262), .int (I_193 46 2), .ref (q 46)]) := by
                  intro x_262 hx_262 H locs hP hD hS ls hl
                  refine lv_iadd hx hb dX1_compare_172 ?_
                  refine z_any (fun v_264 => ?_)
                  refine z_putI hx hb ht hown hK hP hD hS ziX1 tyX1 tyX1_ok nmX1 rfl 46 (by decide) 2 (by decide) hw_2_38 rfl (v := v_264) rfl rfl rfl (Nat.le_of_ble_eq_true rfl) rfl dX1_compare_173 (fun H locs hP hD hS => ?_)
                  have hI_265 := xInv_I hI_255 46 2 (v_264) (zR_any (v_264)) rfl
                  exact t_245 (x_191) hx_191 _ hI_265 f_203 _ _ hP hD hS _ (lv_sub hl [0, 1, 2, 3, 4, 5, 6, 7, 8] rfl)
                refine lv_if_ne (tgt := 171) hx hb dX1_compare_159 (by decide) (fun c_256 => ?_) (fun c_256 => ?_)
                · have t_c_256 := z_eqF c_256
                  have f_266 : zR 1 1 (x_211) := zR_nex t_c_256 hx_211 zk_z (by decide)
                  refine lv_iconst (v := nI 0) hx hb dX1_compare_171 (by decide +kernel) ?_
                  exact t_263 (nI 0) (zR_w zk_0 (by decide)) _ _ hP hD hS _ (lv_sub hl [0, 1, 2, 3, 4, 5, 6, 7, 8] rfl)
                · have t_c_256 := z_eqT c_256
                  have f_267 : zR 0 0 (x_211) := zR_eqx t_c_256 zk_z
                  refine lv_iload hx hb dX1_compare_162 (lv_at hl 5 rfl) ?_
                  refine lv_if_eq (tgt := 171) hx hb dX1_compare_164 (by decide) (fun c_268 => ?_) (fun c_268 => ?_)
                  · have t_c_268 := z_eqT c_268
                    have f_269 : zR 0 0 (r_204) := zR_eqx t_c_268 zk_z
                    refine lv_iconst (v := nI 0) hx hb dX1_compare_171 (by decide +kernel) ?_
                    exact t_263 (nI 0) (zR_w zk_0 (by decide)) _ _ hP hD hS _ (lv_sub hl [0, 1, 2, 3, 4, 5, 6, 7, 8] rfl)
                  · have t_c_268 := z_eqF c_268
                    have f_270 : zR 1 16777215 (r_204) := zR_nex t_c_268 hr_204 zk_z (by decide)
                    refine lv_iconst (v := nI 1) hx hb dX1_compare_167 (by decide +kernel) ?_
                    refine lv_goto (tgt := 172) hx hb dX1_compare_168 (by decide) ?_
                    exact t_263 (nI 1) (zR_w zk_1 (by decide)) _ _ hP hD hS _ (lv_sub hl [0, 1, 2, 3, 4, 5, 6, 7, 8] rfl)
              refine lv_if_ne (tgt := 135) hx hb dX1_compare_125 (by decide) (fun c_248 => ?_) (fun c_248 => ?_)
              · have t_c_248 := z_eqF c_248
                refine lv_aload_n hx hb dX1_compare_135 rfl (lv_at hl 1 rfl) ?_
                refine z_get hx hb ht hown hK hP ziX1 rfl 46 (by decide) 1 (by decide) hw_2_36 rfl (v := .int (I_193 46 1)) rfl dX1_compare_136 ?_
                exact t_252 (I_193 46 1) _ _ hP hD hS _ (lv_sub hl [1, 2, 3, 4, 5, 6, 7, 8, 0] rfl)
              · have t_c_248 := z_eqT c_248
                have f_271 : zR 0 0 (I_193 46 0) := zR_eqx t_c_248 zk_z
                refine lv_iload hx hb dX1_compare_128 (lv_at hl 5 rfl) ?_
                refine lv_iconst (v := nI 4) hx hb dX1_compare_130 (by decide +kernel) ?_
                refine lv_idiv hx hb dX1_compare_131 (by decide +kernel) ?_
                refine z_rng (a := 0) (b := 14) (zR_divc f_202 zk_4 (by decide)) (fun v_272 hv_272 => ?_)
                refine lv_goto (tgt := 139) hx hb dX1_compare_132 (by decide) ?_
                exact t_252 (v_272) _ _ hP hD hS _ (lv_sub hl [1, 2, 3, 4, 5, 6, 7, 8, 0] rfl)
            · have t_c_219 := z_eqF c_219
              have f_273 : zR 1 16777215 (x_217) := zR_nex t_c_219 hx_217 zk_z (by decide)
              refine lv_iload_n hx hb dX1_compare_106 rfl (lv_at hl 4 rfl) ?_
              refine lv_iload hx hb dX1_compare_107 (lv_at hl 0 rfl) ?_
              refine lv_iload hx hb dX1_compare_109 (lv_at hl 0 rfl) ?_
              refine lv_ineg hx hb dX1_compare_111 ?_
              refine z_any (fun v_274 => ?_)
              refine lv_iand hx hb dX1_compare_112 ?_
              refine z_rng (a := 0) (b := 16777215) (zR_andl f_273 (by decide)) (fun v_275 hv_275 => ?_)
              refine lv_iconst (v := (-1)) hx hb dX1_compare_113 (by decide +kernel) ?_
              refine lv_ixor hx hb dX1_compare_114 ?_
              refine z_any (fun v_276 => ?_)
              refine lv_iand hx hb dX1_compare_115 ?_
              refine z_rng (a := 0) (b := 16777215) (zR_andl hx_191 (by decide)) (fun v_277 hv_277 => ?_)
              refine lv_istore_n (lv' := [(3, .int (v_277)), (8, .int (x_217)), (0, .ref (q 46)), (1, .ref (q 77)), (2, .ref (q 15)), (4, .int (x_192)), (5, .int (r_204)), (6, .int (v_207)), (7, .int (x_211))]) hx hb dX1_compare_116 rfl hl (by decide) rfl (fun ls hl => ?_)
              refine lv_goto (tgt := 176) hx hb dX1_compare_117 (by decide) ?_
              exact t_245 (v_277) hv_277 _ hI_193 f_203 _ _ hP hD hS _ (lv_sub hl [2, 3, 4, 0, 5, 6, 7, 8, 1] rfl)
          refine lv_if_eq (tgt := 98) hx hb dX1_compare_88 (by decide) (fun c_213 => ?_) (fun c_213 => ?_)
          · have t_c_213 := z_eqT c_213
            have f_278 : zR 0 0 (x_211) := zR_eqx t_c_213 zk_z
            refine lv_iconst (v := nI 0) hx hb dX1_compare_98 (by decide +kernel) ?_
            exact t_218 (nI 0) (zR_w zk_0 (by decide)) _ _ hP hD hS _ (lv_sub hl [1, 2, 3, 4, 5, 6, 7, 0] rfl)
          · have t_c_213 := z_eqF c_213
            have f_279 : zR 1 1 (x_211) := zR_nex t_c_213 hx_211 zk_z (by decide)
            refine lv_iload hx hb dX1_compare_91 (lv_at hl 6 rfl) ?_
            refine lv_iload_n hx hb dX1_compare_93 rfl (lv_at hl 4 rfl) ?_
            refine lv_iand hx hb dX1_compare_94 ?_
            refine z_rng (a := 0) (b := 16777215) (zR_andr hx_191 (by decide)) (fun v_280 hv_280 => ?_)
            refine lv_goto (tgt := 99) hx hb dX1_compare_95 (by decide) ?_
            exact t_218 (v_280) hv_280 _ _ hP hD hS _ (lv_sub hl [1, 2, 3, 4, 5, 6, 7, 0] rfl)
        refine lv_if_ne (tgt := 83) hx hb dX1_compare_76 (by decide) (fun c_209 => ?_) (fun c_209 => ?_)
        · have t_c_209 := z_leqF (fun h => c_209 ((lg_cmp_eq _ _).mpr h))
          refine lv_iconst (v := nI 0) hx hb dX1_compare_83 (by decide +kernel) ?_
          exact t_212 (nI 0) (zR_w zk_0 (by decide)) _ _ hP hD hS _ (lv_sub hl [2, 3, 4, 5, 6, 1, 0] rfl)
        · have t_c_209 := z_leqT ((lg_cmp_eq _ _).mp c_209)
          have f_281 : zL (-2147483648) 2147483647 (J 78 (v_208).toNatClampNeg) := zL_eqx t_c_209 (zR_i2l (zR_any (R 6 (v_207).toNatClampNeg)))
          refine lv_iconst (v := nI 1) hx hb dX1_compare_79 (by decide +kernel) ?_
          refine lv_goto (tgt := 84) hx hb dX1_compare_80 (by decide) ?_
          exact t_212 (nI 1) (zR_w zk_1 (by decide)) _ _ hP hD hS _ (lv_sub hl [2, 3, 4, 5, 6, 1, 0] rfl)
  exact loop_195 _ (r_4) hr_4 (nI 0) (zR_w zk_0 (by decide)) _ hI_3 xFour_0 (Nat.lt_succ_self _) _ _ hP hD hS _ (lv_sub hl [2, 3, 4, 1, 0] rfl)
set_option maxHeartbeats 4000000 in
set_option maxRecDepth 100000 in
theorem xk_X6_isThere_3 (l : Launch) (D : va_G) (q : Nat → Nat) (cA : Nat → ClassId) (F : Nat → Nat → Int32) (I R : Nat → Nat → Int32) (J : Nat → Nat → Int64) (hI : xInv F (I, R, J))  : zMi l D vwCl (zXtys cA) 81 q (zXd q cA) yX6_isThere cX6_isThere 1 (some .boolean) ({ frames := 0, cells := 0, slots := 0, locals := 0 } : Room) [.ref (q 79)] (I, R, J) (fun r u => (r = nI 1 ∧ u = (I, R, J) ∧ (I 79 1).toInt ≠ -1) ∨ (r = nI 0 ∧ u = (I, R, J) ∧ (I 79 1).toInt = -1)) := by
  intro sz
  refine z_body (by decide +kernel) (Nat.le_of_ble_eq_true rfl) (fun p e s m below meth c ls hx hb hml hr ht hown hlocks hsz hK hP hD hS hl => ?_)
  have hA : ∀ a, s.heap.size ≤ a → zA 81 q sz a := fun a h => Or.inr (hsz ▸ h)
  have hl : lv_has ls 1 [(0, .ref (q 79))] := hl
  refine lv_aload_n hx hb dX6_isThere_0 rfl (lv_at hl 0 rfl) ?_
  refine z_get hx hb ht hown hK hP ziX6 rfl 79 (by decide) 1 (by decide) hw_2_79 rfl (v := .int (I 79 1)) rfl dX6_isThere_1 ?_
  have f_1 : zR (-1) 60 (I 79 1) := xI hI 79 1
  refine lv_iconst (v := (-1)) hx hb dX6_isThere_4 (by decide +kernel) ?_
  refine lv_icmp_eq (tgt := 12) hx hb dX6_isThere_5 (by decide) (fun c_2 => ?_) (fun c_2 => ?_)
  · have t_c_2 := z_eqT c_2
    have f_3 : zR (-1) (-1) (I 79 1) := zR_eqx t_c_2 zk_m1
    refine lv_iconst (v := nI 0) hx hb dX6_isThere_12 (by decide +kernel) ?_
    exact z_zret (v := nI 0) hx hb hr hlocks hP hD hS (by decide +kernel) dX6_isThere_13 (Or.inr ⟨rfl, rfl, t_c_2.trans (by decide +kernel)⟩)
  · have t_c_2 := z_eqF c_2
    have f_4 : zR 0 60 (I 79 1) := zR_nex t_c_2 f_1 zk_m1 (by decide)
    refine lv_iconst (v := nI 1) hx hb dX6_isThere_8 (by decide +kernel) ?_
    refine lv_goto (tgt := 13) hx hb dX6_isThere_9 (by decide) ?_
    exact z_zret (v := nI 1) hx hb hr hlocks hP hD hS (by decide +kernel) dX6_isThere_13 (Or.inl ⟨rfl, rfl, fun h => t_c_2 (h.trans (by decide +kernel))⟩)
set_option maxHeartbeats 4000000 in
set_option maxRecDepth 100000 in
theorem xk_X1_isSound_3 (l : Launch) (D : va_G) (q : Nat → Nat) (cA : Nat → ClassId) (F : Nat → Nat → Int32) (I R : Nat → Nat → Int32) (J : Nat → Nat → Int64) (hI : xInv F (I, R, J))  : zMi l D vwCl (zXtys cA) 81 q (zXd q cA) yX1_isSound cX1_isSound 4 (some .boolean) ({ frames := 1, cells := 0, slots := 0, locals := 23 } : Room) [.ref (q 46), .ref (q 79), .ref (q 3)] (I, R, J) (fun r u => (r = nI 1 ∧ u = (I, R, J) ∧ xSound (J 80) (F 79 1)) ∨ (r = nI 0 ∧ u = (I, R, J) ∧ True)) := by
  intro sz
  refine z_body (by decide +kernel) (Nat.le_of_ble_eq_true rfl) (fun p e s m below meth c ls hx hb hml hr ht hown hlocks hsz hK hP hD hS hl => ?_)
  have hA : ∀ a, s.heap.size ≤ a → zA 81 q sz a := fun a h => Or.inr (hsz ▸ h)
  have hl : lv_has ls 4 [(0, .ref (q 46)), (1, .ref (q 79)), (2, .ref (q 3))] := hl
  refine lv_aload_n hx hb dX1_isSound_0 rfl (lv_at hl 1 rfl) ?_
  refine z_get hx hb ht hown hK hP ziX6 rfl 79 (by decide) 1 (by decide) hw_2_80 rfl (v := .int (I 79 1)) rfl dX1_isSound_1 ?_
  have f_1 : zR (-1) 60 (I 79 1) := xI hI 79 1
  refine lv_iconst (v := nI 4) hx hb dX1_isSound_4 (by decide +kernel) ?_
  refine lv_irem hx hb dX1_isSound_5 (by decide +kernel) ?_
  refine z_any (fun v_2 => ?_)
  refine lv_if_eq (tgt := 11) hx hb dX1_isSound_6 (by decide) (fun c_3 => ?_) (fun c_3 => ?_)
  · have t_c_3 := z_eqT c_3
    have f_4 : zR 0 0 (v_2) := zR_eqx t_c_3 zk_z
    refine lv_iconst (v := nI 0) hx hb dX1_isSound_11 (by decide +kernel) ?_
    refine lv_istore_n (lv' := [(3, .int (nI 0)), (0, .ref (q 46)), (1, .ref (q 79)), (2, .ref (q 3))]) hx hb dX1_isSound_12 rfl hl (by decide) rfl (fun ls hl => ?_)
    have loop_75 : ∀ N : Nat, ∀ x_73 : Int32, zR 0 60 x_73 → (xSnd (J 80) (x_73)) → (2147483648 - (x_73).toInt).toNat < N → ∀ (H : Heap) (locs : List Loc), va_P D vwCl (zw 81 q (zXd q cA) I R J) H → va_D (zA 81 q sz) (zw 81 q (zXd q cA) I R J) → va_S (zA 81 q sz) s.heap H locs → ∀ ls : Array Slot, lv_has ls 4 [(0, .ref (q 46)), (1, .ref (q 79)), (2, .ref (q 3)), (3, .int (x_73))] → W p l e ({ frames := 1, cells := 0, slots := 0, locals := 23 } : Room) s m ([.ref (q 46), .ref (q 79), .ref (q 3)] : List Value).toArray below meth c H locs 0 0 (MQ below (va_Qi (fun r u => (r = nI 1 ∧ u = (I, R, J) ∧ xSound (J 80) (F 79 1)) ∨ (r = nI 0 ∧ u = (I, R, J) ∧ True)) (zB D vwCl 81 q (zXd q cA) sz) (zA 81 q sz)) ([.ref (q 46), .ref (q 79), .ref (q 3)] : List Value).toArray s 0 0 (zA 81 q sz)) (F0 m 13 ls []) := by
      intro N
      induction N with
      | zero => intro x_73 hx_73 hx_74 hN; exact absurd hN (Nat.not_lt_zero _)
      | succ N ih_77 =>
        intro x_73 hx_73 hx_74 hN_76 H locs hP hD hS ls hl
        refine lv_iload_n hx hb dX1_isSound_13 rfl (lv_at hl 3 rfl) ?_
        refine lv_iconst (v := nI 4) hx hb dX1_isSound_14 (by decide +kernel) ?_
        refine lv_iadd hx hb dX1_isSound_15 ?_
        refine z_addc 4 64 hx_73 zk_4 (by decide) (fun v_78 hv_78 mv_78 => ?_)
        refine lv_aload_n hx hb dX1_isSound_16 rfl (lv_at hl 1 rfl) ?_
        refine z_get hx hb ht hown hK hP ziX6 rfl 79 (by decide) 1 (by decide) hw_2_80 rfl (v := .int (I 79 1)) rfl dX1_isSound_17 ?_
        refine lv_icmp_gt (tgt := 106) hx hb dX1_isSound_20 (by decide) (fun c_79 => ?_) (fun c_79 => ?_)
        · have t_c_79 := z_ltT c_79
          refine lv_iconst (v := nI 1) hx hb dX1_isSound_106 (by decide +kernel) ?_
          exact z_zret (v := nI 1) hx hb hr hlocks hP hD hS (by decide +kernel) dX1_isSound_107 (Or.inl ⟨rfl, rfl, (xFr hI 79 1 rfl) ▸ xSnd_end hx_74 mv_78 t_c_79⟩)
        · have t_c_79 := z_ltF c_79
          have f_80 : zR 4 60 (v_78) := zR_lex t_c_79 hv_78 f_1 (by decide)
          have f_81 : zR 0 56 (x_73) := zR_shift mv_78 f_80 (by decide)
          have f_82 : zR 4 60 (I 79 1) := zR_ley t_c_79 hv_78 f_1 (by decide)
          refine lv_aload_n hx hb dX1_isSound_23 rfl (lv_at hl 1 rfl) ?_
          refine z_get hx hb ht hown hK hP ziX6 rfl 79 (by decide) 2 (by decide) hw_2_83 rfl (v := .ref (q 80)) rfl dX1_isSound_24 ?_
          refine lv_iload_n hx hb dX1_isSound_27 rfl (lv_at hl 3 rfl) ?_
          refine z_lald hx hb hK hP 80 (by decide) 56 rfl rfl (zR_vin f_81 (by decide)) dX1_isSound_28 ?_
          refine z_eql (y := J 80 (x_73).toNatClampNeg) rfl ?_
          refine lv_iconst (v := nI 0) hx hb dX1_isSound_29 (by decide +kernel) ?_
          refine lv_aload_n hx hb dX1_isSound_30 rfl (lv_at hl 2 rfl) ?_
          refine z_get hx hb ht hown hK hP ziX2 rfl 3 (by decide) 4 (by decide) hw_1_82 rfl (v := .int (I 3 4)) rfl dX1_isSound_31 ?_
          have f_83 : zR 0 5 (I 3 4) := xI hI 3 4
          refine lv_iconst (v := nI 1) hx hb dX1_isSound_34 (by decide +kernel) ?_
          refine lv_isub hx hb dX1_isSound_35 ?_
          refine z_subc (-1) 4 (-1) f_83 zk_1 (by decide) (fun v_84 hv_84 mv_84 => ?_)
          refine z_callSi (As := [.long (J 80 (x_73).toNatClampNeg), .int (nI 0), .int (v_84)]) (rest := []) hx hb hml hown ht (xk_X1_isWithin l D q cA F _ _ _ hI (J 80 (x_73).toNatClampNeg) (nI 0) (zR_w zk_0 (by decide)) (v_84) hv_84) hw_5_71 hmX1_isWithin ⟨rfl, rfl⟩ (na := 3) rfl (by decide +kernel) (by decide) hK hP hD hS hA hl.1 rfl (Nat.le_of_ble_eq_true rfl) ⟨Nat.zero_le _, Nat.zero_le _⟩ dX1_isSound_36 (fun r_85 I_85 R_85 J_85 H locs hp_85 hP hD hS _ _ => ?_)
          rcases hp_85 with ⟨rfl, hu_85, f0_85, f2_85⟩ | ⟨rfl, hu_85⟩
          · cases hu_85
            refine lv_if_eq (tgt := 98) hx hb dX1_isSound_39 (by decide) (fun c_0 => absurd c_0 (zD_ne zk_1 zk_z (by decide))) (fun _ => ?_)
            refine lv_aload_n hx hb dX1_isSound_42 rfl (lv_at hl 1 rfl) ?_
            refine z_get hx hb ht hown hK hP ziX6 rfl 79 (by decide) 2 (by decide) hw_2_83 rfl (v := .ref (q 80)) rfl dX1_isSound_43 ?_
            refine lv_iload_n hx hb dX1_isSound_46 rfl (lv_at hl 3 rfl) ?_
            refine lv_iconst (v := nI 1) hx hb dX1_isSound_47 (by decide +kernel) ?_
            refine lv_iadd hx hb dX1_isSound_48 ?_
            refine z_addc 1 57 f_81 zk_1 (by decide) (fun v_86 hv_86 mv_86 => ?_)
            refine z_lald hx hb hK hP 80 (by decide) 56 rfl rfl (zR_vin hv_86 (by decide)) dX1_isSound_49 ?_
            refine z_eql (y := J 80 (v_86).toNatClampNeg) rfl ?_
            refine lv_iconst (v := nI 0) hx hb dX1_isSound_50 (by decide +kernel) ?_
            refine lv_aload_n hx hb dX1_isSound_51 rfl (lv_at hl 2 rfl) ?_
            refine z_get hx hb ht hown hK hP ziX2 rfl 3 (by decide) 5 (by decide) hw_1_88 rfl (v := .int (I 3 5)) rfl dX1_isSound_52 ?_
            have f_87 : zR 0 6 (I 3 5) := xI hI 3 5
            refine lv_iconst (v := nI 1) hx hb dX1_isSound_55 (by decide +kernel) ?_
            refine lv_isub hx hb dX1_isSound_56 ?_
            refine z_subc (-1) 5 (-1) f_87 zk_1 (by decide) (fun v_88 hv_88 mv_88 => ?_)
            refine z_callSi (As := [.long (J 80 (v_86).toNatClampNeg), .int (nI 0), .int (v_88)]) (rest := []) hx hb hml hown ht (xk_X1_isWithin_1 l D q cA F _ _ _ hI (J 80 (v_86).toNatClampNeg) (nI 0) (zR_w zk_0 (by decide)) (v_88) hv_88) hw_5_71 hmX1_isWithin ⟨rfl, rfl⟩ (na := 3) rfl (by decide +kernel) (by decide) hK hP hD hS hA hl.1 rfl (Nat.le_of_ble_eq_true rfl) ⟨Nat.zero_le _, Nat.zero_le _⟩ dX1_isSound_57 (fun r_89 I_89 R_89 J_89 H locs hp_89 hP hD hS _ _ => ?_)
            rcases hp_89 with ⟨rfl, hu_89, f0_89, f2_89⟩ | ⟨rfl, hu_89⟩
            · cases hu_89
              refine lv_if_eq (tgt := 98) hx hb dX1_isSound_60 (by decide) (fun c_0 => absurd c_0 (zD_ne zk_1 zk_z (by decide))) (fun _ => ?_)
              refine lv_aload_n hx hb dX1_isSound_63 rfl (lv_at hl 1 rfl) ?_
              refine z_get hx hb ht hown hK hP ziX6 rfl 79 (by decide) 2 (by decide) hw_2_83 rfl (v := .ref (q 80)) rfl dX1_isSound_64 ?_
              refine lv_iload_n hx hb dX1_isSound_67 rfl (lv_at hl 3 rfl) ?_
              refine lv_iconst (v := nI 2) hx hb dX1_isSound_68 (by decide +kernel) ?_
              refine lv_iadd hx hb dX1_isSound_69 ?_
              refine z_addc 2 58 f_81 zk_2 (by decide) (fun v_90 hv_90 mv_90 => ?_)
              refine z_lald hx hb hK hP 80 (by decide) 56 rfl rfl (zR_vin hv_90 (by decide)) dX1_isSound_70 ?_
              refine z_eql (y := J 80 (v_90).toNatClampNeg) rfl ?_
              refine lv_iconst (v := nI 0) hx hb dX1_isSound_71 (by decide +kernel) ?_
              refine lv_sipush (v := nI 9999) hx hb dX1_isSound_72 (by decide +kernel) ?_
              refine z_callSi (As := [.long (J 80 (v_90).toNatClampNeg), .int (nI 0), .int (nI 9999)]) (rest := []) hx hb hml hown ht (xk_X1_isWithin_2 l D q cA F _ _ _ hI (J 80 (v_90).toNatClampNeg) (nI 0) (zR_w zk_0 (by decide)) (nI 9999) (zR_w zk_9999 (by decide))) hw_5_71 hmX1_isWithin ⟨rfl, rfl⟩ (na := 3) rfl (by decide +kernel) (by decide) hK hP hD hS hA hl.1 rfl (Nat.le_of_ble_eq_true rfl) ⟨Nat.zero_le _, Nat.zero_le _⟩ dX1_isSound_75 (fun r_91 I_91 R_91 J_91 H locs hp_91 hP hD hS _ _ => ?_)
              rcases hp_91 with ⟨rfl, hu_91, f0_91⟩ | ⟨rfl, hu_91⟩
              · cases hu_91
                refine lv_if_eq (tgt := 98) hx hb dX1_isSound_78 (by decide) (fun c_0 => absurd c_0 (zD_ne zk_1 zk_z (by decide))) (fun _ => ?_)
                refine lv_aload_n hx hb dX1_isSound_81 rfl (lv_at hl 1 rfl) ?_
                refine z_get hx hb ht hown hK hP ziX6 rfl 79 (by decide) 2 (by decide) hw_2_83 rfl (v := .ref (q 80)) rfl dX1_isSound_82 ?_
                refine lv_iload_n hx hb dX1_isSound_85 rfl (lv_at hl 3 rfl) ?_
                refine lv_iconst (v := nI 3) hx hb dX1_isSound_86 (by decide +kernel) ?_
                refine lv_iadd hx hb dX1_isSound_87 ?_
                refine z_addc 3 59 f_81 zk_3 (by decide) (fun v_92 hv_92 mv_92 => ?_)
                refine z_lald hx hb hK hP 80 (by decide) 56 rfl rfl (zR_vin hv_92 (by decide)) dX1_isSound_88 ?_
                refine z_eql (y := J 80 (v_92).toNatClampNeg) rfl ?_
                refine lv_iconst (v := nI 1) hx hb dX1_isSound_89 (by decide +kernel) ?_
                refine lv_bipush (v := nI 60) hx hb dX1_isSound_90 (by decide +kernel) ?_
                refine z_callSi (As := [.long (J 80 (v_92).toNatClampNeg), .int (nI 1), .int (nI 60)]) (rest := []) hx hb hml hown ht (xk_X1_isWithin_3 l D q cA F _ _ _ hI (J 80 (v_92).toNatClampNeg) (nI 1) (zR_w zk_1 (by decide)) (nI 60) (zR_w zk_60 (by decide))) hw_5_71 hmX1_isWithin ⟨rfl, rfl⟩ (na := 3) rfl (by decide +kernel) (by decide) hK hP hD hS hA hl.1 rfl (Nat.le_of_ble_eq_true rfl) ⟨Nat.zero_le _, Nat.zero_le _⟩ dX1_isSound_92 (fun r_93 I_93 R_93 J_93 H locs hp_93 hP hD hS _ _ => ?_)
                rcases hp_93 with ⟨rfl, hu_93, f0_93⟩ | ⟨rfl, hu_93⟩
                · cases hu_93
                  refine lv_if_ne (tgt := 100) hx hb dX1_isSound_95 (by decide) (fun _ => ?_) (fun c_0 => absurd c_0 (zD_ne zk_1 zk_z (by decide)))
                  obtain ⟨v_94, ev_94⟩ : ∃ y : Int32, y = x_73 + nI 4 := ⟨_, rfl⟩
                  have hv_94 : zR 4 60 v_94 := ev_94 ▸ zR_add f_81 zk_4 (by decide)
                  have mv_94 : v_94.toInt = (x_73).toInt + 4 := by rw [ev_94, zR_addE f_81 zk_4 (by decide)]; rfl
                  refine lv_iinc (v := v_94) (lv' := [(3, .int (v_94)), (0, .ref (q 46)), (1, .ref (q 79)), (2, .ref (q 3))]) hx hb dX1_isSound_100 hl (k := 3) rfl (ev_94 ▸ rfl) (by decide) rfl (fun ls hl => ?_)
                  refine lv_goto (tgt := 13) hx hb dX1_isSound_103 (by decide) ?_
                  exact ih_77 (v_94) (zR_w hv_94 (by decide)) (xSnd_step hx_74 f0_89 mv_86 mv_94) (z2_up mv_94 (by decide) hN_76) _ _ hP hD hS _ (lv_sub hl [1, 2, 3, 0] rfl)
                · cases hu_93
                  refine lv_if_ne (tgt := 100) hx hb dX1_isSound_95 (by decide) (fun c_0 => absurd (zD_eq zk_0 zk_z) c_0) (fun _ => ?_)
                  refine lv_iconst (v := nI 0) hx hb dX1_isSound_98 (by decide +kernel) ?_
                  exact z_zret (v := nI 0) hx hb hr hlocks hP hD hS (by decide +kernel) dX1_isSound_99 (Or.inr ⟨rfl, rfl, trivial⟩)
              · cases hu_91
                refine lv_if_eq (tgt := 98) hx hb dX1_isSound_78 (by decide) (fun _ => ?_) (fun c_0 => absurd (zD_eq zk_0 zk_z) c_0)
                refine lv_iconst (v := nI 0) hx hb dX1_isSound_98 (by decide +kernel) ?_
                exact z_zret (v := nI 0) hx hb hr hlocks hP hD hS (by decide +kernel) dX1_isSound_99 (Or.inr ⟨rfl, rfl, trivial⟩)
            · cases hu_89
              refine lv_if_eq (tgt := 98) hx hb dX1_isSound_60 (by decide) (fun _ => ?_) (fun c_0 => absurd (zD_eq zk_0 zk_z) c_0)
              refine lv_iconst (v := nI 0) hx hb dX1_isSound_98 (by decide +kernel) ?_
              exact z_zret (v := nI 0) hx hb hr hlocks hP hD hS (by decide +kernel) dX1_isSound_99 (Or.inr ⟨rfl, rfl, trivial⟩)
          · cases hu_85
            refine lv_if_eq (tgt := 98) hx hb dX1_isSound_39 (by decide) (fun _ => ?_) (fun c_0 => absurd (zD_eq zk_0 zk_z) c_0)
            refine lv_iconst (v := nI 0) hx hb dX1_isSound_98 (by decide +kernel) ?_
            exact z_zret (v := nI 0) hx hb hr hlocks hP hD hS (by decide +kernel) dX1_isSound_99 (Or.inr ⟨rfl, rfl, trivial⟩)
    exact loop_75 _ (nI 0) (zR_w zk_0 (by decide)) xSnd_0 (Nat.lt_succ_self _) _ _ hP hD hS _ (lv_sub hl [1, 2, 3, 0] rfl)
  · have t_c_3 := z_eqF c_3
    refine lv_iconst (v := nI 0) hx hb dX1_isSound_9 (by decide +kernel) ?_
    exact z_zret (v := nI 0) hx hb hr hlocks hP hD hS (by decide +kernel) dX1_isSound_10 (Or.inr ⟨rfl, rfl, trivial⟩)
set_option maxHeartbeats 4000000 in
set_option maxRecDepth 100000 in
theorem xk_X1_alike_11 (l : Launch) (D : va_G) (q : Nat → Nat) (cA : Nat → ClassId) (F : Nat → Nat → Int32) (I R : Nat → Nat → Int32) (J : Nat → Nat → Int64) (hI : xInv F (I, R, J)) (pa1 : Int32) (hpa1 : zR 0 56 pa1) : zMi l D vwCl (zXtys cA) 81 q (zXd q cA) yX1_alike cX1_alike 5 (some .int) ({ frames := 1, cells := 0, slots := 0, locals := 21 } : Room) [.ref (q 79), .int (pa1), .ref (q 15)] (I, R, J) (fun r u => zR 0 16777215 r ∧ u = (I, R, J)) := by
  intro sz
  refine z_body (by decide +kernel) (Nat.le_of_ble_eq_true rfl) (fun p e s m below meth c ls hx hb hml hr ht hown hlocks hsz hK hP hD hS hl => ?_)
  have hA : ∀ a, s.heap.size ≤ a → zA 81 q sz a := fun a h => Or.inr (hsz ▸ h)
  have hl : lv_has ls 5 [(0, .ref (q 79)), (1, .int (pa1)), (2, .ref (q 15))] := hl
  refine lv_iconst (v := nI 0) hx hb dX1_alike_0 (by decide +kernel) ?_
  refine lv_istore_n (lv' := [(3, .int (nI 0)), (0, .ref (q 79)), (1, .int (pa1)), (2, .ref (q 15))]) hx hb dX1_alike_1 rfl hl (by decide) rfl (fun ls hl => ?_)
  refine lv_iconst (v := nI 0) hx hb dX1_alike_2 (by decide +kernel) ?_
  refine lv_istore (lv' := [(4, .int (nI 0)), (3, .int (nI 0)), (0, .ref (q 79)), (1, .int (pa1)), (2, .ref (q 15))]) hx hb dX1_alike_3 hl (by decide) rfl (fun ls hl => ?_)
  have loop_103 : ∀ N : Nat, ∀ x_101 : Int32, zR 0 16777215 x_101 → ∀ x_102 : Int32, zR 0 24 x_102 → (2147483648 - (x_102).toInt).toNat < N → ∀ (H : Heap) (locs : List Loc), va_P D vwCl (zw 81 q (zXd q cA) I R J) H → va_D (zA 81 q sz) (zw 81 q (zXd q cA) I R J) → va_S (zA 81 q sz) s.heap H locs → ∀ ls : Array Slot, lv_has ls 5 [(0, .ref (q 79)), (1, .int (pa1)), (2, .ref (q 15)), (3, .int (x_101)), (4, .int (x_102))] → W p l e ({ frames := 1, cells := 0, slots := 0, locals := 21 } : Room) s m ([.ref (q 79), .int (pa1), .ref (q 15)] : List Value).toArray below meth c H locs 0 0 (MQ below (va_Qi (fun r u => zR 0 16777215 r ∧ u = (I, R, J)) (zB D vwCl 81 q (zXd q cA) sz) (zA 81 q sz)) ([.ref (q 79), .int (pa1), .ref (q 15)] : List Value).toArray s 0 0 (zA 81 q sz)) (F0 m 5 ls []) := by
    intro N
    induction N with
    | zero => intro x_101 hx_101 x_102 hx_102 hN; exact absurd hN (Nat.not_lt_zero _)
    | succ N ih_105 =>
      intro x_101 hx_101 x_102 hx_102 hN_104 H locs hP hD hS ls hl
      refine lv_iload hx hb dX1_alike_5 (lv_at hl 4 rfl) ?_
      refine lv_aload_n hx hb dX1_alike_7 rfl (lv_at hl 2 rfl) ?_
      refine z_get hx hb ht hown hK hP ziX9 rfl 15 (by decide) 2 (by decide) hw_1_161 rfl (v := .int (I 15 2)) rfl dX1_alike_8 ?_
      have f_106 : zR 0 24 (I 15 2) := xI hI 15 2
      refine lv_icmp_ge (tgt := 94) hx hb dX1_alike_11 (by decide) (fun c_107 => ?_) (fun c_107 => ?_)
      · have t_c_107 := z_leT c_107
        refine lv_iload_n hx hb dX1_alike_94 rfl (lv_at hl 3 rfl) ?_
        exact z_iret (v := x_101) hx hb hr hlocks hP hD hS dX1_alike_95 ⟨hx_101, rfl⟩
      · have t_c_107 := z_leF c_107
        have f_108 : zR 0 23 (x_102) := zR_ltx t_c_107 hx_102 f_106 (by decide)
        have f_109 : zR 1 24 (I 15 2) := zR_lty t_c_107 hx_102 f_106 (by decide)
        refine lv_aload_n hx hb dX1_alike_14 rfl (lv_at hl 2 rfl) ?_
        refine lv_iload hx hb dX1_alike_15 (lv_at hl 4 rfl) ?_
        have t_124 : ∀ x_123 : Int32, zR 0 16777215 x_123 → ∀ (H : Heap) (locs : List Loc), va_P D vwCl (zw 81 q (zXd q cA) I R J) H → va_D (zA 81 q sz) (zw 81 q (zXd q cA) I R J) → va_S (zA 81 q sz) s.heap H locs → ∀ ls : Array Slot, lv_has ls 5 [(0, .ref (q 79)), (1, .int (pa1)), (2, .ref (q 15)), (3, .int (x_123)), (4, .int (x_102))] → W p l e ({ frames := 1, cells := 0, slots := 0, locals := 21 } : Room) s m ([.ref (q 79), .int (pa1), .ref (q 15)] : List Value).toArray below meth c H locs 0 0 (MQ below (va_Qi (fun r u => zR 0 16777215 r ∧ u = (I, R, J)) (zB D vwCl 81 q (zXd q cA) sz) (zA 81 q sz)) ([.ref (q 79), .int (pa1), .ref (q 15)] : List Value).toArray s 0 0 (zA 81 q sz)) (F0 m 88 ls []) := by
          intro x_123 hx_123 H locs hP hD hS ls hl
          obtain ⟨v_125, ev_125⟩ : ∃ y : Int32, y = x_102 + nI 1 := ⟨_, rfl⟩
          have hv_125 : zR 1 24 v_125 := ev_125 ▸ zR_add f_108 zk_1 (by decide)
          have mv_125 : v_125.toInt = (x_102).toInt + 1 := by rw [ev_125, zR_addE f_108 zk_1 (by decide)]; rfl
          refine lv_iinc (v := v_125) (lv' := [(4, .int (v_125)), (0, .ref (q 79)), (1, .int (pa1)), (2, .ref (q 15)), (3, .int (x_123))]) hx hb dX1_alike_88 hl (k := 4) rfl (ev_125 ▸ rfl) (by decide) rfl (fun ls hl => ?_)
          refine lv_goto (tgt := 5) hx hb dX1_alike_91 (by decide) ?_
          exact ih_105 (x_123) hx_123 (v_125) (zR_w hv_125 (by decide)) (z2_up mv_125 (by decide) hN_104) _ _ hP hD hS _ (lv_sub hl [1, 2, 3, 4, 0] rfl)
        refine z_callVi (k := 15) (As := [.int (x_102)]) (rest := []) hx hb hml hown ht (xk_X9_isOpen_1 l D q cA F _ _ _ hI (x_102) f_108) hw_5_82 hmX9_isOpen ⟨rfl, rfl⟩ (na := 1) rfl (by decide +kernel) (by decide) (by decide) rfl rfl hK hP hD hS hA hl.1 rfl (Nat.le_of_ble_eq_true rfl) ⟨Nat.zero_le _, Nat.zero_le _⟩ dX1_alike_17 (fun r_110 I_110 R_110 J_110 H locs hp_110 hP hD hS _ _ => ?_)
        rcases hp_110 with ⟨rfl, hu_110⟩ | ⟨rfl, hu_110⟩
        · cases hu_110
          refine lv_if_eq (tgt := 88) hx hb dX1_alike_20 (by decide) (fun c_0 => absurd c_0 (zD_ne zk_1 zk_z (by decide))) (fun _ => ?_)
          refine lv_aload_n hx hb dX1_alike_23 rfl (lv_at hl 2 rfl) ?_
          refine z_get hx hb ht hown hK hP ziX9 rfl 15 (by decide) 7 (by decide) hw_1_173 rfl (v := .ref (q 19)) rfl dX1_alike_24 ?_
          refine lv_iload hx hb dX1_alike_27 (lv_at hl 4 rfl) ?_
          refine z_iald hx hb hK hP 19 (by decide) 13 rfl rfl (zR_vin f_108 (by decide)) dX1_alike_29 ?_
          refine z_eqi (y := R 19 (x_102).toNatClampNeg) rfl ?_
          have f_126 : zR 0 4 (R 19 (x_102).toNatClampNeg) := xR hI 19 (x_102).toNatClampNeg
          refine lv_i2l (v := (R 19 (x_102).toNatClampNeg).toInt64) hx hb dX1_alike_30 rfl ?_
          refine lv_aload_n hx hb dX1_alike_31 rfl (lv_at hl 0 rfl) ?_
          refine z_get hx hb ht hown hK hP ziX6 rfl 79 (by decide) 2 (by decide) hw_2_83 rfl (v := .ref (q 80)) rfl dX1_alike_32 ?_
          refine lv_iload_n hx hb dX1_alike_35 rfl (lv_at hl 1 rfl) ?_
          refine z_lald hx hb hK hP 80 (by decide) 56 rfl rfl (zR_vin hpa1 (by decide)) dX1_alike_36 ?_
          refine z_eql (y := J 80 (pa1).toNatClampNeg) rfl ?_
          refine W.lcmp hx hb dX1_alike_37 ?_
          refine lv_if_ne (tgt := 88) hx hb dX1_alike_38 (by decide) (fun c_127 => ?_) (fun c_127 => ?_)
          · have t_c_127 := z_leqF (fun h => c_127 ((lg_cmp_eq _ _).mpr h))
            exact t_124 (x_101) hx_101 _ _ hP hD hS _ (lv_sub hl [0, 1, 2, 3, 4] rfl)
          · have t_c_127 := z_leqT ((lg_cmp_eq _ _).mp c_127)
            have f_128 : zL 0 4 (J 80 (pa1).toNatClampNeg) := zL_eqy t_c_127 (zR_i2l f_126)
            refine lv_aload_n hx hb dX1_alike_41 rfl (lv_at hl 2 rfl) ?_
            refine z_get hx hb ht hown hK hP ziX9 rfl 15 (by decide) 8 (by decide) hw_1_177 rfl (v := .ref (q 20)) rfl dX1_alike_42 ?_
            refine lv_iload hx hb dX1_alike_45 (lv_at hl 4 rfl) ?_
            refine z_iald hx hb hK hP 20 (by decide) 14 rfl rfl (zR_vin f_108 (by decide)) dX1_alike_47 ?_
            refine z_eqi (y := R 20 (x_102).toNatClampNeg) rfl ?_
            have f_129 : zR 0 5 (R 20 (x_102).toNatClampNeg) := xR hI 20 (x_102).toNatClampNeg
            refine lv_i2l (v := (R 20 (x_102).toNatClampNeg).toInt64) hx hb dX1_alike_48 rfl ?_
            refine lv_aload_n hx hb dX1_alike_49 rfl (lv_at hl 0 rfl) ?_
            refine z_get hx hb ht hown hK hP ziX6 rfl 79 (by decide) 2 (by decide) hw_2_83 rfl (v := .ref (q 80)) rfl dX1_alike_50 ?_
            refine lv_iload_n hx hb dX1_alike_53 rfl (lv_at hl 1 rfl) ?_
            refine lv_iconst (v := nI 1) hx hb dX1_alike_54 (by decide +kernel) ?_
            refine lv_iadd hx hb dX1_alike_55 ?_
            refine z_addc 1 57 hpa1 zk_1 (by decide) (fun v_130 hv_130 mv_130 => ?_)
            refine z_lald hx hb hK hP 80 (by decide) 56 rfl rfl (zR_vin hv_130 (by decide)) dX1_alike_56 ?_
            refine z_eql (y := J 80 (v_130).toNatClampNeg) rfl ?_
            refine W.lcmp hx hb dX1_alike_57 ?_
            refine lv_if_ne (tgt := 88) hx hb dX1_alike_58 (by decide) (fun c_131 => ?_) (fun c_131 => ?_)
            · have t_c_131 := z_leqF (fun h => c_131 ((lg_cmp_eq _ _).mpr h))
              exact t_124 (x_101) hx_101 _ _ hP hD hS _ (lv_sub hl [0, 1, 2, 3, 4] rfl)
            · have t_c_131 := z_leqT ((lg_cmp_eq _ _).mp c_131)
              have f_132 : zL 0 5 (J 80 (v_130).toNatClampNeg) := zL_eqy t_c_131 (zR_i2l f_129)
              refine lv_aload_n hx hb dX1_alike_61 rfl (lv_at hl 2 rfl) ?_
              refine z_get hx hb ht hown hK hP ziX9 rfl 15 (by decide) 10 (by decide) hw_1_183 rfl (v := .ref (q 22)) rfl dX1_alike_62 ?_
              refine lv_iload hx hb dX1_alike_65 (lv_at hl 4 rfl) ?_
              refine z_iald hx hb hK hP 22 (by decide) 16 rfl rfl (zR_vin f_108 (by decide)) dX1_alike_67 ?_
              refine z_eqi (y := R 22 (x_102).toNatClampNeg) rfl ?_
              refine lv_i2l (v := (R 22 (x_102).toNatClampNeg).toInt64) hx hb dX1_alike_68 rfl ?_
              refine lv_aload_n hx hb dX1_alike_69 rfl (lv_at hl 0 rfl) ?_
              refine z_get hx hb ht hown hK hP ziX6 rfl 79 (by decide) 2 (by decide) hw_2_83 rfl (v := .ref (q 80)) rfl dX1_alike_70 ?_
              refine lv_iload_n hx hb dX1_alike_73 rfl (lv_at hl 1 rfl) ?_
              refine lv_iconst (v := nI 3) hx hb dX1_alike_74 (by decide +kernel) ?_
              refine lv_iadd hx hb dX1_alike_75 ?_
              refine z_addc 3 59 hpa1 zk_3 (by decide) (fun v_133 hv_133 mv_133 => ?_)
              refine z_lald hx hb hK hP 80 (by decide) 56 rfl rfl (zR_vin hv_133 (by decide)) dX1_alike_76 ?_
              refine z_eql (y := J 80 (v_133).toNatClampNeg) rfl ?_
              refine W.lcmp hx hb dX1_alike_77 ?_
              refine lv_if_ne (tgt := 88) hx hb dX1_alike_78 (by decide) (fun c_134 => ?_) (fun c_134 => ?_)
              · have t_c_134 := z_leqF (fun h => c_134 ((lg_cmp_eq _ _).mpr h))
                exact t_124 (x_101) hx_101 _ _ hP hD hS _ (lv_sub hl [0, 1, 2, 3, 4] rfl)
              · have t_c_134 := z_leqT ((lg_cmp_eq _ _).mp c_134)
                have f_135 : zL (-2147483648) 2147483647 (J 80 (v_133).toNatClampNeg) := zL_eqy t_c_134 (zR_i2l (zR_any (R 22 (x_102).toNatClampNeg)))
                refine lv_iload_n hx hb dX1_alike_81 rfl (lv_at hl 3 rfl) ?_
                refine lv_iconst (v := nI 1) hx hb dX1_alike_82 (by decide +kernel) ?_
                refine lv_iload hx hb dX1_alike_83 (lv_at hl 4 rfl) ?_
                refine lv_ishl hx hb dX1_alike_85 ?_
                refine z_rng (a := 1) (b := 8388608) (zR_shl1 23 f_108 (by decide)) (fun v_136 hv_136 => ?_)
                refine lv_ior hx hb dX1_alike_86 ?_
                refine z_rng (a := 0) (b := 16777215) (zR_or 24 hx_101 hv_136 (by decide)) (fun v_137 hv_137 => ?_)
                refine lv_istore_n (lv' := [(3, .int (v_137)), (0, .ref (q 79)), (1, .int (pa1)), (2, .ref (q 15)), (4, .int (x_102))]) hx hb dX1_alike_87 rfl hl (by decide) rfl (fun ls hl => ?_)
                exact t_124 (v_137) hv_137 _ _ hP hD hS _ (lv_sub hl [1, 2, 3, 0, 4] rfl)
        · cases hu_110
          refine lv_if_eq (tgt := 88) hx hb dX1_alike_20 (by decide) (fun _ => ?_) (fun c_0 => absurd (zD_eq zk_0 zk_z) c_0)
          exact t_124 (x_101) hx_101 _ _ hP hD hS _ (lv_sub hl [0, 1, 2, 3, 4] rfl)
  exact loop_103 _ (nI 0) (zR_w zk_0 (by decide)) (nI 0) (zR_w zk_0 (by decide)) (Nat.lt_succ_self _) _ _ hP hD hS _ (lv_sub hl [2, 3, 4, 1, 0] rfl)
set_option maxHeartbeats 4000000 in
set_option maxRecDepth 100000 in
theorem xk_X1_compare_3 (l : Launch) (D : va_G) (q : Nat → Nat) (cA : Nat → ClassId) (F : Nat → Nat → Int32) (I R : Nat → Nat → Int32) (J : Nat → Nat → Int64) (hI : xInv F (I, R, J)) (hs : xSound (J 80) (F 79 1)) : zMv l D vwCl (zXtys cA) 81 q (zXd q cA) yX1_compare cX1_compare 9 none ({ frames := 2, cells := 0, slots := 0, locals := 45 } : Room) [.ref (q 46), .ref (q 79), .ref (q 15)] (I, R, J) (fun u => xInv F u) := by
  intro sz
  refine z_body (by decide +kernel) (Nat.le_of_ble_eq_true rfl) (fun p e s m below meth c ls hx hb hml hr ht hown hlocks hsz hK hP hD hS hl => ?_)
  have hA : ∀ a, s.heap.size ≤ a → zA 81 q sz a := fun a h => Or.inr (hsz ▸ h)
  have hl : lv_has ls 9 [(0, .ref (q 46)), (1, .ref (q 79)), (2, .ref (q 15))] := hl
  refine lv_aload_n hx hb dX1_compare_0 rfl (lv_at hl 0 rfl) ?_
  refine lv_iconst (v := nI 0) hx hb dX1_compare_1 (by decide +kernel) ?_
  refine z_putI hx hb ht hown hK hP hD hS ziX1 tyX1 tyX1_ok nmX1 rfl 46 (by decide) 0 (by decide) hw_2_34 rfl (v := nI 0) rfl rfl rfl (Nat.le_of_ble_eq_true rfl) rfl dX1_compare_2 (fun H locs hP hD hS => ?_)
  have hI_1 := xInv_I hI 46 0 (nI 0) (zR_any (nI 0)) rfl
  refine lv_aload_n hx hb dX1_compare_5 rfl (lv_at hl 0 rfl) ?_
  refine lv_iconst (v := (-1)) hx hb dX1_compare_6 (by decide +kernel) ?_
  refine z_putI hx hb ht hown hK hP hD hS ziX1 tyX1 tyX1_ok nmX1 rfl 46 (by decide) 1 (by decide) hw_2_36 rfl (v := (-1)) rfl rfl rfl (Nat.le_of_ble_eq_true rfl) rfl dX1_compare_7 (fun H locs hP hD hS => ?_)
  have hI_2 := xInv_I hI_1 46 1 ((-1)) (zR_any ((-1))) rfl
  refine lv_aload_n hx hb dX1_compare_10 rfl (lv_at hl 0 rfl) ?_
  refine lv_iconst (v := nI 0) hx hb dX1_compare_11 (by decide +kernel) ?_
  refine z_putI hx hb ht hown hK hP hD hS ziX1 tyX1 tyX1_ok nmX1 rfl 46 (by decide) 2 (by decide) hw_2_38 rfl (v := nI 0) rfl rfl rfl (Nat.le_of_ble_eq_true rfl) rfl dX1_compare_12 (fun H locs hP hD hS => ?_)
  have hI_3 := xInv_I hI_2 46 2 (nI 0) (zR_any (nI 0)) rfl
  refine lv_aload_n hx hb dX1_compare_15 rfl (lv_at hl 2 rfl) ?_
  refine z_callVi (k := 15) (As := []) (rest := []) hx hb hml hown ht (xk_X9_openPapers l D q cA F _ _ _ hI_3 ) hw_5_78 hmX9_openPapers ⟨rfl, rfl⟩ (na := 0) rfl (by decide +kernel) (by decide) (by decide) rfl rfl hK hP hD hS hA hl.1 rfl (Nat.le_of_ble_eq_true rfl) ⟨Nat.zero_le _, Nat.zero_le _⟩ dX1_compare_16 (fun r_4 I_4 R_4 J_4 H locs hp_4 hP hD hS _ _ => ?_)
  obtain ⟨hr_4, hu_4⟩ := hp_4
  cases hu_4
  refine lv_istore_n (lv' := [(3, .int (r_4)), (0, .ref (q 46)), (1, .ref (q 79)), (2, .ref (q 15))]) hx hb dX1_compare_19 rfl hl (by decide) rfl (fun ls hl => ?_)
  refine lv_iconst (v := nI 0) hx hb dX1_compare_20 (by decide +kernel) ?_
  refine lv_istore (lv' := [(4, .int (nI 0)), (3, .int (r_4)), (0, .ref (q 46)), (1, .ref (q 79)), (2, .ref (q 15))]) hx hb dX1_compare_21 hl (by decide) rfl (fun ls hl => ?_)
  have loop_195 : ∀ N : Nat, ∀ x_191 : Int32, zR 0 16777215 x_191 → ∀ x_192 : Int32, zR 0 60 x_192 → ∀ I_193 : Nat → Nat → Int32, xInv F (I_193, R, J) → (xFour (x_192)) → (2147483648 - (x_192).toInt).toNat < N → ∀ (H : Heap) (locs : List Loc), va_P D vwCl (zw 81 q (zXd q cA) I_193 R J) H → va_D (zA 81 q sz) (zw 81 q (zXd q cA) I_193 R J) → va_S (zA 81 q sz) s.heap H locs → ∀ ls : Array Slot, lv_has ls 9 [(0, .ref (q 46)), (1, .ref (q 79)), (2, .ref (q 15)), (3, .int (x_191)), (4, .int (x_192))] → W p l e ({ frames := 2, cells := 0, slots := 0, locals := 45 } : Room) s m ([.ref (q 46), .ref (q 79), .ref (q 15)] : List Value).toArray below meth c H locs 0 0 (MQ below (va_Qv (fun u => xInv F u) (zB D vwCl 81 q (zXd q cA) sz) (zA 81 q sz)) ([.ref (q 46), .ref (q 79), .ref (q 15)] : List Value).toArray s 0 0 (zA 81 q sz)) (F0 m 23 ls []) := by
    intro N
    induction N with
    | zero => intro x_191 hx_191 x_192 hx_192 I_193 hI_193 hx_194 hN; exact absurd hN (Nat.not_lt_zero _)
    | succ N ih_197 =>
      intro x_191 hx_191 x_192 hx_192 I_193 hI_193 hx_194 hN_196 H locs hP hD hS ls hl
      refine lv_iload hx hb dX1_compare_23 (lv_at hl 4 rfl) ?_
      refine lv_iconst (v := nI 4) hx hb dX1_compare_25 (by decide +kernel) ?_
      refine lv_iadd hx hb dX1_compare_26 ?_
      refine z_addc 4 64 hx_192 zk_4 (by decide) (fun v_198 hv_198 mv_198 => ?_)
      refine lv_aload_n hx hb dX1_compare_27 rfl (lv_at hl 1 rfl) ?_
      refine z_get hx hb ht hown hK hP ziX6 rfl 79 (by decide) 1 (by decide) hw_2_80 rfl (v := .int (I_193 79 1)) rfl dX1_compare_28 ?_
      have f_199 : zR (-1) 60 (I_193 79 1) := xI hI_193 79 1
      refine lv_icmp_gt (tgt := 182) hx hb dX1_compare_31 (by decide) (fun c_200 => ?_) (fun c_200 => ?_)
      · have t_c_200 := z_ltT c_200
        exact z_vret hx hb hr hlocks hP hD hS dX1_compare_182 hI_193
      · have t_c_200 := z_ltF c_200
        have f_201 : zR 4 60 (v_198) := zR_lex t_c_200 hv_198 f_199 (by decide)
        have f_202 : zR 0 56 (x_192) := zR_shift mv_198 f_201 (by decide)
        have f_203 : zR 4 60 (I_193 79 1) := zR_ley t_c_200 hv_198 f_199 (by decide)
        refine lv_aload_n hx hb dX1_compare_34 rfl (lv_at hl 1 rfl) ?_
        refine lv_iload hx hb dX1_compare_35 (lv_at hl 4 rfl) ?_
        refine lv_aload_n hx hb dX1_compare_37 rfl (lv_at hl 2 rfl) ?_
        refine z_callSi (As := [.ref (q 79), .int (x_192), .ref (q 15)]) (rest := []) hx hb hml hown ht (xk_X1_alike_11 l D q cA F _ _ _ hI_193 (x_192) f_202) hw_5_79 hmX1_alike ⟨rfl, rfl⟩ (na := 3) rfl (by decide +kernel) (by decide) hK hP hD hS hA hl.1 rfl (Nat.le_of_ble_eq_true rfl) ⟨Nat.zero_le _, Nat.zero_le _⟩ dX1_compare_38 (fun r_204 I_204 R_204 J_204 H locs hp_204 hP hD hS _ _ => ?_)
        obtain ⟨hr_204, hu_204⟩ := hp_204
        cases hu_204
        refine lv_istore (lv' := [(5, .int (r_204)), (0, .ref (q 46)), (1, .ref (q 79)), (2, .ref (q 15)), (3, .int (x_191)), (4, .int (x_192))]) hx hb dX1_compare_41 hl (by decide) rfl (fun ls hl => ?_)
        refine lv_aload_n hx hb dX1_compare_43 rfl (lv_at hl 2 rfl) ?_
        refine z_get hx hb ht hown hK hP ziX6 rfl 79 (by decide) 2 (by decide) hw_2_83 rfl (v := .ref (q 80)) rfl dX1_compare_44 ?_
        refine lv_iload hx hb dX1_compare_47 (lv_at hl 5 rfl) ?_
        refine lv_iconst (v := nI 1) hx hb dX1_compare_49 (by decide +kernel) ?_
        refine lv_iadd hx hb dX1_compare_50 ?_
        refine z_addc 1 57 f_202 zk_1 (by decide) (fun v_205 hv_205 mv_205 => ?_)
        have f_206 : zL 0 5 (J 80 (v_205).toNatClampNeg) := xSound_at hs hx_194 mv_205 mv_198 t_c_200 (xFr hI_193 79 1 rfl)
        refine z_lald hx hb hK hP 80 (by decide) 56 rfl rfl (zR_vin hv_205 (by decide)) dX1_compare_51 ?_
        refine z_eql (y := J 80 (v_205).toNatClampNeg) rfl ?_
        refine lv_l2i hx hb dX1_compare_52 rfl ?_
        refine z_rng (a := 0) (b := 5) (zL_l2i f_206 (by decide)) (fun v_207 hv_207 => ?_)
        refine lv_istore (lv' := [(6, .int (v_207)), (5, .int (r_204)), (0, .ref (q 46)), (1, .ref (q 79)), (2, .ref (q 15)), (3, .int (x_191)), (4, .int (x_192))]) hx hb dX1_compare_53 hl (by decide) rfl (fun ls hl => ?_)
        refine lv_aload_n hx hb dX1_compare_55 rfl (lv_at hl 3 rfl) ?_
        refine z_get hx hb ht hown hK hP ziX6 rfl 79 (by decide) 2 (by decide) hw_2_83 rfl (v := .ref (q 80)) rfl dX1_compare_56 ?_
        refine lv_iload hx hb dX1_compare_59 (lv_at hl 6 rfl) ?_
        refine lv_iconst (v := nI 2) hx hb dX1_compare_61 (by decide +kernel) ?_
        refine lv_iadd hx hb dX1_compare_62 ?_
        refine z_addc 2 58 f_202 zk_2 (by decide) (fun v_208 hv_208 mv_208 => ?_)
        refine z_lald hx hb hK hP 80 (by decide) 56 rfl rfl (zR_vin hv_208 (by decide)) dX1_compare_63 ?_
        refine z_eql (y := J 80 (v_208).toNatClampNeg) rfl ?_
        refine lv_aload_n hx hb dX1_compare_64 rfl (lv_at hl 4 rfl) ?_
        refine z_get hx hb ht hown hK hP ziX9 rfl 15 (by decide) 0 (by decide) hw_1_155 rfl (v := .ref (q 3)) rfl dX1_compare_65 ?_
        refine z_get hx hb ht hown hK hP ziX2 rfl 3 (by decide) 9 (by decide) hw_1_105 rfl (v := .ref (q 6)) rfl dX1_compare_68 ?_
        refine lv_iload hx hb dX1_compare_71 (lv_at hl 0 rfl) ?_
        refine z_iald hx hb hK hP 6 (by decide) 3 rfl rfl (zR_vin hv_207 (by decide)) dX1_compare_73 ?_
        refine z_eqi (y := R 6 (v_207).toNatClampNeg) rfl ?_
        refine lv_i2l (v := (R 6 (v_207).toNatClampNeg).toInt64) hx hb dX1_compare_74 rfl ?_
        refine W.lcmp hx hb dX1_compare_75 ?_
        have t_212 : ∀ x_211 : Int32, zR 0 1 x_211 → ∀ (H : Heap) (locs : List Loc), va_P D vwCl (zw 81 q (zXd q cA) I_193 R J) H → va_D (zA 81 q sz) (zw 81 q (zXd q cA) I_193 R J) → va_S (zA 81 q sz) s.heap H locs → ∀ ls : Array Slot, lv_has ls 9 [(0, .ref (q 46)), (1, .ref (q 79)), (2, .ref (q 15)), (3, .int (x_191)), (4, .int (x_192)), (5, .int (r_204)), (6, .int (v_207))] → W p l e ({ frames := 2, cells := 0, slots := 0, locals := 45 } : Room) s m ([.ref (q 46), .ref (q 79), .ref (q 15)] : List Value).toArray below meth c H locs 0 0 (MQ below (va_Qv (fun u => xInv F u) (zB D vwCl 81 q (zXd q cA) sz) (zA 81 q sz)) ([.ref (q 46), .ref (q 79), .ref (q 15)] : List Value).toArray s 0 0 (zA 81 q sz)) (F0 m 84 ls [.int (x_211)]) := by
          intro x_211 hx_211 H locs hP hD hS ls hl
          refine lv_istore (lv' := [(7, .int (x_211)), (0, .ref (q 46)), (1, .ref (q 79)), (2, .ref (q 15)), (3, .int (x_191)), (4, .int (x_192)), (5, .int (r_204)), (6, .int (v_207))]) hx hb dX1_compare_84 hl (by decide) rfl (fun ls hl => ?_)
          refine lv_iload hx hb dX1_compare_86 (lv_at hl 0 rfl) ?_
          have t_218 : ∀ x_217 : Int32, zR 0 16777215 x_217 → ∀ (H : Heap) (locs : List Loc), va_P D vwCl (zw 81 q (zXd q cA) I_193 R J) H → va_D (zA 81 q sz) (zw 81 q (zXd q cA) I_193 R J) → va_S (zA 81 q sz) s.heap H locs → ∀ ls : Array Slot, lv_has ls 9 [(0, .ref (q 46)), (1, .ref (q 79)), (2, .ref (q 15)), (3, .int (x_191)), (4, .int (x_192)), (5, .int (r_204)), (6, .int (v_207)), (7, .int (x_211))] → W p l e ({ frames := 2, cells := 0, slots := 0, locals := 45 } : Room) s m ([.ref (q 46), .ref (q 79), .ref (q 15)] : List Value).toArray below meth c H locs 0 0 (MQ below (va_Qv (fun u => xInv F u) (zB D vwCl 81 q (zXd q cA) sz) (zA 81 q sz)) ([.ref (q 46), .ref (q 79), .ref (q 15)] : List Value).toArray s 0 0 (zA 81 q sz)) (F0 m 99 ls [.int (x_217)]) := by
            intro x_217 hx_217 H locs hP hD hS ls hl
            refine lv_istore (lv' := [(8, .int (x_217)), (0, .ref (q 46)), (1, .ref (q 79)), (2, .ref (q 15)), (3, .int (x_191)), (4, .int (x_192)), (5, .int (r_204)), (6, .int (v_207)), (7, .int (x_211))]) hx hb dX1_compare_99 hl (by decide) rfl (fun ls hl => ?_)
            refine lv_iload hx hb dX1_compare_101 (lv_at hl 0 rfl) ?_
            have t_245 : ∀ x_242 : Int32, zR 0 16777215 x_242 → ∀ I_243 : Nat → Nat → Int32, xInv F (I_243, R, J) → zR 4 60 (I_243 79 1) → ∀ (H : Heap) (locs : List Loc), va_P D vwCl (zw 81 q (zXd q cA) I_243 R J) H → va_D (zA 81 q sz) (zw 81 q (zXd q cA) I_243 R J) → va_S (zA 81 q sz) s.heap H locs → ∀ ls : Array Slot, lv_has ls 9 [(0, .ref (q 46)), (1, .ref (q 79)), (2, .ref (q 15)), (3, .int (x_242)), (4, .int (x_192)), (5, .int (r_204)), (6, .int (v_207)), (7, .int (x_211)), (8, .int (x_217))] → W p l e ({ frames := 2, cells := 0, slots := 0, locals := 45 } : Room) s m ([.ref (q 46), .ref (q 79), .ref (q 15)] : List Value).toArray below meth c H locs 0 0 (MQ below (va_Qv (fun u => xInv F u) (zB D vwCl 81 q (zXd q cA) sz) (zA 81 q sz)) ([.ref (q 46), .ref (q 79), .ref (q 15)] : List Value).toArray s 0 0 (zA 81 q sz)) (F0 m 176 ls []) := by
              intro x_242 hx_242 I_243 hI_243 g_244 H locs hP hD hS ls hl
              obtain ⟨v_246, ev_246⟩ : ∃ y : Int32, y = x_192 + nI 4 := ⟨_, rfl⟩
              have hv_246 : zR 4 60 v_246 := ev_246 ▸ zR_add f_202 zk_4 (by decide)
              have mv_246 : v_246.toInt = (x_192).toInt + 4 := by rw [ev_246, zR_addE f_202 zk_4 (by decide)]; rfl
              refine lv_iinc (v := v_246) (lv' := [(4, .int (v_246)), (0, .ref (q 46)), (1, .ref (q 79)), (2, .ref (q 15)), (3, .int (x_242)), (5, .int (r_204)), (6, .int (v_207)), (7, .int (x_211)), (8, .int (x_217))]) hx hb dX1_compare_176 hl (k := 4) rfl (ev_246 ▸ rfl) (by decide) rfl (fun ls hl => ?_)
              refine lv_goto (tgt := 23) hx hb dX1_compare_179 (by decide) ?_
              exact ih_197 (x_242) hx_242 (v_246) (zR_w hv_246 (by decide)) _ hI_243 (xFour_s hx_194 mv_246) (z2_up mv_246 (by decide) hN_196) _ _ hP hD hS _ (lv_sub hl [1, 2, 3, 4, 0] rfl)
            refine lv_if_eq (tgt := 120) hx hb dX1_compare_103 (by decide) (fun c_219 => ?_) (fun c_219 => ?_)
            · have t_c_219 := z_eqT c_219
              have f_247 : zR 0 0 (x_217) := zR_eqx t_c_219 zk_z
              refine lv_aload_n hx hb dX1_compare_120 rfl (lv_at hl 1 rfl) ?_
              refine lv_aload_n hx hb dX1_compare_121 rfl (lv_at hl 1 rfl) ?_
              refine z_get hx hb ht hown hK hP ziX1 rfl 46 (by decide) 0 (by decide) hw_2_34 rfl (v := .int (I_193 46 0)) rfl dX1_compare_122 ?_
              have t_252 : ∀ x_251 : Int32, ∀ (H : Heap) (locs : List Loc), va_P D vwCl (zw 81 q (zXd q cA) I_193 R J) H → va_D (zA 81 q sz) (zw 81 q (zXd q cA) I_193 R J) → va_S (zA 81 q sz) s.heap H locs → ∀ ls : Array Slot, lv_has ls 9 [(0, .ref (q 46)), (1, .ref (q 79)), (2, .ref (q 15)), (3, .int (x_191)), (4, .int (x_192)), (5, .int (r_204)), (6, .int (v_207)), (7, .int (x_211)), (8, .int (x_217))] → W p l e ({ frames := 2, cells := 0, slots := 0, locals := 45 } : Room) s m ([.ref (q 46), .ref (q 79), .ref (q 15)] : List Value).toArray below meth c H locs 0 0 (MQ below (va_Qv (fun u => xInv F u) (zB D vwCl 81 q (zXd q cA) sz) (zA 81 q sz)) ([.ref (q 46), .ref (q 79), .ref (q 15)] : List Value).toArray s 0 0 (zA 81 q sz)) (F0 m 139 ls [.int (x_251), .ref (q 46)]) := by
                intro x_251 H locs hP hD hS ls hl
                refine z_putI hx hb ht hown hK hP hD hS ziX1 tyX1 tyX1_ok nmX1 rfl 46 (by decide) 1 (by decide) hw_2_36 rfl (v := x_251) rfl rfl rfl (Nat.le_of_ble_eq_true rfl) rfl dX1_compare_139 (fun H locs hP hD hS => ?_)
                have hI_253 := xInv_I hI_193 46 1 (x_251) (zR_any (x_251)) rfl
                refine lv_aload_n hx hb dX1_compare_142 rfl (lv_at hl 0 rfl) ?_
                refine lv_dup hx hb dX1_compare_143 rfl ?_
                refine z_get hx hb ht hown hK hP ziX1 rfl 46 (by decide) 0 (by decide) hw_2_34 rfl (v := .int (I_193 46 0)) rfl dX1_compare_144 ?_
                refine lv_iconst (v := nI 1) hx hb dX1_compare_147 (by decide +kernel) ?_
                refine lv_iadd hx hb dX1_compare_148 ?_
                refine z_any (fun v_254 => ?_)
                refine z_putI hx hb ht hown hK hP hD hS ziX1 tyX1 tyX1_ok nmX1 rfl 46 (by decide) 0 (by decide) hw_2_34 rfl (v := v_254) rfl rfl rfl (Nat.le_of_ble_eq_true rfl) rfl dX1_compare_149 (fun H locs hP hD hS => ?_)
                have hI_255 := xInv_I hI_253 46 0 (v_254) (zR_any (v_254)) rfl
                refine lv_aload_n hx hb dX1_compare_152 rfl (lv_at hl 0 rfl) ?_
                refine lv_dup hx hb dX1_compare_153 rfl ?_
                refine z_get hx hb ht hown hK hP ziX1 rfl 46 (by decide) 2 (by decide) hw_2_38 rfl (v := .int (I_193 46 2)) rfl dX1_compare_154 ?_
                refine lv_iload hx hb dX1_compare_157 (lv_at hl 7 rfl) ?_
                have t_263 : ∀ x_262 : Int32, zR 0 1 x_262 → ∀ (H : Heap) (locs : List Loc), va_P D vwCl (zw 81 q (zXd q cA) (zp (zp I_193 46 1 (x_251)) 46 0 (v_254)) R J) H → va_D (zA 81 q sz) (zw 81 q (zXd q cA) (zp (zp I_193 46 1 (x_251)) 46 0 (v_254)) R J) → va_S (zA 81 q sz) s.heap H locs → ∀ ls : Array Slot, lv_has ls 9 [(0, .ref (q 46)), (1, .ref (q 79)), (2, .ref (q 15)), (3, .int (x_191)), (4, .int (x_192)), (5, .int (r_204)), (6, .int (v_207)), (7, .int (x_211)), (8, .int (x_217))] → W p l e ({ frames := 2, cells := 0, slots := 0, locals := 45 } : Room) s m ([.ref (q 46), .ref (q 79), .ref (q 15)] : List Value).toArray below meth c H locs 0 0 (MQ below (va_Qv (fun u => xInv F u) (zB D vwCl 81 q (zXd q cA) sz) (zA 81 q sz)) ([.ref (q 46), .ref (q 79), .ref (q 15)] : List Value).toArray s 0 0 (zA 81 q sz)) (F0 m 172 ls [.int (x_262), .int (I_193 46 2), .ref (q 46)]) := by
                  intro x_262 hx_262 H locs hP hD hS ls hl
                  refine lv_iadd hx hb dX1_compare_172 ?_
                  refine z_any (fun v_264 => ?_)
                  refine z_putI hx hb ht hown hK hP hD hS ziX1 tyX1 tyX1_ok nmX1 rfl 46 (by decide) 2 (by decide) hw_2_38 rfl (v := v_264) rfl rfl rfl (Nat.le_of_ble_eq_true rfl) rfl dX1_compare_173 (fun H locs hP hD hS => ?_)
                  have hI_265 := xInv_I hI_255 46 2 (v_264) (zR_any (v_264)) rfl
                  exact t_245 (x_191) hx_191 _ hI_265 f_203 _ _ hP hD hS _ (lv_sub hl [0, 1, 2, 3, 4, 5, 6, 7, 8] rfl)
                refine lv_if_ne (tgt := 171) hx hb dX1_compare_159 (by decide) (fun c_256 => ?_) (fun c_256 => ?_)
                · have t_c_256 := z_eqF c_256
                  have f_266 : zR 1 1 (x_211) := zR_nex t_c_256 hx_211 zk_z (by decide)
                  refine lv_iconst (v := nI 0) hx hb dX1_compare_171 (by decide +kernel) ?_
                  exact t_263 (nI 0) (zR_w zk_0 (by decide)) _ _ hP hD hS _ (lv_sub hl [0, 1, 2, 3, 4, 5, 6, 7, 8] rfl)
                · have t_c_256 := z_eqT c_256
                  have f_267 : zR 0 0 (x_211) := zR_eqx t_c_256 zk_z
                  refine lv_iload hx hb dX1_compare_162 (lv_at hl 5 rfl) ?_
                  refine lv_if_eq (tgt := 171) hx hb dX1_compare_164 (by decide) (fun c_268 => ?_) (fun c_268 => ?_)
                  · have t_c_268 := z_eqT c_268
                    have f_269 : zR 0 0 (r_204) := zR_eqx t_c_268 zk_z
                    refine lv_iconst (v := nI 0) hx hb dX1_compare_171 (by decide +kernel) ?_
                    exact t_263 (nI 0) (zR_w zk_0 (by decide)) _ _ hP hD hS _ (lv_sub hl [0, 1, 2, 3, 4, 5, 6, 7, 8] rfl)
                  · have t_c_268 := z_eqF c_268
                    have f_270 : zR 1 16777215 (r_204) := zR_nex t_c_268 hr_204 zk_z (by decide)
                    refine lv_iconst (v := nI 1) hx hb dX1_compare_167 (by decide +kernel) ?_
                    refine lv_goto (tgt := 172) hx hb dX1_compare_168 (by decide) ?_
                    exact t_263 (nI 1) (zR_w zk_1 (by decide)) _ _ hP hD hS _ (lv_sub hl [0, 1, 2, 3, 4, 5, 6, 7, 8] rfl)
              refine lv_if_ne (tgt := 135) hx hb dX1_compare_125 (by decide) (fun c_248 => ?_) (fun c_248 => ?_)
              · have t_c_248 := z_eqF c_248
                refine lv_aload_n hx hb dX1_compare_135 rfl (lv_at hl 1 rfl) ?_
                refine z_get hx hb ht hown hK hP ziX1 rfl 46 (by decide) 1 (by decide) hw_2_36 rfl (v := .int (I_193 46 1)) rfl dX1_compare_136 ?_
                exact t_252 (I_193 46 1) _ _ hP hD hS _ (lv_sub hl [1, 2, 3, 4, 5, 6, 7, 8, 0] rfl)
              · have t_c_248 := z_eqT c_248
                have f_271 : zR 0 0 (I_193 46 0) := zR_eqx t_c_248 zk_z
                refine lv_iload hx hb dX1_compare_128 (lv_at hl 5 rfl) ?_
                refine lv_iconst (v := nI 4) hx hb dX1_compare_130 (by decide +kernel) ?_
                refine lv_idiv hx hb dX1_compare_131 (by decide +kernel) ?_
                refine z_rng (a := 0) (b := 14) (zR_divc f_202 zk_4 (by decide)) (fun v_272 hv_272 => ?_)
                refine lv_goto (tgt := 139) hx hb dX1_compare_132 (by decide) ?_
                exact t_252 (v_272) _ _ hP hD hS _ (lv_sub hl [1, 2, 3, 4, 5, 6, 7, 8, 0] rfl)
            · have t_c_219 := z_eqF c_219
              have f_273 : zR 1 16777215 (x_217) := zR_nex t_c_219 hx_217 zk_z (by decide)
              refine lv_iload_n hx hb dX1_compare_106 rfl (lv_at hl 4 rfl) ?_
              refine lv_iload hx hb dX1_compare_107 (lv_at hl 0 rfl) ?_
              refine lv_iload hx hb dX1_compare_109 (lv_at hl 0 rfl) ?_
              refine lv_ineg hx hb dX1_compare_111 ?_
              refine z_any (fun v_274 => ?_)
              refine lv_iand hx hb dX1_compare_112 ?_
              refine z_rng (a := 0) (b := 16777215) (zR_andl f_273 (by decide)) (fun v_275 hv_275 => ?_)
              refine lv_iconst (v := (-1)) hx hb dX1_compare_113 (by decide +kernel) ?_
              refine lv_ixor hx hb dX1_compare_114 ?_
              refine z_any (fun v_276 => ?_)
              refine lv_iand hx hb dX1_compare_115 ?_
              refine z_rng (a := 0) (b := 16777215) (zR_andl hx_191 (by decide)) (fun v_277 hv_277 => ?_)
              refine lv_istore_n (lv' := [(3, .int (v_277)), (8, .int (x_217)), (0, .ref (q 46)), (1, .ref (q 79)), (2, .ref (q 15)), (4, .int (x_192)), (5, .int (r_204)), (6, .int (v_207)), (7, .int (x_211))]) hx hb dX1_compare_116 rfl hl (by decide) rfl (fun ls hl => ?_)
              refine lv_goto (tgt := 176) hx hb dX1_compare_117 (by decide) ?_
              exact t_245 (v_277) hv_277 _ hI_193 f_203 _ _ hP hD hS _ (lv_sub hl [2, 3, 4, 0, 5, 6, 7, 8, 1] rfl)
          refine lv_if_eq (tgt := 98) hx hb dX1_compare_88 (by decide) (fun c_213 => ?_) (fun c_213 => ?_)
          · have t_c_213 := z_eqT c_213
            have f_278 : zR 0 0 (x_211) := zR_eqx t_c_213 zk_z
            refine lv_iconst (v := nI 0) hx hb dX1_compare_98 (by decide +kernel) ?_
            exact t_218 (nI 0) (zR_w zk_0 (by decide)) _ _ hP hD hS _ (lv_sub hl [1, 2, 3, 4, 5, 6, 7, 0] rfl)
          · have t_c_213 := z_eqF c_213
            have f_279 : zR 1 1 (x_211) := zR_nex t_c_213 hx_211 zk_z (by decide)
            refine lv_iload hx hb dX1_compare_91 (lv_at hl 6 rfl) ?_
            refine lv_iload_n hx hb dX1_compare_93 rfl (lv_at hl 4 rfl) ?_
            refine lv_iand hx hb dX1_compare_94 ?_
            refine z_rng (a := 0) (b := 16777215) (zR_andr hx_191 (by decide)) (fun v_280 hv_280 => ?_)
            refine lv_goto (tgt := 99) hx hb dX1_compare_95 (by decide) ?_
            exact t_218 (v_280) hv_280 _ _ hP hD hS _ (lv_sub hl [1, 2, 3, 4, 5, 6, 7, 0] rfl)
        refine lv_if_ne (tgt := 83) hx hb dX1_compare_76 (by decide) (fun c_209 => ?_) (fun c_209 => ?_)
        · have t_c_209 := z_leqF (fun h => c_209 ((lg_cmp_eq _ _).mpr h))
          refine lv_iconst (v := nI 0) hx hb dX1_compare_83 (by decide +kernel) ?_
          exact t_212 (nI 0) (zR_w zk_0 (by decide)) _ _ hP hD hS _ (lv_sub hl [2, 3, 4, 5, 6, 1, 0] rfl)
        · have t_c_209 := z_leqT ((lg_cmp_eq _ _).mp c_209)
          have f_281 : zL (-2147483648) 2147483647 (J 80 (v_208).toNatClampNeg) := zL_eqx t_c_209 (zR_i2l (zR_any (R 6 (v_207).toNatClampNeg)))
          refine lv_iconst (v := nI 1) hx hb dX1_compare_79 (by decide +kernel) ?_
          refine lv_goto (tgt := 84) hx hb dX1_compare_80 (by decide) ?_
          exact t_212 (nI 1) (zR_w zk_1 (by decide)) _ _ hP hD hS _ (lv_sub hl [2, 3, 4, 5, 6, 1, 0] rfl)
  exact loop_195 _ (r_4) hr_4 (nI 0) (zR_w zk_0 (by decide)) _ hI_3 xFour_0 (Nat.lt_succ_self _) _ _ hP hD hS _ (lv_sub hl [2, 3, 4, 1, 0] rfl)
