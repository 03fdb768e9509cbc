set_option maxHeartbeats 4000000 in
set_option maxRecDepth 100000 in
theorem mk_X11_struckOf (l : Launch) (D : va_G) (q : Nat → Nat) (cA : Nat → ClassId) (F : Nat → Nat → Int32) (I R : Nat → Nat → Int32) (J : Nat → Nat → Int64) (hI : mInv F (I, R, J))  : zMi l D vwCl (zMtys cA) 25 q (zMd q cA) yX11_struckOf cX11_struckOf 5 (some .int) ({ frames := 6, cells := 0, slots := 0, locals := 155 } : Room) [.ref (q 0)] (I, R, J) (fun r u => zR 0 16777215 r ∧ (mInv F u ∧ u.2.2 = J)) := by
  intro sz
  refine z_body (by decide +kernel) (Nat.le_of_ble_eq_true rfl) (fun p e s m below meth c ls hx hb hml hr ht hown hlocks hsz hK hP hD hS hl => ?_)
  have hA : ∀ a, s.heap.size ≤ a → zA 25 q sz a := fun a h => Or.inr (hsz ▸ h)
  have hl : lv_has ls 5 [(0, .ref (q 0))] := hl
  refine lv_aload_n hx hb dX11_struckOf_0 rfl (lv_at hl 0 rfl) ?_
  refine z_callVv (k := 0) (As := []) (rest := []) hx hb hml hown ht (mk_X11_asItIs l D q cA F _ _ _ hI ) hw_6_181 hmX11_asItIs ⟨rfl, rfl⟩ (na := 0) rfl (by decide +kernel) (by decide) (by decide) rfl rfl hK hP hD hS hA hl.1 rfl (Nat.le_of_ble_eq_true rfl) ⟨Nat.zero_le _, Nat.zero_le _⟩ dX11_struckOf_1 (fun I_1 R_1 J_1 H locs hp_1 hP hD hS _ _ => ?_)
  obtain ⟨hv_1, hj_1, hs_1⟩ := hp_1
  try dsimp only at hj_1
  subst J_1
  refine lv_iconst (v := nI 0) hx hb dX11_struckOf_4 (by decide +kernel) ?_
  refine lv_istore_n (lv' := [(1, .int (nI 0)), (0, .ref (q 0))]) hx hb dX11_struckOf_5 rfl hl (by decide) rfl (fun ls hl => ?_)
  refine lv_iconst (v := nI 0) hx hb dX11_struckOf_6 (by decide +kernel) ?_
  refine lv_istore_n (lv' := [(2, .int (nI 0)), (1, .int (nI 0)), (0, .ref (q 0))]) hx hb dX11_struckOf_7 rfl hl (by decide) rfl (fun ls hl => ?_)
  have loop_281 : ∀ N : Nat, ∀ x_278 : Int32, zR 0 16777215 x_278 → ∀ x_279 : Int32, zR 0 6 x_279 → ∀ I_280 : Nat → Nat → Int32, ∀ R_280 : Nat → Nat → Int32, mInv F (I_280, R_280, J) → (2147483648 - (x_279).toInt).toNat < N → ∀ (H : Heap) (locs : List Loc), va_P D vwCl (zw 25 q (zMd q cA) I_280 R_280 J) H → va_D (zA 25 q sz) (zw 25 q (zMd q cA) I_280 R_280 J) → va_S (zA 25 q sz) s.heap H locs → ∀ ls : Array Slot, lv_has ls 5 [(0, .ref (q 0)), (1, .int (x_278)), (2, .int (x_279))] → W p l e ({ frames := 6, cells := 0, slots := 0, locals := 155 } : Room) s m ([.ref (q 0)] : List Value).toArray below meth c H locs 0 0 (MQ below (va_Qi (fun r u => zR 0 16777215 r ∧ (mInv F u ∧ u.2.2 = J)) (zB D vwCl 25 q (zMd q cA) sz) (zA 25 q sz)) ([.ref (q 0)] : List Value).toArray s 0 0 (zA 25 q sz)) (F0 m 8 ls []) := by
    intro N
    induction N with
    | zero => intro x_278 hx_278 x_279 hx_279 I_280 R_280 hI_280 hN; exact absurd hN (Nat.not_lt_zero _)
    | succ N ih_283 =>
      intro x_278 hx_278 x_279 hx_279 I_280 R_280 hI_280 hN_282 H locs hP hD hS ls hl
      refine lv_iload_n hx hb dX11_struckOf_8 rfl (lv_at hl 2 rfl) ?_
      refine lv_aload_n hx hb dX11_struckOf_9 rfl (lv_at hl 0 rfl) ?_
      refine z_get hx hb ht hown hK hP ziX11 rfl 0 (by decide) 1 (by decide) hw_5_188 rfl (v := .ref (q 1)) rfl dX11_struckOf_10 ?_
      refine lv_iconst (v := nI 4) hx hb dX11_struckOf_13 (by decide +kernel) ?_
      refine z_iald hx hb hK hP 1 (by decide) 0 rfl rfl (zR_vin zk_4 (by decide)) dX11_struckOf_14 ?_
      refine z_eqi (y := R_280 1 (nI 4).toNatClampNeg) rfl ?_
      have f_284 : zR 0 6 (R_280 1 (nI 4).toNatClampNeg) := mR hI_280 1 4
      refine lv_icmp_ge (tgt := 81) hx hb dX11_struckOf_15 (by decide) (fun c_285 => ?_) (fun c_285 => ?_)
      · have t_c_285 := z_leT c_285
        refine lv_iload_n hx hb dX11_struckOf_81 rfl (lv_at hl 1 rfl) ?_
        exact z_iret (v := x_278) hx hb hr hlocks hP hD hS dX11_struckOf_82 ⟨hx_278, ⟨hI_280, rfl⟩⟩
      · have t_c_285 := z_leF c_285
        have f_286 : zR 0 5 (x_279) := zR_ltx t_c_285 hx_279 f_284 (by decide)
        have f_287 : zR 1 6 (R_280 1 (nI 4).toNatClampNeg) := zR_lty t_c_285 hx_279 f_284 (by decide)
        refine lv_iconst (v := nI 0) hx hb dX11_struckOf_18 (by decide +kernel) ?_
        refine lv_istore_n (lv' := [(3, .int (nI 0)), (0, .ref (q 0)), (1, .int (x_278)), (2, .int (x_279))]) hx hb dX11_struckOf_19 rfl hl (by decide) rfl (fun ls hl => ?_)
        refine lv_iconst (v := nI 0) hx hb dX11_struckOf_20 (by decide +kernel) ?_
        refine lv_istore (lv' := [(4, .int (nI 0)), (3, .int (nI 0)), (0, .ref (q 0)), (1, .int (x_278)), (2, .int (x_279))]) hx hb dX11_struckOf_21 hl (by decide) rfl (fun ls hl => ?_)
        have loop_341 : ∀ N : Nat, ∀ x_339 : Int32, zR 0 16777215 x_339 → ∀ x_340 : Int32, zR 0 24 x_340 → (2147483648 - (x_340).toInt).toNat < N → ∀ (H : Heap) (locs : List Loc), va_P D vwCl (zw 25 q (zMd q cA) I_280 R_280 J) H → va_D (zA 25 q sz) (zw 25 q (zMd q cA) I_280 R_280 J) → va_S (zA 25 q sz) s.heap H locs → ∀ ls : Array Slot, lv_has ls 5 [(0, .ref (q 0)), (1, .int (x_278)), (2, .int (x_279)), (3, .int (x_339)), (4, .int (x_340))] → W p l e ({ frames := 6, cells := 0, slots := 0, locals := 155 } : Room) s m ([.ref (q 0)] : List Value).toArray below meth c H locs 0 0 (MQ below (va_Qi (fun r u => zR 0 16777215 r ∧ (mInv F u ∧ u.2.2 = J)) (zB D vwCl 25 q (zMd q cA) sz) (zA 25 q sz)) ([.ref (q 0)] : List Value).toArray s 0 0 (zA 25 q sz)) (F0 m 23 ls []) := by
          intro N
          induction N with
          | zero => intro x_339 hx_339 x_340 hx_340 hN; exact absurd hN (Nat.not_lt_zero _)
          | succ N ih_343 =>
            intro x_339 hx_339 x_340 hx_340 hN_342 H locs hP hD hS ls hl
            refine lv_iload hx hb dX11_struckOf_23 (lv_at hl 4 rfl) ?_
            refine lv_aload_n hx hb dX11_struckOf_25 rfl (lv_at hl 0 rfl) ?_
            refine z_get hx hb ht hown hK hP ziX11 rfl 0 (by decide) 26 (by decide) hw_5_213 rfl (v := .int (I_280 0 26)) rfl dX11_struckOf_26 ?_
            have f_344 : zR 0 24 (I_280 0 26) := mI hI_280 0 26
            refine lv_icmp_ge (tgt := 59) hx hb dX11_struckOf_29 (by decide) (fun c_345 => ?_) (fun c_345 => ?_)
            · have t_c_345 := z_leT c_345
              refine lv_iload_n hx hb dX11_struckOf_59 rfl (lv_at hl 3 rfl) ?_
              have t_362 : ∀ x_360 : Int32, zR 0 16777215 x_360 → ∀ I_361 : Nat → Nat → Int32, ∀ R_361 : Nat → Nat → Int32, mInv F (I_361, R_361, J) → ∀ (H : Heap) (locs : List Loc), va_P D vwCl (zw 25 q (zMd q cA) I_361 R_361 J) H → va_D (zA 25 q sz) (zw 25 q (zMd q cA) I_361 R_361 J) → va_S (zA 25 q sz) s.heap H locs → ∀ ls : Array Slot, lv_has ls 5 [(0, .ref (q 0)), (1, .int (x_360)), (2, .int (x_279)), (3, .int (x_339)), (4, .int (x_340))] → W p l e ({ frames := 6, cells := 0, slots := 0, locals := 155 } : Room) s m ([.ref (q 0)] : List Value).toArray below meth c H locs 0 0 (MQ below (va_Qi (fun r u => zR 0 16777215 r ∧ (mInv F u ∧ u.2.2 = J)) (zB D vwCl 25 q (zMd q cA) sz) (zA 25 q sz)) ([.ref (q 0)] : List Value).toArray s 0 0 (zA 25 q sz)) (F0 m 75 ls []) := by
                intro x_360 hx_360 I_361 R_361 hI_361 H locs hP hD hS ls hl
                obtain ⟨v_363, ev_363⟩ : ∃ y : Int32, y = x_279 + nI 1 := ⟨_, rfl⟩
                have hv_363 : zR 1 6 v_363 := ev_363 ▸ zR_add f_286 zk_1 (by decide)
                have mv_363 : v_363.toInt = (x_279).toInt + 1 := by rw [ev_363, zR_addE f_286 zk_1 (by decide)]; rfl
                refine lv_iinc (v := v_363) (lv' := [(2, .int (v_363)), (0, .ref (q 0)), (1, .int (x_360)), (3, .int (x_339)), (4, .int (x_340))]) hx hb dX11_struckOf_75 hl (k := 2) rfl (ev_363 ▸ rfl) (by decide) rfl (fun ls hl => ?_)
                refine lv_goto (tgt := 8) hx hb dX11_struckOf_78 (by decide) ?_
                exact ih_283 (x_360) hx_360 (v_363) (zR_w hv_363 (by decide)) _ _ hI_361 (z2_up mv_363 (by decide) hN_282) _ _ hP hD hS _ (lv_sub hl [1, 2, 0] rfl)
              refine lv_if_eq (tgt := 75) hx hb dX11_struckOf_60 (by decide) (fun c_353 => ?_) (fun c_353 => ?_)
              · have t_c_353 := z_eqT c_353
                have f_364 : zR 0 0 (x_339) := zR_eqx t_c_353 zk_z
                exact t_362 (x_278) hx_278 _ _ hI_280 _ _ hP hD hS _ (lv_sub hl [0, 1, 2, 3, 4] rfl)
              · have t_c_353 := z_eqF c_353
                have f_365 : zR 1 16777215 (x_339) := zR_nex t_c_353 hx_339 zk_z (by decide)
                refine lv_iload_n hx hb dX11_struckOf_63 rfl (lv_at hl 1 rfl) ?_
                refine lv_iload_n hx hb dX11_struckOf_64 rfl (lv_at hl 3 rfl) ?_
                refine lv_aload_n hx hb dX11_struckOf_65 rfl (lv_at hl 0 rfl) ?_
                refine lv_iload_n hx hb dX11_struckOf_66 rfl (lv_at hl 2 rfl) ?_
                refine z_callVi (k := 0) (As := [.int (x_279)]) (rest := [.int (x_339), .int (x_278)]) hx hb hml hown ht (mk_X11_staying_1 l D q cA F _ _ _ hI_280 (x_279) f_286) hw_7_136 hmX11_staying ⟨rfl, rfl⟩ (na := 1) rfl (by decide +kernel) (by decide) (by decide) rfl rfl hK hP hD hS hA hl.1 rfl (Nat.le_of_ble_eq_true rfl) ⟨Nat.zero_le _, Nat.zero_le _⟩ dX11_struckOf_67 (fun r_366 I_366 R_366 J_366 H locs hp_366 hP hD hS _ _ => ?_)
                obtain ⟨hv_366, hj_366⟩ := hp_366
                try dsimp only at hj_366
                subst J_366
                refine lv_iconst (v := (-1)) hx hb dX11_struckOf_70 (by decide +kernel) ?_
                refine lv_ixor hx hb dX11_struckOf_71 ?_
                refine z_any (fun v_367 => ?_)
                refine lv_iand hx hb dX11_struckOf_72 ?_
                refine z_rng (a := 0) (b := 16777215) (zR_andl f_365 (by decide)) (fun v_368 hv_368 => ?_)
                refine lv_ior hx hb dX11_struckOf_73 ?_
                refine z_rng (a := 0) (b := 16777215) (zR_or 24 hx_278 hv_368 (by decide)) (fun v_369 hv_369 => ?_)
                refine lv_istore_n (lv' := [(1, .int (v_369)), (0, .ref (q 0)), (2, .int (x_279)), (3, .int (x_339)), (4, .int (x_340))]) hx hb dX11_struckOf_74 rfl hl (by decide) rfl (fun ls hl => ?_)
                exact t_362 (v_369) hv_369 _ _ hv_366 _ _ hP hD hS _ (lv_sub hl [1, 0, 2, 3, 4] rfl)
            · have t_c_345 := z_leF c_345
              have f_370 : zR 0 23 (x_340) := zR_ltx t_c_345 hx_340 f_344 (by decide)
              have f_371 : zR 1 24 (I_280 0 26) := zR_lty t_c_345 hx_340 f_344 (by decide)
              refine lv_iload_n hx hb dX11_struckOf_32 rfl (lv_at hl 3 rfl) ?_
              refine lv_aload_n hx hb dX11_struckOf_33 rfl (lv_at hl 0 rfl) ?_
              refine lv_iload hx hb dX11_struckOf_34 (lv_at hl 4 rfl) ?_
              refine lv_iload_n hx hb dX11_struckOf_36 rfl (lv_at hl 2 rfl) ?_
              have t_375 : ∀ x_374 : Int32, zR 0 8388608 x_374 → ∀ (H : Heap) (locs : List Loc), va_P D vwCl (zw 25 q (zMd q cA) I_280 R_280 J) H → va_D (zA 25 q sz) (zw 25 q (zMd q cA) I_280 R_280 J) → va_S (zA 25 q sz) s.heap H locs → ∀ ls : Array Slot, lv_has ls 5 [(0, .ref (q 0)), (1, .int (x_278)), (2, .int (x_279)), (3, .int (x_339)), (4, .int (x_340))] → W p l e ({ frames := 6, cells := 0, slots := 0, locals := 155 } : Room) s m ([.ref (q 0)] : List Value).toArray below meth c H locs 0 0 (MQ below (va_Qi (fun r u => zR 0 16777215 r ∧ (mInv F u ∧ u.2.2 = J)) (zB D vwCl 25 q (zMd q cA) sz) (zA 25 q sz)) ([.ref (q 0)] : List Value).toArray s 0 0 (zA 25 q sz)) (F0 m 51 ls [.int (x_374), .int (x_339)]) := by
                intro x_374 hx_374 H locs hP hD hS ls hl
                refine lv_ior hx hb dX11_struckOf_51 ?_
                refine z_rng (a := 0) (b := 16777215) (zR_or 24 hx_339 hx_374 (by decide)) (fun v_376 hv_376 => ?_)
                refine lv_istore_n (lv' := [(3, .int (v_376)), (0, .ref (q 0)), (1, .int (x_278)), (2, .int (x_279)), (4, .int (x_340))]) hx hb dX11_struckOf_52 rfl hl (by decide) rfl (fun ls hl => ?_)
                obtain ⟨v_377, ev_377⟩ : ∃ y : Int32, y = x_340 + nI 1 := ⟨_, rfl⟩
                have hv_377 : zR 1 24 v_377 := ev_377 ▸ zR_add f_370 zk_1 (by decide)
                have mv_377 : v_377.toInt = (x_340).toInt + 1 := by rw [ev_377, zR_addE f_370 zk_1 (by decide)]; rfl
                refine lv_iinc (v := v_377) (lv' := [(4, .int (v_377)), (3, .int (v_376)), (0, .ref (q 0)), (1, .int (x_278)), (2, .int (x_279))]) hx hb dX11_struckOf_53 hl (k := 4) rfl (ev_377 ▸ rfl) (by decide) rfl (fun ls hl => ?_)
                refine lv_goto (tgt := 23) hx hb dX11_struckOf_56 (by decide) ?_
                exact ih_343 (v_376) hv_376 (v_377) (zR_w hv_377 (by decide)) (z2_up mv_377 (by decide) hN_342) _ _ hP hD hS _ (lv_sub hl [2, 3, 4, 1, 0] rfl)
              refine z_callVi (k := 0) (As := [.int (x_340), .int (x_279)]) (rest := [.int (x_339)]) hx hb hml hown ht (mk_X11_isEdge_1 l D q cA F _ _ _ hI_280 (x_340) f_370 (x_279) f_286) hw_7_124 hmX11_isEdge ⟨rfl, rfl⟩ (na := 2) rfl (by decide +kernel) (by decide) (by decide) rfl rfl hK hP hD hS hA hl.1 rfl (Nat.le_of_ble_eq_true rfl) ⟨Nat.zero_le _, Nat.zero_le _⟩ dX11_struckOf_37 (fun r_372 I_372 R_372 J_372 H locs hp_372 hP hD hS _ _ => ?_)
              rcases hp_372 with ⟨rfl, hu_372⟩ | ⟨rfl, hu_372⟩
              · cases hu_372
                refine lv_if_eq (tgt := 50) hx hb dX11_struckOf_40 (by decide) (fun c_0 => absurd c_0 (zD_ne zk_1 zk_z (by decide))) (fun _ => ?_)
                refine lv_iconst (v := nI 1) hx hb dX11_struckOf_43 (by decide +kernel) ?_
                refine lv_iload hx hb dX11_struckOf_44 (lv_at hl 4 rfl) ?_
                refine lv_ishl hx hb dX11_struckOf_46 ?_
                refine z_rng (a := 1) (b := 8388608) (zR_shl1 23 f_370 (by decide)) (fun v_378 hv_378 => ?_)
                refine lv_goto (tgt := 51) hx hb dX11_struckOf_47 (by decide) ?_
                exact t_375 (v_378) (zR_w hv_378 (by decide)) _ _ hP hD hS _ (lv_sub hl [0, 1, 2, 3, 4] rfl)
              · cases hu_372
                refine lv_if_eq (tgt := 50) hx hb dX11_struckOf_40 (by decide) (fun _ => ?_) (fun c_0 => absurd (zD_eq zk_0 zk_z) c_0)
                refine lv_iconst (v := nI 0) hx hb dX11_struckOf_50 (by decide +kernel) ?_
                exact t_375 (nI 0) (zR_w zk_0 (by decide)) _ _ hP hD hS _ (lv_sub hl [0, 1, 2, 3, 4] rfl)
        exact loop_341 _ (nI 0) (zR_w zk_0 (by decide)) (nI 0) (zR_w zk_0 (by decide)) (Nat.lt_succ_self _) _ _ hP hD hS _ (lv_sub hl [2, 3, 4, 1, 0] rfl)
  exact loop_281 _ (nI 0) (zR_w zk_0 (by decide)) (nI 0) (zR_w zk_0 (by decide)) _ _ hv_1 (Nat.lt_succ_self _) _ _ hP hD hS _ (lv_sub hl [2, 1, 0] rfl)
set_option maxHeartbeats 4000000 in
set_option maxRecDepth 100000 in
theorem mk_X11_strikes (l : Launch) (D : va_G) (q : Nat → Nat) (cA : Nat → ClassId) (F : Nat → Nat → Int32) (I R : Nat → Nat → Int32) (J : Nat → Nat → Int64) (hI : mInv F (I, R, J))  : zMi l D vwCl (zMtys cA) 25 q (zMd q cA) yX11_strikes cX11_strikes 1 (some .int) ({ frames := 7, cells := 0, slots := 0, locals := 179 } : Room) [.ref (q 0)] (I, R, J) (fun _ u => (mInv F u ∧ u.2.2 = J)) := by
  intro sz
  refine z_body (by decide +kernel) (Nat.le_of_ble_eq_true rfl) (fun p e s m below meth c ls hx hb hml hr ht hown hlocks hsz hK hP hD hS hl => ?_)
  have hA : ∀ a, s.heap.size ≤ a → zA 25 q sz a := fun a h => Or.inr (hsz ▸ h)
  have hl : lv_has ls 1 [(0, .ref (q 0))] := hl
  refine lv_aload_n hx hb dX11_strikes_0 rfl (lv_at hl 0 rfl) ?_
  refine z_callVi (k := 0) (As := []) (rest := []) hx hb hml hown ht (mk_X11_isCity l D q cA F _ _ _ hI ) hw_7_75 hmX11_isCity ⟨rfl, rfl⟩ (na := 0) rfl (by decide +kernel) (by decide) (by decide) rfl rfl hK hP hD hS hA hl.1 rfl (Nat.le_of_ble_eq_true rfl) ⟨Nat.zero_le _, Nat.zero_le _⟩ dX11_strikes_1 (fun r_1 I_1 R_1 J_1 H locs hp_1 hP hD hS _ _ => ?_)
  rcases hp_1 with ⟨rfl, hu_1⟩ | ⟨rfl, hu_1⟩
  · cases hu_1
    refine lv_if_eq (tgt := 17) hx hb dX11_strikes_4 (by decide) (fun c_0 => absurd c_0 (zD_ne zk_1 zk_z (by decide))) (fun _ => ?_)
    refine lv_aload_n hx hb dX11_strikes_7 rfl (lv_at hl 0 rfl) ?_
    refine z_callVi (k := 0) (As := []) (rest := []) hx hb hml hown ht (mk_X11_struckOf l D q cA F _ _ _ hI ) hw_7_132 hmX11_struckOf ⟨rfl, rfl⟩ (na := 0) rfl (by decide +kernel) (by decide) (by decide) rfl rfl hK hP hD hS hA hl.1 rfl (Nat.le_of_ble_eq_true rfl) ⟨Nat.zero_le _, Nat.zero_le _⟩ dX11_strikes_8 (fun r_2 I_2 R_2 J_2 H locs hp_2 hP hD hS _ _ => ?_)
    obtain ⟨hr_2, hu_2⟩ := hp_2
    obtain ⟨hv_2, hj_2⟩ := hu_2
    try dsimp only at hj_2
    subst J_2
    refine z_callSi (As := [.int (r_2)]) (rest := []) hx hb hml hown ht (mk_X11_bits l D q cA F _ _ _ hv_2 (r_2)) hw_7_64 hmX11_bits ⟨rfl, rfl⟩ (na := 1) rfl (by decide +kernel) (by decide) hK hP hD hS hA hl.1 rfl (Nat.le_of_ble_eq_true rfl) ⟨Nat.zero_le _, Nat.zero_le _⟩ dX11_strikes_11 (fun r_3 I_3 R_3 J_3 H locs hp_3 hP hD hS _ _ => ?_)
    cases hp_3
    refine lv_goto (tgt := 19) hx hb dX11_strikes_14 (by decide) ?_
    exact z_iret (v := r_3) hx hb hr hlocks hP hD hS dX11_strikes_19 ⟨hv_2, rfl⟩
  · cases hu_1
    refine lv_if_eq (tgt := 17) hx hb dX11_strikes_4 (by decide) (fun _ => ?_) (fun c_0 => absurd (zD_eq zk_0 zk_z) c_0)
    refine lv_bipush (v := (-2)) hx hb dX11_strikes_17 (by decide +kernel) ?_
    exact z_iret (v := (-2)) hx hb hr hlocks hP hD hS dX11_strikes_19 ⟨hI, rfl⟩
set_option maxHeartbeats 4000000 in
set_option maxRecDepth 100000 in
theorem mk_X11_struck (l : Launch) (D : va_G) (q : Nat → Nat) (cA : Nat → ClassId) (F : Nat → Nat → Int32) (I R : Nat → Nat → Int32) (J : Nat → Nat → Int64) (hI : mInv F (I, R, J))  : zMi l D vwCl (zMtys cA) 25 q (zMd q cA) yX11_struck cX11_struck 1 (some .int) ({ frames := 7, cells := 0, slots := 0, locals := 179 } : Room) [.ref (q 0)] (I, R, J) (fun r u => zR (-2) 16777215 r ∧ (mInv F u ∧ u.2.2 = J)) := by
  intro sz
  refine z_body (by decide +kernel) (Nat.le_of_ble_eq_true rfl) (fun p e s m below meth c ls hx hb hml hr ht hown hlocks hsz hK hP hD hS hl => ?_)
  have hA : ∀ a, s.heap.size ≤ a → zA 25 q sz a := fun a h => Or.inr (hsz ▸ h)
  have hl : lv_has ls 1 [(0, .ref (q 0))] := hl
  refine lv_aload_n hx hb dX11_struck_0 rfl (lv_at hl 0 rfl) ?_
  refine z_callVi (k := 0) (As := []) (rest := []) hx hb hml hown ht (mk_X11_isCity l D q cA F _ _ _ hI ) hw_7_75 hmX11_isCity ⟨rfl, rfl⟩ (na := 0) rfl (by decide +kernel) (by decide) (by decide) rfl rfl hK hP hD hS hA hl.1 rfl (Nat.le_of_ble_eq_true rfl) ⟨Nat.zero_le _, Nat.zero_le _⟩ dX11_struck_1 (fun r_1 I_1 R_1 J_1 H locs hp_1 hP hD hS _ _ => ?_)
  rcases hp_1 with ⟨rfl, hu_1⟩ | ⟨rfl, hu_1⟩
  · cases hu_1
    refine lv_if_eq (tgt := 14) hx hb dX11_struck_4 (by decide) (fun c_0 => absurd c_0 (zD_ne zk_1 zk_z (by decide))) (fun _ => ?_)
    refine lv_aload_n hx hb dX11_struck_7 rfl (lv_at hl 0 rfl) ?_
    refine z_callVi (k := 0) (As := []) (rest := []) hx hb hml hown ht (mk_X11_struckOf l D q cA F _ _ _ hI ) hw_7_132 hmX11_struckOf ⟨rfl, rfl⟩ (na := 0) rfl (by decide +kernel) (by decide) (by decide) rfl rfl hK hP hD hS hA hl.1 rfl (Nat.le_of_ble_eq_true rfl) ⟨Nat.zero_le _, Nat.zero_le _⟩ dX11_struck_8 (fun r_2 I_2 R_2 J_2 H locs hp_2 hP hD hS _ _ => ?_)
    obtain ⟨hr_2, hu_2⟩ := hp_2
    obtain ⟨hv_2, hj_2⟩ := hu_2
    try dsimp only at hj_2
    subst J_2
    refine lv_goto (tgt := 16) hx hb dX11_struck_11 (by decide) ?_
    exact z_iret (v := r_2) hx hb hr hlocks hP hD hS dX11_struck_16 ⟨(zR_w hr_2 (by decide)), ⟨hv_2, rfl⟩⟩
  · cases hu_1
    refine lv_if_eq (tgt := 14) hx hb dX11_struck_4 (by decide) (fun _ => ?_) (fun c_0 => absurd (zD_eq zk_0 zk_z) c_0)
    refine lv_bipush (v := (-2)) hx hb dX11_struck_14 (by decide +kernel) ?_
    exact z_iret (v := (-2)) hx hb hr hlocks hP hD hS dX11_struck_16 ⟨(zR_w zk_m2 (by decide)), ⟨hI, rfl⟩⟩
set_option maxHeartbeats 4000000 in
set_option maxRecDepth 100000 in
theorem mk_X11_trail (l : Launch) (D : va_G) (q : Nat → Nat) (cA : Nat → ClassId) (F : Nat → Nat → Int32) (I R : Nat → Nat → Int32) (J : Nat → Nat → Int64) (hI : mInv F (I, R, J)) (pa0 : Int32) (pa1 : Int32) : zMi l D vwCl (zMtys cA) 25 q (zMd q cA) yX11_trail cX11_trail 3 (some .int) ({ frames := 6, cells := 0, slots := 0, locals := 155 } : Room) [.ref (q 0), .int (pa0), .int (pa1)] (I, R, J) (fun _ u => (mInv F u ∧ u.2.2 = J)) := by
  intro sz
  refine z_body (by decide +kernel) (Nat.le_of_ble_eq_true rfl) (fun p e s m below meth c ls hx hb hml hr ht hown hlocks hsz hK hP hD hS hl => ?_)
  have hA : ∀ a, s.heap.size ≤ a → zA 25 q sz a := fun a h => Or.inr (hsz ▸ h)
  have hl : lv_has ls 3 [(0, .ref (q 0)), (1, .int (pa0)), (2, .int (pa1))] := hl
  refine lv_aload_n hx hb dX11_trail_0 rfl (lv_at hl 0 rfl) ?_
  refine lv_iload_n hx hb dX11_trail_1 rfl (lv_at hl 1 rfl) ?_
  refine lv_i2l (v := (pa0).toInt64) hx hb dX11_trail_2 rfl ?_
  refine z_callVi (k := 0) (As := [.long ((pa0).toInt64)]) (rest := []) hx hb hml hown ht (mk_X11_isThing l D q cA F _ _ _ hI ((pa0).toInt64) (zR_i2l (zR_any (pa0)))) hw_6_238 hmX11_isThing ⟨rfl, rfl⟩ (na := 1) rfl (by decide +kernel) (by decide) (by decide) rfl rfl hK hP hD hS hA hl.1 rfl (Nat.le_of_ble_eq_true rfl) ⟨Nat.zero_le _, Nat.zero_le _⟩ dX11_trail_3 (fun r_1 I_1 R_1 J_1 H locs hp_1 hP hD hS _ _ => ?_)
  rcases hp_1 with ⟨rfl, hu_1, f0_1⟩ | ⟨rfl, hu_1⟩
  · cases hu_1
    have f_2 : zR 0 5 (pa0) := zL_back f0_1
    refine lv_if_ne (tgt := 12) hx hb dX11_trail_6 (by decide) (fun _ => ?_) (fun c_0 => absurd c_0 (zD_ne zk_1 zk_z (by decide)))
    refine lv_aload_n hx hb dX11_trail_12 rfl (lv_at hl 0 rfl) ?_
    refine z_callVv (k := 0) (As := []) (rest := []) hx hb hml hown ht (mk_X11_asItIs l D q cA F _ _ _ hI ) hw_6_181 hmX11_asItIs ⟨rfl, rfl⟩ (na := 0) rfl (by decide +kernel) (by decide) (by decide) rfl rfl hK hP hD hS hA hl.1 rfl (Nat.le_of_ble_eq_true rfl) ⟨Nat.zero_le _, Nat.zero_le _⟩ dX11_trail_13 (fun I_3 R_3 J_3 H locs hp_3 hP hD hS _ _ => ?_)
    obtain ⟨hv_3, hj_3, hs_3⟩ := hp_3
    try dsimp only at hj_3
    subst J_3
    refine lv_iload_n hx hb dX11_trail_16 rfl (lv_at hl 2 rfl) ?_
    refine lv_i2l (v := (pa1).toInt64) hx hb dX11_trail_17 rfl ?_
    refine lv_lconst (v := (0 : Int64)) hx hb dX11_trail_18 (by decide +kernel) ?_
    refine lv_aload_n hx hb dX11_trail_19 rfl (lv_at hl 0 rfl) ?_
    refine z_get hx hb ht hown hK hP ziX11 rfl 0 (by decide) 25 (by decide) hw_5_212 rfl (v := .ref (q 17)) rfl dX11_trail_20 ?_
    refine lv_iload_n hx hb dX11_trail_23 rfl (lv_at hl 1 rfl) ?_
    refine z_iald hx hb hK hP 17 (by decide) 16 rfl rfl (zR_vin f_2 (by decide)) dX11_trail_24 ?_
    refine z_eqi (y := R_3 17 (pa0).toNatClampNeg) rfl ?_
    have f_4 : zR 0 146 (R_3 17 (pa0).toNatClampNeg) := mR hv_3 17 (pa0).toNatClampNeg
    refine lv_iconst (v := nI 1) hx hb dX11_trail_25 (by decide +kernel) ?_
    refine lv_isub hx hb dX11_trail_26 ?_
    refine z_subc (-1) 145 (-1) f_4 zk_1 (by decide) (fun v_5 hv_5 mv_5 => ?_)
    refine lv_i2l (v := (v_5).toInt64) hx hb dX11_trail_27 rfl ?_
    refine z_callSi (As := [.long ((pa1).toInt64), .long ((0 : Int64)), .long ((v_5).toInt64)]) (rest := []) hx hb hml hown ht (mk_X11_in l D q cA F _ _ _ hv_3 ((pa1).toInt64) ((0 : Int64)) ((v_5).toInt64)) hw_6_86 hmX11_in ⟨rfl, rfl⟩ (na := 3) rfl (by decide +kernel) (by decide) hK hP hD hS hA hl.1 rfl (Nat.le_of_ble_eq_true rfl) ⟨Nat.zero_le _, Nat.zero_le _⟩ dX11_trail_28 (fun r_6 I_6 R_6 J_6 H locs hp_6 hP hD hS _ _ => ?_)
    rcases hp_6 with ⟨rfl, hu_6, h1_6, h2_6⟩ | ⟨rfl, hu_6, h1_6 | h2_6⟩
    · cases hu_6
      have f_7 : zL 0 2147483647 ((pa1).toInt64) := zL_ley h1_6 zkl_0 (zR_i2l (zR_any (pa1))) (by decide)
      have f_8 : zR 0 2147483647 (pa1) := zL_back f_7
      have f_9 : zL 0 145 ((pa1).toInt64) := zL_lex h2_6 f_7 (zR_i2l hv_5) (by decide)
      have f_10 : zR 0 145 (pa1) := zL_back f_9
      have f_11 : zL 0 145 ((v_5).toInt64) := zL_ley h2_6 f_7 (zR_i2l hv_5) (by decide)
      have f_12 : zR 0 145 (v_5) := zL_back f_11
      refine lv_if_eq (tgt := 49) hx hb dX11_trail_31 (by decide) (fun c_0 => absurd c_0 (zD_ne zk_1 zk_z (by decide))) (fun _ => ?_)
      refine lv_aload_n hx hb dX11_trail_34 rfl (lv_at hl 0 rfl) ?_
      refine z_get hx hb ht hown hK hP ziX11 rfl 0 (by decide) 24 (by decide) hw_5_211 rfl (v := .ref (q 16)) rfl dX11_trail_35 ?_
      refine lv_sipush (v := nI 146) hx hb dX11_trail_38 (by decide +kernel) ?_
      refine lv_iload_n hx hb dX11_trail_41 rfl (lv_at hl 1 rfl) ?_
      refine lv_imul hx hb dX11_trail_42 ?_
      refine z_rng (a := 0) (b := 730) (zR_mul zk_146 f_2 (by decide)) (fun v_13 hv_13 => ?_)
      refine lv_iload_n hx hb dX11_trail_43 rfl (lv_at hl 2 rfl) ?_
      refine lv_iadd hx hb dX11_trail_44 ?_
      refine z_rng (a := 0) (b := 875) (zR_add hv_13 f_10 (by decide)) (fun v_14 hv_14 => ?_)
      refine z_iald hx hb hK hP 16 (by decide) 15 rfl rfl (zR_vin hv_14 (by decide)) dX11_trail_45 ?_
      refine z_eqi (y := R_3 16 (v_14).toNatClampNeg) rfl ?_
      refine lv_goto (tgt := 50) hx hb dX11_trail_46 (by decide) ?_
      exact z_iret (v := R_3 16 (v_14).toNatClampNeg) hx hb hr hlocks hP hD hS dX11_trail_50 ⟨hv_3, rfl⟩
    · cases hu_6
      have f_15 : zL (-2147483648) (-1) ((pa1).toInt64) := zL_ltx h1_6 (zR_i2l (zR_any (pa1))) zkl_0 (by decide)
      have f_16 : zR (-2147483648) (-1) (pa1) := zL_back f_15
      refine lv_if_eq (tgt := 49) hx hb dX11_trail_31 (by decide) (fun _ => ?_) (fun c_0 => absurd (zD_eq zk_0 zk_z) c_0)
      refine lv_iconst (v := (-1)) hx hb dX11_trail_49 (by decide +kernel) ?_
      exact z_iret (v := (-1)) hx hb hr hlocks hP hD hS dX11_trail_50 ⟨hv_3, rfl⟩
    · cases hu_6
      have f_17 : zL 0 2147483647 ((pa1).toInt64) := zL_lty h2_6 (zR_i2l hv_5) (zR_i2l (zR_any (pa1))) (by decide)
      have f_18 : zR 0 2147483647 (pa1) := zL_back f_17
      refine lv_if_eq (tgt := 49) hx hb dX11_trail_31 (by decide) (fun _ => ?_) (fun c_0 => absurd (zD_eq zk_0 zk_z) c_0)
      refine lv_iconst (v := (-1)) hx hb dX11_trail_49 (by decide +kernel) ?_
      exact z_iret (v := (-1)) hx hb hr hlocks hP hD hS dX11_trail_50 ⟨hv_3, rfl⟩
  · cases hu_1
    refine lv_if_ne (tgt := 12) hx hb dX11_trail_6 (by decide) (fun c_0 => absurd (zD_eq zk_0 zk_z) c_0) (fun _ => ?_)
    refine lv_bipush (v := (-2)) hx hb dX11_trail_9 (by decide +kernel) ?_
    exact z_iret (v := (-2)) hx hb hr hlocks hP hD hS dX11_trail_11 ⟨hI, rfl⟩
set_option maxHeartbeats 4000000 in
set_option maxRecDepth 100000 in
theorem mk_X11_went (l : Launch) (D : va_G) (q : Nat → Nat) (cA : Nat → ClassId) (F : Nat → Nat → Int32) (I R : Nat → Nat → Int32) (J : Nat → Nat → Int64) (hI : mInv F (I, R, J)) (pa0 : Int32) : zMi l D vwCl (zMtys cA) 25 q (zMd q cA) yX11_went cX11_went 2 (some .int) ({ frames := 6, cells := 0, slots := 0, locals := 155 } : Room) [.ref (q 0), .int (pa0)] (I, R, J) (fun r u => zR (-2) 145 r ∧ (mInv F u ∧ u.2.2 = J)) := by
  intro sz
  refine z_body (by decide +kernel) (Nat.le_of_ble_eq_true rfl) (fun p e s m below meth c ls hx hb hml hr ht hown hlocks hsz hK hP hD hS hl => ?_)
  have hA : ∀ a, s.heap.size ≤ a → zA 25 q sz a := fun a h => Or.inr (hsz ▸ h)
  have hl : lv_has ls 2 [(0, .ref (q 0)), (1, .int (pa0))] := hl
  refine lv_aload_n hx hb dX11_went_0 rfl (lv_at hl 0 rfl) ?_
  refine lv_iload_n hx hb dX11_went_1 rfl (lv_at hl 1 rfl) ?_
  refine lv_i2l (v := (pa0).toInt64) hx hb dX11_went_2 rfl ?_
  refine z_callVi (k := 0) (As := [.long ((pa0).toInt64)]) (rest := []) hx hb hml hown ht (mk_X11_isThing l D q cA F _ _ _ hI ((pa0).toInt64) (zR_i2l (zR_any (pa0)))) hw_6_238 hmX11_isThing ⟨rfl, rfl⟩ (na := 1) rfl (by decide +kernel) (by decide) (by decide) rfl rfl hK hP hD hS hA hl.1 rfl (Nat.le_of_ble_eq_true rfl) ⟨Nat.zero_le _, Nat.zero_le _⟩ dX11_went_3 (fun r_1 I_1 R_1 J_1 H locs hp_1 hP hD hS _ _ => ?_)
  rcases hp_1 with ⟨rfl, hu_1, f0_1⟩ | ⟨rfl, hu_1⟩
  · cases hu_1
    have f_2 : zR 0 5 (pa0) := zL_back f0_1
    refine lv_if_ne (tgt := 12) hx hb dX11_went_6 (by decide) (fun _ => ?_) (fun c_0 => absurd c_0 (zD_ne zk_1 zk_z (by decide)))
    refine lv_aload_n hx hb dX11_went_12 rfl (lv_at hl 0 rfl) ?_
    refine z_callVv (k := 0) (As := []) (rest := []) hx hb hml hown ht (mk_X11_asItIs l D q cA F _ _ _ hI ) hw_6_181 hmX11_asItIs ⟨rfl, rfl⟩ (na := 0) rfl (by decide +kernel) (by decide) (by decide) rfl rfl hK hP hD hS hA hl.1 rfl (Nat.le_of_ble_eq_true rfl) ⟨Nat.zero_le _, Nat.zero_le _⟩ dX11_went_13 (fun I_3 R_3 J_3 H locs hp_3 hP hD hS _ _ => ?_)
    obtain ⟨hv_3, hj_3, hs_3⟩ := hp_3
    try dsimp only at hj_3
    subst J_3
    refine lv_aload_n hx hb dX11_went_16 rfl (lv_at hl 0 rfl) ?_
    refine z_get hx hb ht hown hK hP ziX11 rfl 0 (by decide) 25 (by decide) hw_5_212 rfl (v := .ref (q 17)) rfl dX11_went_17 ?_
    refine lv_iload_n hx hb dX11_went_20 rfl (lv_at hl 1 rfl) ?_
    refine z_iald hx hb hK hP 17 (by decide) 16 rfl rfl (zR_vin f_2 (by decide)) dX11_went_21 ?_
    refine z_eqi (y := R_3 17 (pa0).toNatClampNeg) rfl ?_
    have f_4 : zR 0 146 (R_3 17 (pa0).toNatClampNeg) := mR hv_3 17 (pa0).toNatClampNeg
    refine lv_iconst (v := nI 1) hx hb dX11_went_22 (by decide +kernel) ?_
    refine lv_isub hx hb dX11_went_23 ?_
    refine z_subc (-1) 145 (-1) f_4 zk_1 (by decide) (fun v_5 hv_5 mv_5 => ?_)
    exact z_iret (v := v_5) hx hb hr hlocks hP hD hS dX11_went_24 ⟨(zR_w hv_5 (by decide)), ⟨hv_3, rfl⟩⟩
  · cases hu_1
    refine lv_if_ne (tgt := 12) hx hb dX11_went_6 (by decide) (fun c_0 => absurd (zD_eq zk_0 zk_z) c_0) (fun _ => ?_)
    refine lv_bipush (v := (-2)) hx hb dX11_went_9 (by decide +kernel) ?_
    exact z_iret (v := (-2)) hx hb hr hlocks hP hD hS dX11_went_11 ⟨(zR_w zk_m2 (by decide)), ⟨hI, rfl⟩⟩
set_option maxHeartbeats 4000000 in
set_option maxRecDepth 100000 in
theorem mk_X11_liesFor (l : Launch) (D : va_G) (q : Nat → Nat) (cA : Nat → ClassId) (F : Nat → Nat → Int32) (I R : Nat → Nat → Int32) (J : Nat → Nat → Int64) (hI : mInv F (I, R, J)) (pa0 : Int32) (hpa0 : zR 0 4 pa0) : zMi l D vwCl (zMtys cA) 25 q (zMd q cA) yX11_liesFor cX11_liesFor 4 (some .int) ({ frames := 0, cells := 0, slots := 0, locals := 0 } : Room) [.ref (q 0), .int (pa0)] (I, R, J) (fun r u => zR 0 63 r ∧ u = (I, R, J)) := by
  intro sz
  refine z_body (by decide +kernel) (Nat.le_of_ble_eq_true rfl) (fun p e s m below meth c ls hx hb hml hr ht hown hlocks hsz hK hP hD hS hl => ?_)
  have hA : ∀ a, s.heap.size ≤ a → zA 25 q sz a := fun a h => Or.inr (hsz ▸ h)
  have hl : lv_has ls 4 [(0, .ref (q 0)), (1, .int (pa0))] := hl
  refine lv_iconst (v := nI 0) hx hb dX11_liesFor_0 (by decide +kernel) ?_
  refine lv_istore_n (lv' := [(2, .int (nI 0)), (0, .ref (q 0)), (1, .int (pa0))]) hx hb dX11_liesFor_1 rfl hl (by decide) rfl (fun ls hl => ?_)
  refine lv_iconst (v := nI 0) hx hb dX11_liesFor_2 (by decide +kernel) ?_
  refine lv_istore_n (lv' := [(3, .int (nI 0)), (2, .int (nI 0)), (0, .ref (q 0)), (1, .int (pa0))]) hx hb dX11_liesFor_3 rfl hl (by decide) rfl (fun ls hl => ?_)
  have loop_69 : ∀ N : Nat, ∀ x_67 : Int32, zR 0 63 x_67 → ∀ x_68 : Int32, zR 0 6 x_68 → (2147483648 - (x_68).toInt).toNat < N → ∀ (H : Heap) (locs : List Loc), va_P D vwCl (zw 25 q (zMd q cA) I R J) H → va_D (zA 25 q sz) (zw 25 q (zMd q cA) I R J) → va_S (zA 25 q sz) s.heap H locs → ∀ ls : Array Slot, lv_has ls 4 [(0, .ref (q 0)), (1, .int (pa0)), (2, .int (x_67)), (3, .int (x_68))] → W p l e ({ frames := 0, cells := 0, slots := 0, locals := 0 } : Room) s m ([.ref (q 0), .int (pa0)] : List Value).toArray below meth c H locs 0 0 (MQ below (va_Qi (fun r u => zR 0 63 r ∧ u = (I, R, J)) (zB D vwCl 25 q (zMd q cA) sz) (zA 25 q sz)) ([.ref (q 0), .int (pa0)] : List Value).toArray s 0 0 (zA 25 q sz)) (F0 m 4 ls []) := by
    intro N
    induction N with
    | zero => intro x_67 hx_67 x_68 hx_68 hN; exact absurd hN (Nat.not_lt_zero _)
    | succ N ih_71 =>
      intro x_67 hx_67 x_68 hx_68 hN_70 H locs hP hD hS ls hl
      refine lv_iload_n hx hb dX11_liesFor_4 rfl (lv_at hl 3 rfl) ?_
      refine lv_aload_n hx hb dX11_liesFor_5 rfl (lv_at hl 0 rfl) ?_
      refine z_get hx hb ht hown hK hP ziX11 rfl 0 (by decide) 1 (by decide) hw_5_188 rfl (v := .ref (q 1)) rfl dX11_liesFor_6 ?_
      refine lv_iconst (v := nI 4) hx hb dX11_liesFor_9 (by decide +kernel) ?_
      refine z_iald hx hb hK hP 1 (by decide) 0 rfl rfl (zR_vin zk_4 (by decide)) dX11_liesFor_10 ?_
      refine z_eqi (y := R 1 (nI 4).toNatClampNeg) rfl ?_
      have f_72 : zR 0 6 (R 1 (nI 4).toNatClampNeg) := mR hI 1 4
      refine lv_icmp_ge (tgt := 54) hx hb dX11_liesFor_11 (by decide) (fun c_73 => ?_) (fun c_73 => ?_)
      · have t_c_73 := z_leT c_73
        refine lv_iload_n hx hb dX11_liesFor_54 rfl (lv_at hl 2 rfl) ?_
        exact z_iret (v := x_67) hx hb hr hlocks hP hD hS dX11_liesFor_55 ⟨hx_67, rfl⟩
      · have t_c_73 := z_leF c_73
        have f_74 : zR 0 5 (x_68) := zR_ltx t_c_73 hx_68 f_72 (by decide)
        have f_75 : zR 1 6 (R 1 (nI 4).toNatClampNeg) := zR_lty t_c_73 hx_68 f_72 (by decide)
        refine lv_iload_n hx hb dX11_liesFor_14 rfl (lv_at hl 2 rfl) ?_
        refine lv_aload_n hx hb dX11_liesFor_15 rfl (lv_at hl 0 rfl) ?_
        refine z_get hx hb ht hown hK hP ziX11 rfl 0 (by decide) 17 (by decide) hw_5_204 rfl (v := .ref (q 9)) rfl dX11_liesFor_16 ?_
        refine lv_iload_n hx hb dX11_liesFor_19 rfl (lv_at hl 3 rfl) ?_
        refine z_iald hx hb hK hP 9 (by decide) 8 rfl rfl (zR_vin f_74 (by decide)) dX11_liesFor_20 ?_
        refine z_eqi (y := R 9 (x_68).toNatClampNeg) rfl ?_
        have f_76 : zR 0 4 (R 9 (x_68).toNatClampNeg) := mR hI 9 (x_68).toNatClampNeg
        refine lv_iload_n hx hb dX11_liesFor_21 rfl (lv_at hl 1 rfl) ?_
        have t_82 : ∀ x_81 : Int32, zR 0 32 x_81 → ∀ (H : Heap) (locs : List Loc), va_P D vwCl (zw 25 q (zMd q cA) I R J) H → va_D (zA 25 q sz) (zw 25 q (zMd q cA) I R J) → va_S (zA 25 q sz) s.heap H locs → ∀ ls : Array Slot, lv_has ls 4 [(0, .ref (q 0)), (1, .int (pa0)), (2, .int (x_67)), (3, .int (x_68))] → W p l e ({ frames := 0, cells := 0, slots := 0, locals := 0 } : Room) s m ([.ref (q 0), .int (pa0)] : List Value).toArray below meth c H locs 0 0 (MQ below (va_Qi (fun r u => zR 0 63 r ∧ u = (I, R, J)) (zB D vwCl 25 q (zMd q cA) sz) (zA 25 q sz)) ([.ref (q 0), .int (pa0)] : List Value).toArray s 0 0 (zA 25 q sz)) (F0 m 46 ls [.int (x_81), .int (x_67)]) := by
          intro x_81 hx_81 H locs hP hD hS ls hl
          refine lv_ior hx hb dX11_liesFor_46 ?_
          refine z_rng (a := 0) (b := 63) (zR_or 6 hx_67 hx_81 (by decide)) (fun v_83 hv_83 => ?_)
          refine lv_istore_n (lv' := [(2, .int (v_83)), (0, .ref (q 0)), (1, .int (pa0)), (3, .int (x_68))]) hx hb dX11_liesFor_47 rfl hl (by decide) rfl (fun ls hl => ?_)
          obtain ⟨v_84, ev_84⟩ : ∃ y : Int32, y = x_68 + nI 1 := ⟨_, rfl⟩
          have hv_84 : zR 1 6 v_84 := ev_84 ▸ zR_add f_74 zk_1 (by decide)
          have mv_84 : v_84.toInt = (x_68).toInt + 1 := by rw [ev_84, zR_addE f_74 zk_1 (by decide)]; rfl
          refine lv_iinc (v := v_84) (lv' := [(3, .int (v_84)), (2, .int (v_83)), (0, .ref (q 0)), (1, .int (pa0))]) hx hb dX11_liesFor_48 hl (k := 3) rfl (ev_84 ▸ rfl) (by decide) rfl (fun ls hl => ?_)
          refine lv_goto (tgt := 4) hx hb dX11_liesFor_51 (by decide) ?_
          exact ih_71 (v_83) hv_83 (v_84) (zR_w hv_84 (by decide)) (z2_up mv_84 (by decide) hN_70) _ _ hP hD hS _ (lv_sub hl [2, 3, 1, 0] rfl)
        refine lv_icmp_eq (tgt := 45) hx hb dX11_liesFor_22 (by decide) (fun c_77 => ?_) (fun c_77 => ?_)
        · have t_c_77 := z_eqT c_77
          refine lv_iconst (v := nI 0) hx hb dX11_liesFor_45 (by decide +kernel) ?_
          exact t_82 (nI 0) (zR_w zk_0 (by decide)) _ _ hP hD hS _ (lv_sub hl [0, 1, 2, 3] rfl)
        · have t_c_77 := z_eqF c_77
          refine lv_aload_n hx hb dX11_liesFor_25 rfl (lv_at hl 0 rfl) ?_
          refine z_get hx hb ht hown hK hP ziX11 rfl 0 (by decide) 16 (by decide) hw_5_203 rfl (v := .ref (q 8)) rfl dX11_liesFor_26 ?_
          refine lv_aload_n hx hb dX11_liesFor_29 rfl (lv_at hl 0 rfl) ?_
          refine z_get hx hb ht hown hK hP ziX11 rfl 0 (by decide) 17 (by decide) hw_5_204 rfl (v := .ref (q 9)) rfl dX11_liesFor_30 ?_
          refine lv_iload_n hx hb dX11_liesFor_33 rfl (lv_at hl 3 rfl) ?_
          refine z_iald hx hb hK hP 9 (by decide) 8 rfl rfl (zR_vin f_74 (by decide)) dX11_liesFor_34 ?_
          refine z_eqi (y := R 9 (x_68).toNatClampNeg) rfl ?_
          refine z_iald hx hb hK hP 8 (by decide) 7 rfl rfl (zR_vin f_76 (by decide)) dX11_liesFor_35 ?_
          refine z_eqi (y := R 8 (R 9 (x_68).toNatClampNeg).toNatClampNeg) rfl ?_
          refine lv_if_ne (tgt := 45) hx hb dX11_liesFor_36 (by decide) (fun c_85 => ?_) (fun c_85 => ?_)
          · have t_c_85 := z_eqF c_85
            refine lv_iconst (v := nI 0) hx hb dX11_liesFor_45 (by decide +kernel) ?_
            exact t_82 (nI 0) (zR_w zk_0 (by decide)) _ _ hP hD hS _ (lv_sub hl [0, 1, 2, 3] rfl)
          · have t_c_85 := z_eqT c_85
            have f_86 : zR 0 0 (R 8 (R 9 (x_68).toNatClampNeg).toNatClampNeg) := zR_eqx t_c_85 zk_z
            refine lv_iconst (v := nI 1) hx hb dX11_liesFor_39 (by decide +kernel) ?_
            refine lv_iload_n hx hb dX11_liesFor_40 rfl (lv_at hl 3 rfl) ?_
            refine lv_ishl hx hb dX11_liesFor_41 ?_
            refine z_rng (a := 1) (b := 32) (zR_shl1 5 f_74 (by decide)) (fun v_87 hv_87 => ?_)
            refine lv_goto (tgt := 46) hx hb dX11_liesFor_42 (by decide) ?_
            exact t_82 (v_87) (zR_w hv_87 (by decide)) _ _ hP hD hS _ (lv_sub hl [0, 1, 2, 3] rfl)
  exact loop_69 _ (nI 0) (zR_w zk_0 (by decide)) (nI 0) (zR_w zk_0 (by decide)) (Nat.lt_succ_self _) _ _ hP hD hS _ (lv_sub hl [2, 3, 1, 0] rfl)
set_option maxHeartbeats 4000000 in
set_option maxRecDepth 100000 in
theorem mk_X11_lies (l : Launch) (D : va_G) (q : Nat → Nat) (cA : Nat → ClassId) (F : Nat → Nat → Int32) (I R : Nat → Nat → Int32) (J : Nat → Nat → Int64) (hI : mInv F (I, R, J)) (pa0 : Int32) : zMi l D vwCl (zMtys cA) 25 q (zMd q cA) yX11_lies cX11_lies 2 (some .int) ({ frames := 6, cells := 0, slots := 0, locals := 155 } : Room) [.ref (q 0), .int (pa0)] (I, R, J) (fun r u => zR (-2) 63 r ∧ (mInv F u ∧ u.2.2 = J)) := by
  intro sz
  refine z_body (by decide +kernel) (Nat.le_of_ble_eq_true rfl) (fun p e s m below meth c ls hx hb hml hr ht hown hlocks hsz hK hP hD hS hl => ?_)
  have hA : ∀ a, s.heap.size ≤ a → zA 25 q sz a := fun a h => Or.inr (hsz ▸ h)
  have hl : lv_has ls 2 [(0, .ref (q 0)), (1, .int (pa0))] := hl
  refine lv_aload_n hx hb dX11_lies_0 rfl (lv_at hl 0 rfl) ?_
  refine lv_iload_n hx hb dX11_lies_1 rfl (lv_at hl 1 rfl) ?_
  refine lv_i2l (v := (pa0).toInt64) hx hb dX11_lies_2 rfl ?_
  refine z_callVi (k := 0) (As := [.long ((pa0).toInt64)]) (rest := []) hx hb hml hown ht (mk_X11_isHouse l D q cA F _ _ _ hI ((pa0).toInt64) (zR_i2l (zR_any (pa0)))) hw_6_176 hmX11_isHouse ⟨rfl, rfl⟩ (na := 1) rfl (by decide +kernel) (by decide) (by decide) rfl rfl hK hP hD hS hA hl.1 rfl (Nat.le_of_ble_eq_true rfl) ⟨Nat.zero_le _, Nat.zero_le _⟩ dX11_lies_3 (fun r_1 I_1 R_1 J_1 H locs hp_1 hP hD hS _ _ => ?_)
  rcases hp_1 with ⟨rfl, hu_1, f0_1⟩ | ⟨rfl, hu_1⟩
  · cases hu_1
    have f_2 : zR 0 4 (pa0) := zL_back f0_1
    refine lv_if_ne (tgt := 12) hx hb dX11_lies_6 (by decide) (fun _ => ?_) (fun c_0 => absurd c_0 (zD_ne zk_1 zk_z (by decide)))
    refine lv_aload_n hx hb dX11_lies_12 rfl (lv_at hl 0 rfl) ?_
    refine z_callVv (k := 0) (As := []) (rest := []) hx hb hml hown ht (mk_X11_asItIs l D q cA F _ _ _ hI ) hw_6_181 hmX11_asItIs ⟨rfl, rfl⟩ (na := 0) rfl (by decide +kernel) (by decide) (by decide) rfl rfl hK hP hD hS hA hl.1 rfl (Nat.le_of_ble_eq_true rfl) ⟨Nat.zero_le _, Nat.zero_le _⟩ dX11_lies_13 (fun I_3 R_3 J_3 H locs hp_3 hP hD hS _ _ => ?_)
    obtain ⟨hv_3, hj_3, hs_3⟩ := hp_3
    try dsimp only at hj_3
    subst J_3
    refine lv_aload_n hx hb dX11_lies_16 rfl (lv_at hl 0 rfl) ?_
    refine lv_iload_n hx hb dX11_lies_17 rfl (lv_at hl 1 rfl) ?_
    refine z_callVi (k := 0) (As := [.int (pa0)]) (rest := []) hx hb hml hown ht (mk_X11_liesFor l D q cA F _ _ _ hv_3 (pa0) f_2) hw_7_164 hmX11_liesFor ⟨rfl, rfl⟩ (na := 1) rfl (by decide +kernel) (by decide) (by decide) rfl rfl hK hP hD hS hA hl.1 rfl (Nat.le_of_ble_eq_true rfl) ⟨Nat.zero_le _, Nat.zero_le _⟩ dX11_lies_18 (fun r_4 I_4 R_4 J_4 H locs hp_4 hP hD hS _ _ => ?_)
    obtain ⟨hr_4, hu_4⟩ := hp_4
    cases hu_4
    exact z_iret (v := r_4) hx hb hr hlocks hP hD hS dX11_lies_21 ⟨(zR_w hr_4 (by decide)), ⟨hv_3, rfl⟩⟩
  · cases hu_1
    refine lv_if_ne (tgt := 12) hx hb dX11_lies_6 (by decide) (fun c_0 => absurd (zD_eq zk_0 zk_z) c_0) (fun _ => ?_)
    refine lv_bipush (v := (-2)) hx hb dX11_lies_9 (by decide +kernel) ?_
    exact z_iret (v := (-2)) hx hb hr hlocks hP hD hS dX11_lies_11 ⟨(zR_w zk_m2 (by decide)), ⟨hI, rfl⟩⟩
set_option maxHeartbeats 4000000 in
set_option maxRecDepth 100000 in
theorem mk_X11_poorest (l : Launch) (D : va_G) (q : Nat → Nat) (cA : Nat → ClassId) (F : Nat → Nat → Int32) (I R : Nat → Nat → Int32) (J : Nat → Nat → Int64) (hI : mInv F (I, R, J))  : zMi l D vwCl (zMtys cA) 25 q (zMd q cA) yX11_poorest cX11_poorest 3 (some .int) ({ frames := 6, cells := 0, slots := 0, locals := 155 } : Room) [.ref (q 0)] (I, R, J) (fun r u => zR (-2) 4 r ∧ (mInv F u ∧ u.2.2 = J)) := by
  intro sz
  refine z_body (by decide +kernel) (Nat.le_of_ble_eq_true rfl) (fun p e s m below meth c ls hx hb hml hr ht hown hlocks hsz hK hP hD hS hl => ?_)
  have hA : ∀ a, s.heap.size ≤ a → zA 25 q sz a := fun a h => Or.inr (hsz ▸ h)
  have hl : lv_has ls 3 [(0, .ref (q 0))] := hl
  refine lv_aload_n hx hb dX11_poorest_0 rfl (lv_at hl 0 rfl) ?_
  refine z_callVi (k := 0) (As := []) (rest := []) hx hb hml hown ht (mk_X11_isCity l D q cA F _ _ _ hI ) hw_7_75 hmX11_isCity ⟨rfl, rfl⟩ (na := 0) rfl (by decide +kernel) (by decide) (by decide) rfl rfl hK hP hD hS hA hl.1 rfl (Nat.le_of_ble_eq_true rfl) ⟨Nat.zero_le _, Nat.zero_le _⟩ dX11_poorest_1 (fun r_1 I_1 R_1 J_1 H locs hp_1 hP hD hS _ _ => ?_)
  rcases hp_1 with ⟨rfl, hu_1⟩ | ⟨rfl, hu_1⟩
  · cases hu_1
    refine lv_if_ne (tgt := 10) hx hb dX11_poorest_4 (by decide) (fun _ => ?_) (fun c_0 => absurd c_0 (zD_ne zk_1 zk_z (by decide)))
    refine lv_aload_n hx hb dX11_poorest_10 rfl (lv_at hl 0 rfl) ?_
    refine z_callVv (k := 0) (As := []) (rest := []) hx hb hml hown ht (mk_X11_asItIs l D q cA F _ _ _ hI ) hw_6_181 hmX11_asItIs ⟨rfl, rfl⟩ (na := 0) rfl (by decide +kernel) (by decide) (by decide) rfl rfl hK hP hD hS hA hl.1 rfl (Nat.le_of_ble_eq_true rfl) ⟨Nat.zero_le _, Nat.zero_le _⟩ dX11_poorest_11 (fun I_2 R_2 J_2 H locs hp_2 hP hD hS _ _ => ?_)
    obtain ⟨hv_2, hj_2, hs_2⟩ := hp_2
    try dsimp only at hj_2
    subst J_2
    refine lv_iconst (v := (-1)) hx hb dX11_poorest_14 (by decide +kernel) ?_
    refine lv_istore_n (lv' := [(1, .int ((-1))), (0, .ref (q 0))]) hx hb dX11_poorest_15 rfl hl (by decide) rfl (fun ls hl => ?_)
    refine lv_iconst (v := nI 0) hx hb dX11_poorest_16 (by decide +kernel) ?_
    refine lv_istore_n (lv' := [(2, .int (nI 0)), (1, .int ((-1))), (0, .ref (q 0))]) hx hb dX11_poorest_17 rfl hl (by decide) rfl (fun ls hl => ?_)
    have loop_73 : ∀ N : Nat, ∀ x_71 : Int32, zR (-1) 4 x_71 → ∀ x_72 : Int32, zR 0 5 x_72 → (2147483648 - (x_72).toInt).toNat < N → ∀ (H : Heap) (locs : List Loc), va_P D vwCl (zw 25 q (zMd q cA) I_2 R_2 J) H → va_D (zA 25 q sz) (zw 25 q (zMd q cA) I_2 R_2 J) → va_S (zA 25 q sz) s.heap H locs → ∀ ls : Array Slot, lv_has ls 3 [(0, .ref (q 0)), (1, .int (x_71)), (2, .int (x_72))] → W p l e ({ frames := 6, cells := 0, slots := 0, locals := 155 } : Room) s m ([.ref (q 0)] : List Value).toArray below meth c H locs 0 0 (MQ below (va_Qi (fun r u => zR (-2) 4 r ∧ (mInv F u ∧ u.2.2 = J)) (zB D vwCl 25 q (zMd q cA) sz) (zA 25 q sz)) ([.ref (q 0)] : List Value).toArray s 0 0 (zA 25 q sz)) (F0 m 18 ls []) := by
      intro N
      induction N with
      | zero => intro x_71 hx_71 x_72 hx_72 hN; exact absurd hN (Nat.not_lt_zero _)
      | succ N ih_75 =>
        intro x_71 hx_71 x_72 hx_72 hN_74 H locs hP hD hS ls hl
        refine lv_iload_n hx hb dX11_poorest_18 rfl (lv_at hl 2 rfl) ?_
        refine lv_aload_n hx hb dX11_poorest_19 rfl (lv_at hl 0 rfl) ?_
        refine z_get hx hb ht hown hK hP ziX11 rfl 0 (by decide) 1 (by decide) hw_5_188 rfl (v := .ref (q 1)) rfl dX11_poorest_20 ?_
        refine lv_iconst (v := nI 3) hx hb dX11_poorest_23 (by decide +kernel) ?_
        refine z_iald hx hb hK hP 1 (by decide) 0 rfl rfl (zR_vin zk_3 (by decide)) dX11_poorest_24 ?_
        refine z_eqi (y := R_2 1 (nI 3).toNatClampNeg) rfl ?_
        have f_76 : zR 0 5 (R_2 1 (nI 3).toNatClampNeg) := mR hv_2 1 3
        refine lv_icmp_ge (tgt := 58) hx hb dX11_poorest_25 (by decide) (fun c_77 => ?_) (fun c_77 => ?_)
        · have t_c_77 := z_leT c_77
          refine lv_iload_n hx hb dX11_poorest_58 rfl (lv_at hl 1 rfl) ?_
          exact z_iret (v := x_71) hx hb hr hlocks hP hD hS dX11_poorest_59 ⟨(zR_w hx_71 (by decide)), ⟨hv_2, rfl⟩⟩
        · have t_c_77 := z_leF c_77
          have f_78 : zR 0 4 (x_72) := zR_ltx t_c_77 hx_72 f_76 (by decide)
          have f_79 : zR 1 5 (R_2 1 (nI 3).toNatClampNeg) := zR_lty t_c_77 hx_72 f_76 (by decide)
          refine lv_iload_n hx hb dX11_poorest_28 rfl (lv_at hl 1 rfl) ?_
          refine lv_iconst (v := (-1)) hx hb dX11_poorest_29 (by decide +kernel) ?_
          have t_89 : ∀ x_88 : Int32, zR 0 4 x_88 → ∀ (H : Heap) (locs : List Loc), va_P D vwCl (zw 25 q (zMd q cA) I_2 R_2 J) H → va_D (zA 25 q sz) (zw 25 q (zMd q cA) I_2 R_2 J) → va_S (zA 25 q sz) s.heap H locs → ∀ ls : Array Slot, lv_has ls 3 [(0, .ref (q 0)), (1, .int (x_71)), (2, .int (x_72))] → W p l e ({ frames := 6, cells := 0, slots := 0, locals := 155 } : Room) s m ([.ref (q 0)] : List Value).toArray below meth c H locs 0 0 (MQ below (va_Qi (fun r u => zR (-2) 4 r ∧ (mInv F u ∧ u.2.2 = J)) (zB D vwCl 25 q (zMd q cA) sz) (zA 25 q sz)) ([.ref (q 0)] : List Value).toArray s 0 0 (zA 25 q sz)) (F0 m 51 ls [.int (x_88)]) := by
            intro x_88 hx_88 H locs hP hD hS ls hl
            refine lv_istore_n (lv' := [(1, .int (x_88)), (0, .ref (q 0)), (2, .int (x_72))]) hx hb dX11_poorest_51 rfl hl (by decide) rfl (fun ls hl => ?_)
            obtain ⟨v_90, ev_90⟩ : ∃ y : Int32, y = x_72 + nI 1 := ⟨_, rfl⟩
            have hv_90 : zR 1 5 v_90 := ev_90 ▸ zR_add f_78 zk_1 (by decide)
            have mv_90 : v_90.toInt = (x_72).toInt + 1 := by rw [ev_90, zR_addE f_78 zk_1 (by decide)]; rfl
            refine lv_iinc (v := v_90) (lv' := [(2, .int (v_90)), (1, .int (x_88)), (0, .ref (q 0))]) hx hb dX11_poorest_52 hl (k := 2) rfl (ev_90 ▸ rfl) (by decide) rfl (fun ls hl => ?_)
            refine lv_goto (tgt := 18) hx hb dX11_poorest_55 (by decide) ?_
            exact ih_75 (x_88) (zR_w hx_88 (by decide)) (v_90) (zR_w hv_90 (by decide)) (z2_up mv_90 (by decide) hN_74) _ _ hP hD hS _ (lv_sub hl [2, 1, 0] rfl)
          refine lv_icmp_eq (tgt := 46) hx hb dX11_poorest_30 (by decide) (fun c_80 => ?_) (fun c_80 => ?_)
          · have t_c_80 := z_eqT c_80
            have f_91 : zR (-1) (-1) (x_71) := zR_eqx t_c_80 zk_m1
            refine lv_iload_n hx hb dX11_poorest_46 rfl (lv_at hl 2 rfl) ?_
            refine lv_goto (tgt := 51) hx hb dX11_poorest_47 (by decide) ?_
            exact t_89 (x_72) f_78 _ _ hP hD hS _ (lv_sub hl [0, 1, 2] rfl)
          · have t_c_80 := z_eqF c_80
            have f_92 : zR 0 4 (x_71) := zR_nex t_c_80 hx_71 zk_m1 (by decide)
            refine lv_aload_n hx hb dX11_poorest_33 rfl (lv_at hl 0 rfl) ?_
            refine lv_iload_n hx hb dX11_poorest_34 rfl (lv_at hl 2 rfl) ?_
            refine z_callVi (k := 0) (As := [.int (x_72)]) (rest := []) hx hb hml hown ht (mk_X11_netOf l D q cA F _ _ _ hv_2 (x_72) f_78) hw_7_31 hmX11_netOf ⟨rfl, rfl⟩ (na := 1) rfl (by decide +kernel) (by decide) (by decide) rfl rfl hK hP hD hS hA hl.1 rfl (Nat.le_of_ble_eq_true rfl) ⟨Nat.zero_le _, Nat.zero_le _⟩ dX11_poorest_35 (fun r_93 I_93 R_93 J_93 H locs hp_93 hP hD hS _ _ => ?_)
            cases hp_93
            refine lv_aload_n hx hb dX11_poorest_38 rfl (lv_at hl 0 rfl) ?_
            refine lv_iload_n hx hb dX11_poorest_39 rfl (lv_at hl 1 rfl) ?_
            refine z_callVi (k := 0) (As := [.int (x_71)]) (rest := [.int (r_93)]) hx hb hml hown ht (mk_X11_netOf l D q cA F _ _ _ hv_2 (x_71) f_92) hw_7_31 hmX11_netOf ⟨rfl, rfl⟩ (na := 1) rfl (by decide +kernel) (by decide) (by decide) rfl rfl hK hP hD hS hA hl.1 rfl (Nat.le_of_ble_eq_true rfl) ⟨Nat.zero_le _, Nat.zero_le _⟩ dX11_poorest_40 (fun r_94 I_94 R_94 J_94 H locs hp_94 hP hD hS _ _ => ?_)
            cases hp_94
            refine lv_icmp_ge (tgt := 50) hx hb dX11_poorest_43 (by decide) (fun c_95 => ?_) (fun c_95 => ?_)
            · have t_c_95 := z_leT c_95
              refine lv_iload_n hx hb dX11_poorest_50 rfl (lv_at hl 1 rfl) ?_
              exact t_89 (x_71) f_92 _ _ hP hD hS _ (lv_sub hl [0, 1, 2] rfl)
            · have t_c_95 := z_leF c_95
              have f_96 : zR (-2147483648) 2147483646 (r_93) := zR_ltx t_c_95 (zR_any (r_93)) (zR_any (r_94)) (by decide)
              have f_97 : zR (-2147483647) 2147483647 (r_94) := zR_lty t_c_95 (zR_any (r_93)) (zR_any (r_94)) (by decide)
              refine lv_iload_n hx hb dX11_poorest_46 rfl (lv_at hl 2 rfl) ?_
              refine lv_goto (tgt := 51) hx hb dX11_poorest_47 (by decide) ?_
              exact t_89 (x_72) f_78 _ _ hP hD hS _ (lv_sub hl [0, 1, 2] rfl)
    exact loop_73 _ ((-1)) (zR_w zk_m1 (by decide)) (nI 0) (zR_w zk_0 (by decide)) (Nat.lt_succ_self _) _ _ hP hD hS _ (lv_sub hl [2, 1, 0] rfl)
  · cases hu_1
    refine lv_if_ne (tgt := 10) hx hb dX11_poorest_4 (by decide) (fun c_0 => absurd (zD_eq zk_0 zk_z) c_0) (fun _ => ?_)
    refine lv_bipush (v := (-2)) hx hb dX11_poorest_7 (by decide +kernel) ?_
    exact z_iret (v := (-2)) hx hb hr hlocks hP hD hS dX11_poorest_9 ⟨(zR_w zk_m2 (by decide)), ⟨hI, rfl⟩⟩
set_option maxHeartbeats 4000000 in
set_option maxRecDepth 100000 in
theorem mk_X11_dueOn (l : Launch) (D : va_G) (q : Nat → Nat) (cA : Nat → ClassId) (F : Nat → Nat → Int32) (I R : Nat → Nat → Int32) (J : Nat → Nat → Int64) (hI : mInv F (I, R, J)) (pa0 : Int32) (hpa0 : zR 0 60 pa0) : zMi l D vwCl (zMtys cA) 25 q (zMd q cA) yX11_dueOn cX11_dueOn 4 (some .int) ({ frames := 1, cells := 0, slots := 0, locals := 21 } : Room) [.ref (q 0), .int (pa0)] (I, R, J) (fun r u => zR 0 16777215 r ∧ u = (I, R, J)) := by
  intro sz
  refine z_body (by decide +kernel) (Nat.le_of_ble_eq_true rfl) (fun p e s m below meth c ls hx hb hml hr ht hown hlocks hsz hK hP hD hS hl => ?_)
  have hA : ∀ a, s.heap.size ≤ a → zA 25 q sz a := fun a h => Or.inr (hsz ▸ h)
  have hl : lv_has ls 4 [(0, .ref (q 0)), (1, .int (pa0))] := hl
  refine lv_iconst (v := nI 0) hx hb dX11_dueOn_0 (by decide +kernel) ?_
  refine lv_istore_n (lv' := [(2, .int (nI 0)), (0, .ref (q 0)), (1, .int (pa0))]) hx hb dX11_dueOn_1 rfl hl (by decide) rfl (fun ls hl => ?_)
  refine lv_iconst (v := nI 0) hx hb dX11_dueOn_2 (by decide +kernel) ?_
  refine lv_istore_n (lv' := [(3, .int (nI 0)), (2, .int (nI 0)), (0, .ref (q 0)), (1, .int (pa0))]) hx hb dX11_dueOn_3 rfl hl (by decide) rfl (fun ls hl => ?_)
  have loop_64 : ∀ N : Nat, ∀ x_62 : Int32, zR 0 16777215 x_62 → ∀ x_63 : Int32, zR 0 24 x_63 → (2147483648 - (x_63).toInt).toNat < N → ∀ (H : Heap) (locs : List Loc), va_P D vwCl (zw 25 q (zMd q cA) I R J) H → va_D (zA 25 q sz) (zw 25 q (zMd q cA) I R J) → va_S (zA 25 q sz) s.heap H locs → ∀ ls : Array Slot, lv_has ls 4 [(0, .ref (q 0)), (1, .int (pa0)), (2, .int (x_62)), (3, .int (x_63))] → W p l e ({ frames := 1, cells := 0, slots := 0, locals := 21 } : Room) s m ([.ref (q 0), .int (pa0)] : List Value).toArray below meth c H locs 0 0 (MQ below (va_Qi (fun r u => zR 0 16777215 r ∧ u = (I, R, J)) (zB D vwCl 25 q (zMd q cA) sz) (zA 25 q sz)) ([.ref (q 0), .int (pa0)] : List Value).toArray s 0 0 (zA 25 q sz)) (F0 m 4 ls []) := by
    intro N
    induction N with
    | zero => intro x_62 hx_62 x_63 hx_63 hN; exact absurd hN (Nat.not_lt_zero _)
    | succ N ih_66 =>
      intro x_62 hx_62 x_63 hx_63 hN_65 H locs hP hD hS ls hl
      refine lv_iload_n hx hb dX11_dueOn_4 rfl (lv_at hl 3 rfl) ?_
      refine lv_aload_n hx hb dX11_dueOn_5 rfl (lv_at hl 0 rfl) ?_
      refine z_get hx hb ht hown hK hP ziX11 rfl 0 (by decide) 26 (by decide) hw_5_213 rfl (v := .int (I 0 26)) rfl dX11_dueOn_6 ?_
      have f_67 : zR 0 24 (I 0 26) := mI hI 0 26
      refine lv_icmp_ge (tgt := 46) hx hb dX11_dueOn_9 (by decide) (fun c_68 => ?_) (fun c_68 => ?_)
      · have t_c_68 := z_leT c_68
        refine lv_iload_n hx hb dX11_dueOn_46 rfl (lv_at hl 2 rfl) ?_
        exact z_iret (v := x_62) hx hb hr hlocks hP hD hS dX11_dueOn_47 ⟨hx_62, rfl⟩
      · have t_c_68 := z_leF c_68
        have f_69 : zR 0 23 (x_63) := zR_ltx t_c_68 hx_63 f_67 (by decide)
        have f_70 : zR 1 24 (I 0 26) := zR_lty t_c_68 hx_63 f_67 (by decide)
        refine lv_iload_n hx hb dX11_dueOn_12 rfl (lv_at hl 2 rfl) ?_
        refine lv_aload_n hx hb dX11_dueOn_13 rfl (lv_at hl 0 rfl) ?_
        refine lv_iload_n hx hb dX11_dueOn_14 rfl (lv_at hl 3 rfl) ?_
        have t_76 : ∀ x_75 : Int32, zR 0 8388608 x_75 → ∀ (H : Heap) (locs : List Loc), va_P D vwCl (zw 25 q (zMd q cA) I R J) H → va_D (zA 25 q sz) (zw 25 q (zMd q cA) I R J) → va_S (zA 25 q sz) s.heap H locs → ∀ ls : Array Slot, lv_has ls 4 [(0, .ref (q 0)), (1, .int (pa0)), (2, .int (x_62)), (3, .int (x_63))] → W p l e ({ frames := 1, cells := 0, slots := 0, locals := 21 } : Room) s m ([.ref (q 0), .int (pa0)] : List Value).toArray below meth c H locs 0 0 (MQ below (va_Qi (fun r u => zR 0 16777215 r ∧ u = (I, R, J)) (zB D vwCl 25 q (zMd q cA) sz) (zA 25 q sz)) ([.ref (q 0), .int (pa0)] : List Value).toArray s 0 0 (zA 25 q sz)) (F0 m 38 ls [.int (x_75), .int (x_62)]) := by
          intro x_75 hx_75 H locs hP hD hS ls hl
          refine lv_ior hx hb dX11_dueOn_38 ?_
          refine z_rng (a := 0) (b := 16777215) (zR_or 24 hx_62 hx_75 (by decide)) (fun v_77 hv_77 => ?_)
          refine lv_istore_n (lv' := [(2, .int (v_77)), (0, .ref (q 0)), (1, .int (pa0)), (3, .int (x_63))]) hx hb dX11_dueOn_39 rfl hl (by decide) rfl (fun ls hl => ?_)
          obtain ⟨v_78, ev_78⟩ : ∃ y : Int32, y = x_63 + nI 1 := ⟨_, rfl⟩
          have hv_78 : zR 1 24 v_78 := ev_78 ▸ zR_add f_69 zk_1 (by decide)
          have mv_78 : v_78.toInt = (x_63).toInt + 1 := by rw [ev_78, zR_addE f_69 zk_1 (by decide)]; rfl
          refine lv_iinc (v := v_78) (lv' := [(3, .int (v_78)), (2, .int (v_77)), (0, .ref (q 0)), (1, .int (pa0))]) hx hb dX11_dueOn_40 hl (k := 3) rfl (ev_78 ▸ rfl) (by decide) rfl (fun ls hl => ?_)
          refine lv_goto (tgt := 4) hx hb dX11_dueOn_43 (by decide) ?_
          exact ih_66 (v_77) hv_77 (v_78) (zR_w hv_78 (by decide)) (z2_up mv_78 (by decide) hN_65) _ _ hP hD hS _ (lv_sub hl [2, 3, 1, 0] rfl)
        refine z_callVi (k := 0) (As := [.int (x_63)]) (rest := [.int (x_62)]) hx hb hml hown ht (mk_X11_isOpen_1 l D q cA F _ _ _ hI (x_63) f_69) hw_6_230 hmX11_isOpen ⟨rfl, rfl⟩ (na := 1) rfl (by decide +kernel) (by decide) (by decide) rfl rfl hK hP hD hS hA hl.1 rfl (Nat.le_of_ble_eq_true rfl) ⟨Nat.zero_le _, Nat.zero_le _⟩ dX11_dueOn_15 (fun r_71 I_71 R_71 J_71 H locs hp_71 hP hD hS _ _ => ?_)
        rcases hp_71 with ⟨rfl, hu_71⟩ | ⟨rfl, hu_71⟩
        · cases hu_71
          refine lv_if_eq (tgt := 37) hx hb dX11_dueOn_18 (by decide) (fun c_0 => absurd c_0 (zD_ne zk_1 zk_z (by decide))) (fun _ => ?_)
          refine lv_aload_n hx hb dX11_dueOn_21 rfl (lv_at hl 0 rfl) ?_
          refine z_get hx hb ht hown hK hP ziX11 rfl 0 (by decide) 21 (by decide) hw_5_208 rfl (v := .ref (q 13)) rfl dX11_dueOn_22 ?_
          refine lv_iload_n hx hb dX11_dueOn_25 rfl (lv_at hl 3 rfl) ?_
          refine z_iald hx hb hK hP 13 (by decide) 12 rfl rfl (zR_vin f_69 (by decide)) dX11_dueOn_26 ?_
          refine z_eqi (y := R 13 (x_63).toNatClampNeg) rfl ?_
          refine lv_iload_n hx hb dX11_dueOn_27 rfl (lv_at hl 1 rfl) ?_
          refine lv_icmp_ne (tgt := 37) hx hb dX11_dueOn_28 (by decide) (fun c_79 => ?_) (fun c_79 => ?_)
          · have t_c_79 := z_eqF c_79
            refine lv_iconst (v := nI 0) hx hb dX11_dueOn_37 (by decide +kernel) ?_
            exact t_76 (nI 0) (zR_w zk_0 (by decide)) _ _ hP hD hS _ (lv_sub hl [0, 1, 2, 3] rfl)
          · have t_c_79 := z_eqT c_79
            have f_80 : zR 0 60 (R 13 (x_63).toNatClampNeg) := zR_eqx t_c_79 hpa0
            refine lv_iconst (v := nI 1) hx hb dX11_dueOn_31 (by decide +kernel) ?_
            refine lv_iload_n hx hb dX11_dueOn_32 rfl (lv_at hl 3 rfl) ?_
            refine lv_ishl hx hb dX11_dueOn_33 ?_
            refine z_rng (a := 1) (b := 8388608) (zR_shl1 23 f_69 (by decide)) (fun v_81 hv_81 => ?_)
            refine lv_goto (tgt := 38) hx hb dX11_dueOn_34 (by decide) ?_
            exact t_76 (v_81) (zR_w hv_81 (by decide)) _ _ hP hD hS _ (lv_sub hl [0, 1, 2, 3] rfl)
        · cases hu_71
          refine lv_if_eq (tgt := 37) hx hb dX11_dueOn_18 (by decide) (fun _ => ?_) (fun c_0 => absurd (zD_eq zk_0 zk_z) c_0)
          refine lv_iconst (v := nI 0) hx hb dX11_dueOn_37 (by decide +kernel) ?_
          exact t_76 (nI 0) (zR_w zk_0 (by decide)) _ _ hP hD hS _ (lv_sub hl [0, 1, 2, 3] rfl)
  exact loop_64 _ (nI 0) (zR_w zk_0 (by decide)) (nI 0) (zR_w zk_0 (by decide)) (Nat.lt_succ_self _) _ _ hP hD hS _ (lv_sub hl [2, 3, 1, 0] rfl)
set_option maxHeartbeats 4000000 in
set_option maxRecDepth 100000 in
theorem mk_X11_due (l : Launch) (D : va_G) (q : Nat → Nat) (cA : Nat → ClassId) (F : Nat → Nat → Int32) (I R : Nat → Nat → Int32) (J : Nat → Nat → Int64) (hI : mInv F (I, R, J)) (pa0 : Int32) : zMi l D vwCl (zMtys cA) 25 q (zMd q cA) yX11_due cX11_due 2 (some .int) ({ frames := 6, cells := 0, slots := 0, locals := 155 } : Room) [.ref (q 0), .int (pa0)] (I, R, J) (fun r u => zR (-2) 16777215 r ∧ (mInv F u ∧ u.2.2 = J)) := by
  intro sz
  refine z_body (by decide +kernel) (Nat.le_of_ble_eq_true rfl) (fun p e s m below meth c ls hx hb hml hr ht hown hlocks hsz hK hP hD hS hl => ?_)
  have hA : ∀ a, s.heap.size ≤ a → zA 25 q sz a := fun a h => Or.inr (hsz ▸ h)
  have hl : lv_has ls 2 [(0, .ref (q 0)), (1, .int (pa0))] := hl
  refine lv_aload_n hx hb dX11_due_0 rfl (lv_at hl 0 rfl) ?_
  refine z_callVi (k := 0) (As := []) (rest := []) hx hb hml hown ht (mk_X11_isCity l D q cA F _ _ _ hI ) hw_7_75 hmX11_isCity ⟨rfl, rfl⟩ (na := 0) rfl (by decide +kernel) (by decide) (by decide) rfl rfl hK hP hD hS hA hl.1 rfl (Nat.le_of_ble_eq_true rfl) ⟨Nat.zero_le _, Nat.zero_le _⟩ dX11_due_1 (fun r_1 I_1 R_1 J_1 H locs hp_1 hP hD hS _ _ => ?_)
  rcases hp_1 with ⟨rfl, hu_1⟩ | ⟨rfl, hu_1⟩
  · cases hu_1
    refine lv_if_eq (tgt := 19) hx hb dX11_due_4 (by decide) (fun c_0 => absurd c_0 (zD_ne zk_1 zk_z (by decide))) (fun _ => ?_)
    refine lv_iload_n hx hb dX11_due_7 rfl (lv_at hl 1 rfl) ?_
    refine lv_i2l (v := (pa0).toInt64) hx hb dX11_due_8 rfl ?_
    refine lv_lconst (v := (0 : Int64)) hx hb dX11_due_9 (by decide +kernel) ?_
    refine lv_ldc2 (v := (60 : Int64)) hx hb hown (ht _ hw_7_39) dX11_due_10 ?_
    refine z_callSi (As := [.long ((pa0).toInt64), .long ((0 : Int64)), .long ((60 : Int64))]) (rest := []) hx hb hml hown ht (mk_X11_in l D q cA F _ _ _ hI ((pa0).toInt64) ((0 : Int64)) ((60 : Int64))) hw_6_86 hmX11_in ⟨rfl, rfl⟩ (na := 3) rfl (by decide +kernel) (by decide) hK hP hD hS hA hl.1 rfl (Nat.le_of_ble_eq_true rfl) ⟨Nat.zero_le _, Nat.zero_le _⟩ dX11_due_13 (fun r_2 I_2 R_2 J_2 H locs hp_2 hP hD hS _ _ => ?_)
    rcases hp_2 with ⟨rfl, hu_2, h1_2, h2_2⟩ | ⟨rfl, hu_2, h1_2 | h2_2⟩
    · cases hu_2
      have f_3 : zL 0 2147483647 ((pa0).toInt64) := zL_ley h1_2 zkl_0 (zR_i2l (zR_any (pa0))) (by decide)
      have f_4 : zR 0 2147483647 (pa0) := zL_back f_3
      have f_5 : zL 0 60 ((pa0).toInt64) := zL_lex h2_2 f_3 zkl_60 (by decide)
      have f_6 : zR 0 60 (pa0) := zL_back f_5
      refine lv_if_ne (tgt := 22) hx hb dX11_due_16 (by decide) (fun _ => ?_) (fun c_0 => absurd c_0 (zD_ne zk_1 zk_z (by decide)))
      refine lv_aload_n hx hb dX11_due_22 rfl (lv_at hl 0 rfl) ?_
      refine z_callVv (k := 0) (As := []) (rest := []) hx hb hml hown ht (mk_X11_asItIs l D q cA F _ _ _ hI ) hw_6_181 hmX11_asItIs ⟨rfl, rfl⟩ (na := 0) rfl (by decide +kernel) (by decide) (by decide) rfl rfl hK hP hD hS hA hl.1 rfl (Nat.le_of_ble_eq_true rfl) ⟨Nat.zero_le _, Nat.zero_le _⟩ dX11_due_23 (fun I_7 R_7 J_7 H locs hp_7 hP hD hS _ _ => ?_)
      obtain ⟨hv_7, hj_7, hs_7⟩ := hp_7
      try dsimp only at hj_7
      subst J_7
      refine lv_aload_n hx hb dX11_due_26 rfl (lv_at hl 0 rfl) ?_
      refine lv_iload_n hx hb dX11_due_27 rfl (lv_at hl 1 rfl) ?_
      refine z_callVi (k := 0) (As := [.int (pa0)]) (rest := []) hx hb hml hown ht (mk_X11_dueOn l D q cA F _ _ _ hv_7 (pa0) f_6) hw_7_176 hmX11_dueOn ⟨rfl, rfl⟩ (na := 1) rfl (by decide +kernel) (by decide) (by decide) rfl rfl hK hP hD hS hA hl.1 rfl (Nat.le_of_ble_eq_true rfl) ⟨Nat.zero_le _, Nat.zero_le _⟩ dX11_due_28 (fun r_8 I_8 R_8 J_8 H locs hp_8 hP hD hS _ _ => ?_)
      obtain ⟨hr_8, hu_8⟩ := hp_8
      cases hu_8
      exact z_iret (v := r_8) hx hb hr hlocks hP hD hS dX11_due_31 ⟨(zR_w hr_8 (by decide)), ⟨hv_7, rfl⟩⟩
    · cases hu_2
      have f_9 : zL (-2147483648) (-1) ((pa0).toInt64) := zL_ltx h1_2 (zR_i2l (zR_any (pa0))) zkl_0 (by decide)
      have f_10 : zR (-2147483648) (-1) (pa0) := zL_back f_9
      refine lv_if_ne (tgt := 22) hx hb dX11_due_16 (by decide) (fun c_0 => absurd (zD_eq zk_0 zk_z) c_0) (fun _ => ?_)
      refine lv_bipush (v := (-2)) hx hb dX11_due_19 (by decide +kernel) ?_
      exact z_iret (v := (-2)) hx hb hr hlocks hP hD hS dX11_due_21 ⟨(zR_w zk_m2 (by decide)), ⟨hI, rfl⟩⟩
    · cases hu_2
      have f_11 : zL 61 2147483647 ((pa0).toInt64) := zL_lty h2_2 zkl_60 (zR_i2l (zR_any (pa0))) (by decide)
      have f_12 : zR 61 2147483647 (pa0) := zL_back f_11
      refine lv_if_ne (tgt := 22) hx hb dX11_due_16 (by decide) (fun c_0 => absurd (zD_eq zk_0 zk_z) c_0) (fun _ => ?_)
      refine lv_bipush (v := (-2)) hx hb dX11_due_19 (by decide +kernel) ?_
      exact z_iret (v := (-2)) hx hb hr hlocks hP hD hS dX11_due_21 ⟨(zR_w zk_m2 (by decide)), ⟨hI, rfl⟩⟩
  · cases hu_1
    refine lv_if_eq (tgt := 19) hx hb dX11_due_4 (by decide) (fun _ => ?_) (fun c_0 => absurd (zD_eq zk_0 zk_z) c_0)
    refine lv_bipush (v := (-2)) hx hb dX11_due_19 (by decide +kernel) ?_
    exact z_iret (v := (-2)) hx hb hr hlocks hP hD hS dX11_due_21 ⟨(zR_w zk_m2 (by decide)), ⟨hI, rfl⟩⟩
set_option maxHeartbeats 4000000 in
set_option maxRecDepth 100000 in
theorem mk_X11_monday (l : Launch) (D : va_G) (q : Nat → Nat) (cA : Nat → ClassId) (F : Nat → Nat → Int32) (I R : Nat → Nat → Int32) (J : Nat → Nat → Int64) (hI : mInv F (I, R, J))  : zMi l D vwCl (zMtys cA) 25 q (zMd q cA) yX11_monday cX11_monday 4 (some .int) ({ frames := 6, cells := 0, slots := 0, locals := 155 } : Room) [.ref (q 0)] (I, R, J) (fun r u => zR (-2) 60 r ∧ (mInv F u ∧ u.2.2 = J)) := by
  intro sz
  refine z_body (by decide +kernel) (Nat.le_of_ble_eq_true rfl) (fun p e s m below meth c ls hx hb hml hr ht hown hlocks hsz hK hP hD hS hl => ?_)
  have hA : ∀ a, s.heap.size ≤ a → zA 25 q sz a := fun a h => Or.inr (hsz ▸ h)
  have hl : lv_has ls 4 [(0, .ref (q 0))] := hl
  refine lv_aload_n hx hb dX11_monday_0 rfl (lv_at hl 0 rfl) ?_
  refine z_callVi (k := 0) (As := []) (rest := []) hx hb hml hown ht (mk_X11_isCity l D q cA F _ _ _ hI ) hw_7_75 hmX11_isCity ⟨rfl, rfl⟩ (na := 0) rfl (by decide +kernel) (by decide) (by decide) rfl rfl hK hP hD hS hA hl.1 rfl (Nat.le_of_ble_eq_true rfl) ⟨Nat.zero_le _, Nat.zero_le _⟩ dX11_monday_1 (fun r_1 I_1 R_1 J_1 H locs hp_1 hP hD hS _ _ => ?_)
  rcases hp_1 with ⟨rfl, hu_1⟩ | ⟨rfl, hu_1⟩
  · cases hu_1
    refine lv_if_ne (tgt := 10) hx hb dX11_monday_4 (by decide) (fun _ => ?_) (fun c_0 => absurd c_0 (zD_ne zk_1 zk_z (by decide)))
    refine lv_aload_n hx hb dX11_monday_10 rfl (lv_at hl 0 rfl) ?_
    refine z_callVv (k := 0) (As := []) (rest := []) hx hb hml hown ht (mk_X11_asItIs l D q cA F _ _ _ hI ) hw_6_181 hmX11_asItIs ⟨rfl, rfl⟩ (na := 0) rfl (by decide +kernel) (by decide) (by decide) rfl rfl hK hP hD hS hA hl.1 rfl (Nat.le_of_ble_eq_true rfl) ⟨Nat.zero_le _, Nat.zero_le _⟩ dX11_monday_11 (fun I_2 R_2 J_2 H locs hp_2 hP hD hS _ _ => ?_)
    obtain ⟨hv_2, hj_2, hs_2⟩ := hp_2
    try dsimp only at hj_2
    subst J_2
    refine lv_iconst (v := (-1)) hx hb dX11_monday_14 (by decide +kernel) ?_
    refine lv_istore_n (lv' := [(1, .int ((-1))), (0, .ref (q 0))]) hx hb dX11_monday_15 rfl hl (by decide) rfl (fun ls hl => ?_)
    refine lv_iconst (v := nI 0) hx hb dX11_monday_16 (by decide +kernel) ?_
    refine lv_istore_n (lv' := [(2, .int (nI 0)), (1, .int ((-1))), (0, .ref (q 0))]) hx hb dX11_monday_17 rfl hl (by decide) rfl (fun ls hl => ?_)
    refine lv_iconst (v := nI 0) hx hb dX11_monday_18 (by decide +kernel) ?_
    refine lv_istore_n (lv' := [(3, .int (nI 0)), (2, .int (nI 0)), (1, .int ((-1))), (0, .ref (q 0))]) hx hb dX11_monday_19 rfl hl (by decide) rfl (fun ls hl => ?_)
    have loop_76 : ∀ N : Nat, ∀ x_73 : Int32, zR (-1) 60 x_73 → ∀ x_74 : Int32, ∀ x_75 : Int32, zR 0 61 x_75 → (2147483648 - (x_75).toInt).toNat < N → ∀ (H : Heap) (locs : List Loc), va_P D vwCl (zw 25 q (zMd q cA) I_2 R_2 J) H → va_D (zA 25 q sz) (zw 25 q (zMd q cA) I_2 R_2 J) → va_S (zA 25 q sz) s.heap H locs → ∀ ls : Array Slot, lv_has ls 4 [(0, .ref (q 0)), (1, .int (x_73)), (2, .int (x_74)), (3, .int (x_75))] → W p l e ({ frames := 6, cells := 0, slots := 0, locals := 155 } : Room) s m ([.ref (q 0)] : List Value).toArray below meth c H locs 0 0 (MQ below (va_Qi (fun r u => zR (-2) 60 r ∧ (mInv F u ∧ u.2.2 = J)) (zB D vwCl 25 q (zMd q cA) sz) (zA 25 q sz)) ([.ref (q 0)] : List Value).toArray s 0 0 (zA 25 q sz)) (F0 m 20 ls []) := by
      intro N
      induction N with
      | zero => intro x_73 hx_73 x_74 x_75 hx_75 hN; exact absurd hN (Nat.not_lt_zero _)
      | succ N ih_78 =>
        intro x_73 hx_73 x_74 x_75 hx_75 hN_77 H locs hP hD hS ls hl
        refine lv_iload_n hx hb dX11_monday_20 rfl (lv_at hl 3 rfl) ?_
        refine lv_bipush (v := nI 60) hx hb dX11_monday_21 (by decide +kernel) ?_
        refine lv_icmp_gt (tgt := 58) hx hb dX11_monday_23 (by decide) (fun c_79 => ?_) (fun c_79 => ?_)
        · have t_c_79 := z_ltT c_79
          have f_80 : zR 61 61 (x_75) := zR_lty t_c_79 zk_60 hx_75 (by decide)
          refine lv_iload_n hx hb dX11_monday_58 rfl (lv_at hl 1 rfl) ?_
          exact z_iret (v := x_73) hx hb hr hlocks hP hD hS dX11_monday_59 ⟨(zR_w hx_73 (by decide)), ⟨hv_2, rfl⟩⟩
        · have t_c_79 := z_ltF c_79
          have f_81 : zR 0 60 (x_75) := zR_lex t_c_79 hx_75 zk_60 (by decide)
          refine lv_aload_n hx hb dX11_monday_26 rfl (lv_at hl 0 rfl) ?_
          refine lv_iload_n hx hb dX11_monday_27 rfl (lv_at hl 3 rfl) ?_
          refine z_callVi (k := 0) (As := [.int (x_75)]) (rest := []) hx hb hml hown ht (mk_X11_dueOn l D q cA F _ _ _ hv_2 (x_75) f_81) hw_7_176 hmX11_dueOn ⟨rfl, rfl⟩ (na := 1) rfl (by decide +kernel) (by decide) (by decide) rfl rfl hK hP hD hS hA hl.1 rfl (Nat.le_of_ble_eq_true rfl) ⟨Nat.zero_le _, Nat.zero_le _⟩ dX11_monday_28 (fun r_82 I_82 R_82 J_82 H locs hp_82 hP hD hS _ _ => ?_)
          obtain ⟨hr_82, hu_82⟩ := hp_82
          cases hu_82
          refine z_callSi (As := [.int (r_82)]) (rest := []) hx hb hml hown ht (mk_X11_bits l D q cA F _ _ _ hv_2 (r_82)) hw_7_64 hmX11_bits ⟨rfl, rfl⟩ (na := 1) rfl (by decide +kernel) (by decide) hK hP hD hS hA hl.1 rfl (Nat.le_of_ble_eq_true rfl) ⟨Nat.zero_le _, Nat.zero_le _⟩ dX11_monday_31 (fun r_83 I_83 R_83 J_83 H locs hp_83 hP hD hS _ _ => ?_)
          cases hp_83
          refine lv_iload_n hx hb dX11_monday_34 rfl (lv_at hl 2 rfl) ?_
          have t_91 : ∀ x_89 : Int32, zR (-1) 60 x_89 → ∀ x_90 : Int32, ∀ (H : Heap) (locs : List Loc), va_P D vwCl (zw 25 q (zMd q cA) I_2 R_2 J) H → va_D (zA 25 q sz) (zw 25 q (zMd q cA) I_2 R_2 J) → va_S (zA 25 q sz) s.heap H locs → ∀ ls : Array Slot, lv_has ls 4 [(0, .ref (q 0)), (1, .int (x_89)), (2, .int (x_90)), (3, .int (x_75))] → W p l e ({ frames := 6, cells := 0, slots := 0, locals := 155 } : Room) s m ([.ref (q 0)] : List Value).toArray below meth c H locs 0 0 (MQ below (va_Qi (fun r u => zR (-2) 60 r ∧ (mInv F u ∧ u.2.2 = J)) (zB D vwCl 25 q (zMd q cA) sz) (zA 25 q sz)) ([.ref (q 0)] : List Value).toArray s 0 0 (zA 25 q sz)) (F0 m 52 ls []) := by
            intro x_89 hx_89 x_90 H locs hP hD hS ls hl
            obtain ⟨v_92, ev_92⟩ : ∃ y : Int32, y = x_75 + nI 1 := ⟨_, rfl⟩
            have hv_92 : zR 1 61 v_92 := ev_92 ▸ zR_add f_81 zk_1 (by decide)
            have mv_92 : v_92.toInt = (x_75).toInt + 1 := by rw [ev_92, zR_addE f_81 zk_1 (by decide)]; rfl
            refine lv_iinc (v := v_92) (lv' := [(3, .int (v_92)), (0, .ref (q 0)), (1, .int (x_89)), (2, .int (x_90))]) hx hb dX11_monday_52 hl (k := 3) rfl (ev_92 ▸ rfl) (by decide) rfl (fun ls hl => ?_)
            refine lv_goto (tgt := 20) hx hb dX11_monday_55 (by decide) ?_
            exact ih_78 (x_89) hx_89 (x_90) (v_92) (zR_w hv_92 (by decide)) (z2_up mv_92 (by decide) hN_77) _ _ hP hD hS _ (lv_sub hl [1, 2, 3, 0] rfl)
          refine lv_icmp_gt (tgt := 41) hx hb dX11_monday_35 (by decide) (fun c_84 => ?_) (fun c_84 => ?_)
          · have t_c_84 := z_ltT c_84
            have f_93 : zR (-2147483648) 2147483646 (x_74) := zR_ltx t_c_84 (zR_any (x_74)) (zR_any (r_83)) (by decide)
            have f_94 : zR (-2147483647) 2147483647 (r_83) := zR_lty t_c_84 (zR_any (x_74)) (zR_any (r_83)) (by decide)
            refine lv_aload_n hx hb dX11_monday_41 rfl (lv_at hl 0 rfl) ?_
            refine lv_iload_n hx hb dX11_monday_42 rfl (lv_at hl 3 rfl) ?_
            refine z_callVi (k := 0) (As := [.int (x_75)]) (rest := []) hx hb hml hown ht (mk_X11_dueOn l D q cA F _ _ _ hv_2 (x_75) f_81) hw_7_176 hmX11_dueOn ⟨rfl, rfl⟩ (na := 1) rfl (by decide +kernel) (by decide) (by decide) rfl rfl hK hP hD hS hA hl.1 rfl (Nat.le_of_ble_eq_true rfl) ⟨Nat.zero_le _, Nat.zero_le _⟩ dX11_monday_43 (fun r_95 I_95 R_95 J_95 H locs hp_95 hP hD hS _ _ => ?_)
            obtain ⟨hr_95, hu_95⟩ := hp_95
            cases hu_95
            refine z_callSi (As := [.int (r_95)]) (rest := []) hx hb hml hown ht (mk_X11_bits l D q cA F _ _ _ hv_2 (r_95)) hw_7_64 hmX11_bits ⟨rfl, rfl⟩ (na := 1) rfl (by decide +kernel) (by decide) hK hP hD hS hA hl.1 rfl (Nat.le_of_ble_eq_true rfl) ⟨Nat.zero_le _, Nat.zero_le _⟩ dX11_monday_46 (fun r_96 I_96 R_96 J_96 H locs hp_96 hP hD hS _ _ => ?_)
            cases hp_96
            refine lv_istore_n (lv' := [(2, .int (r_96)), (0, .ref (q 0)), (1, .int (x_73)), (3, .int (x_75))]) hx hb dX11_monday_49 rfl hl (by decide) rfl (fun ls hl => ?_)
            refine lv_iload_n hx hb dX11_monday_50 rfl (lv_at hl 3 rfl) ?_
            refine lv_istore_n (lv' := [(1, .int (x_75)), (2, .int (r_96)), (0, .ref (q 0)), (3, .int (x_75))]) hx hb dX11_monday_51 rfl hl (by decide) rfl (fun ls hl => ?_)
            exact t_91 (x_75) (zR_w f_81 (by decide)) (r_96) _ _ hP hD hS _ (lv_sub hl [2, 0, 1, 3] rfl)
          · have t_c_84 := z_ltF c_84
            refine lv_goto (tgt := 52) hx hb dX11_monday_38 (by decide) ?_
            exact t_91 (x_73) hx_73 (x_74) _ _ hP hD hS _ (lv_sub hl [0, 1, 2, 3] rfl)
    exact loop_76 _ ((-1)) (zR_w zk_m1 (by decide)) (nI 0) (nI 0) (zR_w zk_0 (by decide)) (Nat.lt_succ_self _) _ _ hP hD hS _ (lv_sub hl [3, 2, 1, 0] rfl)
  · cases hu_1
    refine lv_if_ne (tgt := 10) hx hb dX11_monday_4 (by decide) (fun c_0 => absurd (zD_eq zk_0 zk_z) c_0) (fun _ => ?_)
    refine lv_bipush (v := (-2)) hx hb dX11_monday_7 (by decide +kernel) ?_
    exact z_iret (v := (-2)) hx hb hr hlocks hP hD hS dX11_monday_9 ⟨(zR_w zk_m2 (by decide)), ⟨hI, rfl⟩⟩
set_option maxHeartbeats 4000000 in
set_option maxRecDepth 100000 in
theorem mk_X11_lacks (l : Launch) (D : va_G) (q : Nat → Nat) (cA : Nat → ClassId) (F : Nat → Nat → Int32) (I R : Nat → Nat → Int32) (J : Nat → Nat → Int64) (hI : mInv F (I, R, J)) (pa0 : Int32) : zMi l D vwCl (zMtys cA) 25 q (zMd q cA) yX11_lacks cX11_lacks 4 (some .int) ({ frames := 6, cells := 0, slots := 0, locals := 155 } : Room) [.ref (q 0), .int (pa0)] (I, R, J) (fun _ u => (mInv F u ∧ u.2.2 = J)) := by
  intro sz
  refine z_body (by decide +kernel) (Nat.le_of_ble_eq_true rfl) (fun p e s m below meth c ls hx hb hml hr ht hown hlocks hsz hK hP hD hS hl => ?_)
  have hA : ∀ a, s.heap.size ≤ a → zA 25 q sz a := fun a h => Or.inr (hsz ▸ h)
  have hl : lv_has ls 4 [(0, .ref (q 0)), (1, .int (pa0))] := hl
  refine lv_aload_n hx hb dX11_lacks_0 rfl (lv_at hl 0 rfl) ?_
  refine lv_iload_n hx hb dX11_lacks_1 rfl (lv_at hl 1 rfl) ?_
  refine lv_i2l (v := (pa0).toInt64) hx hb dX11_lacks_2 rfl ?_
  refine z_callVi (k := 0) (As := [.long ((pa0).toInt64)]) (rest := []) hx hb hml hown ht (mk_X11_isHouse l D q cA F _ _ _ hI ((pa0).toInt64) (zR_i2l (zR_any (pa0)))) hw_6_176 hmX11_isHouse ⟨rfl, rfl⟩ (na := 1) rfl (by decide +kernel) (by decide) (by decide) rfl rfl hK hP hD hS hA hl.1 rfl (Nat.le_of_ble_eq_true rfl) ⟨Nat.zero_le _, Nat.zero_le _⟩ dX11_lacks_3 (fun r_1 I_1 R_1 J_1 H locs hp_1 hP hD hS _ _ => ?_)
  rcases hp_1 with ⟨rfl, hu_1, f0_1⟩ | ⟨rfl, hu_1⟩
  · cases hu_1
    have f_2 : zR 0 4 (pa0) := zL_back f0_1
    refine lv_if_ne (tgt := 12) hx hb dX11_lacks_6 (by decide) (fun _ => ?_) (fun c_0 => absurd c_0 (zD_ne zk_1 zk_z (by decide)))
    refine lv_aload_n hx hb dX11_lacks_12 rfl (lv_at hl 0 rfl) ?_
    refine z_callVv (k := 0) (As := []) (rest := []) hx hb hml hown ht (mk_X11_asItIs l D q cA F _ _ _ hI ) hw_6_181 hmX11_asItIs ⟨rfl, rfl⟩ (na := 0) rfl (by decide +kernel) (by decide) (by decide) rfl rfl hK hP hD hS hA hl.1 rfl (Nat.le_of_ble_eq_true rfl) ⟨Nat.zero_le _, Nat.zero_le _⟩ dX11_lacks_13 (fun I_3 R_3 J_3 H locs hp_3 hP hD hS _ _ => ?_)
    obtain ⟨hv_3, hj_3, hs_3⟩ := hp_3
    try dsimp only at hj_3
    subst J_3
    refine lv_iconst (v := nI 0) hx hb dX11_lacks_16 (by decide +kernel) ?_
    refine lv_istore_n (lv' := [(2, .int (nI 0)), (0, .ref (q 0)), (1, .int (pa0))]) hx hb dX11_lacks_17 rfl hl (by decide) rfl (fun ls hl => ?_)
    refine lv_iconst (v := nI 0) hx hb dX11_lacks_18 (by decide +kernel) ?_
    refine lv_istore_n (lv' := [(3, .int (nI 0)), (2, .int (nI 0)), (0, .ref (q 0)), (1, .int (pa0))]) hx hb dX11_lacks_19 rfl hl (by decide) rfl (fun ls hl => ?_)
    have loop_67 : ∀ N : Nat, ∀ x_65 : Int32, ∀ x_66 : Int32, zR 0 24 x_66 → (2147483648 - (x_66).toInt).toNat < N → ∀ (H : Heap) (locs : List Loc), va_P D vwCl (zw 25 q (zMd q cA) I_3 R_3 J) H → va_D (zA 25 q sz) (zw 25 q (zMd q cA) I_3 R_3 J) → va_S (zA 25 q sz) s.heap H locs → ∀ ls : Array Slot, lv_has ls 4 [(0, .ref (q 0)), (1, .int (pa0)), (2, .int (x_65)), (3, .int (x_66))] → W p l e ({ frames := 6, cells := 0, slots := 0, locals := 155 } : Room) s m ([.ref (q 0), .int (pa0)] : List Value).toArray below meth c H locs 0 0 (MQ below (va_Qi (fun _ u => (mInv F u ∧ u.2.2 = J)) (zB D vwCl 25 q (zMd q cA) sz) (zA 25 q sz)) ([.ref (q 0), .int (pa0)] : List Value).toArray s 0 0 (zA 25 q sz)) (F0 m 20 ls []) := by
      intro N
      induction N with
      | zero => intro x_65 x_66 hx_66 hN; exact absurd hN (Nat.not_lt_zero _)
      | succ N ih_69 =>
        intro x_65 x_66 hx_66 hN_68 H locs hP hD hS ls hl
        refine lv_iload_n hx hb dX11_lacks_20 rfl (lv_at hl 3 rfl) ?_
        refine lv_aload_n hx hb dX11_lacks_21 rfl (lv_at hl 0 rfl) ?_
        refine z_get hx hb ht hown hK hP ziX11 rfl 0 (by decide) 26 (by decide) hw_5_213 rfl (v := .int (I_3 0 26)) rfl dX11_lacks_22 ?_
        have f_70 : zR 0 24 (I_3 0 26) := mI hv_3 0 26
        refine lv_icmp_ge (tgt := 79) hx hb dX11_lacks_25 (by decide) (fun c_71 => ?_) (fun c_71 => ?_)
        · have t_c_71 := z_leT c_71
          refine lv_iload_n hx hb dX11_lacks_79 rfl (lv_at hl 2 rfl) ?_
          exact z_iret (v := x_65) hx hb hr hlocks hP hD hS dX11_lacks_80 ⟨hv_3, rfl⟩
        · have t_c_71 := z_leF c_71
          have f_72 : zR 0 23 (x_66) := zR_ltx t_c_71 hx_66 f_70 (by decide)
          have f_73 : zR 1 24 (I_3 0 26) := zR_lty t_c_71 hx_66 f_70 (by decide)
          refine lv_iload_n hx hb dX11_lacks_28 rfl (lv_at hl 2 rfl) ?_
          refine lv_aload_n hx hb dX11_lacks_29 rfl (lv_at hl 0 rfl) ?_
          refine lv_iload_n hx hb dX11_lacks_30 rfl (lv_at hl 3 rfl) ?_
          have t_82 : ∀ x_81 : Int32, ∀ (H : Heap) (locs : List Loc), va_P D vwCl (zw 25 q (zMd q cA) I_3 R_3 J) H → va_D (zA 25 q sz) (zw 25 q (zMd q cA) I_3 R_3 J) → va_S (zA 25 q sz) s.heap H locs → ∀ ls : Array Slot, lv_has ls 4 [(0, .ref (q 0)), (1, .int (pa0)), (2, .int (x_65)), (3, .int (x_66))] → W p l e ({ frames := 6, cells := 0, slots := 0, locals := 155 } : Room) s m ([.ref (q 0), .int (pa0)] : List Value).toArray below meth c H locs 0 0 (MQ below (va_Qi (fun _ u => (mInv F u ∧ u.2.2 = J)) (zB D vwCl 25 q (zMd q cA) sz) (zA 25 q sz)) ([.ref (q 0), .int (pa0)] : List Value).toArray s 0 0 (zA 25 q sz)) (F0 m 71 ls [.int (x_81), .int (x_65)]) := by
            intro x_81 H locs hP hD hS ls hl
            refine lv_iadd hx hb dX11_lacks_71 ?_
            refine z_any (fun v_83 => ?_)
            refine lv_istore_n (lv' := [(2, .int (v_83)), (0, .ref (q 0)), (1, .int (pa0)), (3, .int (x_66))]) hx hb dX11_lacks_72 rfl hl (by decide) rfl (fun ls hl => ?_)
            obtain ⟨v_84, ev_84⟩ : ∃ y : Int32, y = x_66 + nI 1 := ⟨_, rfl⟩
            have hv_84 : zR 1 24 v_84 := ev_84 ▸ zR_add f_72 zk_1 (by decide)
            have mv_84 : v_84.toInt = (x_66).toInt + 1 := by rw [ev_84, zR_addE f_72 zk_1 (by decide)]; rfl
            refine lv_iinc (v := v_84) (lv' := [(3, .int (v_84)), (2, .int (v_83)), (0, .ref (q 0)), (1, .int (pa0))]) hx hb dX11_lacks_73 hl (k := 3) rfl (ev_84 ▸ rfl) (by decide) rfl (fun ls hl => ?_)
            refine lv_goto (tgt := 20) hx hb dX11_lacks_76 (by decide) ?_
            exact ih_69 (v_83) (v_84) (zR_w hv_84 (by decide)) (z2_up mv_84 (by decide) hN_68) _ _ hP hD hS _ (lv_sub hl [2, 3, 1, 0] rfl)
          refine z_callVi (k := 0) (As := [.int (x_66)]) (rest := [.int (x_65)]) hx hb hml hown ht (mk_X11_isOpen_1 l D q cA F _ _ _ hv_3 (x_66) f_72) hw_6_230 hmX11_isOpen ⟨rfl, rfl⟩ (na := 1) rfl (by decide +kernel) (by decide) (by decide) rfl rfl hK hP hD hS hA hl.1 rfl (Nat.le_of_ble_eq_true rfl) ⟨Nat.zero_le _, Nat.zero_le _⟩ dX11_lacks_31 (fun r_74 I_74 R_74 J_74 H locs hp_74 hP hD hS _ _ => ?_)
          rcases hp_74 with ⟨rfl, hu_74⟩ | ⟨rfl, hu_74⟩
          · cases hu_74
            refine lv_if_eq (tgt := 70) hx hb dX11_lacks_34 (by decide) (fun c_0 => absurd c_0 (zD_ne zk_1 zk_z (by decide))) (fun _ => ?_)
            refine lv_aload_n hx hb dX11_lacks_37 rfl (lv_at hl 0 rfl) ?_
            refine z_get hx hb ht hown hK hP ziX11 rfl 0 (by decide) 18 (by decide) hw_5_205 rfl (v := .ref (q 10)) rfl dX11_lacks_38 ?_
            refine lv_iload_n hx hb dX11_lacks_41 rfl (lv_at hl 3 rfl) ?_
            refine z_iald hx hb hK hP 10 (by decide) 9 rfl rfl (zR_vin f_72 (by decide)) dX11_lacks_42 ?_
            refine z_eqi (y := R_3 10 (x_66).toNatClampNeg) rfl ?_
            have f_85 : zR 0 4 (R_3 10 (x_66).toNatClampNeg) := mR hv_3 10 (x_66).toNatClampNeg
            refine lv_iload_n hx hb dX11_lacks_43 rfl (lv_at hl 1 rfl) ?_
            refine lv_icmp_ne (tgt := 70) hx hb dX11_lacks_44 (by decide) (fun c_86 => ?_) (fun c_86 => ?_)
            · have t_c_86 := z_eqF c_86
              refine lv_iconst (v := nI 0) hx hb dX11_lacks_70 (by decide +kernel) ?_
              exact t_82 (nI 0) _ _ hP hD hS _ (lv_sub hl [0, 1, 2, 3] rfl)
            · have t_c_86 := z_eqT c_86
              refine lv_aload_n hx hb dX11_lacks_47 rfl (lv_at hl 0 rfl) ?_
              refine z_get hx hb ht hown hK hP ziX11 rfl 0 (by decide) 17 (by decide) hw_5_204 rfl (v := .ref (q 9)) rfl dX11_lacks_48 ?_
              refine lv_aload_n hx hb dX11_lacks_51 rfl (lv_at hl 0 rfl) ?_
              refine z_get hx hb ht hown hK hP ziX11 rfl 0 (by decide) 19 (by decide) hw_5_206 rfl (v := .ref (q 11)) rfl dX11_lacks_52 ?_
              refine lv_iload_n hx hb dX11_lacks_55 rfl (lv_at hl 3 rfl) ?_
              refine z_iald hx hb hK hP 11 (by decide) 10 rfl rfl (zR_vin f_72 (by decide)) dX11_lacks_56 ?_
              refine z_eqi (y := R_3 11 (x_66).toNatClampNeg) rfl ?_
              have f_87 : zR 0 5 (R_3 11 (x_66).toNatClampNeg) := mR hv_3 11 (x_66).toNatClampNeg
              refine z_iald hx hb hK hP 9 (by decide) 8 rfl rfl (zR_vin f_87 (by decide)) dX11_lacks_57 ?_
              refine z_eqi (y := R_3 9 (R_3 11 (x_66).toNatClampNeg).toNatClampNeg) rfl ?_
              have f_88 : zR 0 4 (R_3 9 (R_3 11 (x_66).toNatClampNeg).toNatClampNeg) := mR hv_3 9 (R_3 11 (x_66).toNatClampNeg).toNatClampNeg
              refine lv_iload_n hx hb dX11_lacks_58 rfl (lv_at hl 1 rfl) ?_
              refine lv_icmp_eq (tgt := 70) hx hb dX11_lacks_59 (by decide) (fun c_89 => ?_) (fun c_89 => ?_)
              · have t_c_89 := z_eqT c_89
                refine lv_iconst (v := nI 0) hx hb dX11_lacks_70 (by decide +kernel) ?_
                exact t_82 (nI 0) _ _ hP hD hS _ (lv_sub hl [0, 1, 2, 3] rfl)
              · have t_c_89 := z_eqF c_89
                refine lv_aload_n hx hb dX11_lacks_62 rfl (lv_at hl 0 rfl) ?_
                refine lv_iload_n hx hb dX11_lacks_63 rfl (lv_at hl 3 rfl) ?_
                refine z_callVi (k := 0) (As := [.int (x_66)]) (rest := [.int (x_65)]) hx hb hml hown ht (mk_X11_worthP_1 l D q cA F _ _ _ hv_3 (x_66) f_72) hw_6_206 hmX11_worthP ⟨rfl, rfl⟩ (na := 1) rfl (by decide +kernel) (by decide) (by decide) rfl rfl hK hP hD hS hA hl.1 rfl (Nat.le_of_ble_eq_true rfl) ⟨Nat.zero_le _, Nat.zero_le _⟩ dX11_lacks_64 (fun r_90 I_90 R_90 J_90 H locs hp_90 hP hD hS _ _ => ?_)
                cases hp_90
                refine lv_goto (tgt := 71) hx hb dX11_lacks_67 (by decide) ?_
                exact t_82 (r_90) _ _ hP hD hS _ (lv_sub hl [0, 1, 2, 3] rfl)
          · cases hu_74
            refine lv_if_eq (tgt := 70) hx hb dX11_lacks_34 (by decide) (fun _ => ?_) (fun c_0 => absurd (zD_eq zk_0 zk_z) c_0)
            refine lv_iconst (v := nI 0) hx hb dX11_lacks_70 (by decide +kernel) ?_
            exact t_82 (nI 0) _ _ hP hD hS _ (lv_sub hl [0, 1, 2, 3] rfl)
    exact loop_67 _ (nI 0) (nI 0) (zR_w zk_0 (by decide)) (Nat.lt_succ_self _) _ _ hP hD hS _ (lv_sub hl [2, 3, 1, 0] rfl)
  · cases hu_1
    refine lv_if_ne (tgt := 12) hx hb dX11_lacks_6 (by decide) (fun c_0 => absurd (zD_eq zk_0 zk_z) c_0) (fun _ => ?_)
    refine lv_bipush (v := (-2)) hx hb dX11_lacks_9 (by decide +kernel) ?_
    exact z_iret (v := (-2)) hx hb hr hlocks hP hD hS dX11_lacks_11 ⟨hI, rfl⟩
set_option maxHeartbeats 4000000 in
set_option maxRecDepth 100000 in
theorem mk_X11_needs_ (l : Launch) (D : va_G) (q : Nat → Nat) (cA : Nat → ClassId) (F : Nat → Nat → Int32) (I R : Nat → Nat → Int32) (J : Nat → Nat → Int64) (hI : mInv F (I, R, J)) (pa0 : Int32) : zMi l D vwCl (zMtys cA) 25 q (zMd q cA) yX11_needs_ cX11_needs_ 3 (some .int) ({ frames := 6, cells := 0, slots := 0, locals := 155 } : Room) [.ref (q 0), .int (pa0)] (I, R, J) (fun _ u => (mInv F u ∧ u.2.2 = J)) := by
  intro sz
  refine z_body (by decide +kernel) (Nat.le_of_ble_eq_true rfl) (fun p e s m below meth c ls hx hb hml hr ht hown hlocks hsz hK hP hD hS hl => ?_)
  have hA : ∀ a, s.heap.size ≤ a → zA 25 q sz a := fun a h => Or.inr (hsz ▸ h)
  have hl : lv_has ls 3 [(0, .ref (q 0)), (1, .int (pa0))] := hl
  refine lv_aload_n hx hb dX11_needs__0 rfl (lv_at hl 0 rfl) ?_
  refine lv_iload_n hx hb dX11_needs__1 rfl (lv_at hl 1 rfl) ?_
  refine lv_i2l (v := (pa0).toInt64) hx hb dX11_needs__2 rfl ?_
  refine z_callVi (k := 0) (As := [.long ((pa0).toInt64)]) (rest := []) hx hb hml hown ht (mk_X11_isHouse l D q cA F _ _ _ hI ((pa0).toInt64) (zR_i2l (zR_any (pa0)))) hw_6_176 hmX11_isHouse ⟨rfl, rfl⟩ (na := 1) rfl (by decide +kernel) (by decide) (by decide) rfl rfl hK hP hD hS hA hl.1 rfl (Nat.le_of_ble_eq_true rfl) ⟨Nat.zero_le _, Nat.zero_le _⟩ dX11_needs__3 (fun r_1 I_1 R_1 J_1 H locs hp_1 hP hD hS _ _ => ?_)
  rcases hp_1 with ⟨rfl, hu_1, f0_1⟩ | ⟨rfl, hu_1⟩
  · cases hu_1
    have f_2 : zR 0 4 (pa0) := zL_back f0_1
    refine lv_if_ne (tgt := 12) hx hb dX11_needs__6 (by decide) (fun _ => ?_) (fun c_0 => absurd c_0 (zD_ne zk_1 zk_z (by decide)))
    refine lv_aload_n hx hb dX11_needs__12 rfl (lv_at hl 0 rfl) ?_
    refine z_callVv (k := 0) (As := []) (rest := []) hx hb hml hown ht (mk_X11_asItIs l D q cA F _ _ _ hI ) hw_6_181 hmX11_asItIs ⟨rfl, rfl⟩ (na := 0) rfl (by decide +kernel) (by decide) (by decide) rfl rfl hK hP hD hS hA hl.1 rfl (Nat.le_of_ble_eq_true rfl) ⟨Nat.zero_le _, Nat.zero_le _⟩ dX11_needs__13 (fun I_3 R_3 J_3 H locs hp_3 hP hD hS _ _ => ?_)
    obtain ⟨hv_3, hj_3, hs_3⟩ := hp_3
    try dsimp only at hj_3
    subst J_3
    refine lv_aload_n hx hb dX11_needs__16 rfl (lv_at hl 0 rfl) ?_
    refine z_get hx hb ht hown hK hP ziX11 rfl 0 (by decide) 15 (by decide) hw_5_202 rfl (v := .ref (q 7)) rfl dX11_needs__17 ?_
    refine lv_iload_n hx hb dX11_needs__20 rfl (lv_at hl 1 rfl) ?_
    refine lv_ldcw (v := nI 100000) hx hb hown (ht _ hw_7_192) dX11_needs__21 ?_
    refine z_iast hx hb hK hP hD hS 7 (by decide) 6 (fun _ => rfl) rfl (zR_vin f_2 (by decide)) dX11_needs__24 (fun H locs hP hD hS => ?_)
    have hI_4 := mInv_R hv_3 7 (pa0).toNatClampNeg (nI 100000) (zR_any _) rfl
    refine lv_aload_n hx hb dX11_needs__25 rfl (lv_at hl 0 rfl) ?_
    refine lv_iload_n hx hb dX11_needs__26 rfl (lv_at hl 1 rfl) ?_
    refine z_putI hx hb ht hown hK hP hD hS ziX11 tyX11 tyX11_ok nmX11 rfl 0 (by decide) 29 (by decide) hw_5_216 rfl (v := pa0) rfl rfl rfl (Nat.le_of_ble_eq_true rfl) rfl dX11_needs__27 (fun H locs hP hD hS => ?_)
    have hI_5 := mInv_I hI_4 0 29 (pa0) (zR_any (pa0)) rfl
    refine lv_aload_n hx hb dX11_needs__30 rfl (lv_at hl 0 rfl) ?_
    refine lv_ldcw (v := nI 100000) hx hb hown (ht _ hw_7_192) dX11_needs__31 ?_
    refine z_putI hx hb ht hown hK hP hD hS ziX11 tyX11 tyX11_ok nmX11 rfl 0 (by decide) 28 (by decide) hw_5_215 rfl (v := nI 100000) rfl rfl rfl (Nat.le_of_ble_eq_true rfl) rfl dX11_needs__34 (fun H locs hP hD hS => ?_)
    have hI_6 := mInv_I hI_5 0 28 (nI 100000) (zR_any (nI 100000)) rfl
    refine lv_iconst (v := nI 0) hx hb dX11_needs__37 (by decide +kernel) ?_
    refine lv_istore_n (lv' := [(2, .int (nI 0)), (0, .ref (q 0)), (1, .int (pa0))]) hx hb dX11_needs__38 rfl hl (by decide) rfl (fun ls hl => ?_)
    have loop_28 : ∀ N : Nat, ∀ x_26 : Int32, zR 0 60 x_26 → ∀ I_27 : Nat → Nat → Int32, ∀ R_27 : Nat → Nat → Int32, mInv F (I_27, R_27, J) → (2147483648 - (x_26).toInt).toNat < N → ∀ (H : Heap) (locs : List Loc), va_P D vwCl (zw 25 q (zMd q cA) I_27 R_27 J) H → va_D (zA 25 q sz) (zw 25 q (zMd q cA) I_27 R_27 J) → va_S (zA 25 q sz) s.heap H locs → ∀ ls : Array Slot, lv_has ls 3 [(0, .ref (q 0)), (1, .int (pa0)), (2, .int (x_26))] → W p l e ({ frames := 6, cells := 0, slots := 0, locals := 155 } : Room) s m ([.ref (q 0), .int (pa0)] : List Value).toArray below meth c H locs 0 0 (MQ below (va_Qi (fun _ u => (mInv F u ∧ u.2.2 = J)) (zB D vwCl 25 q (zMd q cA) sz) (zA 25 q sz)) ([.ref (q 0), .int (pa0)] : List Value).toArray s 0 0 (zA 25 q sz)) (F0 m 39 ls []) := by
      intro N
      induction N with
      | zero => intro x_26 hx_26 I_27 R_27 hI_27 hN; exact absurd hN (Nat.not_lt_zero _)
      | succ N ih_30 =>
        intro x_26 hx_26 I_27 R_27 hI_27 hN_29 H locs hP hD hS ls hl
        refine lv_iload_n hx hb dX11_needs__39 rfl (lv_at hl 2 rfl) ?_
        refine lv_bipush (v := nI 60) hx hb dX11_needs__40 (by decide +kernel) ?_
        refine lv_icmp_ge (tgt := 56) hx hb dX11_needs__42 (by decide) (fun c_31 => ?_) (fun c_31 => ?_)
        · have t_c_31 := z_leT c_31
          have f_36 : zR 60 60 (x_26) := zR_ley t_c_31 zk_60 hx_26 (by decide)
          refine lv_ldcw (v := nI 100000) hx hb hown (ht _ hw_7_192) dX11_needs__56 ?_
          refine lv_aload_n hx hb dX11_needs__59 rfl (lv_at hl 0 rfl) ?_
          refine z_get hx hb ht hown hK hP ziX11 rfl 0 (by decide) 28 (by decide) hw_5_215 rfl (v := .int (I_27 0 28)) rfl dX11_needs__60 ?_
          refine lv_isub hx hb dX11_needs__63 ?_
          refine z_any (fun v_37 => ?_)
          exact z_iret (v := v_37) hx hb hr hlocks hP hD hS dX11_needs__64 ⟨hI_27, rfl⟩
        · have t_c_31 := z_leF c_31
          have f_38 : zR 0 59 (x_26) := zR_ltx t_c_31 hx_26 zk_60 (by decide)
          refine lv_aload_n hx hb dX11_needs__45 rfl (lv_at hl 0 rfl) ?_
          refine z_callVi (k := 0) (As := []) (rest := []) hx hb hml hown ht (mk_X11_night0 l D q cA F _ _ _ hI_27 ) hw_6_222 hmX11_night0 ⟨rfl, rfl⟩ (na := 0) rfl (by decide +kernel) (by decide) (by decide) rfl rfl hK hP hD hS hA hl.1 rfl (Nat.le_of_ble_eq_true rfl) ⟨Nat.zero_le _, Nat.zero_le _⟩ dX11_needs__46 (fun r_39 I_39 R_39 J_39 H locs hp_39 hP hD hS _ _ => ?_)
          obtain ⟨hv_39, hj_39, hk26_39⟩ := hp_39
          try dsimp only at hj_39
          subst J_39
          refine lv_pop hx hb dX11_needs__49 rfl ?_
          obtain ⟨v_40, ev_40⟩ : ∃ y : Int32, y = x_26 + nI 1 := ⟨_, rfl⟩
          have hv_40 : zR 1 60 v_40 := ev_40 ▸ zR_add f_38 zk_1 (by decide)
          have mv_40 : v_40.toInt = (x_26).toInt + 1 := by rw [ev_40, zR_addE f_38 zk_1 (by decide)]; rfl
          refine lv_iinc (v := v_40) (lv' := [(2, .int (v_40)), (0, .ref (q 0)), (1, .int (pa0))]) hx hb dX11_needs__50 hl (k := 2) rfl (ev_40 ▸ rfl) (by decide) rfl (fun ls hl => ?_)
          refine lv_goto (tgt := 39) hx hb dX11_needs__53 (by decide) ?_
          exact ih_30 (v_40) (zR_w hv_40 (by decide)) _ _ hv_39 (z2_up mv_40 (by decide) hN_29) _ _ hP hD hS _ (lv_sub hl [1, 2, 0] rfl)
    exact loop_28 _ (nI 0) (zR_w zk_0 (by decide)) _ _ hI_6 (Nat.lt_succ_self _) _ _ hP hD hS _ (lv_sub hl [1, 2, 0] rfl)
  · cases hu_1
    refine lv_if_ne (tgt := 12) hx hb dX11_needs__6 (by decide) (fun c_0 => absurd (zD_eq zk_0 zk_z) c_0) (fun _ => ?_)
    refine lv_bipush (v := (-2)) hx hb dX11_needs__9 (by decide +kernel) ?_
    exact z_iret (v := (-2)) hx hb hr hlocks hP hD hS dX11_needs__11 ⟨hI, rfl⟩
set_option maxHeartbeats 4000000 in
set_option maxRecDepth 100000 in
theorem mk_X11_areNights (l : Launch) (D : va_G) (q : Nat → Nat) (cA : Nat → ClassId) (F : Nat → Nat → Int32) (I R : Nat → Nat → Int32) (J : Nat → Nat → Int64) (hI : mInv F (I, R, J)) (pa0 : Int32) : zMi l D vwCl (zMtys cA) 25 q (zMd q cA) yX11_areNights cX11_areNights 1 (some .boolean) ({ frames := 1, cells := 0, slots := 0, locals := 25 } : Room) [.int (pa0)] (I, R, J) (fun r u => (r = nI 1 ∧ u = (I, R, J) ∧ zR 0 60 pa0) ∨ (r = nI 0 ∧ u = (I, R, J) ∧ (pa0.toInt < 0 ∨ 60 < pa0.toInt))) := by
  intro sz
  refine z_body (by decide +kernel) (Nat.le_of_ble_eq_true rfl) (fun p e s m below meth c ls hx hb hml hr ht hown hlocks hsz hK hP hD hS hl => ?_)
  have hA : ∀ a, s.heap.size ≤ a → zA 25 q sz a := fun a h => Or.inr (hsz ▸ h)
  have hl : lv_has ls 1 [(0, .int (pa0))] := hl
  refine lv_iload_n hx hb dX11_areNights_0 rfl (lv_at hl 0 rfl) ?_
  refine lv_i2l (v := (pa0).toInt64) hx hb dX11_areNights_1 rfl ?_
  refine lv_lconst (v := (0 : Int64)) hx hb dX11_areNights_2 (by decide +kernel) ?_
  refine lv_ldc2 (v := (60 : Int64)) hx hb hown (ht _ hw_7_39) dX11_areNights_3 ?_
  refine z_callSi (As := [.long ((pa0).toInt64), .long ((0 : Int64)), .long ((60 : Int64))]) (rest := []) hx hb hml hown ht (mk_X11_in l D q cA F _ _ _ hI ((pa0).toInt64) ((0 : Int64)) ((60 : Int64))) hw_6_86 hmX11_in ⟨rfl, rfl⟩ (na := 3) rfl (by decide +kernel) (by decide) hK hP hD hS hA hl.1 rfl (Nat.le_of_ble_eq_true rfl) ⟨Nat.zero_le _, Nat.zero_le _⟩ dX11_areNights_6 (fun r_1 I_1 R_1 J_1 H locs hp_1 hP hD hS _ _ => ?_)
  rcases hp_1 with ⟨rfl, hu_1, h1_1, h2_1⟩ | ⟨rfl, hu_1, h1_1 | h2_1⟩
  · cases hu_1
    have f_2 : zL 0 2147483647 ((pa0).toInt64) := zL_ley h1_1 zkl_0 (zR_i2l (zR_any (pa0))) (by decide)
    have f_3 : zR 0 2147483647 (pa0) := zL_back f_2
    have f_4 : zL 0 60 ((pa0).toInt64) := zL_lex h2_1 f_2 zkl_60 (by decide)
    have f_5 : zR 0 60 (pa0) := zL_back f_4
    exact z_zret (v := nI 1) hx hb hr hlocks hP hD hS (by decide +kernel) dX11_areNights_9 (Or.inl ⟨rfl, rfl, f_5⟩)
  · cases hu_1
    have f_6 : zL (-2147483648) (-1) ((pa0).toInt64) := zL_ltx h1_1 (zR_i2l (zR_any (pa0))) zkl_0 (by decide)
    have f_7 : zR (-2147483648) (-1) (pa0) := zL_back f_6
    exact z_zret (v := nI 0) hx hb hr hlocks hP hD hS (by decide +kernel) dX11_areNights_9 (Or.inr ⟨rfl, rfl, (Or.inl (Int.lt_of_le_of_lt f_7.2 (by decide)))⟩)
  · cases hu_1
    have f_8 : zL 61 2147483647 ((pa0).toInt64) := zL_lty h2_1 zkl_60 (zR_i2l (zR_any (pa0))) (by decide)
    have f_9 : zR 61 2147483647 (pa0) := zL_back f_8
    exact z_zret (v := nI 0) hx hb hr hlocks hP hD hS (by decide +kernel) dX11_areNights_9 (Or.inr ⟨rfl, rfl, (Or.inr (Int.lt_of_lt_of_le (by decide) f_9.1))⟩)
set_option maxHeartbeats 4000000 in
set_option maxRecDepth 100000 in
theorem mk_X11_failedSet (l : Launch) (D : va_G) (q : Nat → Nat) (cA : Nat → ClassId) (F : Nat → Nat → Int32) (I R : Nat → Nat → Int32) (J : Nat → Nat → Int64) (hI : mInv F (I, R, J))  : zMi l D vwCl (zMtys cA) 25 q (zMd q cA) yX11_failedSet cX11_failedSet 3 (some .int) ({ frames := 0, cells := 0, slots := 0, locals := 0 } : Room) [.ref (q 0)] (I, R, J) (fun r u => zR 0 16777215 r ∧ u = (I, R, J)) := by
  intro sz
  refine z_body (by decide +kernel) (Nat.le_of_ble_eq_true rfl) (fun p e s m below meth c ls hx hb hml hr ht hown hlocks hsz hK hP hD hS hl => ?_)
  have hA : ∀ a, s.heap.size ≤ a → zA 25 q sz a := fun a h => Or.inr (hsz ▸ h)
  have hl : lv_has ls 3 [(0, .ref (q 0))] := hl
  refine lv_iconst (v := nI 0) hx hb dX11_failedSet_0 (by decide +kernel) ?_
  refine lv_istore_n (lv' := [(1, .int (nI 0)), (0, .ref (q 0))]) hx hb dX11_failedSet_1 rfl hl (by decide) rfl (fun ls hl => ?_)
  refine lv_iconst (v := nI 0) hx hb dX11_failedSet_2 (by decide +kernel) ?_
  refine lv_istore_n (lv' := [(2, .int (nI 0)), (1, .int (nI 0)), (0, .ref (q 0))]) hx hb dX11_failedSet_3 rfl hl (by decide) rfl (fun ls hl => ?_)
  have loop_59 : ∀ N : Nat, ∀ x_57 : Int32, zR 0 16777215 x_57 → ∀ x_58 : Int32, zR 0 24 x_58 → (2147483648 - (x_58).toInt).toNat < N → ∀ (H : Heap) (locs : List Loc), va_P D vwCl (zw 25 q (zMd q cA) I R J) H → va_D (zA 25 q sz) (zw 25 q (zMd q cA) I R J) → va_S (zA 25 q sz) s.heap H locs → ∀ ls : Array Slot, lv_has ls 3 [(0, .ref (q 0)), (1, .int (x_57)), (2, .int (x_58))] → W p l e ({ frames := 0, cells := 0, slots := 0, locals := 0 } : Room) s m ([.ref (q 0)] : List Value).toArray below meth c H locs 0 0 (MQ below (va_Qi (fun r u => zR 0 16777215 r ∧ u = (I, R, J)) (zB D vwCl 25 q (zMd q cA) sz) (zA 25 q sz)) ([.ref (q 0)] : List Value).toArray s 0 0 (zA 25 q sz)) (F0 m 4 ls []) := by
    intro N
    induction N with
    | zero => intro x_57 hx_57 x_58 hx_58 hN; exact absurd hN (Nat.not_lt_zero _)
    | succ N ih_61 =>
      intro x_57 hx_57 x_58 hx_58 hN_60 H locs hP hD hS ls hl
      refine lv_iload_n hx hb dX11_failedSet_4 rfl (lv_at hl 2 rfl) ?_
      refine lv_aload_n hx hb dX11_failedSet_5 rfl (lv_at hl 0 rfl) ?_
      refine z_get hx hb ht hown hK hP ziX11 rfl 0 (by decide) 26 (by decide) hw_5_213 rfl (v := .int (I 0 26)) rfl dX11_failedSet_6 ?_
      have f_62 : zR 0 24 (I 0 26) := mI hI 0 26
      refine lv_icmp_ge (tgt := 38) hx hb dX11_failedSet_9 (by decide) (fun c_63 => ?_) (fun c_63 => ?_)
      · have t_c_63 := z_leT c_63
        refine lv_iload_n hx hb dX11_failedSet_38 rfl (lv_at hl 1 rfl) ?_
        exact z_iret (v := x_57) hx hb hr hlocks hP hD hS dX11_failedSet_39 ⟨hx_57, rfl⟩
      · have t_c_63 := z_leF c_63
        have f_64 : zR 0 23 (x_58) := zR_ltx t_c_63 hx_58 f_62 (by decide)
        have f_65 : zR 1 24 (I 0 26) := zR_lty t_c_63 hx_58 f_62 (by decide)
        refine lv_iload_n hx hb dX11_failedSet_12 rfl (lv_at hl 1 rfl) ?_
        refine lv_aload_n hx hb dX11_failedSet_13 rfl (lv_at hl 0 rfl) ?_
        refine z_get hx hb ht hown hK hP ziX11 rfl 0 (by decide) 22 (by decide) hw_5_209 rfl (v := .ref (q 14)) rfl dX11_failedSet_14 ?_
        refine lv_iload_n hx hb dX11_failedSet_17 rfl (lv_at hl 2 rfl) ?_
        refine z_iald hx hb hK hP 14 (by decide) 13 rfl rfl (zR_vin f_64 (by decide)) dX11_failedSet_18 ?_
        refine z_eqi (y := R 14 (x_58).toNatClampNeg) rfl ?_
        refine lv_iconst (v := nI 3) hx hb dX11_failedSet_19 (by decide +kernel) ?_
        have t_70 : ∀ x_69 : Int32, zR 0 8388608 x_69 → ∀ (H : Heap) (locs : List Loc), va_P D vwCl (zw 25 q (zMd q cA) I R J) H → va_D (zA 25 q sz) (zw 25 q (zMd q cA) I R J) → va_S (zA 25 q sz) s.heap H locs → ∀ ls : Array Slot, lv_has ls 3 [(0, .ref (q 0)), (1, .int (x_57)), (2, .int (x_58))] → W p l e ({ frames := 0, cells := 0, slots := 0, locals := 0 } : Room) s m ([.ref (q 0)] : List Value).toArray below meth c H locs 0 0 (MQ below (va_Qi (fun r u => zR 0 16777215 r ∧ u = (I, R, J)) (zB D vwCl 25 q (zMd q cA) sz) (zA 25 q sz)) ([.ref (q 0)] : List Value).toArray s 0 0 (zA 25 q sz)) (F0 m 30 ls [.int (x_69), .int (x_57)]) := by
          intro x_69 hx_69 H locs hP hD hS ls hl
          refine lv_ior hx hb dX11_failedSet_30 ?_
          refine z_rng (a := 0) (b := 16777215) (zR_or 24 hx_57 hx_69 (by decide)) (fun v_71 hv_71 => ?_)
          refine lv_istore_n (lv' := [(1, .int (v_71)), (0, .ref (q 0)), (2, .int (x_58))]) hx hb dX11_failedSet_31 rfl hl (by decide) rfl (fun ls hl => ?_)
          obtain ⟨v_72, ev_72⟩ : ∃ y : Int32, y = x_58 + nI 1 := ⟨_, rfl⟩
          have hv_72 : zR 1 24 v_72 := ev_72 ▸ zR_add f_64 zk_1 (by decide)
          have mv_72 : v_72.toInt = (x_58).toInt + 1 := by rw [ev_72, zR_addE f_64 zk_1 (by decide)]; rfl
          refine lv_iinc (v := v_72) (lv' := [(2, .int (v_72)), (1, .int (v_71)), (0, .ref (q 0))]) hx hb dX11_failedSet_32 hl (k := 2) rfl (ev_72 ▸ rfl) (by decide) rfl (fun ls hl => ?_)
          refine lv_goto (tgt := 4) hx hb dX11_failedSet_35 (by decide) ?_
          exact ih_61 (v_71) hv_71 (v_72) (zR_w hv_72 (by decide)) (z2_up mv_72 (by decide) hN_60) _ _ hP hD hS _ (lv_sub hl [2, 1, 0] rfl)
        refine lv_icmp_ne (tgt := 29) hx hb dX11_failedSet_20 (by decide) (fun c_66 => ?_) (fun c_66 => ?_)
        · have t_c_66 := z_eqF c_66
          refine lv_iconst (v := nI 0) hx hb dX11_failedSet_29 (by decide +kernel) ?_
          exact t_70 (nI 0) (zR_w zk_0 (by decide)) _ _ hP hD hS _ (lv_sub hl [0, 1, 2] rfl)
        · have t_c_66 := z_eqT c_66
          have f_73 : zR 3 3 (R 14 (x_58).toNatClampNeg) := zR_eqx t_c_66 zk_3
          refine lv_iconst (v := nI 1) hx hb dX11_failedSet_23 (by decide +kernel) ?_
          refine lv_iload_n hx hb dX11_failedSet_24 rfl (lv_at hl 2 rfl) ?_
          refine lv_ishl hx hb dX11_failedSet_25 ?_
          refine z_rng (a := 1) (b := 8388608) (zR_shl1 23 f_64 (by decide)) (fun v_74 hv_74 => ?_)
          refine lv_goto (tgt := 30) hx hb dX11_failedSet_26 (by decide) ?_
          exact t_70 (v_74) (zR_w hv_74 (by decide)) _ _ hP hD hS _ (lv_sub hl [0, 1, 2] rfl)
  exact loop_59 _ (nI 0) (zR_w zk_0 (by decide)) (nI 0) (zR_w zk_0 (by decide)) (Nat.lt_succ_self _) _ _ hP hD hS _ (lv_sub hl [2, 1, 0] rfl)
set_option maxHeartbeats 4000000 in
set_option maxRecDepth 100000 in
theorem mk_X11_goNights (l : Launch) (D : va_G) (q : Nat → Nat) (cA : Nat → ClassId) (F : Nat → Nat → Int32) (I R : Nat → Nat → Int32) (J : Nat → Nat → Int64) (hI : mInv F (I, R, J)) (pa0 : Int32) (hpa0 : zR 0 60 pa0) : zMi l D vwCl (zMtys cA) 25 q (zMd q cA) yX11_goNights cX11_goNights 4 (some .int) ({ frames := 6, cells := 0, slots := 0, locals := 155 } : Room) [.ref (q 0), .int (pa0)] (I, R, J) (fun r u => zR 0 16777215 r ∧ (mInv F u ∧ u.2.2 = J)) := by
  intro sz
  refine z_body (by decide +kernel) (Nat.le_of_ble_eq_true rfl) (fun p e s m below meth c ls hx hb hml hr ht hown hlocks hsz hK hP hD hS hl => ?_)
  have hA : ∀ a, s.heap.size ≤ a → zA 25 q sz a := fun a h => Or.inr (hsz ▸ h)
  have hl : lv_has ls 4 [(0, .ref (q 0)), (1, .int (pa0))] := hl
  refine lv_aload_n hx hb dX11_goNights_0 rfl (lv_at hl 0 rfl) ?_
  refine z_callVv (k := 0) (As := []) (rest := []) hx hb hml hown ht (mk_X11_asItIs l D q cA F _ _ _ hI ) hw_6_181 hmX11_asItIs ⟨rfl, rfl⟩ (na := 0) rfl (by decide +kernel) (by decide) (by decide) rfl rfl hK hP hD hS hA hl.1 rfl (Nat.le_of_ble_eq_true rfl) ⟨Nat.zero_le _, Nat.zero_le _⟩ dX11_goNights_1 (fun I_1 R_1 J_1 H locs hp_1 hP hD hS _ _ => ?_)
  obtain ⟨hv_1, hj_1, hs_1⟩ := hp_1
  try dsimp only at hj_1
  subst J_1
  refine lv_aload_n hx hb dX11_goNights_4 rfl (lv_at hl 0 rfl) ?_
  refine z_callVi (k := 0) (As := []) (rest := []) hx hb hml hown ht (mk_X11_failedSet l D q cA F _ _ _ hv_1 ) hw_7_204 hmX11_failedSet ⟨rfl, rfl⟩ (na := 0) rfl (by decide +kernel) (by decide) (by decide) rfl rfl hK hP hD hS hA hl.1 rfl (Nat.le_of_ble_eq_true rfl) ⟨Nat.zero_le _, Nat.zero_le _⟩ dX11_goNights_5 (fun r_2 I_2 R_2 J_2 H locs hp_2 hP hD hS _ _ => ?_)
  obtain ⟨hr_2, hu_2⟩ := hp_2
  cases hu_2
  refine lv_istore_n (lv' := [(2, .int (r_2)), (0, .ref (q 0)), (1, .int (pa0))]) hx hb dX11_goNights_8 rfl hl (by decide) rfl (fun ls hl => ?_)
  refine lv_iconst (v := nI 0) hx hb dX11_goNights_9 (by decide +kernel) ?_
  refine lv_istore_n (lv' := [(3, .int (nI 0)), (2, .int (r_2)), (0, .ref (q 0)), (1, .int (pa0))]) hx hb dX11_goNights_10 rfl hl (by decide) rfl (fun ls hl => ?_)
  have loop_30 : ∀ N : Nat, ∀ x_28 : Int32, zR 0 60 x_28 → ∀ I_29 : Nat → Nat → Int32, ∀ R_29 : Nat → Nat → Int32, mInv F (I_29, R_29, J) → (2147483648 - (x_28).toInt).toNat < N → ∀ (H : Heap) (locs : List Loc), va_P D vwCl (zw 25 q (zMd q cA) I_29 R_29 J) H → va_D (zA 25 q sz) (zw 25 q (zMd q cA) I_29 R_29 J) → va_S (zA 25 q sz) s.heap H locs → ∀ ls : Array Slot, lv_has ls 4 [(0, .ref (q 0)), (1, .int (pa0)), (2, .int (r_2)), (3, .int (x_28))] → W p l e ({ frames := 6, cells := 0, slots := 0, locals := 155 } : Room) s m ([.ref (q 0), .int (pa0)] : List Value).toArray below meth c H locs 0 0 (MQ below (va_Qi (fun r u => zR 0 16777215 r ∧ (mInv F u ∧ u.2.2 = J)) (zB D vwCl 25 q (zMd q cA) sz) (zA 25 q sz)) ([.ref (q 0), .int (pa0)] : List Value).toArray s 0 0 (zA 25 q sz)) (F0 m 11 ls []) := by
    intro N
    induction N with
    | zero => intro x_28 hx_28 I_29 R_29 hI_29 hN; exact absurd hN (Nat.not_lt_zero _)
    | succ N ih_32 =>
      intro x_28 hx_28 I_29 R_29 hI_29 hN_31 H locs hP hD hS ls hl
      refine lv_iload_n hx hb dX11_goNights_11 rfl (lv_at hl 3 rfl) ?_
      refine lv_iload_n hx hb dX11_goNights_12 rfl (lv_at hl 1 rfl) ?_
      refine lv_icmp_ge (tgt := 27) hx hb dX11_goNights_13 (by decide) (fun c_33 => ?_) (fun c_33 => ?_)
      · have t_c_33 := z_leT c_33
        refine lv_aload_n hx hb dX11_goNights_27 rfl (lv_at hl 0 rfl) ?_
        refine z_callVi (k := 0) (As := []) (rest := []) hx hb hml hown ht (mk_X11_failedSet l D q cA F _ _ _ hI_29 ) hw_7_204 hmX11_failedSet ⟨rfl, rfl⟩ (na := 0) rfl (by decide +kernel) (by decide) (by decide) rfl rfl hK hP hD hS hA hl.1 rfl (Nat.le_of_ble_eq_true rfl) ⟨Nat.zero_le _, Nat.zero_le _⟩ dX11_goNights_28 (fun r_38 I_38 R_38 J_38 H locs hp_38 hP hD hS _ _ => ?_)
        obtain ⟨hr_38, hu_38⟩ := hp_38
        cases hu_38
        refine lv_iload_n hx hb dX11_goNights_31 rfl (lv_at hl 2 rfl) ?_
        refine lv_iconst (v := (-1)) hx hb dX11_goNights_32 (by decide +kernel) ?_
        refine lv_ixor hx hb dX11_goNights_33 ?_
        refine z_any (fun v_39 => ?_)
        refine lv_iand hx hb dX11_goNights_34 ?_
        refine z_rng (a := 0) (b := 16777215) (zR_andl hr_38 (by decide)) (fun v_40 hv_40 => ?_)
        exact z_iret (v := v_40) hx hb hr hlocks hP hD hS dX11_goNights_35 ⟨hv_40, ⟨hI_29, rfl⟩⟩
      · have t_c_33 := z_leF c_33
        have f_41 : zR 0 59 (x_28) := zR_ltx t_c_33 hx_28 hpa0 (by decide)
        have f_42 : zR 1 60 (pa0) := zR_lty t_c_33 hx_28 hpa0 (by decide)
        refine lv_aload_n hx hb dX11_goNights_16 rfl (lv_at hl 0 rfl) ?_
        refine z_callVi (k := 0) (As := []) (rest := []) hx hb hml hown ht (mk_X11_night0 l D q cA F _ _ _ hI_29 ) hw_6_222 hmX11_night0 ⟨rfl, rfl⟩ (na := 0) rfl (by decide +kernel) (by decide) (by decide) rfl rfl hK hP hD hS hA hl.1 rfl (Nat.le_of_ble_eq_true rfl) ⟨Nat.zero_le _, Nat.zero_le _⟩ dX11_goNights_17 (fun r_43 I_43 R_43 J_43 H locs hp_43 hP hD hS _ _ => ?_)
        obtain ⟨hv_43, hj_43, hk26_43⟩ := hp_43
        try dsimp only at hj_43
        subst J_43
        refine lv_pop hx hb dX11_goNights_20 rfl ?_
        obtain ⟨v_44, ev_44⟩ : ∃ y : Int32, y = x_28 + nI 1 := ⟨_, rfl⟩
        have hv_44 : zR 1 60 v_44 := ev_44 ▸ zR_add f_41 zk_1 (by decide)
        have mv_44 : v_44.toInt = (x_28).toInt + 1 := by rw [ev_44, zR_addE f_41 zk_1 (by decide)]; rfl
        refine lv_iinc (v := v_44) (lv' := [(3, .int (v_44)), (0, .ref (q 0)), (1, .int (pa0)), (2, .int (r_2))]) hx hb dX11_goNights_21 hl (k := 3) rfl (ev_44 ▸ rfl) (by decide) rfl (fun ls hl => ?_)
        refine lv_goto (tgt := 11) hx hb dX11_goNights_24 (by decide) ?_
        exact ih_32 (v_44) (zR_w hv_44 (by decide)) _ _ hv_43 (z2_up mv_44 (by decide) hN_31) _ _ hP hD hS _ (lv_sub hl [1, 2, 3, 0] rfl)
  exact loop_30 _ (nI 0) (zR_w zk_0 (by decide)) _ _ hv_1 (Nat.lt_succ_self _) _ _ hP hD hS _ (lv_sub hl [2, 3, 1, 0] rfl)
set_option maxHeartbeats 4000000 in
set_option maxRecDepth 100000 in
theorem mk_X11_fails (l : Launch) (D : va_G) (q : Nat → Nat) (cA : Nat → ClassId) (F : Nat → Nat → Int32) (I R : Nat → Nat → Int32) (J : Nat → Nat → Int64) (hI : mInv F (I, R, J)) (pa0 : Int32) : zMi l D vwCl (zMtys cA) 25 q (zMd q cA) yX11_fails cX11_fails 2 (some .int) ({ frames := 7, cells := 0, slots := 0, locals := 178 } : Room) [.ref (q 0), .int (pa0)] (I, R, J) (fun r u => zR (-2) 16777215 r ∧ (mInv F u ∧ u.2.2 = J)) := by
  intro sz
  refine z_body (by decide +kernel) (Nat.le_of_ble_eq_true rfl) (fun p e s m below meth c ls hx hb hml hr ht hown hlocks hsz hK hP hD hS hl => ?_)
  have hA : ∀ a, s.heap.size ≤ a → zA 25 q sz a := fun a h => Or.inr (hsz ▸ h)
  have hl : lv_has ls 2 [(0, .ref (q 0)), (1, .int (pa0))] := hl
  refine lv_aload_n hx hb dX11_fails_0 rfl (lv_at hl 0 rfl) ?_
  refine z_callVi (k := 0) (As := []) (rest := []) hx hb hml hown ht (mk_X11_isCity l D q cA F _ _ _ hI ) hw_7_75 hmX11_isCity ⟨rfl, rfl⟩ (na := 0) rfl (by decide +kernel) (by decide) (by decide) rfl rfl hK hP hD hS hA hl.1 rfl (Nat.le_of_ble_eq_true rfl) ⟨Nat.zero_le _, Nat.zero_le _⟩ dX11_fails_1 (fun r_1 I_1 R_1 J_1 H locs hp_1 hP hD hS _ _ => ?_)
  rcases hp_1 with ⟨rfl, hu_1⟩ | ⟨rfl, hu_1⟩
  · cases hu_1
    refine lv_if_eq (tgt := 22) hx hb dX11_fails_4 (by decide) (fun c_0 => absurd c_0 (zD_ne zk_1 zk_z (by decide))) (fun _ => ?_)
    refine lv_iload_n hx hb dX11_fails_7 rfl (lv_at hl 1 rfl) ?_
    refine z_callSi (As := [.int (pa0)]) (rest := []) hx hb hml hown ht (mk_X11_areNights l D q cA F _ _ _ hI (pa0)) hw_7_197 hmX11_areNights ⟨rfl, rfl⟩ (na := 1) rfl (by decide +kernel) (by decide) hK hP hD hS hA hl.1 rfl (Nat.le_of_ble_eq_true rfl) ⟨Nat.zero_le _, Nat.zero_le _⟩ dX11_fails_8 (fun r_2 I_2 R_2 J_2 H locs hp_2 hP hD hS _ _ => ?_)
    rcases hp_2 with ⟨rfl, hu_2, f0_2⟩ | ⟨rfl, hu_2, nn_2⟩
    · cases hu_2
      refine lv_if_eq (tgt := 22) hx hb dX11_fails_11 (by decide) (fun c_0 => absurd c_0 (zD_ne zk_1 zk_z (by decide))) (fun _ => ?_)
      refine lv_aload_n hx hb dX11_fails_14 rfl (lv_at hl 0 rfl) ?_
      refine lv_iload_n hx hb dX11_fails_15 rfl (lv_at hl 1 rfl) ?_
      refine z_callVi (k := 0) (As := [.int (pa0)]) (rest := []) hx hb hml hown ht (mk_X11_goNights l D q cA F _ _ _ hI (pa0) f0_2) hw_7_200 hmX11_goNights ⟨rfl, rfl⟩ (na := 1) rfl (by decide +kernel) (by decide) (by decide) rfl rfl hK hP hD hS hA hl.1 rfl (Nat.le_of_ble_eq_true rfl) ⟨Nat.zero_le _, Nat.zero_le _⟩ dX11_fails_16 (fun r_3 I_3 R_3 J_3 H locs hp_3 hP hD hS _ _ => ?_)
      obtain ⟨hr_3, hu_3⟩ := hp_3
      obtain ⟨hv_3, hj_3⟩ := hu_3
      try dsimp only at hj_3
      subst J_3
      refine lv_goto (tgt := 24) hx hb dX11_fails_19 (by decide) ?_
      exact z_iret (v := r_3) hx hb hr hlocks hP hD hS dX11_fails_24 ⟨(zR_w hr_3 (by decide)), ⟨hv_3, rfl⟩⟩
    · cases hu_2
      refine lv_if_eq (tgt := 22) hx hb dX11_fails_11 (by decide) (fun _ => ?_) (fun c_0 => absurd (zD_eq zk_0 zk_z) c_0)
      refine lv_bipush (v := (-2)) hx hb dX11_fails_22 (by decide +kernel) ?_
      exact z_iret (v := (-2)) hx hb hr hlocks hP hD hS dX11_fails_24 ⟨(zR_w zk_m2 (by decide)), ⟨hI, rfl⟩⟩
  · cases hu_1
    refine lv_if_eq (tgt := 22) hx hb dX11_fails_4 (by decide) (fun _ => ?_) (fun c_0 => absurd (zD_eq zk_0 zk_z) c_0)
    refine lv_bipush (v := (-2)) hx hb dX11_fails_22 (by decide +kernel) ?_
    exact z_iret (v := (-2)) hx hb hr hlocks hP hD hS dX11_fails_24 ⟨(zR_w zk_m2 (by decide)), ⟨hI, rfl⟩⟩
set_option maxHeartbeats 4000000 in
set_option maxRecDepth 100000 in
theorem mk_X11_later (l : Launch) (D : va_G) (q : Nat → Nat) (cA : Nat → ClassId) (F : Nat → Nat → Int32) (I R : Nat → Nat → Int32) (J : Nat → Nat → Int64) (hI : mInv F (I, R, J)) (pa0 : Int32) (pa1 : Int32) : zMi l D vwCl (zMtys cA) 25 q (zMd q cA) yX11_later cX11_later 3 (some .int) ({ frames := 7, cells := 0, slots := 0, locals := 178 } : Room) [.ref (q 0), .int (pa0), .int (pa1)] (I, R, J) (fun r u => zR (-2) 4 r ∧ (mInv F u ∧ u.2.2 = J)) := by
  intro sz
  refine z_body (by decide +kernel) (Nat.le_of_ble_eq_true rfl) (fun p e s m below meth c ls hx hb hml hr ht hown hlocks hsz hK hP hD hS hl => ?_)
  have hA : ∀ a, s.heap.size ≤ a → zA 25 q sz a := fun a h => Or.inr (hsz ▸ h)
  have hl : lv_has ls 3 [(0, .ref (q 0)), (1, .int (pa0)), (2, .int (pa1))] := hl
  refine lv_aload_n hx hb dX11_later_0 rfl (lv_at hl 0 rfl) ?_
  refine lv_iload_n hx hb dX11_later_1 rfl (lv_at hl 1 rfl) ?_
  refine lv_i2l (v := (pa0).toInt64) hx hb dX11_later_2 rfl ?_
  refine z_callVi (k := 0) (As := [.long ((pa0).toInt64)]) (rest := []) hx hb hml hown ht (mk_X11_isThing l D q cA F _ _ _ hI ((pa0).toInt64) (zR_i2l (zR_any (pa0)))) hw_6_238 hmX11_isThing ⟨rfl, rfl⟩ (na := 1) rfl (by decide +kernel) (by decide) (by decide) rfl rfl hK hP hD hS hA hl.1 rfl (Nat.le_of_ble_eq_true rfl) ⟨Nat.zero_le _, Nat.zero_le _⟩ dX11_later_3 (fun r_1 I_1 R_1 J_1 H locs hp_1 hP hD hS _ _ => ?_)
  rcases hp_1 with ⟨rfl, hu_1, f0_1⟩ | ⟨rfl, hu_1⟩
  · cases hu_1
    have f_2 : zR 0 5 (pa0) := zL_back f0_1
    refine lv_if_eq (tgt := 16) hx hb dX11_later_6 (by decide) (fun c_0 => absurd c_0 (zD_ne zk_1 zk_z (by decide))) (fun _ => ?_)
    refine lv_iload_n hx hb dX11_later_9 rfl (lv_at hl 2 rfl) ?_
    refine z_callSi (As := [.int (pa1)]) (rest := []) hx hb hml hown ht (mk_X11_areNights l D q cA F _ _ _ hI (pa1)) hw_7_197 hmX11_areNights ⟨rfl, rfl⟩ (na := 1) rfl (by decide +kernel) (by decide) hK hP hD hS hA hl.1 rfl (Nat.le_of_ble_eq_true rfl) ⟨Nat.zero_le _, Nat.zero_le _⟩ dX11_later_10 (fun r_3 I_3 R_3 J_3 H locs hp_3 hP hD hS _ _ => ?_)
    rcases hp_3 with ⟨rfl, hu_3, f0_3⟩ | ⟨rfl, hu_3, nn_3⟩
    · cases hu_3
      refine lv_if_ne (tgt := 19) hx hb dX11_later_13 (by decide) (fun _ => ?_) (fun c_0 => absurd c_0 (zD_ne zk_1 zk_z (by decide)))
      refine lv_aload_n hx hb dX11_later_19 rfl (lv_at hl 0 rfl) ?_
      refine lv_iload_n hx hb dX11_later_20 rfl (lv_at hl 2 rfl) ?_
      refine z_callVi (k := 0) (As := [.int (pa1)]) (rest := []) hx hb hml hown ht (mk_X11_goNights l D q cA F _ _ _ hI (pa1) f0_3) hw_7_200 hmX11_goNights ⟨rfl, rfl⟩ (na := 1) rfl (by decide +kernel) (by decide) (by decide) rfl rfl hK hP hD hS hA hl.1 rfl (Nat.le_of_ble_eq_true rfl) ⟨Nat.zero_le _, Nat.zero_le _⟩ dX11_later_21 (fun r_4 I_4 R_4 J_4 H locs hp_4 hP hD hS _ _ => ?_)
      obtain ⟨hr_4, hu_4⟩ := hp_4
      obtain ⟨hv_4, hj_4⟩ := hu_4
      try dsimp only at hj_4
      subst J_4
      refine lv_pop hx hb dX11_later_24 rfl ?_
      refine lv_aload_n hx hb dX11_later_25 rfl (lv_at hl 0 rfl) ?_
      refine z_get hx hb ht hown hK hP ziX11 rfl 0 (by decide) 17 (by decide) hw_5_204 rfl (v := .ref (q 9)) rfl dX11_later_26 ?_
      refine lv_iload_n hx hb dX11_later_29 rfl (lv_at hl 1 rfl) ?_
      refine z_iald hx hb hK hP 9 (by decide) 8 rfl rfl (zR_vin f_2 (by decide)) dX11_later_30 ?_
      refine z_eqi (y := R_4 9 (pa0).toNatClampNeg) rfl ?_
      have f_5 : zR 0 4 (R_4 9 (pa0).toNatClampNeg) := mR hv_4 9 (pa0).toNatClampNeg
      exact z_iret (v := R_4 9 (pa0).toNatClampNeg) hx hb hr hlocks hP hD hS dX11_later_31 ⟨(zR_w f_5 (by decide)), ⟨hv_4, rfl⟩⟩
    · cases hu_3
      refine lv_if_ne (tgt := 19) hx hb dX11_later_13 (by decide) (fun c_0 => absurd (zD_eq zk_0 zk_z) c_0) (fun _ => ?_)
      refine lv_bipush (v := (-2)) hx hb dX11_later_16 (by decide +kernel) ?_
      exact z_iret (v := (-2)) hx hb hr hlocks hP hD hS dX11_later_18 ⟨(zR_w zk_m2 (by decide)), ⟨hI, rfl⟩⟩
  · cases hu_1
    refine lv_if_eq (tgt := 16) hx hb dX11_later_6 (by decide) (fun _ => ?_) (fun c_0 => absurd (zD_eq zk_0 zk_z) c_0)
    refine lv_bipush (v := (-2)) hx hb dX11_later_16 (by decide +kernel) ?_
    exact z_iret (v := (-2)) hx hb hr hlocks hP hD hS dX11_later_18 ⟨(zR_w zk_m2 (by decide)), ⟨hI, rfl⟩⟩
set_option maxHeartbeats 4000000 in
set_option maxRecDepth 100000 in
theorem mk_X11_purse (l : Launch) (D : va_G) (q : Nat → Nat) (cA : Nat → ClassId) (F : Nat → Nat → Int32) (I R : Nat → Nat → Int32) (J : Nat → Nat → Int64) (hI : mInv F (I, R, J)) (pa0 : Int32) (pa1 : Int32) : zMi l D vwCl (zMtys cA) 25 q (zMd q cA) yX11_purse cX11_purse 3 (some .int) ({ frames := 7, cells := 0, slots := 0, locals := 178 } : Room) [.ref (q 0), .int (pa0), .int (pa1)] (I, R, J) (fun _ u => (mInv F u ∧ u.2.2 = J)) := by
  intro sz
  refine z_body (by decide +kernel) (Nat.le_of_ble_eq_true rfl) (fun p e s m below meth c ls hx hb hml hr ht hown hlocks hsz hK hP hD hS hl => ?_)
  have hA : ∀ a, s.heap.size ≤ a → zA 25 q sz a := fun a h => Or.inr (hsz ▸ h)
  have hl : lv_has ls 3 [(0, .ref (q 0)), (1, .int (pa0)), (2, .int (pa1))] := hl
  refine lv_aload_n hx hb dX11_purse_0 rfl (lv_at hl 0 rfl) ?_
  refine lv_iload_n hx hb dX11_purse_1 rfl (lv_at hl 1 rfl) ?_
  refine lv_i2l (v := (pa0).toInt64) hx hb dX11_purse_2 rfl ?_
  refine z_callVi (k := 0) (As := [.long ((pa0).toInt64)]) (rest := []) hx hb hml hown ht (mk_X11_isHouse l D q cA F _ _ _ hI ((pa0).toInt64) (zR_i2l (zR_any (pa0)))) hw_6_176 hmX11_isHouse ⟨rfl, rfl⟩ (na := 1) rfl (by decide +kernel) (by decide) (by decide) rfl rfl hK hP hD hS hA hl.1 rfl (Nat.le_of_ble_eq_true rfl) ⟨Nat.zero_le _, Nat.zero_le _⟩ dX11_purse_3 (fun r_1 I_1 R_1 J_1 H locs hp_1 hP hD hS _ _ => ?_)
  rcases hp_1 with ⟨rfl, hu_1, f0_1⟩ | ⟨rfl, hu_1⟩
  · cases hu_1
    have f_2 : zR 0 4 (pa0) := zL_back f0_1
    refine lv_if_eq (tgt := 16) hx hb dX11_purse_6 (by decide) (fun c_0 => absurd c_0 (zD_ne zk_1 zk_z (by decide))) (fun _ => ?_)
    refine lv_iload_n hx hb dX11_purse_9 rfl (lv_at hl 2 rfl) ?_
    refine z_callSi (As := [.int (pa1)]) (rest := []) hx hb hml hown ht (mk_X11_areNights l D q cA F _ _ _ hI (pa1)) hw_7_197 hmX11_areNights ⟨rfl, rfl⟩ (na := 1) rfl (by decide +kernel) (by decide) hK hP hD hS hA hl.1 rfl (Nat.le_of_ble_eq_true rfl) ⟨Nat.zero_le _, Nat.zero_le _⟩ dX11_purse_10 (fun r_3 I_3 R_3 J_3 H locs hp_3 hP hD hS _ _ => ?_)
    rcases hp_3 with ⟨rfl, hu_3, f0_3⟩ | ⟨rfl, hu_3, nn_3⟩
    · cases hu_3
      refine lv_if_ne (tgt := 19) hx hb dX11_purse_13 (by decide) (fun _ => ?_) (fun c_0 => absurd c_0 (zD_ne zk_1 zk_z (by decide)))
      refine lv_aload_n hx hb dX11_purse_19 rfl (lv_at hl 0 rfl) ?_
      refine lv_iload_n hx hb dX11_purse_20 rfl (lv_at hl 2 rfl) ?_
      refine z_callVi (k := 0) (As := [.int (pa1)]) (rest := []) hx hb hml hown ht (mk_X11_goNights l D q cA F _ _ _ hI (pa1) f0_3) hw_7_200 hmX11_goNights ⟨rfl, rfl⟩ (na := 1) rfl (by decide +kernel) (by decide) (by decide) rfl rfl hK hP hD hS hA hl.1 rfl (Nat.le_of_ble_eq_true rfl) ⟨Nat.zero_le _, Nat.zero_le _⟩ dX11_purse_21 (fun r_4 I_4 R_4 J_4 H locs hp_4 hP hD hS _ _ => ?_)
      obtain ⟨hr_4, hu_4⟩ := hp_4
      obtain ⟨hv_4, hj_4⟩ := hu_4
      try dsimp only at hj_4
      subst J_4
      refine lv_pop hx hb dX11_purse_24 rfl ?_
      refine lv_aload_n hx hb dX11_purse_25 rfl (lv_at hl 0 rfl) ?_
      refine z_get hx hb ht hown hK hP ziX11 rfl 0 (by decide) 15 (by decide) hw_5_202 rfl (v := .ref (q 7)) rfl dX11_purse_26 ?_
      refine lv_iload_n hx hb dX11_purse_29 rfl (lv_at hl 1 rfl) ?_
      refine z_iald hx hb hK hP 7 (by decide) 6 rfl rfl (zR_vin f_2 (by decide)) dX11_purse_30 ?_
      refine z_eqi (y := R_4 7 (pa0).toNatClampNeg) rfl ?_
      exact z_iret (v := R_4 7 (pa0).toNatClampNeg) hx hb hr hlocks hP hD hS dX11_purse_31 ⟨hv_4, rfl⟩
    · cases hu_3
      refine lv_if_ne (tgt := 19) hx hb dX11_purse_13 (by decide) (fun c_0 => absurd (zD_eq zk_0 zk_z) c_0) (fun _ => ?_)
      refine lv_bipush (v := (-2)) hx hb dX11_purse_16 (by decide +kernel) ?_
      exact z_iret (v := (-2)) hx hb hr hlocks hP hD hS dX11_purse_18 ⟨hI, rfl⟩
  · cases hu_1
    refine lv_if_eq (tgt := 16) hx hb dX11_purse_6 (by decide) (fun _ => ?_) (fun c_0 => absurd (zD_eq zk_0 zk_z) c_0)
    refine lv_bipush (v := (-2)) hx hb dX11_purse_16 (by decide +kernel) ?_
    exact z_iret (v := (-2)) hx hb hr hlocks hP hD hS dX11_purse_18 ⟨hI, rfl⟩
set_option maxHeartbeats 4000000 in
set_option maxRecDepth 100000 in
theorem mk_X11_bit_1 (l : Launch) (D : va_G) (q : Nat → Nat) (cA : Nat → ClassId) (F : Nat → Nat → Int32) (I R : Nat → Nat → Int32) (J : Nat → Nat → Int64) (hI : mInv F (I, R, J)) (pa0 : Int32) (pa1 : Int32) (hpa1 : zR 0 23 pa1) : zMi l D vwCl (zMtys cA) 25 q (zMd q cA) yX11_bit cX11_bit 2 (some .int) ({ frames := 0, cells := 0, slots := 0, locals := 0 } : Room) [.int (pa0), .int (pa1)] (I, R, J) (fun r u => zR 0 1 r ∧ u = (I, R, J)) := by
  intro sz
  refine z_body (by decide +kernel) (Nat.le_of_ble_eq_true rfl) (fun p e s m below meth c ls hx hb hml hr ht hown hlocks hsz hK hP hD hS hl => ?_)
  have hA : ∀ a, s.heap.size ≤ a → zA 25 q sz a := fun a h => Or.inr (hsz ▸ h)
  have hl : lv_has ls 2 [(0, .int (pa0)), (1, .int (pa1))] := hl
  refine lv_iload_n hx hb dX11_bit_0 rfl (lv_at hl 0 rfl) ?_
  refine lv_iload_n hx hb dX11_bit_1 rfl (lv_at hl 1 rfl) ?_
  refine lv_ishr hx hb dX11_bit_2 ?_
  refine z_any (fun v_1 => ?_)
  refine lv_iconst (v := nI 1) hx hb dX11_bit_3 (by decide +kernel) ?_
  refine lv_iand hx hb dX11_bit_4 ?_
  refine z_rng (a := 0) (b := 1) (zR_andr zk_1 (by decide)) (fun v_2 hv_2 => ?_)
  exact z_iret (v := v_2) hx hb hr hlocks hP hD hS dX11_bit_5 ⟨hv_2, rfl⟩
set_option maxHeartbeats 4000000 in
set_option maxRecDepth 100000 in
theorem mk_X11_run (l : Launch) (D : va_G) (q : Nat → Nat) (cA : Nat → ClassId) (F : Nat → Nat → Int32) (I R : Nat → Nat → Int32) (J : Nat → Nat → Int64) (hI : mInv F (I, R, J))  : zMi l D vwCl (zMtys cA) 25 q (zMd q cA) yX11_run cX11_run 4 (some .int) ({ frames := 6, cells := 0, slots := 0, locals := 155 } : Room) [.ref (q 0)] (I, R, J) (fun _ u => (mInv F u ∧ u.2.2 = J)) := by
  intro sz
  refine z_body (by decide +kernel) (Nat.le_of_ble_eq_true rfl) (fun p e s m below meth c ls hx hb hml hr ht hown hlocks hsz hK hP hD hS hl => ?_)
  have hA : ∀ a, s.heap.size ≤ a → zA 25 q sz a := fun a h => Or.inr (hsz ▸ h)
  have hl : lv_has ls 4 [(0, .ref (q 0))] := hl
  refine lv_aload_n hx hb dX11_run_0 rfl (lv_at hl 0 rfl) ?_
  refine z_callVi (k := 0) (As := []) (rest := []) hx hb hml hown ht (mk_X11_isCity l D q cA F _ _ _ hI ) hw_7_75 hmX11_isCity ⟨rfl, rfl⟩ (na := 0) rfl (by decide +kernel) (by decide) (by decide) rfl rfl hK hP hD hS hA hl.1 rfl (Nat.le_of_ble_eq_true rfl) ⟨Nat.zero_le _, Nat.zero_le _⟩ dX11_run_1 (fun r_1 I_1 R_1 J_1 H locs hp_1 hP hD hS _ _ => ?_)
  rcases hp_1 with ⟨rfl, hu_1⟩ | ⟨rfl, hu_1⟩
  · cases hu_1
    refine lv_if_ne (tgt := 10) hx hb dX11_run_4 (by decide) (fun _ => ?_) (fun c_0 => absurd c_0 (zD_ne zk_1 zk_z (by decide)))
    refine lv_aload_n hx hb dX11_run_10 rfl (lv_at hl 0 rfl) ?_
    refine z_callVv (k := 0) (As := []) (rest := []) hx hb hml hown ht (mk_X11_asItIs l D q cA F _ _ _ hI ) hw_6_181 hmX11_asItIs ⟨rfl, rfl⟩ (na := 0) rfl (by decide +kernel) (by decide) (by decide) rfl rfl hK hP hD hS hA hl.1 rfl (Nat.le_of_ble_eq_true rfl) ⟨Nat.zero_le _, Nat.zero_le _⟩ dX11_run_11 (fun I_2 R_2 J_2 H locs hp_2 hP hD hS _ _ => ?_)
    obtain ⟨hv_2, hj_2, hs_2⟩ := hp_2
    try dsimp only at hj_2
    subst J_2
    refine lv_aload_n hx hb dX11_run_14 rfl (lv_at hl 0 rfl) ?_
    refine z_callVi (k := 0) (As := []) (rest := []) hx hb hml hown ht (mk_X11_failedSet l D q cA F _ _ _ hv_2 ) hw_7_204 hmX11_failedSet ⟨rfl, rfl⟩ (na := 0) rfl (by decide +kernel) (by decide) (by decide) rfl rfl hK hP hD hS hA hl.1 rfl (Nat.le_of_ble_eq_true rfl) ⟨Nat.zero_le _, Nat.zero_le _⟩ dX11_run_15 (fun r_3 I_3 R_3 J_3 H locs hp_3 hP hD hS _ _ => ?_)
    obtain ⟨hr_3, hu_3⟩ := hp_3
    cases hu_3
    refine lv_istore_n (lv' := [(1, .int (r_3)), (0, .ref (q 0))]) hx hb dX11_run_18 rfl hl (by decide) rfl (fun ls hl => ?_)
    refine lv_iconst (v := nI 0) hx hb dX11_run_19 (by decide +kernel) ?_
    refine lv_istore_n (lv' := [(2, .int (nI 0)), (1, .int (r_3)), (0, .ref (q 0))]) hx hb dX11_run_20 rfl hl (by decide) rfl (fun ls hl => ?_)
    have loop_47 : ∀ N : Nat, ∀ x_45 : Int32, zR 0 24 x_45 → ∀ R_46 : Nat → Nat → Int32, mInv F (I_2, R_46, J) → (2147483648 - (x_45).toInt).toNat < N → ∀ (H : Heap) (locs : List Loc), va_P D vwCl (zw 25 q (zMd q cA) I_2 R_46 J) H → va_D (zA 25 q sz) (zw 25 q (zMd q cA) I_2 R_46 J) → va_S (zA 25 q sz) s.heap H locs → ∀ ls : Array Slot, lv_has ls 4 [(0, .ref (q 0)), (1, .int (r_3)), (2, .int (x_45))] → W p l e ({ frames := 6, cells := 0, slots := 0, locals := 155 } : Room) s m ([.ref (q 0)] : List Value).toArray below meth c H locs 0 0 (MQ below (va_Qi (fun _ u => (mInv F u ∧ u.2.2 = J)) (zB D vwCl 25 q (zMd q cA) sz) (zA 25 q sz)) ([.ref (q 0)] : List Value).toArray s 0 0 (zA 25 q sz)) (F0 m 21 ls []) := by
      intro N
      induction N with
      | zero => intro x_45 hx_45 R_46 hI_46 hN; exact absurd hN (Nat.not_lt_zero _)
      | succ N ih_49 =>
        intro x_45 hx_45 R_46 hI_46 hN_48 H locs hP hD hS ls hl
        refine lv_iload_n hx hb dX11_run_21 rfl (lv_at hl 2 rfl) ?_
        refine lv_aload_n hx hb dX11_run_22 rfl (lv_at hl 0 rfl) ?_
        refine z_get hx hb ht hown hK hP ziX11 rfl 0 (by decide) 26 (by decide) hw_5_213 rfl (v := .int (I_2 0 26)) rfl dX11_run_23 ?_
        have f_50 : zR 0 24 (I_2 0 26) := mI hv_2 0 26
        refine lv_icmp_ge (tgt := 55) hx hb dX11_run_26 (by decide) (fun c_51 => ?_) (fun c_51 => ?_)
        · have t_c_51 := z_leT c_51
          refine lv_aload_n hx hb dX11_run_55 rfl (lv_at hl 0 rfl) ?_
          refine z_callVi (k := 0) (As := []) (rest := []) hx hb hml hown ht (mk_X11_night0 l D q cA F _ _ _ hI_46 ) hw_6_222 hmX11_night0 ⟨rfl, rfl⟩ (na := 0) rfl (by decide +kernel) (by decide) (by decide) rfl rfl hK hP hD hS hA hl.1 rfl (Nat.le_of_ble_eq_true rfl) ⟨Nat.zero_le _, Nat.zero_le _⟩ dX11_run_56 (fun r_59 I_59 R_59 J_59 H locs hp_59 hP hD hS _ _ => ?_)
          obtain ⟨hv_59, hj_59, hk26_59⟩ := hp_59
          try dsimp only at hj_59
          subst J_59
          refine lv_pop hx hb dX11_run_59 rfl ?_
          refine lv_iconst (v := nI 0) hx hb dX11_run_60 (by decide +kernel) ?_
          refine lv_istore_n (lv' := [(2, .int (nI 0)), (0, .ref (q 0)), (1, .int (r_3))]) hx hb dX11_run_61 rfl hl (by decide) rfl (fun ls hl => ?_)
          refine lv_iconst (v := nI 0) hx hb dX11_run_62 (by decide +kernel) ?_
          refine lv_istore_n (lv' := [(3, .int (nI 0)), (2, .int (nI 0)), (0, .ref (q 0)), (1, .int (r_3))]) hx hb dX11_run_63 rfl hl (by decide) rfl (fun ls hl => ?_)
          have loop_111 : ∀ N : Nat, ∀ x_109 : Int32, ∀ x_110 : Int32, zR 0 24 x_110 → (2147483648 - (x_110).toInt).toNat < N → ∀ (H : Heap) (locs : List Loc), va_P D vwCl (zw 25 q (zMd q cA) I_59 R_59 J) H → va_D (zA 25 q sz) (zw 25 q (zMd q cA) I_59 R_59 J) → va_S (zA 25 q sz) s.heap H locs → ∀ ls : Array Slot, lv_has ls 4 [(0, .ref (q 0)), (1, .int (r_3)), (2, .int (x_109)), (3, .int (x_110))] → W p l e ({ frames := 6, cells := 0, slots := 0, locals := 155 } : Room) s m ([.ref (q 0)] : List Value).toArray below meth c H locs 0 0 (MQ below (va_Qi (fun _ u => (mInv F u ∧ u.2.2 = J)) (zB D vwCl 25 q (zMd q cA) sz) (zA 25 q sz)) ([.ref (q 0)] : List Value).toArray s 0 0 (zA 25 q sz)) (F0 m 64 ls []) := by
            intro N
            induction N with
            | zero => intro x_109 x_110 hx_110 hN; exact absurd hN (Nat.not_lt_zero _)
            | succ N ih_113 =>
              intro x_109 x_110 hx_110 hN_112 H locs hP hD hS ls hl
              refine lv_iload_n hx hb dX11_run_64 rfl (lv_at hl 3 rfl) ?_
              refine lv_aload_n hx hb dX11_run_65 rfl (lv_at hl 0 rfl) ?_
              refine z_get hx hb ht hown hK hP ziX11 rfl 0 (by decide) 26 (by decide) hw_5_213 rfl (v := .int (I_59 0 26)) rfl dX11_run_66 ?_
              refine z_eqi (y := I_2 0 26) hk26_59 ?_
              refine lv_icmp_ge (tgt := 100) hx hb dX11_run_69 (by decide) (fun c_114 => ?_) (fun c_114 => ?_)
              · have t_c_114 := z_leT c_114
                refine lv_iload_n hx hb dX11_run_100 rfl (lv_at hl 2 rfl) ?_
                exact z_iret (v := x_109) hx hb hr hlocks hP hD hS dX11_run_101 ⟨hv_59, rfl⟩
              · have t_c_114 := z_leF c_114
                have f_115 : zR 0 23 (x_110) := zR_ltx t_c_114 hx_110 f_50 (by decide)
                have f_116 : zR 1 24 (I_2 0 26) := zR_lty t_c_114 hx_110 f_50 (by decide)
                refine lv_iload_n hx hb dX11_run_72 rfl (lv_at hl 2 rfl) ?_
                refine lv_aload_n hx hb dX11_run_73 rfl (lv_at hl 0 rfl) ?_
                refine z_callVi (k := 0) (As := []) (rest := [.int (x_109)]) hx hb hml hown ht (mk_X11_failedSet l D q cA F _ _ _ hv_59 ) hw_7_204 hmX11_failedSet ⟨rfl, rfl⟩ (na := 0) rfl (by decide +kernel) (by decide) (by decide) rfl rfl hK hP hD hS hA hl.1 rfl (Nat.le_of_ble_eq_true rfl) ⟨Nat.zero_le _, Nat.zero_le _⟩ dX11_run_74 (fun r_117 I_117 R_117 J_117 H locs hp_117 hP hD hS _ _ => ?_)
                obtain ⟨hr_117, hu_117⟩ := hp_117
                cases hu_117
                refine lv_iload_n hx hb dX11_run_77 rfl (lv_at hl 1 rfl) ?_
                refine lv_iconst (v := (-1)) hx hb dX11_run_78 (by decide +kernel) ?_
                refine lv_ixor hx hb dX11_run_79 ?_
                refine z_any (fun v_118 => ?_)
                refine lv_iand hx hb dX11_run_80 ?_
                refine z_rng (a := 0) (b := 16777215) (zR_andl hr_117 (by decide)) (fun v_119 hv_119 => ?_)
                refine lv_iload_n hx hb dX11_run_81 rfl (lv_at hl 3 rfl) ?_
                refine z_callSi (As := [.int (v_119), .int (x_110)]) (rest := [.int (x_109)]) hx hb hml hown ht (mk_X11_bit_1 l D q cA F _ _ _ hv_59 (v_119) (x_110) f_115) hw_7_220 hmX11_bit ⟨rfl, rfl⟩ (na := 2) rfl (by decide +kernel) (by decide) hK hP hD hS hA hl.1 rfl (Nat.le_of_ble_eq_true rfl) ⟨Nat.zero_le _, Nat.zero_le _⟩ dX11_run_82 (fun r_120 I_120 R_120 J_120 H locs hp_120 hP hD hS _ _ => ?_)
                obtain ⟨hr_120, hu_120⟩ := hp_120
                cases hu_120
                refine lv_aload_n hx hb dX11_run_85 rfl (lv_at hl 0 rfl) ?_
                refine z_get hx hb ht hown hK hP ziX11 rfl 0 (by decide) 18 (by decide) hw_5_205 rfl (v := .ref (q 10)) rfl dX11_run_86 ?_
                refine lv_iload_n hx hb dX11_run_89 rfl (lv_at hl 3 rfl) ?_
                refine z_iald hx hb hK hP 10 (by decide) 9 rfl rfl (zR_vin f_115 (by decide)) dX11_run_90 ?_
                refine z_eqi (y := R_59 10 (x_110).toNatClampNeg) rfl ?_
                have f_121 : zR 0 4 (R_59 10 (x_110).toNatClampNeg) := mR hv_59 10 (x_110).toNatClampNeg
                refine lv_ishl hx hb dX11_run_91 ?_
                refine z_any (fun v_122 => ?_)
                refine lv_ior hx hb dX11_run_92 ?_
                refine z_any (fun v_123 => ?_)
                refine lv_istore_n (lv' := [(2, .int (v_123)), (0, .ref (q 0)), (1, .int (r_3)), (3, .int (x_110))]) hx hb dX11_run_93 rfl hl (by decide) rfl (fun ls hl => ?_)
                obtain ⟨v_124, ev_124⟩ : ∃ y : Int32, y = x_110 + nI 1 := ⟨_, rfl⟩
                have hv_124 : zR 1 24 v_124 := ev_124 ▸ zR_add f_115 zk_1 (by decide)
                have mv_124 : v_124.toInt = (x_110).toInt + 1 := by rw [ev_124, zR_addE f_115 zk_1 (by decide)]; rfl
                refine lv_iinc (v := v_124) (lv' := [(3, .int (v_124)), (2, .int (v_123)), (0, .ref (q 0)), (1, .int (r_3))]) hx hb dX11_run_94 hl (k := 3) rfl (ev_124 ▸ rfl) (by decide) rfl (fun ls hl => ?_)
                refine lv_goto (tgt := 64) hx hb dX11_run_97 (by decide) ?_
                exact ih_113 (v_123) (v_124) (zR_w hv_124 (by decide)) (z2_up mv_124 (by decide) hN_112) _ _ hP hD hS _ (lv_sub hl [2, 3, 1, 0] rfl)
          exact loop_111 _ (nI 0) (nI 0) (zR_w zk_0 (by decide)) (Nat.lt_succ_self _) _ _ hP hD hS _ (lv_sub hl [2, 3, 1, 0] rfl)
        · have t_c_51 := z_leF c_51
          have f_125 : zR 0 23 (x_45) := zR_ltx t_c_51 hx_45 f_50 (by decide)
          have f_126 : zR 1 24 (I_2 0 26) := zR_lty t_c_51 hx_45 f_50 (by decide)
          refine lv_aload_n hx hb dX11_run_29 rfl (lv_at hl 0 rfl) ?_
          refine lv_iload_n hx hb dX11_run_30 rfl (lv_at hl 2 rfl) ?_
          have t_131 : ∀ R_130 : Nat → Nat → Int32, mInv F (I_2, R_130, J) → ∀ (H : Heap) (locs : List Loc), va_P D vwCl (zw 25 q (zMd q cA) I_2 R_130 J) H → va_D (zA 25 q sz) (zw 25 q (zMd q cA) I_2 R_130 J) → va_S (zA 25 q sz) s.heap H locs → ∀ ls : Array Slot, lv_has ls 4 [(0, .ref (q 0)), (1, .int (r_3)), (2, .int (x_45))] → W p l e ({ frames := 6, cells := 0, slots := 0, locals := 155 } : Room) s m ([.ref (q 0)] : List Value).toArray below meth c H locs 0 0 (MQ below (va_Qi (fun _ u => (mInv F u ∧ u.2.2 = J)) (zB D vwCl 25 q (zMd q cA) sz) (zA 25 q sz)) ([.ref (q 0)] : List Value).toArray s 0 0 (zA 25 q sz)) (F0 m 49 ls []) := by
            intro R_130 hI_130 H locs hP hD hS ls hl
            obtain ⟨v_132, ev_132⟩ : ∃ y : Int32, y = x_45 + nI 1 := ⟨_, rfl⟩
            have hv_132 : zR 1 24 v_132 := ev_132 ▸ zR_add f_125 zk_1 (by decide)
            have mv_132 : v_132.toInt = (x_45).toInt + 1 := by rw [ev_132, zR_addE f_125 zk_1 (by decide)]; rfl
            refine lv_iinc (v := v_132) (lv' := [(2, .int (v_132)), (0, .ref (q 0)), (1, .int (r_3))]) hx hb dX11_run_49 hl (k := 2) rfl (ev_132 ▸ rfl) (by decide) rfl (fun ls hl => ?_)
            refine lv_goto (tgt := 21) hx hb dX11_run_52 (by decide) ?_
            exact ih_49 (v_132) (zR_w hv_132 (by decide)) _ hI_130 (z2_up mv_132 (by decide) hN_48) _ _ hP hD hS _ (lv_sub hl [1, 2, 0] rfl)
          refine z_callVi (k := 0) (As := [.int (x_45)]) (rest := []) hx hb hml hown ht (mk_X11_isOpen_1 l D q cA F _ _ _ hI_46 (x_45) f_125) hw_6_230 hmX11_isOpen ⟨rfl, rfl⟩ (na := 1) rfl (by decide +kernel) (by decide) (by decide) rfl rfl hK hP hD hS hA hl.1 rfl (Nat.le_of_ble_eq_true rfl) ⟨Nat.zero_le _, Nat.zero_le _⟩ dX11_run_31 (fun r_127 I_127 R_127 J_127 H locs hp_127 hP hD hS _ _ => ?_)
          rcases hp_127 with ⟨rfl, hu_127⟩ | ⟨rfl, hu_127⟩
          · cases hu_127
            refine lv_if_eq (tgt := 49) hx hb dX11_run_34 (by decide) (fun c_0 => absurd c_0 (zD_ne zk_1 zk_z (by decide))) (fun _ => ?_)
            refine lv_aload_n hx hb dX11_run_37 rfl (lv_at hl 0 rfl) ?_
            refine z_get hx hb ht hown hK hP ziX11 rfl 0 (by decide) 21 (by decide) hw_5_208 rfl (v := .ref (q 13)) rfl dX11_run_38 ?_
            refine lv_iload_n hx hb dX11_run_41 rfl (lv_at hl 2 rfl) ?_
            refine lv_aload_n hx hb dX11_run_42 rfl (lv_at hl 0 rfl) ?_
            refine z_get hx hb ht hown hK hP ziX11 rfl 0 (by decide) 27 (by decide) hw_5_214 rfl (v := .int (I_2 0 27)) rfl dX11_run_43 ?_
            refine lv_iconst (v := nI 1) hx hb dX11_run_46 (by decide +kernel) ?_
            refine lv_iadd hx hb dX11_run_47 ?_
            refine z_any (fun v_133 => ?_)
            refine z_iast hx hb hK hP hD hS 13 (by decide) 12 (fun _ => rfl) rfl (zR_vin f_125 (by decide)) dX11_run_48 (fun H locs hP hD hS => ?_)
            have hI_134 := mInv_R hI_46 13 (x_45).toNatClampNeg (v_133) (zR_any _) rfl
            exact t_131 _ hI_134 _ _ hP hD hS _ (lv_sub hl [0, 1, 2] rfl)
          · cases hu_127
            refine lv_if_eq (tgt := 49) hx hb dX11_run_34 (by decide) (fun _ => ?_) (fun c_0 => absurd (zD_eq zk_0 zk_z) c_0)
            exact t_131 _ hI_46 _ _ hP hD hS _ (lv_sub hl [0, 1, 2] rfl)
    exact loop_47 _ (nI 0) (zR_w zk_0 (by decide)) _ hv_2 (Nat.lt_succ_self _) _ _ hP hD hS _ (lv_sub hl [2, 1, 0] rfl)
  · cases hu_1
    refine lv_if_ne (tgt := 10) hx hb dX11_run_4 (by decide) (fun c_0 => absurd (zD_eq zk_0 zk_z) c_0) (fun _ => ?_)
    refine lv_bipush (v := (-2)) hx hb dX11_run_7 (by decide +kernel) ?_
    exact z_iret (v := (-2)) hx hb hr hlocks hP hD hS dX11_run_9 ⟨hI, rfl⟩
set_option maxHeartbeats 4000000 in
set_option maxRecDepth 100000 in
theorem mk_X11_hitOf (l : Launch) (D : va_G) (q : Nat → Nat) (cA : Nat → ClassId) (F : Nat → Nat → Int32) (I R : Nat → Nat → Int32) (J : Nat → Nat → Int64) (hI : mInv F (I, R, J)) (pa0 : Int32) (hpa0 : zR 0 4 pa0) : zMi l D vwCl (zMtys cA) 25 q (zMd q cA) yX11_hitOf cX11_hitOf 6 (some .int) ({ frames := 6, cells := 0, slots := 0, locals := 155 } : Room) [.ref (q 0), .int (pa0)] (I, R, J) (fun r u => zR 0 2147483647 r ∧ (mInv F u ∧ u.2.2 = J)) := by
  intro sz
  refine z_body (by decide +kernel) (Nat.le_of_ble_eq_true rfl) (fun p e s m below meth c ls hx hb hml hr ht hown hlocks hsz hK hP hD hS hl => ?_)
  have hA : ∀ a, s.heap.size ≤ a → zA 25 q sz a := fun a h => Or.inr (hsz ▸ h)
  have hl : lv_has ls 6 [(0, .ref (q 0)), (1, .int (pa0))] := hl
  refine lv_aload_n hx hb dX11_hitOf_0 rfl (lv_at hl 0 rfl) ?_
  refine z_callVv (k := 0) (As := []) (rest := []) hx hb hml hown ht (mk_X11_asItIs l D q cA F _ _ _ hI ) hw_6_181 hmX11_asItIs ⟨rfl, rfl⟩ (na := 0) rfl (by decide +kernel) (by decide) (by decide) rfl rfl hK hP hD hS hA hl.1 rfl (Nat.le_of_ble_eq_true rfl) ⟨Nat.zero_le _, Nat.zero_le _⟩ dX11_hitOf_1 (fun I_1 R_1 J_1 H locs hp_1 hP hD hS _ _ => ?_)
  obtain ⟨hv_1, hj_1, hs_1⟩ := hp_1
  try dsimp only at hj_1
  subst J_1
  refine lv_aload_n hx hb dX11_hitOf_4 rfl (lv_at hl 0 rfl) ?_
  refine lv_iconst (v := (-1)) hx hb dX11_hitOf_5 (by decide +kernel) ?_
  refine z_putI hx hb ht hown hK hP hD hS ziX11 tyX11 tyX11_ok nmX11 rfl 0 (by decide) 33 (by decide) hw_5_220 rfl (v := (-1)) rfl rfl rfl (Nat.le_of_ble_eq_true rfl) rfl dX11_hitOf_6 (fun H locs hP hD hS => ?_)
  have hI_2 := mInv_I hv_1 0 33 ((-1)) (zR_any ((-1))) rfl
  refine lv_iconst (v := nI 0) hx hb dX11_hitOf_9 (by decide +kernel) ?_
  refine lv_istore_n (lv' := [(2, .int (nI 0)), (0, .ref (q 0)), (1, .int (pa0))]) hx hb dX11_hitOf_10 rfl hl (by decide) rfl (fun ls hl => ?_)
  refine lv_iconst (v := nI 0) hx hb dX11_hitOf_11 (by decide +kernel) ?_
  refine lv_istore_n (lv' := [(3, .int (nI 0)), (2, .int (nI 0)), (0, .ref (q 0)), (1, .int (pa0))]) hx hb dX11_hitOf_12 rfl hl (by decide) rfl (fun ls hl => ?_)
  have loop_312 : ∀ N : Nat, ∀ x_309 : Int32, zR 0 2147483647 x_309 → ∀ x_310 : Int32, zR 0 5 x_310 → ∀ I_311 : Nat → Nat → Int32, mInv F (I_311, R_1, J) → (2147483648 - (x_310).toInt).toNat < N → ∀ (H : Heap) (locs : List Loc), va_P D vwCl (zw 25 q (zMd q cA) I_311 R_1 J) H → va_D (zA 25 q sz) (zw 25 q (zMd q cA) I_311 R_1 J) → va_S (zA 25 q sz) s.heap H locs → ∀ ls : Array Slot, lv_has ls 6 [(0, .ref (q 0)), (1, .int (pa0)), (2, .int (x_309)), (3, .int (x_310))] → W p l e ({ frames := 6, cells := 0, slots := 0, locals := 155 } : Room) s m ([.ref (q 0), .int (pa0)] : List Value).toArray below meth c H locs 0 0 (MQ below (va_Qi (fun r u => zR 0 2147483647 r ∧ (mInv F u ∧ u.2.2 = J)) (zB D vwCl 25 q (zMd q cA) sz) (zA 25 q sz)) ([.ref (q 0), .int (pa0)] : List Value).toArray s 0 0 (zA 25 q sz)) (F0 m 13 ls []) := by
    intro N
    induction N with
    | zero => intro x_309 hx_309 x_310 hx_310 I_311 hI_311 hN; exact absurd hN (Nat.not_lt_zero _)
    | succ N ih_314 =>
      intro x_309 hx_309 x_310 hx_310 I_311 hI_311 hN_313 H locs hP hD hS ls hl
      refine lv_iload_n hx hb dX11_hitOf_13 rfl (lv_at hl 3 rfl) ?_
      refine lv_aload_n hx hb dX11_hitOf_14 rfl (lv_at hl 0 rfl) ?_
      refine z_get hx hb ht hown hK hP ziX11 rfl 0 (by decide) 1 (by decide) hw_5_188 rfl (v := .ref (q 1)) rfl dX11_hitOf_15 ?_
      refine lv_iconst (v := nI 3) hx hb dX11_hitOf_18 (by decide +kernel) ?_
      refine z_iald hx hb hK hP 1 (by decide) 0 rfl rfl (zR_vin zk_3 (by decide)) dX11_hitOf_19 ?_
      refine z_eqi (y := R_1 1 (nI 3).toNatClampNeg) rfl ?_
      have f_315 : zR 0 5 (R_1 1 (nI 3).toNatClampNeg) := mR hv_1 1 3
      refine lv_icmp_ge (tgt := 118) hx hb dX11_hitOf_20 (by decide) (fun c_316 => ?_) (fun c_316 => ?_)
      · have t_c_316 := z_leT c_316
        refine lv_iload_n hx hb dX11_hitOf_118 rfl (lv_at hl 2 rfl) ?_
        exact z_iret (v := x_309) hx hb hr hlocks hP hD hS dX11_hitOf_119 ⟨hx_309, ⟨hI_311, rfl⟩⟩
      · have t_c_316 := z_leF c_316
        have f_317 : zR 0 4 (x_310) := zR_ltx t_c_316 hx_310 f_315 (by decide)
        have f_318 : zR 1 5 (R_1 1 (nI 3).toNatClampNeg) := zR_lty t_c_316 hx_310 f_315 (by decide)
        refine lv_iconst (v := nI 0) hx hb dX11_hitOf_23 (by decide +kernel) ?_
        refine lv_istore (lv' := [(4, .int (nI 0)), (0, .ref (q 0)), (1, .int (pa0)), (2, .int (x_309)), (3, .int (x_310))]) hx hb dX11_hitOf_24 hl (by decide) rfl (fun ls hl => ?_)
        refine lv_iconst (v := nI 0) hx hb dX11_hitOf_26 (by decide +kernel) ?_
        refine lv_istore (lv' := [(5, .int (nI 0)), (4, .int (nI 0)), (0, .ref (q 0)), (1, .int (pa0)), (2, .int (x_309)), (3, .int (x_310))]) hx hb dX11_hitOf_27 hl (by decide) rfl (fun ls hl => ?_)
        have loop_378 : ∀ N : Nat, ∀ x_376 : Int32, ∀ x_377 : Int32, zR 0 24 x_377 → (2147483648 - (x_377).toInt).toNat < N → ∀ (H : Heap) (locs : List Loc), va_P D vwCl (zw 25 q (zMd q cA) I_311 R_1 J) H → va_D (zA 25 q sz) (zw 25 q (zMd q cA) I_311 R_1 J) → va_S (zA 25 q sz) s.heap H locs → ∀ ls : Array Slot, lv_has ls 6 [(0, .ref (q 0)), (1, .int (pa0)), (2, .int (x_309)), (3, .int (x_310)), (4, .int (x_376)), (5, .int (x_377))] → W p l e ({ frames := 6, cells := 0, slots := 0, locals := 155 } : Room) s m ([.ref (q 0), .int (pa0)] : List Value).toArray below meth c H locs 0 0 (MQ below (va_Qi (fun r u => zR 0 2147483647 r ∧ (mInv F u ∧ u.2.2 = J)) (zB D vwCl 25 q (zMd q cA) sz) (zA 25 q sz)) ([.ref (q 0), .int (pa0)] : List Value).toArray s 0 0 (zA 25 q sz)) (F0 m 29 ls []) := by
          intro N
          induction N with
          | zero => intro x_376 x_377 hx_377 hN; exact absurd hN (Nat.not_lt_zero _)
          | succ N ih_380 =>
            intro x_376 x_377 hx_377 hN_379 H locs hP hD hS ls hl
            refine lv_iload hx hb dX11_hitOf_29 (lv_at hl 5 rfl) ?_
            refine lv_aload_n hx hb dX11_hitOf_31 rfl (lv_at hl 0 rfl) ?_
            refine z_get hx hb ht hown hK hP ziX11 rfl 0 (by decide) 26 (by decide) hw_5_213 rfl (v := .int (I_311 0 26)) rfl dX11_hitOf_32 ?_
            have f_381 : zR 0 24 (I_311 0 26) := mI hI_311 0 26
            refine lv_icmp_ge (tgt := 90) hx hb dX11_hitOf_35 (by decide) (fun c_382 => ?_) (fun c_382 => ?_)
            · have t_c_382 := z_leT c_382
              refine lv_iload_n hx hb dX11_hitOf_90 rfl (lv_at hl 3 rfl) ?_
              refine lv_iload_n hx hb dX11_hitOf_91 rfl (lv_at hl 1 rfl) ?_
              have t_401 : ∀ x_399 : Int32, zR 0 2147483647 x_399 → ∀ I_400 : Nat → Nat → Int32, mInv F (I_400, R_1, J) → ∀ (H : Heap) (locs : List Loc), va_P D vwCl (zw 25 q (zMd q cA) I_400 R_1 J) H → va_D (zA 25 q sz) (zw 25 q (zMd q cA) I_400 R_1 J) → va_S (zA 25 q sz) s.heap H locs → ∀ ls : Array Slot, lv_has ls 6 [(0, .ref (q 0)), (1, .int (pa0)), (2, .int (x_399)), (3, .int (x_310)), (4, .int (x_376)), (5, .int (x_377))] → W p l e ({ frames := 6, cells := 0, slots := 0, locals := 155 } : Room) s m ([.ref (q 0), .int (pa0)] : List Value).toArray below meth c H locs 0 0 (MQ below (va_Qi (fun r u => zR 0 2147483647 r ∧ (mInv F u ∧ u.2.2 = J)) (zB D vwCl 25 q (zMd q cA) sz) (zA 25 q sz)) ([.ref (q 0), .int (pa0)] : List Value).toArray s 0 0 (zA 25 q sz)) (F0 m 112 ls []) := by
                intro x_399 hx_399 I_400 hI_400 H locs hP hD hS ls hl
                obtain ⟨v_402, ev_402⟩ : ∃ y : Int32, y = x_310 + nI 1 := ⟨_, rfl⟩
                have hv_402 : zR 1 5 v_402 := ev_402 ▸ zR_add f_317 zk_1 (by decide)
                have mv_402 : v_402.toInt = (x_310).toInt + 1 := by rw [ev_402, zR_addE f_317 zk_1 (by decide)]; rfl
                refine lv_iinc (v := v_402) (lv' := [(3, .int (v_402)), (0, .ref (q 0)), (1, .int (pa0)), (2, .int (x_399)), (4, .int (x_376)), (5, .int (x_377))]) hx hb dX11_hitOf_112 hl (k := 3) rfl (ev_402 ▸ rfl) (by decide) rfl (fun ls hl => ?_)
                refine lv_goto (tgt := 13) hx hb dX11_hitOf_115 (by decide) ?_
                exact ih_314 (x_399) hx_399 (v_402) (zR_w hv_402 (by decide)) _ hI_400 (z2_up mv_402 (by decide) hN_313) _ _ hP hD hS _ (lv_sub hl [1, 2, 3, 0] rfl)
              refine lv_icmp_eq (tgt := 112) hx hb dX11_hitOf_92 (by decide) (fun c_394 => ?_) (fun c_394 => ?_)
              · have t_c_394 := z_eqT c_394
                exact t_401 (x_309) hx_309 _ hI_311 _ _ hP hD hS _ (lv_sub hl [0, 1, 2, 3, 4, 5] rfl)
              · have t_c_394 := z_eqF c_394
                refine lv_iload hx hb dX11_hitOf_95 (lv_at hl 4 rfl) ?_
                refine lv_iload_n hx hb dX11_hitOf_97 rfl (lv_at hl 2 rfl) ?_
                refine lv_icmp_gt (tgt := 104) hx hb dX11_hitOf_98 (by decide) (fun c_403 => ?_) (fun c_403 => ?_)
                · have t_c_403 := z_ltT c_403
                  have f_404 : zR 0 2147483646 (x_309) := zR_ltx t_c_403 hx_309 (zR_any (x_376)) (by decide)
                  have f_405 : zR 1 2147483647 (x_376) := zR_lty t_c_403 hx_309 (zR_any (x_376)) (by decide)
                  refine lv_iload hx hb dX11_hitOf_104 (lv_at hl 4 rfl) ?_
                  refine lv_istore_n (lv' := [(2, .int (x_376)), (0, .ref (q 0)), (1, .int (pa0)), (3, .int (x_310)), (4, .int (x_376)), (5, .int (x_377))]) hx hb dX11_hitOf_106 rfl hl (by decide) rfl (fun ls hl => ?_)
                  refine lv_aload_n hx hb dX11_hitOf_107 rfl (lv_at hl 1 rfl) ?_
                  refine lv_iload_n hx hb dX11_hitOf_108 rfl (lv_at hl 3 rfl) ?_
                  refine z_putI hx hb ht hown hK hP hD hS ziX11 tyX11 tyX11_ok nmX11 rfl 0 (by decide) 33 (by decide) hw_5_220 rfl (v := x_310) rfl rfl rfl (Nat.le_of_ble_eq_true rfl) rfl dX11_hitOf_109 (fun H locs hP hD hS => ?_)
                  have hI_406 := mInv_I hI_311 0 33 (x_310) (zR_any (x_310)) rfl
                  exact t_401 (x_376) (zR_w f_405 (by decide)) _ hI_406 _ _ hP hD hS _ (lv_sub hl [1, 2, 0, 3, 4, 5] rfl)
                · have t_c_403 := z_ltF c_403
                  refine lv_goto (tgt := 112) hx hb dX11_hitOf_101 (by decide) ?_
                  exact t_401 (x_309) hx_309 _ hI_311 _ _ hP hD hS _ (lv_sub hl [0, 1, 2, 3, 4, 5] rfl)
            · have t_c_382 := z_leF c_382
              have f_407 : zR 0 23 (x_377) := zR_ltx t_c_382 hx_377 f_381 (by decide)
              have f_408 : zR 1 24 (I_311 0 26) := zR_lty t_c_382 hx_377 f_381 (by decide)
              refine lv_iload hx hb dX11_hitOf_38 (lv_at hl 4 rfl) ?_
              refine lv_aload_n hx hb dX11_hitOf_40 rfl (lv_at hl 0 rfl) ?_
              refine lv_iload hx hb dX11_hitOf_41 (lv_at hl 5 rfl) ?_
              have t_416 : ∀ x_415 : Int32, ∀ (H : Heap) (locs : List Loc), va_P D vwCl (zw 25 q (zMd q cA) I_311 R_1 J) H → va_D (zA 25 q sz) (zw 25 q (zMd q cA) I_311 R_1 J) → va_S (zA 25 q sz) s.heap H locs → ∀ ls : Array Slot, lv_has ls 6 [(0, .ref (q 0)), (1, .int (pa0)), (2, .int (x_309)), (3, .int (x_310)), (4, .int (x_376)), (5, .int (x_377))] → W p l e ({ frames := 6, cells := 0, slots := 0, locals := 155 } : Room) s m ([.ref (q 0), .int (pa0)] : List Value).toArray below meth c H locs 0 0 (MQ below (va_Qi (fun r u => zR 0 2147483647 r ∧ (mInv F u ∧ u.2.2 = J)) (zB D vwCl 25 q (zMd q cA) sz) (zA 25 q sz)) ([.ref (q 0), .int (pa0)] : List Value).toArray s 0 0 (zA 25 q sz)) (F0 m 81 ls [.int (x_415), .int (x_376)]) := by
                intro x_415 H locs hP hD hS ls hl
                refine lv_iadd hx hb dX11_hitOf_81 ?_
                refine z_any (fun v_417 => ?_)
                refine lv_istore (lv' := [(4, .int (v_417)), (0, .ref (q 0)), (1, .int (pa0)), (2, .int (x_309)), (3, .int (x_310)), (5, .int (x_377))]) hx hb dX11_hitOf_82 hl (by decide) rfl (fun ls hl => ?_)
                obtain ⟨v_418, ev_418⟩ : ∃ y : Int32, y = x_377 + nI 1 := ⟨_, rfl⟩
                have hv_418 : zR 1 24 v_418 := ev_418 ▸ zR_add f_407 zk_1 (by decide)
                have mv_418 : v_418.toInt = (x_377).toInt + 1 := by rw [ev_418, zR_addE f_407 zk_1 (by decide)]; rfl
                refine lv_iinc (v := v_418) (lv' := [(5, .int (v_418)), (4, .int (v_417)), (0, .ref (q 0)), (1, .int (pa0)), (2, .int (x_309)), (3, .int (x_310))]) hx hb dX11_hitOf_84 hl (k := 5) rfl (ev_418 ▸ rfl) (by decide) rfl (fun ls hl => ?_)
                refine lv_goto (tgt := 29) hx hb dX11_hitOf_87 (by decide) ?_
                exact ih_380 (v_417) (v_418) (zR_w hv_418 (by decide)) (z2_up mv_418 (by decide) hN_379) _ _ hP hD hS _ (lv_sub hl [2, 3, 4, 5, 1, 0] rfl)
              refine z_callVi (k := 0) (As := [.int (x_377)]) (rest := [.int (x_376)]) hx hb hml hown ht (mk_X11_isOpen_1 l D q cA F _ _ _ hI_311 (x_377) f_407) hw_6_230 hmX11_isOpen ⟨rfl, rfl⟩ (na := 1) rfl (by decide +kernel) (by decide) (by decide) rfl rfl hK hP hD hS hA hl.1 rfl (Nat.le_of_ble_eq_true rfl) ⟨Nat.zero_le _, Nat.zero_le _⟩ dX11_hitOf_43 (fun r_409 I_409 R_409 J_409 H locs hp_409 hP hD hS _ _ => ?_)
              rcases hp_409 with ⟨rfl, hu_409⟩ | ⟨rfl, hu_409⟩
              · cases hu_409
                refine lv_if_eq (tgt := 80) hx hb dX11_hitOf_46 (by decide) (fun c_0 => absurd c_0 (zD_ne zk_1 zk_z (by decide))) (fun _ => ?_)
                refine lv_aload_n hx hb dX11_hitOf_49 rfl (lv_at hl 0 rfl) ?_
                refine z_get hx hb ht hown hK hP ziX11 rfl 0 (by decide) 18 (by decide) hw_5_205 rfl (v := .ref (q 10)) rfl dX11_hitOf_50 ?_
                refine lv_iload hx hb dX11_hitOf_53 (lv_at hl 5 rfl) ?_
                refine z_iald hx hb hK hP 10 (by decide) 9 rfl rfl (zR_vin f_407 (by decide)) dX11_hitOf_55 ?_
                refine z_eqi (y := R_1 10 (x_377).toNatClampNeg) rfl ?_
                have f_419 : zR 0 4 (R_1 10 (x_377).toNatClampNeg) := mR hv_1 10 (x_377).toNatClampNeg
                refine lv_iload_n hx hb dX11_hitOf_56 rfl (lv_at hl 1 rfl) ?_
                refine lv_icmp_ne (tgt := 80) hx hb dX11_hitOf_57 (by decide) (fun c_420 => ?_) (fun c_420 => ?_)
                · have t_c_420 := z_eqF c_420
                  refine lv_iconst (v := nI 0) hx hb dX11_hitOf_80 (by decide +kernel) ?_
                  exact t_416 (nI 0) _ _ hP hD hS _ (lv_sub hl [0, 1, 2, 3, 4, 5] rfl)
                · have t_c_420 := z_eqT c_420
                  refine lv_aload_n hx hb dX11_hitOf_60 rfl (lv_at hl 0 rfl) ?_
                  refine z_get hx hb ht hown hK hP ziX11 rfl 0 (by decide) 20 (by decide) hw_5_207 rfl (v := .ref (q 12)) rfl dX11_hitOf_61 ?_
                  refine lv_iload hx hb dX11_hitOf_64 (lv_at hl 5 rfl) ?_
                  refine z_iald hx hb hK hP 12 (by decide) 11 rfl rfl (zR_vin f_407 (by decide)) dX11_hitOf_66 ?_
                  refine z_eqi (y := R_1 12 (x_377).toNatClampNeg) rfl ?_
                  have f_421 : zR 0 4 (R_1 12 (x_377).toNatClampNeg) := mR hv_1 12 (x_377).toNatClampNeg
                  refine lv_iload_n hx hb dX11_hitOf_67 rfl (lv_at hl 3 rfl) ?_
                  refine lv_icmp_ne (tgt := 80) hx hb dX11_hitOf_68 (by decide) (fun c_422 => ?_) (fun c_422 => ?_)
                  · have t_c_422 := z_eqF c_422
                    refine lv_iconst (v := nI 0) hx hb dX11_hitOf_80 (by decide +kernel) ?_
                    exact t_416 (nI 0) _ _ hP hD hS _ (lv_sub hl [0, 1, 2, 3, 4, 5] rfl)
                  · have t_c_422 := z_eqT c_422
                    refine lv_aload_n hx hb dX11_hitOf_71 rfl (lv_at hl 0 rfl) ?_
                    refine lv_iload hx hb dX11_hitOf_72 (lv_at hl 5 rfl) ?_
                    refine z_callVi (k := 0) (As := [.int (x_377)]) (rest := [.int (x_376)]) hx hb hml hown ht (mk_X11_worthP_1 l D q cA F _ _ _ hI_311 (x_377) f_407) hw_6_206 hmX11_worthP ⟨rfl, rfl⟩ (na := 1) rfl (by decide +kernel) (by decide) (by decide) rfl rfl hK hP hD hS hA hl.1 rfl (Nat.le_of_ble_eq_true rfl) ⟨Nat.zero_le _, Nat.zero_le _⟩ dX11_hitOf_74 (fun r_423 I_423 R_423 J_423 H locs hp_423 hP hD hS _ _ => ?_)
                    cases hp_423
                    refine lv_goto (tgt := 81) hx hb dX11_hitOf_77 (by decide) ?_
                    exact t_416 (r_423) _ _ hP hD hS _ (lv_sub hl [0, 1, 2, 3, 4, 5] rfl)
              · cases hu_409
                refine lv_if_eq (tgt := 80) hx hb dX11_hitOf_46 (by decide) (fun _ => ?_) (fun c_0 => absurd (zD_eq zk_0 zk_z) c_0)
                refine lv_iconst (v := nI 0) hx hb dX11_hitOf_80 (by decide +kernel) ?_
                exact t_416 (nI 0) _ _ hP hD hS _ (lv_sub hl [0, 1, 2, 3, 4, 5] rfl)
        exact loop_378 _ (nI 0) (nI 0) (zR_w zk_0 (by decide)) (Nat.lt_succ_self _) _ _ hP hD hS _ (lv_sub hl [2, 3, 4, 5, 1, 0] rfl)
  exact loop_312 _ (nI 0) (zR_w zk_0 (by decide)) (nI 0) (zR_w zk_0 (by decide)) _ hI_2 (Nat.lt_succ_self _) _ _ hP hD hS _ (lv_sub hl [2, 3, 1, 0] rfl)
set_option maxHeartbeats 4000000 in
set_option maxRecDepth 100000 in
theorem mk_X11_hit (l : Launch) (D : va_G) (q : Nat → Nat) (cA : Nat → ClassId) (F : Nat → Nat → Int32) (I R : Nat → Nat → Int32) (J : Nat → Nat → Int64) (hI : mInv F (I, R, J)) (pa0 : Int32) : zMi l D vwCl (zMtys cA) 25 q (zMd q cA) yX11_hit cX11_hit 2 (some .int) ({ frames := 7, cells := 0, slots := 0, locals := 180 } : Room) [.ref (q 0), .int (pa0)] (I, R, J) (fun r u => zR (-2) 2147483647 r ∧ (mInv F u ∧ u.2.2 = J)) := by
  intro sz
  refine z_body (by decide +kernel) (Nat.le_of_ble_eq_true rfl) (fun p e s m below meth c ls hx hb hml hr ht hown hlocks hsz hK hP hD hS hl => ?_)
  have hA : ∀ a, s.heap.size ≤ a → zA 25 q sz a := fun a h => Or.inr (hsz ▸ h)
  have hl : lv_has ls 2 [(0, .ref (q 0)), (1, .int (pa0))] := hl
  refine lv_aload_n hx hb dX11_hit_0 rfl (lv_at hl 0 rfl) ?_
  refine lv_iload_n hx hb dX11_hit_1 rfl (lv_at hl 1 rfl) ?_
  refine lv_i2l (v := (pa0).toInt64) hx hb dX11_hit_2 rfl ?_
  refine z_callVi (k := 0) (As := [.long ((pa0).toInt64)]) (rest := []) hx hb hml hown ht (mk_X11_isHouse l D q cA F _ _ _ hI ((pa0).toInt64) (zR_i2l (zR_any (pa0)))) hw_6_176 hmX11_isHouse ⟨rfl, rfl⟩ (na := 1) rfl (by decide +kernel) (by decide) (by decide) rfl rfl hK hP hD hS hA hl.1 rfl (Nat.le_of_ble_eq_true rfl) ⟨Nat.zero_le _, Nat.zero_le _⟩ dX11_hit_3 (fun r_1 I_1 R_1 J_1 H locs hp_1 hP hD hS _ _ => ?_)
  rcases hp_1 with ⟨rfl, hu_1, f0_1⟩ | ⟨rfl, hu_1⟩
  · cases hu_1
    have f_2 : zR 0 4 (pa0) := zL_back f0_1
    refine lv_if_eq (tgt := 17) hx hb dX11_hit_6 (by decide) (fun c_0 => absurd c_0 (zD_ne zk_1 zk_z (by decide))) (fun _ => ?_)
    refine lv_aload_n hx hb dX11_hit_9 rfl (lv_at hl 0 rfl) ?_
    refine lv_iload_n hx hb dX11_hit_10 rfl (lv_at hl 1 rfl) ?_
    refine z_callVi (k := 0) (As := [.int (pa0)]) (rest := []) hx hb hml hown ht (mk_X11_hitOf l D q cA F _ _ _ hI (pa0) f_2) hw_7_227 hmX11_hitOf ⟨rfl, rfl⟩ (na := 1) rfl (by decide +kernel) (by decide) (by decide) rfl rfl hK hP hD hS hA hl.1 rfl (Nat.le_of_ble_eq_true rfl) ⟨Nat.zero_le _, Nat.zero_le _⟩ dX11_hit_11 (fun r_3 I_3 R_3 J_3 H locs hp_3 hP hD hS _ _ => ?_)
    obtain ⟨hr_3, hu_3⟩ := hp_3
    obtain ⟨hv_3, hj_3⟩ := hu_3
    try dsimp only at hj_3
    subst J_3
    refine lv_goto (tgt := 19) hx hb dX11_hit_14 (by decide) ?_
    exact z_iret (v := r_3) hx hb hr hlocks hP hD hS dX11_hit_19 ⟨(zR_w hr_3 (by decide)), ⟨hv_3, rfl⟩⟩
  · cases hu_1
    refine lv_if_eq (tgt := 17) hx hb dX11_hit_6 (by decide) (fun _ => ?_) (fun c_0 => absurd (zD_eq zk_0 zk_z) c_0)
    refine lv_bipush (v := (-2)) hx hb dX11_hit_17 (by decide +kernel) ?_
    exact z_iret (v := (-2)) hx hb hr hlocks hP hD hS dX11_hit_19 ⟨(zR_w zk_m2 (by decide)), ⟨hI, rfl⟩⟩
