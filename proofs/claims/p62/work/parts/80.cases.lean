set_option maxHeartbeats 4000000 in
set_option maxRecDepth 100000 in
theorem lc_0 {p : Program} {e : Env} {s : State} {m : MethodId} {below : List Frame} {meth : Method} {c : Code} {l : Launch} {b L j : Nat} {xs : Nat → Int32} {D : va_G} {qx qm : Nat → Nat} {cx cm : Nat → ClassId} {ax vx am vm : Nat → Nat} {t9 : Nat} {H : Heap} {locs : List Loc} {ls : Array Slot} {F G I R I' R' : Nat → Nat → Int32} {J J' : Nat → Nat → Int64} (C : zLaw p s m meth c b L xs D qx qm cx cm ax vx am vm t9) (hj : j + 6 ≤ L) (T : zTw D qx qm cx cm s F G I R I' R' J J' H locs) (hl : lv_has ls 4 [(0, .ref b), (1, .ref (qx 0)), (2, .ref (qm 0)), (3, .int (nI j))]) (kk : ∀ (F G I R I' R' : Nat → Nat → Int32) (J J' : Nat → Nat → Int64) (H : Heap) (locs : List Loc) (ls : Array Slot), zTw D qx qm cx cm s F G I R I' R' J J' H locs → lv_has ls 4 [(0, .ref b), (1, .ref (qx 0)), (2, .ref (qm 0)), (3, .int (nI j))] → W p l e room_1 s m #[Value.ref b] below meth c H locs 600000 7302250 (lw_Z below #[Value.ref b] s) (F0 m 1965 ls [])) : W p l e room_1 s m #[Value.ref b] below meth c H locs 600000 7302250 (lw_Z below #[Value.ref b] s) (F0 m 292 ls []) := by
  obtain ⟨⟨hx, hb, hr, hml, hown, hts, hX, hbl, hlocks, hgv⟩, hKx, hKm, hdis, hL, hNx, hNm⟩ := id C
  have hown : s.vm.findClass "ReceiptLeftLaw" = some m.cls := hown
  have ht : ∀ w ∈ zT, w.before #[Value.ref b] s = true := fun w h => hts w (zT_lw w h)
  have hA : ∀ a, s.heap.size ≤ a → zLA s a := fun _ h => h
  have hbA : ¬ zLA s b := Nat.not_le.mpr hbl
  obtain ⟨hIx, hIm, hR, hPx, hDx, hPm, hDm, hS⟩ := T
  refine lv_aload_n hx hb dL_law_292 rfl (lv_at hl 1 rfl) ?_
  refine lv_aload_n hx hb dL_law_293 rfl (lv_at hl 0 rfl) ?_
  refine lv_iload_n hx hb dL_law_294 rfl (lv_at hl 3 rfl) ?_
  refine lv_iconst (v := nI 1) hx hb dL_law_295 (by decide +kernel) ?_
  refine lv_iadd hx hb dL_law_296 ?_
  refine z_eqi (y := nI (j + 1)) (nI_add j 1) ?_
  refine va_sld hx hb hX hbl hbA hS (vp_in_nI (by omega) (by omega)) dL_law_297 ?_
  refine z_eqi (y := xs (j + 1)) (congrArg xs (nI_clamp (by omega))) ?_
  refine lv_aload_n hx hb dL_law_298 rfl (lv_at hl 0 rfl) ?_
  refine lv_iload_n hx hb dL_law_299 rfl (lv_at hl 3 rfl) ?_
  refine lv_iconst (v := nI 2) hx hb dL_law_300 (by decide +kernel) ?_
  refine lv_iadd hx hb dL_law_301 ?_
  refine z_eqi (y := nI (j + 2)) (nI_add j 2) ?_
  refine va_sld hx hb hX hbl hbA hS (vp_in_nI (by omega) (by omega)) dL_law_302 ?_
  refine z_eqi (y := xs (j + 2)) (congrArg xs (nI_clamp (by omega))) ?_
  refine lv_aload_n hx hb dL_law_303 rfl (lv_at hl 0 rfl) ?_
  refine lv_iload_n hx hb dL_law_304 rfl (lv_at hl 3 rfl) ?_
  refine lv_iconst (v := nI 3) hx hb dL_law_305 (by decide +kernel) ?_
  refine lv_iadd hx hb dL_law_306 ?_
  refine z_eqi (y := nI (j + 3)) (nI_add j 3) ?_
  refine va_sld hx hb hX hbl hbA hS (vp_in_nI (by omega) (by omega)) dL_law_307 ?_
  refine z_eqi (y := xs (j + 3)) (congrArg xs (nI_clamp (by omega))) ?_
  refine lv_aload_n hx hb dL_law_308 rfl (lv_at hl 0 rfl) ?_
  refine lv_iload_n hx hb dL_law_309 rfl (lv_at hl 3 rfl) ?_
  refine lv_iconst (v := nI 4) hx hb dL_law_310 (by decide +kernel) ?_
  refine lv_iadd hx hb dL_law_311 ?_
  refine z_eqi (y := nI (j + 4)) (nI_add j 4) ?_
  refine va_sld hx hb hX hbl hbA hS (vp_in_nI (by omega) (by omega)) dL_law_312 ?_
  refine z_eqi (y := xs (j + 4)) (congrArg xs (nI_clamp (by omega))) ?_
  refine lv_aload_n hx hb dL_law_313 rfl (lv_at hl 0 rfl) ?_
  refine lv_iload_n hx hb dL_law_314 rfl (lv_at hl 3 rfl) ?_
  refine lv_iconst (v := nI 5) hx hb dL_law_315 (by decide +kernel) ?_
  refine lv_iadd hx hb dL_law_316 ?_
  refine z_eqi (y := nI (j + 5)) (nI_add j 5) ?_
  refine va_sld hx hb hX hbl hbA hS (vp_in_nI (by omega) (by omega)) dL_law_317 ?_
  refine z_eqi (y := xs (j + 5)) (congrArg xs (nI_clamp (by omega))) ?_
  refine z_callVi (k := 0) (As := [.int (xs (j + 1)), .int (xs (j + 2)), .int (xs (j + 3)), .int (xs (j + 4)), .int (xs (j + 5))]) (rest := []) hx hb hml hown ht (xk_X10_feed l D qx cx F _ _ _ hIx (xs (j + 1)) (xs (j + 2)) (xs (j + 3)) (xs (j + 4)) (xs (j + 5))) hw_2_130 hmX10_feed ⟨rfl, rfl⟩ (na := 5) rfl (by decide +kernel) ⟨Nat.le_of_ble_eq_true rfl, Nat.le_of_ble_eq_true rfl⟩ (by decide) rfl rfl hKx hPx hDx hS hA hl.1 rfl (Nat.le_of_ble_eq_true rfl) ⟨Nat.le_of_ble_eq_true rfl, Nat.le_of_ble_eq_true rfl⟩ dL_law_318 (fun r_x I_x R_x J_x H1 locs hp_x hPx hDx hS hz_x hk_x => ?_)
  have hPm := z_frame (q := qx) (n := 81) hPm hdis hk_x
  generalize H1 = H at hPm hPx hS ⊢
  have hv_x := hp_x.2
  refine lv_pop hx hb dL_law_321 rfl ?_
  refine lv_aload_n hx hb dL_law_322 rfl (lv_at hl 2 rfl) ?_
  refine lv_aload_n hx hb dL_law_323 rfl (lv_at hl 0 rfl) ?_
  refine lv_iload_n hx hb dL_law_324 rfl (lv_at hl 3 rfl) ?_
  refine lv_iconst (v := nI 1) hx hb dL_law_325 (by decide +kernel) ?_
  refine lv_iadd hx hb dL_law_326 ?_
  refine z_eqi (y := nI (j + 1)) (nI_add j 1) ?_
  refine va_sld hx hb hX hbl hbA hS (vp_in_nI (by omega) (by omega)) dL_law_327 ?_
  refine z_eqi (y := xs (j + 1)) (congrArg xs (nI_clamp (by omega))) ?_
  refine lv_aload_n hx hb dL_law_328 rfl (lv_at hl 0 rfl) ?_
  refine lv_iload_n hx hb dL_law_329 rfl (lv_at hl 3 rfl) ?_
  refine lv_iconst (v := nI 2) hx hb dL_law_330 (by decide +kernel) ?_
  refine lv_iadd hx hb dL_law_331 ?_
  refine z_eqi (y := nI (j + 2)) (nI_add j 2) ?_
  refine va_sld hx hb hX hbl hbA hS (vp_in_nI (by omega) (by omega)) dL_law_332 ?_
  refine z_eqi (y := xs (j + 2)) (congrArg xs (nI_clamp (by omega))) ?_
  refine lv_aload_n hx hb dL_law_333 rfl (lv_at hl 0 rfl) ?_
  refine lv_iload_n hx hb dL_law_334 rfl (lv_at hl 3 rfl) ?_
  refine lv_iconst (v := nI 3) hx hb dL_law_335 (by decide +kernel) ?_
  refine lv_iadd hx hb dL_law_336 ?_
  refine z_eqi (y := nI (j + 3)) (nI_add j 3) ?_
  refine va_sld hx hb hX hbl hbA hS (vp_in_nI (by omega) (by omega)) dL_law_337 ?_
  refine z_eqi (y := xs (j + 3)) (congrArg xs (nI_clamp (by omega))) ?_
  refine lv_aload_n hx hb dL_law_338 rfl (lv_at hl 0 rfl) ?_
  refine lv_iload_n hx hb dL_law_339 rfl (lv_at hl 3 rfl) ?_
  refine lv_iconst (v := nI 4) hx hb dL_law_340 (by decide +kernel) ?_
  refine lv_iadd hx hb dL_law_341 ?_
  refine z_eqi (y := nI (j + 4)) (nI_add j 4) ?_
  refine va_sld hx hb hX hbl hbA hS (vp_in_nI (by omega) (by omega)) dL_law_342 ?_
  refine z_eqi (y := xs (j + 4)) (congrArg xs (nI_clamp (by omega))) ?_
  refine lv_aload_n hx hb dL_law_343 rfl (lv_at hl 0 rfl) ?_
  refine lv_iload_n hx hb dL_law_344 rfl (lv_at hl 3 rfl) ?_
  refine lv_iconst (v := nI 5) hx hb dL_law_345 (by decide +kernel) ?_
  refine lv_iadd hx hb dL_law_346 ?_
  refine z_eqi (y := nI (j + 5)) (nI_add j 5) ?_
  refine va_sld hx hb hX hbl hbA hS (vp_in_nI (by omega) (by omega)) dL_law_347 ?_
  refine z_eqi (y := xs (j + 5)) (congrArg xs (nI_clamp (by omega))) ?_
  refine z_callVi (k := 0) (As := [.int (xs (j + 1)), .int (xs (j + 2)), .int (xs (j + 3)), .int (xs (j + 4)), .int (xs (j + 5))]) (rest := []) hx hb hml hown ht (mk_X11_feed l D qm cm G _ _ _ hIm (xs (j + 1)) (xs (j + 2)) (xs (j + 3)) (xs (j + 4)) (xs (j + 5))) hw_6_93 hmX11_feed ⟨rfl, rfl⟩ (na := 5) rfl (by decide +kernel) ⟨Nat.le_of_ble_eq_true rfl, Nat.le_of_ble_eq_true rfl⟩ (by decide) rfl rfl hKm hPm hDm hS hA hl.1 rfl (Nat.le_of_ble_eq_true rfl) ⟨Nat.le_of_ble_eq_true rfl, Nat.le_of_ble_eq_true rfl⟩ dL_law_348 (fun r_m I_m R_m J_m H1 locs hp_m hPm hDm hS hz_m hk_m => ?_)
  have hPx := z_frame (q := qm) (n := 25) hPx (fun i hi j hj => (hdis j hj i hi).symm) hk_m
  have hv_m := (hp_m.2).1
  have T1 := zT_mk (s := s) hv_x hv_m hR hPx hDx hPm hDm hS
  refine lv_pop hx hb dL_law_351 rfl ?_
  refine lv_goto (tgt := 1965) hx hb dL_law_352 (by decide) ?_
  exact kk _ _ _ _ _ _ _ _ _ _ _ T1 (lv_sub hl [0, 1, 2, 3] rfl)
set_option maxHeartbeats 4000000 in
set_option maxRecDepth 100000 in
theorem lc_1 {p : Program} {e : Env} {s : State} {m : MethodId} {below : List Frame} {meth : Method} {c : Code} {l : Launch} {b L j : Nat} {xs : Nat → Int32} {D : va_G} {qx qm : Nat → Nat} {cx cm : Nat → ClassId} {ax vx am vm : Nat → Nat} {t9 : Nat} {H : Heap} {locs : List Loc} {ls : Array Slot} {F G I R I' R' : Nat → Nat → Int32} {J J' : Nat → Nat → Int64} (C : zLaw p s m meth c b L xs D qx qm cx cm ax vx am vm t9) (hj : j + 6 ≤ L) (T : zTw D qx qm cx cm s F G I R I' R' J J' H locs) (hl : lv_has ls 4 [(0, .ref b), (1, .ref (qx 0)), (2, .ref (qm 0)), (3, .int (nI j))]) (kk : ∀ (F G I R I' R' : Nat → Nat → Int32) (J J' : Nat → Nat → Int64) (H : Heap) (locs : List Loc) (ls : Array Slot), zTw D qx qm cx cm s F G I R I' R' J J' H locs → lv_has ls 4 [(0, .ref b), (1, .ref (qx 0)), (2, .ref (qm 0)), (3, .int (nI j))] → W p l e room_1 s m #[Value.ref b] below meth c H locs 600000 7302250 (lw_Z below #[Value.ref b] s) (F0 m 1965 ls [])) : W p l e room_1 s m #[Value.ref b] below meth c H locs 600000 7302250 (lw_Z below #[Value.ref b] s) (F0 m 355 ls []) := by
  obtain ⟨⟨hx, hb, hr, hml, hown, hts, hX, hbl, hlocks, hgv⟩, hKx, hKm, hdis, hL, hNx, hNm⟩ := id C
  have hown : s.vm.findClass "ReceiptLeftLaw" = some m.cls := hown
  have ht : ∀ w ∈ zT, w.before #[Value.ref b] s = true := fun w h => hts w (zT_lw w h)
  have hA : ∀ a, s.heap.size ≤ a → zLA s a := fun _ h => h
  have hbA : ¬ zLA s b := Nat.not_le.mpr hbl
  obtain ⟨hIx, hIm, hR, hPx, hDx, hPm, hDm, hS⟩ := T
  refine lv_aload_n hx hb dL_law_355 rfl (lv_at hl 1 rfl) ?_
  refine lv_aload_n hx hb dL_law_356 rfl (lv_at hl 0 rfl) ?_
  refine lv_iload_n hx hb dL_law_357 rfl (lv_at hl 3 rfl) ?_
  refine lv_iconst (v := nI 1) hx hb dL_law_358 (by decide +kernel) ?_
  refine lv_iadd hx hb dL_law_359 ?_
  refine z_eqi (y := nI (j + 1)) (nI_add j 1) ?_
  refine va_sld hx hb hX hbl hbA hS (vp_in_nI (by omega) (by omega)) dL_law_360 ?_
  refine z_eqi (y := xs (j + 1)) (congrArg xs (nI_clamp (by omega))) ?_
  refine z_callVi (k := 0) (As := [.int (xs (j + 1))]) (rest := []) hx hb hml hown ht (xk_X10_end l D qx cx F _ _ _ hIx (xs (j + 1))) hw_2_142 hmX10_end ⟨rfl, rfl⟩ (na := 1) rfl (by decide +kernel) ⟨Nat.le_of_ble_eq_true rfl, Nat.le_of_ble_eq_true rfl⟩ (by decide) rfl rfl hKx hPx hDx hS hA hl.1 rfl (Nat.le_of_ble_eq_true rfl) ⟨Nat.le_of_ble_eq_true rfl, Nat.le_of_ble_eq_true rfl⟩ dL_law_361 (fun r_x I_x R_x J_x H1 locs hp_x hPx hDx hS hz_x hk_x => ?_)
  have hPm := z_frame (q := qx) (n := 81) hPm hdis hk_x
  generalize H1 = H at hPm hPx hS ⊢
  have hv_x := hp_x.2
  refine lv_pop hx hb dL_law_364 rfl ?_
  refine lv_aload_n hx hb dL_law_365 rfl (lv_at hl 2 rfl) ?_
  refine lv_aload_n hx hb dL_law_366 rfl (lv_at hl 0 rfl) ?_
  refine lv_iload_n hx hb dL_law_367 rfl (lv_at hl 3 rfl) ?_
  refine lv_iconst (v := nI 1) hx hb dL_law_368 (by decide +kernel) ?_
  refine lv_iadd hx hb dL_law_369 ?_
  refine z_eqi (y := nI (j + 1)) (nI_add j 1) ?_
  refine va_sld hx hb hX hbl hbA hS (vp_in_nI (by omega) (by omega)) dL_law_370 ?_
  refine z_eqi (y := xs (j + 1)) (congrArg xs (nI_clamp (by omega))) ?_
  refine z_callVi (k := 0) (As := [.int (xs (j + 1))]) (rest := []) hx hb hml hown ht (mk_X11_end l D qm cm G _ _ _ hIm (xs (j + 1))) hw_6_97 hmX11_end ⟨rfl, rfl⟩ (na := 1) rfl (by decide +kernel) ⟨Nat.le_of_ble_eq_true rfl, Nat.le_of_ble_eq_true rfl⟩ (by decide) rfl rfl hKm hPm hDm hS hA hl.1 rfl (Nat.le_of_ble_eq_true rfl) ⟨Nat.le_of_ble_eq_true rfl, Nat.le_of_ble_eq_true rfl⟩ dL_law_371 (fun r_m I_m R_m J_m H1 locs hp_m hPm hDm hS hz_m hk_m => ?_)
  have hPx := z_frame (q := qm) (n := 25) hPx (fun i hi j hj => (hdis j hj i hi).symm) hk_m
  have hv_m := (hp_m.2).1
  have T1 := zT_mk (s := s) hv_x hv_m hR hPx hDx hPm hDm hS
  refine lv_pop hx hb dL_law_374 rfl ?_
  refine lv_goto (tgt := 1965) hx hb dL_law_375 (by decide) ?_
  exact kk _ _ _ _ _ _ _ _ _ _ _ T1 (lv_sub hl [0, 1, 2, 3] rfl)
set_option maxHeartbeats 4000000 in
set_option maxRecDepth 100000 in
theorem lc_2 {p : Program} {e : Env} {s : State} {m : MethodId} {below : List Frame} {meth : Method} {c : Code} {l : Launch} {b L j : Nat} {xs : Nat → Int32} {D : va_G} {qx qm : Nat → Nat} {cx cm : Nat → ClassId} {ax vx am vm : Nat → Nat} {t9 : Nat} {H : Heap} {locs : List Loc} {ls : Array Slot} {F G I R I' R' : Nat → Nat → Int32} {J J' : Nat → Nat → Int64} (C : zLaw p s m meth c b L xs D qx qm cx cm ax vx am vm t9) (hj : j + 6 ≤ L) (T : zTw D qx qm cx cm s F G I R I' R' J J' H locs) (hl : lv_has ls 4 [(0, .ref b), (1, .ref (qx 0)), (2, .ref (qm 0)), (3, .int (nI j))]) (kk : ∀ (F G I R I' R' : Nat → Nat → Int32) (J J' : Nat → Nat → Int64) (H : Heap) (locs : List Loc) (ls : Array Slot), zTw D qx qm cx cm s F G I R I' R' J J' H locs → lv_has ls 4 [(0, .ref b), (1, .ref (qx 0)), (2, .ref (qm 0)), (3, .int (nI j))] → W p l e room_1 s m #[Value.ref b] below meth c H locs 600000 7302250 (lw_Z below #[Value.ref b] s) (F0 m 1965 ls [])) : W p l e room_1 s m #[Value.ref b] below meth c H locs 600000 7302250 (lw_Z below #[Value.ref b] s) (F0 m 378 ls []) := by
  obtain ⟨⟨hx, hb, hr, hml, hown, hts, hX, hbl, hlocks, hgv⟩, hKx, hKm, hdis, hL, hNx, hNm⟩ := id C
  have hown : s.vm.findClass "ReceiptLeftLaw" = some m.cls := hown
  have ht : ∀ w ∈ zT, w.before #[Value.ref b] s = true := fun w h => hts w (zT_lw w h)
  have hA : ∀ a, s.heap.size ≤ a → zLA s a := fun _ h => h
  have hbA : ¬ zLA s b := Nat.not_le.mpr hbl
  obtain ⟨hIx, hIm, hR, hPx, hDx, hPm, hDm, hS⟩ := T
  refine lv_aload_n hx hb dL_law_378 rfl (lv_at hl 1 rfl) ?_
  refine z_cNVi (k := 0) (As := []) (rest := []) hx hb hml hown ht (xk_X10_city l D qx cx ax vx t9 F _ _ _ hIx ) hw_2_146 hmX10_city ⟨rfl, rfl⟩ (na := 0) rfl (by decide +kernel) ⟨Nat.le_of_ble_eq_true rfl, Nat.le_of_ble_eq_true rfl⟩ (by decide) rfl rfl hKx hPx hDx hS hA (zSS_c (Rs := zXRs) (t9 := t9) (fun _ _ _ => zXRs_c)) (zSS_l (Rs := zXRs) (t9 := t9) (fun _ _ _ => zXRs_w) hNx hDx hS) hl.1 rfl (Nat.le_of_ble_eq_true rfl) ⟨Nat.le_of_ble_eq_true rfl, Nat.le_of_ble_eq_true rfl⟩ dL_law_379 (fun r_x I_x R_x J_x H1 locs hp_x hPx hDx hS hz_x hk_x => ?_)
  have hPm := z_frame (q := qx) (n := 81) hPm hdis hk_x
  generalize H1 = H at hPm hPx hS ⊢
  have hv_x := hp_x
  refine lv_pop hx hb dL_law_382 rfl ?_
  refine lv_aload_n hx hb dL_law_383 rfl (lv_at hl 2 rfl) ?_
  refine z_cNVi (k := 0) (As := []) (rest := []) hx hb hml hown ht (mk_X11_city l D qm cm am vm t9 G _ _ _ hIm ) hw_6_105 hmX11_city ⟨rfl, rfl⟩ (na := 0) rfl (by decide +kernel) ⟨Nat.le_of_ble_eq_true rfl, Nat.le_of_ble_eq_true rfl⟩ (by decide) rfl rfl hKm hPm hDm hS hA (zSS_c (Rs := zMRs) (t9 := t9) (fun _ _ _ => zMRs_c)) (zSS_l (Rs := zMRs) (t9 := t9) (fun _ _ _ => zMRs_w) hNm hDm hS) hl.1 rfl (Nat.le_of_ble_eq_true rfl) ⟨Nat.le_of_ble_eq_true rfl, Nat.le_of_ble_eq_true rfl⟩ dL_law_384 (fun r_m I_m R_m J_m H1 locs hp_m hPm hDm hS hz_m hk_m => ?_)
  have hPx := z_frame (q := qm) (n := 25) hPx (fun i hi j hj => (hdis j hj i hi).symm) hk_m
  obtain ⟨w9, hv_m⟩ := hp_m
  have T1 := zT_mk (s := s) hv_x hv_m (zRel_w hR) hPx hDx hPm hDm hS
  refine lv_pop hx hb dL_law_387 rfl ?_
  refine lv_goto (tgt := 1965) hx hb dL_law_388 (by decide) ?_
  exact kk _ _ _ _ _ _ _ _ _ _ _ T1 (lv_sub hl [0, 1, 2, 3] rfl)
set_option maxHeartbeats 4000000 in
set_option maxRecDepth 100000 in
theorem lc_3 {p : Program} {e : Env} {s : State} {m : MethodId} {below : List Frame} {meth : Method} {c : Code} {l : Launch} {b L j : Nat} {xs : Nat → Int32} {D : va_G} {qx qm : Nat → Nat} {cx cm : Nat → ClassId} {ax vx am vm : Nat → Nat} {t9 : Nat} {H : Heap} {locs : List Loc} {ls : Array Slot} {F G I R I' R' : Nat → Nat → Int32} {J J' : Nat → Nat → Int64} (C : zLaw p s m meth c b L xs D qx qm cx cm ax vx am vm t9) (hj : j + 6 ≤ L) (T : zTw D qx qm cx cm s F G I R I' R' J J' H locs) (hl : lv_has ls 4 [(0, .ref b), (1, .ref (qx 0)), (2, .ref (qm 0)), (3, .int (nI j))]) (kk : ∀ (F G I R I' R' : Nat → Nat → Int32) (J J' : Nat → Nat → Int64) (H : Heap) (locs : List Loc) (ls : Array Slot), zTw D qx qm cx cm s F G I R I' R' J J' H locs → lv_has ls 4 [(0, .ref b), (1, .ref (qx 0)), (2, .ref (qm 0)), (3, .int (nI j))] → W p l e room_1 s m #[Value.ref b] below meth c H locs 600000 7302250 (lw_Z below #[Value.ref b] s) (F0 m 1965 ls [])) : W p l e room_1 s m #[Value.ref b] below meth c H locs 600000 7302250 (lw_Z below #[Value.ref b] s) (F0 m 391 ls []) := by
  obtain ⟨⟨hx, hb, hr, hml, hown, hts, hX, hbl, hlocks, hgv⟩, hKx, hKm, hdis, hL, hNx, hNm⟩ := id C
  have hown : s.vm.findClass "ReceiptLeftLaw" = some m.cls := hown
  have ht : ∀ w ∈ zT, w.before #[Value.ref b] s = true := fun w h => hts w (zT_lw w h)
  have hA : ∀ a, s.heap.size ≤ a → zLA s a := fun _ h => h
  have hbA : ¬ zLA s b := Nat.not_le.mpr hbl
  obtain ⟨hIx, hIm, hR, hPx, hDx, hPm, hDm, hS⟩ := T
  refine lv_aload_n hx hb dL_law_391 rfl (lv_at hl 1 rfl) ?_
  refine lv_aload_n hx hb dL_law_392 rfl (lv_at hl 0 rfl) ?_
  refine lv_iload_n hx hb dL_law_393 rfl (lv_at hl 3 rfl) ?_
  refine lv_iconst (v := nI 1) hx hb dL_law_394 (by decide +kernel) ?_
  refine lv_iadd hx hb dL_law_395 ?_
  refine z_eqi (y := nI (j + 1)) (nI_add j 1) ?_
  refine va_sld hx hb hX hbl hbA hS (vp_in_nI (by omega) (by omega)) dL_law_396 ?_
  refine z_eqi (y := xs (j + 1)) (congrArg xs (nI_clamp (by omega))) ?_
  refine z_callVi (k := 0) (As := [.int (xs (j + 1))]) (rest := []) hx hb hml hown ht (xk_X10_fault l D qx cx F _ _ _ hIx (xs (j + 1))) hw_3_51 hmX10_fault ⟨rfl, rfl⟩ (na := 1) rfl (by decide +kernel) ⟨Nat.le_of_ble_eq_true rfl, Nat.le_of_ble_eq_true rfl⟩ (by decide) rfl rfl hKx hPx hDx hS hA hl.1 rfl (Nat.le_of_ble_eq_true rfl) ⟨Nat.le_of_ble_eq_true rfl, Nat.le_of_ble_eq_true rfl⟩ dL_law_397 (fun r_x I_x R_x J_x H1 locs hp_x hPx hDx hS hz_x hk_x => ?_)
  have hPm := z_frame (q := qx) (n := 81) hPm hdis hk_x
  generalize H1 = H at hPm hPx hS ⊢
  have hv_x := z_stayx hIx (hp_x)
  refine lv_pop hx hb dL_law_400 rfl ?_
  refine lv_aload_n hx hb dL_law_401 rfl (lv_at hl 2 rfl) ?_
  refine lv_aload_n hx hb dL_law_402 rfl (lv_at hl 0 rfl) ?_
  refine lv_iload_n hx hb dL_law_403 rfl (lv_at hl 3 rfl) ?_
  refine lv_iconst (v := nI 1) hx hb dL_law_404 (by decide +kernel) ?_
  refine lv_iadd hx hb dL_law_405 ?_
  refine z_eqi (y := nI (j + 1)) (nI_add j 1) ?_
  refine va_sld hx hb hX hbl hbA hS (vp_in_nI (by omega) (by omega)) dL_law_406 ?_
  refine z_eqi (y := xs (j + 1)) (congrArg xs (nI_clamp (by omega))) ?_
  refine z_callVi (k := 0) (As := [.int (xs (j + 1))]) (rest := []) hx hb hml hown ht (mk_X11_fault l D qm cm G _ _ _ hIm (xs (j + 1))) hw_6_101 hmX11_fault ⟨rfl, rfl⟩ (na := 1) rfl (by decide +kernel) ⟨Nat.le_of_ble_eq_true rfl, Nat.le_of_ble_eq_true rfl⟩ (by decide) rfl rfl hKm hPm hDm hS hA hl.1 rfl (Nat.le_of_ble_eq_true rfl) ⟨Nat.le_of_ble_eq_true rfl, Nat.le_of_ble_eq_true rfl⟩ dL_law_407 (fun r_m I_m R_m J_m H1 locs hp_m hPm hDm hS hz_m hk_m => ?_)
  have hPx := z_frame (q := qm) (n := 25) hPx (fun i hi j hj => (hdis j hj i hi).symm) hk_m
  have hv_m := z_staym hIm (hp_m)
  have T1 := zT_mk (s := s) hv_x hv_m hR hPx hDx hPm hDm hS
  refine lv_pop hx hb dL_law_410 rfl ?_
  refine lv_goto (tgt := 1965) hx hb dL_law_411 (by decide) ?_
  exact kk _ _ _ _ _ _ _ _ _ _ _ T1 (lv_sub hl [0, 1, 2, 3] rfl)
set_option maxHeartbeats 4000000 in
set_option maxRecDepth 100000 in
theorem lc_4 {p : Program} {e : Env} {s : State} {m : MethodId} {below : List Frame} {meth : Method} {c : Code} {l : Launch} {b L j : Nat} {xs : Nat → Int32} {D : va_G} {qx qm : Nat → Nat} {cx cm : Nat → ClassId} {ax vx am vm : Nat → Nat} {t9 : Nat} {H : Heap} {locs : List Loc} {ls : Array Slot} {F G I R I' R' : Nat → Nat → Int32} {J J' : Nat → Nat → Int64} (C : zLaw p s m meth c b L xs D qx qm cx cm ax vx am vm t9) (hj : j + 6 ≤ L) (T : zTw D qx qm cx cm s F G I R I' R' J J' H locs) (hl : lv_has ls 4 [(0, .ref b), (1, .ref (qx 0)), (2, .ref (qm 0)), (3, .int (nI j))]) (kk : ∀ (F G I R I' R' : Nat → Nat → Int32) (J J' : Nat → Nat → Int64) (H : Heap) (locs : List Loc) (ls : Array Slot), zTw D qx qm cx cm s F G I R I' R' J J' H locs → lv_has ls 4 [(0, .ref b), (1, .ref (qx 0)), (2, .ref (qm 0)), (3, .int (nI j))] → W p l e room_1 s m #[Value.ref b] below meth c H locs 600000 7302250 (lw_Z below #[Value.ref b] s) (F0 m 1965 ls [])) : W p l e room_1 s m #[Value.ref b] below meth c H locs 600000 7302250 (lw_Z below #[Value.ref b] s) (F0 m 414 ls []) := by
  obtain ⟨⟨hx, hb, hr, hml, hown, hts, hX, hbl, hlocks, hgv⟩, hKx, hKm, hdis, hL, hNx, hNm⟩ := id C
  have hown : s.vm.findClass "ReceiptLeftLaw" = some m.cls := hown
  have ht : ∀ w ∈ zT, w.before #[Value.ref b] s = true := fun w h => hts w (zT_lw w h)
  have hA : ∀ a, s.heap.size ≤ a → zLA s a := fun _ h => h
  have hbA : ¬ zLA s b := Nat.not_le.mpr hbl
  obtain ⟨hIx, hIm, hR, hPx, hDx, hPm, hDm, hS⟩ := T
  refine lv_aload_n hx hb dL_law_414 rfl (lv_at hl 1 rfl) ?_
  refine lv_aload_n hx hb dL_law_415 rfl (lv_at hl 0 rfl) ?_
  refine lv_iload_n hx hb dL_law_416 rfl (lv_at hl 3 rfl) ?_
  refine lv_iconst (v := nI 1) hx hb dL_law_417 (by decide +kernel) ?_
  refine lv_iadd hx hb dL_law_418 ?_
  refine z_eqi (y := nI (j + 1)) (nI_add j 1) ?_
  refine va_sld hx hb hX hbl hbA hS (vp_in_nI (by omega) (by omega)) dL_law_419 ?_
  refine z_eqi (y := xs (j + 1)) (congrArg xs (nI_clamp (by omega))) ?_
  refine lv_aload_n hx hb dL_law_420 rfl (lv_at hl 0 rfl) ?_
  refine lv_iload_n hx hb dL_law_421 rfl (lv_at hl 3 rfl) ?_
  refine lv_iconst (v := nI 2) hx hb dL_law_422 (by decide +kernel) ?_
  refine lv_iadd hx hb dL_law_423 ?_
  refine z_eqi (y := nI (j + 2)) (nI_add j 2) ?_
  refine va_sld hx hb hX hbl hbA hS (vp_in_nI (by omega) (by omega)) dL_law_424 ?_
  refine z_eqi (y := xs (j + 2)) (congrArg xs (nI_clamp (by omega))) ?_
  refine z_callVi (k := 0) (As := [.int (xs (j + 1)), .int (xs (j + 2))]) (rest := []) hx hb hml hown ht (xk_X10_house l D qx cx F _ _ _ hIx (xs (j + 1)) (xs (j + 2))) hw_3_55 hmX10_house ⟨rfl, rfl⟩ (na := 2) rfl (by decide +kernel) ⟨Nat.le_of_ble_eq_true rfl, Nat.le_of_ble_eq_true rfl⟩ (by decide) rfl rfl hKx hPx hDx hS hA hl.1 rfl (Nat.le_of_ble_eq_true rfl) ⟨Nat.le_of_ble_eq_true rfl, Nat.le_of_ble_eq_true rfl⟩ dL_law_425 (fun r_x I_x R_x J_x H1 locs hp_x hPx hDx hS hz_x hk_x => ?_)
  have hPm := z_frame (q := qx) (n := 81) hPm hdis hk_x
  generalize H1 = H at hPm hPx hS ⊢
  have hv_x := z_stayx hIx (hp_x)
  refine lv_pop hx hb dL_law_428 rfl ?_
  refine lv_aload_n hx hb dL_law_429 rfl (lv_at hl 2 rfl) ?_
  refine lv_aload_n hx hb dL_law_430 rfl (lv_at hl 0 rfl) ?_
  refine lv_iload_n hx hb dL_law_431 rfl (lv_at hl 3 rfl) ?_
  refine lv_iconst (v := nI 1) hx hb dL_law_432 (by decide +kernel) ?_
  refine lv_iadd hx hb dL_law_433 ?_
  refine z_eqi (y := nI (j + 1)) (nI_add j 1) ?_
  refine va_sld hx hb hX hbl hbA hS (vp_in_nI (by omega) (by omega)) dL_law_434 ?_
  refine z_eqi (y := xs (j + 1)) (congrArg xs (nI_clamp (by omega))) ?_
  refine lv_aload_n hx hb dL_law_435 rfl (lv_at hl 0 rfl) ?_
  refine lv_iload_n hx hb dL_law_436 rfl (lv_at hl 3 rfl) ?_
  refine lv_iconst (v := nI 2) hx hb dL_law_437 (by decide +kernel) ?_
  refine lv_iadd hx hb dL_law_438 ?_
  refine z_eqi (y := nI (j + 2)) (nI_add j 2) ?_
  refine va_sld hx hb hX hbl hbA hS (vp_in_nI (by omega) (by omega)) dL_law_439 ?_
  refine z_eqi (y := xs (j + 2)) (congrArg xs (nI_clamp (by omega))) ?_
  refine z_callVi (k := 0) (As := [.int (xs (j + 1)), .int (xs (j + 2))]) (rest := []) hx hb hml hown ht (mk_X11_house l D qm cm G _ _ _ hIm (xs (j + 1)) (xs (j + 2))) hw_6_172 hmX11_house ⟨rfl, rfl⟩ (na := 2) rfl (by decide +kernel) ⟨Nat.le_of_ble_eq_true rfl, Nat.le_of_ble_eq_true rfl⟩ (by decide) rfl rfl hKm hPm hDm hS hA hl.1 rfl (Nat.le_of_ble_eq_true rfl) ⟨Nat.le_of_ble_eq_true rfl, Nat.le_of_ble_eq_true rfl⟩ dL_law_440 (fun r_m I_m R_m J_m H1 locs hp_m hPm hDm hS hz_m hk_m => ?_)
  have hPx := z_frame (q := qm) (n := 25) hPx (fun i hi j hj => (hdis j hj i hi).symm) hk_m
  have hv_m := (hp_m).1
  have T1 := zT_mk (s := s) hv_x hv_m hR hPx hDx hPm hDm hS
  refine lv_pop hx hb dL_law_443 rfl ?_
  refine lv_goto (tgt := 1965) hx hb dL_law_444 (by decide) ?_
  exact kk _ _ _ _ _ _ _ _ _ _ _ T1 (lv_sub hl [0, 1, 2, 3] rfl)
set_option maxHeartbeats 4000000 in
set_option maxRecDepth 100000 in
theorem lc_5 {p : Program} {e : Env} {s : State} {m : MethodId} {below : List Frame} {meth : Method} {c : Code} {l : Launch} {b L j : Nat} {xs : Nat → Int32} {D : va_G} {qx qm : Nat → Nat} {cx cm : Nat → ClassId} {ax vx am vm : Nat → Nat} {t9 : Nat} {H : Heap} {locs : List Loc} {ls : Array Slot} {F G I R I' R' : Nat → Nat → Int32} {J J' : Nat → Nat → Int64} (C : zLaw p s m meth c b L xs D qx qm cx cm ax vx am vm t9) (hj : j + 6 ≤ L) (T : zTw D qx qm cx cm s F G I R I' R' J J' H locs) (hl : lv_has ls 4 [(0, .ref b), (1, .ref (qx 0)), (2, .ref (qm 0)), (3, .int (nI j))]) (kk : ∀ (F G I R I' R' : Nat → Nat → Int32) (J J' : Nat → Nat → Int64) (H : Heap) (locs : List Loc) (ls : Array Slot), zTw D qx qm cx cm s F G I R I' R' J J' H locs → lv_has ls 4 [(0, .ref b), (1, .ref (qx 0)), (2, .ref (qm 0)), (3, .int (nI j))] → W p l e room_1 s m #[Value.ref b] below meth c H locs 600000 7302250 (lw_Z below #[Value.ref b] s) (F0 m 1965 ls [])) : W p l e room_1 s m #[Value.ref b] below meth c H locs 600000 7302250 (lw_Z below #[Value.ref b] s) (F0 m 447 ls []) := by
  obtain ⟨⟨hx, hb, hr, hml, hown, hts, hX, hbl, hlocks, hgv⟩, hKx, hKm, hdis, hL, hNx, hNm⟩ := id C
  have hown : s.vm.findClass "ReceiptLeftLaw" = some m.cls := hown
  have ht : ∀ w ∈ zT, w.before #[Value.ref b] s = true := fun w h => hts w (zT_lw w h)
  have hA : ∀ a, s.heap.size ≤ a → zLA s a := fun _ h => h
  have hbA : ¬ zLA s b := Nat.not_le.mpr hbl
  obtain ⟨hIx, hIm, hR, hPx, hDx, hPm, hDm, hS⟩ := T
  refine lv_aload_n hx hb dL_law_447 rfl (lv_at hl 1 rfl) ?_
  refine lv_aload_n hx hb dL_law_448 rfl (lv_at hl 0 rfl) ?_
  refine lv_iload_n hx hb dL_law_449 rfl (lv_at hl 3 rfl) ?_
  refine lv_iconst (v := nI 1) hx hb dL_law_450 (by decide +kernel) ?_
  refine lv_iadd hx hb dL_law_451 ?_
  refine z_eqi (y := nI (j + 1)) (nI_add j 1) ?_
  refine va_sld hx hb hX hbl hbA hS (vp_in_nI (by omega) (by omega)) dL_law_452 ?_
  refine z_eqi (y := xs (j + 1)) (congrArg xs (nI_clamp (by omega))) ?_
  refine lv_aload_n hx hb dL_law_453 rfl (lv_at hl 0 rfl) ?_
  refine lv_iload_n hx hb dL_law_454 rfl (lv_at hl 3 rfl) ?_
  refine lv_iconst (v := nI 2) hx hb dL_law_455 (by decide +kernel) ?_
  refine lv_iadd hx hb dL_law_456 ?_
  refine z_eqi (y := nI (j + 2)) (nI_add j 2) ?_
  refine va_sld hx hb hX hbl hbA hS (vp_in_nI (by omega) (by omega)) dL_law_457 ?_
  refine z_eqi (y := xs (j + 2)) (congrArg xs (nI_clamp (by omega))) ?_
  refine z_callVi (k := 0) (As := [.int (xs (j + 1)), .int (xs (j + 2))]) (rest := []) hx hb hml hown ht (xk_X10_thing l D qx cx F _ _ _ hIx (xs (j + 1)) (xs (j + 2))) hw_3_83 hmX10_thing ⟨rfl, rfl⟩ (na := 2) rfl (by decide +kernel) ⟨Nat.le_of_ble_eq_true rfl, Nat.le_of_ble_eq_true rfl⟩ (by decide) rfl rfl hKx hPx hDx hS hA hl.1 rfl (Nat.le_of_ble_eq_true rfl) ⟨Nat.le_of_ble_eq_true rfl, Nat.le_of_ble_eq_true rfl⟩ dL_law_458 (fun r_x I_x R_x J_x H1 locs hp_x hPx hDx hS hz_x hk_x => ?_)
  have hPm := z_frame (q := qx) (n := 81) hPm hdis hk_x
  generalize H1 = H at hPm hPx hS ⊢
  have hv_x := z_stayx hIx (hp_x)
  refine lv_pop hx hb dL_law_461 rfl ?_
  refine lv_aload_n hx hb dL_law_462 rfl (lv_at hl 2 rfl) ?_
  refine lv_aload_n hx hb dL_law_463 rfl (lv_at hl 0 rfl) ?_
  refine lv_iload_n hx hb dL_law_464 rfl (lv_at hl 3 rfl) ?_
  refine lv_iconst (v := nI 1) hx hb dL_law_465 (by decide +kernel) ?_
  refine lv_iadd hx hb dL_law_466 ?_
  refine z_eqi (y := nI (j + 1)) (nI_add j 1) ?_
  refine va_sld hx hb hX hbl hbA hS (vp_in_nI (by omega) (by omega)) dL_law_467 ?_
  refine z_eqi (y := xs (j + 1)) (congrArg xs (nI_clamp (by omega))) ?_
  refine lv_aload_n hx hb dL_law_468 rfl (lv_at hl 0 rfl) ?_
  refine lv_iload_n hx hb dL_law_469 rfl (lv_at hl 3 rfl) ?_
  refine lv_iconst (v := nI 2) hx hb dL_law_470 (by decide +kernel) ?_
  refine lv_iadd hx hb dL_law_471 ?_
  refine z_eqi (y := nI (j + 2)) (nI_add j 2) ?_
  refine va_sld hx hb hX hbl hbA hS (vp_in_nI (by omega) (by omega)) dL_law_472 ?_
  refine z_eqi (y := xs (j + 2)) (congrArg xs (nI_clamp (by omega))) ?_
  refine z_callVi (k := 0) (As := [.int (xs (j + 1)), .int (xs (j + 2))]) (rest := []) hx hb hml hown ht (mk_X11_thing l D qm cm G _ _ _ hIm (xs (j + 1)) (xs (j + 2))) hw_6_234 hmX11_thing ⟨rfl, rfl⟩ (na := 2) rfl (by decide +kernel) ⟨Nat.le_of_ble_eq_true rfl, Nat.le_of_ble_eq_true rfl⟩ (by decide) rfl rfl hKm hPm hDm hS hA hl.1 rfl (Nat.le_of_ble_eq_true rfl) ⟨Nat.le_of_ble_eq_true rfl, Nat.le_of_ble_eq_true rfl⟩ dL_law_473 (fun r_m I_m R_m J_m H1 locs hp_m hPm hDm hS hz_m hk_m => ?_)
  have hPx := z_frame (q := qm) (n := 25) hPx (fun i hi j hj => (hdis j hj i hi).symm) hk_m
  have hv_m := (hp_m).1
  have T1 := zT_mk (s := s) hv_x hv_m hR hPx hDx hPm hDm hS
  refine lv_pop hx hb dL_law_476 rfl ?_
  refine lv_goto (tgt := 1965) hx hb dL_law_477 (by decide) ?_
  exact kk _ _ _ _ _ _ _ _ _ _ _ T1 (lv_sub hl [0, 1, 2, 3] rfl)
set_option maxHeartbeats 4000000 in
set_option maxRecDepth 100000 in
theorem lc_6 {p : Program} {e : Env} {s : State} {m : MethodId} {below : List Frame} {meth : Method} {c : Code} {l : Launch} {b L j : Nat} {xs : Nat → Int32} {D : va_G} {qx qm : Nat → Nat} {cx cm : Nat → ClassId} {ax vx am vm : Nat → Nat} {t9 : Nat} {H : Heap} {locs : List Loc} {ls : Array Slot} {F G I R I' R' : Nat → Nat → Int32} {J J' : Nat → Nat → Int64} (C : zLaw p s m meth c b L xs D qx qm cx cm ax vx am vm t9) (hj : j + 6 ≤ L) (T : zTw D qx qm cx cm s F G I R I' R' J J' H locs) (hl : lv_has ls 4 [(0, .ref b), (1, .ref (qx 0)), (2, .ref (qm 0)), (3, .int (nI j))]) (kk : ∀ (F G I R I' R' : Nat → Nat → Int32) (J J' : Nat → Nat → Int64) (H : Heap) (locs : List Loc) (ls : Array Slot), zTw D qx qm cx cm s F G I R I' R' J J' H locs → lv_has ls 4 [(0, .ref b), (1, .ref (qx 0)), (2, .ref (qm 0)), (3, .int (nI j))] → W p l e room_1 s m #[Value.ref b] below meth c H locs 600000 7302250 (lw_Z below #[Value.ref b] s) (F0 m 1965 ls [])) : W p l e room_1 s m #[Value.ref b] below meth c H locs 600000 7302250 (lw_Z below #[Value.ref b] s) (F0 m 480 ls []) := by
  obtain ⟨⟨hx, hb, hr, hml, hown, hts, hX, hbl, hlocks, hgv⟩, hKx, hKm, hdis, hL, hNx, hNm⟩ := id C
  have hown : s.vm.findClass "ReceiptLeftLaw" = some m.cls := hown
  have ht : ∀ w ∈ zT, w.before #[Value.ref b] s = true := fun w h => hts w (zT_lw w h)
  have hA : ∀ a, s.heap.size ≤ a → zLA s a := fun _ h => h
  have hbA : ¬ zLA s b := Nat.not_le.mpr hbl
  obtain ⟨hIx, hIm, hR, hPx, hDx, hPm, hDm, hS⟩ := T
  refine lv_aload_n hx hb dL_law_480 rfl (lv_at hl 1 rfl) ?_
  refine lv_aload_n hx hb dL_law_481 rfl (lv_at hl 0 rfl) ?_
  refine lv_iload_n hx hb dL_law_482 rfl (lv_at hl 3 rfl) ?_
  refine lv_iconst (v := nI 1) hx hb dL_law_483 (by decide +kernel) ?_
  refine lv_iadd hx hb dL_law_484 ?_
  refine z_eqi (y := nI (j + 1)) (nI_add j 1) ?_
  refine va_sld hx hb hX hbl hbA hS (vp_in_nI (by omega) (by omega)) dL_law_485 ?_
  refine z_eqi (y := xs (j + 1)) (congrArg xs (nI_clamp (by omega))) ?_
  refine lv_aload_n hx hb dL_law_486 rfl (lv_at hl 0 rfl) ?_
  refine lv_iload_n hx hb dL_law_487 rfl (lv_at hl 3 rfl) ?_
  refine lv_iconst (v := nI 2) hx hb dL_law_488 (by decide +kernel) ?_
  refine lv_iadd hx hb dL_law_489 ?_
  refine z_eqi (y := nI (j + 2)) (nI_add j 2) ?_
  refine va_sld hx hb hX hbl hbA hS (vp_in_nI (by omega) (by omega)) dL_law_490 ?_
  refine z_eqi (y := xs (j + 2)) (congrArg xs (nI_clamp (by omega))) ?_
  refine z_callVi (k := 0) (As := [.int (xs (j + 1)), .int (xs (j + 2))]) (rest := []) hx hb hml hown ht (xk_X10_value l D qx cx F _ _ _ hIx (xs (j + 1)) (xs (j + 2))) hw_3_91 hmX10_value ⟨rfl, rfl⟩ (na := 2) rfl (by decide +kernel) ⟨Nat.le_of_ble_eq_true rfl, Nat.le_of_ble_eq_true rfl⟩ (by decide) rfl rfl hKx hPx hDx hS hA hl.1 rfl (Nat.le_of_ble_eq_true rfl) ⟨Nat.le_of_ble_eq_true rfl, Nat.le_of_ble_eq_true rfl⟩ dL_law_491 (fun r_x I_x R_x J_x H1 locs hp_x hPx hDx hS hz_x hk_x => ?_)
  have hPm := z_frame (q := qx) (n := 81) hPm hdis hk_x
  generalize H1 = H at hPm hPx hS ⊢
  have hv_x := z_stayx hIx (hp_x)
  refine lv_pop hx hb dL_law_494 rfl ?_
  refine lv_aload_n hx hb dL_law_495 rfl (lv_at hl 2 rfl) ?_
  refine lv_aload_n hx hb dL_law_496 rfl (lv_at hl 0 rfl) ?_
  refine lv_iload_n hx hb dL_law_497 rfl (lv_at hl 3 rfl) ?_
  refine lv_iconst (v := nI 1) hx hb dL_law_498 (by decide +kernel) ?_
  refine lv_iadd hx hb dL_law_499 ?_
  refine z_eqi (y := nI (j + 1)) (nI_add j 1) ?_
  refine va_sld hx hb hX hbl hbA hS (vp_in_nI (by omega) (by omega)) dL_law_500 ?_
  refine z_eqi (y := xs (j + 1)) (congrArg xs (nI_clamp (by omega))) ?_
  refine lv_aload_n hx hb dL_law_501 rfl (lv_at hl 0 rfl) ?_
  refine lv_iload_n hx hb dL_law_502 rfl (lv_at hl 3 rfl) ?_
  refine lv_iconst (v := nI 2) hx hb dL_law_503 (by decide +kernel) ?_
  refine lv_iadd hx hb dL_law_504 ?_
  refine z_eqi (y := nI (j + 2)) (nI_add j 2) ?_
  refine va_sld hx hb hX hbl hbA hS (vp_in_nI (by omega) (by omega)) dL_law_505 ?_
  refine z_eqi (y := xs (j + 2)) (congrArg xs (nI_clamp (by omega))) ?_
  refine z_callVi (k := 0) (As := [.int (xs (j + 1)), .int (xs (j + 2))]) (rest := []) hx hb hml hown ht (mk_X11_value l D qm cm G _ _ _ hIm (xs (j + 1)) (xs (j + 2))) hw_7_2 hmX11_value ⟨rfl, rfl⟩ (na := 2) rfl (by decide +kernel) ⟨Nat.le_of_ble_eq_true rfl, Nat.le_of_ble_eq_true rfl⟩ (by decide) rfl rfl hKm hPm hDm hS hA hl.1 rfl (Nat.le_of_ble_eq_true rfl) ⟨Nat.le_of_ble_eq_true rfl, Nat.le_of_ble_eq_true rfl⟩ dL_law_506 (fun r_m I_m R_m J_m H1 locs hp_m hPm hDm hS hz_m hk_m => ?_)
  have hPx := z_frame (q := qm) (n := 25) hPx (fun i hi j hj => (hdis j hj i hi).symm) hk_m
  have hv_m := z_staym hIm (hp_m)
  have T1 := zT_mk (s := s) hv_x hv_m hR hPx hDx hPm hDm hS
  refine lv_pop hx hb dL_law_509 rfl ?_
  refine lv_goto (tgt := 1965) hx hb dL_law_510 (by decide) ?_
  exact kk _ _ _ _ _ _ _ _ _ _ _ T1 (lv_sub hl [0, 1, 2, 3] rfl)
set_option maxHeartbeats 4000000 in
set_option maxRecDepth 100000 in
theorem lc_7 {p : Program} {e : Env} {s : State} {m : MethodId} {below : List Frame} {meth : Method} {c : Code} {l : Launch} {b L j : Nat} {xs : Nat → Int32} {D : va_G} {qx qm : Nat → Nat} {cx cm : Nat → ClassId} {ax vx am vm : Nat → Nat} {t9 : Nat} {H : Heap} {locs : List Loc} {ls : Array Slot} {F G I R I' R' : Nat → Nat → Int32} {J J' : Nat → Nat → Int64} (C : zLaw p s m meth c b L xs D qx qm cx cm ax vx am vm t9) (hj : j + 6 ≤ L) (T : zTw D qx qm cx cm s F G I R I' R' J J' H locs) (hl : lv_has ls 4 [(0, .ref b), (1, .ref (qx 0)), (2, .ref (qm 0)), (3, .int (nI j))]) (kk : ∀ (F G I R I' R' : Nat → Nat → Int32) (J J' : Nat → Nat → Int64) (H : Heap) (locs : List Loc) (ls : Array Slot), zTw D qx qm cx cm s F G I R I' R' J J' H locs → lv_has ls 4 [(0, .ref b), (1, .ref (qx 0)), (2, .ref (qm 0)), (3, .int (nI j))] → W p l e room_1 s m #[Value.ref b] below meth c H locs 600000 7302250 (lw_Z below #[Value.ref b] s) (F0 m 1965 ls [])) : W p l e room_1 s m #[Value.ref b] below meth c H locs 600000 7302250 (lw_Z below #[Value.ref b] s) (F0 m 513 ls []) := by
  obtain ⟨⟨hx, hb, hr, hml, hown, hts, hX, hbl, hlocks, hgv⟩, hKx, hKm, hdis, hL, hNx, hNm⟩ := id C
  have hown : s.vm.findClass "ReceiptLeftLaw" = some m.cls := hown
  have ht : ∀ w ∈ zT, w.before #[Value.ref b] s = true := fun w h => hts w (zT_lw w h)
  have hA : ∀ a, s.heap.size ≤ a → zLA s a := fun _ h => h
  have hbA : ¬ zLA s b := Nat.not_le.mpr hbl
  obtain ⟨hIx, hIm, hR, hPx, hDx, hPm, hDm, hS⟩ := T
  refine lv_aload_n hx hb dL_law_513 rfl (lv_at hl 1 rfl) ?_
  refine lv_aload_n hx hb dL_law_514 rfl (lv_at hl 0 rfl) ?_
  refine lv_iload_n hx hb dL_law_515 rfl (lv_at hl 3 rfl) ?_
  refine lv_iconst (v := nI 1) hx hb dL_law_516 (by decide +kernel) ?_
  refine lv_iadd hx hb dL_law_517 ?_
  refine z_eqi (y := nI (j + 1)) (nI_add j 1) ?_
  refine va_sld hx hb hX hbl hbA hS (vp_in_nI (by omega) (by omega)) dL_law_518 ?_
  refine z_eqi (y := xs (j + 1)) (congrArg xs (nI_clamp (by omega))) ?_
  refine lv_aload_n hx hb dL_law_519 rfl (lv_at hl 0 rfl) ?_
  refine lv_iload_n hx hb dL_law_520 rfl (lv_at hl 3 rfl) ?_
  refine lv_iconst (v := nI 2) hx hb dL_law_521 (by decide +kernel) ?_
  refine lv_iadd hx hb dL_law_522 ?_
  refine z_eqi (y := nI (j + 2)) (nI_add j 2) ?_
  refine va_sld hx hb hX hbl hbA hS (vp_in_nI (by omega) (by omega)) dL_law_523 ?_
  refine z_eqi (y := xs (j + 2)) (congrArg xs (nI_clamp (by omega))) ?_
  refine z_callVi (k := 0) (As := [.int (xs (j + 1)), .int (xs (j + 2))]) (rest := []) hx hb hml hown ht (xk_X10_paper l D qx cx F _ _ _ hIx (xs (j + 1)) (xs (j + 2))) hw_3_103 hmX10_paper ⟨rfl, rfl⟩ (na := 2) rfl (by decide +kernel) ⟨Nat.le_of_ble_eq_true rfl, Nat.le_of_ble_eq_true rfl⟩ (by decide) rfl rfl hKx hPx hDx hS hA hl.1 rfl (Nat.le_of_ble_eq_true rfl) ⟨Nat.le_of_ble_eq_true rfl, Nat.le_of_ble_eq_true rfl⟩ dL_law_524 (fun r_x I_x R_x J_x H1 locs hp_x hPx hDx hS hz_x hk_x => ?_)
  have hPm := z_frame (q := qx) (n := 81) hPm hdis hk_x
  generalize H1 = H at hPm hPx hS ⊢
  have hv_x := z_stayx hIx (hp_x)
  refine lv_pop hx hb dL_law_527 rfl ?_
  refine lv_aload_n hx hb dL_law_528 rfl (lv_at hl 2 rfl) ?_
  refine lv_aload_n hx hb dL_law_529 rfl (lv_at hl 0 rfl) ?_
  refine lv_iload_n hx hb dL_law_530 rfl (lv_at hl 3 rfl) ?_
  refine lv_iconst (v := nI 1) hx hb dL_law_531 (by decide +kernel) ?_
  refine lv_iadd hx hb dL_law_532 ?_
  refine z_eqi (y := nI (j + 1)) (nI_add j 1) ?_
  refine va_sld hx hb hX hbl hbA hS (vp_in_nI (by omega) (by omega)) dL_law_533 ?_
  refine z_eqi (y := xs (j + 1)) (congrArg xs (nI_clamp (by omega))) ?_
  refine lv_aload_n hx hb dL_law_534 rfl (lv_at hl 0 rfl) ?_
  refine lv_iload_n hx hb dL_law_535 rfl (lv_at hl 3 rfl) ?_
  refine lv_iconst (v := nI 2) hx hb dL_law_536 (by decide +kernel) ?_
  refine lv_iadd hx hb dL_law_537 ?_
  refine z_eqi (y := nI (j + 2)) (nI_add j 2) ?_
  refine va_sld hx hb hX hbl hbA hS (vp_in_nI (by omega) (by omega)) dL_law_538 ?_
  refine z_eqi (y := xs (j + 2)) (congrArg xs (nI_clamp (by omega))) ?_
  refine z_callVi (k := 0) (As := [.int (xs (j + 1)), .int (xs (j + 2))]) (rest := []) hx hb hml hown ht (mk_X11_paper l D qm cm G _ _ _ hIm (xs (j + 1)) (xs (j + 2))) hw_7_14 hmX11_paper ⟨rfl, rfl⟩ (na := 2) rfl (by decide +kernel) ⟨Nat.le_of_ble_eq_true rfl, Nat.le_of_ble_eq_true rfl⟩ (by decide) rfl rfl hKm hPm hDm hS hA hl.1 rfl (Nat.le_of_ble_eq_true rfl) ⟨Nat.le_of_ble_eq_true rfl, Nat.le_of_ble_eq_true rfl⟩ dL_law_539 (fun r_m I_m R_m J_m H1 locs hp_m hPm hDm hS hz_m hk_m => ?_)
  have hPx := z_frame (q := qm) (n := 25) hPx (fun i hi j hj => (hdis j hj i hi).symm) hk_m
  have hv_m := (hp_m).1
  have T1 := zT_mk (s := s) hv_x hv_m hR hPx hDx hPm hDm hS
  refine lv_pop hx hb dL_law_542 rfl ?_
  refine lv_goto (tgt := 1965) hx hb dL_law_543 (by decide) ?_
  exact kk _ _ _ _ _ _ _ _ _ _ _ T1 (lv_sub hl [0, 1, 2, 3] rfl)
set_option maxHeartbeats 4000000 in
set_option maxRecDepth 100000 in
theorem lc_8 {p : Program} {e : Env} {s : State} {m : MethodId} {below : List Frame} {meth : Method} {c : Code} {l : Launch} {b L j : Nat} {xs : Nat → Int32} {D : va_G} {qx qm : Nat → Nat} {cx cm : Nat → ClassId} {ax vx am vm : Nat → Nat} {t9 : Nat} {H : Heap} {locs : List Loc} {ls : Array Slot} {F G I R I' R' : Nat → Nat → Int32} {J J' : Nat → Nat → Int64} (C : zLaw p s m meth c b L xs D qx qm cx cm ax vx am vm t9) (hj : j + 6 ≤ L) (T : zTw D qx qm cx cm s F G I R I' R' J J' H locs) (hl : lv_has ls 4 [(0, .ref b), (1, .ref (qx 0)), (2, .ref (qm 0)), (3, .int (nI j))]) (kk : ∀ (F G I R I' R' : Nat → Nat → Int32) (J J' : Nat → Nat → Int64) (H : Heap) (locs : List Loc) (ls : Array Slot), zTw D qx qm cx cm s F G I R I' R' J J' H locs → lv_has ls 4 [(0, .ref b), (1, .ref (qx 0)), (2, .ref (qm 0)), (3, .int (nI j))] → W p l e room_1 s m #[Value.ref b] below meth c H locs 600000 7302250 (lw_Z below #[Value.ref b] s) (F0 m 1965 ls [])) : W p l e room_1 s m #[Value.ref b] below meth c H locs 600000 7302250 (lw_Z below #[Value.ref b] s) (F0 m 546 ls []) := by
  obtain ⟨⟨hx, hb, hr, hml, hown, hts, hX, hbl, hlocks, hgv⟩, hKx, hKm, hdis, hL, hNx, hNm⟩ := id C
  have hown : s.vm.findClass "ReceiptLeftLaw" = some m.cls := hown
  have ht : ∀ w ∈ zT, w.before #[Value.ref b] s = true := fun w h => hts w (zT_lw w h)
  have hA : ∀ a, s.heap.size ≤ a → zLA s a := fun _ h => h
  have hbA : ¬ zLA s b := Nat.not_le.mpr hbl
  obtain ⟨hIx, hIm, hR, hPx, hDx, hPm, hDm, hS⟩ := T
  refine lv_aload_n hx hb dL_law_546 rfl (lv_at hl 1 rfl) ?_
  refine lv_aload_n hx hb dL_law_547 rfl (lv_at hl 0 rfl) ?_
  refine lv_iload_n hx hb dL_law_548 rfl (lv_at hl 3 rfl) ?_
  refine lv_iconst (v := nI 1) hx hb dL_law_549 (by decide +kernel) ?_
  refine lv_iadd hx hb dL_law_550 ?_
  refine z_eqi (y := nI (j + 1)) (nI_add j 1) ?_
  refine va_sld hx hb hX hbl hbA hS (vp_in_nI (by omega) (by omega)) dL_law_551 ?_
  refine z_eqi (y := xs (j + 1)) (congrArg xs (nI_clamp (by omega))) ?_
  refine z_callVi (k := 0) (As := [.int (xs (j + 1))]) (rest := []) hx hb hml hown ht (xk_X10_price l D qx cx F _ _ _ hIx (xs (j + 1))) hw_3_111 hmX10_price ⟨rfl, rfl⟩ (na := 1) rfl (by decide +kernel) ⟨Nat.le_of_ble_eq_true rfl, Nat.le_of_ble_eq_true rfl⟩ (by decide) rfl rfl hKx hPx hDx hS hA hl.1 rfl (Nat.le_of_ble_eq_true rfl) ⟨Nat.le_of_ble_eq_true rfl, Nat.le_of_ble_eq_true rfl⟩ dL_law_552 (fun r_x I_x R_x J_x H1 locs hp_x hPx hDx hS hz_x hk_x => ?_)
  have hPm := z_frame (q := qx) (n := 81) hPm hdis hk_x
  generalize H1 = H at hPm hPx hS ⊢
  have hv_x := z_stayx hIx (hp_x)
  refine lv_pop hx hb dL_law_555 rfl ?_
  refine lv_aload_n hx hb dL_law_556 rfl (lv_at hl 2 rfl) ?_
  refine lv_aload_n hx hb dL_law_557 rfl (lv_at hl 0 rfl) ?_
  refine lv_iload_n hx hb dL_law_558 rfl (lv_at hl 3 rfl) ?_
  refine lv_iconst (v := nI 1) hx hb dL_law_559 (by decide +kernel) ?_
  refine lv_iadd hx hb dL_law_560 ?_
  refine z_eqi (y := nI (j + 1)) (nI_add j 1) ?_
  refine va_sld hx hb hX hbl hbA hS (vp_in_nI (by omega) (by omega)) dL_law_561 ?_
  refine z_eqi (y := xs (j + 1)) (congrArg xs (nI_clamp (by omega))) ?_
  refine z_callVi (k := 0) (As := [.int (xs (j + 1))]) (rest := []) hx hb hml hown ht (mk_X11_price l D qm cm G _ _ _ hIm (xs (j + 1))) hw_7_22 hmX11_price ⟨rfl, rfl⟩ (na := 1) rfl (by decide +kernel) ⟨Nat.le_of_ble_eq_true rfl, Nat.le_of_ble_eq_true rfl⟩ (by decide) rfl rfl hKm hPm hDm hS hA hl.1 rfl (Nat.le_of_ble_eq_true rfl) ⟨Nat.le_of_ble_eq_true rfl, Nat.le_of_ble_eq_true rfl⟩ dL_law_562 (fun r_m I_m R_m J_m H1 locs hp_m hPm hDm hS hz_m hk_m => ?_)
  have hPx := z_frame (q := qm) (n := 25) hPx (fun i hi j hj => (hdis j hj i hi).symm) hk_m
  have hv_m := (hp_m).1
  have T1 := zT_mk (s := s) hv_x hv_m hR hPx hDx hPm hDm hS
  refine lv_pop hx hb dL_law_565 rfl ?_
  refine lv_goto (tgt := 1965) hx hb dL_law_566 (by decide) ?_
  exact kk _ _ _ _ _ _ _ _ _ _ _ T1 (lv_sub hl [0, 1, 2, 3] rfl)
set_option maxHeartbeats 4000000 in
set_option maxRecDepth 100000 in
theorem lc_9 {p : Program} {e : Env} {s : State} {m : MethodId} {below : List Frame} {meth : Method} {c : Code} {l : Launch} {b L j : Nat} {xs : Nat → Int32} {D : va_G} {qx qm : Nat → Nat} {cx cm : Nat → ClassId} {ax vx am vm : Nat → Nat} {t9 : Nat} {H : Heap} {locs : List Loc} {ls : Array Slot} {F G I R I' R' : Nat → Nat → Int32} {J J' : Nat → Nat → Int64} (C : zLaw p s m meth c b L xs D qx qm cx cm ax vx am vm t9) (hj : j + 6 ≤ L) (T : zTw D qx qm cx cm s F G I R I' R' J J' H locs) (hl : lv_has ls 4 [(0, .ref b), (1, .ref (qx 0)), (2, .ref (qm 0)), (3, .int (nI j))]) (kk : ∀ (F G I R I' R' : Nat → Nat → Int32) (J J' : Nat → Nat → Int64) (H : Heap) (locs : List Loc) (ls : Array Slot), zTw D qx qm cx cm s F G I R I' R' J J' H locs → lv_has ls 4 [(0, .ref b), (1, .ref (qx 0)), (2, .ref (qm 0)), (3, .int (nI j))] → W p l e room_1 s m #[Value.ref b] below meth c H locs 600000 7302250 (lw_Z below #[Value.ref b] s) (F0 m 1965 ls [])) : W p l e room_1 s m #[Value.ref b] below meth c H locs 600000 7302250 (lw_Z below #[Value.ref b] s) (F0 m 569 ls []) := by
  obtain ⟨⟨hx, hb, hr, hml, hown, hts, hX, hbl, hlocks, hgv⟩, hKx, hKm, hdis, hL, hNx, hNm⟩ := id C
  have hown : s.vm.findClass "ReceiptLeftLaw" = some m.cls := hown
  have ht : ∀ w ∈ zT, w.before #[Value.ref b] s = true := fun w h => hts w (zT_lw w h)
  have hA : ∀ a, s.heap.size ≤ a → zLA s a := fun _ h => h
  have hbA : ¬ zLA s b := Nat.not_le.mpr hbl
  obtain ⟨hIx, hIm, hR, hPx, hDx, hPm, hDm, hS⟩ := T
  refine lv_aload_n hx hb dL_law_569 rfl (lv_at hl 1 rfl) ?_
  refine lv_aload_n hx hb dL_law_570 rfl (lv_at hl 0 rfl) ?_
  refine lv_iload_n hx hb dL_law_571 rfl (lv_at hl 3 rfl) ?_
  refine lv_iconst (v := nI 1) hx hb dL_law_572 (by decide +kernel) ?_
  refine lv_iadd hx hb dL_law_573 ?_
  refine z_eqi (y := nI (j + 1)) (nI_add j 1) ?_
  refine va_sld hx hb hX hbl hbA hS (vp_in_nI (by omega) (by omega)) dL_law_574 ?_
  refine z_eqi (y := xs (j + 1)) (congrArg xs (nI_clamp (by omega))) ?_
  refine z_callVi (k := 0) (As := [.int (xs (j + 1))]) (rest := []) hx hb hml hown ht (xk_X10_net l D qx cx F _ _ _ hIx (xs (j + 1))) hw_3_124 hmX10_net ⟨rfl, rfl⟩ (na := 1) rfl (by decide +kernel) ⟨Nat.le_of_ble_eq_true rfl, Nat.le_of_ble_eq_true rfl⟩ (by decide) rfl rfl hKx hPx hDx hS hA hl.1 rfl (Nat.le_of_ble_eq_true rfl) ⟨Nat.le_of_ble_eq_true rfl, Nat.le_of_ble_eq_true rfl⟩ dL_law_575 (fun r_x I_x R_x J_x H1 locs hp_x hPx hDx hS hz_x hk_x => ?_)
  have hPm := z_frame (q := qx) (n := 81) hPm hdis hk_x
  generalize H1 = H at hPm hPx hS ⊢
  have hv_x := z_stayx hIx (hp_x)
  refine lv_pop hx hb dL_law_578 rfl ?_
  refine lv_aload_n hx hb dL_law_579 rfl (lv_at hl 2 rfl) ?_
  refine lv_aload_n hx hb dL_law_580 rfl (lv_at hl 0 rfl) ?_
  refine lv_iload_n hx hb dL_law_581 rfl (lv_at hl 3 rfl) ?_
  refine lv_iconst (v := nI 1) hx hb dL_law_582 (by decide +kernel) ?_
  refine lv_iadd hx hb dL_law_583 ?_
  refine z_eqi (y := nI (j + 1)) (nI_add j 1) ?_
  refine va_sld hx hb hX hbl hbA hS (vp_in_nI (by omega) (by omega)) dL_law_584 ?_
  refine z_eqi (y := xs (j + 1)) (congrArg xs (nI_clamp (by omega))) ?_
  refine z_callVi (k := 0) (As := [.int (xs (j + 1))]) (rest := []) hx hb hml hown ht (mk_X11_net l D qm cm G _ _ _ hIm (xs (j + 1))) hw_7_26 hmX11_net ⟨rfl, rfl⟩ (na := 1) rfl (by decide +kernel) ⟨Nat.le_of_ble_eq_true rfl, Nat.le_of_ble_eq_true rfl⟩ (by decide) rfl rfl hKm hPm hDm hS hA hl.1 rfl (Nat.le_of_ble_eq_true rfl) ⟨Nat.le_of_ble_eq_true rfl, Nat.le_of_ble_eq_true rfl⟩ dL_law_585 (fun r_m I_m R_m J_m H1 locs hp_m hPm hDm hS hz_m hk_m => ?_)
  have hPx := z_frame (q := qm) (n := 25) hPx (fun i hi j hj => (hdis j hj i hi).symm) hk_m
  have hv_m := (hp_m).1
  have T1 := zT_mk (s := s) hv_x hv_m hR hPx hDx hPm hDm hS
  refine lv_pop hx hb dL_law_588 rfl ?_
  refine lv_goto (tgt := 1965) hx hb dL_law_589 (by decide) ?_
  exact kk _ _ _ _ _ _ _ _ _ _ _ T1 (lv_sub hl [0, 1, 2, 3] rfl)
set_option maxHeartbeats 4000000 in
set_option maxRecDepth 100000 in
theorem lc_10 {p : Program} {e : Env} {s : State} {m : MethodId} {below : List Frame} {meth : Method} {c : Code} {l : Launch} {b L j : Nat} {xs : Nat → Int32} {D : va_G} {qx qm : Nat → Nat} {cx cm : Nat → ClassId} {ax vx am vm : Nat → Nat} {t9 : Nat} {H : Heap} {locs : List Loc} {ls : Array Slot} {F G I R I' R' : Nat → Nat → Int32} {J J' : Nat → Nat → Int64} (C : zLaw p s m meth c b L xs D qx qm cx cm ax vx am vm t9) (hj : j + 6 ≤ L) (T : zTw D qx qm cx cm s F G I R I' R' J J' H locs) (hl : lv_has ls 4 [(0, .ref b), (1, .ref (qx 0)), (2, .ref (qm 0)), (3, .int (nI j))]) (kk : ∀ (F G I R I' R' : Nat → Nat → Int32) (J J' : Nat → Nat → Int64) (H : Heap) (locs : List Loc) (ls : Array Slot), zTw D qx qm cx cm s F G I R I' R' J J' H locs → lv_has ls 4 [(0, .ref b), (1, .ref (qx 0)), (2, .ref (qm 0)), (3, .int (nI j))] → W p l e room_1 s m #[Value.ref b] below meth c H locs 600000 7302250 (lw_Z below #[Value.ref b] s) (F0 m 1965 ls [])) : W p l e room_1 s m #[Value.ref b] below meth c H locs 600000 7302250 (lw_Z below #[Value.ref b] s) (F0 m 592 ls []) := by
  obtain ⟨⟨hx, hb, hr, hml, hown, hts, hX, hbl, hlocks, hgv⟩, hKx, hKm, hdis, hL, hNx, hNm⟩ := id C
  have hown : s.vm.findClass "ReceiptLeftLaw" = some m.cls := hown
  have ht : ∀ w ∈ zT, w.before #[Value.ref b] s = true := fun w h => hts w (zT_lw w h)
  have hA : ∀ a, s.heap.size ≤ a → zLA s a := fun _ h => h
  have hbA : ¬ zLA s b := Nat.not_le.mpr hbl
  obtain ⟨hIx, hIm, hR, hPx, hDx, hPm, hDm, hS⟩ := T
  refine lv_aload_n hx hb dL_law_592 rfl (lv_at hl 1 rfl) ?_
  refine lv_aload_n hx hb dL_law_593 rfl (lv_at hl 0 rfl) ?_
  refine lv_iload_n hx hb dL_law_594 rfl (lv_at hl 3 rfl) ?_
  refine lv_iconst (v := nI 1) hx hb dL_law_595 (by decide +kernel) ?_
  refine lv_iadd hx hb dL_law_596 ?_
  refine z_eqi (y := nI (j + 1)) (nI_add j 1) ?_
  refine va_sld hx hb hX hbl hbA hS (vp_in_nI (by omega) (by omega)) dL_law_597 ?_
  refine z_eqi (y := xs (j + 1)) (congrArg xs (nI_clamp (by omega))) ?_
  refine lv_aload_n hx hb dL_law_598 rfl (lv_at hl 0 rfl) ?_
  refine lv_iload_n hx hb dL_law_599 rfl (lv_at hl 3 rfl) ?_
  refine lv_iconst (v := nI 2) hx hb dL_law_600 (by decide +kernel) ?_
  refine lv_iadd hx hb dL_law_601 ?_
  refine z_eqi (y := nI (j + 2)) (nI_add j 2) ?_
  refine va_sld hx hb hX hbl hbA hS (vp_in_nI (by omega) (by omega)) dL_law_602 ?_
  refine z_eqi (y := xs (j + 2)) (congrArg xs (nI_clamp (by omega))) ?_
  refine lv_aload_n hx hb dL_law_603 rfl (lv_at hl 0 rfl) ?_
  refine lv_iload_n hx hb dL_law_604 rfl (lv_at hl 3 rfl) ?_
  refine lv_iconst (v := nI 3) hx hb dL_law_605 (by decide +kernel) ?_
  refine lv_iadd hx hb dL_law_606 ?_
  refine z_eqi (y := nI (j + 3)) (nI_add j 3) ?_
  refine va_sld hx hb hX hbl hbA hS (vp_in_nI (by omega) (by omega)) dL_law_607 ?_
  refine z_eqi (y := xs (j + 3)) (congrArg xs (nI_clamp (by omega))) ?_
  refine z_callVi (k := 0) (As := [.int (xs (j + 1)), .int (xs (j + 2)), .int (xs (j + 3))]) (rest := []) hx hb hml hown ht (xk_X10_steal l D qx cx F _ _ _ hIx (xs (j + 1)) (xs (j + 2)) (xs (j + 3))) hw_3_140 hmX10_steal ⟨rfl, rfl⟩ (na := 3) rfl (by decide +kernel) ⟨Nat.le_of_ble_eq_true rfl, Nat.le_of_ble_eq_true rfl⟩ (by decide) rfl rfl hKx hPx hDx hS hA hl.1 rfl (Nat.le_of_ble_eq_true rfl) ⟨Nat.le_of_ble_eq_true rfl, Nat.le_of_ble_eq_true rfl⟩ dL_law_608 (fun r_x I_x R_x J_x H1 locs hp_x hPx hDx hS hz_x hk_x => ?_)
  have hPm := z_frame (q := qx) (n := 81) hPm hdis hk_x
  generalize H1 = H at hPm hPx hS ⊢
  have hv_x := hp_x.2
  refine lv_pop hx hb dL_law_611 rfl ?_
  refine lv_aload_n hx hb dL_law_612 rfl (lv_at hl 2 rfl) ?_
  refine lv_aload_n hx hb dL_law_613 rfl (lv_at hl 0 rfl) ?_
  refine lv_iload_n hx hb dL_law_614 rfl (lv_at hl 3 rfl) ?_
  refine lv_iconst (v := nI 1) hx hb dL_law_615 (by decide +kernel) ?_
  refine lv_iadd hx hb dL_law_616 ?_
  refine z_eqi (y := nI (j + 1)) (nI_add j 1) ?_
  refine va_sld hx hb hX hbl hbA hS (vp_in_nI (by omega) (by omega)) dL_law_617 ?_
  refine z_eqi (y := xs (j + 1)) (congrArg xs (nI_clamp (by omega))) ?_
  refine lv_aload_n hx hb dL_law_618 rfl (lv_at hl 0 rfl) ?_
  refine lv_iload_n hx hb dL_law_619 rfl (lv_at hl 3 rfl) ?_
  refine lv_iconst (v := nI 2) hx hb dL_law_620 (by decide +kernel) ?_
  refine lv_iadd hx hb dL_law_621 ?_
  refine z_eqi (y := nI (j + 2)) (nI_add j 2) ?_
  refine va_sld hx hb hX hbl hbA hS (vp_in_nI (by omega) (by omega)) dL_law_622 ?_
  refine z_eqi (y := xs (j + 2)) (congrArg xs (nI_clamp (by omega))) ?_
  refine lv_aload_n hx hb dL_law_623 rfl (lv_at hl 0 rfl) ?_
  refine lv_iload_n hx hb dL_law_624 rfl (lv_at hl 3 rfl) ?_
  refine lv_iconst (v := nI 3) hx hb dL_law_625 (by decide +kernel) ?_
  refine lv_iadd hx hb dL_law_626 ?_
  refine z_eqi (y := nI (j + 3)) (nI_add j 3) ?_
  refine va_sld hx hb hX hbl hbA hS (vp_in_nI (by omega) (by omega)) dL_law_627 ?_
  refine z_eqi (y := xs (j + 3)) (congrArg xs (nI_clamp (by omega))) ?_
  refine z_callVi (k := 0) (As := [.int (xs (j + 1)), .int (xs (j + 2)), .int (xs (j + 3))]) (rest := []) hx hb hml hown ht (mk_X11_steal l D qm cm G _ _ _ hIm (xs (j + 1)) (xs (j + 2)) (xs (j + 3))) hw_7_35 hmX11_steal ⟨rfl, rfl⟩ (na := 3) rfl (by decide +kernel) ⟨Nat.le_of_ble_eq_true rfl, Nat.le_of_ble_eq_true rfl⟩ (by decide) rfl rfl hKm hPm hDm hS hA hl.1 rfl (Nat.le_of_ble_eq_true rfl) ⟨Nat.le_of_ble_eq_true rfl, Nat.le_of_ble_eq_true rfl⟩ dL_law_628 (fun r_m I_m R_m J_m H1 locs hp_m hPm hDm hS hz_m hk_m => ?_)
  have hPx := z_frame (q := qm) (n := 25) hPx (fun i hi j hj => (hdis j hj i hi).symm) hk_m
  obtain ⟨w9, hv_m⟩ := hp_m.2
  have T1 := zT_mk (s := s) hv_x hv_m (zRel_w hR) hPx hDx hPm hDm hS
  refine lv_pop hx hb dL_law_631 rfl ?_
  refine lv_goto (tgt := 1965) hx hb dL_law_632 (by decide) ?_
  exact kk _ _ _ _ _ _ _ _ _ _ _ T1 (lv_sub hl [0, 1, 2, 3] rfl)
set_option maxHeartbeats 4000000 in
set_option maxRecDepth 100000 in
theorem lc_11 {p : Program} {e : Env} {s : State} {m : MethodId} {below : List Frame} {meth : Method} {c : Code} {l : Launch} {b L j : Nat} {xs : Nat → Int32} {D : va_G} {qx qm : Nat → Nat} {cx cm : Nat → ClassId} {ax vx am vm : Nat → Nat} {t9 : Nat} {H : Heap} {locs : List Loc} {ls : Array Slot} {F G I R I' R' : Nat → Nat → Int32} {J J' : Nat → Nat → Int64} (C : zLaw p s m meth c b L xs D qx qm cx cm ax vx am vm t9) (hj : j + 6 ≤ L) (T : zTw D qx qm cx cm s F G I R I' R' J J' H locs) (hl : lv_has ls 4 [(0, .ref b), (1, .ref (qx 0)), (2, .ref (qm 0)), (3, .int (nI j))]) (kk : ∀ (F G I R I' R' : Nat → Nat → Int32) (J J' : Nat → Nat → Int64) (H : Heap) (locs : List Loc) (ls : Array Slot), zTw D qx qm cx cm s F G I R I' R' J J' H locs → lv_has ls 4 [(0, .ref b), (1, .ref (qx 0)), (2, .ref (qm 0)), (3, .int (nI j))] → W p l e room_1 s m #[Value.ref b] below meth c H locs 600000 7302250 (lw_Z below #[Value.ref b] s) (F0 m 1965 ls [])) : W p l e room_1 s m #[Value.ref b] below meth c H locs 600000 7302250 (lw_Z below #[Value.ref b] s) (F0 m 635 ls []) := by
  obtain ⟨⟨hx, hb, hr, hml, hown, hts, hX, hbl, hlocks, hgv⟩, hKx, hKm, hdis, hL, hNx, hNm⟩ := id C
  have hown : s.vm.findClass "ReceiptLeftLaw" = some m.cls := hown
  have ht : ∀ w ∈ zT, w.before #[Value.ref b] s = true := fun w h => hts w (zT_lw w h)
  have hA : ∀ a, s.heap.size ≤ a → zLA s a := fun _ h => h
  have hbA : ¬ zLA s b := Nat.not_le.mpr hbl
  obtain ⟨hIx, hIm, hR, hPx, hDx, hPm, hDm, hS⟩ := T
  refine lv_aload_n hx hb dL_law_635 rfl (lv_at hl 1 rfl) ?_
  refine lv_aload_n hx hb dL_law_636 rfl (lv_at hl 0 rfl) ?_
  refine lv_iload_n hx hb dL_law_637 rfl (lv_at hl 3 rfl) ?_
  refine lv_iconst (v := nI 1) hx hb dL_law_638 (by decide +kernel) ?_
  refine lv_iadd hx hb dL_law_639 ?_
  refine z_eqi (y := nI (j + 1)) (nI_add j 1) ?_
  refine va_sld hx hb hX hbl hbA hS (vp_in_nI (by omega) (by omega)) dL_law_640 ?_
  refine z_eqi (y := xs (j + 1)) (congrArg xs (nI_clamp (by omega))) ?_
  refine lv_aload_n hx hb dL_law_641 rfl (lv_at hl 0 rfl) ?_
  refine lv_iload_n hx hb dL_law_642 rfl (lv_at hl 3 rfl) ?_
  refine lv_iconst (v := nI 2) hx hb dL_law_643 (by decide +kernel) ?_
  refine lv_iadd hx hb dL_law_644 ?_
  refine z_eqi (y := nI (j + 2)) (nI_add j 2) ?_
  refine va_sld hx hb hX hbl hbA hS (vp_in_nI (by omega) (by omega)) dL_law_645 ?_
  refine z_eqi (y := xs (j + 2)) (congrArg xs (nI_clamp (by omega))) ?_
  refine z_callVi (k := 0) (As := [.int (xs (j + 1)), .int (xs (j + 2))]) (rest := []) hx hb hml hown ht (xk_X10_sell l D qx cx F _ _ _ hIx (xs (j + 1)) (xs (j + 2))) hw_3_219 hmX10_sell ⟨rfl, rfl⟩ (na := 2) rfl (by decide +kernel) ⟨Nat.le_of_ble_eq_true rfl, Nat.le_of_ble_eq_true rfl⟩ (by decide) rfl rfl hKx hPx hDx hS hA hl.1 rfl (Nat.le_of_ble_eq_true rfl) ⟨Nat.le_of_ble_eq_true rfl, Nat.le_of_ble_eq_true rfl⟩ dL_law_646 (fun r_x I_x R_x J_x H1 locs hp_x hPx hDx hS hz_x hk_x => ?_)
  have hPm := z_frame (q := qx) (n := 81) hPm hdis hk_x
  generalize H1 = H at hPm hPx hS ⊢
  have hv_x := hp_x
  refine lv_pop hx hb dL_law_649 rfl ?_
  refine lv_aload_n hx hb dL_law_650 rfl (lv_at hl 2 rfl) ?_
  refine lv_aload_n hx hb dL_law_651 rfl (lv_at hl 0 rfl) ?_
  refine lv_iload_n hx hb dL_law_652 rfl (lv_at hl 3 rfl) ?_
  refine lv_iconst (v := nI 1) hx hb dL_law_653 (by decide +kernel) ?_
  refine lv_iadd hx hb dL_law_654 ?_
  refine z_eqi (y := nI (j + 1)) (nI_add j 1) ?_
  refine va_sld hx hb hX hbl hbA hS (vp_in_nI (by omega) (by omega)) dL_law_655 ?_
  refine z_eqi (y := xs (j + 1)) (congrArg xs (nI_clamp (by omega))) ?_
  refine lv_aload_n hx hb dL_law_656 rfl (lv_at hl 0 rfl) ?_
  refine lv_iload_n hx hb dL_law_657 rfl (lv_at hl 3 rfl) ?_
  refine lv_iconst (v := nI 2) hx hb dL_law_658 (by decide +kernel) ?_
  refine lv_iadd hx hb dL_law_659 ?_
  refine z_eqi (y := nI (j + 2)) (nI_add j 2) ?_
  refine va_sld hx hb hX hbl hbA hS (vp_in_nI (by omega) (by omega)) dL_law_660 ?_
  refine z_eqi (y := xs (j + 2)) (congrArg xs (nI_clamp (by omega))) ?_
  refine z_callVi (k := 0) (As := [.int (xs (j + 1)), .int (xs (j + 2))]) (rest := []) hx hb hml hown ht (mk_X11_sell l D qm cm G _ _ _ hIm (xs (j + 1)) (xs (j + 2))) hw_7_48 hmX11_sell ⟨rfl, rfl⟩ (na := 2) rfl (by decide +kernel) ⟨Nat.le_of_ble_eq_true rfl, Nat.le_of_ble_eq_true rfl⟩ (by decide) rfl rfl hKm hPm hDm hS hA hl.1 rfl (Nat.le_of_ble_eq_true rfl) ⟨Nat.le_of_ble_eq_true rfl, Nat.le_of_ble_eq_true rfl⟩ dL_law_661 (fun r_m I_m R_m J_m H1 locs hp_m hPm hDm hS hz_m hk_m => ?_)
  have hPx := z_frame (q := qm) (n := 25) hPx (fun i hi j hj => (hdis j hj i hi).symm) hk_m
  obtain ⟨w9, hv_m⟩ := hp_m
  have T1 := zT_mk (s := s) hv_x hv_m (zRel_w hR) hPx hDx hPm hDm hS
  refine lv_pop hx hb dL_law_664 rfl ?_
  refine lv_goto (tgt := 1965) hx hb dL_law_665 (by decide) ?_
  exact kk _ _ _ _ _ _ _ _ _ _ _ T1 (lv_sub hl [0, 1, 2, 3] rfl)
set_option maxHeartbeats 4000000 in
set_option maxRecDepth 100000 in
theorem lc_12 {p : Program} {e : Env} {s : State} {m : MethodId} {below : List Frame} {meth : Method} {c : Code} {l : Launch} {b L j : Nat} {xs : Nat → Int32} {D : va_G} {qx qm : Nat → Nat} {cx cm : Nat → ClassId} {ax vx am vm : Nat → Nat} {t9 : Nat} {H : Heap} {locs : List Loc} {ls : Array Slot} {F G I R I' R' : Nat → Nat → Int32} {J J' : Nat → Nat → Int64} (C : zLaw p s m meth c b L xs D qx qm cx cm ax vx am vm t9) (hj : j + 6 ≤ L) (T : zTw D qx qm cx cm s F G I R I' R' J J' H locs) (hl : lv_has ls 4 [(0, .ref b), (1, .ref (qx 0)), (2, .ref (qm 0)), (3, .int (nI j))]) (kk : ∀ (F G I R I' R' : Nat → Nat → Int32) (J J' : Nat → Nat → Int64) (H : Heap) (locs : List Loc) (ls : Array Slot), zTw D qx qm cx cm s F G I R I' R' J J' H locs → lv_has ls 4 [(0, .ref b), (1, .ref (qx 0)), (2, .ref (qm 0)), (3, .int (nI j))] → W p l e room_1 s m #[Value.ref b] below meth c H locs 600000 7302250 (lw_Z below #[Value.ref b] s) (F0 m 1965 ls [])) : W p l e room_1 s m #[Value.ref b] below meth c H locs 600000 7302250 (lw_Z below #[Value.ref b] s) (F0 m 668 ls []) := by
  obtain ⟨⟨hx, hb, hr, hml, hown, hts, hX, hbl, hlocks, hgv⟩, hKx, hKm, hdis, hL, hNx, hNm⟩ := id C
  have hown : s.vm.findClass "ReceiptLeftLaw" = some m.cls := hown
  have ht : ∀ w ∈ zT, w.before #[Value.ref b] s = true := fun w h => hts w (zT_lw w h)
  have hA : ∀ a, s.heap.size ≤ a → zLA s a := fun _ h => h
  have hbA : ¬ zLA s b := Nat.not_le.mpr hbl
  obtain ⟨hIx, hIm, hR, hPx, hDx, hPm, hDm, hS⟩ := T
  refine lv_aload_n hx hb dL_law_668 rfl (lv_at hl 1 rfl) ?_
  refine lv_aload_n hx hb dL_law_669 rfl (lv_at hl 0 rfl) ?_
  refine lv_iload_n hx hb dL_law_670 rfl (lv_at hl 3 rfl) ?_
  refine lv_iconst (v := nI 1) hx hb dL_law_671 (by decide +kernel) ?_
  refine lv_iadd hx hb dL_law_672 ?_
  refine z_eqi (y := nI (j + 1)) (nI_add j 1) ?_
  refine va_sld hx hb hX hbl hbA hS (vp_in_nI (by omega) (by omega)) dL_law_673 ?_
  refine z_eqi (y := xs (j + 1)) (congrArg xs (nI_clamp (by omega))) ?_
  refine z_callVi (k := 0) (As := [.int (xs (j + 1))]) (rest := []) hx hb hml hown ht (xk_X10_brings l D qx cx F _ _ _ hIx (xs (j + 1))) hw_3_223 hmX10_brings ⟨rfl, rfl⟩ (na := 1) rfl (by decide +kernel) ⟨Nat.le_of_ble_eq_true rfl, Nat.le_of_ble_eq_true rfl⟩ (by decide) rfl rfl hKx hPx hDx hS hA hl.1 rfl (Nat.le_of_ble_eq_true rfl) ⟨Nat.le_of_ble_eq_true rfl, Nat.le_of_ble_eq_true rfl⟩ dL_law_674 (fun r_x I_x R_x J_x H1 locs hp_x hPx hDx hS hz_x hk_x => ?_)
  have hPm := z_frame (q := qx) (n := 81) hPm hdis hk_x
  generalize H1 = H at hPm hPx hS ⊢
  have hv_x := hp_x.2
  refine lv_pop hx hb dL_law_677 rfl ?_
  refine lv_aload_n hx hb dL_law_678 rfl (lv_at hl 2 rfl) ?_
  refine lv_aload_n hx hb dL_law_679 rfl (lv_at hl 0 rfl) ?_
  refine lv_iload_n hx hb dL_law_680 rfl (lv_at hl 3 rfl) ?_
  refine lv_iconst (v := nI 1) hx hb dL_law_681 (by decide +kernel) ?_
  refine lv_iadd hx hb dL_law_682 ?_
  refine z_eqi (y := nI (j + 1)) (nI_add j 1) ?_
  refine va_sld hx hb hX hbl hbA hS (vp_in_nI (by omega) (by omega)) dL_law_683 ?_
  refine z_eqi (y := xs (j + 1)) (congrArg xs (nI_clamp (by omega))) ?_
  refine z_callVi (k := 0) (As := [.int (xs (j + 1))]) (rest := []) hx hb hml hown ht (mk_X11_brings l D qm cm G _ _ _ hIm (xs (j + 1))) hw_7_52 hmX11_brings ⟨rfl, rfl⟩ (na := 1) rfl (by decide +kernel) ⟨Nat.le_of_ble_eq_true rfl, Nat.le_of_ble_eq_true rfl⟩ (by decide) rfl rfl hKm hPm hDm hS hA hl.1 rfl (Nat.le_of_ble_eq_true rfl) ⟨Nat.le_of_ble_eq_true rfl, Nat.le_of_ble_eq_true rfl⟩ dL_law_684 (fun r_m I_m R_m J_m H1 locs hp_m hPm hDm hS hz_m hk_m => ?_)
  have hPx := z_frame (q := qm) (n := 25) hPx (fun i hi j hj => (hdis j hj i hi).symm) hk_m
  obtain ⟨w9, hv_m⟩ := hp_m.2
  have T1 := zT_mk (s := s) hv_x hv_m (zRel_w hR) hPx hDx hPm hDm hS
  refine lv_pop hx hb dL_law_687 rfl ?_
  refine lv_goto (tgt := 1965) hx hb dL_law_688 (by decide) ?_
  exact kk _ _ _ _ _ _ _ _ _ _ _ T1 (lv_sub hl [0, 1, 2, 3] rfl)
set_option maxHeartbeats 4000000 in
set_option maxRecDepth 100000 in
theorem lc_13 {p : Program} {e : Env} {s : State} {m : MethodId} {below : List Frame} {meth : Method} {c : Code} {l : Launch} {b L j : Nat} {xs : Nat → Int32} {D : va_G} {qx qm : Nat → Nat} {cx cm : Nat → ClassId} {ax vx am vm : Nat → Nat} {t9 : Nat} {H : Heap} {locs : List Loc} {ls : Array Slot} {F G I R I' R' : Nat → Nat → Int32} {J J' : Nat → Nat → Int64} (C : zLaw p s m meth c b L xs D qx qm cx cm ax vx am vm t9) (hj : j + 6 ≤ L) (T : zTw D qx qm cx cm s F G I R I' R' J J' H locs) (hl : lv_has ls 4 [(0, .ref b), (1, .ref (qx 0)), (2, .ref (qm 0)), (3, .int (nI j))]) (kk : ∀ (F G I R I' R' : Nat → Nat → Int32) (J J' : Nat → Nat → Int64) (H : Heap) (locs : List Loc) (ls : Array Slot), zTw D qx qm cx cm s F G I R I' R' J J' H locs → lv_has ls 4 [(0, .ref b), (1, .ref (qx 0)), (2, .ref (qm 0)), (3, .int (nI j))] → W p l e room_1 s m #[Value.ref b] below meth c H locs 600000 7302250 (lw_Z below #[Value.ref b] s) (F0 m 1965 ls [])) : W p l e room_1 s m #[Value.ref b] below meth c H locs 600000 7302250 (lw_Z below #[Value.ref b] s) (F0 m 691 ls []) := by
  obtain ⟨⟨hx, hb, hr, hml, hown, hts, hX, hbl, hlocks, hgv⟩, hKx, hKm, hdis, hL, hNx, hNm⟩ := id C
  have hown : s.vm.findClass "ReceiptLeftLaw" = some m.cls := hown
  have ht : ∀ w ∈ zT, w.before #[Value.ref b] s = true := fun w h => hts w (zT_lw w h)
  have hA : ∀ a, s.heap.size ≤ a → zLA s a := fun _ h => h
  have hbA : ¬ zLA s b := Nat.not_le.mpr hbl
  obtain ⟨hIx, hIm, hR, hPx, hDx, hPm, hDm, hS⟩ := T
  refine lv_aload_n hx hb dL_law_691 rfl (lv_at hl 1 rfl) ?_
  refine lv_aload_n hx hb dL_law_692 rfl (lv_at hl 0 rfl) ?_
  refine lv_iload_n hx hb dL_law_693 rfl (lv_at hl 3 rfl) ?_
  refine lv_iconst (v := nI 1) hx hb dL_law_694 (by decide +kernel) ?_
  refine lv_iadd hx hb dL_law_695 ?_
  refine z_eqi (y := nI (j + 1)) (nI_add j 1) ?_
  refine va_sld hx hb hX hbl hbA hS (vp_in_nI (by omega) (by omega)) dL_law_696 ?_
  refine z_eqi (y := xs (j + 1)) (congrArg xs (nI_clamp (by omega))) ?_
  refine z_callVi (k := 0) (As := [.int (xs (j + 1))]) (rest := []) hx hb hml hown ht (xk_X10_strike l D qx cx F _ _ _ hIx (xs (j + 1))) hw_3_228 hmX10_strike ⟨rfl, rfl⟩ (na := 1) rfl (by decide +kernel) ⟨Nat.le_of_ble_eq_true rfl, Nat.le_of_ble_eq_true rfl⟩ (by decide) rfl rfl hKx hPx hDx hS hA hl.1 rfl (Nat.le_of_ble_eq_true rfl) ⟨Nat.le_of_ble_eq_true rfl, Nat.le_of_ble_eq_true rfl⟩ dL_law_697 (fun r_x I_x R_x J_x H1 locs hp_x hPx hDx hS hz_x hk_x => ?_)
  have hPm := z_frame (q := qx) (n := 81) hPm hdis hk_x
  generalize H1 = H at hPm hPx hS ⊢
  have hv_x := hp_x.2
  refine lv_pop hx hb dL_law_700 rfl ?_
  refine lv_aload_n hx hb dL_law_701 rfl (lv_at hl 2 rfl) ?_
  refine lv_aload_n hx hb dL_law_702 rfl (lv_at hl 0 rfl) ?_
  refine lv_iload_n hx hb dL_law_703 rfl (lv_at hl 3 rfl) ?_
  refine lv_iconst (v := nI 1) hx hb dL_law_704 (by decide +kernel) ?_
  refine lv_iadd hx hb dL_law_705 ?_
  refine z_eqi (y := nI (j + 1)) (nI_add j 1) ?_
  refine va_sld hx hb hX hbl hbA hS (vp_in_nI (by omega) (by omega)) dL_law_706 ?_
  refine z_eqi (y := xs (j + 1)) (congrArg xs (nI_clamp (by omega))) ?_
  refine z_callVi (k := 0) (As := [.int (xs (j + 1))]) (rest := []) hx hb hml hown ht (mk_X11_strike l D qm cm G _ _ _ hIm (xs (j + 1))) hw_7_56 hmX11_strike ⟨rfl, rfl⟩ (na := 1) rfl (by decide +kernel) ⟨Nat.le_of_ble_eq_true rfl, Nat.le_of_ble_eq_true rfl⟩ (by decide) rfl rfl hKm hPm hDm hS hA hl.1 rfl (Nat.le_of_ble_eq_true rfl) ⟨Nat.le_of_ble_eq_true rfl, Nat.le_of_ble_eq_true rfl⟩ dL_law_707 (fun r_m I_m R_m J_m H1 locs hp_m hPm hDm hS hz_m hk_m => ?_)
  have hPx := z_frame (q := qm) (n := 25) hPx (fun i hi j hj => (hdis j hj i hi).symm) hk_m
  obtain ⟨w9, hv_m⟩ := hp_m
  have T1 := zT_mk (s := s) hv_x hv_m (zRel_w hR) hPx hDx hPm hDm hS
  refine lv_pop hx hb dL_law_710 rfl ?_
  refine lv_goto (tgt := 1965) hx hb dL_law_711 (by decide) ?_
  exact kk _ _ _ _ _ _ _ _ _ _ _ T1 (lv_sub hl [0, 1, 2, 3] rfl)
set_option maxHeartbeats 4000000 in
set_option maxRecDepth 100000 in
theorem lc_14 {p : Program} {e : Env} {s : State} {m : MethodId} {below : List Frame} {meth : Method} {c : Code} {l : Launch} {b L j : Nat} {xs : Nat → Int32} {D : va_G} {qx qm : Nat → Nat} {cx cm : Nat → ClassId} {ax vx am vm : Nat → Nat} {t9 : Nat} {H : Heap} {locs : List Loc} {ls : Array Slot} {F G I R I' R' : Nat → Nat → Int32} {J J' : Nat → Nat → Int64} (C : zLaw p s m meth c b L xs D qx qm cx cm ax vx am vm t9) (hj : j + 6 ≤ L) (T : zTw D qx qm cx cm s F G I R I' R' J J' H locs) (hl : lv_has ls 4 [(0, .ref b), (1, .ref (qx 0)), (2, .ref (qm 0)), (3, .int (nI j))]) (kk : ∀ (F G I R I' R' : Nat → Nat → Int32) (J J' : Nat → Nat → Int64) (H : Heap) (locs : List Loc) (ls : Array Slot), zTw D qx qm cx cm s F G I R I' R' J J' H locs → lv_has ls 4 [(0, .ref b), (1, .ref (qx 0)), (2, .ref (qm 0)), (3, .int (nI j))] → W p l e room_1 s m #[Value.ref b] below meth c H locs 600000 7302250 (lw_Z below #[Value.ref b] s) (F0 m 1965 ls [])) : W p l e room_1 s m #[Value.ref b] below meth c H locs 600000 7302250 (lw_Z below #[Value.ref b] s) (F0 m 714 ls []) := by
  obtain ⟨⟨hx, hb, hr, hml, hown, hts, hX, hbl, hlocks, hgv⟩, hKx, hKm, hdis, hL, hNx, hNm⟩ := id C
  have hown : s.vm.findClass "ReceiptLeftLaw" = some m.cls := hown
  have ht : ∀ w ∈ zT, w.before #[Value.ref b] s = true := fun w h => hts w (zT_lw w h)
  have hA : ∀ a, s.heap.size ≤ a → zLA s a := fun _ h => h
  have hbA : ¬ zLA s b := Nat.not_le.mpr hbl
  obtain ⟨hIx, hIm, hR, hPx, hDx, hPm, hDm, hS⟩ := T
  refine lv_aload_n hx hb dL_law_714 rfl (lv_at hl 1 rfl) ?_
  refine lv_aload_n hx hb dL_law_715 rfl (lv_at hl 0 rfl) ?_
  refine lv_iload_n hx hb dL_law_716 rfl (lv_at hl 3 rfl) ?_
  refine lv_iconst (v := nI 1) hx hb dL_law_717 (by decide +kernel) ?_
  refine lv_iadd hx hb dL_law_718 ?_
  refine z_eqi (y := nI (j + 1)) (nI_add j 1) ?_
  refine va_sld hx hb hX hbl hbA hS (vp_in_nI (by omega) (by omega)) dL_law_719 ?_
  refine z_eqi (y := xs (j + 1)) (congrArg xs (nI_clamp (by omega))) ?_
  refine lv_aload_n hx hb dL_law_720 rfl (lv_at hl 0 rfl) ?_
  refine lv_iload_n hx hb dL_law_721 rfl (lv_at hl 3 rfl) ?_
  refine lv_iconst (v := nI 2) hx hb dL_law_722 (by decide +kernel) ?_
  refine lv_iadd hx hb dL_law_723 ?_
  refine z_eqi (y := nI (j + 2)) (nI_add j 2) ?_
  refine va_sld hx hb hX hbl hbA hS (vp_in_nI (by omega) (by omega)) dL_law_724 ?_
  refine z_eqi (y := xs (j + 2)) (congrArg xs (nI_clamp (by omega))) ?_
  refine z_callVi (k := 0) (As := [.int (xs (j + 1)), .int (xs (j + 2))]) (rest := []) hx hb hml hown ht (xk_X10_lock l D qx cx F _ _ _ hIx (xs (j + 1)) (xs (j + 2))) hw_3_232 hmX10_lock ⟨rfl, rfl⟩ (na := 2) rfl (by decide +kernel) ⟨Nat.le_of_ble_eq_true rfl, Nat.le_of_ble_eq_true rfl⟩ (by decide) rfl rfl hKx hPx hDx hS hA hl.1 rfl (Nat.le_of_ble_eq_true rfl) ⟨Nat.le_of_ble_eq_true rfl, Nat.le_of_ble_eq_true rfl⟩ dL_law_725 (fun r_x I_x R_x J_x H1 locs hp_x hPx hDx hS hz_x hk_x => ?_)
  have hPm := z_frame (q := qx) (n := 81) hPm hdis hk_x
  generalize H1 = H at hPm hPx hS ⊢
  have hv_x := hp_x.2
  refine lv_pop hx hb dL_law_728 rfl ?_
  refine lv_aload_n hx hb dL_law_729 rfl (lv_at hl 2 rfl) ?_
  refine lv_aload_n hx hb dL_law_730 rfl (lv_at hl 0 rfl) ?_
  refine lv_iload_n hx hb dL_law_731 rfl (lv_at hl 3 rfl) ?_
  refine lv_iconst (v := nI 1) hx hb dL_law_732 (by decide +kernel) ?_
  refine lv_iadd hx hb dL_law_733 ?_
  refine z_eqi (y := nI (j + 1)) (nI_add j 1) ?_
  refine va_sld hx hb hX hbl hbA hS (vp_in_nI (by omega) (by omega)) dL_law_734 ?_
  refine z_eqi (y := xs (j + 1)) (congrArg xs (nI_clamp (by omega))) ?_
  refine lv_aload_n hx hb dL_law_735 rfl (lv_at hl 0 rfl) ?_
  refine lv_iload_n hx hb dL_law_736 rfl (lv_at hl 3 rfl) ?_
  refine lv_iconst (v := nI 2) hx hb dL_law_737 (by decide +kernel) ?_
  refine lv_iadd hx hb dL_law_738 ?_
  refine z_eqi (y := nI (j + 2)) (nI_add j 2) ?_
  refine va_sld hx hb hX hbl hbA hS (vp_in_nI (by omega) (by omega)) dL_law_739 ?_
  refine z_eqi (y := xs (j + 2)) (congrArg xs (nI_clamp (by omega))) ?_
  refine z_callVi (k := 0) (As := [.int (xs (j + 1)), .int (xs (j + 2))]) (rest := []) hx hb hml hown ht (mk_X11_lock l D qm cm G _ _ _ hIm (xs (j + 1)) (xs (j + 2))) hw_7_67 hmX11_lock ⟨rfl, rfl⟩ (na := 2) rfl (by decide +kernel) ⟨Nat.le_of_ble_eq_true rfl, Nat.le_of_ble_eq_true rfl⟩ (by decide) rfl rfl hKm hPm hDm hS hA hl.1 rfl (Nat.le_of_ble_eq_true rfl) ⟨Nat.le_of_ble_eq_true rfl, Nat.le_of_ble_eq_true rfl⟩ dL_law_740 (fun r_m I_m R_m J_m H1 locs hp_m hPm hDm hS hz_m hk_m => ?_)
  have hPx := z_frame (q := qm) (n := 25) hPx (fun i hi j hj => (hdis j hj i hi).symm) hk_m
  obtain ⟨w9, hv_m⟩ := hp_m
  have T1 := zT_mk (s := s) hv_x hv_m (zRel_w hR) hPx hDx hPm hDm hS
  refine lv_pop hx hb dL_law_743 rfl ?_
  refine lv_goto (tgt := 1965) hx hb dL_law_744 (by decide) ?_
  exact kk _ _ _ _ _ _ _ _ _ _ _ T1 (lv_sub hl [0, 1, 2, 3] rfl)
set_option maxHeartbeats 4000000 in
set_option maxRecDepth 100000 in
theorem lc_15 {p : Program} {e : Env} {s : State} {m : MethodId} {below : List Frame} {meth : Method} {c : Code} {l : Launch} {b L j : Nat} {xs : Nat → Int32} {D : va_G} {qx qm : Nat → Nat} {cx cm : Nat → ClassId} {ax vx am vm : Nat → Nat} {t9 : Nat} {H : Heap} {locs : List Loc} {ls : Array Slot} {F G I R I' R' : Nat → Nat → Int32} {J J' : Nat → Nat → Int64} (C : zLaw p s m meth c b L xs D qx qm cx cm ax vx am vm t9) (hj : j + 6 ≤ L) (T : zTw D qx qm cx cm s F G I R I' R' J J' H locs) (hl : lv_has ls 4 [(0, .ref b), (1, .ref (qx 0)), (2, .ref (qm 0)), (3, .int (nI j))]) (kk : ∀ (F G I R I' R' : Nat → Nat → Int32) (J J' : Nat → Nat → Int64) (H : Heap) (locs : List Loc) (ls : Array Slot), zTw D qx qm cx cm s F G I R I' R' J J' H locs → lv_has ls 4 [(0, .ref b), (1, .ref (qx 0)), (2, .ref (qm 0)), (3, .int (nI j))] → W p l e room_1 s m #[Value.ref b] below meth c H locs 600000 7302250 (lw_Z below #[Value.ref b] s) (F0 m 1965 ls [])) : W p l e room_1 s m #[Value.ref b] below meth c H locs 600000 7302250 (lw_Z below #[Value.ref b] s) (F0 m 747 ls []) := by
  obtain ⟨⟨hx, hb, hr, hml, hown, hts, hX, hbl, hlocks, hgv⟩, hKx, hKm, hdis, hL, hNx, hNm⟩ := id C
  have hown : s.vm.findClass "ReceiptLeftLaw" = some m.cls := hown
  have ht : ∀ w ∈ zT, w.before #[Value.ref b] s = true := fun w h => hts w (zT_lw w h)
  have hA : ∀ a, s.heap.size ≤ a → zLA s a := fun _ h => h
  have hbA : ¬ zLA s b := Nat.not_le.mpr hbl
  obtain ⟨hIx, hIm, hR, hPx, hDx, hPm, hDm, hS⟩ := T
  refine lv_aload_n hx hb dL_law_747 rfl (lv_at hl 1 rfl) ?_
  refine z_callVi (k := 0) (As := []) (rest := []) hx hb hml hown ht (xk_X10_night l D qx cx F _ _ _ hIx ) hw_3_236 hmX10_night ⟨rfl, rfl⟩ (na := 0) rfl (by decide +kernel) ⟨Nat.le_of_ble_eq_true rfl, Nat.le_of_ble_eq_true rfl⟩ (by decide) rfl rfl hKx hPx hDx hS hA hl.1 rfl (Nat.le_of_ble_eq_true rfl) ⟨Nat.le_of_ble_eq_true rfl, Nat.le_of_ble_eq_true rfl⟩ dL_law_748 (fun r_x I_x R_x J_x H1 locs hp_x hPx hDx hS hz_x hk_x => ?_)
  have hPm := z_frame (q := qx) (n := 81) hPm hdis hk_x
  generalize H1 = H at hPm hPx hS ⊢
  have hv_x := hp_x.2
  refine lv_pop hx hb dL_law_751 rfl ?_
  refine lv_aload_n hx hb dL_law_752 rfl (lv_at hl 2 rfl) ?_
  refine z_callVi (k := 0) (As := []) (rest := []) hx hb hml hown ht (mk_X11_night l D qm cm G _ _ _ hIm ) hw_7_71 hmX11_night ⟨rfl, rfl⟩ (na := 0) rfl (by decide +kernel) ⟨Nat.le_of_ble_eq_true rfl, Nat.le_of_ble_eq_true rfl⟩ (by decide) rfl rfl hKm hPm hDm hS hA hl.1 rfl (Nat.le_of_ble_eq_true rfl) ⟨Nat.le_of_ble_eq_true rfl, Nat.le_of_ble_eq_true rfl⟩ dL_law_753 (fun r_m I_m R_m J_m H1 locs hp_m hPm hDm hS hz_m hk_m => ?_)
  have hPx := z_frame (q := qm) (n := 25) hPx (fun i hi j hj => (hdis j hj i hi).symm) hk_m
  obtain ⟨w9, hv_m⟩ := hp_m
  have T1 := zT_mk (s := s) hv_x hv_m (zRel_w hR) hPx hDx hPm hDm hS
  refine lv_pop hx hb dL_law_756 rfl ?_
  refine lv_goto (tgt := 1965) hx hb dL_law_757 (by decide) ?_
  exact kk _ _ _ _ _ _ _ _ _ _ _ T1 (lv_sub hl [0, 1, 2, 3] rfl)
