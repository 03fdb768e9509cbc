set_option maxHeartbeats 4000000 in
set_option maxRecDepth 100000 in
theorem lc_48 {p : Program} {e : Env} {s : State} {m : MethodId} {below : List Frame} {meth : Method} {c : Code} {l : Launch} {b L j : Nat} {xs : Nat → Int32} {D : va_G} {qx qm : Nat → Nat} {cx cm : Nat → ClassId} {ax vx am vm : Nat → Nat} {t9 : Nat} {H : Heap} {locs : List Loc} {ls : Array Slot} {F G I R I' R' : Nat → Nat → Int32} {J J' : Nat → Nat → Int64} (C : zLaw p s m meth c b L xs D qx qm cx cm ax vx am vm t9) (hj : j + 6 ≤ L) (T : zTw D qx qm cx cm s F G I R I' R' J J' H locs) (hl : lv_has ls 4 [(0, .ref b), (1, .ref (qx 0)), (2, .ref (qm 0)), (3, .int (nI j))]) (kk : ∀ (F G I R I' R' : Nat → Nat → Int32) (J J' : Nat → Nat → Int64) (H : Heap) (locs : List Loc) (ls : Array Slot), zTw D qx qm cx cm s F G I R I' R' J J' H locs → lv_has ls 4 [(0, .ref b), (1, .ref (qx 0)), (2, .ref (qm 0)), (3, .int (nI j))] → W p l e room_1 s m #[Value.ref b] below meth c H locs 600000 7302250 (lw_Z below #[Value.ref b] s) (F0 m 1965 ls [])) : W p l e room_1 s m #[Value.ref b] below meth c H locs 600000 7302250 (lw_Z below #[Value.ref b] s) (F0 m 1466 ls []) := by
  obtain ⟨⟨hx, hb, hr, hml, hown, hts, hX, hbl, hlocks, hgv⟩, hKx, hKm, hdis, hL, hNx, hNm⟩ := id C
  have hown : s.vm.findClass "ReceiptLeftLaw" = some m.cls := hown
  have ht : ∀ w ∈ zT, w.before #[Value.ref b] s = true := fun w h => hts w (zT_lw w h)
  have hA : ∀ a, s.heap.size ≤ a → zLA s a := fun _ h => h
  have hbA : ¬ zLA s b := Nat.not_le.mpr hbl
  obtain ⟨hIx, hIm, hR, hPx, hDx, hPm, hDm, hS⟩ := T
  refine lv_aload_n hx hb dL_law_1466 rfl (lv_at hl 1 rfl) ?_
  refine lv_aload_n hx hb dL_law_1467 rfl (lv_at hl 0 rfl) ?_
  refine lv_iload_n hx hb dL_law_1468 rfl (lv_at hl 3 rfl) ?_
  refine lv_iconst (v := nI 1) hx hb dL_law_1469 (by decide +kernel) ?_
  refine lv_iadd hx hb dL_law_1470 ?_
  refine z_eqi (y := nI (j + 1)) (nI_add j 1) ?_
  refine va_sld hx hb hX hbl hbA hS (vp_in_nI (by omega) (by omega)) dL_law_1471 ?_
  refine z_eqi (y := xs (j + 1)) (congrArg xs (nI_clamp (by omega))) ?_
  refine z_callVi (k := 0) (As := [.int (xs (j + 1))]) (rest := []) hx hb hml hown ht (xk_X10_wrong l D qx cx F _ _ _ hIx (xs (j + 1))) hw_5_52 hmX10_wrong ⟨rfl, rfl⟩ (na := 1) rfl (by decide +kernel) ⟨Nat.le_of_ble_eq_true rfl, Nat.le_of_ble_eq_true rfl⟩ (by decide) rfl rfl hKx hPx hDx hS hA hl.1 rfl (Nat.le_of_ble_eq_true rfl) ⟨Nat.le_of_ble_eq_true rfl, Nat.le_of_ble_eq_true rfl⟩ dL_law_1472 (fun r_x I_x R_x J_x H1 locs hp_x hPx hDx hS hz_x hk_x => ?_)
  have hPm := z_frame (q := qx) (n := 81) hPm hdis hk_x
  generalize H1 = H at hPm hPx hS ⊢
  have hv_x := hp_x
  refine lv_pop hx hb dL_law_1475 rfl ?_
  refine lv_aload_n hx hb dL_law_1476 rfl (lv_at hl 2 rfl) ?_
  refine lv_aload_n hx hb dL_law_1477 rfl (lv_at hl 0 rfl) ?_
  refine lv_iload_n hx hb dL_law_1478 rfl (lv_at hl 3 rfl) ?_
  refine lv_iconst (v := nI 1) hx hb dL_law_1479 (by decide +kernel) ?_
  refine lv_iadd hx hb dL_law_1480 ?_
  refine z_eqi (y := nI (j + 1)) (nI_add j 1) ?_
  refine va_sld hx hb hX hbl hbA hS (vp_in_nI (by omega) (by omega)) dL_law_1481 ?_
  refine z_eqi (y := xs (j + 1)) (congrArg xs (nI_clamp (by omega))) ?_
  refine z_callVi (k := 0) (As := [.int (xs (j + 1))]) (rest := []) hx hb hml hown ht (mk_X11_wrong l D qm cm G _ _ _ hIm (xs (j + 1))) hw_8_68 hmX11_wrong ⟨rfl, rfl⟩ (na := 1) rfl (by decide +kernel) ⟨Nat.le_of_ble_eq_true rfl, Nat.le_of_ble_eq_true rfl⟩ (by decide) rfl rfl hKm hPm hDm hS hA hl.1 rfl (Nat.le_of_ble_eq_true rfl) ⟨Nat.le_of_ble_eq_true rfl, Nat.le_of_ble_eq_true rfl⟩ dL_law_1482 (fun r_m I_m R_m J_m H1 locs hp_m hPm hDm hS hz_m hk_m => ?_)
  have hPx := z_frame (q := qm) (n := 25) hPx (fun i hi j hj => (hdis j hj i hi).symm) hk_m
  have hv_m := hp_m
  have T1 := zT_mk (s := s) hv_x hv_m hR hPx hDx hPm hDm hS
  refine lv_pop hx hb dL_law_1485 rfl ?_
  refine lv_goto (tgt := 1965) hx hb dL_law_1486 (by decide) ?_
  exact kk _ _ _ _ _ _ _ _ _ _ _ T1 (lv_sub hl [0, 1, 2, 3] rfl)
set_option maxHeartbeats 4000000 in
set_option maxRecDepth 100000 in
theorem lc_49 {p : Program} {e : Env} {s : State} {m : MethodId} {below : List Frame} {meth : Method} {c : Code} {l : Launch} {b L j : Nat} {xs : Nat → Int32} {D : va_G} {qx qm : Nat → Nat} {cx cm : Nat → ClassId} {ax vx am vm : Nat → Nat} {t9 : Nat} {H : Heap} {locs : List Loc} {ls : Array Slot} {F G I R I' R' : Nat → Nat → Int32} {J J' : Nat → Nat → Int64} (C : zLaw p s m meth c b L xs D qx qm cx cm ax vx am vm t9) (hj : j + 6 ≤ L) (T : zTw D qx qm cx cm s F G I R I' R' J J' H locs) (hl : lv_has ls 4 [(0, .ref b), (1, .ref (qx 0)), (2, .ref (qm 0)), (3, .int (nI j))]) (kk : ∀ (F G I R I' R' : Nat → Nat → Int32) (J J' : Nat → Nat → Int64) (H : Heap) (locs : List Loc) (ls : Array Slot), zTw D qx qm cx cm s F G I R I' R' J J' H locs → lv_has ls 4 [(0, .ref b), (1, .ref (qx 0)), (2, .ref (qm 0)), (3, .int (nI j))] → W p l e room_1 s m #[Value.ref b] below meth c H locs 600000 7302250 (lw_Z below #[Value.ref b] s) (F0 m 1965 ls [])) : W p l e room_1 s m #[Value.ref b] below meth c H locs 600000 7302250 (lw_Z below #[Value.ref b] s) (F0 m 1489 ls []) := by
  obtain ⟨⟨hx, hb, hr, hml, hown, hts, hX, hbl, hlocks, hgv⟩, hKx, hKm, hdis, hL, hNx, hNm⟩ := id C
  have hown : s.vm.findClass "ReceiptLeftLaw" = some m.cls := hown
  have ht : ∀ w ∈ zT, w.before #[Value.ref b] s = true := fun w h => hts w (zT_lw w h)
  have hA : ∀ a, s.heap.size ≤ a → zLA s a := fun _ h => h
  have hbA : ¬ zLA s b := Nat.not_le.mpr hbl
  obtain ⟨hIx, hIm, hR, hPx, hDx, hPm, hDm, hS⟩ := T
  refine lv_aload_n hx hb dL_law_1489 rfl (lv_at hl 1 rfl) ?_
  refine lv_aload_n hx hb dL_law_1490 rfl (lv_at hl 0 rfl) ?_
  refine lv_iload_n hx hb dL_law_1491 rfl (lv_at hl 3 rfl) ?_
  refine lv_iconst (v := nI 1) hx hb dL_law_1492 (by decide +kernel) ?_
  refine lv_iadd hx hb dL_law_1493 ?_
  refine z_eqi (y := nI (j + 1)) (nI_add j 1) ?_
  refine va_sld hx hb hX hbl hbA hS (vp_in_nI (by omega) (by omega)) dL_law_1494 ?_
  refine z_eqi (y := xs (j + 1)) (congrArg xs (nI_clamp (by omega))) ?_
  refine z_callVi (k := 0) (As := [.int (xs (j + 1))]) (rest := []) hx hb hml hown ht (xk_X10_forged l D qx cx F _ _ _ hIx (xs (j + 1))) hw_5_83 hmX10_forged ⟨rfl, rfl⟩ (na := 1) rfl (by decide +kernel) ⟨Nat.le_of_ble_eq_true rfl, Nat.le_of_ble_eq_true rfl⟩ (by decide) rfl rfl hKx hPx hDx hS hA hl.1 rfl (Nat.le_of_ble_eq_true rfl) ⟨Nat.le_of_ble_eq_true rfl, Nat.le_of_ble_eq_true rfl⟩ dL_law_1495 (fun r_x I_x R_x J_x H1 locs hp_x hPx hDx hS hz_x hk_x => ?_)
  have hPm := z_frame (q := qx) (n := 81) hPm hdis hk_x
  generalize H1 = H at hPm hPx hS ⊢
  have hv_x := hp_x
  refine lv_pop hx hb dL_law_1498 rfl ?_
  refine lv_aload_n hx hb dL_law_1499 rfl (lv_at hl 2 rfl) ?_
  refine lv_aload_n hx hb dL_law_1500 rfl (lv_at hl 0 rfl) ?_
  refine lv_iload_n hx hb dL_law_1501 rfl (lv_at hl 3 rfl) ?_
  refine lv_iconst (v := nI 1) hx hb dL_law_1502 (by decide +kernel) ?_
  refine lv_iadd hx hb dL_law_1503 ?_
  refine z_eqi (y := nI (j + 1)) (nI_add j 1) ?_
  refine va_sld hx hb hX hbl hbA hS (vp_in_nI (by omega) (by omega)) dL_law_1504 ?_
  refine z_eqi (y := xs (j + 1)) (congrArg xs (nI_clamp (by omega))) ?_
  refine z_callVi (k := 0) (As := [.int (xs (j + 1))]) (rest := []) hx hb hml hown ht (mk_X11_forged l D qm cm G _ _ _ hIm (xs (j + 1))) hw_8_96 hmX11_forged ⟨rfl, rfl⟩ (na := 1) rfl (by decide +kernel) ⟨Nat.le_of_ble_eq_true rfl, Nat.le_of_ble_eq_true rfl⟩ (by decide) rfl rfl hKm hPm hDm hS hA hl.1 rfl (Nat.le_of_ble_eq_true rfl) ⟨Nat.le_of_ble_eq_true rfl, Nat.le_of_ble_eq_true rfl⟩ dL_law_1505 (fun r_m I_m R_m J_m H1 locs hp_m hPm hDm hS hz_m hk_m => ?_)
  have hPx := z_frame (q := qm) (n := 25) hPx (fun i hi j hj => (hdis j hj i hi).symm) hk_m
  have hv_m := hp_m
  have T1 := zT_mk (s := s) hv_x hv_m hR hPx hDx hPm hDm hS
  refine lv_pop hx hb dL_law_1508 rfl ?_
  refine lv_goto (tgt := 1965) hx hb dL_law_1509 (by decide) ?_
  exact kk _ _ _ _ _ _ _ _ _ _ _ T1 (lv_sub hl [0, 1, 2, 3] rfl)
set_option maxHeartbeats 4000000 in
set_option maxRecDepth 100000 in
theorem lc_50 {p : Program} {e : Env} {s : State} {m : MethodId} {below : List Frame} {meth : Method} {c : Code} {l : Launch} {b L j : Nat} {xs : Nat → Int32} {D : va_G} {qx qm : Nat → Nat} {cx cm : Nat → ClassId} {ax vx am vm : Nat → Nat} {t9 : Nat} {H : Heap} {locs : List Loc} {ls : Array Slot} {F G I R I' R' : Nat → Nat → Int32} {J J' : Nat → Nat → Int64} (C : zLaw p s m meth c b L xs D qx qm cx cm ax vx am vm t9) (hj : j + 6 ≤ L) (T : zTw D qx qm cx cm s F G I R I' R' J J' H locs) (hl : lv_has ls 4 [(0, .ref b), (1, .ref (qx 0)), (2, .ref (qm 0)), (3, .int (nI j))]) (kk : ∀ (F G I R I' R' : Nat → Nat → Int32) (J J' : Nat → Nat → Int64) (H : Heap) (locs : List Loc) (ls : Array Slot), zTw D qx qm cx cm s F G I R I' R' J J' H locs → lv_has ls 4 [(0, .ref b), (1, .ref (qx 0)), (2, .ref (qm 0)), (3, .int (nI j))] → W p l e room_1 s m #[Value.ref b] below meth c H locs 600000 7302250 (lw_Z below #[Value.ref b] s) (F0 m 1965 ls [])) : W p l e room_1 s m #[Value.ref b] below meth c H locs 600000 7302250 (lw_Z below #[Value.ref b] s) (F0 m 1512 ls []) := by
  obtain ⟨⟨hx, hb, hr, hml, hown, hts, hX, hbl, hlocks, hgv⟩, hKx, hKm, hdis, hL, hNx, hNm⟩ := id C
  have hown : s.vm.findClass "ReceiptLeftLaw" = some m.cls := hown
  have ht : ∀ w ∈ zT, w.before #[Value.ref b] s = true := fun w h => hts w (zT_lw w h)
  have hA : ∀ a, s.heap.size ≤ a → zLA s a := fun _ h => h
  have hbA : ¬ zLA s b := Nat.not_le.mpr hbl
  obtain ⟨hIx, hIm, hR, hPx, hDx, hPm, hDm, hS⟩ := T
  refine lv_aload_n hx hb dL_law_1512 rfl (lv_at hl 1 rfl) ?_
  refine lv_aload_n hx hb dL_law_1513 rfl (lv_at hl 0 rfl) ?_
  refine lv_iload_n hx hb dL_law_1514 rfl (lv_at hl 3 rfl) ?_
  refine lv_iconst (v := nI 1) hx hb dL_law_1515 (by decide +kernel) ?_
  refine lv_iadd hx hb dL_law_1516 ?_
  refine z_eqi (y := nI (j + 1)) (nI_add j 1) ?_
  refine va_sld hx hb hX hbl hbA hS (vp_in_nI (by omega) (by omega)) dL_law_1517 ?_
  refine z_eqi (y := xs (j + 1)) (congrArg xs (nI_clamp (by omega))) ?_
  refine z_callVi (k := 0) (As := [.int (xs (j + 1))]) (rest := []) hx hb hml hown ht (xk_X10_argued l D qx cx F _ _ _ hIx (xs (j + 1))) hw_5_87 hmX10_argued ⟨rfl, rfl⟩ (na := 1) rfl (by decide +kernel) ⟨Nat.le_of_ble_eq_true rfl, Nat.le_of_ble_eq_true rfl⟩ (by decide) rfl rfl hKx hPx hDx hS hA hl.1 rfl (Nat.le_of_ble_eq_true rfl) ⟨Nat.le_of_ble_eq_true rfl, Nat.le_of_ble_eq_true rfl⟩ dL_law_1518 (fun r_x I_x R_x J_x H1 locs hp_x hPx hDx hS hz_x hk_x => ?_)
  have hPm := z_frame (q := qx) (n := 81) hPm hdis hk_x
  generalize H1 = H at hPm hPx hS ⊢
  have hv_x := hp_x
  refine lv_pop hx hb dL_law_1521 rfl ?_
  refine lv_aload_n hx hb dL_law_1522 rfl (lv_at hl 2 rfl) ?_
  refine lv_aload_n hx hb dL_law_1523 rfl (lv_at hl 0 rfl) ?_
  refine lv_iload_n hx hb dL_law_1524 rfl (lv_at hl 3 rfl) ?_
  refine lv_iconst (v := nI 1) hx hb dL_law_1525 (by decide +kernel) ?_
  refine lv_iadd hx hb dL_law_1526 ?_
  refine z_eqi (y := nI (j + 1)) (nI_add j 1) ?_
  refine va_sld hx hb hX hbl hbA hS (vp_in_nI (by omega) (by omega)) dL_law_1527 ?_
  refine z_eqi (y := xs (j + 1)) (congrArg xs (nI_clamp (by omega))) ?_
  refine z_callVi (k := 0) (As := [.int (xs (j + 1))]) (rest := []) hx hb hml hown ht (mk_X11_argued l D qm cm G _ _ _ hIm (xs (j + 1))) hw_8_100 hmX11_argued ⟨rfl, rfl⟩ (na := 1) rfl (by decide +kernel) ⟨Nat.le_of_ble_eq_true rfl, Nat.le_of_ble_eq_true rfl⟩ (by decide) rfl rfl hKm hPm hDm hS hA hl.1 rfl (Nat.le_of_ble_eq_true rfl) ⟨Nat.le_of_ble_eq_true rfl, Nat.le_of_ble_eq_true rfl⟩ dL_law_1528 (fun r_m I_m R_m J_m H1 locs hp_m hPm hDm hS hz_m hk_m => ?_)
  have hPx := z_frame (q := qm) (n := 25) hPx (fun i hi j hj => (hdis j hj i hi).symm) hk_m
  have hv_m := hp_m
  have T1 := zT_mk (s := s) hv_x hv_m hR hPx hDx hPm hDm hS
  refine lv_pop hx hb dL_law_1531 rfl ?_
  refine lv_goto (tgt := 1965) hx hb dL_law_1532 (by decide) ?_
  exact kk _ _ _ _ _ _ _ _ _ _ _ T1 (lv_sub hl [0, 1, 2, 3] rfl)
set_option maxHeartbeats 4000000 in
set_option maxRecDepth 100000 in
theorem lc_51 {p : Program} {e : Env} {s : State} {m : MethodId} {below : List Frame} {meth : Method} {c : Code} {l : Launch} {b L j : Nat} {xs : Nat → Int32} {D : va_G} {qx qm : Nat → Nat} {cx cm : Nat → ClassId} {ax vx am vm : Nat → Nat} {t9 : Nat} {H : Heap} {locs : List Loc} {ls : Array Slot} {F G I R I' R' : Nat → Nat → Int32} {J J' : Nat → Nat → Int64} (C : zLaw p s m meth c b L xs D qx qm cx cm ax vx am vm t9) (hj : j + 6 ≤ L) (T : zTw D qx qm cx cm s F G I R I' R' J J' H locs) (hl : lv_has ls 4 [(0, .ref b), (1, .ref (qx 0)), (2, .ref (qm 0)), (3, .int (nI j))]) (kk : ∀ (F G I R I' R' : Nat → Nat → Int32) (J J' : Nat → Nat → Int64) (H : Heap) (locs : List Loc) (ls : Array Slot), zTw D qx qm cx cm s F G I R I' R' J J' H locs → lv_has ls 4 [(0, .ref b), (1, .ref (qx 0)), (2, .ref (qm 0)), (3, .int (nI j))] → W p l e room_1 s m #[Value.ref b] below meth c H locs 600000 7302250 (lw_Z below #[Value.ref b] s) (F0 m 1965 ls [])) : W p l e room_1 s m #[Value.ref b] below meth c H locs 600000 7302250 (lw_Z below #[Value.ref b] s) (F0 m 1535 ls []) := by
  obtain ⟨⟨hx, hb, hr, hml, hown, hts, hX, hbl, hlocks, hgv⟩, hKx, hKm, hdis, hL, hNx, hNm⟩ := id C
  have hown : s.vm.findClass "ReceiptLeftLaw" = some m.cls := hown
  have ht : ∀ w ∈ zT, w.before #[Value.ref b] s = true := fun w h => hts w (zT_lw w h)
  have hA : ∀ a, s.heap.size ≤ a → zLA s a := fun _ h => h
  have hbA : ¬ zLA s b := Nat.not_le.mpr hbl
  obtain ⟨hIx, hIm, hR, hPx, hDx, hPm, hDm, hS⟩ := T
  refine lv_aload_n hx hb dL_law_1535 rfl (lv_at hl 1 rfl) ?_
  refine lv_aload_n hx hb dL_law_1536 rfl (lv_at hl 0 rfl) ?_
  refine lv_iload_n hx hb dL_law_1537 rfl (lv_at hl 3 rfl) ?_
  refine lv_iconst (v := nI 1) hx hb dL_law_1538 (by decide +kernel) ?_
  refine lv_iadd hx hb dL_law_1539 ?_
  refine z_eqi (y := nI (j + 1)) (nI_add j 1) ?_
  refine va_sld hx hb hX hbl hbA hS (vp_in_nI (by omega) (by omega)) dL_law_1540 ?_
  refine z_eqi (y := xs (j + 1)) (congrArg xs (nI_clamp (by omega))) ?_
  refine lv_aload_n hx hb dL_law_1541 rfl (lv_at hl 0 rfl) ?_
  refine lv_iload_n hx hb dL_law_1542 rfl (lv_at hl 3 rfl) ?_
  refine lv_iconst (v := nI 2) hx hb dL_law_1543 (by decide +kernel) ?_
  refine lv_iadd hx hb dL_law_1544 ?_
  refine z_eqi (y := nI (j + 2)) (nI_add j 2) ?_
  refine va_sld hx hb hX hbl hbA hS (vp_in_nI (by omega) (by omega)) dL_law_1545 ?_
  refine z_eqi (y := xs (j + 2)) (congrArg xs (nI_clamp (by omega))) ?_
  refine lv_aload_n hx hb dL_law_1546 rfl (lv_at hl 0 rfl) ?_
  refine lv_iload_n hx hb dL_law_1547 rfl (lv_at hl 3 rfl) ?_
  refine lv_iconst (v := nI 3) hx hb dL_law_1548 (by decide +kernel) ?_
  refine lv_iadd hx hb dL_law_1549 ?_
  refine z_eqi (y := nI (j + 3)) (nI_add j 3) ?_
  refine va_sld hx hb hX hbl hbA hS (vp_in_nI (by omega) (by omega)) dL_law_1550 ?_
  refine z_eqi (y := xs (j + 3)) (congrArg xs (nI_clamp (by omega))) ?_
  refine z_callVi (k := 0) (As := [.int (xs (j + 1)), .int (xs (j + 2)), .int (xs (j + 3))]) (rest := []) hx hb hml hown ht (xk_X10_drawn l D qx cx F _ _ _ hIx (xs (j + 1)) (xs (j + 2)) (xs (j + 3))) hw_5_91 hmX10_drawn ⟨rfl, rfl⟩ (na := 3) rfl (by decide +kernel) ⟨Nat.le_of_ble_eq_true rfl, Nat.le_of_ble_eq_true rfl⟩ (by decide) rfl rfl hKx hPx hDx hS hA hl.1 rfl (Nat.le_of_ble_eq_true rfl) ⟨Nat.le_of_ble_eq_true rfl, Nat.le_of_ble_eq_true rfl⟩ dL_law_1551 (fun r_x I_x R_x J_x H1 locs hp_x hPx hDx hS hz_x hk_x => ?_)
  have hPm := z_frame (q := qx) (n := 81) hPm hdis hk_x
  generalize H1 = H at hPm hPx hS ⊢
  have hv_x := hp_x
  refine lv_pop hx hb dL_law_1554 rfl ?_
  refine lv_aload_n hx hb dL_law_1555 rfl (lv_at hl 2 rfl) ?_
  refine lv_aload_n hx hb dL_law_1556 rfl (lv_at hl 0 rfl) ?_
  refine lv_iload_n hx hb dL_law_1557 rfl (lv_at hl 3 rfl) ?_
  refine lv_iconst (v := nI 1) hx hb dL_law_1558 (by decide +kernel) ?_
  refine lv_iadd hx hb dL_law_1559 ?_
  refine z_eqi (y := nI (j + 1)) (nI_add j 1) ?_
  refine va_sld hx hb hX hbl hbA hS (vp_in_nI (by omega) (by omega)) dL_law_1560 ?_
  refine z_eqi (y := xs (j + 1)) (congrArg xs (nI_clamp (by omega))) ?_
  refine lv_aload_n hx hb dL_law_1561 rfl (lv_at hl 0 rfl) ?_
  refine lv_iload_n hx hb dL_law_1562 rfl (lv_at hl 3 rfl) ?_
  refine lv_iconst (v := nI 2) hx hb dL_law_1563 (by decide +kernel) ?_
  refine lv_iadd hx hb dL_law_1564 ?_
  refine z_eqi (y := nI (j + 2)) (nI_add j 2) ?_
  refine va_sld hx hb hX hbl hbA hS (vp_in_nI (by omega) (by omega)) dL_law_1565 ?_
  refine z_eqi (y := xs (j + 2)) (congrArg xs (nI_clamp (by omega))) ?_
  refine lv_aload_n hx hb dL_law_1566 rfl (lv_at hl 0 rfl) ?_
  refine lv_iload_n hx hb dL_law_1567 rfl (lv_at hl 3 rfl) ?_
  refine lv_iconst (v := nI 3) hx hb dL_law_1568 (by decide +kernel) ?_
  refine lv_iadd hx hb dL_law_1569 ?_
  refine z_eqi (y := nI (j + 3)) (nI_add j 3) ?_
  refine va_sld hx hb hX hbl hbA hS (vp_in_nI (by omega) (by omega)) dL_law_1570 ?_
  refine z_eqi (y := xs (j + 3)) (congrArg xs (nI_clamp (by omega))) ?_
  refine z_callVi (k := 0) (As := [.int (xs (j + 1)), .int (xs (j + 2)), .int (xs (j + 3))]) (rest := []) hx hb hml hown ht (mk_X11_drawn l D qm cm G _ _ _ hIm (xs (j + 1)) (xs (j + 2)) (xs (j + 3))) hw_8_104 hmX11_drawn ⟨rfl, rfl⟩ (na := 3) rfl (by decide +kernel) ⟨Nat.le_of_ble_eq_true rfl, Nat.le_of_ble_eq_true rfl⟩ (by decide) rfl rfl hKm hPm hDm hS hA hl.1 rfl (Nat.le_of_ble_eq_true rfl) ⟨Nat.le_of_ble_eq_true rfl, Nat.le_of_ble_eq_true rfl⟩ dL_law_1571 (fun r_m I_m R_m J_m H1 locs hp_m hPm hDm hS hz_m hk_m => ?_)
  have hPx := z_frame (q := qm) (n := 25) hPx (fun i hi j hj => (hdis j hj i hi).symm) hk_m
  have hv_m := hp_m
  have T1 := zT_mk (s := s) hv_x hv_m hR hPx hDx hPm hDm hS
  refine lv_pop hx hb dL_law_1574 rfl ?_
  refine lv_goto (tgt := 1965) hx hb dL_law_1575 (by decide) ?_
  exact kk _ _ _ _ _ _ _ _ _ _ _ T1 (lv_sub hl [0, 1, 2, 3] rfl)
set_option maxHeartbeats 4000000 in
set_option maxRecDepth 100000 in
theorem lc_52 {p : Program} {e : Env} {s : State} {m : MethodId} {below : List Frame} {meth : Method} {c : Code} {l : Launch} {b L j : Nat} {xs : Nat → Int32} {D : va_G} {qx qm : Nat → Nat} {cx cm : Nat → ClassId} {ax vx am vm : Nat → Nat} {t9 : Nat} {H : Heap} {locs : List Loc} {ls : Array Slot} {F G I R I' R' : Nat → Nat → Int32} {J J' : Nat → Nat → Int64} (C : zLaw p s m meth c b L xs D qx qm cx cm ax vx am vm t9) (hj : j + 6 ≤ L) (T : zTw D qx qm cx cm s F G I R I' R' J J' H locs) (hl : lv_has ls 4 [(0, .ref b), (1, .ref (qx 0)), (2, .ref (qm 0)), (3, .int (nI j))]) (kk : ∀ (F G I R I' R' : Nat → Nat → Int32) (J J' : Nat → Nat → Int64) (H : Heap) (locs : List Loc) (ls : Array Slot), zTw D qx qm cx cm s F G I R I' R' J J' H locs → lv_has ls 4 [(0, .ref b), (1, .ref (qx 0)), (2, .ref (qm 0)), (3, .int (nI j))] → W p l e room_1 s m #[Value.ref b] below meth c H locs 600000 7302250 (lw_Z below #[Value.ref b] s) (F0 m 1965 ls [])) : W p l e room_1 s m #[Value.ref b] below meth c H locs 600000 7302250 (lw_Z below #[Value.ref b] s) (F0 m 1578 ls []) := by
  obtain ⟨⟨hx, hb, hr, hml, hown, hts, hX, hbl, hlocks, hgv⟩, hKx, hKm, hdis, hL, hNx, hNm⟩ := id C
  have hown : s.vm.findClass "ReceiptLeftLaw" = some m.cls := hown
  have ht : ∀ w ∈ zT, w.before #[Value.ref b] s = true := fun w h => hts w (zT_lw w h)
  have hA : ∀ a, s.heap.size ≤ a → zLA s a := fun _ h => h
  have hbA : ¬ zLA s b := Nat.not_le.mpr hbl
  obtain ⟨hIx, hIm, hR, hPx, hDx, hPm, hDm, hS⟩ := T
  refine lv_aload_n hx hb dL_law_1578 rfl (lv_at hl 1 rfl) ?_
  refine lv_aload_n hx hb dL_law_1579 rfl (lv_at hl 0 rfl) ?_
  refine lv_iload_n hx hb dL_law_1580 rfl (lv_at hl 3 rfl) ?_
  refine lv_iconst (v := nI 1) hx hb dL_law_1581 (by decide +kernel) ?_
  refine lv_iadd hx hb dL_law_1582 ?_
  refine z_eqi (y := nI (j + 1)) (nI_add j 1) ?_
  refine va_sld hx hb hX hbl hbA hS (vp_in_nI (by omega) (by omega)) dL_law_1583 ?_
  refine z_eqi (y := xs (j + 1)) (congrArg xs (nI_clamp (by omega))) ?_
  refine lv_aload_n hx hb dL_law_1584 rfl (lv_at hl 0 rfl) ?_
  refine lv_iload_n hx hb dL_law_1585 rfl (lv_at hl 3 rfl) ?_
  refine lv_iconst (v := nI 2) hx hb dL_law_1586 (by decide +kernel) ?_
  refine lv_iadd hx hb dL_law_1587 ?_
  refine z_eqi (y := nI (j + 2)) (nI_add j 2) ?_
  refine va_sld hx hb hX hbl hbA hS (vp_in_nI (by omega) (by omega)) dL_law_1588 ?_
  refine z_eqi (y := xs (j + 2)) (congrArg xs (nI_clamp (by omega))) ?_
  refine lv_aload_n hx hb dL_law_1589 rfl (lv_at hl 0 rfl) ?_
  refine lv_iload_n hx hb dL_law_1590 rfl (lv_at hl 3 rfl) ?_
  refine lv_iconst (v := nI 3) hx hb dL_law_1591 (by decide +kernel) ?_
  refine lv_iadd hx hb dL_law_1592 ?_
  refine z_eqi (y := nI (j + 3)) (nI_add j 3) ?_
  refine va_sld hx hb hX hbl hbA hS (vp_in_nI (by omega) (by omega)) dL_law_1593 ?_
  refine z_eqi (y := xs (j + 3)) (congrArg xs (nI_clamp (by omega))) ?_
  refine lv_aload_n hx hb dL_law_1594 rfl (lv_at hl 0 rfl) ?_
  refine lv_iload_n hx hb dL_law_1595 rfl (lv_at hl 3 rfl) ?_
  refine lv_iconst (v := nI 4) hx hb dL_law_1596 (by decide +kernel) ?_
  refine lv_iadd hx hb dL_law_1597 ?_
  refine z_eqi (y := nI (j + 4)) (nI_add j 4) ?_
  refine va_sld hx hb hX hbl hbA hS (vp_in_nI (by omega) (by omega)) dL_law_1598 ?_
  refine z_eqi (y := xs (j + 4)) (congrArg xs (nI_clamp (by omega))) ?_
  refine lv_aload_n hx hb dL_law_1599 rfl (lv_at hl 0 rfl) ?_
  refine lv_iload_n hx hb dL_law_1600 rfl (lv_at hl 3 rfl) ?_
  refine lv_iconst (v := nI 5) hx hb dL_law_1601 (by decide +kernel) ?_
  refine lv_iadd hx hb dL_law_1602 ?_
  refine z_eqi (y := nI (j + 5)) (nI_add j 5) ?_
  refine va_sld hx hb hX hbl hbA hS (vp_in_nI (by omega) (by omega)) dL_law_1603 ?_
  refine z_eqi (y := xs (j + 5)) (congrArg xs (nI_clamp (by omega))) ?_
  refine z_callVi (k := 0) (As := [.int (xs (j + 1)), .int (xs (j + 2)), .int (xs (j + 3)), .int (xs (j + 4)), .int (xs (j + 5))]) (rest := []) hx hb hml hown ht (xk_X10_luck l D qx cx F _ _ _ hIx (xs (j + 1)) (xs (j + 2)) (xs (j + 3)) (xs (j + 4)) (xs (j + 5))) hw_5_120 hmX10_luck ⟨rfl, rfl⟩ (na := 5) rfl (by decide +kernel) ⟨Nat.le_of_ble_eq_true rfl, Nat.le_of_ble_eq_true rfl⟩ (by decide) rfl rfl hKx hPx hDx hS hA hl.1 rfl (Nat.le_of_ble_eq_true rfl) ⟨Nat.le_of_ble_eq_true rfl, Nat.le_of_ble_eq_true rfl⟩ dL_law_1604 (fun r_x I_x R_x J_x H1 locs hp_x hPx hDx hS hz_x hk_x => ?_)
  have hPm := z_frame (q := qx) (n := 81) hPm hdis hk_x
  generalize H1 = H at hPm hPx hS ⊢
  have hv_x := hp_x
  refine lv_pop hx hb dL_law_1607 rfl ?_
  refine lv_aload_n hx hb dL_law_1608 rfl (lv_at hl 2 rfl) ?_
  refine lv_aload_n hx hb dL_law_1609 rfl (lv_at hl 0 rfl) ?_
  refine lv_iload_n hx hb dL_law_1610 rfl (lv_at hl 3 rfl) ?_
  refine lv_iconst (v := nI 1) hx hb dL_law_1611 (by decide +kernel) ?_
  refine lv_iadd hx hb dL_law_1612 ?_
  refine z_eqi (y := nI (j + 1)) (nI_add j 1) ?_
  refine va_sld hx hb hX hbl hbA hS (vp_in_nI (by omega) (by omega)) dL_law_1613 ?_
  refine z_eqi (y := xs (j + 1)) (congrArg xs (nI_clamp (by omega))) ?_
  refine lv_aload_n hx hb dL_law_1614 rfl (lv_at hl 0 rfl) ?_
  refine lv_iload_n hx hb dL_law_1615 rfl (lv_at hl 3 rfl) ?_
  refine lv_iconst (v := nI 2) hx hb dL_law_1616 (by decide +kernel) ?_
  refine lv_iadd hx hb dL_law_1617 ?_
  refine z_eqi (y := nI (j + 2)) (nI_add j 2) ?_
  refine va_sld hx hb hX hbl hbA hS (vp_in_nI (by omega) (by omega)) dL_law_1618 ?_
  refine z_eqi (y := xs (j + 2)) (congrArg xs (nI_clamp (by omega))) ?_
  refine lv_aload_n hx hb dL_law_1619 rfl (lv_at hl 0 rfl) ?_
  refine lv_iload_n hx hb dL_law_1620 rfl (lv_at hl 3 rfl) ?_
  refine lv_iconst (v := nI 3) hx hb dL_law_1621 (by decide +kernel) ?_
  refine lv_iadd hx hb dL_law_1622 ?_
  refine z_eqi (y := nI (j + 3)) (nI_add j 3) ?_
  refine va_sld hx hb hX hbl hbA hS (vp_in_nI (by omega) (by omega)) dL_law_1623 ?_
  refine z_eqi (y := xs (j + 3)) (congrArg xs (nI_clamp (by omega))) ?_
  refine lv_aload_n hx hb dL_law_1624 rfl (lv_at hl 0 rfl) ?_
  refine lv_iload_n hx hb dL_law_1625 rfl (lv_at hl 3 rfl) ?_
  refine lv_iconst (v := nI 4) hx hb dL_law_1626 (by decide +kernel) ?_
  refine lv_iadd hx hb dL_law_1627 ?_
  refine z_eqi (y := nI (j + 4)) (nI_add j 4) ?_
  refine va_sld hx hb hX hbl hbA hS (vp_in_nI (by omega) (by omega)) dL_law_1628 ?_
  refine z_eqi (y := xs (j + 4)) (congrArg xs (nI_clamp (by omega))) ?_
  refine lv_aload_n hx hb dL_law_1629 rfl (lv_at hl 0 rfl) ?_
  refine lv_iload_n hx hb dL_law_1630 rfl (lv_at hl 3 rfl) ?_
  refine lv_iconst (v := nI 5) hx hb dL_law_1631 (by decide +kernel) ?_
  refine lv_iadd hx hb dL_law_1632 ?_
  refine z_eqi (y := nI (j + 5)) (nI_add j 5) ?_
  refine va_sld hx hb hX hbl hbA hS (vp_in_nI (by omega) (by omega)) dL_law_1633 ?_
  refine z_eqi (y := xs (j + 5)) (congrArg xs (nI_clamp (by omega))) ?_
  refine z_callVi (k := 0) (As := [.int (xs (j + 1)), .int (xs (j + 2)), .int (xs (j + 3)), .int (xs (j + 4)), .int (xs (j + 5))]) (rest := []) hx hb hml hown ht (mk_X11_luck l D qm cm G _ _ _ hIm (xs (j + 1)) (xs (j + 2)) (xs (j + 3)) (xs (j + 4)) (xs (j + 5))) hw_8_126 hmX11_luck ⟨rfl, rfl⟩ (na := 5) rfl (by decide +kernel) ⟨Nat.le_of_ble_eq_true rfl, Nat.le_of_ble_eq_true rfl⟩ (by decide) rfl rfl hKm hPm hDm hS hA hl.1 rfl (Nat.le_of_ble_eq_true rfl) ⟨Nat.le_of_ble_eq_true rfl, Nat.le_of_ble_eq_true rfl⟩ dL_law_1634 (fun r_m I_m R_m J_m H1 locs hp_m hPm hDm hS hz_m hk_m => ?_)
  have hPx := z_frame (q := qm) (n := 25) hPx (fun i hi j hj => (hdis j hj i hi).symm) hk_m
  have hv_m := hp_m
  have T1 := zT_mk (s := s) hv_x hv_m hR hPx hDx hPm hDm hS
  refine lv_pop hx hb dL_law_1637 rfl ?_
  refine lv_goto (tgt := 1965) hx hb dL_law_1638 (by decide) ?_
  exact kk _ _ _ _ _ _ _ _ _ _ _ T1 (lv_sub hl [0, 1, 2, 3] rfl)
set_option maxHeartbeats 4000000 in
set_option maxRecDepth 100000 in
theorem lc_53 {p : Program} {e : Env} {s : State} {m : MethodId} {below : List Frame} {meth : Method} {c : Code} {l : Launch} {b L j : Nat} {xs : Nat → Int32} {D : va_G} {qx qm : Nat → Nat} {cx cm : Nat → ClassId} {ax vx am vm : Nat → Nat} {t9 : Nat} {H : Heap} {locs : List Loc} {ls : Array Slot} {F G I R I' R' : Nat → Nat → Int32} {J J' : Nat → Nat → Int64} (C : zLaw p s m meth c b L xs D qx qm cx cm ax vx am vm t9) (hj : j + 6 ≤ L) (T : zTw D qx qm cx cm s F G I R I' R' J J' H locs) (hl : lv_has ls 4 [(0, .ref b), (1, .ref (qx 0)), (2, .ref (qm 0)), (3, .int (nI j))]) (kk : ∀ (F G I R I' R' : Nat → Nat → Int32) (J J' : Nat → Nat → Int64) (H : Heap) (locs : List Loc) (ls : Array Slot), zTw D qx qm cx cm s F G I R I' R' J J' H locs → lv_has ls 4 [(0, .ref b), (1, .ref (qx 0)), (2, .ref (qm 0)), (3, .int (nI j))] → W p l e room_1 s m #[Value.ref b] below meth c H locs 600000 7302250 (lw_Z below #[Value.ref b] s) (F0 m 1965 ls [])) : W p l e room_1 s m #[Value.ref b] below meth c H locs 600000 7302250 (lw_Z below #[Value.ref b] s) (F0 m 1641 ls []) := by
  obtain ⟨⟨hx, hb, hr, hml, hown, hts, hX, hbl, hlocks, hgv⟩, hKx, hKm, hdis, hL, hNx, hNm⟩ := id C
  have hown : s.vm.findClass "ReceiptLeftLaw" = some m.cls := hown
  have ht : ∀ w ∈ zT, w.before #[Value.ref b] s = true := fun w h => hts w (zT_lw w h)
  have hA : ∀ a, s.heap.size ≤ a → zLA s a := fun _ h => h
  have hbA : ¬ zLA s b := Nat.not_le.mpr hbl
  obtain ⟨hIx, hIm, hR, hPx, hDx, hPm, hDm, hS⟩ := T
  refine lv_aload_n hx hb dL_law_1641 rfl (lv_at hl 1 rfl) ?_
  refine lv_aload_n hx hb dL_law_1642 rfl (lv_at hl 0 rfl) ?_
  refine lv_iload_n hx hb dL_law_1643 rfl (lv_at hl 3 rfl) ?_
  refine lv_iconst (v := nI 1) hx hb dL_law_1644 (by decide +kernel) ?_
  refine lv_iadd hx hb dL_law_1645 ?_
  refine z_eqi (y := nI (j + 1)) (nI_add j 1) ?_
  refine va_sld hx hb hX hbl hbA hS (vp_in_nI (by omega) (by omega)) dL_law_1646 ?_
  refine z_eqi (y := xs (j + 1)) (congrArg xs (nI_clamp (by omega))) ?_
  refine lv_aload_n hx hb dL_law_1647 rfl (lv_at hl 0 rfl) ?_
  refine lv_iload_n hx hb dL_law_1648 rfl (lv_at hl 3 rfl) ?_
  refine lv_iconst (v := nI 2) hx hb dL_law_1649 (by decide +kernel) ?_
  refine lv_iadd hx hb dL_law_1650 ?_
  refine z_eqi (y := nI (j + 2)) (nI_add j 2) ?_
  refine va_sld hx hb hX hbl hbA hS (vp_in_nI (by omega) (by omega)) dL_law_1651 ?_
  refine z_eqi (y := xs (j + 2)) (congrArg xs (nI_clamp (by omega))) ?_
  refine z_callVi (k := 0) (As := [.int (xs (j + 1)), .int (xs (j + 2))]) (rest := []) hx hb hml hown ht (xk_X10_rate l D qx cx F _ _ _ hIx (xs (j + 1)) (xs (j + 2))) hw_5_124 hmX10_rate ⟨rfl, rfl⟩ (na := 2) rfl (by decide +kernel) ⟨Nat.le_of_ble_eq_true rfl, Nat.le_of_ble_eq_true rfl⟩ (by decide) rfl rfl hKx hPx hDx hS hA hl.1 rfl (Nat.le_of_ble_eq_true rfl) ⟨Nat.le_of_ble_eq_true rfl, Nat.le_of_ble_eq_true rfl⟩ dL_law_1652 (fun r_x I_x R_x J_x H1 locs hp_x hPx hDx hS hz_x hk_x => ?_)
  have hPm := z_frame (q := qx) (n := 81) hPm hdis hk_x
  generalize H1 = H at hPm hPx hS ⊢
  have hv_x := hp_x
  refine lv_pop hx hb dL_law_1655 rfl ?_
  refine lv_aload_n hx hb dL_law_1656 rfl (lv_at hl 2 rfl) ?_
  refine lv_aload_n hx hb dL_law_1657 rfl (lv_at hl 0 rfl) ?_
  refine lv_iload_n hx hb dL_law_1658 rfl (lv_at hl 3 rfl) ?_
  refine lv_iconst (v := nI 1) hx hb dL_law_1659 (by decide +kernel) ?_
  refine lv_iadd hx hb dL_law_1660 ?_
  refine z_eqi (y := nI (j + 1)) (nI_add j 1) ?_
  refine va_sld hx hb hX hbl hbA hS (vp_in_nI (by omega) (by omega)) dL_law_1661 ?_
  refine z_eqi (y := xs (j + 1)) (congrArg xs (nI_clamp (by omega))) ?_
  refine lv_aload_n hx hb dL_law_1662 rfl (lv_at hl 0 rfl) ?_
  refine lv_iload_n hx hb dL_law_1663 rfl (lv_at hl 3 rfl) ?_
  refine lv_iconst (v := nI 2) hx hb dL_law_1664 (by decide +kernel) ?_
  refine lv_iadd hx hb dL_law_1665 ?_
  refine z_eqi (y := nI (j + 2)) (nI_add j 2) ?_
  refine va_sld hx hb hX hbl hbA hS (vp_in_nI (by omega) (by omega)) dL_law_1666 ?_
  refine z_eqi (y := xs (j + 2)) (congrArg xs (nI_clamp (by omega))) ?_
  refine z_callVi (k := 0) (As := [.int (xs (j + 1)), .int (xs (j + 2))]) (rest := []) hx hb hml hown ht (mk_X11_rate l D qm cm G _ _ _ hIm (xs (j + 1)) (xs (j + 2))) hw_8_131 hmX11_rate ⟨rfl, rfl⟩ (na := 2) rfl (by decide +kernel) ⟨Nat.le_of_ble_eq_true rfl, Nat.le_of_ble_eq_true rfl⟩ (by decide) rfl rfl hKm hPm hDm hS hA hl.1 rfl (Nat.le_of_ble_eq_true rfl) ⟨Nat.le_of_ble_eq_true rfl, Nat.le_of_ble_eq_true rfl⟩ dL_law_1667 (fun r_m I_m R_m J_m H1 locs hp_m hPm hDm hS hz_m hk_m => ?_)
  have hPx := z_frame (q := qm) (n := 25) hPx (fun i hi j hj => (hdis j hj i hi).symm) hk_m
  obtain ⟨w9, hv_m⟩ := hp_m
  have T1 := zT_mk (s := s) hv_x hv_m (zRel_w hR) hPx hDx hPm hDm hS
  refine lv_pop hx hb dL_law_1670 rfl ?_
  refine lv_goto (tgt := 1965) hx hb dL_law_1671 (by decide) ?_
  exact kk _ _ _ _ _ _ _ _ _ _ _ T1 (lv_sub hl [0, 1, 2, 3] rfl)
set_option maxHeartbeats 4000000 in
set_option maxRecDepth 100000 in
theorem lc_54 {p : Program} {e : Env} {s : State} {m : MethodId} {below : List Frame} {meth : Method} {c : Code} {l : Launch} {b L j : Nat} {xs : Nat → Int32} {D : va_G} {qx qm : Nat → Nat} {cx cm : Nat → ClassId} {ax vx am vm : Nat → Nat} {t9 : Nat} {H : Heap} {locs : List Loc} {ls : Array Slot} {F G I R I' R' : Nat → Nat → Int32} {J J' : Nat → Nat → Int64} (C : zLaw p s m meth c b L xs D qx qm cx cm ax vx am vm t9) (hj : j + 6 ≤ L) (T : zTw D qx qm cx cm s F G I R I' R' J J' H locs) (hl : lv_has ls 4 [(0, .ref b), (1, .ref (qx 0)), (2, .ref (qm 0)), (3, .int (nI j))]) (kk : ∀ (F G I R I' R' : Nat → Nat → Int32) (J J' : Nat → Nat → Int64) (H : Heap) (locs : List Loc) (ls : Array Slot), zTw D qx qm cx cm s F G I R I' R' J J' H locs → lv_has ls 4 [(0, .ref b), (1, .ref (qx 0)), (2, .ref (qm 0)), (3, .int (nI j))] → W p l e room_1 s m #[Value.ref b] below meth c H locs 600000 7302250 (lw_Z below #[Value.ref b] s) (F0 m 1965 ls [])) : W p l e room_1 s m #[Value.ref b] below meth c H locs 600000 7302250 (lw_Z below #[Value.ref b] s) (F0 m 1674 ls []) := by
  obtain ⟨⟨hx, hb, hr, hml, hown, hts, hX, hbl, hlocks, hgv⟩, hKx, hKm, hdis, hL, hNx, hNm⟩ := id C
  have hown : s.vm.findClass "ReceiptLeftLaw" = some m.cls := hown
  have ht : ∀ w ∈ zT, w.before #[Value.ref b] s = true := fun w h => hts w (zT_lw w h)
  have hA : ∀ a, s.heap.size ≤ a → zLA s a := fun _ h => h
  have hbA : ¬ zLA s b := Nat.not_le.mpr hbl
  obtain ⟨hIx, hIm, hR, hPx, hDx, hPm, hDm, hS⟩ := T
  refine lv_aload_n hx hb dL_law_1674 rfl (lv_at hl 1 rfl) ?_
  refine lv_aload_n hx hb dL_law_1675 rfl (lv_at hl 0 rfl) ?_
  refine lv_iload_n hx hb dL_law_1676 rfl (lv_at hl 3 rfl) ?_
  refine lv_iconst (v := nI 1) hx hb dL_law_1677 (by decide +kernel) ?_
  refine lv_iadd hx hb dL_law_1678 ?_
  refine z_eqi (y := nI (j + 1)) (nI_add j 1) ?_
  refine va_sld hx hb hX hbl hbA hS (vp_in_nI (by omega) (by omega)) dL_law_1679 ?_
  refine z_eqi (y := xs (j + 1)) (congrArg xs (nI_clamp (by omega))) ?_
  refine lv_aload_n hx hb dL_law_1680 rfl (lv_at hl 0 rfl) ?_
  refine lv_iload_n hx hb dL_law_1681 rfl (lv_at hl 3 rfl) ?_
  refine lv_iconst (v := nI 2) hx hb dL_law_1682 (by decide +kernel) ?_
  refine lv_iadd hx hb dL_law_1683 ?_
  refine z_eqi (y := nI (j + 2)) (nI_add j 2) ?_
  refine va_sld hx hb hX hbl hbA hS (vp_in_nI (by omega) (by omega)) dL_law_1684 ?_
  refine z_eqi (y := xs (j + 2)) (congrArg xs (nI_clamp (by omega))) ?_
  refine lv_aload_n hx hb dL_law_1685 rfl (lv_at hl 0 rfl) ?_
  refine lv_iload_n hx hb dL_law_1686 rfl (lv_at hl 3 rfl) ?_
  refine lv_iconst (v := nI 3) hx hb dL_law_1687 (by decide +kernel) ?_
  refine lv_iadd hx hb dL_law_1688 ?_
  refine z_eqi (y := nI (j + 3)) (nI_add j 3) ?_
  refine va_sld hx hb hX hbl hbA hS (vp_in_nI (by omega) (by omega)) dL_law_1689 ?_
  refine z_eqi (y := xs (j + 3)) (congrArg xs (nI_clamp (by omega))) ?_
  refine z_callVi (k := 0) (As := [.int (xs (j + 1)), .int (xs (j + 2)), .int (xs (j + 3))]) (rest := []) hx hb hml hown ht (xk_X10_want l D qx cx F _ _ _ hIx (xs (j + 1)) (xs (j + 2)) (xs (j + 3))) hw_5_128 hmX10_want ⟨rfl, rfl⟩ (na := 3) rfl (by decide +kernel) ⟨Nat.le_of_ble_eq_true rfl, Nat.le_of_ble_eq_true rfl⟩ (by decide) rfl rfl hKx hPx hDx hS hA hl.1 rfl (Nat.le_of_ble_eq_true rfl) ⟨Nat.le_of_ble_eq_true rfl, Nat.le_of_ble_eq_true rfl⟩ dL_law_1690 (fun r_x I_x R_x J_x H1 locs hp_x hPx hDx hS hz_x hk_x => ?_)
  have hPm := z_frame (q := qx) (n := 81) hPm hdis hk_x
  generalize H1 = H at hPm hPx hS ⊢
  have hv_x := hp_x
  refine lv_pop hx hb dL_law_1693 rfl ?_
  refine lv_aload_n hx hb dL_law_1694 rfl (lv_at hl 2 rfl) ?_
  refine lv_aload_n hx hb dL_law_1695 rfl (lv_at hl 0 rfl) ?_
  refine lv_iload_n hx hb dL_law_1696 rfl (lv_at hl 3 rfl) ?_
  refine lv_iconst (v := nI 1) hx hb dL_law_1697 (by decide +kernel) ?_
  refine lv_iadd hx hb dL_law_1698 ?_
  refine z_eqi (y := nI (j + 1)) (nI_add j 1) ?_
  refine va_sld hx hb hX hbl hbA hS (vp_in_nI (by omega) (by omega)) dL_law_1699 ?_
  refine z_eqi (y := xs (j + 1)) (congrArg xs (nI_clamp (by omega))) ?_
  refine lv_aload_n hx hb dL_law_1700 rfl (lv_at hl 0 rfl) ?_
  refine lv_iload_n hx hb dL_law_1701 rfl (lv_at hl 3 rfl) ?_
  refine lv_iconst (v := nI 2) hx hb dL_law_1702 (by decide +kernel) ?_
  refine lv_iadd hx hb dL_law_1703 ?_
  refine z_eqi (y := nI (j + 2)) (nI_add j 2) ?_
  refine va_sld hx hb hX hbl hbA hS (vp_in_nI (by omega) (by omega)) dL_law_1704 ?_
  refine z_eqi (y := xs (j + 2)) (congrArg xs (nI_clamp (by omega))) ?_
  refine lv_aload_n hx hb dL_law_1705 rfl (lv_at hl 0 rfl) ?_
  refine lv_iload_n hx hb dL_law_1706 rfl (lv_at hl 3 rfl) ?_
  refine lv_iconst (v := nI 3) hx hb dL_law_1707 (by decide +kernel) ?_
  refine lv_iadd hx hb dL_law_1708 ?_
  refine z_eqi (y := nI (j + 3)) (nI_add j 3) ?_
  refine va_sld hx hb hX hbl hbA hS (vp_in_nI (by omega) (by omega)) dL_law_1709 ?_
  refine z_eqi (y := xs (j + 3)) (congrArg xs (nI_clamp (by omega))) ?_
  refine z_callVi (k := 0) (As := [.int (xs (j + 1)), .int (xs (j + 2)), .int (xs (j + 3))]) (rest := []) hx hb hml hown ht (mk_X11_want l D qm cm G _ _ _ hIm (xs (j + 1)) (xs (j + 2)) (xs (j + 3))) hw_8_139 hmX11_want ⟨rfl, rfl⟩ (na := 3) rfl (by decide +kernel) ⟨Nat.le_of_ble_eq_true rfl, Nat.le_of_ble_eq_true rfl⟩ (by decide) rfl rfl hKm hPm hDm hS hA hl.1 rfl (Nat.le_of_ble_eq_true rfl) ⟨Nat.le_of_ble_eq_true rfl, Nat.le_of_ble_eq_true rfl⟩ dL_law_1710 (fun r_m I_m R_m J_m H1 locs hp_m hPm hDm hS hz_m hk_m => ?_)
  have hPx := z_frame (q := qm) (n := 25) hPx (fun i hi j hj => (hdis j hj i hi).symm) hk_m
  obtain ⟨w9, hv_m⟩ := hp_m
  have T1 := zT_mk (s := s) hv_x hv_m (zRel_w hR) hPx hDx hPm hDm hS
  refine lv_pop hx hb dL_law_1713 rfl ?_
  refine lv_goto (tgt := 1965) hx hb dL_law_1714 (by decide) ?_
  exact kk _ _ _ _ _ _ _ _ _ _ _ T1 (lv_sub hl [0, 1, 2, 3] rfl)
set_option maxHeartbeats 4000000 in
set_option maxRecDepth 100000 in
theorem lc_55 {p : Program} {e : Env} {s : State} {m : MethodId} {below : List Frame} {meth : Method} {c : Code} {l : Launch} {b L j : Nat} {xs : Nat → Int32} {D : va_G} {qx qm : Nat → Nat} {cx cm : Nat → ClassId} {ax vx am vm : Nat → Nat} {t9 : Nat} {H : Heap} {locs : List Loc} {ls : Array Slot} {F G I R I' R' : Nat → Nat → Int32} {J J' : Nat → Nat → Int64} (C : zLaw p s m meth c b L xs D qx qm cx cm ax vx am vm t9) (hj : j + 6 ≤ L) (T : zTw D qx qm cx cm s F G I R I' R' J J' H locs) (hl : lv_has ls 4 [(0, .ref b), (1, .ref (qx 0)), (2, .ref (qm 0)), (3, .int (nI j))]) (kk : ∀ (F G I R I' R' : Nat → Nat → Int32) (J J' : Nat → Nat → Int64) (H : Heap) (locs : List Loc) (ls : Array Slot), zTw D qx qm cx cm s F G I R I' R' J J' H locs → lv_has ls 4 [(0, .ref b), (1, .ref (qx 0)), (2, .ref (qm 0)), (3, .int (nI j))] → W p l e room_1 s m #[Value.ref b] below meth c H locs 600000 7302250 (lw_Z below #[Value.ref b] s) (F0 m 1965 ls [])) : W p l e room_1 s m #[Value.ref b] below meth c H locs 600000 7302250 (lw_Z below #[Value.ref b] s) (F0 m 1717 ls []) := by
  obtain ⟨⟨hx, hb, hr, hml, hown, hts, hX, hbl, hlocks, hgv⟩, hKx, hKm, hdis, hL, hNx, hNm⟩ := id C
  have hown : s.vm.findClass "ReceiptLeftLaw" = some m.cls := hown
  have ht : ∀ w ∈ zT, w.before #[Value.ref b] s = true := fun w h => hts w (zT_lw w h)
  have hA : ∀ a, s.heap.size ≤ a → zLA s a := fun _ h => h
  have hbA : ¬ zLA s b := Nat.not_le.mpr hbl
  obtain ⟨hIx, hIm, hR, hPx, hDx, hPm, hDm, hS⟩ := T
  refine lv_aload_n hx hb dL_law_1717 rfl (lv_at hl 1 rfl) ?_
  refine lv_aload_n hx hb dL_law_1718 rfl (lv_at hl 0 rfl) ?_
  refine lv_iload_n hx hb dL_law_1719 rfl (lv_at hl 3 rfl) ?_
  refine lv_iconst (v := nI 1) hx hb dL_law_1720 (by decide +kernel) ?_
  refine lv_iadd hx hb dL_law_1721 ?_
  refine z_eqi (y := nI (j + 1)) (nI_add j 1) ?_
  refine va_sld hx hb hX hbl hbA hS (vp_in_nI (by omega) (by omega)) dL_law_1722 ?_
  refine z_eqi (y := xs (j + 1)) (congrArg xs (nI_clamp (by omega))) ?_
  refine z_callVi (k := 0) (As := [.int (xs (j + 1))]) (rest := []) hx hb hml hown ht (xk_X10_count l D qx cx F _ _ _ hIx (xs (j + 1))) hw_5_133 hmX10_count ⟨rfl, rfl⟩ (na := 1) rfl (by decide +kernel) ⟨Nat.le_of_ble_eq_true rfl, Nat.le_of_ble_eq_true rfl⟩ (by decide) rfl rfl hKx hPx hDx hS hA hl.1 rfl (Nat.le_of_ble_eq_true rfl) ⟨Nat.le_of_ble_eq_true rfl, Nat.le_of_ble_eq_true rfl⟩ dL_law_1723 (fun r_x I_x R_x J_x H1 locs hp_x hPx hDx hS hz_x hk_x => ?_)
  have hPm := z_frame (q := qx) (n := 81) hPm hdis hk_x
  generalize H1 = H at hPm hPx hS ⊢
  have hv_x := z_stayx hIx (hp_x)
  refine lv_pop hx hb dL_law_1726 rfl ?_
  refine lv_aload_n hx hb dL_law_1727 rfl (lv_at hl 2 rfl) ?_
  refine lv_aload_n hx hb dL_law_1728 rfl (lv_at hl 0 rfl) ?_
  refine lv_iload_n hx hb dL_law_1729 rfl (lv_at hl 3 rfl) ?_
  refine lv_iconst (v := nI 1) hx hb dL_law_1730 (by decide +kernel) ?_
  refine lv_iadd hx hb dL_law_1731 ?_
  refine z_eqi (y := nI (j + 1)) (nI_add j 1) ?_
  refine va_sld hx hb hX hbl hbA hS (vp_in_nI (by omega) (by omega)) dL_law_1732 ?_
  refine z_eqi (y := xs (j + 1)) (congrArg xs (nI_clamp (by omega))) ?_
  refine z_callVi (k := 0) (As := [.int (xs (j + 1))]) (rest := []) hx hb hml hown ht (mk_X11_count l D qm cm G _ _ _ hIm (xs (j + 1))) hw_8_144 hmX11_count ⟨rfl, rfl⟩ (na := 1) rfl (by decide +kernel) ⟨Nat.le_of_ble_eq_true rfl, Nat.le_of_ble_eq_true rfl⟩ (by decide) rfl rfl hKm hPm hDm hS hA hl.1 rfl (Nat.le_of_ble_eq_true rfl) ⟨Nat.le_of_ble_eq_true rfl, Nat.le_of_ble_eq_true rfl⟩ dL_law_1733 (fun r_m I_m R_m J_m H1 locs hp_m hPm hDm hS hz_m hk_m => ?_)
  have hPx := z_frame (q := qm) (n := 25) hPx (fun i hi j hj => (hdis j hj i hi).symm) hk_m
  have hv_m := (hp_m).1
  have T1 := zT_mk (s := s) hv_x hv_m hR hPx hDx hPm hDm hS
  refine lv_pop hx hb dL_law_1736 rfl ?_
  refine lv_goto (tgt := 1965) hx hb dL_law_1737 (by decide) ?_
  exact kk _ _ _ _ _ _ _ _ _ _ _ T1 (lv_sub hl [0, 1, 2, 3] rfl)
set_option maxHeartbeats 4000000 in
set_option maxRecDepth 100000 in
theorem lc_56 {p : Program} {e : Env} {s : State} {m : MethodId} {below : List Frame} {meth : Method} {c : Code} {l : Launch} {b L j : Nat} {xs : Nat → Int32} {D : va_G} {qx qm : Nat → Nat} {cx cm : Nat → ClassId} {ax vx am vm : Nat → Nat} {t9 : Nat} {H : Heap} {locs : List Loc} {ls : Array Slot} {F G I R I' R' : Nat → Nat → Int32} {J J' : Nat → Nat → Int64} (C : zLaw p s m meth c b L xs D qx qm cx cm ax vx am vm t9) (hj : j + 6 ≤ L) (T : zTw D qx qm cx cm s F G I R I' R' J J' H locs) (hl : lv_has ls 4 [(0, .ref b), (1, .ref (qx 0)), (2, .ref (qm 0)), (3, .int (nI j))]) (kk : ∀ (F G I R I' R' : Nat → Nat → Int32) (J J' : Nat → Nat → Int64) (H : Heap) (locs : List Loc) (ls : Array Slot), zTw D qx qm cx cm s F G I R I' R' J J' H locs → lv_has ls 4 [(0, .ref b), (1, .ref (qx 0)), (2, .ref (qm 0)), (3, .int (nI j))] → W p l e room_1 s m #[Value.ref b] below meth c H locs 600000 7302250 (lw_Z below #[Value.ref b] s) (F0 m 1965 ls [])) : W p l e room_1 s m #[Value.ref b] below meth c H locs 600000 7302250 (lw_Z below #[Value.ref b] s) (F0 m 1740 ls []) := by
  obtain ⟨⟨hx, hb, hr, hml, hown, hts, hX, hbl, hlocks, hgv⟩, hKx, hKm, hdis, hL, hNx, hNm⟩ := id C
  have hown : s.vm.findClass "ReceiptLeftLaw" = some m.cls := hown
  have ht : ∀ w ∈ zT, w.before #[Value.ref b] s = true := fun w h => hts w (zT_lw w h)
  have hA : ∀ a, s.heap.size ≤ a → zLA s a := fun _ h => h
  have hbA : ¬ zLA s b := Nat.not_le.mpr hbl
  obtain ⟨hIx, hIm, hR, hPx, hDx, hPm, hDm, hS⟩ := T
  refine lv_aload_n hx hb dL_law_1740 rfl (lv_at hl 1 rfl) ?_
  refine lv_aload_n hx hb dL_law_1741 rfl (lv_at hl 0 rfl) ?_
  refine lv_iload_n hx hb dL_law_1742 rfl (lv_at hl 3 rfl) ?_
  refine lv_iconst (v := nI 1) hx hb dL_law_1743 (by decide +kernel) ?_
  refine lv_iadd hx hb dL_law_1744 ?_
  refine z_eqi (y := nI (j + 1)) (nI_add j 1) ?_
  refine va_sld hx hb hX hbl hbA hS (vp_in_nI (by omega) (by omega)) dL_law_1745 ?_
  refine z_eqi (y := xs (j + 1)) (congrArg xs (nI_clamp (by omega))) ?_
  refine z_callVi (k := 0) (As := [.int (xs (j + 1))]) (rest := []) hx hb hml hown ht (xk_X10_image l D qx cx F _ _ _ hIx (xs (j + 1))) hw_5_141 hmX10_image ⟨rfl, rfl⟩ (na := 1) rfl (by decide +kernel) ⟨Nat.le_of_ble_eq_true rfl, Nat.le_of_ble_eq_true rfl⟩ (by decide) rfl rfl hKx hPx hDx hS hA hl.1 rfl (Nat.le_of_ble_eq_true rfl) ⟨Nat.le_of_ble_eq_true rfl, Nat.le_of_ble_eq_true rfl⟩ dL_law_1746 (fun r_x I_x R_x J_x H1 locs hp_x hPx hDx hS hz_x hk_x => ?_)
  have hPm := z_frame (q := qx) (n := 81) hPm hdis hk_x
  generalize H1 = H at hPm hPx hS ⊢
  refine lv_pop hx hb dL_law_1749 rfl ?_
  refine lv_aload_n hx hb dL_law_1750 rfl (lv_at hl 2 rfl) ?_
  refine lv_aload_n hx hb dL_law_1751 rfl (lv_at hl 0 rfl) ?_
  refine lv_iload_n hx hb dL_law_1752 rfl (lv_at hl 3 rfl) ?_
  refine lv_iconst (v := nI 1) hx hb dL_law_1753 (by decide +kernel) ?_
  refine lv_iadd hx hb dL_law_1754 ?_
  refine z_eqi (y := nI (j + 1)) (nI_add j 1) ?_
  refine va_sld hx hb hX hbl hbA hS (vp_in_nI (by omega) (by omega)) dL_law_1755 ?_
  refine z_eqi (y := xs (j + 1)) (congrArg xs (nI_clamp (by omega))) ?_
  refine z_callVi (k := 0) (As := [.int (xs (j + 1))]) (rest := []) hx hb hml hown ht (mk_X11_image l D qm cm G _ _ _ hIm (xs (j + 1))) hw_6_81 hmX11_image ⟨rfl, rfl⟩ (na := 1) rfl (by decide +kernel) ⟨Nat.le_of_ble_eq_true rfl, Nat.le_of_ble_eq_true rfl⟩ (by decide) rfl rfl hKm hPm hDm hS hA hl.1 rfl (Nat.le_of_ble_eq_true rfl) ⟨Nat.le_of_ble_eq_true rfl, Nat.le_of_ble_eq_true rfl⟩ dL_law_1756 (fun r_m I_m R_m J_m H1 locs hp_m hPm hDm hS hz_m hk_m => ?_)
  have hPx := z_frame (q := qm) (n := 25) hPx (fun i hi j hj => (hdis j hj i hi).symm) hk_m
  obtain ⟨heq, F1, G1, hv_x, hv_m, hR1⟩ := zl_image hR hIx hIm hp_x hp_m
  have T1 := zT_mk (s := s) hv_x hv_m hR1 hPx hDx hPm hDm hS
  refine lv_pop hx hb dL_law_1759 rfl ?_
  refine lv_goto (tgt := 1965) hx hb dL_law_1760 (by decide) ?_
  exact kk _ _ _ _ _ _ _ _ _ _ _ T1 (lv_sub hl [0, 1, 2, 3] rfl)
set_option maxHeartbeats 4000000 in
set_option maxRecDepth 100000 in
theorem lc_57 {p : Program} {e : Env} {s : State} {m : MethodId} {below : List Frame} {meth : Method} {c : Code} {l : Launch} {b L j : Nat} {xs : Nat → Int32} {D : va_G} {qx qm : Nat → Nat} {cx cm : Nat → ClassId} {ax vx am vm : Nat → Nat} {t9 : Nat} {H : Heap} {locs : List Loc} {ls : Array Slot} {F G I R I' R' : Nat → Nat → Int32} {J J' : Nat → Nat → Int64} (C : zLaw p s m meth c b L xs D qx qm cx cm ax vx am vm t9) (hj : j + 6 ≤ L) (T : zTw D qx qm cx cm s F G I R I' R' J J' H locs) (hl : lv_has ls 4 [(0, .ref b), (1, .ref (qx 0)), (2, .ref (qm 0)), (3, .int (nI j))]) (kk : ∀ (F G I R I' R' : Nat → Nat → Int32) (J J' : Nat → Nat → Int64) (H : Heap) (locs : List Loc) (ls : Array Slot), zTw D qx qm cx cm s F G I R I' R' J J' H locs → lv_has ls 4 [(0, .ref b), (1, .ref (qx 0)), (2, .ref (qm 0)), (3, .int (nI j))] → W p l e room_1 s m #[Value.ref b] below meth c H locs 600000 7302250 (lw_Z below #[Value.ref b] s) (F0 m 1965 ls [])) : W p l e room_1 s m #[Value.ref b] below meth c H locs 600000 7302250 (lw_Z below #[Value.ref b] s) (F0 m 1763 ls []) := by
  obtain ⟨⟨hx, hb, hr, hml, hown, hts, hX, hbl, hlocks, hgv⟩, hKx, hKm, hdis, hL, hNx, hNm⟩ := id C
  have hown : s.vm.findClass "ReceiptLeftLaw" = some m.cls := hown
  have ht : ∀ w ∈ zT, w.before #[Value.ref b] s = true := fun w h => hts w (zT_lw w h)
  have hA : ∀ a, s.heap.size ≤ a → zLA s a := fun _ h => h
  have hbA : ¬ zLA s b := Nat.not_le.mpr hbl
  obtain ⟨hIx, hIm, hR, hPx, hDx, hPm, hDm, hS⟩ := T
  refine lv_aload_n hx hb dL_law_1763 rfl (lv_at hl 1 rfl) ?_
  refine lv_aload_n hx hb dL_law_1764 rfl (lv_at hl 0 rfl) ?_
  refine lv_iload_n hx hb dL_law_1765 rfl (lv_at hl 3 rfl) ?_
  refine lv_iconst (v := nI 1) hx hb dL_law_1766 (by decide +kernel) ?_
  refine lv_iadd hx hb dL_law_1767 ?_
  refine z_eqi (y := nI (j + 1)) (nI_add j 1) ?_
  refine va_sld hx hb hX hbl hbA hS (vp_in_nI (by omega) (by omega)) dL_law_1768 ?_
  refine z_eqi (y := xs (j + 1)) (congrArg xs (nI_clamp (by omega))) ?_
  refine z_callVi (k := 0) (As := [.int (xs (j + 1))]) (rest := []) hx hb hml hown ht (xk_X10_back l D qx cx F _ _ _ hIx (xs (j + 1))) hw_5_150 hmX10_back ⟨rfl, rfl⟩ (na := 1) rfl (by decide +kernel) ⟨Nat.le_of_ble_eq_true rfl, Nat.le_of_ble_eq_true rfl⟩ (by decide) rfl rfl hKx hPx hDx hS hA hl.1 rfl (Nat.le_of_ble_eq_true rfl) ⟨Nat.le_of_ble_eq_true rfl, Nat.le_of_ble_eq_true rfl⟩ dL_law_1769 (fun r_x I_x R_x J_x H1 locs hp_x hPx hDx hS hz_x hk_x => ?_)
  have hPm := z_frame (q := qx) (n := 81) hPm hdis hk_x
  generalize H1 = H at hPm hPx hS ⊢
  refine lv_pop hx hb dL_law_1772 rfl ?_
  refine lv_aload_n hx hb dL_law_1773 rfl (lv_at hl 2 rfl) ?_
  refine lv_aload_n hx hb dL_law_1774 rfl (lv_at hl 0 rfl) ?_
  refine lv_iload_n hx hb dL_law_1775 rfl (lv_at hl 3 rfl) ?_
  refine lv_iconst (v := nI 1) hx hb dL_law_1776 (by decide +kernel) ?_
  refine lv_iadd hx hb dL_law_1777 ?_
  refine z_eqi (y := nI (j + 1)) (nI_add j 1) ?_
  refine va_sld hx hb hX hbl hbA hS (vp_in_nI (by omega) (by omega)) dL_law_1778 ?_
  refine z_eqi (y := xs (j + 1)) (congrArg xs (nI_clamp (by omega))) ?_
  refine z_callVi (k := 0) (As := [.int (xs (j + 1))]) (rest := []) hx hb hml hown ht (mk_X11_back l D qm cm G _ _ _ hIm (xs (j + 1))) hw_6_89 hmX11_back ⟨rfl, rfl⟩ (na := 1) rfl (by decide +kernel) ⟨Nat.le_of_ble_eq_true rfl, Nat.le_of_ble_eq_true rfl⟩ (by decide) rfl rfl hKm hPm hDm hS hA hl.1 rfl (Nat.le_of_ble_eq_true rfl) ⟨Nat.le_of_ble_eq_true rfl, Nat.le_of_ble_eq_true rfl⟩ dL_law_1779 (fun r_m I_m R_m J_m H1 locs hp_m hPm hDm hS hz_m hk_m => ?_)
  have hPx := z_frame (q := qm) (n := 25) hPx (fun i hi j hj => (hdis j hj i hi).symm) hk_m
  obtain ⟨heq, F1, G1, hv_x, hv_m, hR1⟩ := zl_back hR hIx hIm hp_x hp_m
  have T1 := zT_mk (s := s) hv_x hv_m hR1 hPx hDx hPm hDm hS
  refine lv_pop hx hb dL_law_1782 rfl ?_
  refine lv_goto (tgt := 1965) hx hb dL_law_1783 (by decide) ?_
  exact kk _ _ _ _ _ _ _ _ _ _ _ T1 (lv_sub hl [0, 1, 2, 3] rfl)
set_option maxHeartbeats 4000000 in
set_option maxRecDepth 100000 in
theorem lc_58 {p : Program} {e : Env} {s : State} {m : MethodId} {below : List Frame} {meth : Method} {c : Code} {l : Launch} {b L j : Nat} {xs : Nat → Int32} {D : va_G} {qx qm : Nat → Nat} {cx cm : Nat → ClassId} {ax vx am vm : Nat → Nat} {t9 : Nat} {H : Heap} {locs : List Loc} {ls : Array Slot} {F G I R I' R' : Nat → Nat → Int32} {J J' : Nat → Nat → Int64} (C : zLaw p s m meth c b L xs D qx qm cx cm ax vx am vm t9) (hj : j + 6 ≤ L) (T : zTw D qx qm cx cm s F G I R I' R' J J' H locs) (hl : lv_has ls 4 [(0, .ref b), (1, .ref (qx 0)), (2, .ref (qm 0)), (3, .int (nI j))]) (kk : ∀ (F G I R I' R' : Nat → Nat → Int32) (J J' : Nat → Nat → Int64) (H : Heap) (locs : List Loc) (ls : Array Slot), zTw D qx qm cx cm s F G I R I' R' J J' H locs → lv_has ls 4 [(0, .ref b), (1, .ref (qx 0)), (2, .ref (qm 0)), (3, .int (nI j))] → W p l e room_1 s m #[Value.ref b] below meth c H locs 600000 7302250 (lw_Z below #[Value.ref b] s) (F0 m 1965 ls [])) : W p l e room_1 s m #[Value.ref b] below meth c H locs 600000 7302250 (lw_Z below #[Value.ref b] s) (F0 m 1786 ls []) := by
  obtain ⟨⟨hx, hb, hr, hml, hown, hts, hX, hbl, hlocks, hgv⟩, hKx, hKm, hdis, hL, hNx, hNm⟩ := id C
  have hown : s.vm.findClass "ReceiptLeftLaw" = some m.cls := hown
  have ht : ∀ w ∈ zT, w.before #[Value.ref b] s = true := fun w h => hts w (zT_lw w h)
  have hA : ∀ a, s.heap.size ≤ a → zLA s a := fun _ h => h
  have hbA : ¬ zLA s b := Nat.not_le.mpr hbl
  obtain ⟨hIx, hIm, hR, hPx, hDx, hPm, hDm, hS⟩ := T
  refine lv_aload_n hx hb dL_law_1786 rfl (lv_at hl 1 rfl) ?_
  refine lv_aload_n hx hb dL_law_1787 rfl (lv_at hl 0 rfl) ?_
  refine lv_iload_n hx hb dL_law_1788 rfl (lv_at hl 3 rfl) ?_
  refine lv_iconst (v := nI 1) hx hb dL_law_1789 (by decide +kernel) ?_
  refine lv_iadd hx hb dL_law_1790 ?_
  refine z_eqi (y := nI (j + 1)) (nI_add j 1) ?_
  refine va_sld hx hb hX hbl hbA hS (vp_in_nI (by omega) (by omega)) dL_law_1791 ?_
  refine z_eqi (y := xs (j + 1)) (congrArg xs (nI_clamp (by omega))) ?_
  refine lv_aload_n hx hb dL_law_1792 rfl (lv_at hl 0 rfl) ?_
  refine lv_iload_n hx hb dL_law_1793 rfl (lv_at hl 3 rfl) ?_
  refine lv_iconst (v := nI 2) hx hb dL_law_1794 (by decide +kernel) ?_
  refine lv_iadd hx hb dL_law_1795 ?_
  refine z_eqi (y := nI (j + 2)) (nI_add j 2) ?_
  refine va_sld hx hb hX hbl hbA hS (vp_in_nI (by omega) (by omega)) dL_law_1796 ?_
  refine z_eqi (y := xs (j + 2)) (congrArg xs (nI_clamp (by omega))) ?_
  refine lv_aload_n hx hb dL_law_1797 rfl (lv_at hl 0 rfl) ?_
  refine lv_iload_n hx hb dL_law_1798 rfl (lv_at hl 3 rfl) ?_
  refine lv_iconst (v := nI 3) hx hb dL_law_1799 (by decide +kernel) ?_
  refine lv_iadd hx hb dL_law_1800 ?_
  refine z_eqi (y := nI (j + 3)) (nI_add j 3) ?_
  refine va_sld hx hb hX hbl hbA hS (vp_in_nI (by omega) (by omega)) dL_law_1801 ?_
  refine z_eqi (y := xs (j + 3)) (congrArg xs (nI_clamp (by omega))) ?_
  refine z_callVi (k := 0) (As := [.int (xs (j + 1)), .int (xs (j + 2)), .int (xs (j + 3))]) (rest := []) hx hb hml hown ht (xk_X10_row l D qx cx F _ _ _ hIx (xs (j + 1)) (xs (j + 2)) (xs (j + 3))) hw_5_154 hmX10_row ⟨rfl, rfl⟩ (na := 3) rfl (by decide +kernel) ⟨Nat.le_of_ble_eq_true rfl, Nat.le_of_ble_eq_true rfl⟩ (by decide) rfl rfl hKx hPx hDx hS hA hl.1 rfl (Nat.le_of_ble_eq_true rfl) ⟨Nat.le_of_ble_eq_true rfl, Nat.le_of_ble_eq_true rfl⟩ dL_law_1802 (fun r_x I_x R_x J_x H1 locs hp_x hPx hDx hS hz_x hk_x => ?_)
  have hPm := z_frame (q := qx) (n := 81) hPm hdis hk_x
  generalize H1 = H at hPm hPx hS ⊢
  refine lv_pop hx hb dL_law_1805 rfl ?_
  refine lv_aload_n hx hb dL_law_1806 rfl (lv_at hl 2 rfl) ?_
  refine lv_aload_n hx hb dL_law_1807 rfl (lv_at hl 0 rfl) ?_
  refine lv_iload_n hx hb dL_law_1808 rfl (lv_at hl 3 rfl) ?_
  refine lv_iconst (v := nI 1) hx hb dL_law_1809 (by decide +kernel) ?_
  refine lv_iadd hx hb dL_law_1810 ?_
  refine z_eqi (y := nI (j + 1)) (nI_add j 1) ?_
  refine va_sld hx hb hX hbl hbA hS (vp_in_nI (by omega) (by omega)) dL_law_1811 ?_
  refine z_eqi (y := xs (j + 1)) (congrArg xs (nI_clamp (by omega))) ?_
  refine lv_aload_n hx hb dL_law_1812 rfl (lv_at hl 0 rfl) ?_
  refine lv_iload_n hx hb dL_law_1813 rfl (lv_at hl 3 rfl) ?_
  refine lv_iconst (v := nI 2) hx hb dL_law_1814 (by decide +kernel) ?_
  refine lv_iadd hx hb dL_law_1815 ?_
  refine z_eqi (y := nI (j + 2)) (nI_add j 2) ?_
  refine va_sld hx hb hX hbl hbA hS (vp_in_nI (by omega) (by omega)) dL_law_1816 ?_
  refine z_eqi (y := xs (j + 2)) (congrArg xs (nI_clamp (by omega))) ?_
  refine lv_aload_n hx hb dL_law_1817 rfl (lv_at hl 0 rfl) ?_
  refine lv_iload_n hx hb dL_law_1818 rfl (lv_at hl 3 rfl) ?_
  refine lv_iconst (v := nI 3) hx hb dL_law_1819 (by decide +kernel) ?_
  refine lv_iadd hx hb dL_law_1820 ?_
  refine z_eqi (y := nI (j + 3)) (nI_add j 3) ?_
  refine va_sld hx hb hX hbl hbA hS (vp_in_nI (by omega) (by omega)) dL_law_1821 ?_
  refine z_eqi (y := xs (j + 3)) (congrArg xs (nI_clamp (by omega))) ?_
  refine z_callVi (k := 0) (As := [.int (xs (j + 1)), .int (xs (j + 2)), .int (xs (j + 3))]) (rest := []) hx hb hml hown ht (mk_X11_row l D qm cm G _ _ _ hIm (xs (j + 1)) (xs (j + 2)) (xs (j + 3))) hw_8_148 hmX11_row ⟨rfl, rfl⟩ (na := 3) rfl (by decide +kernel) ⟨Nat.le_of_ble_eq_true rfl, Nat.le_of_ble_eq_true rfl⟩ (by decide) rfl rfl hKm hPm hDm hS hA hl.1 rfl (Nat.le_of_ble_eq_true rfl) ⟨Nat.le_of_ble_eq_true rfl, Nat.le_of_ble_eq_true rfl⟩ dL_law_1822 (fun r_m I_m R_m J_m H1 locs hp_m hPm hDm hS hz_m hk_m => ?_)
  have hPx := z_frame (q := qm) (n := 25) hPx (fun i hi j hj => (hdis j hj i hi).symm) hk_m
  obtain ⟨heq, F1, G1, hv_x, hv_m, hR1⟩ := zl_row hR hIx hIm hp_x hp_m
  have T1 := zT_mk (s := s) hv_x hv_m hR1 hPx hDx hPm hDm hS
  refine lv_pop hx hb dL_law_1825 rfl ?_
  refine lv_goto (tgt := 1965) hx hb dL_law_1826 (by decide) ?_
  exact kk _ _ _ _ _ _ _ _ _ _ _ T1 (lv_sub hl [0, 1, 2, 3] rfl)
set_option maxHeartbeats 4000000 in
set_option maxRecDepth 100000 in
theorem lc_59 {p : Program} {e : Env} {s : State} {m : MethodId} {below : List Frame} {meth : Method} {c : Code} {l : Launch} {b L j : Nat} {xs : Nat → Int32} {D : va_G} {qx qm : Nat → Nat} {cx cm : Nat → ClassId} {ax vx am vm : Nat → Nat} {t9 : Nat} {H : Heap} {locs : List Loc} {ls : Array Slot} {F G I R I' R' : Nat → Nat → Int32} {J J' : Nat → Nat → Int64} (C : zLaw p s m meth c b L xs D qx qm cx cm ax vx am vm t9) (hj : j + 6 ≤ L) (T : zTw D qx qm cx cm s F G I R I' R' J J' H locs) (hl : lv_has ls 4 [(0, .ref b), (1, .ref (qx 0)), (2, .ref (qm 0)), (3, .int (nI j))]) (kk : ∀ (F G I R I' R' : Nat → Nat → Int32) (J J' : Nat → Nat → Int64) (H : Heap) (locs : List Loc) (ls : Array Slot), zTw D qx qm cx cm s F G I R I' R' J J' H locs → lv_has ls 4 [(0, .ref b), (1, .ref (qx 0)), (2, .ref (qm 0)), (3, .int (nI j))] → W p l e room_1 s m #[Value.ref b] below meth c H locs 600000 7302250 (lw_Z below #[Value.ref b] s) (F0 m 1965 ls [])) : W p l e room_1 s m #[Value.ref b] below meth c H locs 600000 7302250 (lw_Z below #[Value.ref b] s) (F0 m 1829 ls []) := by
  obtain ⟨⟨hx, hb, hr, hml, hown, hts, hX, hbl, hlocks, hgv⟩, hKx, hKm, hdis, hL, hNx, hNm⟩ := id C
  have hown : s.vm.findClass "ReceiptLeftLaw" = some m.cls := hown
  have ht : ∀ w ∈ zT, w.before #[Value.ref b] s = true := fun w h => hts w (zT_lw w h)
  have hA : ∀ a, s.heap.size ≤ a → zLA s a := fun _ h => h
  have hbA : ¬ zLA s b := Nat.not_le.mpr hbl
  obtain ⟨hIx, hIm, hR, hPx, hDx, hPm, hDm, hS⟩ := T
  refine lv_aload_n hx hb dL_law_1829 rfl (lv_at hl 1 rfl) ?_
  refine lv_aload_n hx hb dL_law_1830 rfl (lv_at hl 0 rfl) ?_
  refine lv_iload_n hx hb dL_law_1831 rfl (lv_at hl 3 rfl) ?_
  refine lv_iconst (v := nI 1) hx hb dL_law_1832 (by decide +kernel) ?_
  refine lv_iadd hx hb dL_law_1833 ?_
  refine z_eqi (y := nI (j + 1)) (nI_add j 1) ?_
  refine va_sld hx hb hX hbl hbA hS (vp_in_nI (by omega) (by omega)) dL_law_1834 ?_
  refine z_eqi (y := xs (j + 1)) (congrArg xs (nI_clamp (by omega))) ?_
  refine lv_aload_n hx hb dL_law_1835 rfl (lv_at hl 0 rfl) ?_
  refine lv_iload_n hx hb dL_law_1836 rfl (lv_at hl 3 rfl) ?_
  refine lv_iconst (v := nI 2) hx hb dL_law_1837 (by decide +kernel) ?_
  refine lv_iadd hx hb dL_law_1838 ?_
  refine z_eqi (y := nI (j + 2)) (nI_add j 2) ?_
  refine va_sld hx hb hX hbl hbA hS (vp_in_nI (by omega) (by omega)) dL_law_1839 ?_
  refine z_eqi (y := xs (j + 2)) (congrArg xs (nI_clamp (by omega))) ?_
  refine lv_aload_n hx hb dL_law_1840 rfl (lv_at hl 0 rfl) ?_
  refine lv_iload_n hx hb dL_law_1841 rfl (lv_at hl 3 rfl) ?_
  refine lv_iconst (v := nI 3) hx hb dL_law_1842 (by decide +kernel) ?_
  refine lv_iadd hx hb dL_law_1843 ?_
  refine z_eqi (y := nI (j + 3)) (nI_add j 3) ?_
  refine va_sld hx hb hX hbl hbA hS (vp_in_nI (by omega) (by omega)) dL_law_1844 ?_
  refine z_eqi (y := xs (j + 3)) (congrArg xs (nI_clamp (by omega))) ?_
  refine lv_i2l (v := (xs (j + 3)).toInt64) hx hb dL_law_1845 rfl ?_
  refine lv_bipush (v := nI 32) hx hb dL_law_1846 (by decide +kernel) ?_
  refine lv_lshl (v := ((xs (j + 3)).toInt64) <<< ((nI 32).toInt64 &&& 63)) hx hb dL_law_1848 rfl ?_
  refine lv_aload_n hx hb dL_law_1849 rfl (lv_at hl 0 rfl) ?_
  refine lv_iload_n hx hb dL_law_1850 rfl (lv_at hl 3 rfl) ?_
  refine lv_iconst (v := nI 4) hx hb dL_law_1851 (by decide +kernel) ?_
  refine lv_iadd hx hb dL_law_1852 ?_
  refine z_eqi (y := nI (j + 4)) (nI_add j 4) ?_
  refine va_sld hx hb hX hbl hbA hS (vp_in_nI (by omega) (by omega)) dL_law_1853 ?_
  refine z_eqi (y := xs (j + 4)) (congrArg xs (nI_clamp (by omega))) ?_
  refine lv_i2l (v := (xs (j + 4)).toInt64) hx hb dL_law_1854 rfl ?_
  refine lv_ldc2 (v := (4294967295 : Int64)) hx hb hown (ht _ hw_8_163) dL_law_1855 ?_
  refine lv_land hx hb dL_law_1858 ?_
  refine lv_lor hx hb dL_law_1859 ?_
  refine z_callVi (k := 0) (As := [.int (xs (j + 1)), .int (xs (j + 2)), .long ((((xs (j + 3)).toInt64) <<< ((nI 32).toInt64 &&& 63)) ||| (((xs (j + 4)).toInt64) &&& ((4294967295 : Int64))))]) (rest := []) hx hb hml hown ht (xk_X10_write l D qx cx F _ _ _ hIx (xs (j + 1)) (xs (j + 2)) ((((xs (j + 3)).toInt64) <<< ((nI 32).toInt64 &&& 63)) ||| (((xs (j + 4)).toInt64) &&& ((4294967295 : Int64))))) hw_5_165 hmX10_write ⟨rfl, rfl⟩ (na := 3) rfl (by decide +kernel) ⟨Nat.le_of_ble_eq_true rfl, Nat.le_of_ble_eq_true rfl⟩ (by decide) rfl rfl hKx hPx hDx hS hA hl.1 rfl (Nat.le_of_ble_eq_true rfl) ⟨Nat.le_of_ble_eq_true rfl, Nat.le_of_ble_eq_true rfl⟩ dL_law_1860 (fun r_x I_x R_x J_x H1 locs hp_x hPx hDx hS hz_x hk_x => ?_)
  have hPm := z_frame (q := qx) (n := 81) hPm hdis hk_x
  generalize H1 = H at hPm hPx hS ⊢
  refine lv_pop hx hb dL_law_1863 rfl ?_
  refine lv_aload_n hx hb dL_law_1864 rfl (lv_at hl 2 rfl) ?_
  refine lv_aload_n hx hb dL_law_1865 rfl (lv_at hl 0 rfl) ?_
  refine lv_iload_n hx hb dL_law_1866 rfl (lv_at hl 3 rfl) ?_
  refine lv_iconst (v := nI 1) hx hb dL_law_1867 (by decide +kernel) ?_
  refine lv_iadd hx hb dL_law_1868 ?_
  refine z_eqi (y := nI (j + 1)) (nI_add j 1) ?_
  refine va_sld hx hb hX hbl hbA hS (vp_in_nI (by omega) (by omega)) dL_law_1869 ?_
  refine z_eqi (y := xs (j + 1)) (congrArg xs (nI_clamp (by omega))) ?_
  refine lv_aload_n hx hb dL_law_1870 rfl (lv_at hl 0 rfl) ?_
  refine lv_iload_n hx hb dL_law_1871 rfl (lv_at hl 3 rfl) ?_
  refine lv_iconst (v := nI 2) hx hb dL_law_1872 (by decide +kernel) ?_
  refine lv_iadd hx hb dL_law_1873 ?_
  refine z_eqi (y := nI (j + 2)) (nI_add j 2) ?_
  refine va_sld hx hb hX hbl hbA hS (vp_in_nI (by omega) (by omega)) dL_law_1874 ?_
  refine z_eqi (y := xs (j + 2)) (congrArg xs (nI_clamp (by omega))) ?_
  refine lv_aload_n hx hb dL_law_1875 rfl (lv_at hl 0 rfl) ?_
  refine lv_iload_n hx hb dL_law_1876 rfl (lv_at hl 3 rfl) ?_
  refine lv_iconst (v := nI 3) hx hb dL_law_1877 (by decide +kernel) ?_
  refine lv_iadd hx hb dL_law_1878 ?_
  refine z_eqi (y := nI (j + 3)) (nI_add j 3) ?_
  refine va_sld hx hb hX hbl hbA hS (vp_in_nI (by omega) (by omega)) dL_law_1879 ?_
  refine z_eqi (y := xs (j + 3)) (congrArg xs (nI_clamp (by omega))) ?_
  refine lv_i2l (v := (xs (j + 3)).toInt64) hx hb dL_law_1880 rfl ?_
  refine lv_bipush (v := nI 32) hx hb dL_law_1881 (by decide +kernel) ?_
  refine lv_lshl (v := ((xs (j + 3)).toInt64) <<< ((nI 32).toInt64 &&& 63)) hx hb dL_law_1883 rfl ?_
  refine lv_aload_n hx hb dL_law_1884 rfl (lv_at hl 0 rfl) ?_
  refine lv_iload_n hx hb dL_law_1885 rfl (lv_at hl 3 rfl) ?_
  refine lv_iconst (v := nI 4) hx hb dL_law_1886 (by decide +kernel) ?_
  refine lv_iadd hx hb dL_law_1887 ?_
  refine z_eqi (y := nI (j + 4)) (nI_add j 4) ?_
  refine va_sld hx hb hX hbl hbA hS (vp_in_nI (by omega) (by omega)) dL_law_1888 ?_
  refine z_eqi (y := xs (j + 4)) (congrArg xs (nI_clamp (by omega))) ?_
  refine lv_i2l (v := (xs (j + 4)).toInt64) hx hb dL_law_1889 rfl ?_
  refine lv_ldc2 (v := (4294967295 : Int64)) hx hb hown (ht _ hw_8_163) dL_law_1890 ?_
  refine lv_land hx hb dL_law_1893 ?_
  refine lv_lor hx hb dL_law_1894 ?_
  refine z_callVi (k := 0) (As := [.int (xs (j + 1)), .int (xs (j + 2)), .long ((((xs (j + 3)).toInt64) <<< ((nI 32).toInt64 &&& 63)) ||| (((xs (j + 4)).toInt64) &&& ((4294967295 : Int64))))]) (rest := []) hx hb hml hown ht (mk_X11_write l D qm cm G _ _ _ hIm (xs (j + 1)) (xs (j + 2)) ((((xs (j + 3)).toInt64) <<< ((nI 32).toInt64 &&& 63)) ||| (((xs (j + 4)).toInt64) &&& ((4294967295 : Int64))))) hw_8_152 hmX11_write ⟨rfl, rfl⟩ (na := 3) rfl (by decide +kernel) ⟨Nat.le_of_ble_eq_true rfl, Nat.le_of_ble_eq_true rfl⟩ (by decide) rfl rfl hKm hPm hDm hS hA hl.1 rfl (Nat.le_of_ble_eq_true rfl) ⟨Nat.le_of_ble_eq_true rfl, Nat.le_of_ble_eq_true rfl⟩ dL_law_1895 (fun r_m I_m R_m J_m H1 locs hp_m hPm hDm hS hz_m hk_m => ?_)
  have hPx := z_frame (q := qm) (n := 25) hPx (fun i hi j hj => (hdis j hj i hi).symm) hk_m
  obtain ⟨heq, F1, G1, hv_x, hv_m, hR1⟩ := zl_write hR hIx hIm hp_x hp_m
  have T1 := zT_mk (s := s) hv_x hv_m hR1 hPx hDx hPm hDm hS
  refine lv_pop hx hb dL_law_1898 rfl ?_
  refine lv_goto (tgt := 1965) hx hb dL_law_1899 (by decide) ?_
  exact kk _ _ _ _ _ _ _ _ _ _ _ T1 (lv_sub hl [0, 1, 2, 3] rfl)
set_option maxHeartbeats 4000000 in
set_option maxRecDepth 100000 in
theorem lc_60 {p : Program} {e : Env} {s : State} {m : MethodId} {below : List Frame} {meth : Method} {c : Code} {l : Launch} {b L j : Nat} {xs : Nat → Int32} {D : va_G} {qx qm : Nat → Nat} {cx cm : Nat → ClassId} {ax vx am vm : Nat → Nat} {t9 : Nat} {H : Heap} {locs : List Loc} {ls : Array Slot} {F G I R I' R' : Nat → Nat → Int32} {J J' : Nat → Nat → Int64} (C : zLaw p s m meth c b L xs D qx qm cx cm ax vx am vm t9) (hj : j + 6 ≤ L) (T : zTw D qx qm cx cm s F G I R I' R' J J' H locs) (hl : lv_has ls 4 [(0, .ref b), (1, .ref (qx 0)), (2, .ref (qm 0)), (3, .int (nI j))]) (kk : ∀ (F G I R I' R' : Nat → Nat → Int32) (J J' : Nat → Nat → Int64) (H : Heap) (locs : List Loc) (ls : Array Slot), zTw D qx qm cx cm s F G I R I' R' J J' H locs → lv_has ls 4 [(0, .ref b), (1, .ref (qx 0)), (2, .ref (qm 0)), (3, .int (nI j))] → W p l e room_1 s m #[Value.ref b] below meth c H locs 600000 7302250 (lw_Z below #[Value.ref b] s) (F0 m 1965 ls [])) : W p l e room_1 s m #[Value.ref b] below meth c H locs 600000 7302250 (lw_Z below #[Value.ref b] s) (F0 m 1902 ls []) := by
  obtain ⟨⟨hx, hb, hr, hml, hown, hts, hX, hbl, hlocks, hgv⟩, hKx, hKm, hdis, hL, hNx, hNm⟩ := id C
  have hown : s.vm.findClass "ReceiptLeftLaw" = some m.cls := hown
  have ht : ∀ w ∈ zT, w.before #[Value.ref b] s = true := fun w h => hts w (zT_lw w h)
  have hA : ∀ a, s.heap.size ≤ a → zLA s a := fun _ h => h
  have hbA : ¬ zLA s b := Nat.not_le.mpr hbl
  obtain ⟨hIx, hIm, hR, hPx, hDx, hPm, hDm, hS⟩ := T
  refine lv_aload_n hx hb dL_law_1902 rfl (lv_at hl 1 rfl) ?_
  refine lv_aload_n hx hb dL_law_1903 rfl (lv_at hl 0 rfl) ?_
  refine lv_iload_n hx hb dL_law_1904 rfl (lv_at hl 3 rfl) ?_
  refine lv_iconst (v := nI 1) hx hb dL_law_1905 (by decide +kernel) ?_
  refine lv_iadd hx hb dL_law_1906 ?_
  refine z_eqi (y := nI (j + 1)) (nI_add j 1) ?_
  refine va_sld hx hb hX hbl hbA hS (vp_in_nI (by omega) (by omega)) dL_law_1907 ?_
  refine z_eqi (y := xs (j + 1)) (congrArg xs (nI_clamp (by omega))) ?_
  refine lv_aload_n hx hb dL_law_1908 rfl (lv_at hl 0 rfl) ?_
  refine lv_iload_n hx hb dL_law_1909 rfl (lv_at hl 3 rfl) ?_
  refine lv_iconst (v := nI 2) hx hb dL_law_1910 (by decide +kernel) ?_
  refine lv_iadd hx hb dL_law_1911 ?_
  refine z_eqi (y := nI (j + 2)) (nI_add j 2) ?_
  refine va_sld hx hb hX hbl hbA hS (vp_in_nI (by omega) (by omega)) dL_law_1912 ?_
  refine z_eqi (y := xs (j + 2)) (congrArg xs (nI_clamp (by omega))) ?_
  refine lv_aload_n hx hb dL_law_1913 rfl (lv_at hl 0 rfl) ?_
  refine lv_iload_n hx hb dL_law_1914 rfl (lv_at hl 3 rfl) ?_
  refine lv_iconst (v := nI 3) hx hb dL_law_1915 (by decide +kernel) ?_
  refine lv_iadd hx hb dL_law_1916 ?_
  refine z_eqi (y := nI (j + 3)) (nI_add j 3) ?_
  refine va_sld hx hb hX hbl hbA hS (vp_in_nI (by omega) (by omega)) dL_law_1917 ?_
  refine z_eqi (y := xs (j + 3)) (congrArg xs (nI_clamp (by omega))) ?_
  refine lv_aload_n hx hb dL_law_1918 rfl (lv_at hl 0 rfl) ?_
  refine lv_iload_n hx hb dL_law_1919 rfl (lv_at hl 3 rfl) ?_
  refine lv_iconst (v := nI 4) hx hb dL_law_1920 (by decide +kernel) ?_
  refine lv_iadd hx hb dL_law_1921 ?_
  refine z_eqi (y := nI (j + 4)) (nI_add j 4) ?_
  refine va_sld hx hb hX hbl hbA hS (vp_in_nI (by omega) (by omega)) dL_law_1922 ?_
  refine z_eqi (y := xs (j + 4)) (congrArg xs (nI_clamp (by omega))) ?_
  refine lv_aload_n hx hb dL_law_1923 rfl (lv_at hl 0 rfl) ?_
  refine lv_iload_n hx hb dL_law_1924 rfl (lv_at hl 3 rfl) ?_
  refine lv_iconst (v := nI 5) hx hb dL_law_1925 (by decide +kernel) ?_
  refine lv_iadd hx hb dL_law_1926 ?_
  refine z_eqi (y := nI (j + 5)) (nI_add j 5) ?_
  refine va_sld hx hb hX hbl hbA hS (vp_in_nI (by omega) (by omega)) dL_law_1927 ?_
  refine z_eqi (y := xs (j + 5)) (congrArg xs (nI_clamp (by omega))) ?_
  refine z_callVi (k := 0) (As := [.int (xs (j + 1)), .int (xs (j + 2)), .int (xs (j + 3)), .int (xs (j + 4)), .int (xs (j + 5))]) (rest := []) hx hb hml hown ht (xk_X10_paste l D qx cx F _ _ _ hIx (xs (j + 1)) (xs (j + 2)) (xs (j + 3)) (xs (j + 4)) (xs (j + 5))) hw_5_173 hmX10_paste ⟨rfl, rfl⟩ (na := 5) rfl (by decide +kernel) ⟨Nat.le_of_ble_eq_true rfl, Nat.le_of_ble_eq_true rfl⟩ (by decide) rfl rfl hKx hPx hDx hS hA hl.1 rfl (Nat.le_of_ble_eq_true rfl) ⟨Nat.le_of_ble_eq_true rfl, Nat.le_of_ble_eq_true rfl⟩ dL_law_1928 (fun r_x I_x R_x J_x H1 locs hp_x hPx hDx hS hz_x hk_x => ?_)
  have hPm := z_frame (q := qx) (n := 81) hPm hdis hk_x
  generalize H1 = H at hPm hPx hS ⊢
  refine lv_aload_n hx hb dL_law_1931 rfl (lv_at hl 2 rfl) ?_
  refine lv_aload_n hx hb dL_law_1932 rfl (lv_at hl 0 rfl) ?_
  refine lv_iload_n hx hb dL_law_1933 rfl (lv_at hl 3 rfl) ?_
  refine lv_iconst (v := nI 1) hx hb dL_law_1934 (by decide +kernel) ?_
  refine lv_iadd hx hb dL_law_1935 ?_
  refine z_eqi (y := nI (j + 1)) (nI_add j 1) ?_
  refine va_sld hx hb hX hbl hbA hS (vp_in_nI (by omega) (by omega)) dL_law_1936 ?_
  refine z_eqi (y := xs (j + 1)) (congrArg xs (nI_clamp (by omega))) ?_
  refine lv_aload_n hx hb dL_law_1937 rfl (lv_at hl 0 rfl) ?_
  refine lv_iload_n hx hb dL_law_1938 rfl (lv_at hl 3 rfl) ?_
  refine lv_iconst (v := nI 2) hx hb dL_law_1939 (by decide +kernel) ?_
  refine lv_iadd hx hb dL_law_1940 ?_
  refine z_eqi (y := nI (j + 2)) (nI_add j 2) ?_
  refine va_sld hx hb hX hbl hbA hS (vp_in_nI (by omega) (by omega)) dL_law_1941 ?_
  refine z_eqi (y := xs (j + 2)) (congrArg xs (nI_clamp (by omega))) ?_
  refine lv_aload_n hx hb dL_law_1942 rfl (lv_at hl 0 rfl) ?_
  refine lv_iload_n hx hb dL_law_1943 rfl (lv_at hl 3 rfl) ?_
  refine lv_iconst (v := nI 3) hx hb dL_law_1944 (by decide +kernel) ?_
  refine lv_iadd hx hb dL_law_1945 ?_
  refine z_eqi (y := nI (j + 3)) (nI_add j 3) ?_
  refine va_sld hx hb hX hbl hbA hS (vp_in_nI (by omega) (by omega)) dL_law_1946 ?_
  refine z_eqi (y := xs (j + 3)) (congrArg xs (nI_clamp (by omega))) ?_
  refine lv_aload_n hx hb dL_law_1947 rfl (lv_at hl 0 rfl) ?_
  refine lv_iload_n hx hb dL_law_1948 rfl (lv_at hl 3 rfl) ?_
  refine lv_iconst (v := nI 4) hx hb dL_law_1949 (by decide +kernel) ?_
  refine lv_iadd hx hb dL_law_1950 ?_
  refine z_eqi (y := nI (j + 4)) (nI_add j 4) ?_
  refine va_sld hx hb hX hbl hbA hS (vp_in_nI (by omega) (by omega)) dL_law_1951 ?_
  refine z_eqi (y := xs (j + 4)) (congrArg xs (nI_clamp (by omega))) ?_
  refine lv_aload_n hx hb dL_law_1952 rfl (lv_at hl 0 rfl) ?_
  refine lv_iload_n hx hb dL_law_1953 rfl (lv_at hl 3 rfl) ?_
  refine lv_iconst (v := nI 5) hx hb dL_law_1954 (by decide +kernel) ?_
  refine lv_iadd hx hb dL_law_1955 ?_
  refine z_eqi (y := nI (j + 5)) (nI_add j 5) ?_
  refine va_sld hx hb hX hbl hbA hS (vp_in_nI (by omega) (by omega)) dL_law_1956 ?_
  refine z_eqi (y := xs (j + 5)) (congrArg xs (nI_clamp (by omega))) ?_
  refine z_callVi (k := 0) (As := [.int (xs (j + 1)), .int (xs (j + 2)), .int (xs (j + 3)), .int (xs (j + 4)), .int (xs (j + 5))]) (rest := [.int (r_x)]) hx hb hml hown ht (mk_X11_paste l D qm cm G _ _ _ hIm (xs (j + 1)) (xs (j + 2)) (xs (j + 3)) (xs (j + 4)) (xs (j + 5))) hw_8_159 hmX11_paste ⟨rfl, rfl⟩ (na := 5) rfl (by decide +kernel) ⟨Nat.le_of_ble_eq_true rfl, Nat.le_of_ble_eq_true rfl⟩ (by decide) rfl rfl hKm hPm hDm hS hA hl.1 rfl (Nat.le_of_ble_eq_true rfl) ⟨Nat.le_of_ble_eq_true rfl, Nat.le_of_ble_eq_true rfl⟩ dL_law_1957 (fun r_m I_m R_m J_m H1 locs hp_m hPm hDm hS hz_m hk_m => ?_)
  have hPx := z_frame (q := qm) (n := 25) hPx (fun i hi j hj => (hdis j hj i hi).symm) hk_m
  obtain ⟨heq, F1, G1, hv_x, hv_m, hR1⟩ := zl_paste hR hIx hIm hp_x hp_m
  have T1 := zT_mk (s := s) hv_x hv_m hR1 hPx hDx hPm hDm hS
  refine lv_icmp_eq (tgt := 1965) hx hb dL_law_1960 (by decide) (fun _ => ?_) (fun c_0 => absurd heq c_0)
  exact kk _ _ _ _ _ _ _ _ _ _ _ T1 (lv_sub hl [0, 1, 2, 3] rfl)
