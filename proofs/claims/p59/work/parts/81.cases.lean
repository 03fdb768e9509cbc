set_option maxHeartbeats 4000000 in
set_option maxRecDepth 100000 in
theorem lc_8 {p : Program} {e : Env} {s : State} {m : MethodId} {below : List Frame} {meth : Method} {c : Code} {l : Launch} {b L j : Nat} {xs : Nat → Int32} {D : va_G} {qx qm : Nat → Nat} {cx cm : Nat → ClassId} {ax vx am vm : Nat → Nat} {t9 : Nat} {H : Heap} {locs : List Loc} {ls : Array Slot} {F G I R I' R' : Nat → Nat → Int32} {J J' : Nat → Nat → Int64} (C : zLaw p s m meth c b L xs D qx qm cx cm ax vx am vm t9) (hj : j + 6 ≤ L) (T : zTw D qx qm cx cm s F G I R I' R' J J' H locs) (hl : lv_has ls 4 [(0, .ref b), (1, .ref (qx 0)), (2, .ref (qm 0)), (3, .int (nI j))]) (kk : ∀ (F G I R I' R' : Nat → Nat → Int32) (J J' : Nat → Nat → Int64) (H : Heap) (locs : List Loc) (ls : Array Slot), zTw D qx qm cx cm s F G I R I' R' J J' H locs → lv_has ls 4 [(0, .ref b), (1, .ref (qx 0)), (2, .ref (qm 0)), (3, .int (nI j))] → W p l e room_1 s m #[Value.ref b] below meth c H locs 600000 7302250 (lw_Z below #[Value.ref b] s) (F0 m 1965 ls [])) : W p l e room_1 s m #[Value.ref b] below meth c H locs 600000 7302250 (lw_Z below #[Value.ref b] s) (F0 m 546 ls []) := by
  obtain ⟨⟨hx, hb, hr, hml, hown, hts, hX, hbl, hlocks, hgv⟩, hKx, hKm, hdis, hL, hNx, hNm⟩ := id C
  have hown : s.vm.findClass "ReceiptLeftLaw" = some m.cls := hown
  have ht : ∀ w ∈ zT, w.before #[Value.ref b] s = true := fun w h => hts w (zT_lw w h)
  have hA : ∀ a, s.heap.size ≤ a → zLA s a := fun _ h => h
  have hbA : ¬ zLA s b := Nat.not_le.mpr hbl
  obtain ⟨hIx, hIm, hR, hPx, hDx, hPm, hDm, hS⟩ := T
  refine lv_aload_n hx hb dL_law_546 rfl (lv_at hl 1 rfl) ?_
  refine lv_aload_n hx hb dL_law_547 rfl (lv_at hl 0 rfl) ?_
  refine lv_iload_n hx hb dL_law_548 rfl (lv_at hl 3 rfl) ?_
  refine lv_iconst (v := nI 1) hx hb dL_law_549 (by decide +kernel) ?_
  refine lv_iadd hx hb dL_law_550 ?_
  refine z_eqi (y := nI (j + 1)) (nI_add j 1) ?_
  refine va_sld hx hb hX hbl hbA hS (vp_in_nI (by omega) (by omega)) dL_law_551 ?_
  refine z_eqi (y := xs (j + 1)) (congrArg xs (nI_clamp (by omega))) ?_
  refine z_callVi (k := 0) (As := [.int (xs (j + 1))]) (rest := []) hx hb hml hown ht (xk_X10_price l D qx cx F _ _ _ hIx (xs (j + 1))) hw_3_111 hmX10_price ⟨rfl, rfl⟩ (na := 1) rfl (by decide +kernel) ⟨Nat.le_of_ble_eq_true rfl, Nat.le_of_ble_eq_true rfl⟩ (by decide) rfl rfl hKx hPx hDx hS hA hl.1 rfl (Nat.le_of_ble_eq_true rfl) ⟨Nat.le_of_ble_eq_true rfl, Nat.le_of_ble_eq_true rfl⟩ dL_law_552 (fun r_x I_x R_x J_x H1 locs hp_x hPx hDx hS hz_x hk_x => ?_)
  have hPm := z_frame (q := qx) (n := 81) hPm hdis hk_x
  generalize H1 = H at hPm hPx hS ⊢
  have hv_x := z_stayx hIx (hp_x)
  refine lv_pop hx hb dL_law_555 rfl ?_
  refine lv_aload_n hx hb dL_law_556 rfl (lv_at hl 2 rfl) ?_
  refine lv_aload_n hx hb dL_law_557 rfl (lv_at hl 0 rfl) ?_
  refine lv_iload_n hx hb dL_law_558 rfl (lv_at hl 3 rfl) ?_
  refine lv_iconst (v := nI 1) hx hb dL_law_559 (by decide +kernel) ?_
  refine lv_iadd hx hb dL_law_560 ?_
  refine z_eqi (y := nI (j + 1)) (nI_add j 1) ?_
  refine va_sld hx hb hX hbl hbA hS (vp_in_nI (by omega) (by omega)) dL_law_561 ?_
  refine z_eqi (y := xs (j + 1)) (congrArg xs (nI_clamp (by omega))) ?_
  refine z_callVi (k := 0) (As := [.int (xs (j + 1))]) (rest := []) hx hb hml hown ht (mk_X11_price l D qm cm G _ _ _ hIm (xs (j + 1))) hw_7_22 hmX11_price ⟨rfl, rfl⟩ (na := 1) rfl (by decide +kernel) ⟨Nat.le_of_ble_eq_true rfl, Nat.le_of_ble_eq_true rfl⟩ (by decide) rfl rfl hKm hPm hDm hS hA hl.1 rfl (Nat.le_of_ble_eq_true rfl) ⟨Nat.le_of_ble_eq_true rfl, Nat.le_of_ble_eq_true rfl⟩ dL_law_562 (fun r_m I_m R_m J_m H1 locs hp_m hPm hDm hS hz_m hk_m => ?_)
  have hPx := z_frame (q := qm) (n := 25) hPx (fun i hi j hj => (hdis j hj i hi).symm) hk_m
  have hv_m := (hp_m).1
  have T1 := zT_mk (s := s) hv_x hv_m hR hPx hDx hPm hDm hS
  refine lv_pop hx hb dL_law_565 rfl ?_
  refine lv_goto (tgt := 1965) hx hb dL_law_566 (by decide) ?_
  exact kk _ _ _ _ _ _ _ _ _ _ _ T1 (lv_sub hl [0, 1, 2, 3] rfl)
set_option maxHeartbeats 4000000 in
set_option maxRecDepth 100000 in
theorem lc_9 {p : Program} {e : Env} {s : State} {m : MethodId} {below : List Frame} {meth : Method} {c : Code} {l : Launch} {b L j : Nat} {xs : Nat → Int32} {D : va_G} {qx qm : Nat → Nat} {cx cm : Nat → ClassId} {ax vx am vm : Nat → Nat} {t9 : Nat} {H : Heap} {locs : List Loc} {ls : Array Slot} {F G I R I' R' : Nat → Nat → Int32} {J J' : Nat → Nat → Int64} (C : zLaw p s m meth c b L xs D qx qm cx cm ax vx am vm t9) (hj : j + 6 ≤ L) (T : zTw D qx qm cx cm s F G I R I' R' J J' H locs) (hl : lv_has ls 4 [(0, .ref b), (1, .ref (qx 0)), (2, .ref (qm 0)), (3, .int (nI j))]) (kk : ∀ (F G I R I' R' : Nat → Nat → Int32) (J J' : Nat → Nat → Int64) (H : Heap) (locs : List Loc) (ls : Array Slot), zTw D qx qm cx cm s F G I R I' R' J J' H locs → lv_has ls 4 [(0, .ref b), (1, .ref (qx 0)), (2, .ref (qm 0)), (3, .int (nI j))] → W p l e room_1 s m #[Value.ref b] below meth c H locs 600000 7302250 (lw_Z below #[Value.ref b] s) (F0 m 1965 ls [])) : W p l e room_1 s m #[Value.ref b] below meth c H locs 600000 7302250 (lw_Z below #[Value.ref b] s) (F0 m 569 ls []) := by
  obtain ⟨⟨hx, hb, hr, hml, hown, hts, hX, hbl, hlocks, hgv⟩, hKx, hKm, hdis, hL, hNx, hNm⟩ := id C
  have hown : s.vm.findClass "ReceiptLeftLaw" = some m.cls := hown
  have ht : ∀ w ∈ zT, w.before #[Value.ref b] s = true := fun w h => hts w (zT_lw w h)
  have hA : ∀ a, s.heap.size ≤ a → zLA s a := fun _ h => h
  have hbA : ¬ zLA s b := Nat.not_le.mpr hbl
  obtain ⟨hIx, hIm, hR, hPx, hDx, hPm, hDm, hS⟩ := T
  refine lv_aload_n hx hb dL_law_569 rfl (lv_at hl 1 rfl) ?_
  refine lv_aload_n hx hb dL_law_570 rfl (lv_at hl 0 rfl) ?_
  refine lv_iload_n hx hb dL_law_571 rfl (lv_at hl 3 rfl) ?_
  refine lv_iconst (v := nI 1) hx hb dL_law_572 (by decide +kernel) ?_
  refine lv_iadd hx hb dL_law_573 ?_
  refine z_eqi (y := nI (j + 1)) (nI_add j 1) ?_
  refine va_sld hx hb hX hbl hbA hS (vp_in_nI (by omega) (by omega)) dL_law_574 ?_
  refine z_eqi (y := xs (j + 1)) (congrArg xs (nI_clamp (by omega))) ?_
  refine z_callVi (k := 0) (As := [.int (xs (j + 1))]) (rest := []) hx hb hml hown ht (xk_X10_net l D qx cx F _ _ _ hIx (xs (j + 1))) hw_3_124 hmX10_net ⟨rfl, rfl⟩ (na := 1) rfl (by decide +kernel) ⟨Nat.le_of_ble_eq_true rfl, Nat.le_of_ble_eq_true rfl⟩ (by decide) rfl rfl hKx hPx hDx hS hA hl.1 rfl (Nat.le_of_ble_eq_true rfl) ⟨Nat.le_of_ble_eq_true rfl, Nat.le_of_ble_eq_true rfl⟩ dL_law_575 (fun r_x I_x R_x J_x H1 locs hp_x hPx hDx hS hz_x hk_x => ?_)
  have hPm := z_frame (q := qx) (n := 81) hPm hdis hk_x
  generalize H1 = H at hPm hPx hS ⊢
  have hv_x := z_stayx hIx (hp_x)
  refine lv_pop hx hb dL_law_578 rfl ?_
  refine lv_aload_n hx hb dL_law_579 rfl (lv_at hl 2 rfl) ?_
  refine lv_aload_n hx hb dL_law_580 rfl (lv_at hl 0 rfl) ?_
  refine lv_iload_n hx hb dL_law_581 rfl (lv_at hl 3 rfl) ?_
  refine lv_iconst (v := nI 1) hx hb dL_law_582 (by decide +kernel) ?_
  refine lv_iadd hx hb dL_law_583 ?_
  refine z_eqi (y := nI (j + 1)) (nI_add j 1) ?_
  refine va_sld hx hb hX hbl hbA hS (vp_in_nI (by omega) (by omega)) dL_law_584 ?_
  refine z_eqi (y := xs (j + 1)) (congrArg xs (nI_clamp (by omega))) ?_
  refine z_callVi (k := 0) (As := [.int (xs (j + 1))]) (rest := []) hx hb hml hown ht (mk_X11_net l D qm cm G _ _ _ hIm (xs (j + 1))) hw_7_26 hmX11_net ⟨rfl, rfl⟩ (na := 1) rfl (by decide +kernel) ⟨Nat.le_of_ble_eq_true rfl, Nat.le_of_ble_eq_true rfl⟩ (by decide) rfl rfl hKm hPm hDm hS hA hl.1 rfl (Nat.le_of_ble_eq_true rfl) ⟨Nat.le_of_ble_eq_true rfl, Nat.le_of_ble_eq_true rfl⟩ dL_law_585 (fun r_m I_m R_m J_m H1 locs hp_m hPm hDm hS hz_m hk_m => ?_)
  have hPx := z_frame (q := qm) (n := 25) hPx (fun i hi j hj => (hdis j hj i hi).symm) hk_m
  have hv_m := (hp_m).1
  have T1 := zT_mk (s := s) hv_x hv_m hR hPx hDx hPm hDm hS
  refine lv_pop hx hb dL_law_588 rfl ?_
  refine lv_goto (tgt := 1965) hx hb dL_law_589 (by decide) ?_
  exact kk _ _ _ _ _ _ _ _ _ _ _ T1 (lv_sub hl [0, 1, 2, 3] rfl)
set_option maxHeartbeats 4000000 in
set_option maxRecDepth 100000 in
theorem lc_10 {p : Program} {e : Env} {s : State} {m : MethodId} {below : List Frame} {meth : Method} {c : Code} {l : Launch} {b L j : Nat} {xs : Nat → Int32} {D : va_G} {qx qm : Nat → Nat} {cx cm : Nat → ClassId} {ax vx am vm : Nat → Nat} {t9 : Nat} {H : Heap} {locs : List Loc} {ls : Array Slot} {F G I R I' R' : Nat → Nat → Int32} {J J' : Nat → Nat → Int64} (C : zLaw p s m meth c b L xs D qx qm cx cm ax vx am vm t9) (hj : j + 6 ≤ L) (T : zTw D qx qm cx cm s F G I R I' R' J J' H locs) (hl : lv_has ls 4 [(0, .ref b), (1, .ref (qx 0)), (2, .ref (qm 0)), (3, .int (nI j))]) (kk : ∀ (F G I R I' R' : Nat → Nat → Int32) (J J' : Nat → Nat → Int64) (H : Heap) (locs : List Loc) (ls : Array Slot), zTw D qx qm cx cm s F G I R I' R' J J' H locs → lv_has ls 4 [(0, .ref b), (1, .ref (qx 0)), (2, .ref (qm 0)), (3, .int (nI j))] → W p l e room_1 s m #[Value.ref b] below meth c H locs 600000 7302250 (lw_Z below #[Value.ref b] s) (F0 m 1965 ls [])) : W p l e room_1 s m #[Value.ref b] below meth c H locs 600000 7302250 (lw_Z below #[Value.ref b] s) (F0 m 592 ls []) := by
  obtain ⟨⟨hx, hb, hr, hml, hown, hts, hX, hbl, hlocks, hgv⟩, hKx, hKm, hdis, hL, hNx, hNm⟩ := id C
  have hown : s.vm.findClass "ReceiptLeftLaw" = some m.cls := hown
  have ht : ∀ w ∈ zT, w.before #[Value.ref b] s = true := fun w h => hts w (zT_lw w h)
  have hA : ∀ a, s.heap.size ≤ a → zLA s a := fun _ h => h
  have hbA : ¬ zLA s b := Nat.not_le.mpr hbl
  obtain ⟨hIx, hIm, hR, hPx, hDx, hPm, hDm, hS⟩ := T
  refine lv_aload_n hx hb dL_law_592 rfl (lv_at hl 1 rfl) ?_
  refine lv_aload_n hx hb dL_law_593 rfl (lv_at hl 0 rfl) ?_
  refine lv_iload_n hx hb dL_law_594 rfl (lv_at hl 3 rfl) ?_
  refine lv_iconst (v := nI 1) hx hb dL_law_595 (by decide +kernel) ?_
  refine lv_iadd hx hb dL_law_596 ?_
  refine z_eqi (y := nI (j + 1)) (nI_add j 1) ?_
  refine va_sld hx hb hX hbl hbA hS (vp_in_nI (by omega) (by omega)) dL_law_597 ?_
  refine z_eqi (y := xs (j + 1)) (congrArg xs (nI_clamp (by omega))) ?_
  refine lv_aload_n hx hb dL_law_598 rfl (lv_at hl 0 rfl) ?_
  refine lv_iload_n hx hb dL_law_599 rfl (lv_at hl 3 rfl) ?_
  refine lv_iconst (v := nI 2) hx hb dL_law_600 (by decide +kernel) ?_
  refine lv_iadd hx hb dL_law_601 ?_
  refine z_eqi (y := nI (j + 2)) (nI_add j 2) ?_
  refine va_sld hx hb hX hbl hbA hS (vp_in_nI (by omega) (by omega)) dL_law_602 ?_
  refine z_eqi (y := xs (j + 2)) (congrArg xs (nI_clamp (by omega))) ?_
  refine lv_aload_n hx hb dL_law_603 rfl (lv_at hl 0 rfl) ?_
  refine lv_iload_n hx hb dL_law_604 rfl (lv_at hl 3 rfl) ?_
  refine lv_iconst (v := nI 3) hx hb dL_law_605 (by decide +kernel) ?_
  refine lv_iadd hx hb dL_law_606 ?_
  refine z_eqi (y := nI (j + 3)) (nI_add j 3) ?_
  refine va_sld hx hb hX hbl hbA hS (vp_in_nI (by omega) (by omega)) dL_law_607 ?_
  refine z_eqi (y := xs (j + 3)) (congrArg xs (nI_clamp (by omega))) ?_
  refine z_callVi (k := 0) (As := [.int (xs (j + 1)), .int (xs (j + 2)), .int (xs (j + 3))]) (rest := []) hx hb hml hown ht (xk_X10_steal l D qx cx F _ _ _ hIx (xs (j + 1)) (xs (j + 2)) (xs (j + 3))) hw_3_140 hmX10_steal ⟨rfl, rfl⟩ (na := 3) rfl (by decide +kernel) ⟨Nat.le_of_ble_eq_true rfl, Nat.le_of_ble_eq_true rfl⟩ (by decide) rfl rfl hKx hPx hDx hS hA hl.1 rfl (Nat.le_of_ble_eq_true rfl) ⟨Nat.le_of_ble_eq_true rfl, Nat.le_of_ble_eq_true rfl⟩ dL_law_608 (fun r_x I_x R_x J_x H1 locs hp_x hPx hDx hS hz_x hk_x => ?_)
  have hPm := z_frame (q := qx) (n := 81) hPm hdis hk_x
  generalize H1 = H at hPm hPx hS ⊢
  have hv_x := hp_x.2
  refine lv_pop hx hb dL_law_611 rfl ?_
  refine lv_aload_n hx hb dL_law_612 rfl (lv_at hl 2 rfl) ?_
  refine lv_aload_n hx hb dL_law_613 rfl (lv_at hl 0 rfl) ?_
  refine lv_iload_n hx hb dL_law_614 rfl (lv_at hl 3 rfl) ?_
  refine lv_iconst (v := nI 1) hx hb dL_law_615 (by decide +kernel) ?_
  refine lv_iadd hx hb dL_law_616 ?_
  refine z_eqi (y := nI (j + 1)) (nI_add j 1) ?_
  refine va_sld hx hb hX hbl hbA hS (vp_in_nI (by omega) (by omega)) dL_law_617 ?_
  refine z_eqi (y := xs (j + 1)) (congrArg xs (nI_clamp (by omega))) ?_
  refine lv_aload_n hx hb dL_law_618 rfl (lv_at hl 0 rfl) ?_
  refine lv_iload_n hx hb dL_law_619 rfl (lv_at hl 3 rfl) ?_
  refine lv_iconst (v := nI 2) hx hb dL_law_620 (by decide +kernel) ?_
  refine lv_iadd hx hb dL_law_621 ?_
  refine z_eqi (y := nI (j + 2)) (nI_add j 2) ?_
  refine va_sld hx hb hX hbl hbA hS (vp_in_nI (by omega) (by omega)) dL_law_622 ?_
  refine z_eqi (y := xs (j + 2)) (congrArg xs (nI_clamp (by omega))) ?_
  refine lv_aload_n hx hb dL_law_623 rfl (lv_at hl 0 rfl) ?_
  refine lv_iload_n hx hb dL_law_624 rfl (lv_at hl 3 rfl) ?_
  refine lv_iconst (v := nI 3) hx hb dL_law_625 (by decide +kernel) ?_
  refine lv_iadd hx hb dL_law_626 ?_
  refine z_eqi (y := nI (j + 3)) (nI_add j 3) ?_
  refine va_sld hx hb hX hbl hbA hS (vp_in_nI (by omega) (by omega)) dL_law_627 ?_
  refine z_eqi (y := xs (j + 3)) (congrArg xs (nI_clamp (by omega))) ?_
  refine z_callVi (k := 0) (As := [.int (xs (j + 1)), .int (xs (j + 2)), .int (xs (j + 3))]) (rest := []) hx hb hml hown ht (mk_X11_steal l D qm cm G _ _ _ hIm (xs (j + 1)) (xs (j + 2)) (xs (j + 3))) hw_7_35 hmX11_steal ⟨rfl, rfl⟩ (na := 3) rfl (by decide +kernel) ⟨Nat.le_of_ble_eq_true rfl, Nat.le_of_ble_eq_true rfl⟩ (by decide) rfl rfl hKm hPm hDm hS hA hl.1 rfl (Nat.le_of_ble_eq_true rfl) ⟨Nat.le_of_ble_eq_true rfl, Nat.le_of_ble_eq_true rfl⟩ dL_law_628 (fun r_m I_m R_m J_m H1 locs hp_m hPm hDm hS hz_m hk_m => ?_)
  have hPx := z_frame (q := qm) (n := 25) hPx (fun i hi j hj => (hdis j hj i hi).symm) hk_m
  obtain ⟨w9, hv_m⟩ := hp_m.2
  have T1 := zT_mk (s := s) hv_x hv_m (zRel_w hR) hPx hDx hPm hDm hS
  refine lv_pop hx hb dL_law_631 rfl ?_
  refine lv_goto (tgt := 1965) hx hb dL_law_632 (by decide) ?_
  exact kk _ _ _ _ _ _ _ _ _ _ _ T1 (lv_sub hl [0, 1, 2, 3] rfl)
set_option maxHeartbeats 4000000 in
set_option maxRecDepth 100000 in
theorem lc_11 {p : Program} {e : Env} {s : State} {m : MethodId} {below : List Frame} {meth : Method} {c : Code} {l : Launch} {b L j : Nat} {xs : Nat → Int32} {D : va_G} {qx qm : Nat → Nat} {cx cm : Nat → ClassId} {ax vx am vm : Nat → Nat} {t9 : Nat} {H : Heap} {locs : List Loc} {ls : Array Slot} {F G I R I' R' : Nat → Nat → Int32} {J J' : Nat → Nat → Int64} (C : zLaw p s m meth c b L xs D qx qm cx cm ax vx am vm t9) (hj : j + 6 ≤ L) (T : zTw D qx qm cx cm s F G I R I' R' J J' H locs) (hl : lv_has ls 4 [(0, .ref b), (1, .ref (qx 0)), (2, .ref (qm 0)), (3, .int (nI j))]) (kk : ∀ (F G I R I' R' : Nat → Nat → Int32) (J J' : Nat → Nat → Int64) (H : Heap) (locs : List Loc) (ls : Array Slot), zTw D qx qm cx cm s F G I R I' R' J J' H locs → lv_has ls 4 [(0, .ref b), (1, .ref (qx 0)), (2, .ref (qm 0)), (3, .int (nI j))] → W p l e room_1 s m #[Value.ref b] below meth c H locs 600000 7302250 (lw_Z below #[Value.ref b] s) (F0 m 1965 ls [])) : W p l e room_1 s m #[Value.ref b] below meth c H locs 600000 7302250 (lw_Z below #[Value.ref b] s) (F0 m 635 ls []) := by
  obtain ⟨⟨hx, hb, hr, hml, hown, hts, hX, hbl, hlocks, hgv⟩, hKx, hKm, hdis, hL, hNx, hNm⟩ := id C
  have hown : s.vm.findClass "ReceiptLeftLaw" = some m.cls := hown
  have ht : ∀ w ∈ zT, w.before #[Value.ref b] s = true := fun w h => hts w (zT_lw w h)
  have hA : ∀ a, s.heap.size ≤ a → zLA s a := fun _ h => h
  have hbA : ¬ zLA s b := Nat.not_le.mpr hbl
  obtain ⟨hIx, hIm, hR, hPx, hDx, hPm, hDm, hS⟩ := T
  refine lv_aload_n hx hb dL_law_635 rfl (lv_at hl 1 rfl) ?_
  refine lv_aload_n hx hb dL_law_636 rfl (lv_at hl 0 rfl) ?_
  refine lv_iload_n hx hb dL_law_637 rfl (lv_at hl 3 rfl) ?_
  refine lv_iconst (v := nI 1) hx hb dL_law_638 (by decide +kernel) ?_
  refine lv_iadd hx hb dL_law_639 ?_
  refine z_eqi (y := nI (j + 1)) (nI_add j 1) ?_
  refine va_sld hx hb hX hbl hbA hS (vp_in_nI (by omega) (by omega)) dL_law_640 ?_
  refine z_eqi (y := xs (j + 1)) (congrArg xs (nI_clamp (by omega))) ?_
  refine lv_aload_n hx hb dL_law_641 rfl (lv_at hl 0 rfl) ?_
  refine lv_iload_n hx hb dL_law_642 rfl (lv_at hl 3 rfl) ?_
  refine lv_iconst (v := nI 2) hx hb dL_law_643 (by decide +kernel) ?_
  refine lv_iadd hx hb dL_law_644 ?_
  refine z_eqi (y := nI (j + 2)) (nI_add j 2) ?_
  refine va_sld hx hb hX hbl hbA hS (vp_in_nI (by omega) (by omega)) dL_law_645 ?_
  refine z_eqi (y := xs (j + 2)) (congrArg xs (nI_clamp (by omega))) ?_
  refine z_callVi (k := 0) (As := [.int (xs (j + 1)), .int (xs (j + 2))]) (rest := []) hx hb hml hown ht (xk_X10_sell l D qx cx F _ _ _ hIx (xs (j + 1)) (xs (j + 2))) hw_3_219 hmX10_sell ⟨rfl, rfl⟩ (na := 2) rfl (by decide +kernel) ⟨Nat.le_of_ble_eq_true rfl, Nat.le_of_ble_eq_true rfl⟩ (by decide) rfl rfl hKx hPx hDx hS hA hl.1 rfl (Nat.le_of_ble_eq_true rfl) ⟨Nat.le_of_ble_eq_true rfl, Nat.le_of_ble_eq_true rfl⟩ dL_law_646 (fun r_x I_x R_x J_x H1 locs hp_x hPx hDx hS hz_x hk_x => ?_)
  have hPm := z_frame (q := qx) (n := 81) hPm hdis hk_x
  generalize H1 = H at hPm hPx hS ⊢
  have hv_x := hp_x
  refine lv_pop hx hb dL_law_649 rfl ?_
  refine lv_aload_n hx hb dL_law_650 rfl (lv_at hl 2 rfl) ?_
  refine lv_aload_n hx hb dL_law_651 rfl (lv_at hl 0 rfl) ?_
  refine lv_iload_n hx hb dL_law_652 rfl (lv_at hl 3 rfl) ?_
  refine lv_iconst (v := nI 1) hx hb dL_law_653 (by decide +kernel) ?_
  refine lv_iadd hx hb dL_law_654 ?_
  refine z_eqi (y := nI (j + 1)) (nI_add j 1) ?_
  refine va_sld hx hb hX hbl hbA hS (vp_in_nI (by omega) (by omega)) dL_law_655 ?_
  refine z_eqi (y := xs (j + 1)) (congrArg xs (nI_clamp (by omega))) ?_
  refine lv_aload_n hx hb dL_law_656 rfl (lv_at hl 0 rfl) ?_
  refine lv_iload_n hx hb dL_law_657 rfl (lv_at hl 3 rfl) ?_
  refine lv_iconst (v := nI 2) hx hb dL_law_658 (by decide +kernel) ?_
  refine lv_iadd hx hb dL_law_659 ?_
  refine z_eqi (y := nI (j + 2)) (nI_add j 2) ?_
  refine va_sld hx hb hX hbl hbA hS (vp_in_nI (by omega) (by omega)) dL_law_660 ?_
  refine z_eqi (y := xs (j + 2)) (congrArg xs (nI_clamp (by omega))) ?_
  refine z_callVi (k := 0) (As := [.int (xs (j + 1)), .int (xs (j + 2))]) (rest := []) hx hb hml hown ht (mk_X11_sell l D qm cm G _ _ _ hIm (xs (j + 1)) (xs (j + 2))) hw_7_48 hmX11_sell ⟨rfl, rfl⟩ (na := 2) rfl (by decide +kernel) ⟨Nat.le_of_ble_eq_true rfl, Nat.le_of_ble_eq_true rfl⟩ (by decide) rfl rfl hKm hPm hDm hS hA hl.1 rfl (Nat.le_of_ble_eq_true rfl) ⟨Nat.le_of_ble_eq_true rfl, Nat.le_of_ble_eq_true rfl⟩ dL_law_661 (fun r_m I_m R_m J_m H1 locs hp_m hPm hDm hS hz_m hk_m => ?_)
  have hPx := z_frame (q := qm) (n := 25) hPx (fun i hi j hj => (hdis j hj i hi).symm) hk_m
  obtain ⟨w9, hv_m⟩ := hp_m
  have T1 := zT_mk (s := s) hv_x hv_m (zRel_w hR) hPx hDx hPm hDm hS
  refine lv_pop hx hb dL_law_664 rfl ?_
  refine lv_goto (tgt := 1965) hx hb dL_law_665 (by decide) ?_
  exact kk _ _ _ _ _ _ _ _ _ _ _ T1 (lv_sub hl [0, 1, 2, 3] rfl)
set_option maxHeartbeats 4000000 in
set_option maxRecDepth 100000 in
theorem lc_12 {p : Program} {e : Env} {s : State} {m : MethodId} {below : List Frame} {meth : Method} {c : Code} {l : Launch} {b L j : Nat} {xs : Nat → Int32} {D : va_G} {qx qm : Nat → Nat} {cx cm : Nat → ClassId} {ax vx am vm : Nat → Nat} {t9 : Nat} {H : Heap} {locs : List Loc} {ls : Array Slot} {F G I R I' R' : Nat → Nat → Int32} {J J' : Nat → Nat → Int64} (C : zLaw p s m meth c b L xs D qx qm cx cm ax vx am vm t9) (hj : j + 6 ≤ L) (T : zTw D qx qm cx cm s F G I R I' R' J J' H locs) (hl : lv_has ls 4 [(0, .ref b), (1, .ref (qx 0)), (2, .ref (qm 0)), (3, .int (nI j))]) (kk : ∀ (F G I R I' R' : Nat → Nat → Int32) (J J' : Nat → Nat → Int64) (H : Heap) (locs : List Loc) (ls : Array Slot), zTw D qx qm cx cm s F G I R I' R' J J' H locs → lv_has ls 4 [(0, .ref b), (1, .ref (qx 0)), (2, .ref (qm 0)), (3, .int (nI j))] → W p l e room_1 s m #[Value.ref b] below meth c H locs 600000 7302250 (lw_Z below #[Value.ref b] s) (F0 m 1965 ls [])) : W p l e room_1 s m #[Value.ref b] below meth c H locs 600000 7302250 (lw_Z below #[Value.ref b] s) (F0 m 668 ls []) := by
  obtain ⟨⟨hx, hb, hr, hml, hown, hts, hX, hbl, hlocks, hgv⟩, hKx, hKm, hdis, hL, hNx, hNm⟩ := id C
  have hown : s.vm.findClass "ReceiptLeftLaw" = some m.cls := hown
  have ht : ∀ w ∈ zT, w.before #[Value.ref b] s = true := fun w h => hts w (zT_lw w h)
  have hA : ∀ a, s.heap.size ≤ a → zLA s a := fun _ h => h
  have hbA : ¬ zLA s b := Nat.not_le.mpr hbl
  obtain ⟨hIx, hIm, hR, hPx, hDx, hPm, hDm, hS⟩ := T
  refine lv_aload_n hx hb dL_law_668 rfl (lv_at hl 1 rfl) ?_
  refine lv_aload_n hx hb dL_law_669 rfl (lv_at hl 0 rfl) ?_
  refine lv_iload_n hx hb dL_law_670 rfl (lv_at hl 3 rfl) ?_
  refine lv_iconst (v := nI 1) hx hb dL_law_671 (by decide +kernel) ?_
  refine lv_iadd hx hb dL_law_672 ?_
  refine z_eqi (y := nI (j + 1)) (nI_add j 1) ?_
  refine va_sld hx hb hX hbl hbA hS (vp_in_nI (by omega) (by omega)) dL_law_673 ?_
  refine z_eqi (y := xs (j + 1)) (congrArg xs (nI_clamp (by omega))) ?_
  refine z_callVi (k := 0) (As := [.int (xs (j + 1))]) (rest := []) hx hb hml hown ht (xk_X10_brings l D qx cx F _ _ _ hIx (xs (j + 1))) hw_3_223 hmX10_brings ⟨rfl, rfl⟩ (na := 1) rfl (by decide +kernel) ⟨Nat.le_of_ble_eq_true rfl, Nat.le_of_ble_eq_true rfl⟩ (by decide) rfl rfl hKx hPx hDx hS hA hl.1 rfl (Nat.le_of_ble_eq_true rfl) ⟨Nat.le_of_ble_eq_true rfl, Nat.le_of_ble_eq_true rfl⟩ dL_law_674 (fun r_x I_x R_x J_x H1 locs hp_x hPx hDx hS hz_x hk_x => ?_)
  have hPm := z_frame (q := qx) (n := 81) hPm hdis hk_x
  generalize H1 = H at hPm hPx hS ⊢
  have hv_x := hp_x.2
  refine lv_pop hx hb dL_law_677 rfl ?_
  refine lv_aload_n hx hb dL_law_678 rfl (lv_at hl 2 rfl) ?_
  refine lv_aload_n hx hb dL_law_679 rfl (lv_at hl 0 rfl) ?_
  refine lv_iload_n hx hb dL_law_680 rfl (lv_at hl 3 rfl) ?_
  refine lv_iconst (v := nI 1) hx hb dL_law_681 (by decide +kernel) ?_
  refine lv_iadd hx hb dL_law_682 ?_
  refine z_eqi (y := nI (j + 1)) (nI_add j 1) ?_
  refine va_sld hx hb hX hbl hbA hS (vp_in_nI (by omega) (by omega)) dL_law_683 ?_
  refine z_eqi (y := xs (j + 1)) (congrArg xs (nI_clamp (by omega))) ?_
  refine z_callVi (k := 0) (As := [.int (xs (j + 1))]) (rest := []) hx hb hml hown ht (mk_X11_brings l D qm cm G _ _ _ hIm (xs (j + 1))) hw_7_52 hmX11_brings ⟨rfl, rfl⟩ (na := 1) rfl (by decide +kernel) ⟨Nat.le_of_ble_eq_true rfl, Nat.le_of_ble_eq_true rfl⟩ (by decide) rfl rfl hKm hPm hDm hS hA hl.1 rfl (Nat.le_of_ble_eq_true rfl) ⟨Nat.le_of_ble_eq_true rfl, Nat.le_of_ble_eq_true rfl⟩ dL_law_684 (fun r_m I_m R_m J_m H1 locs hp_m hPm hDm hS hz_m hk_m => ?_)
  have hPx := z_frame (q := qm) (n := 25) hPx (fun i hi j hj => (hdis j hj i hi).symm) hk_m
  obtain ⟨w9, hv_m⟩ := hp_m.2
  have T1 := zT_mk (s := s) hv_x hv_m (zRel_w hR) hPx hDx hPm hDm hS
  refine lv_pop hx hb dL_law_687 rfl ?_
  refine lv_goto (tgt := 1965) hx hb dL_law_688 (by decide) ?_
  exact kk _ _ _ _ _ _ _ _ _ _ _ T1 (lv_sub hl [0, 1, 2, 3] rfl)
set_option maxHeartbeats 4000000 in
set_option maxRecDepth 100000 in
theorem lc_13 {p : Program} {e : Env} {s : State} {m : MethodId} {below : List Frame} {meth : Method} {c : Code} {l : Launch} {b L j : Nat} {xs : Nat → Int32} {D : va_G} {qx qm : Nat → Nat} {cx cm : Nat → ClassId} {ax vx am vm : Nat → Nat} {t9 : Nat} {H : Heap} {locs : List Loc} {ls : Array Slot} {F G I R I' R' : Nat → Nat → Int32} {J J' : Nat → Nat → Int64} (C : zLaw p s m meth c b L xs D qx qm cx cm ax vx am vm t9) (hj : j + 6 ≤ L) (T : zTw D qx qm cx cm s F G I R I' R' J J' H locs) (hl : lv_has ls 4 [(0, .ref b), (1, .ref (qx 0)), (2, .ref (qm 0)), (3, .int (nI j))]) (kk : ∀ (F G I R I' R' : Nat → Nat → Int32) (J J' : Nat → Nat → Int64) (H : Heap) (locs : List Loc) (ls : Array Slot), zTw D qx qm cx cm s F G I R I' R' J J' H locs → lv_has ls 4 [(0, .ref b), (1, .ref (qx 0)), (2, .ref (qm 0)), (3, .int (nI j))] → W p l e room_1 s m #[Value.ref b] below meth c H locs 600000 7302250 (lw_Z below #[Value.ref b] s) (F0 m 1965 ls [])) : W p l e room_1 s m #[Value.ref b] below meth c H locs 600000 7302250 (lw_Z below #[Value.ref b] s) (F0 m 691 ls []) := by
  obtain ⟨⟨hx, hb, hr, hml, hown, hts, hX, hbl, hlocks, hgv⟩, hKx, hKm, hdis, hL, hNx, hNm⟩ := id C
  have hown : s.vm.findClass "ReceiptLeftLaw" = some m.cls := hown
  have ht : ∀ w ∈ zT, w.before #[Value.ref b] s = true := fun w h => hts w (zT_lw w h)
  have hA : ∀ a, s.heap.size ≤ a → zLA s a := fun _ h => h
  have hbA : ¬ zLA s b := Nat.not_le.mpr hbl
  obtain ⟨hIx, hIm, hR, hPx, hDx, hPm, hDm, hS⟩ := T
  refine lv_aload_n hx hb dL_law_691 rfl (lv_at hl 1 rfl) ?_
  refine lv_aload_n hx hb dL_law_692 rfl (lv_at hl 0 rfl) ?_
  refine lv_iload_n hx hb dL_law_693 rfl (lv_at hl 3 rfl) ?_
  refine lv_iconst (v := nI 1) hx hb dL_law_694 (by decide +kernel) ?_
  refine lv_iadd hx hb dL_law_695 ?_
  refine z_eqi (y := nI (j + 1)) (nI_add j 1) ?_
  refine va_sld hx hb hX hbl hbA hS (vp_in_nI (by omega) (by omega)) dL_law_696 ?_
  refine z_eqi (y := xs (j + 1)) (congrArg xs (nI_clamp (by omega))) ?_
  refine z_callVi (k := 0) (As := [.int (xs (j + 1))]) (rest := []) hx hb hml hown ht (xk_X10_strike l D qx cx F _ _ _ hIx (xs (j + 1))) hw_3_228 hmX10_strike ⟨rfl, rfl⟩ (na := 1) rfl (by decide +kernel) ⟨Nat.le_of_ble_eq_true rfl, Nat.le_of_ble_eq_true rfl⟩ (by decide) rfl rfl hKx hPx hDx hS hA hl.1 rfl (Nat.le_of_ble_eq_true rfl) ⟨Nat.le_of_ble_eq_true rfl, Nat.le_of_ble_eq_true rfl⟩ dL_law_697 (fun r_x I_x R_x J_x H1 locs hp_x hPx hDx hS hz_x hk_x => ?_)
  have hPm := z_frame (q := qx) (n := 81) hPm hdis hk_x
  generalize H1 = H at hPm hPx hS ⊢
  have hv_x := hp_x.2
  refine lv_pop hx hb dL_law_700 rfl ?_
  refine lv_aload_n hx hb dL_law_701 rfl (lv_at hl 2 rfl) ?_
  refine lv_aload_n hx hb dL_law_702 rfl (lv_at hl 0 rfl) ?_
  refine lv_iload_n hx hb dL_law_703 rfl (lv_at hl 3 rfl) ?_
  refine lv_iconst (v := nI 1) hx hb dL_law_704 (by decide +kernel) ?_
  refine lv_iadd hx hb dL_law_705 ?_
  refine z_eqi (y := nI (j + 1)) (nI_add j 1) ?_
  refine va_sld hx hb hX hbl hbA hS (vp_in_nI (by omega) (by omega)) dL_law_706 ?_
  refine z_eqi (y := xs (j + 1)) (congrArg xs (nI_clamp (by omega))) ?_
  refine z_callVi (k := 0) (As := [.int (xs (j + 1))]) (rest := []) hx hb hml hown ht (mk_X11_strike l D qm cm G _ _ _ hIm (xs (j + 1))) hw_7_56 hmX11_strike ⟨rfl, rfl⟩ (na := 1) rfl (by decide +kernel) ⟨Nat.le_of_ble_eq_true rfl, Nat.le_of_ble_eq_true rfl⟩ (by decide) rfl rfl hKm hPm hDm hS hA hl.1 rfl (Nat.le_of_ble_eq_true rfl) ⟨Nat.le_of_ble_eq_true rfl, Nat.le_of_ble_eq_true rfl⟩ dL_law_707 (fun r_m I_m R_m J_m H1 locs hp_m hPm hDm hS hz_m hk_m => ?_)
  have hPx := z_frame (q := qm) (n := 25) hPx (fun i hi j hj => (hdis j hj i hi).symm) hk_m
  obtain ⟨w9, hv_m⟩ := hp_m
  have T1 := zT_mk (s := s) hv_x hv_m (zRel_w hR) hPx hDx hPm hDm hS
  refine lv_pop hx hb dL_law_710 rfl ?_
  refine lv_goto (tgt := 1965) hx hb dL_law_711 (by decide) ?_
  exact kk _ _ _ _ _ _ _ _ _ _ _ T1 (lv_sub hl [0, 1, 2, 3] rfl)
set_option maxHeartbeats 4000000 in
set_option maxRecDepth 100000 in
theorem lc_14 {p : Program} {e : Env} {s : State} {m : MethodId} {below : List Frame} {meth : Method} {c : Code} {l : Launch} {b L j : Nat} {xs : Nat → Int32} {D : va_G} {qx qm : Nat → Nat} {cx cm : Nat → ClassId} {ax vx am vm : Nat → Nat} {t9 : Nat} {H : Heap} {locs : List Loc} {ls : Array Slot} {F G I R I' R' : Nat → Nat → Int32} {J J' : Nat → Nat → Int64} (C : zLaw p s m meth c b L xs D qx qm cx cm ax vx am vm t9) (hj : j + 6 ≤ L) (T : zTw D qx qm cx cm s F G I R I' R' J J' H locs) (hl : lv_has ls 4 [(0, .ref b), (1, .ref (qx 0)), (2, .ref (qm 0)), (3, .int (nI j))]) (kk : ∀ (F G I R I' R' : Nat → Nat → Int32) (J J' : Nat → Nat → Int64) (H : Heap) (locs : List Loc) (ls : Array Slot), zTw D qx qm cx cm s F G I R I' R' J J' H locs → lv_has ls 4 [(0, .ref b), (1, .ref (qx 0)), (2, .ref (qm 0)), (3, .int (nI j))] → W p l e room_1 s m #[Value.ref b] below meth c H locs 600000 7302250 (lw_Z below #[Value.ref b] s) (F0 m 1965 ls [])) : W p l e room_1 s m #[Value.ref b] below meth c H locs 600000 7302250 (lw_Z below #[Value.ref b] s) (F0 m 714 ls []) := by
  obtain ⟨⟨hx, hb, hr, hml, hown, hts, hX, hbl, hlocks, hgv⟩, hKx, hKm, hdis, hL, hNx, hNm⟩ := id C
  have hown : s.vm.findClass "ReceiptLeftLaw" = some m.cls := hown
  have ht : ∀ w ∈ zT, w.before #[Value.ref b] s = true := fun w h => hts w (zT_lw w h)
  have hA : ∀ a, s.heap.size ≤ a → zLA s a := fun _ h => h
  have hbA : ¬ zLA s b := Nat.not_le.mpr hbl
  obtain ⟨hIx, hIm, hR, hPx, hDx, hPm, hDm, hS⟩ := T
  refine lv_aload_n hx hb dL_law_714 rfl (lv_at hl 1 rfl) ?_
  refine lv_aload_n hx hb dL_law_715 rfl (lv_at hl 0 rfl) ?_
  refine lv_iload_n hx hb dL_law_716 rfl (lv_at hl 3 rfl) ?_
  refine lv_iconst (v := nI 1) hx hb dL_law_717 (by decide +kernel) ?_
  refine lv_iadd hx hb dL_law_718 ?_
  refine z_eqi (y := nI (j + 1)) (nI_add j 1) ?_
  refine va_sld hx hb hX hbl hbA hS (vp_in_nI (by omega) (by omega)) dL_law_719 ?_
  refine z_eqi (y := xs (j + 1)) (congrArg xs (nI_clamp (by omega))) ?_
  refine lv_aload_n hx hb dL_law_720 rfl (lv_at hl 0 rfl) ?_
  refine lv_iload_n hx hb dL_law_721 rfl (lv_at hl 3 rfl) ?_
  refine lv_iconst (v := nI 2) hx hb dL_law_722 (by decide +kernel) ?_
  refine lv_iadd hx hb dL_law_723 ?_
  refine z_eqi (y := nI (j + 2)) (nI_add j 2) ?_
  refine va_sld hx hb hX hbl hbA hS (vp_in_nI (by omega) (by omega)) dL_law_724 ?_
  refine z_eqi (y := xs (j + 2)) (congrArg xs (nI_clamp (by omega))) ?_
  refine z_callVi (k := 0) (As := [.int (xs (j + 1)), .int (xs (j + 2))]) (rest := []) hx hb hml hown ht (xk_X10_lock l D qx cx F _ _ _ hIx (xs (j + 1)) (xs (j + 2))) hw_3_232 hmX10_lock ⟨rfl, rfl⟩ (na := 2) rfl (by decide +kernel) ⟨Nat.le_of_ble_eq_true rfl, Nat.le_of_ble_eq_true rfl⟩ (by decide) rfl rfl hKx hPx hDx hS hA hl.1 rfl (Nat.le_of_ble_eq_true rfl) ⟨Nat.le_of_ble_eq_true rfl, Nat.le_of_ble_eq_true rfl⟩ dL_law_725 (fun r_x I_x R_x J_x H1 locs hp_x hPx hDx hS hz_x hk_x => ?_)
  have hPm := z_frame (q := qx) (n := 81) hPm hdis hk_x
  generalize H1 = H at hPm hPx hS ⊢
  have hv_x := hp_x.2
  refine lv_pop hx hb dL_law_728 rfl ?_
  refine lv_aload_n hx hb dL_law_729 rfl (lv_at hl 2 rfl) ?_
  refine lv_aload_n hx hb dL_law_730 rfl (lv_at hl 0 rfl) ?_
  refine lv_iload_n hx hb dL_law_731 rfl (lv_at hl 3 rfl) ?_
  refine lv_iconst (v := nI 1) hx hb dL_law_732 (by decide +kernel) ?_
  refine lv_iadd hx hb dL_law_733 ?_
  refine z_eqi (y := nI (j + 1)) (nI_add j 1) ?_
  refine va_sld hx hb hX hbl hbA hS (vp_in_nI (by omega) (by omega)) dL_law_734 ?_
  refine z_eqi (y := xs (j + 1)) (congrArg xs (nI_clamp (by omega))) ?_
  refine lv_aload_n hx hb dL_law_735 rfl (lv_at hl 0 rfl) ?_
  refine lv_iload_n hx hb dL_law_736 rfl (lv_at hl 3 rfl) ?_
  refine lv_iconst (v := nI 2) hx hb dL_law_737 (by decide +kernel) ?_
  refine lv_iadd hx hb dL_law_738 ?_
  refine z_eqi (y := nI (j + 2)) (nI_add j 2) ?_
  refine va_sld hx hb hX hbl hbA hS (vp_in_nI (by omega) (by omega)) dL_law_739 ?_
  refine z_eqi (y := xs (j + 2)) (congrArg xs (nI_clamp (by omega))) ?_
  refine z_callVi (k := 0) (As := [.int (xs (j + 1)), .int (xs (j + 2))]) (rest := []) hx hb hml hown ht (mk_X11_lock l D qm cm G _ _ _ hIm (xs (j + 1)) (xs (j + 2))) hw_7_67 hmX11_lock ⟨rfl, rfl⟩ (na := 2) rfl (by decide +kernel) ⟨Nat.le_of_ble_eq_true rfl, Nat.le_of_ble_eq_true rfl⟩ (by decide) rfl rfl hKm hPm hDm hS hA hl.1 rfl (Nat.le_of_ble_eq_true rfl) ⟨Nat.le_of_ble_eq_true rfl, Nat.le_of_ble_eq_true rfl⟩ dL_law_740 (fun r_m I_m R_m J_m H1 locs hp_m hPm hDm hS hz_m hk_m => ?_)
  have hPx := z_frame (q := qm) (n := 25) hPx (fun i hi j hj => (hdis j hj i hi).symm) hk_m
  obtain ⟨w9, hv_m⟩ := hp_m
  have T1 := zT_mk (s := s) hv_x hv_m (zRel_w hR) hPx hDx hPm hDm hS
  refine lv_pop hx hb dL_law_743 rfl ?_
  refine lv_goto (tgt := 1965) hx hb dL_law_744 (by decide) ?_
  exact kk _ _ _ _ _ _ _ _ _ _ _ T1 (lv_sub hl [0, 1, 2, 3] rfl)
set_option maxHeartbeats 4000000 in
set_option maxRecDepth 100000 in
theorem lc_15 {p : Program} {e : Env} {s : State} {m : MethodId} {below : List Frame} {meth : Method} {c : Code} {l : Launch} {b L j : Nat} {xs : Nat → Int32} {D : va_G} {qx qm : Nat → Nat} {cx cm : Nat → ClassId} {ax vx am vm : Nat → Nat} {t9 : Nat} {H : Heap} {locs : List Loc} {ls : Array Slot} {F G I R I' R' : Nat → Nat → Int32} {J J' : Nat → Nat → Int64} (C : zLaw p s m meth c b L xs D qx qm cx cm ax vx am vm t9) (hj : j + 6 ≤ L) (T : zTw D qx qm cx cm s F G I R I' R' J J' H locs) (hl : lv_has ls 4 [(0, .ref b), (1, .ref (qx 0)), (2, .ref (qm 0)), (3, .int (nI j))]) (kk : ∀ (F G I R I' R' : Nat → Nat → Int32) (J J' : Nat → Nat → Int64) (H : Heap) (locs : List Loc) (ls : Array Slot), zTw D qx qm cx cm s F G I R I' R' J J' H locs → lv_has ls 4 [(0, .ref b), (1, .ref (qx 0)), (2, .ref (qm 0)), (3, .int (nI j))] → W p l e room_1 s m #[Value.ref b] below meth c H locs 600000 7302250 (lw_Z below #[Value.ref b] s) (F0 m 1965 ls [])) : W p l e room_1 s m #[Value.ref b] below meth c H locs 600000 7302250 (lw_Z below #[Value.ref b] s) (F0 m 747 ls []) := by
  obtain ⟨⟨hx, hb, hr, hml, hown, hts, hX, hbl, hlocks, hgv⟩, hKx, hKm, hdis, hL, hNx, hNm⟩ := id C
  have hown : s.vm.findClass "ReceiptLeftLaw" = some m.cls := hown
  have ht : ∀ w ∈ zT, w.before #[Value.ref b] s = true := fun w h => hts w (zT_lw w h)
  have hA : ∀ a, s.heap.size ≤ a → zLA s a := fun _ h => h
  have hbA : ¬ zLA s b := Nat.not_le.mpr hbl
  obtain ⟨hIx, hIm, hR, hPx, hDx, hPm, hDm, hS⟩ := T
  refine lv_aload_n hx hb dL_law_747 rfl (lv_at hl 1 rfl) ?_
  refine z_callVi (k := 0) (As := []) (rest := []) hx hb hml hown ht (xk_X10_night l D qx cx F _ _ _ hIx ) hw_3_236 hmX10_night ⟨rfl, rfl⟩ (na := 0) rfl (by decide +kernel) ⟨Nat.le_of_ble_eq_true rfl, Nat.le_of_ble_eq_true rfl⟩ (by decide) rfl rfl hKx hPx hDx hS hA hl.1 rfl (Nat.le_of_ble_eq_true rfl) ⟨Nat.le_of_ble_eq_true rfl, Nat.le_of_ble_eq_true rfl⟩ dL_law_748 (fun r_x I_x R_x J_x H1 locs hp_x hPx hDx hS hz_x hk_x => ?_)
  have hPm := z_frame (q := qx) (n := 81) hPm hdis hk_x
  generalize H1 = H at hPm hPx hS ⊢
  have hv_x := hp_x.2
  refine lv_pop hx hb dL_law_751 rfl ?_
  refine lv_aload_n hx hb dL_law_752 rfl (lv_at hl 2 rfl) ?_
  refine z_callVi (k := 0) (As := []) (rest := []) hx hb hml hown ht (mk_X11_night l D qm cm G _ _ _ hIm ) hw_7_71 hmX11_night ⟨rfl, rfl⟩ (na := 0) rfl (by decide +kernel) ⟨Nat.le_of_ble_eq_true rfl, Nat.le_of_ble_eq_true rfl⟩ (by decide) rfl rfl hKm hPm hDm hS hA hl.1 rfl (Nat.le_of_ble_eq_true rfl) ⟨Nat.le_of_ble_eq_true rfl, Nat.le_of_ble_eq_true rfl⟩ dL_law_753 (fun r_m I_m R_m J_m H1 locs hp_m hPm hDm hS hz_m hk_m => ?_)
  have hPx := z_frame (q := qm) (n := 25) hPx (fun i hi j hj => (hdis j hj i hi).symm) hk_m
  obtain ⟨w9, hv_m⟩ := hp_m
  have T1 := zT_mk (s := s) hv_x hv_m (zRel_w hR) hPx hDx hPm hDm hS
  refine lv_pop hx hb dL_law_756 rfl ?_
  refine lv_goto (tgt := 1965) hx hb dL_law_757 (by decide) ?_
  exact kk _ _ _ _ _ _ _ _ _ _ _ T1 (lv_sub hl [0, 1, 2, 3] rfl)
