set_option maxHeartbeats 4000000 in
set_option maxRecDepth 100000 in
theorem lc_16 {p : Program} {e : Env} {s : State} {m : MethodId} {below : List Frame} {meth : Method} {c : Code} {l : Launch} {b L j : Nat} {xs : Nat → Int32} {D : va_G} {qx qm : Nat → Nat} {cx cm : Nat → ClassId} {ax vx am vm : Nat → Nat} {t9 : Nat} {H : Heap} {locs : List Loc} {ls : Array Slot} {F G I R I' R' : Nat → Nat → Int32} {J J' : Nat → Nat → Int64} (C : zLaw p s m meth c b L xs D qx qm cx cm ax vx am vm t9) (hj : j + 6 ≤ L) (T : zTw D qx qm cx cm s F G I R I' R' J J' H locs) (hl : lv_has ls 4 [(0, .ref b), (1, .ref (qx 0)), (2, .ref (qm 0)), (3, .int (nI j))]) (kk : ∀ (F G I R I' R' : Nat → Nat → Int32) (J J' : Nat → Nat → Int64) (H : Heap) (locs : List Loc) (ls : Array Slot), zTw D qx qm cx cm s F G I R I' R' J J' H locs → lv_has ls 4 [(0, .ref b), (1, .ref (qx 0)), (2, .ref (qm 0)), (3, .int (nI j))] → W p l e room_1 s m #[Value.ref b] below meth c H locs 600000 7302250 (lw_Z below #[Value.ref b] s) (F0 m 1965 ls [])) : W p l e room_1 s m #[Value.ref b] below meth c H locs 600000 7302250 (lw_Z below #[Value.ref b] s) (F0 m 760 ls []) := by
  obtain ⟨⟨hx, hb, hr, hml, hown, hts, hX, hbl, hlocks, hgv⟩, hKx, hKm, hdis, hL, hNx, hNm⟩ := id C
  have hown : s.vm.findClass "ReceiptLeftLaw" = some m.cls := hown
  have ht : ∀ w ∈ zT, w.before #[Value.ref b] s = true := fun w h => hts w (zT_lw w h)
  have hA : ∀ a, s.heap.size ≤ a → zLA s a := fun _ h => h
  have hbA : ¬ zLA s b := Nat.not_le.mpr hbl
  obtain ⟨hIx, hIm, hR, hPx, hDx, hPm, hDm, hS⟩ := T
  refine lv_aload_n hx hb dL_law_760 rfl (lv_at hl 1 rfl) ?_
  refine z_callVi (k := 0) (As := []) (rest := []) hx hb hml hown ht (xk_X10_undo l D qx cx F _ _ _ hIx ) hw_4_4 hmX10_undo ⟨rfl, rfl⟩ (na := 0) rfl (by decide +kernel) ⟨Nat.le_of_ble_eq_true rfl, Nat.le_of_ble_eq_true rfl⟩ (by decide) rfl rfl hKx hPx hDx hS hA hl.1 rfl (Nat.le_of_ble_eq_true rfl) ⟨Nat.le_of_ble_eq_true rfl, Nat.le_of_ble_eq_true rfl⟩ dL_law_761 (fun r_x I_x R_x J_x H1 locs hp_x hPx hDx hS hz_x hk_x => ?_)
  have hPm := z_frame (q := qx) (n := 81) hPm hdis hk_x
  generalize H1 = H at hPm hPx hS ⊢
  have hv_x := hp_x.2
  refine lv_pop hx hb dL_law_764 rfl ?_
  refine lv_aload_n hx hb dL_law_765 rfl (lv_at hl 2 rfl) ?_
  refine z_callVi (k := 0) (As := []) (rest := []) hx hb hml hown ht (mk_X11_undo l D qm cm G _ _ _ hIm ) hw_7_79 hmX11_undo ⟨rfl, rfl⟩ (na := 0) rfl (by decide +kernel) ⟨Nat.le_of_ble_eq_true rfl, Nat.le_of_ble_eq_true rfl⟩ (by decide) rfl rfl hKm hPm hDm hS hA hl.1 rfl (Nat.le_of_ble_eq_true rfl) ⟨Nat.le_of_ble_eq_true rfl, Nat.le_of_ble_eq_true rfl⟩ dL_law_766 (fun r_m I_m R_m J_m H1 locs hp_m hPm hDm hS hz_m hk_m => ?_)
  have hPx := z_frame (q := qm) (n := 25) hPx (fun i hi j hj => (hdis j hj i hi).symm) hk_m
  obtain ⟨w9, hv_m⟩ := hp_m
  have T1 := zT_mk (s := s) hv_x hv_m (zRel_w hR) hPx hDx hPm hDm hS
  refine lv_pop hx hb dL_law_769 rfl ?_
  refine lv_goto (tgt := 1965) hx hb dL_law_770 (by decide) ?_
  exact kk _ _ _ _ _ _ _ _ _ _ _ T1 (lv_sub hl [0, 1, 2, 3] rfl)
set_option maxHeartbeats 4000000 in
set_option maxRecDepth 100000 in
theorem lc_17 {p : Program} {e : Env} {s : State} {m : MethodId} {below : List Frame} {meth : Method} {c : Code} {l : Launch} {b L j : Nat} {xs : Nat → Int32} {D : va_G} {qx qm : Nat → Nat} {cx cm : Nat → ClassId} {ax vx am vm : Nat → Nat} {t9 : Nat} {H : Heap} {locs : List Loc} {ls : Array Slot} {F G I R I' R' : Nat → Nat → Int32} {J J' : Nat → Nat → Int64} (C : zLaw p s m meth c b L xs D qx qm cx cm ax vx am vm t9) (hj : j + 6 ≤ L) (T : zTw D qx qm cx cm s F G I R I' R' J J' H locs) (hl : lv_has ls 4 [(0, .ref b), (1, .ref (qx 0)), (2, .ref (qm 0)), (3, .int (nI j))]) (kk : ∀ (F G I R I' R' : Nat → Nat → Int32) (J J' : Nat → Nat → Int64) (H : Heap) (locs : List Loc) (ls : Array Slot), zTw D qx qm cx cm s F G I R I' R' J J' H locs → lv_has ls 4 [(0, .ref b), (1, .ref (qx 0)), (2, .ref (qm 0)), (3, .int (nI j))] → W p l e room_1 s m #[Value.ref b] below meth c H locs 600000 7302250 (lw_Z below #[Value.ref b] s) (F0 m 1965 ls [])) : W p l e room_1 s m #[Value.ref b] below meth c H locs 600000 7302250 (lw_Z below #[Value.ref b] s) (F0 m 773 ls []) := by
  obtain ⟨⟨hx, hb, hr, hml, hown, hts, hX, hbl, hlocks, hgv⟩, hKx, hKm, hdis, hL, hNx, hNm⟩ := id C
  have hown : s.vm.findClass "ReceiptLeftLaw" = some m.cls := hown
  have ht : ∀ w ∈ zT, w.before #[Value.ref b] s = true := fun w h => hts w (zT_lw w h)
  have hA : ∀ a, s.heap.size ≤ a → zLA s a := fun _ h => h
  have hbA : ¬ zLA s b := Nat.not_le.mpr hbl
  obtain ⟨hIx, hIm, hR, hPx, hDx, hPm, hDm, hS⟩ := T
  refine lv_aload_n hx hb dL_law_773 rfl (lv_at hl 1 rfl) ?_
  refine z_callVi (k := 0) (As := []) (rest := []) hx hb hml hown ht (xk_X10_anew l D qx cx F _ _ _ hIx ) hw_4_14 hmX10_anew ⟨rfl, rfl⟩ (na := 0) rfl (by decide +kernel) ⟨Nat.le_of_ble_eq_true rfl, Nat.le_of_ble_eq_true rfl⟩ (by decide) rfl rfl hKx hPx hDx hS hA hl.1 rfl (Nat.le_of_ble_eq_true rfl) ⟨Nat.le_of_ble_eq_true rfl, Nat.le_of_ble_eq_true rfl⟩ dL_law_774 (fun r_x I_x R_x J_x H1 locs hp_x hPx hDx hS hz_x hk_x => ?_)
  have hPm := z_frame (q := qx) (n := 81) hPm hdis hk_x
  generalize H1 = H at hPm hPx hS ⊢
  have hv_x := hp_x.2
  refine lv_pop hx hb dL_law_777 rfl ?_
  refine lv_aload_n hx hb dL_law_778 rfl (lv_at hl 2 rfl) ?_
  refine z_callVi (k := 0) (As := []) (rest := []) hx hb hml hown ht (mk_X11_anew l D qm cm G _ _ _ hIm ) hw_7_83 hmX11_anew ⟨rfl, rfl⟩ (na := 0) rfl (by decide +kernel) ⟨Nat.le_of_ble_eq_true rfl, Nat.le_of_ble_eq_true rfl⟩ (by decide) rfl rfl hKm hPm hDm hS hA hl.1 rfl (Nat.le_of_ble_eq_true rfl) ⟨Nat.le_of_ble_eq_true rfl, Nat.le_of_ble_eq_true rfl⟩ dL_law_779 (fun r_m I_m R_m J_m H1 locs hp_m hPm hDm hS hz_m hk_m => ?_)
  have hPx := z_frame (q := qm) (n := 25) hPx (fun i hi j hj => (hdis j hj i hi).symm) hk_m
  obtain ⟨w9, hv_m⟩ := hp_m.2
  have T1 := zT_mk (s := s) hv_x hv_m (zRel_w hR) hPx hDx hPm hDm hS
  refine lv_pop hx hb dL_law_782 rfl ?_
  refine lv_goto (tgt := 1965) hx hb dL_law_783 (by decide) ?_
  exact kk _ _ _ _ _ _ _ _ _ _ _ T1 (lv_sub hl [0, 1, 2, 3] rfl)
set_option maxHeartbeats 4000000 in
set_option maxRecDepth 100000 in
theorem lc_18 {p : Program} {e : Env} {s : State} {m : MethodId} {below : List Frame} {meth : Method} {c : Code} {l : Launch} {b L j : Nat} {xs : Nat → Int32} {D : va_G} {qx qm : Nat → Nat} {cx cm : Nat → ClassId} {ax vx am vm : Nat → Nat} {t9 : Nat} {H : Heap} {locs : List Loc} {ls : Array Slot} {F G I R I' R' : Nat → Nat → Int32} {J J' : Nat → Nat → Int64} (C : zLaw p s m meth c b L xs D qx qm cx cm ax vx am vm t9) (hj : j + 6 ≤ L) (T : zTw D qx qm cx cm s F G I R I' R' J J' H locs) (hl : lv_has ls 4 [(0, .ref b), (1, .ref (qx 0)), (2, .ref (qm 0)), (3, .int (nI j))]) (kk : ∀ (F G I R I' R' : Nat → Nat → Int32) (J J' : Nat → Nat → Int64) (H : Heap) (locs : List Loc) (ls : Array Slot), zTw D qx qm cx cm s F G I R I' R' J J' H locs → lv_has ls 4 [(0, .ref b), (1, .ref (qx 0)), (2, .ref (qm 0)), (3, .int (nI j))] → W p l e room_1 s m #[Value.ref b] below meth c H locs 600000 7302250 (lw_Z below #[Value.ref b] s) (F0 m 1965 ls [])) : W p l e room_1 s m #[Value.ref b] below meth c H locs 600000 7302250 (lw_Z below #[Value.ref b] s) (F0 m 786 ls []) := by
  obtain ⟨⟨hx, hb, hr, hml, hown, hts, hX, hbl, hlocks, hgv⟩, hKx, hKm, hdis, hL, hNx, hNm⟩ := id C
  have hown : s.vm.findClass "ReceiptLeftLaw" = some m.cls := hown
  have ht : ∀ w ∈ zT, w.before #[Value.ref b] s = true := fun w h => hts w (zT_lw w h)
  have hA : ∀ a, s.heap.size ≤ a → zLA s a := fun _ h => h
  have hbA : ¬ zLA s b := Nat.not_le.mpr hbl
  obtain ⟨hIx, hIm, hR, hPx, hDx, hPm, hDm, hS⟩ := T
  refine lv_aload_n hx hb dL_law_786 rfl (lv_at hl 1 rfl) ?_
  refine lv_aload_n hx hb dL_law_787 rfl (lv_at hl 0 rfl) ?_
  refine lv_iload_n hx hb dL_law_788 rfl (lv_at hl 3 rfl) ?_
  refine lv_iconst (v := nI 1) hx hb dL_law_789 (by decide +kernel) ?_
  refine lv_iadd hx hb dL_law_790 ?_
  refine z_eqi (y := nI (j + 1)) (nI_add j 1) ?_
  refine va_sld hx hb hX hbl hbA hS (vp_in_nI (by omega) (by omega)) dL_law_791 ?_
  refine z_eqi (y := xs (j + 1)) (congrArg xs (nI_clamp (by omega))) ?_
  refine z_callVi (k := 0) (As := [.int (xs (j + 1))]) (rest := []) hx hb hml hown ht (xk_X10_now l D qx cx F _ _ _ hIx (xs (j + 1))) hw_4_18 hmX10_now ⟨rfl, rfl⟩ (na := 1) rfl (by decide +kernel) ⟨Nat.le_of_ble_eq_true rfl, Nat.le_of_ble_eq_true rfl⟩ (by decide) rfl rfl hKx hPx hDx hS hA hl.1 rfl (Nat.le_of_ble_eq_true rfl) ⟨Nat.le_of_ble_eq_true rfl, Nat.le_of_ble_eq_true rfl⟩ dL_law_792 (fun r_x I_x R_x J_x H1 locs hp_x hPx hDx hS hz_x hk_x => ?_)
  have hPm := z_frame (q := qx) (n := 81) hPm hdis hk_x
  generalize H1 = H at hPm hPx hS ⊢
  have hv_x := z_stayx hIx (hp_x)
  refine lv_pop hx hb dL_law_795 rfl ?_
  refine lv_aload_n hx hb dL_law_796 rfl (lv_at hl 2 rfl) ?_
  refine lv_aload_n hx hb dL_law_797 rfl (lv_at hl 0 rfl) ?_
  refine lv_iload_n hx hb dL_law_798 rfl (lv_at hl 3 rfl) ?_
  refine lv_iconst (v := nI 1) hx hb dL_law_799 (by decide +kernel) ?_
  refine lv_iadd hx hb dL_law_800 ?_
  refine z_eqi (y := nI (j + 1)) (nI_add j 1) ?_
  refine va_sld hx hb hX hbl hbA hS (vp_in_nI (by omega) (by omega)) dL_law_801 ?_
  refine z_eqi (y := xs (j + 1)) (congrArg xs (nI_clamp (by omega))) ?_
  refine z_callVi (k := 0) (As := [.int (xs (j + 1))]) (rest := []) hx hb hml hown ht (mk_X11_now l D qm cm G _ _ _ hIm (xs (j + 1))) hw_7_87 hmX11_now ⟨rfl, rfl⟩ (na := 1) rfl (by decide +kernel) ⟨Nat.le_of_ble_eq_true rfl, Nat.le_of_ble_eq_true rfl⟩ (by decide) rfl rfl hKm hPm hDm hS hA hl.1 rfl (Nat.le_of_ble_eq_true rfl) ⟨Nat.le_of_ble_eq_true rfl, Nat.le_of_ble_eq_true rfl⟩ dL_law_802 (fun r_m I_m R_m J_m H1 locs hp_m hPm hDm hS hz_m hk_m => ?_)
  have hPx := z_frame (q := qm) (n := 25) hPx (fun i hi j hj => (hdis j hj i hi).symm) hk_m
  have hv_m := (hp_m).1
  have T1 := zT_mk (s := s) hv_x hv_m hR hPx hDx hPm hDm hS
  refine lv_pop hx hb dL_law_805 rfl ?_
  refine lv_goto (tgt := 1965) hx hb dL_law_806 (by decide) ?_
  exact kk _ _ _ _ _ _ _ _ _ _ _ T1 (lv_sub hl [0, 1, 2, 3] rfl)
set_option maxHeartbeats 4000000 in
set_option maxRecDepth 100000 in
theorem lc_19 {p : Program} {e : Env} {s : State} {m : MethodId} {below : List Frame} {meth : Method} {c : Code} {l : Launch} {b L j : Nat} {xs : Nat → Int32} {D : va_G} {qx qm : Nat → Nat} {cx cm : Nat → ClassId} {ax vx am vm : Nat → Nat} {t9 : Nat} {H : Heap} {locs : List Loc} {ls : Array Slot} {F G I R I' R' : Nat → Nat → Int32} {J J' : Nat → Nat → Int64} (C : zLaw p s m meth c b L xs D qx qm cx cm ax vx am vm t9) (hj : j + 6 ≤ L) (T : zTw D qx qm cx cm s F G I R I' R' J J' H locs) (hl : lv_has ls 4 [(0, .ref b), (1, .ref (qx 0)), (2, .ref (qm 0)), (3, .int (nI j))]) (kk : ∀ (F G I R I' R' : Nat → Nat → Int32) (J J' : Nat → Nat → Int64) (H : Heap) (locs : List Loc) (ls : Array Slot), zTw D qx qm cx cm s F G I R I' R' J J' H locs → lv_has ls 4 [(0, .ref b), (1, .ref (qx 0)), (2, .ref (qm 0)), (3, .int (nI j))] → W p l e room_1 s m #[Value.ref b] below meth c H locs 600000 7302250 (lw_Z below #[Value.ref b] s) (F0 m 1965 ls [])) : W p l e room_1 s m #[Value.ref b] below meth c H locs 600000 7302250 (lw_Z below #[Value.ref b] s) (F0 m 809 ls []) := by
  obtain ⟨⟨hx, hb, hr, hml, hown, hts, hX, hbl, hlocks, hgv⟩, hKx, hKm, hdis, hL, hNx, hNm⟩ := id C
  have hown : s.vm.findClass "ReceiptLeftLaw" = some m.cls := hown
  have ht : ∀ w ∈ zT, w.before #[Value.ref b] s = true := fun w h => hts w (zT_lw w h)
  have hA : ∀ a, s.heap.size ≤ a → zLA s a := fun _ h => h
  have hbA : ¬ zLA s b := Nat.not_le.mpr hbl
  obtain ⟨hIx, hIm, hR, hPx, hDx, hPm, hDm, hS⟩ := T
  refine lv_aload_n hx hb dL_law_809 rfl (lv_at hl 1 rfl) ?_
  refine lv_aload_n hx hb dL_law_810 rfl (lv_at hl 0 rfl) ?_
  refine lv_iload_n hx hb dL_law_811 rfl (lv_at hl 3 rfl) ?_
  refine lv_iconst (v := nI 1) hx hb dL_law_812 (by decide +kernel) ?_
  refine lv_iadd hx hb dL_law_813 ?_
  refine z_eqi (y := nI (j + 1)) (nI_add j 1) ?_
  refine va_sld hx hb hX hbl hbA hS (vp_in_nI (by omega) (by omega)) dL_law_814 ?_
  refine z_eqi (y := xs (j + 1)) (congrArg xs (nI_clamp (by omega))) ?_
  refine z_callVi (k := 0) (As := [.int (xs (j + 1))]) (rest := []) hx hb hml hown ht (xk_X10_owner l D qx cx F _ _ _ hIx (xs (j + 1))) hw_4_31 hmX10_owner ⟨rfl, rfl⟩ (na := 1) rfl (by decide +kernel) ⟨Nat.le_of_ble_eq_true rfl, Nat.le_of_ble_eq_true rfl⟩ (by decide) rfl rfl hKx hPx hDx hS hA hl.1 rfl (Nat.le_of_ble_eq_true rfl) ⟨Nat.le_of_ble_eq_true rfl, Nat.le_of_ble_eq_true rfl⟩ dL_law_815 (fun r_x I_x R_x J_x H1 locs hp_x hPx hDx hS hz_x hk_x => ?_)
  have hPm := z_frame (q := qx) (n := 81) hPm hdis hk_x
  generalize H1 = H at hPm hPx hS ⊢
  have hv_x := hp_x
  refine lv_pop hx hb dL_law_818 rfl ?_
  refine lv_aload_n hx hb dL_law_819 rfl (lv_at hl 2 rfl) ?_
  refine lv_aload_n hx hb dL_law_820 rfl (lv_at hl 0 rfl) ?_
  refine lv_iload_n hx hb dL_law_821 rfl (lv_at hl 3 rfl) ?_
  refine lv_iconst (v := nI 1) hx hb dL_law_822 (by decide +kernel) ?_
  refine lv_iadd hx hb dL_law_823 ?_
  refine z_eqi (y := nI (j + 1)) (nI_add j 1) ?_
  refine va_sld hx hb hX hbl hbA hS (vp_in_nI (by omega) (by omega)) dL_law_824 ?_
  refine z_eqi (y := xs (j + 1)) (congrArg xs (nI_clamp (by omega))) ?_
  refine z_callVi (k := 0) (As := [.int (xs (j + 1))]) (rest := []) hx hb hml hown ht (mk_X11_owner l D qm cm G _ _ _ hIm (xs (j + 1))) hw_7_92 hmX11_owner ⟨rfl, rfl⟩ (na := 1) rfl (by decide +kernel) ⟨Nat.le_of_ble_eq_true rfl, Nat.le_of_ble_eq_true rfl⟩ (by decide) rfl rfl hKm hPm hDm hS hA hl.1 rfl (Nat.le_of_ble_eq_true rfl) ⟨Nat.le_of_ble_eq_true rfl, Nat.le_of_ble_eq_true rfl⟩ dL_law_825 (fun r_m I_m R_m J_m H1 locs hp_m hPm hDm hS hz_m hk_m => ?_)
  have hPx := z_frame (q := qm) (n := 25) hPx (fun i hi j hj => (hdis j hj i hi).symm) hk_m
  have hv_m := (hp_m.2).1
  have T1 := zT_mk (s := s) hv_x hv_m hR hPx hDx hPm hDm hS
  refine lv_pop hx hb dL_law_828 rfl ?_
  refine lv_goto (tgt := 1965) hx hb dL_law_829 (by decide) ?_
  exact kk _ _ _ _ _ _ _ _ _ _ _ T1 (lv_sub hl [0, 1, 2, 3] rfl)
set_option maxHeartbeats 4000000 in
set_option maxRecDepth 100000 in
theorem lc_20 {p : Program} {e : Env} {s : State} {m : MethodId} {below : List Frame} {meth : Method} {c : Code} {l : Launch} {b L j : Nat} {xs : Nat → Int32} {D : va_G} {qx qm : Nat → Nat} {cx cm : Nat → ClassId} {ax vx am vm : Nat → Nat} {t9 : Nat} {H : Heap} {locs : List Loc} {ls : Array Slot} {F G I R I' R' : Nat → Nat → Int32} {J J' : Nat → Nat → Int64} (C : zLaw p s m meth c b L xs D qx qm cx cm ax vx am vm t9) (hj : j + 6 ≤ L) (T : zTw D qx qm cx cm s F G I R I' R' J J' H locs) (hl : lv_has ls 4 [(0, .ref b), (1, .ref (qx 0)), (2, .ref (qm 0)), (3, .int (nI j))]) (kk : ∀ (F G I R I' R' : Nat → Nat → Int32) (J J' : Nat → Nat → Int64) (H : Heap) (locs : List Loc) (ls : Array Slot), zTw D qx qm cx cm s F G I R I' R' J J' H locs → lv_has ls 4 [(0, .ref b), (1, .ref (qx 0)), (2, .ref (qm 0)), (3, .int (nI j))] → W p l e room_1 s m #[Value.ref b] below meth c H locs 600000 7302250 (lw_Z below #[Value.ref b] s) (F0 m 1965 ls [])) : W p l e room_1 s m #[Value.ref b] below meth c H locs 600000 7302250 (lw_Z below #[Value.ref b] s) (F0 m 832 ls []) := by
  obtain ⟨⟨hx, hb, hr, hml, hown, hts, hX, hbl, hlocks, hgv⟩, hKx, hKm, hdis, hL, hNx, hNm⟩ := id C
  have hown : s.vm.findClass "ReceiptLeftLaw" = some m.cls := hown
  have ht : ∀ w ∈ zT, w.before #[Value.ref b] s = true := fun w h => hts w (zT_lw w h)
  have hA : ∀ a, s.heap.size ≤ a → zLA s a := fun _ h => h
  have hbA : ¬ zLA s b := Nat.not_le.mpr hbl
  obtain ⟨hIx, hIm, hR, hPx, hDx, hPm, hDm, hS⟩ := T
  refine lv_aload_n hx hb dL_law_832 rfl (lv_at hl 1 rfl) ?_
  refine lv_aload_n hx hb dL_law_833 rfl (lv_at hl 0 rfl) ?_
  refine lv_iload_n hx hb dL_law_834 rfl (lv_at hl 3 rfl) ?_
  refine lv_iconst (v := nI 1) hx hb dL_law_835 (by decide +kernel) ?_
  refine lv_iadd hx hb dL_law_836 ?_
  refine z_eqi (y := nI (j + 1)) (nI_add j 1) ?_
  refine va_sld hx hb hX hbl hbA hS (vp_in_nI (by omega) (by omega)) dL_law_837 ?_
  refine z_eqi (y := xs (j + 1)) (congrArg xs (nI_clamp (by omega))) ?_
  refine lv_aload_n hx hb dL_law_838 rfl (lv_at hl 0 rfl) ?_
  refine lv_iload_n hx hb dL_law_839 rfl (lv_at hl 3 rfl) ?_
  refine lv_iconst (v := nI 2) hx hb dL_law_840 (by decide +kernel) ?_
  refine lv_iadd hx hb dL_law_841 ?_
  refine z_eqi (y := nI (j + 2)) (nI_add j 2) ?_
  refine va_sld hx hb hX hbl hbA hS (vp_in_nI (by omega) (by omega)) dL_law_842 ?_
  refine z_eqi (y := xs (j + 2)) (congrArg xs (nI_clamp (by omega))) ?_
  refine z_callVi (k := 0) (As := [.int (xs (j + 1)), .int (xs (j + 2))]) (rest := []) hx hb hml hown ht (xk_X10_chain l D qx cx F _ _ _ hIx (xs (j + 1)) (xs (j + 2))) hw_4_50 hmX10_chain ⟨rfl, rfl⟩ (na := 2) rfl (by decide +kernel) ⟨Nat.le_of_ble_eq_true rfl, Nat.le_of_ble_eq_true rfl⟩ (by decide) rfl rfl hKx hPx hDx hS hA hl.1 rfl (Nat.le_of_ble_eq_true rfl) ⟨Nat.le_of_ble_eq_true rfl, Nat.le_of_ble_eq_true rfl⟩ dL_law_843 (fun r_x I_x R_x J_x H1 locs hp_x hPx hDx hS hz_x hk_x => ?_)
  have hPm := z_frame (q := qx) (n := 81) hPm hdis hk_x
  generalize H1 = H at hPm hPx hS ⊢
  have hv_x := hp_x
  refine lv_pop hx hb dL_law_846 rfl ?_
  refine lv_aload_n hx hb dL_law_847 rfl (lv_at hl 2 rfl) ?_
  refine lv_aload_n hx hb dL_law_848 rfl (lv_at hl 0 rfl) ?_
  refine lv_iload_n hx hb dL_law_849 rfl (lv_at hl 3 rfl) ?_
  refine lv_iconst (v := nI 1) hx hb dL_law_850 (by decide +kernel) ?_
  refine lv_iadd hx hb dL_law_851 ?_
  refine z_eqi (y := nI (j + 1)) (nI_add j 1) ?_
  refine va_sld hx hb hX hbl hbA hS (vp_in_nI (by omega) (by omega)) dL_law_852 ?_
  refine z_eqi (y := xs (j + 1)) (congrArg xs (nI_clamp (by omega))) ?_
  refine lv_aload_n hx hb dL_law_853 rfl (lv_at hl 0 rfl) ?_
  refine lv_iload_n hx hb dL_law_854 rfl (lv_at hl 3 rfl) ?_
  refine lv_iconst (v := nI 2) hx hb dL_law_855 (by decide +kernel) ?_
  refine lv_iadd hx hb dL_law_856 ?_
  refine z_eqi (y := nI (j + 2)) (nI_add j 2) ?_
  refine va_sld hx hb hX hbl hbA hS (vp_in_nI (by omega) (by omega)) dL_law_857 ?_
  refine z_eqi (y := xs (j + 2)) (congrArg xs (nI_clamp (by omega))) ?_
  refine z_callVi (k := 0) (As := [.int (xs (j + 1)), .int (xs (j + 2))]) (rest := []) hx hb hml hown ht (mk_X11_chain l D qm cm G _ _ _ hIm (xs (j + 1)) (xs (j + 2))) hw_7_108 hmX11_chain ⟨rfl, rfl⟩ (na := 2) rfl (by decide +kernel) ⟨Nat.le_of_ble_eq_true rfl, Nat.le_of_ble_eq_true rfl⟩ (by decide) rfl rfl hKm hPm hDm hS hA hl.1 rfl (Nat.le_of_ble_eq_true rfl) ⟨Nat.le_of_ble_eq_true rfl, Nat.le_of_ble_eq_true rfl⟩ dL_law_858 (fun r_m I_m R_m J_m H1 locs hp_m hPm hDm hS hz_m hk_m => ?_)
  have hPx := z_frame (q := qm) (n := 25) hPx (fun i hi j hj => (hdis j hj i hi).symm) hk_m
  have hv_m := (hp_m.2).1
  have T1 := zT_mk (s := s) hv_x hv_m hR hPx hDx hPm hDm hS
  refine lv_pop hx hb dL_law_861 rfl ?_
  refine lv_goto (tgt := 1965) hx hb dL_law_862 (by decide) ?_
  exact kk _ _ _ _ _ _ _ _ _ _ _ T1 (lv_sub hl [0, 1, 2, 3] rfl)
set_option maxHeartbeats 4000000 in
set_option maxRecDepth 100000 in
theorem lc_21 {p : Program} {e : Env} {s : State} {m : MethodId} {below : List Frame} {meth : Method} {c : Code} {l : Launch} {b L j : Nat} {xs : Nat → Int32} {D : va_G} {qx qm : Nat → Nat} {cx cm : Nat → ClassId} {ax vx am vm : Nat → Nat} {t9 : Nat} {H : Heap} {locs : List Loc} {ls : Array Slot} {F G I R I' R' : Nat → Nat → Int32} {J J' : Nat → Nat → Int64} (C : zLaw p s m meth c b L xs D qx qm cx cm ax vx am vm t9) (hj : j + 6 ≤ L) (T : zTw D qx qm cx cm s F G I R I' R' J J' H locs) (hl : lv_has ls 4 [(0, .ref b), (1, .ref (qx 0)), (2, .ref (qm 0)), (3, .int (nI j))]) (kk : ∀ (F G I R I' R' : Nat → Nat → Int32) (J J' : Nat → Nat → Int64) (H : Heap) (locs : List Loc) (ls : Array Slot), zTw D qx qm cx cm s F G I R I' R' J J' H locs → lv_has ls 4 [(0, .ref b), (1, .ref (qx 0)), (2, .ref (qm 0)), (3, .int (nI j))] → W p l e room_1 s m #[Value.ref b] below meth c H locs 600000 7302250 (lw_Z below #[Value.ref b] s) (F0 m 1965 ls [])) : W p l e room_1 s m #[Value.ref b] below meth c H locs 600000 7302250 (lw_Z below #[Value.ref b] s) (F0 m 865 ls []) := by
  obtain ⟨⟨hx, hb, hr, hml, hown, hts, hX, hbl, hlocks, hgv⟩, hKx, hKm, hdis, hL, hNx, hNm⟩ := id C
  have hown : s.vm.findClass "ReceiptLeftLaw" = some m.cls := hown
  have ht : ∀ w ∈ zT, w.before #[Value.ref b] s = true := fun w h => hts w (zT_lw w h)
  have hA : ∀ a, s.heap.size ≤ a → zLA s a := fun _ h => h
  have hbA : ¬ zLA s b := Nat.not_le.mpr hbl
  obtain ⟨hIx, hIm, hR, hPx, hDx, hPm, hDm, hS⟩ := T
  refine lv_aload_n hx hb dL_law_865 rfl (lv_at hl 1 rfl) ?_
  refine z_callVi (k := 0) (As := []) (rest := []) hx hb hml hown ht (xk_X10_rings l D qx cx F _ _ _ hIx ) hw_4_54 hmX10_rings ⟨rfl, rfl⟩ (na := 0) rfl (by decide +kernel) ⟨Nat.le_of_ble_eq_true rfl, Nat.le_of_ble_eq_true rfl⟩ (by decide) rfl rfl hKx hPx hDx hS hA hl.1 rfl (Nat.le_of_ble_eq_true rfl) ⟨Nat.le_of_ble_eq_true rfl, Nat.le_of_ble_eq_true rfl⟩ dL_law_866 (fun r_x I_x R_x J_x H1 locs hp_x hPx hDx hS hz_x hk_x => ?_)
  have hPm := z_frame (q := qx) (n := 81) hPm hdis hk_x
  generalize H1 = H at hPm hPx hS ⊢
  have hv_x := hp_x.2
  refine lv_pop hx hb dL_law_869 rfl ?_
  refine lv_aload_n hx hb dL_law_870 rfl (lv_at hl 2 rfl) ?_
  refine z_callVi (k := 0) (As := []) (rest := []) hx hb hml hown ht (mk_X11_rings l D qm cm G _ _ _ hIm ) hw_7_112 hmX11_rings ⟨rfl, rfl⟩ (na := 0) rfl (by decide +kernel) ⟨Nat.le_of_ble_eq_true rfl, Nat.le_of_ble_eq_true rfl⟩ (by decide) rfl rfl hKm hPm hDm hS hA hl.1 rfl (Nat.le_of_ble_eq_true rfl) ⟨Nat.le_of_ble_eq_true rfl, Nat.le_of_ble_eq_true rfl⟩ dL_law_871 (fun r_m I_m R_m J_m H1 locs hp_m hPm hDm hS hz_m hk_m => ?_)
  have hPx := z_frame (q := qm) (n := 25) hPx (fun i hi j hj => (hdis j hj i hi).symm) hk_m
  have hv_m := (hp_m.2).1
  have T1 := zT_mk (s := s) hv_x hv_m hR hPx hDx hPm hDm hS
  refine lv_pop hx hb dL_law_874 rfl ?_
  refine lv_goto (tgt := 1965) hx hb dL_law_875 (by decide) ?_
  exact kk _ _ _ _ _ _ _ _ _ _ _ T1 (lv_sub hl [0, 1, 2, 3] rfl)
set_option maxHeartbeats 4000000 in
set_option maxRecDepth 100000 in
theorem lc_22 {p : Program} {e : Env} {s : State} {m : MethodId} {below : List Frame} {meth : Method} {c : Code} {l : Launch} {b L j : Nat} {xs : Nat → Int32} {D : va_G} {qx qm : Nat → Nat} {cx cm : Nat → ClassId} {ax vx am vm : Nat → Nat} {t9 : Nat} {H : Heap} {locs : List Loc} {ls : Array Slot} {F G I R I' R' : Nat → Nat → Int32} {J J' : Nat → Nat → Int64} (C : zLaw p s m meth c b L xs D qx qm cx cm ax vx am vm t9) (hj : j + 6 ≤ L) (T : zTw D qx qm cx cm s F G I R I' R' J J' H locs) (hl : lv_has ls 4 [(0, .ref b), (1, .ref (qx 0)), (2, .ref (qm 0)), (3, .int (nI j))]) (kk : ∀ (F G I R I' R' : Nat → Nat → Int32) (J J' : Nat → Nat → Int64) (H : Heap) (locs : List Loc) (ls : Array Slot), zTw D qx qm cx cm s F G I R I' R' J J' H locs → lv_has ls 4 [(0, .ref b), (1, .ref (qx 0)), (2, .ref (qm 0)), (3, .int (nI j))] → W p l e room_1 s m #[Value.ref b] below meth c H locs 600000 7302250 (lw_Z below #[Value.ref b] s) (F0 m 1965 ls [])) : W p l e room_1 s m #[Value.ref b] below meth c H locs 600000 7302250 (lw_Z below #[Value.ref b] s) (F0 m 878 ls []) := by
  obtain ⟨⟨hx, hb, hr, hml, hown, hts, hX, hbl, hlocks, hgv⟩, hKx, hKm, hdis, hL, hNx, hNm⟩ := id C
  have hown : s.vm.findClass "ReceiptLeftLaw" = some m.cls := hown
  have ht : ∀ w ∈ zT, w.before #[Value.ref b] s = true := fun w h => hts w (zT_lw w h)
  have hA : ∀ a, s.heap.size ≤ a → zLA s a := fun _ h => h
  have hbA : ¬ zLA s b := Nat.not_le.mpr hbl
  obtain ⟨hIx, hIm, hR, hPx, hDx, hPm, hDm, hS⟩ := T
  refine lv_aload_n hx hb dL_law_878 rfl (lv_at hl 1 rfl) ?_
  refine lv_aload_n hx hb dL_law_879 rfl (lv_at hl 0 rfl) ?_
  refine lv_iload_n hx hb dL_law_880 rfl (lv_at hl 3 rfl) ?_
  refine lv_iconst (v := nI 1) hx hb dL_law_881 (by decide +kernel) ?_
  refine lv_iadd hx hb dL_law_882 ?_
  refine z_eqi (y := nI (j + 1)) (nI_add j 1) ?_
  refine va_sld hx hb hX hbl hbA hS (vp_in_nI (by omega) (by omega)) dL_law_883 ?_
  refine z_eqi (y := xs (j + 1)) (congrArg xs (nI_clamp (by omega))) ?_
  refine z_callVi (k := 0) (As := [.int (xs (j + 1))]) (rest := []) hx hb hml hown ht (xk_X10_owns l D qx cx F _ _ _ hIx (xs (j + 1))) hw_4_62 hmX10_owns ⟨rfl, rfl⟩ (na := 1) rfl (by decide +kernel) ⟨Nat.le_of_ble_eq_true rfl, Nat.le_of_ble_eq_true rfl⟩ (by decide) rfl rfl hKx hPx hDx hS hA hl.1 rfl (Nat.le_of_ble_eq_true rfl) ⟨Nat.le_of_ble_eq_true rfl, Nat.le_of_ble_eq_true rfl⟩ dL_law_884 (fun r_x I_x R_x J_x H1 locs hp_x hPx hDx hS hz_x hk_x => ?_)
  have hPm := z_frame (q := qx) (n := 81) hPm hdis hk_x
  generalize H1 = H at hPm hPx hS ⊢
  have hv_x := hp_x.2
  refine lv_pop hx hb dL_law_887 rfl ?_
  refine lv_aload_n hx hb dL_law_888 rfl (lv_at hl 2 rfl) ?_
  refine lv_aload_n hx hb dL_law_889 rfl (lv_at hl 0 rfl) ?_
  refine lv_iload_n hx hb dL_law_890 rfl (lv_at hl 3 rfl) ?_
  refine lv_iconst (v := nI 1) hx hb dL_law_891 (by decide +kernel) ?_
  refine lv_iadd hx hb dL_law_892 ?_
  refine z_eqi (y := nI (j + 1)) (nI_add j 1) ?_
  refine va_sld hx hb hX hbl hbA hS (vp_in_nI (by omega) (by omega)) dL_law_893 ?_
  refine z_eqi (y := xs (j + 1)) (congrArg xs (nI_clamp (by omega))) ?_
  refine z_callVi (k := 0) (As := [.int (xs (j + 1))]) (rest := []) hx hb hml hown ht (mk_X11_owns l D qm cm G _ _ _ hIm (xs (j + 1))) hw_7_116 hmX11_owns ⟨rfl, rfl⟩ (na := 1) rfl (by decide +kernel) ⟨Nat.le_of_ble_eq_true rfl, Nat.le_of_ble_eq_true rfl⟩ (by decide) rfl rfl hKm hPm hDm hS hA hl.1 rfl (Nat.le_of_ble_eq_true rfl) ⟨Nat.le_of_ble_eq_true rfl, Nat.le_of_ble_eq_true rfl⟩ dL_law_894 (fun r_m I_m R_m J_m H1 locs hp_m hPm hDm hS hz_m hk_m => ?_)
  have hPx := z_frame (q := qm) (n := 25) hPx (fun i hi j hj => (hdis j hj i hi).symm) hk_m
  have hv_m := (hp_m.2).1
  have T1 := zT_mk (s := s) hv_x hv_m hR hPx hDx hPm hDm hS
  refine lv_pop hx hb dL_law_897 rfl ?_
  refine lv_goto (tgt := 1965) hx hb dL_law_898 (by decide) ?_
  exact kk _ _ _ _ _ _ _ _ _ _ _ T1 (lv_sub hl [0, 1, 2, 3] rfl)
set_option maxHeartbeats 4000000 in
set_option maxRecDepth 100000 in
theorem lc_23 {p : Program} {e : Env} {s : State} {m : MethodId} {below : List Frame} {meth : Method} {c : Code} {l : Launch} {b L j : Nat} {xs : Nat → Int32} {D : va_G} {qx qm : Nat → Nat} {cx cm : Nat → ClassId} {ax vx am vm : Nat → Nat} {t9 : Nat} {H : Heap} {locs : List Loc} {ls : Array Slot} {F G I R I' R' : Nat → Nat → Int32} {J J' : Nat → Nat → Int64} (C : zLaw p s m meth c b L xs D qx qm cx cm ax vx am vm t9) (hj : j + 6 ≤ L) (T : zTw D qx qm cx cm s F G I R I' R' J J' H locs) (hl : lv_has ls 4 [(0, .ref b), (1, .ref (qx 0)), (2, .ref (qm 0)), (3, .int (nI j))]) (kk : ∀ (F G I R I' R' : Nat → Nat → Int32) (J J' : Nat → Nat → Int64) (H : Heap) (locs : List Loc) (ls : Array Slot), zTw D qx qm cx cm s F G I R I' R' J J' H locs → lv_has ls 4 [(0, .ref b), (1, .ref (qx 0)), (2, .ref (qm 0)), (3, .int (nI j))] → W p l e room_1 s m #[Value.ref b] below meth c H locs 600000 7302250 (lw_Z below #[Value.ref b] s) (F0 m 1965 ls [])) : W p l e room_1 s m #[Value.ref b] below meth c H locs 600000 7302250 (lw_Z below #[Value.ref b] s) (F0 m 901 ls []) := by
  obtain ⟨⟨hx, hb, hr, hml, hown, hts, hX, hbl, hlocks, hgv⟩, hKx, hKm, hdis, hL, hNx, hNm⟩ := id C
  have hown : s.vm.findClass "ReceiptLeftLaw" = some m.cls := hown
  have ht : ∀ w ∈ zT, w.before #[Value.ref b] s = true := fun w h => hts w (zT_lw w h)
  have hA : ∀ a, s.heap.size ≤ a → zLA s a := fun _ h => h
  have hbA : ¬ zLA s b := Nat.not_le.mpr hbl
  obtain ⟨hIx, hIm, hR, hPx, hDx, hPm, hDm, hS⟩ := T
  refine lv_aload_n hx hb dL_law_901 rfl (lv_at hl 1 rfl) ?_
  refine z_callVi (k := 0) (As := []) (rest := []) hx hb hml hown ht (xk_X10_twice l D qx cx F _ _ _ hIx ) hw_4_66 hmX10_twice ⟨rfl, rfl⟩ (na := 0) rfl (by decide +kernel) ⟨Nat.le_of_ble_eq_true rfl, Nat.le_of_ble_eq_true rfl⟩ (by decide) rfl rfl hKx hPx hDx hS hA hl.1 rfl (Nat.le_of_ble_eq_true rfl) ⟨Nat.le_of_ble_eq_true rfl, Nat.le_of_ble_eq_true rfl⟩ dL_law_902 (fun r_x I_x R_x J_x H1 locs hp_x hPx hDx hS hz_x hk_x => ?_)
  have hPm := z_frame (q := qx) (n := 81) hPm hdis hk_x
  generalize H1 = H at hPm hPx hS ⊢
  have hv_x := z_stayx hIx (hp_x)
  refine lv_pop hx hb dL_law_905 rfl ?_
  refine lv_aload_n hx hb dL_law_906 rfl (lv_at hl 2 rfl) ?_
  refine z_callVi (k := 0) (As := []) (rest := []) hx hb hml hown ht (mk_X11_twice l D qm cm G _ _ _ hIm ) hw_7_120 hmX11_twice ⟨rfl, rfl⟩ (na := 0) rfl (by decide +kernel) ⟨Nat.le_of_ble_eq_true rfl, Nat.le_of_ble_eq_true rfl⟩ (by decide) rfl rfl hKm hPm hDm hS hA hl.1 rfl (Nat.le_of_ble_eq_true rfl) ⟨Nat.le_of_ble_eq_true rfl, Nat.le_of_ble_eq_true rfl⟩ dL_law_907 (fun r_m I_m R_m J_m H1 locs hp_m hPm hDm hS hz_m hk_m => ?_)
  have hPx := z_frame (q := qm) (n := 25) hPx (fun i hi j hj => (hdis j hj i hi).symm) hk_m
  have hv_m := (hp_m).1
  have T1 := zT_mk (s := s) hv_x hv_m hR hPx hDx hPm hDm hS
  refine lv_pop hx hb dL_law_910 rfl ?_
  refine lv_goto (tgt := 1965) hx hb dL_law_911 (by decide) ?_
  exact kk _ _ _ _ _ _ _ _ _ _ _ T1 (lv_sub hl [0, 1, 2, 3] rfl)
set_option maxHeartbeats 4000000 in
set_option maxRecDepth 100000 in
theorem lc_24 {p : Program} {e : Env} {s : State} {m : MethodId} {below : List Frame} {meth : Method} {c : Code} {l : Launch} {b L j : Nat} {xs : Nat → Int32} {D : va_G} {qx qm : Nat → Nat} {cx cm : Nat → ClassId} {ax vx am vm : Nat → Nat} {t9 : Nat} {H : Heap} {locs : List Loc} {ls : Array Slot} {F G I R I' R' : Nat → Nat → Int32} {J J' : Nat → Nat → Int64} (C : zLaw p s m meth c b L xs D qx qm cx cm ax vx am vm t9) (hj : j + 6 ≤ L) (T : zTw D qx qm cx cm s F G I R I' R' J J' H locs) (hl : lv_has ls 4 [(0, .ref b), (1, .ref (qx 0)), (2, .ref (qm 0)), (3, .int (nI j))]) (kk : ∀ (F G I R I' R' : Nat → Nat → Int32) (J J' : Nat → Nat → Int64) (H : Heap) (locs : List Loc) (ls : Array Slot), zTw D qx qm cx cm s F G I R I' R' J J' H locs → lv_has ls 4 [(0, .ref b), (1, .ref (qx 0)), (2, .ref (qm 0)), (3, .int (nI j))] → W p l e room_1 s m #[Value.ref b] below meth c H locs 600000 7302250 (lw_Z below #[Value.ref b] s) (F0 m 1965 ls [])) : W p l e room_1 s m #[Value.ref b] below meth c H locs 600000 7302250 (lw_Z below #[Value.ref b] s) (F0 m 914 ls []) := by
  obtain ⟨⟨hx, hb, hr, hml, hown, hts, hX, hbl, hlocks, hgv⟩, hKx, hKm, hdis, hL, hNx, hNm⟩ := id C
  have hown : s.vm.findClass "ReceiptLeftLaw" = some m.cls := hown
  have ht : ∀ w ∈ zT, w.before #[Value.ref b] s = true := fun w h => hts w (zT_lw w h)
  have hA : ∀ a, s.heap.size ≤ a → zLA s a := fun _ h => h
  have hbA : ¬ zLA s b := Nat.not_le.mpr hbl
  obtain ⟨hIx, hIm, hR, hPx, hDx, hPm, hDm, hS⟩ := T
  refine lv_aload_n hx hb dL_law_914 rfl (lv_at hl 1 rfl) ?_
  refine z_callVi (k := 0) (As := []) (rest := []) hx hb hml hown ht (xk_X10_strikes l D qx cx F _ _ _ hIx ) hw_4_77 hmX10_strikes ⟨rfl, rfl⟩ (na := 0) rfl (by decide +kernel) ⟨Nat.le_of_ble_eq_true rfl, Nat.le_of_ble_eq_true rfl⟩ (by decide) rfl rfl hKx hPx hDx hS hA hl.1 rfl (Nat.le_of_ble_eq_true rfl) ⟨Nat.le_of_ble_eq_true rfl, Nat.le_of_ble_eq_true rfl⟩ dL_law_915 (fun r_x I_x R_x J_x H1 locs hp_x hPx hDx hS hz_x hk_x => ?_)
  have hPm := z_frame (q := qx) (n := 81) hPm hdis hk_x
  generalize H1 = H at hPm hPx hS ⊢
  have hv_x := hp_x.2
  refine lv_pop hx hb dL_law_918 rfl ?_
  refine lv_aload_n hx hb dL_law_919 rfl (lv_at hl 2 rfl) ?_
  refine z_callVi (k := 0) (As := []) (rest := []) hx hb hml hown ht (mk_X11_strikes l D qm cm G _ _ _ hIm ) hw_7_128 hmX11_strikes ⟨rfl, rfl⟩ (na := 0) rfl (by decide +kernel) ⟨Nat.le_of_ble_eq_true rfl, Nat.le_of_ble_eq_true rfl⟩ (by decide) rfl rfl hKm hPm hDm hS hA hl.1 rfl (Nat.le_of_ble_eq_true rfl) ⟨Nat.le_of_ble_eq_true rfl, Nat.le_of_ble_eq_true rfl⟩ dL_law_920 (fun r_m I_m R_m J_m H1 locs hp_m hPm hDm hS hz_m hk_m => ?_)
  have hPx := z_frame (q := qm) (n := 25) hPx (fun i hi j hj => (hdis j hj i hi).symm) hk_m
  have hv_m := (hp_m).1
  have T1 := zT_mk (s := s) hv_x hv_m hR hPx hDx hPm hDm hS
  refine lv_pop hx hb dL_law_923 rfl ?_
  refine lv_goto (tgt := 1965) hx hb dL_law_924 (by decide) ?_
  exact kk _ _ _ _ _ _ _ _ _ _ _ T1 (lv_sub hl [0, 1, 2, 3] rfl)
set_option maxHeartbeats 4000000 in
set_option maxRecDepth 100000 in
theorem lc_25 {p : Program} {e : Env} {s : State} {m : MethodId} {below : List Frame} {meth : Method} {c : Code} {l : Launch} {b L j : Nat} {xs : Nat → Int32} {D : va_G} {qx qm : Nat → Nat} {cx cm : Nat → ClassId} {ax vx am vm : Nat → Nat} {t9 : Nat} {H : Heap} {locs : List Loc} {ls : Array Slot} {F G I R I' R' : Nat → Nat → Int32} {J J' : Nat → Nat → Int64} (C : zLaw p s m meth c b L xs D qx qm cx cm ax vx am vm t9) (hj : j + 6 ≤ L) (T : zTw D qx qm cx cm s F G I R I' R' J J' H locs) (hl : lv_has ls 4 [(0, .ref b), (1, .ref (qx 0)), (2, .ref (qm 0)), (3, .int (nI j))]) (kk : ∀ (F G I R I' R' : Nat → Nat → Int32) (J J' : Nat → Nat → Int64) (H : Heap) (locs : List Loc) (ls : Array Slot), zTw D qx qm cx cm s F G I R I' R' J J' H locs → lv_has ls 4 [(0, .ref b), (1, .ref (qx 0)), (2, .ref (qm 0)), (3, .int (nI j))] → W p l e room_1 s m #[Value.ref b] below meth c H locs 600000 7302250 (lw_Z below #[Value.ref b] s) (F0 m 1965 ls [])) : W p l e room_1 s m #[Value.ref b] below meth c H locs 600000 7302250 (lw_Z below #[Value.ref b] s) (F0 m 927 ls []) := by
  obtain ⟨⟨hx, hb, hr, hml, hown, hts, hX, hbl, hlocks, hgv⟩, hKx, hKm, hdis, hL, hNx, hNm⟩ := id C
  have hown : s.vm.findClass "ReceiptLeftLaw" = some m.cls := hown
  have ht : ∀ w ∈ zT, w.before #[Value.ref b] s = true := fun w h => hts w (zT_lw w h)
  have hA : ∀ a, s.heap.size ≤ a → zLA s a := fun _ h => h
  have hbA : ¬ zLA s b := Nat.not_le.mpr hbl
  obtain ⟨hIx, hIm, hR, hPx, hDx, hPm, hDm, hS⟩ := T
  refine lv_aload_n hx hb dL_law_927 rfl (lv_at hl 1 rfl) ?_
  refine z_callVi (k := 0) (As := []) (rest := []) hx hb hml hown ht (xk_X10_struck l D qx cx F _ _ _ hIx ) hw_4_104 hmX10_struck ⟨rfl, rfl⟩ (na := 0) rfl (by decide +kernel) ⟨Nat.le_of_ble_eq_true rfl, Nat.le_of_ble_eq_true rfl⟩ (by decide) rfl rfl hKx hPx hDx hS hA hl.1 rfl (Nat.le_of_ble_eq_true rfl) ⟨Nat.le_of_ble_eq_true rfl, Nat.le_of_ble_eq_true rfl⟩ dL_law_928 (fun r_x I_x R_x J_x H1 locs hp_x hPx hDx hS hz_x hk_x => ?_)
  have hPm := z_frame (q := qx) (n := 81) hPm hdis hk_x
  generalize H1 = H at hPm hPx hS ⊢
  have hv_x := hp_x.2
  refine lv_pop hx hb dL_law_931 rfl ?_
  refine lv_aload_n hx hb dL_law_932 rfl (lv_at hl 2 rfl) ?_
  refine z_callVi (k := 0) (As := []) (rest := []) hx hb hml hown ht (mk_X11_struck l D qm cm G _ _ _ hIm ) hw_7_148 hmX11_struck ⟨rfl, rfl⟩ (na := 0) rfl (by decide +kernel) ⟨Nat.le_of_ble_eq_true rfl, Nat.le_of_ble_eq_true rfl⟩ (by decide) rfl rfl hKm hPm hDm hS hA hl.1 rfl (Nat.le_of_ble_eq_true rfl) ⟨Nat.le_of_ble_eq_true rfl, Nat.le_of_ble_eq_true rfl⟩ dL_law_933 (fun r_m I_m R_m J_m H1 locs hp_m hPm hDm hS hz_m hk_m => ?_)
  have hPx := z_frame (q := qm) (n := 25) hPx (fun i hi j hj => (hdis j hj i hi).symm) hk_m
  have hv_m := (hp_m.2).1
  have T1 := zT_mk (s := s) hv_x hv_m hR hPx hDx hPm hDm hS
  refine lv_pop hx hb dL_law_936 rfl ?_
  refine lv_goto (tgt := 1965) hx hb dL_law_937 (by decide) ?_
  exact kk _ _ _ _ _ _ _ _ _ _ _ T1 (lv_sub hl [0, 1, 2, 3] rfl)
set_option maxHeartbeats 4000000 in
set_option maxRecDepth 100000 in
theorem lc_26 {p : Program} {e : Env} {s : State} {m : MethodId} {below : List Frame} {meth : Method} {c : Code} {l : Launch} {b L j : Nat} {xs : Nat → Int32} {D : va_G} {qx qm : Nat → Nat} {cx cm : Nat → ClassId} {ax vx am vm : Nat → Nat} {t9 : Nat} {H : Heap} {locs : List Loc} {ls : Array Slot} {F G I R I' R' : Nat → Nat → Int32} {J J' : Nat → Nat → Int64} (C : zLaw p s m meth c b L xs D qx qm cx cm ax vx am vm t9) (hj : j + 6 ≤ L) (T : zTw D qx qm cx cm s F G I R I' R' J J' H locs) (hl : lv_has ls 4 [(0, .ref b), (1, .ref (qx 0)), (2, .ref (qm 0)), (3, .int (nI j))]) (kk : ∀ (F G I R I' R' : Nat → Nat → Int32) (J J' : Nat → Nat → Int64) (H : Heap) (locs : List Loc) (ls : Array Slot), zTw D qx qm cx cm s F G I R I' R' J J' H locs → lv_has ls 4 [(0, .ref b), (1, .ref (qx 0)), (2, .ref (qm 0)), (3, .int (nI j))] → W p l e room_1 s m #[Value.ref b] below meth c H locs 600000 7302250 (lw_Z below #[Value.ref b] s) (F0 m 1965 ls [])) : W p l e room_1 s m #[Value.ref b] below meth c H locs 600000 7302250 (lw_Z below #[Value.ref b] s) (F0 m 940 ls []) := by
  obtain ⟨⟨hx, hb, hr, hml, hown, hts, hX, hbl, hlocks, hgv⟩, hKx, hKm, hdis, hL, hNx, hNm⟩ := id C
  have hown : s.vm.findClass "ReceiptLeftLaw" = some m.cls := hown
  have ht : ∀ w ∈ zT, w.before #[Value.ref b] s = true := fun w h => hts w (zT_lw w h)
  have hA : ∀ a, s.heap.size ≤ a → zLA s a := fun _ h => h
  have hbA : ¬ zLA s b := Nat.not_le.mpr hbl
  obtain ⟨hIx, hIm, hR, hPx, hDx, hPm, hDm, hS⟩ := T
  refine lv_aload_n hx hb dL_law_940 rfl (lv_at hl 1 rfl) ?_
  refine lv_aload_n hx hb dL_law_941 rfl (lv_at hl 0 rfl) ?_
  refine lv_iload_n hx hb dL_law_942 rfl (lv_at hl 3 rfl) ?_
  refine lv_iconst (v := nI 1) hx hb dL_law_943 (by decide +kernel) ?_
  refine lv_iadd hx hb dL_law_944 ?_
  refine z_eqi (y := nI (j + 1)) (nI_add j 1) ?_
  refine va_sld hx hb hX hbl hbA hS (vp_in_nI (by omega) (by omega)) dL_law_945 ?_
  refine z_eqi (y := xs (j + 1)) (congrArg xs (nI_clamp (by omega))) ?_
  refine lv_aload_n hx hb dL_law_946 rfl (lv_at hl 0 rfl) ?_
  refine lv_iload_n hx hb dL_law_947 rfl (lv_at hl 3 rfl) ?_
  refine lv_iconst (v := nI 2) hx hb dL_law_948 (by decide +kernel) ?_
  refine lv_iadd hx hb dL_law_949 ?_
  refine z_eqi (y := nI (j + 2)) (nI_add j 2) ?_
  refine va_sld hx hb hX hbl hbA hS (vp_in_nI (by omega) (by omega)) dL_law_950 ?_
  refine z_eqi (y := xs (j + 2)) (congrArg xs (nI_clamp (by omega))) ?_
  refine z_callVi (k := 0) (As := [.int (xs (j + 1)), .int (xs (j + 2))]) (rest := []) hx hb hml hown ht (xk_X10_trail l D qx cx F _ _ _ hIx (xs (j + 1)) (xs (j + 2))) hw_4_108 hmX10_trail ⟨rfl, rfl⟩ (na := 2) rfl (by decide +kernel) ⟨Nat.le_of_ble_eq_true rfl, Nat.le_of_ble_eq_true rfl⟩ (by decide) rfl rfl hKx hPx hDx hS hA hl.1 rfl (Nat.le_of_ble_eq_true rfl) ⟨Nat.le_of_ble_eq_true rfl, Nat.le_of_ble_eq_true rfl⟩ dL_law_951 (fun r_x I_x R_x J_x H1 locs hp_x hPx hDx hS hz_x hk_x => ?_)
  have hPm := z_frame (q := qx) (n := 81) hPm hdis hk_x
  generalize H1 = H at hPm hPx hS ⊢
  have hv_x := z_stayx hIx (hp_x)
  refine lv_pop hx hb dL_law_954 rfl ?_
  refine lv_aload_n hx hb dL_law_955 rfl (lv_at hl 2 rfl) ?_
  refine lv_aload_n hx hb dL_law_956 rfl (lv_at hl 0 rfl) ?_
  refine lv_iload_n hx hb dL_law_957 rfl (lv_at hl 3 rfl) ?_
  refine lv_iconst (v := nI 1) hx hb dL_law_958 (by decide +kernel) ?_
  refine lv_iadd hx hb dL_law_959 ?_
  refine z_eqi (y := nI (j + 1)) (nI_add j 1) ?_
  refine va_sld hx hb hX hbl hbA hS (vp_in_nI (by omega) (by omega)) dL_law_960 ?_
  refine z_eqi (y := xs (j + 1)) (congrArg xs (nI_clamp (by omega))) ?_
  refine lv_aload_n hx hb dL_law_961 rfl (lv_at hl 0 rfl) ?_
  refine lv_iload_n hx hb dL_law_962 rfl (lv_at hl 3 rfl) ?_
  refine lv_iconst (v := nI 2) hx hb dL_law_963 (by decide +kernel) ?_
  refine lv_iadd hx hb dL_law_964 ?_
  refine z_eqi (y := nI (j + 2)) (nI_add j 2) ?_
  refine va_sld hx hb hX hbl hbA hS (vp_in_nI (by omega) (by omega)) dL_law_965 ?_
  refine z_eqi (y := xs (j + 2)) (congrArg xs (nI_clamp (by omega))) ?_
  refine z_callVi (k := 0) (As := [.int (xs (j + 1)), .int (xs (j + 2))]) (rest := []) hx hb hml hown ht (mk_X11_trail l D qm cm G _ _ _ hIm (xs (j + 1)) (xs (j + 2))) hw_7_152 hmX11_trail ⟨rfl, rfl⟩ (na := 2) rfl (by decide +kernel) ⟨Nat.le_of_ble_eq_true rfl, Nat.le_of_ble_eq_true rfl⟩ (by decide) rfl rfl hKm hPm hDm hS hA hl.1 rfl (Nat.le_of_ble_eq_true rfl) ⟨Nat.le_of_ble_eq_true rfl, Nat.le_of_ble_eq_true rfl⟩ dL_law_966 (fun r_m I_m R_m J_m H1 locs hp_m hPm hDm hS hz_m hk_m => ?_)
  have hPx := z_frame (q := qm) (n := 25) hPx (fun i hi j hj => (hdis j hj i hi).symm) hk_m
  have hv_m := (hp_m).1
  have T1 := zT_mk (s := s) hv_x hv_m hR hPx hDx hPm hDm hS
  refine lv_pop hx hb dL_law_969 rfl ?_
  refine lv_goto (tgt := 1965) hx hb dL_law_970 (by decide) ?_
  exact kk _ _ _ _ _ _ _ _ _ _ _ T1 (lv_sub hl [0, 1, 2, 3] rfl)
set_option maxHeartbeats 4000000 in
set_option maxRecDepth 100000 in
theorem lc_27 {p : Program} {e : Env} {s : State} {m : MethodId} {below : List Frame} {meth : Method} {c : Code} {l : Launch} {b L j : Nat} {xs : Nat → Int32} {D : va_G} {qx qm : Nat → Nat} {cx cm : Nat → ClassId} {ax vx am vm : Nat → Nat} {t9 : Nat} {H : Heap} {locs : List Loc} {ls : Array Slot} {F G I R I' R' : Nat → Nat → Int32} {J J' : Nat → Nat → Int64} (C : zLaw p s m meth c b L xs D qx qm cx cm ax vx am vm t9) (hj : j + 6 ≤ L) (T : zTw D qx qm cx cm s F G I R I' R' J J' H locs) (hl : lv_has ls 4 [(0, .ref b), (1, .ref (qx 0)), (2, .ref (qm 0)), (3, .int (nI j))]) (kk : ∀ (F G I R I' R' : Nat → Nat → Int32) (J J' : Nat → Nat → Int64) (H : Heap) (locs : List Loc) (ls : Array Slot), zTw D qx qm cx cm s F G I R I' R' J J' H locs → lv_has ls 4 [(0, .ref b), (1, .ref (qx 0)), (2, .ref (qm 0)), (3, .int (nI j))] → W p l e room_1 s m #[Value.ref b] below meth c H locs 600000 7302250 (lw_Z below #[Value.ref b] s) (F0 m 1965 ls [])) : W p l e room_1 s m #[Value.ref b] below meth c H locs 600000 7302250 (lw_Z below #[Value.ref b] s) (F0 m 973 ls []) := by
  obtain ⟨⟨hx, hb, hr, hml, hown, hts, hX, hbl, hlocks, hgv⟩, hKx, hKm, hdis, hL, hNx, hNm⟩ := id C
  have hown : s.vm.findClass "ReceiptLeftLaw" = some m.cls := hown
  have ht : ∀ w ∈ zT, w.before #[Value.ref b] s = true := fun w h => hts w (zT_lw w h)
  have hA : ∀ a, s.heap.size ≤ a → zLA s a := fun _ h => h
  have hbA : ¬ zLA s b := Nat.not_le.mpr hbl
  obtain ⟨hIx, hIm, hR, hPx, hDx, hPm, hDm, hS⟩ := T
  refine lv_aload_n hx hb dL_law_973 rfl (lv_at hl 1 rfl) ?_
  refine lv_aload_n hx hb dL_law_974 rfl (lv_at hl 0 rfl) ?_
  refine lv_iload_n hx hb dL_law_975 rfl (lv_at hl 3 rfl) ?_
  refine lv_iconst (v := nI 1) hx hb dL_law_976 (by decide +kernel) ?_
  refine lv_iadd hx hb dL_law_977 ?_
  refine z_eqi (y := nI (j + 1)) (nI_add j 1) ?_
  refine va_sld hx hb hX hbl hbA hS (vp_in_nI (by omega) (by omega)) dL_law_978 ?_
  refine z_eqi (y := xs (j + 1)) (congrArg xs (nI_clamp (by omega))) ?_
  refine z_callVi (k := 0) (As := [.int (xs (j + 1))]) (rest := []) hx hb hml hown ht (xk_X10_went l D qx cx F _ _ _ hIx (xs (j + 1))) hw_4_116 hmX10_went ⟨rfl, rfl⟩ (na := 1) rfl (by decide +kernel) ⟨Nat.le_of_ble_eq_true rfl, Nat.le_of_ble_eq_true rfl⟩ (by decide) rfl rfl hKx hPx hDx hS hA hl.1 rfl (Nat.le_of_ble_eq_true rfl) ⟨Nat.le_of_ble_eq_true rfl, Nat.le_of_ble_eq_true rfl⟩ dL_law_979 (fun r_x I_x R_x J_x H1 locs hp_x hPx hDx hS hz_x hk_x => ?_)
  have hPm := z_frame (q := qx) (n := 81) hPm hdis hk_x
  generalize H1 = H at hPm hPx hS ⊢
  have hv_x := z_stayx hIx (hp_x.2)
  refine lv_pop hx hb dL_law_982 rfl ?_
  refine lv_aload_n hx hb dL_law_983 rfl (lv_at hl 2 rfl) ?_
  refine lv_aload_n hx hb dL_law_984 rfl (lv_at hl 0 rfl) ?_
  refine lv_iload_n hx hb dL_law_985 rfl (lv_at hl 3 rfl) ?_
  refine lv_iconst (v := nI 1) hx hb dL_law_986 (by decide +kernel) ?_
  refine lv_iadd hx hb dL_law_987 ?_
  refine z_eqi (y := nI (j + 1)) (nI_add j 1) ?_
  refine va_sld hx hb hX hbl hbA hS (vp_in_nI (by omega) (by omega)) dL_law_988 ?_
  refine z_eqi (y := xs (j + 1)) (congrArg xs (nI_clamp (by omega))) ?_
  refine z_callVi (k := 0) (As := [.int (xs (j + 1))]) (rest := []) hx hb hml hown ht (mk_X11_went l D qm cm G _ _ _ hIm (xs (j + 1))) hw_7_156 hmX11_went ⟨rfl, rfl⟩ (na := 1) rfl (by decide +kernel) ⟨Nat.le_of_ble_eq_true rfl, Nat.le_of_ble_eq_true rfl⟩ (by decide) rfl rfl hKm hPm hDm hS hA hl.1 rfl (Nat.le_of_ble_eq_true rfl) ⟨Nat.le_of_ble_eq_true rfl, Nat.le_of_ble_eq_true rfl⟩ dL_law_989 (fun r_m I_m R_m J_m H1 locs hp_m hPm hDm hS hz_m hk_m => ?_)
  have hPx := z_frame (q := qm) (n := 25) hPx (fun i hi j hj => (hdis j hj i hi).symm) hk_m
  have hv_m := (hp_m.2).1
  have T1 := zT_mk (s := s) hv_x hv_m hR hPx hDx hPm hDm hS
  refine lv_pop hx hb dL_law_992 rfl ?_
  refine lv_goto (tgt := 1965) hx hb dL_law_993 (by decide) ?_
  exact kk _ _ _ _ _ _ _ _ _ _ _ T1 (lv_sub hl [0, 1, 2, 3] rfl)
set_option maxHeartbeats 4000000 in
set_option maxRecDepth 100000 in
theorem lc_28 {p : Program} {e : Env} {s : State} {m : MethodId} {below : List Frame} {meth : Method} {c : Code} {l : Launch} {b L j : Nat} {xs : Nat → Int32} {D : va_G} {qx qm : Nat → Nat} {cx cm : Nat → ClassId} {ax vx am vm : Nat → Nat} {t9 : Nat} {H : Heap} {locs : List Loc} {ls : Array Slot} {F G I R I' R' : Nat → Nat → Int32} {J J' : Nat → Nat → Int64} (C : zLaw p s m meth c b L xs D qx qm cx cm ax vx am vm t9) (hj : j + 6 ≤ L) (T : zTw D qx qm cx cm s F G I R I' R' J J' H locs) (hl : lv_has ls 4 [(0, .ref b), (1, .ref (qx 0)), (2, .ref (qm 0)), (3, .int (nI j))]) (kk : ∀ (F G I R I' R' : Nat → Nat → Int32) (J J' : Nat → Nat → Int64) (H : Heap) (locs : List Loc) (ls : Array Slot), zTw D qx qm cx cm s F G I R I' R' J J' H locs → lv_has ls 4 [(0, .ref b), (1, .ref (qx 0)), (2, .ref (qm 0)), (3, .int (nI j))] → W p l e room_1 s m #[Value.ref b] below meth c H locs 600000 7302250 (lw_Z below #[Value.ref b] s) (F0 m 1965 ls [])) : W p l e room_1 s m #[Value.ref b] below meth c H locs 600000 7302250 (lw_Z below #[Value.ref b] s) (F0 m 996 ls []) := by
  obtain ⟨⟨hx, hb, hr, hml, hown, hts, hX, hbl, hlocks, hgv⟩, hKx, hKm, hdis, hL, hNx, hNm⟩ := id C
  have hown : s.vm.findClass "ReceiptLeftLaw" = some m.cls := hown
  have ht : ∀ w ∈ zT, w.before #[Value.ref b] s = true := fun w h => hts w (zT_lw w h)
  have hA : ∀ a, s.heap.size ≤ a → zLA s a := fun _ h => h
  have hbA : ¬ zLA s b := Nat.not_le.mpr hbl
  obtain ⟨hIx, hIm, hR, hPx, hDx, hPm, hDm, hS⟩ := T
  refine lv_aload_n hx hb dL_law_996 rfl (lv_at hl 1 rfl) ?_
  refine lv_aload_n hx hb dL_law_997 rfl (lv_at hl 0 rfl) ?_
  refine lv_iload_n hx hb dL_law_998 rfl (lv_at hl 3 rfl) ?_
  refine lv_iconst (v := nI 1) hx hb dL_law_999 (by decide +kernel) ?_
  refine lv_iadd hx hb dL_law_1000 ?_
  refine z_eqi (y := nI (j + 1)) (nI_add j 1) ?_
  refine va_sld hx hb hX hbl hbA hS (vp_in_nI (by omega) (by omega)) dL_law_1001 ?_
  refine z_eqi (y := xs (j + 1)) (congrArg xs (nI_clamp (by omega))) ?_
  refine z_callVi (k := 0) (As := [.int (xs (j + 1))]) (rest := []) hx hb hml hown ht (xk_X10_lies l D qx cx F _ _ _ hIx (xs (j + 1))) hw_4_120 hmX10_lies ⟨rfl, rfl⟩ (na := 1) rfl (by decide +kernel) ⟨Nat.le_of_ble_eq_true rfl, Nat.le_of_ble_eq_true rfl⟩ (by decide) rfl rfl hKx hPx hDx hS hA hl.1 rfl (Nat.le_of_ble_eq_true rfl) ⟨Nat.le_of_ble_eq_true rfl, Nat.le_of_ble_eq_true rfl⟩ dL_law_1002 (fun r_x I_x R_x J_x H1 locs hp_x hPx hDx hS hz_x hk_x => ?_)
  have hPm := z_frame (q := qx) (n := 81) hPm hdis hk_x
  generalize H1 = H at hPm hPx hS ⊢
  have hv_x := z_stayx hIx (hp_x.2)
  refine lv_pop hx hb dL_law_1005 rfl ?_
  refine lv_aload_n hx hb dL_law_1006 rfl (lv_at hl 2 rfl) ?_
  refine lv_aload_n hx hb dL_law_1007 rfl (lv_at hl 0 rfl) ?_
  refine lv_iload_n hx hb dL_law_1008 rfl (lv_at hl 3 rfl) ?_
  refine lv_iconst (v := nI 1) hx hb dL_law_1009 (by decide +kernel) ?_
  refine lv_iadd hx hb dL_law_1010 ?_
  refine z_eqi (y := nI (j + 1)) (nI_add j 1) ?_
  refine va_sld hx hb hX hbl hbA hS (vp_in_nI (by omega) (by omega)) dL_law_1011 ?_
  refine z_eqi (y := xs (j + 1)) (congrArg xs (nI_clamp (by omega))) ?_
  refine z_callVi (k := 0) (As := [.int (xs (j + 1))]) (rest := []) hx hb hml hown ht (mk_X11_lies l D qm cm G _ _ _ hIm (xs (j + 1))) hw_7_160 hmX11_lies ⟨rfl, rfl⟩ (na := 1) rfl (by decide +kernel) ⟨Nat.le_of_ble_eq_true rfl, Nat.le_of_ble_eq_true rfl⟩ (by decide) rfl rfl hKm hPm hDm hS hA hl.1 rfl (Nat.le_of_ble_eq_true rfl) ⟨Nat.le_of_ble_eq_true rfl, Nat.le_of_ble_eq_true rfl⟩ dL_law_1012 (fun r_m I_m R_m J_m H1 locs hp_m hPm hDm hS hz_m hk_m => ?_)
  have hPx := z_frame (q := qm) (n := 25) hPx (fun i hi j hj => (hdis j hj i hi).symm) hk_m
  have hv_m := (hp_m.2).1
  have T1 := zT_mk (s := s) hv_x hv_m hR hPx hDx hPm hDm hS
  refine lv_pop hx hb dL_law_1015 rfl ?_
  refine lv_goto (tgt := 1965) hx hb dL_law_1016 (by decide) ?_
  exact kk _ _ _ _ _ _ _ _ _ _ _ T1 (lv_sub hl [0, 1, 2, 3] rfl)
set_option maxHeartbeats 4000000 in
set_option maxRecDepth 100000 in
theorem lc_29 {p : Program} {e : Env} {s : State} {m : MethodId} {below : List Frame} {meth : Method} {c : Code} {l : Launch} {b L j : Nat} {xs : Nat → Int32} {D : va_G} {qx qm : Nat → Nat} {cx cm : Nat → ClassId} {ax vx am vm : Nat → Nat} {t9 : Nat} {H : Heap} {locs : List Loc} {ls : Array Slot} {F G I R I' R' : Nat → Nat → Int32} {J J' : Nat → Nat → Int64} (C : zLaw p s m meth c b L xs D qx qm cx cm ax vx am vm t9) (hj : j + 6 ≤ L) (T : zTw D qx qm cx cm s F G I R I' R' J J' H locs) (hl : lv_has ls 4 [(0, .ref b), (1, .ref (qx 0)), (2, .ref (qm 0)), (3, .int (nI j))]) (kk : ∀ (F G I R I' R' : Nat → Nat → Int32) (J J' : Nat → Nat → Int64) (H : Heap) (locs : List Loc) (ls : Array Slot), zTw D qx qm cx cm s F G I R I' R' J J' H locs → lv_has ls 4 [(0, .ref b), (1, .ref (qx 0)), (2, .ref (qm 0)), (3, .int (nI j))] → W p l e room_1 s m #[Value.ref b] below meth c H locs 600000 7302250 (lw_Z below #[Value.ref b] s) (F0 m 1965 ls [])) : W p l e room_1 s m #[Value.ref b] below meth c H locs 600000 7302250 (lw_Z below #[Value.ref b] s) (F0 m 1019 ls []) := by
  obtain ⟨⟨hx, hb, hr, hml, hown, hts, hX, hbl, hlocks, hgv⟩, hKx, hKm, hdis, hL, hNx, hNm⟩ := id C
  have hown : s.vm.findClass "ReceiptLeftLaw" = some m.cls := hown
  have ht : ∀ w ∈ zT, w.before #[Value.ref b] s = true := fun w h => hts w (zT_lw w h)
  have hA : ∀ a, s.heap.size ≤ a → zLA s a := fun _ h => h
  have hbA : ¬ zLA s b := Nat.not_le.mpr hbl
  obtain ⟨hIx, hIm, hR, hPx, hDx, hPm, hDm, hS⟩ := T
  refine lv_aload_n hx hb dL_law_1019 rfl (lv_at hl 1 rfl) ?_
  refine z_callVi (k := 0) (As := []) (rest := []) hx hb hml hown ht (xk_X10_poorest l D qx cx F _ _ _ hIx ) hw_4_128 hmX10_poorest ⟨rfl, rfl⟩ (na := 0) rfl (by decide +kernel) ⟨Nat.le_of_ble_eq_true rfl, Nat.le_of_ble_eq_true rfl⟩ (by decide) rfl rfl hKx hPx hDx hS hA hl.1 rfl (Nat.le_of_ble_eq_true rfl) ⟨Nat.le_of_ble_eq_true rfl, Nat.le_of_ble_eq_true rfl⟩ dL_law_1020 (fun r_x I_x R_x J_x H1 locs hp_x hPx hDx hS hz_x hk_x => ?_)
  have hPm := z_frame (q := qx) (n := 81) hPm hdis hk_x
  generalize H1 = H at hPm hPx hS ⊢
  have hv_x := z_stayx hIx (hp_x.2)
  refine lv_pop hx hb dL_law_1023 rfl ?_
  refine lv_aload_n hx hb dL_law_1024 rfl (lv_at hl 2 rfl) ?_
  refine z_callVi (k := 0) (As := []) (rest := []) hx hb hml hown ht (mk_X11_poorest l D qm cm G _ _ _ hIm ) hw_7_168 hmX11_poorest ⟨rfl, rfl⟩ (na := 0) rfl (by decide +kernel) ⟨Nat.le_of_ble_eq_true rfl, Nat.le_of_ble_eq_true rfl⟩ (by decide) rfl rfl hKm hPm hDm hS hA hl.1 rfl (Nat.le_of_ble_eq_true rfl) ⟨Nat.le_of_ble_eq_true rfl, Nat.le_of_ble_eq_true rfl⟩ dL_law_1025 (fun r_m I_m R_m J_m H1 locs hp_m hPm hDm hS hz_m hk_m => ?_)
  have hPx := z_frame (q := qm) (n := 25) hPx (fun i hi j hj => (hdis j hj i hi).symm) hk_m
  have hv_m := (hp_m.2).1
  have T1 := zT_mk (s := s) hv_x hv_m hR hPx hDx hPm hDm hS
  refine lv_pop hx hb dL_law_1028 rfl ?_
  refine lv_goto (tgt := 1965) hx hb dL_law_1029 (by decide) ?_
  exact kk _ _ _ _ _ _ _ _ _ _ _ T1 (lv_sub hl [0, 1, 2, 3] rfl)
set_option maxHeartbeats 4000000 in
set_option maxRecDepth 100000 in
theorem lc_30 {p : Program} {e : Env} {s : State} {m : MethodId} {below : List Frame} {meth : Method} {c : Code} {l : Launch} {b L j : Nat} {xs : Nat → Int32} {D : va_G} {qx qm : Nat → Nat} {cx cm : Nat → ClassId} {ax vx am vm : Nat → Nat} {t9 : Nat} {H : Heap} {locs : List Loc} {ls : Array Slot} {F G I R I' R' : Nat → Nat → Int32} {J J' : Nat → Nat → Int64} (C : zLaw p s m meth c b L xs D qx qm cx cm ax vx am vm t9) (hj : j + 6 ≤ L) (T : zTw D qx qm cx cm s F G I R I' R' J J' H locs) (hl : lv_has ls 4 [(0, .ref b), (1, .ref (qx 0)), (2, .ref (qm 0)), (3, .int (nI j))]) (kk : ∀ (F G I R I' R' : Nat → Nat → Int32) (J J' : Nat → Nat → Int64) (H : Heap) (locs : List Loc) (ls : Array Slot), zTw D qx qm cx cm s F G I R I' R' J J' H locs → lv_has ls 4 [(0, .ref b), (1, .ref (qx 0)), (2, .ref (qm 0)), (3, .int (nI j))] → W p l e room_1 s m #[Value.ref b] below meth c H locs 600000 7302250 (lw_Z below #[Value.ref b] s) (F0 m 1965 ls [])) : W p l e room_1 s m #[Value.ref b] below meth c H locs 600000 7302250 (lw_Z below #[Value.ref b] s) (F0 m 1032 ls []) := by
  obtain ⟨⟨hx, hb, hr, hml, hown, hts, hX, hbl, hlocks, hgv⟩, hKx, hKm, hdis, hL, hNx, hNm⟩ := id C
  have hown : s.vm.findClass "ReceiptLeftLaw" = some m.cls := hown
  have ht : ∀ w ∈ zT, w.before #[Value.ref b] s = true := fun w h => hts w (zT_lw w h)
  have hA : ∀ a, s.heap.size ≤ a → zLA s a := fun _ h => h
  have hbA : ¬ zLA s b := Nat.not_le.mpr hbl
  obtain ⟨hIx, hIm, hR, hPx, hDx, hPm, hDm, hS⟩ := T
  refine lv_aload_n hx hb dL_law_1032 rfl (lv_at hl 1 rfl) ?_
  refine lv_aload_n hx hb dL_law_1033 rfl (lv_at hl 0 rfl) ?_
  refine lv_iload_n hx hb dL_law_1034 rfl (lv_at hl 3 rfl) ?_
  refine lv_iconst (v := nI 1) hx hb dL_law_1035 (by decide +kernel) ?_
  refine lv_iadd hx hb dL_law_1036 ?_
  refine z_eqi (y := nI (j + 1)) (nI_add j 1) ?_
  refine va_sld hx hb hX hbl hbA hS (vp_in_nI (by omega) (by omega)) dL_law_1037 ?_
  refine z_eqi (y := xs (j + 1)) (congrArg xs (nI_clamp (by omega))) ?_
  refine z_callVi (k := 0) (As := [.int (xs (j + 1))]) (rest := []) hx hb hml hown ht (xk_X10_due l D qx cx F _ _ _ hIx (xs (j + 1))) hw_4_132 hmX10_due ⟨rfl, rfl⟩ (na := 1) rfl (by decide +kernel) ⟨Nat.le_of_ble_eq_true rfl, Nat.le_of_ble_eq_true rfl⟩ (by decide) rfl rfl hKx hPx hDx hS hA hl.1 rfl (Nat.le_of_ble_eq_true rfl) ⟨Nat.le_of_ble_eq_true rfl, Nat.le_of_ble_eq_true rfl⟩ dL_law_1038 (fun r_x I_x R_x J_x H1 locs hp_x hPx hDx hS hz_x hk_x => ?_)
  have hPm := z_frame (q := qx) (n := 81) hPm hdis hk_x
  generalize H1 = H at hPm hPx hS ⊢
  have hv_x := z_stayx hIx (hp_x.2)
  refine lv_pop hx hb dL_law_1041 rfl ?_
  refine lv_aload_n hx hb dL_law_1042 rfl (lv_at hl 2 rfl) ?_
  refine lv_aload_n hx hb dL_law_1043 rfl (lv_at hl 0 rfl) ?_
  refine lv_iload_n hx hb dL_law_1044 rfl (lv_at hl 3 rfl) ?_
  refine lv_iconst (v := nI 1) hx hb dL_law_1045 (by decide +kernel) ?_
  refine lv_iadd hx hb dL_law_1046 ?_
  refine z_eqi (y := nI (j + 1)) (nI_add j 1) ?_
  refine va_sld hx hb hX hbl hbA hS (vp_in_nI (by omega) (by omega)) dL_law_1047 ?_
  refine z_eqi (y := xs (j + 1)) (congrArg xs (nI_clamp (by omega))) ?_
  refine z_callVi (k := 0) (As := [.int (xs (j + 1))]) (rest := []) hx hb hml hown ht (mk_X11_due l D qm cm G _ _ _ hIm (xs (j + 1))) hw_7_172 hmX11_due ⟨rfl, rfl⟩ (na := 1) rfl (by decide +kernel) ⟨Nat.le_of_ble_eq_true rfl, Nat.le_of_ble_eq_true rfl⟩ (by decide) rfl rfl hKm hPm hDm hS hA hl.1 rfl (Nat.le_of_ble_eq_true rfl) ⟨Nat.le_of_ble_eq_true rfl, Nat.le_of_ble_eq_true rfl⟩ dL_law_1048 (fun r_m I_m R_m J_m H1 locs hp_m hPm hDm hS hz_m hk_m => ?_)
  have hPx := z_frame (q := qm) (n := 25) hPx (fun i hi j hj => (hdis j hj i hi).symm) hk_m
  have hv_m := (hp_m.2).1
  have T1 := zT_mk (s := s) hv_x hv_m hR hPx hDx hPm hDm hS
  refine lv_pop hx hb dL_law_1051 rfl ?_
  refine lv_goto (tgt := 1965) hx hb dL_law_1052 (by decide) ?_
  exact kk _ _ _ _ _ _ _ _ _ _ _ T1 (lv_sub hl [0, 1, 2, 3] rfl)
set_option maxHeartbeats 4000000 in
set_option maxRecDepth 100000 in
theorem lc_31 {p : Program} {e : Env} {s : State} {m : MethodId} {below : List Frame} {meth : Method} {c : Code} {l : Launch} {b L j : Nat} {xs : Nat → Int32} {D : va_G} {qx qm : Nat → Nat} {cx cm : Nat → ClassId} {ax vx am vm : Nat → Nat} {t9 : Nat} {H : Heap} {locs : List Loc} {ls : Array Slot} {F G I R I' R' : Nat → Nat → Int32} {J J' : Nat → Nat → Int64} (C : zLaw p s m meth c b L xs D qx qm cx cm ax vx am vm t9) (hj : j + 6 ≤ L) (T : zTw D qx qm cx cm s F G I R I' R' J J' H locs) (hl : lv_has ls 4 [(0, .ref b), (1, .ref (qx 0)), (2, .ref (qm 0)), (3, .int (nI j))]) (kk : ∀ (F G I R I' R' : Nat → Nat → Int32) (J J' : Nat → Nat → Int64) (H : Heap) (locs : List Loc) (ls : Array Slot), zTw D qx qm cx cm s F G I R I' R' J J' H locs → lv_has ls 4 [(0, .ref b), (1, .ref (qx 0)), (2, .ref (qm 0)), (3, .int (nI j))] → W p l e room_1 s m #[Value.ref b] below meth c H locs 600000 7302250 (lw_Z below #[Value.ref b] s) (F0 m 1965 ls [])) : W p l e room_1 s m #[Value.ref b] below meth c H locs 600000 7302250 (lw_Z below #[Value.ref b] s) (F0 m 1055 ls []) := by
  obtain ⟨⟨hx, hb, hr, hml, hown, hts, hX, hbl, hlocks, hgv⟩, hKx, hKm, hdis, hL, hNx, hNm⟩ := id C
  have hown : s.vm.findClass "ReceiptLeftLaw" = some m.cls := hown
  have ht : ∀ w ∈ zT, w.before #[Value.ref b] s = true := fun w h => hts w (zT_lw w h)
  have hA : ∀ a, s.heap.size ≤ a → zLA s a := fun _ h => h
  have hbA : ¬ zLA s b := Nat.not_le.mpr hbl
  obtain ⟨hIx, hIm, hR, hPx, hDx, hPm, hDm, hS⟩ := T
  refine lv_aload_n hx hb dL_law_1055 rfl (lv_at hl 1 rfl) ?_
  refine z_callVi (k := 0) (As := []) (rest := []) hx hb hml hown ht (xk_X10_monday l D qx cx F _ _ _ hIx ) hw_4_140 hmX10_monday ⟨rfl, rfl⟩ (na := 0) rfl (by decide +kernel) ⟨Nat.le_of_ble_eq_true rfl, Nat.le_of_ble_eq_true rfl⟩ (by decide) rfl rfl hKx hPx hDx hS hA hl.1 rfl (Nat.le_of_ble_eq_true rfl) ⟨Nat.le_of_ble_eq_true rfl, Nat.le_of_ble_eq_true rfl⟩ dL_law_1056 (fun r_x I_x R_x J_x H1 locs hp_x hPx hDx hS hz_x hk_x => ?_)
  have hPm := z_frame (q := qx) (n := 81) hPm hdis hk_x
  generalize H1 = H at hPm hPx hS ⊢
  have hv_x := z_stayx hIx (hp_x.2)
  refine lv_pop hx hb dL_law_1059 rfl ?_
  refine lv_aload_n hx hb dL_law_1060 rfl (lv_at hl 2 rfl) ?_
  refine z_callVi (k := 0) (As := []) (rest := []) hx hb hml hown ht (mk_X11_monday l D qm cm G _ _ _ hIm ) hw_7_180 hmX11_monday ⟨rfl, rfl⟩ (na := 0) rfl (by decide +kernel) ⟨Nat.le_of_ble_eq_true rfl, Nat.le_of_ble_eq_true rfl⟩ (by decide) rfl rfl hKm hPm hDm hS hA hl.1 rfl (Nat.le_of_ble_eq_true rfl) ⟨Nat.le_of_ble_eq_true rfl, Nat.le_of_ble_eq_true rfl⟩ dL_law_1061 (fun r_m I_m R_m J_m H1 locs hp_m hPm hDm hS hz_m hk_m => ?_)
  have hPx := z_frame (q := qm) (n := 25) hPx (fun i hi j hj => (hdis j hj i hi).symm) hk_m
  have hv_m := (hp_m.2).1
  have T1 := zT_mk (s := s) hv_x hv_m hR hPx hDx hPm hDm hS
  refine lv_pop hx hb dL_law_1064 rfl ?_
  refine lv_goto (tgt := 1965) hx hb dL_law_1065 (by decide) ?_
  exact kk _ _ _ _ _ _ _ _ _ _ _ T1 (lv_sub hl [0, 1, 2, 3] rfl)
