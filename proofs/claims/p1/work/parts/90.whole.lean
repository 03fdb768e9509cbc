set_option maxHeartbeats 4000000 in
set_option maxRecDepth 100000 in
theorem whole_start {p : Program} {e : Env} {s : State} {m : MethodId} {below : List Frame} {meth : Method} {c : Code} (l : Launch) {b L : Nat} {xs : Nat → Int32} (hL : L ≤ 6) (C0 : lw_At p s m meth c b L xs) : W p l e room_1 s m #[Value.ref b] below meth c s.heap [] 0 0 (lw_Z below #[Value.ref b] s) (entryFrame m ([Value.ref b] : List Value).toArray 4) := by
  obtain ⟨hx, hb, hr, hml, hown, hts, hX, hbl, hlocks, hgv⟩ := id C0
  have hown : s.vm.findClass "ReceiptLeftLaw" = some m.cls := hown
  have ht : ∀ w ∈ zT, w.before #[Value.ref b] s = true := fun w h => hts w (zT_lw w h)
  have hA : ∀ a, s.heap.size ≤ a → zLA s a := fun _ h => h
  have hbA : ¬ zLA s b := Nat.not_le.mpr hbl
  obtain ⟨c0, iS0, hKn0⟩ := u_known (C := RX0) (T := TX0) (N := 2) (n := 2) ht ziX0 (ht _ hw_1_135)
  obtain ⟨c1, iS1, hKn1⟩ := u_known (C := RX1) (T := TX1) (N := 3) (n := 3) ht ziX1 (ht _ hw_2_29)
  obtain ⟨c2, iS2, hKn2⟩ := u_known (C := RX2) (T := TX2) (N := 11) (n := 11) ht ziX2 (ht _ hw_1_62)
  obtain ⟨c3, iS3, hKn3⟩ := u_known (C := RX3) (T := TX3) (N := 1) (n := 1) ht ziX3 (ht _ hw_2_9)
  obtain ⟨c4, iS4, hKn4⟩ := u_known (C := RX4) (T := TX4) (N := 1) (n := 1) ht ziX4 (ht _ hw_2_19)
  obtain ⟨c5, iS5, hKn5⟩ := u_known (C := RX5) (T := TX5) (N := 3) (n := 3) ht ziX5 (ht _ hw_2_51)
  obtain ⟨c6, iS6, hKn6⟩ := u_known (C := RX6) (T := TX6) (N := 3) (n := 3) ht ziX6 (ht _ hw_2_72)
  obtain ⟨c7, iS7, hKn7⟩ := u_known (C := RX7) (T := TX7) (N := 7) (n := 7) ht ziX7 (ht _ hw_1_30)
  obtain ⟨c8, iS8, hKn8⟩ := u_known (C := RX8) (T := TX8) (N := 6) (n := 6) ht ziX8 (ht _ hw_1_222)
  obtain ⟨c9, iS9, hKn9⟩ := u_known (C := RX9) (T := TX9) (N := 15) (n := 15) ht ziX9 (ht _ hw_1_149)
  obtain ⟨c10, iS10, hKn10⟩ := u_known (C := RX10) (T := TX10) (N := 12) (n := 12) ht ziX10 (ht _ hw_1_22)
  obtain ⟨c11, iS11, hKn11⟩ := u_known (C := RX11) (T := TX11) (N := 44) (n := 44) ht ziX11 (ht _ hw_5_183)
  obtain ⟨D, hKc⟩ : ∃ D : va_G, ∀ (k : Nat) (q : vw_C), vwCl[k]? = some q → u_Kn s q.1 q.2.1 q.2.2 (D.1 k) (D.2 k) := by
    refine ⟨(fun k => match k with | 0 => c0 | 1 => c1 | 2 => c2 | 3 => c3 | 4 => c4 | 5 => c5 | 6 => c6 | 7 => c7 | 8 => c8 | 9 => c9 | 10 => c10 | _ => c11, fun k => match k with | 0 => iS0 | 1 => iS1 | 2 => iS2 | 3 => iS3 | 4 => iS4 | 5 => iS5 | 6 => iS6 | 7 => iS7 | 8 => iS8 | 9 => iS9 | 10 => iS10 | _ => iS11), ?_⟩
    intro k q hq
    match k, hq with
    | 0, hq => cases hq; exact hKn0
    | 1, hq => cases hq; exact hKn1
    | 2, hq => cases hq; exact hKn2
    | 3, hq => cases hq; exact hKn3
    | 4, hq => cases hq; exact hKn4
    | 5, hq => cases hq; exact hKn5
    | 6, hq => cases hq; exact hKn6
    | 7, hq => cases hq; exact hKn7
    | 8, hq => cases hq; exact hKn8
    | 9, hq => cases hq; exact hKn9
    | 10, hq => cases hq; exact hKn10
    | 11, hq => cases hq; exact hKn11
    | k + 12, hq => simp [vwCl] at hq
  have hN : zN s := ⟨va_Nw.of rfl (hts _ hv_1_31), va_Nw.of rfl (hts _ hv_1_63), va_Nw.of rfl (hts _ hv_1_136), va_Nw.of rfl (hts _ hv_1_223), va_Nw.of rfl (hts _ hv_2_10), va_Nw.of rfl (hts _ hv_2_20), va_Nw.of rfl (hts _ hv_2_30), va_Nw.of rfl (hts _ hv_2_52), va_Nw.of rfl (hts _ hv_2_57), va_Nw.of rfl (hts _ hv_2_59), va_Nw.of rfl (hts _ hv_2_73), va_AO.of (hts _ hv_2_48), va_AO.of (hts _ hv_2_50)⟩
  have hS : va_S (zLA s) s.heap s.heap [] := va_S.rf
  have hK : va_K D vwCl [] s := ⟨hKc, fun k q h => by simp at h⟩
  have hP : va_P D vwCl [] s.heap := fun k q h => by simp at h
  have hD : va_D (zLA s) [] := ⟨fun i j p q h => by simp at h, fun k q h => by simp at h⟩
  have hl := lv_entry ([.ref b]) (n := 4) (Nat.le_of_ble_eq_true rfl)
  rw [lg_entry_eq]
  generalize (lg_sl ([.ref b]) ++ List.replicate (4 - (lg_sl ([.ref b])).length) Slot.unset).toArray = ls at hl ⊢
  have hl : lv_has ls 4 [(0, .ref b)] := hl
  refine va_new (ci := 10) (fs := [.null, .null, .null, .null, .null, .null, .null, .null, .null, .null, .null, .null]) (C := RX10) (T := TX10) (N := 12) hx hb ht ziX10 tyX10 tyX10_ok hown (ht _ hw_1_21) (ht _ hw_1_22) (ht _ hw_1_1) hK hP hD hS hA rfl (by decide +kernel) (Nat.le_of_ble_eq_true rfl) (Nat.le_of_ble_eq_true rfl) dL_law_0 (fun hx0 H hP hD hS => ?_)
  refine lv_dup hx hb dL_law_3 rfl ?_
  refine z_ctI (wr := []) (As := []) (rest := [.ref hx0]) hx hb hml hown ht (iX10_init l D hx0) hw_1_23 ⟨hw_1_24, hw_1_1, hw_1_25⟩ rfl ⟨rfl, rfl⟩ (na := 0) rfl (by decide +kernel) ⟨Nat.le_of_ble_eq_true rfl, Nat.le_of_ble_eq_true rfl⟩ hK hP hD hS hA hN (fun _ hW => zN_warm hW hN) zN_call hl.1 rfl (Nat.le_of_ble_eq_true rfl) ⟨Nat.le_of_ble_eq_true rfl, Nat.le_of_ble_eq_true rfl⟩ dL_law_4 (fun uhx0 H locs hK hP hD hS => ?_)
  obtain ⟨cx, ecx⟩ : ∃ cx, cx = uhx0.2 := ⟨_, rfl⟩
  obtain ⟨qx, eqx⟩ : ∃ qx, qx = zr uhx0.1 0 hx0 := ⟨_, rfl⟩
  have hqx : hx0 = qx 0 := by rw [eqx]; rfl
  have hK : va_K D vwCl (zXtys cx) s := by rw [ecx]; exact hK
  have hP : va_P D vwCl (zw 81 qx (zXd qx cx) zXI0 zXR0 zXJ0) H := by rw [ecx, eqx]; exact hP
  have hD : va_D (zLA s) (zw 81 qx (zXd qx cx) zXI0 zXR0 zXJ0) := by rw [ecx, eqx]; exact hD
  refine lv_astore_n (lv' := [(1, .ref hx0), (0, .ref b)]) hx hb dL_law_7 rfl hl (by decide) rfl (fun ls hl => ?_)
  refine va_new (ci := 11) (fs := [.int (nI 0), .null, .null, .null, .null, .int (nI 0), .null, .int (nI 0), .int (nI 0), .int (nI 0), .int (nI 0), .int (nI 0), .int (nI 0), .int (nI 0), .null, .null, .null, .null, .null, .null, .null, .null, .null, .null, .null, .null, .int (nI 0), .int (nI 0), .int (nI 0), .int (nI 0), .null, .int (nI 0), .null, .int (nI 0), .int (nI 0), .null, .int (nI 0), .int (nI 0), .int (nI 0), .long (0), .null, .null, .null, .null]) (C := RX11) (T := TX11) (N := 44) hx hb ht ziX11 tyX11 tyX11_ok hown (ht _ hw_5_182) (ht _ hw_5_183) (ht _ hw_1_12) hK hP hD hS hA rfl (by decide +kernel) (Nat.le_of_ble_eq_true rfl) (Nat.le_of_ble_eq_true rfl) dL_law_8 (fun hm0 H hP hD hS => ?_)
  refine lv_dup hx hb dL_law_11 rfl ?_
  refine z_ctI (wr := (zw 81 qx (zXd qx cx) zXI0 zXR0 zXJ0)) (As := []) (rest := [.ref hm0]) hx hb hml hown ht (iX11_init l D hm0) hw_5_184 ⟨hw_5_185, hw_1_12, hw_5_186⟩ rfl ⟨rfl, rfl⟩ (na := 0) rfl (by decide +kernel) ⟨Nat.le_of_ble_eq_true rfl, Nat.le_of_ble_eq_true rfl⟩ hK hP hD hS hA trivial (fun _ _ => trivial) (fun _ _ _ _ _ => trivial) hl.1 rfl (Nat.le_of_ble_eq_true rfl) ⟨Nat.le_of_ble_eq_true rfl, Nat.le_of_ble_eq_true rfl⟩ dL_law_12 (fun uhm0 H locs hK hP hD hS => ?_)
  obtain ⟨cm, ecm⟩ : ∃ cm, cm = uhm0.2 := ⟨_, rfl⟩
  obtain ⟨qm, eqm⟩ : ∃ qm, qm = zr uhm0.1 0 hm0 := ⟨_, rfl⟩
  have hqm : hm0 = qm 0 := by rw [eqm]; rfl
  have hK : va_K D vwCl (zXtys cx ++ zMtys cm) s := by rw [ecm]; exact hK
  have hP : va_P D vwCl (zw 81 qx (zXd qx cx) zXI0 zXR0 zXJ0 ++ zw 25 qm (zMd qm cm) zMI0 zMR0 zMJ0) H := by rw [ecm, eqm]; exact hP
  have hD : va_D (zLA s) (zw 81 qx (zXd qx cx) zXI0 zXR0 zXJ0 ++ zw 25 qm (zMd qm cm) zMI0 zMR0 zMJ0) := by rw [ecm, eqm]; exact hD
  refine lv_astore_n (lv' := [(2, .ref hm0), (1, .ref hx0), (0, .ref b)]) hx hb dL_law_15 rfl hl (by decide) rfl (fun ls hl => ?_)
  refine lv_iconst (v := nI 0) hx hb dL_law_16 (by decide +kernel) ?_
  refine lv_istore_n (lv' := [(3, .int (nI 0)), (2, .ref hm0), (1, .ref hx0), (0, .ref b)]) hx hb dL_law_17 rfl hl (by decide) rfl (fun ls hl => ?_)
  refine W.widen (k := 600000) (n := 7302250) (Nat.le_of_ble_eq_true rfl) (Nat.le_of_ble_eq_true rfl) ?_
  refine lv_iload_n hx hb dL_law_18 rfl (lv_at hl 0 rfl) ?_
  refine lv_aload_n hx hb dL_law_19 rfl (lv_at hl 3 rfl) ?_
  refine va_slen hx hb hX hbl hbA hS dL_law_20 ?_
  refine lv_bipush (v := nI 6) hx hb dL_law_21 (by decide +kernel) ?_
  refine lv_isub hx hb dL_law_23 ?_
  rcases Nat.lt_or_ge L 6 with h6 | h6
  · have hs : ∀ L : Nat, L < 6 → Int32.ofNat L - nI 6 < nI 0 := by decide +kernel
    refine lv_icmp_gt (tgt := 1971) hx hb dL_law_24 (by decide) (fun _ => ?_) (fun c_0 => absurd (hs L h6) c_0)
    refine lv_iconst (v := 1) hx hb dL_law_1971 (by decide) ?_
    refine va_forget (fun q hq => hS.2.2 q hq) ?_
    exact lw_ret hx hb hr hlocks dL_law_1972
  · obtain rfl : L = 6 := by omega
    have C : zLaw p s m meth c b xs D qx qm cx cm := ⟨C0, z_K_l hK, z_K_r hK, fun i hi j hj => z_D_ne hD (zw_get hi) (zw_get hj)⟩
    have hPx := z_P_l hP
    have hPm := z_P_r hP
    have hDx := z_D_l hD
    have hDm := z_D_r hD
    have hl : lv_has ls 4 [(0, .ref b), (1, .ref (qx 0)), (2, .ref (qm 0)), (3, .int (nI 0))] := by rw [← hqx, ← hqm]; exact lv_sub hl [3, 2, 1, 0] rfl
    refine lv_icmp_gt (tgt := 1971) hx hb dL_law_24 (by decide) (fun c_0 => absurd c_0 (by decide +kernel)) (fun _ => ?_)
    refine lv_aload_n hx hb dL_law_27 rfl (lv_at hl 0 rfl) ?_
    refine lv_iload_n hx hb dL_law_28 rfl (lv_at hl 3 rfl) ?_
    refine va_sld hx hb hX hbl hbA hS (vp_in_nI (by decide) (by decide)) dL_law_29 ?_
    refine lv_bipush (v := nI 63) hx hb dL_law_30 (by decide +kernel) ?_
    refine lv_iand hx hb dL_law_32 ?_
    refine lv_topi (fun y ey => ?_)
    clear ey
    by_cases hy : y.toInt < 0 ∨ 60 < y.toInt
    · refine lv_tableOut (tgt := 1965) hx hb dL_law_33 hy (by decide) ?_
      exact lc_end C hS (lv_sub hl [0, 3] rfl)
    · obtain ⟨k, hk⟩ : ∃ k : Nat, y.toInt = (k : Int) := ⟨y.toInt.toNat, by omega⟩
      have hk61 : k < 61 := by omega
      have h0 : ¬ y.toInt < 0 := fun h => hy (Or.inl h)
      have h1 : ¬ 60 < y.toInt := fun h => hy (Or.inr h)
      clear hy
      match k, hk61, hk with
      | 0, _, hk => exact lv_tableIn (off := 259) (tgt := 292) hx hb dL_law_33 h0 h1 (by rw [hk]; decide +kernel) (by decide) (lc_0 C hPx hDx hPm hDm hS hl)
      | 1, _, hk => exact lv_tableIn (off := 322) (tgt := 355) hx hb dL_law_33 h0 h1 (by rw [hk]; decide +kernel) (by decide) (lc_1 C hPx hDx hPm hDm hS hl)
      | 2, _, hk => exact lv_tableIn (off := 345) (tgt := 378) hx hb dL_law_33 h0 h1 (by rw [hk]; decide +kernel) (by decide) (lc_2 C hPx hDx hPm hDm hS hl)
      | 3, _, hk => exact lv_tableIn (off := 358) (tgt := 391) hx hb dL_law_33 h0 h1 (by rw [hk]; decide +kernel) (by decide) (lc_3 C hPx hDx hPm hDm hS hl)
      | 4, _, hk => exact lv_tableIn (off := 381) (tgt := 414) hx hb dL_law_33 h0 h1 (by rw [hk]; decide +kernel) (by decide) (lc_4 C hPx hDx hPm hDm hS hl)
      | 5, _, hk => exact lv_tableIn (off := 414) (tgt := 447) hx hb dL_law_33 h0 h1 (by rw [hk]; decide +kernel) (by decide) (lc_5 C hPx hDx hPm hDm hS hl)
      | 6, _, hk => exact lv_tableIn (off := 447) (tgt := 480) hx hb dL_law_33 h0 h1 (by rw [hk]; decide +kernel) (by decide) (lc_6 C hPx hDx hPm hDm hS hl)
      | 7, _, hk => exact lv_tableIn (off := 480) (tgt := 513) hx hb dL_law_33 h0 h1 (by rw [hk]; decide +kernel) (by decide) (lc_7 C hPx hDx hPm hDm hS hl)
      | 8, _, hk => exact lv_tableIn (off := 513) (tgt := 546) hx hb dL_law_33 h0 h1 (by rw [hk]; decide +kernel) (by decide) (lc_8 C hPx hDx hPm hDm hS hl)
      | 9, _, hk => exact lv_tableIn (off := 536) (tgt := 569) hx hb dL_law_33 h0 h1 (by rw [hk]; decide +kernel) (by decide) (lc_9 C hPx hDx hPm hDm hS hl)
      | 10, _, hk => exact lv_tableIn (off := 559) (tgt := 592) hx hb dL_law_33 h0 h1 (by rw [hk]; decide +kernel) (by decide) (lc_10 C hPx hDx hPm hDm hS hl)
      | 11, _, hk => exact lv_tableIn (off := 602) (tgt := 635) hx hb dL_law_33 h0 h1 (by rw [hk]; decide +kernel) (by decide) (lc_11 C hPx hDx hPm hDm hS hl)
      | 12, _, hk => exact lv_tableIn (off := 635) (tgt := 668) hx hb dL_law_33 h0 h1 (by rw [hk]; decide +kernel) (by decide) (lc_12 C hPx hDx hPm hDm hS hl)
      | 13, _, hk => exact lv_tableIn (off := 658) (tgt := 691) hx hb dL_law_33 h0 h1 (by rw [hk]; decide +kernel) (by decide) (lc_13 C hPx hDx hPm hDm hS hl)
      | 14, _, hk => exact lv_tableIn (off := 681) (tgt := 714) hx hb dL_law_33 h0 h1 (by rw [hk]; decide +kernel) (by decide) (lc_14 C hPx hDx hPm hDm hS hl)
      | 15, _, hk => exact lv_tableIn (off := 714) (tgt := 747) hx hb dL_law_33 h0 h1 (by rw [hk]; decide +kernel) (by decide) (lc_15 C hPx hDx hPm hDm hS hl)
      | 16, _, hk => exact lv_tableIn (off := 727) (tgt := 760) hx hb dL_law_33 h0 h1 (by rw [hk]; decide +kernel) (by decide) (lc_16 C hPx hDx hPm hDm hS hl)
      | 17, _, hk => exact lv_tableIn (off := 740) (tgt := 773) hx hb dL_law_33 h0 h1 (by rw [hk]; decide +kernel) (by decide) (lc_17 C hPx hDx hPm hDm hS hl)
      | 18, _, hk => exact lv_tableIn (off := 753) (tgt := 786) hx hb dL_law_33 h0 h1 (by rw [hk]; decide +kernel) (by decide) (lc_18 C hPx hDx hPm hDm hS hl)
      | 19, _, hk => exact lv_tableIn (off := 776) (tgt := 809) hx hb dL_law_33 h0 h1 (by rw [hk]; decide +kernel) (by decide) (lc_19 C hPx hDx hPm hDm hS hl)
      | 20, _, hk => exact lv_tableIn (off := 799) (tgt := 832) hx hb dL_law_33 h0 h1 (by rw [hk]; decide +kernel) (by decide) (lc_20 C hPx hDx hPm hDm hS hl)
      | 21, _, hk => exact lv_tableIn (off := 832) (tgt := 865) hx hb dL_law_33 h0 h1 (by rw [hk]; decide +kernel) (by decide) (lc_21 C hPx hDx hPm hDm hS hl)
      | 22, _, hk => exact lv_tableIn (off := 845) (tgt := 878) hx hb dL_law_33 h0 h1 (by rw [hk]; decide +kernel) (by decide) (lc_22 C hPx hDx hPm hDm hS hl)
      | 23, _, hk => exact lv_tableIn (off := 868) (tgt := 901) hx hb dL_law_33 h0 h1 (by rw [hk]; decide +kernel) (by decide) (lc_23 C hPx hDx hPm hDm hS hl)
      | 24, _, hk => exact lv_tableIn (off := 881) (tgt := 914) hx hb dL_law_33 h0 h1 (by rw [hk]; decide +kernel) (by decide) (lc_24 C hPx hDx hPm hDm hS hl)
      | 25, _, hk => exact lv_tableIn (off := 894) (tgt := 927) hx hb dL_law_33 h0 h1 (by rw [hk]; decide +kernel) (by decide) (lc_25 C hPx hDx hPm hDm hS hl)
      | 26, _, hk => exact lv_tableIn (off := 907) (tgt := 940) hx hb dL_law_33 h0 h1 (by rw [hk]; decide +kernel) (by decide) (lc_26 C hPx hDx hPm hDm hS hl)
      | 27, _, hk => exact lv_tableIn (off := 940) (tgt := 973) hx hb dL_law_33 h0 h1 (by rw [hk]; decide +kernel) (by decide) (lc_27 C hPx hDx hPm hDm hS hl)
      | 28, _, hk => exact lv_tableIn (off := 963) (tgt := 996) hx hb dL_law_33 h0 h1 (by rw [hk]; decide +kernel) (by decide) (lc_28 C hPx hDx hPm hDm hS hl)
      | 29, _, hk => exact lv_tableIn (off := 986) (tgt := 1019) hx hb dL_law_33 h0 h1 (by rw [hk]; decide +kernel) (by decide) (lc_29 C hPx hDx hPm hDm hS hl)
      | 30, _, hk => exact lv_tableIn (off := 999) (tgt := 1032) hx hb dL_law_33 h0 h1 (by rw [hk]; decide +kernel) (by decide) (lc_30 C hPx hDx hPm hDm hS hl)
      | 31, _, hk => exact lv_tableIn (off := 1022) (tgt := 1055) hx hb dL_law_33 h0 h1 (by rw [hk]; decide +kernel) (by decide) (lc_31 C hPx hDx hPm hDm hS hl)
      | 32, _, hk => exact lv_tableIn (off := 1035) (tgt := 1068) hx hb dL_law_33 h0 h1 (by rw [hk]; decide +kernel) (by decide) (lc_32 C hPx hDx hPm hDm hS hl)
      | 33, _, hk => exact lv_tableIn (off := 1058) (tgt := 1091) hx hb dL_law_33 h0 h1 (by rw [hk]; decide +kernel) (by decide) (lc_33 C hPx hDx hPm hDm hS hl)
      | 34, _, hk => exact lv_tableIn (off := 1081) (tgt := 1114) hx hb dL_law_33 h0 h1 (by rw [hk]; decide +kernel) (by decide) (lc_34 C hPx hDx hPm hDm hS hl)
      | 35, _, hk => exact lv_tableIn (off := 1104) (tgt := 1137) hx hb dL_law_33 h0 h1 (by rw [hk]; decide +kernel) (by decide) (lc_35 C hPx hDx hPm hDm hS hl)
      | 36, _, hk => exact lv_tableIn (off := 1137) (tgt := 1170) hx hb dL_law_33 h0 h1 (by rw [hk]; decide +kernel) (by decide) (lc_36 C hPx hDx hPm hDm hS hl)
      | 37, _, hk => exact lv_tableIn (off := 1170) (tgt := 1203) hx hb dL_law_33 h0 h1 (by rw [hk]; decide +kernel) (by decide) (lc_37 C hPx hDx hPm hDm hS hl)
      | 38, _, hk => exact lv_tableIn (off := 1183) (tgt := 1216) hx hb dL_law_33 h0 h1 (by rw [hk]; decide +kernel) (by decide) (lc_38 C hPx hDx hPm hDm hS hl)
      | 39, _, hk => exact lv_tableIn (off := 1206) (tgt := 1239) hx hb dL_law_33 h0 h1 (by rw [hk]; decide +kernel) (by decide) (lc_39 C hPx hDx hPm hDm hS hl)
      | 40, _, hk => exact lv_tableIn (off := 1229) (tgt := 1262) hx hb dL_law_33 h0 h1 (by rw [hk]; decide +kernel) (by decide) (lc_40 C hPx hDx hPm hDm hS hl)
      | 41, _, hk => exact lv_tableIn (off := 1262) (tgt := 1295) hx hb dL_law_33 h0 h1 (by rw [hk]; decide +kernel) (by decide) (lc_41 C hPx hDx hPm hDm hS hl)
      | 42, _, hk => exact lv_tableIn (off := 1305) (tgt := 1338) hx hb dL_law_33 h0 h1 (by rw [hk]; decide +kernel) (by decide) (lc_42 C hPx hDx hPm hDm hS hl)
      | 43, _, hk => exact lv_tableIn (off := 1338) (tgt := 1371) hx hb dL_law_33 h0 h1 (by rw [hk]; decide +kernel) (by decide) (lc_43 C hPx hDx hPm hDm hS hl)
      | 44, _, hk => exact lv_tableIn (off := 1351) (tgt := 1384) hx hb dL_law_33 h0 h1 (by rw [hk]; decide +kernel) (by decide) (lc_44 C hPx hDx hPm hDm hS hl)
      | 45, _, hk => exact lv_tableIn (off := 1374) (tgt := 1407) hx hb dL_law_33 h0 h1 (by rw [hk]; decide +kernel) (by decide) (lc_45 C hPx hDx hPm hDm hS hl)
      | 46, _, hk => exact lv_tableIn (off := 1397) (tgt := 1430) hx hb dL_law_33 h0 h1 (by rw [hk]; decide +kernel) (by decide) (lc_46 C hPx hDx hPm hDm hS hl)
      | 47, _, hk => exact lv_tableIn (off := 1420) (tgt := 1453) hx hb dL_law_33 h0 h1 (by rw [hk]; decide +kernel) (by decide) (lc_47 C hPx hDx hPm hDm hS hl)
      | 48, _, hk => exact lv_tableIn (off := 1433) (tgt := 1466) hx hb dL_law_33 h0 h1 (by rw [hk]; decide +kernel) (by decide) (lc_48 C hPx hDx hPm hDm hS hl)
      | 49, _, hk => exact lv_tableIn (off := 1456) (tgt := 1489) hx hb dL_law_33 h0 h1 (by rw [hk]; decide +kernel) (by decide) (lc_49 C hPx hDx hPm hDm hS hl)
      | 50, _, hk => exact lv_tableIn (off := 1479) (tgt := 1512) hx hb dL_law_33 h0 h1 (by rw [hk]; decide +kernel) (by decide) (lc_50 C hPx hDx hPm hDm hS hl)
      | 51, _, hk => exact lv_tableIn (off := 1502) (tgt := 1535) hx hb dL_law_33 h0 h1 (by rw [hk]; decide +kernel) (by decide) (lc_51 C hPx hDx hPm hDm hS hl)
      | 52, _, hk => exact lv_tableIn (off := 1545) (tgt := 1578) hx hb dL_law_33 h0 h1 (by rw [hk]; decide +kernel) (by decide) (lc_52 C hPx hDx hPm hDm hS hl)
      | 53, _, hk => exact lv_tableIn (off := 1608) (tgt := 1641) hx hb dL_law_33 h0 h1 (by rw [hk]; decide +kernel) (by decide) (lc_53 C hPx hDx hPm hDm hS hl)
      | 54, _, hk => exact lv_tableIn (off := 1641) (tgt := 1674) hx hb dL_law_33 h0 h1 (by rw [hk]; decide +kernel) (by decide) (lc_54 C hPx hDx hPm hDm hS hl)
      | 55, _, hk => exact lv_tableIn (off := 1684) (tgt := 1717) hx hb dL_law_33 h0 h1 (by rw [hk]; decide +kernel) (by decide) (lc_55 C hPx hDx hPm hDm hS hl)
      | 56, _, hk => exact lv_tableIn (off := 1707) (tgt := 1740) hx hb dL_law_33 h0 h1 (by rw [hk]; decide +kernel) (by decide) (lc_56 C hPx hDx hPm hDm hS hl)
      | 57, _, hk => exact lv_tableIn (off := 1730) (tgt := 1763) hx hb dL_law_33 h0 h1 (by rw [hk]; decide +kernel) (by decide) (lc_57 C hPx hDx hPm hDm hS hl)
      | 58, _, hk => exact lv_tableIn (off := 1753) (tgt := 1786) hx hb dL_law_33 h0 h1 (by rw [hk]; decide +kernel) (by decide) (lc_58 C hPx hDx hPm hDm hS hl)
      | 59, _, hk => exact lv_tableIn (off := 1796) (tgt := 1829) hx hb dL_law_33 h0 h1 (by rw [hk]; decide +kernel) (by decide) (lc_59 C hPx hDx hPm hDm hS hl)
      | 60, _, hk => exact lv_tableIn (off := 1869) (tgt := 1902) hx hb dL_law_33 h0 h1 (by rw [hk]; decide +kernel) (by decide) (lc_60 C hPx hDx hPm hDm hS hl)
      | k + 61, h, _ => exact absurd h (by omega)
set_option maxHeartbeats 4000000 in
theorem lw_walk (l : Launch) (b : Addr) (xs : List Int32) : MetFree l x (headSpec (Jvm.Cond.code x code maxLocals ret :: tables_1) room_1) (lw_P b xs) (fun _ _ _ _ _ => True) lw_Q := by
  refine MetFree.of_bodyS (code := code) (maxLocals := maxLocals) (ret := ret) (by decide) ?_ ?_
  · intro args s m h hn
    obtain ⟨meth, c, h1, h2, h3, h4, h5, h6, -, -⟩ := Cond.code_spec hn (atoms_spec (ws := Jvm.Cond.code x code maxLocals ret :: tables_1) h _ List.mem_cons_self)
    exact ⟨meth, c, h1, h2, h3, h4, h5, h6⟩
  · intro p e s m args below meth c s₁ B hml0 hP _
    obtain ⟨rfl, hx, hbd, hgv⟩ := hP
    obtain ⟨scr, harrAt, hlist, hof, hsmall⟩ := hx
    obtain ⟨hcb, hkn, -, -⟩ := State.arrayAt?_spec harrAt
    have hown : s.vm.findClass R_law = some m.cls := findClass_of_methodNamed B.named
    have hts0 : ∀ c ∈ (Jvm.Cond.code x code maxLocals ret :: tables_1), c.before #[Value.ref b] s = true := atoms_spec (ws := Jvm.Cond.code x code maxLocals ret :: tables_1) B.pre
    have hts : ∀ w ∈ lw_tbl, w.before #[Value.ref b] s = true := k2_hts_sels lw_privs (fun w hw => hts0 w (List.mem_cons_of_mem _ hw)) lw_privs_ok
    have hml : c.maxLocals = 4 := B.maxLocals_eq (hts0 _ List.mem_cons_self)
    have X₀ : Stand p l e room_1 s m #[Value.ref b] below meth c s₁ [] 0 0 := Stand.of_body B
    have hh0 : s₁.heap = s.heap := by rw [B.state]; rfl
    have hsz : scr.slots.size = xs.length := by rw [← Array.length_toList, hlist, List.length_map]
    have hval : ∀ j : Nat, j < xs.length → scr.slots[j]? = some (.int (xs.getD j 0)) := fun j hj => by
      rw [← Array.getElem?_toList, hlist]
      simp [hj]
    have hbl : b < s.heap.size := (Array.getElem?_eq_some_iff.mp hcb).1
    have hX : va_X b xs.length (fun j => xs.getD j 0) s s.heap := ⟨scr, hcb, hof, hkn, hsz, hval⟩
    have K : W p l e room_1 s m #[Value.ref b] below meth c s₁.heap [] 0 0 (lw_Z below #[Value.ref b] s) (entryFrame m ([Value.ref b] : List Value).toArray 4) := by
      rw [hh0]
      exact whole_start l hbd ⟨B.exec, B.bytes, B.returns, hml, hown, hts, hX, hbl, B.notSynchronized, hgv⟩
    obtain ⟨t, a1, o, b1, b2, b3⟩ := K s₁ rfl X₀
    exact ⟨t, o, a1, b1, b2, b3⟩
theorem lw_pre_spec {args : Array Value} {s : State} (h : (Jvm.Cond.and given_1 narrow_1).before args s = true) (hr : rest_1_c.before args s = true) : ∃ (b : Addr) (xs : List Int32), lw_P b xs args s := by
  have hs := flat_of_before _ h
  have hq := flat_of_before _ hr
  have hc : (Cond.count 1).before args s = true := hs _ (by decide +kernel)
  have harr : (Cond.arrayOf (.arg 0) .int).before args s = true := hs _ (by decide +kernel)
  have hle : (Cond.le (.length (.arg 0)) (.int 6)).before args s = true := hs _ (by decide +kernel)
  have hlen : (Cond.isInt (.length (.arg 0))).before args s = true := hq _ (by decide +kernel)
  have hall : (Cond.all (.arg 0) (.isInt (.elem (.arg 0) (.index 0)))).before args s = true := hq _ (by decide +kernel)
  obtain ⟨b, xs, hb, hx⟩ := State.ints_of_pre rfl harr hlen hall
  have hsm : xs.length < 2 ^ 31 := hx.choose_spec.2.2.2
  have hev : (Term.length (.arg 0)).eval args s none [] s = some (.int xs.length.toInt32) := hx.length_eval hb
  have hv := Cond.le_ints hev (show (Term.int 6).eval args s none [] s = some (.int 6) from rfl)
  have hd : xs.length.toInt32 ≤ 6 := by
    simpa [Cond.before, Cond.holds, hv] using hle
  have hN : xs.length ≤ 6 := (Int32.ofNat_le_ofNat hsm (by decide)).mp (show Int32.ofNat xs.length ≤ Int32.ofNat 6 from hd)
  exact ⟨b, xs, Cond.one_arg hc (show args[0]? = some (.ref b) from hb), hx, hN, h⟩
theorem lw_comes (l : Launch) : Comes l x (Jvm.Cond.code x code maxLocals ret :: tables_1) room_1 (fun tb e args s => Calls_1 tb e args s ∧ rest_1 tb e args s ∧ Pre_1 tb e args s)
    (fun _ _ args s o t => lw_Q args s o t) := by
  intro p e ha hc hk s m args below hf hfit hheap happ hpre
  obtain ⟨b, xs, hP⟩ := lw_pre_spec hpre.2.2 hpre.2.1
  obtain ⟨k, o, h1, h2, h3, hQ⟩ := lw_walk l b xs p e ha hc hk s m args below hf ((Spec.applies_iff_loose hf).mp happ).1 hP trivial
  exact ⟨k, o, h1, h2, h3, hQ⟩
theorem lw_frame {s t : State} {o : Outcome} {args : Array Value} (h : Framed s o t [] 600000 7302250) :
    Framed s o t (fieldLocs frame_1_writes args s ++ arrayLocs frame_1_arrays args s ++ staticLocs frame_1_statics s) 600000 7302250 := h
theorem lw_limb (L : Cond) (hL : ∀ (args : Array Value) (s t : State), L.after args s (.returned (some (.int 1))) t = true) :
    ArmFor flags0 classFile x code maxLocals ret World_1 tables_1 room_1 Calls_1 rest_1 Pre_1
      (fun tb e a s o t => postC L tb e a s o t ∧ Framed s o t (fieldLocs frame_1_writes a s ++ arrayLocs frame_1_arrays a s ++ staticLocs frame_1_statics s) 600000 7302250) := by
  intro l _ _ _ p e ha hc hk s m args below hf hfit hheap happ hpre
  obtain ⟨k, o, h1, h2, h3, rfl, hF⟩ := lw_comes l p e ha hc hk s m args below hf hfit hheap happ hpre
  exact ⟨k, _, h1, h2, h3, hL args s _, lw_frame hF⟩
theorem i_vc : Claimed_1_1 ∧ Claimed_1_2 := ⟨lw_limb limb_1_1 (fun args s t => by simp [limb_1_1, Cond.after, Cond.holds, Cond.value]), lw_limb limb_1_2 (fun args s t => Cond.after_iff.mpr (by
  first | (rw [show limb_1_2 = Cond.eq .result (.int 1) from rfl, Cond.eq_ints (x := 1) (y := 1) rfl rfl]; simp; done) | (simp [limb_1_2, Cond.value, Term.eval]; done)))⟩
