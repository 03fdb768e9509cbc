set_option maxHeartbeats 4000000 in
set_option maxRecDepth 100000 in
theorem lc_loop {p : Program} {e : Env} {s : State} {m : MethodId} {below : List Frame} {meth : Method} {c : Code} {l : Launch} {b L : Nat} {xs : Nat → Int32} {D : va_G} {qx qm : Nat → Nat} {cx cm : Nat → ClassId} {ax vx am vm : Nat → Nat} {t9 : Nat} (C : zLaw p s m meth c b L xs D qx qm cx cm ax vx am vm t9) : ∀ (N j : Nat), L < j + N → j ≤ L → ∀ (F G I R I' R' : Nat → Nat → Int32) (J J' : Nat → Nat → Int64) (H : Heap) (locs : List Loc) (ls : Array Slot), zTw D qx qm cx cm s F G I R I' R' J J' H locs → lv_has ls 4 [(0, .ref b), (1, .ref (qx 0)), (2, .ref (qm 0)), (3, .int (nI j))] → W p l e room_1 s m #[Value.ref b] below meth c H locs 600000 7302250 (lw_Z below #[Value.ref b] s) (F0 m 18 ls []) := by
  intro N
  induction N with
  | zero => intro j h1 h2; exfalso; omega
  | succ N ih =>
    intro j hN hj F G I R I' R' J J' H locs ls T hl
    obtain ⟨⟨hx, hb, hr, hml, hown, hts, hX, hbl, hlocks, hgv⟩, hKx, hKm, hdis, hL, hNx, hNm⟩ := id C
    have hown : s.vm.findClass "ReceiptLeftLaw" = some m.cls := hown
    have ht : ∀ w ∈ zT, w.before #[Value.ref b] s = true := fun w h => hts w (zT_lw w h)
    have hA : ∀ a, s.heap.size ≤ a → zLA s a := fun _ h => h
    have hbA : ¬ zLA s b := Nat.not_le.mpr hbl
    obtain ⟨hIx, hIm, hR, hPx, hDx, hPm, hDm, hS⟩ := id T
    refine lv_iload_n hx hb dL_law_18 rfl (lv_at hl 3 rfl) ?_
    refine lv_aload_n hx hb dL_law_19 rfl (lv_at hl 0 rfl) ?_
    refine va_slen hx hb hX hbl hbA hS dL_law_20 ?_
    refine lv_bipush (v := nI 6) hx hb dL_law_21 (by decide +kernel) ?_
    refine lv_isub hx hb dL_law_23 ?_
    by_cases h6 : j + 6 ≤ L
    · refine lv_icmp_gt (tgt := 1971) hx hb dL_law_24 (by decide) (fun c_0 => absurd c_0 (z_gtF hL h6)) (fun _ => ?_)
      have kk : ∀ (F G I R I' R' : Nat → Nat → Int32) (J J' : Nat → Nat → Int64) (H : Heap) (locs : List Loc) (ls : Array Slot), zTw D qx qm cx cm s F G I R I' R' J J' H locs → lv_has ls 4 [(0, .ref b), (1, .ref (qx 0)), (2, .ref (qm 0)), (3, .int (nI j))] → W p l e room_1 s m #[Value.ref b] below meth c H locs 600000 7302250 (lw_Z below #[Value.ref b] s) (F0 m 1965 ls []) := by
        intro F G I R I' R' J J' H locs ls T hl
        refine lv_iinc (v := nI (j + 6)) (lv' := [(3, .int (nI (j + 6))), (0, .ref b), (1, .ref (qx 0)), (2, .ref (qm 0))]) hx hb dL_law_1965 hl (k := 3) rfl (nI_add j 6) (by decide) rfl (fun ls hl => ?_)
        refine lv_goto (tgt := 18) hx hb dL_law_1968 (by decide) ?_
        exact ih (j + 6) (by omega) (by omega) F G I R I' R' J J' H locs ls T (lv_sub hl [1, 2, 3, 0] rfl)
      refine lv_aload_n hx hb dL_law_27 rfl (lv_at hl 0 rfl) ?_
      refine lv_iload_n hx hb dL_law_28 rfl (lv_at hl 3 rfl) ?_
      refine va_sld hx hb hX hbl hbA hS (vp_in_nI (by omega) (by omega)) dL_law_29 ?_
      refine lv_bipush (v := nI 63) hx hb dL_law_30 (by decide +kernel) ?_
      refine lv_iand hx hb dL_law_32 ?_
      refine lv_topi (fun y ey => ?_)
      clear ey
      by_cases hy : y.toInt < 0 ∨ 60 < y.toInt
      · refine lv_tableOut (tgt := 1965) hx hb dL_law_33 hy (by decide) ?_
        exact kk F G I R I' R' J J' H locs ls T hl
      · obtain ⟨k, hk⟩ : ∃ k : Nat, y.toInt = (k : Int) := ⟨y.toInt.toNat, by omega⟩
        have hk61 : k < 61 := by omega
        have h0 : ¬ y.toInt < 0 := fun h => hy (Or.inl h)
        have h1 : ¬ 60 < y.toInt := fun h => hy (Or.inr h)
        clear hy
        match k, hk61, hk with
        | 0, _, hk => exact lv_tableIn (off := 259) (tgt := 292) hx hb dL_law_33 h0 h1 (by rw [hk]; decide +kernel) (by decide) (lc_0 C h6 T hl kk)
        | 1, _, hk => exact lv_tableIn (off := 322) (tgt := 355) hx hb dL_law_33 h0 h1 (by rw [hk]; decide +kernel) (by decide) (lc_1 C h6 T hl kk)
        | 2, _, hk => exact lv_tableIn (off := 345) (tgt := 378) hx hb dL_law_33 h0 h1 (by rw [hk]; decide +kernel) (by decide) (lc_2 C h6 T hl kk)
        | 3, _, hk => exact lv_tableIn (off := 358) (tgt := 391) hx hb dL_law_33 h0 h1 (by rw [hk]; decide +kernel) (by decide) (lc_3 C h6 T hl kk)
        | 4, _, hk => exact lv_tableIn (off := 381) (tgt := 414) hx hb dL_law_33 h0 h1 (by rw [hk]; decide +kernel) (by decide) (lc_4 C h6 T hl kk)
        | 5, _, hk => exact lv_tableIn (off := 414) (tgt := 447) hx hb dL_law_33 h0 h1 (by rw [hk]; decide +kernel) (by decide) (lc_5 C h6 T hl kk)
        | 6, _, hk => exact lv_tableIn (off := 447) (tgt := 480) hx hb dL_law_33 h0 h1 (by rw [hk]; decide +kernel) (by decide) (lc_6 C h6 T hl kk)
        | 7, _, hk => exact lv_tableIn (off := 480) (tgt := 513) hx hb dL_law_33 h0 h1 (by rw [hk]; decide +kernel) (by decide) (lc_7 C h6 T hl kk)
        | 8, _, hk => exact lv_tableIn (off := 513) (tgt := 546) hx hb dL_law_33 h0 h1 (by rw [hk]; decide +kernel) (by decide) (lc_8 C h6 T hl kk)
        | 9, _, hk => exact lv_tableIn (off := 536) (tgt := 569) hx hb dL_law_33 h0 h1 (by rw [hk]; decide +kernel) (by decide) (lc_9 C h6 T hl kk)
        | 10, _, hk => exact lv_tableIn (off := 559) (tgt := 592) hx hb dL_law_33 h0 h1 (by rw [hk]; decide +kernel) (by decide) (lc_10 C h6 T hl kk)
        | 11, _, hk => exact lv_tableIn (off := 602) (tgt := 635) hx hb dL_law_33 h0 h1 (by rw [hk]; decide +kernel) (by decide) (lc_11 C h6 T hl kk)
        | 12, _, hk => exact lv_tableIn (off := 635) (tgt := 668) hx hb dL_law_33 h0 h1 (by rw [hk]; decide +kernel) (by decide) (lc_12 C h6 T hl kk)
        | 13, _, hk => exact lv_tableIn (off := 658) (tgt := 691) hx hb dL_law_33 h0 h1 (by rw [hk]; decide +kernel) (by decide) (lc_13 C h6 T hl kk)
        | 14, _, hk => exact lv_tableIn (off := 681) (tgt := 714) hx hb dL_law_33 h0 h1 (by rw [hk]; decide +kernel) (by decide) (lc_14 C h6 T hl kk)
        | 15, _, hk => exact lv_tableIn (off := 714) (tgt := 747) hx hb dL_law_33 h0 h1 (by rw [hk]; decide +kernel) (by decide) (lc_15 C h6 T hl kk)
        | 16, _, hk => exact lv_tableIn (off := 727) (tgt := 760) hx hb dL_law_33 h0 h1 (by rw [hk]; decide +kernel) (by decide) (lc_16 C h6 T hl kk)
        | 17, _, hk => exact lv_tableIn (off := 740) (tgt := 773) hx hb dL_law_33 h0 h1 (by rw [hk]; decide +kernel) (by decide) (lc_17 C h6 T hl kk)
        | 18, _, hk => exact lv_tableIn (off := 753) (tgt := 786) hx hb dL_law_33 h0 h1 (by rw [hk]; decide +kernel) (by decide) (lc_18 C h6 T hl kk)
        | 19, _, hk => exact lv_tableIn (off := 776) (tgt := 809) hx hb dL_law_33 h0 h1 (by rw [hk]; decide +kernel) (by decide) (lc_19 C h6 T hl kk)
        | 20, _, hk => exact lv_tableIn (off := 799) (tgt := 832) hx hb dL_law_33 h0 h1 (by rw [hk]; decide +kernel) (by decide) (lc_20 C h6 T hl kk)
        | 21, _, hk => exact lv_tableIn (off := 832) (tgt := 865) hx hb dL_law_33 h0 h1 (by rw [hk]; decide +kernel) (by decide) (lc_21 C h6 T hl kk)
        | 22, _, hk => exact lv_tableIn (off := 845) (tgt := 878) hx hb dL_law_33 h0 h1 (by rw [hk]; decide +kernel) (by decide) (lc_22 C h6 T hl kk)
        | 23, _, hk => exact lv_tableIn (off := 868) (tgt := 901) hx hb dL_law_33 h0 h1 (by rw [hk]; decide +kernel) (by decide) (lc_23 C h6 T hl kk)
        | 24, _, hk => exact lv_tableIn (off := 881) (tgt := 914) hx hb dL_law_33 h0 h1 (by rw [hk]; decide +kernel) (by decide) (lc_24 C h6 T hl kk)
        | 25, _, hk => exact lv_tableIn (off := 894) (tgt := 927) hx hb dL_law_33 h0 h1 (by rw [hk]; decide +kernel) (by decide) (lc_25 C h6 T hl kk)
        | 26, _, hk => exact lv_tableIn (off := 907) (tgt := 940) hx hb dL_law_33 h0 h1 (by rw [hk]; decide +kernel) (by decide) (lc_26 C h6 T hl kk)
        | 27, _, hk => exact lv_tableIn (off := 940) (tgt := 973) hx hb dL_law_33 h0 h1 (by rw [hk]; decide +kernel) (by decide) (lc_27 C h6 T hl kk)
        | 28, _, hk => exact lv_tableIn (off := 963) (tgt := 996) hx hb dL_law_33 h0 h1 (by rw [hk]; decide +kernel) (by decide) (lc_28 C h6 T hl kk)
        | 29, _, hk => exact lv_tableIn (off := 986) (tgt := 1019) hx hb dL_law_33 h0 h1 (by rw [hk]; decide +kernel) (by decide) (lc_29 C h6 T hl kk)
        | 30, _, hk => exact lv_tableIn (off := 999) (tgt := 1032) hx hb dL_law_33 h0 h1 (by rw [hk]; decide +kernel) (by decide) (lc_30 C h6 T hl kk)
        | 31, _, hk => exact lv_tableIn (off := 1022) (tgt := 1055) hx hb dL_law_33 h0 h1 (by rw [hk]; decide +kernel) (by decide) (lc_31 C h6 T hl kk)
        | 32, _, hk => exact lv_tableIn (off := 1035) (tgt := 1068) hx hb dL_law_33 h0 h1 (by rw [hk]; decide +kernel) (by decide) (lc_32 C h6 T hl kk)
        | 33, _, hk => exact lv_tableIn (off := 1058) (tgt := 1091) hx hb dL_law_33 h0 h1 (by rw [hk]; decide +kernel) (by decide) (lc_33 C h6 T hl kk)
        | 34, _, hk => exact lv_tableIn (off := 1081) (tgt := 1114) hx hb dL_law_33 h0 h1 (by rw [hk]; decide +kernel) (by decide) (lc_34 C h6 T hl kk)
        | 35, _, hk => exact lv_tableIn (off := 1104) (tgt := 1137) hx hb dL_law_33 h0 h1 (by rw [hk]; decide +kernel) (by decide) (lc_35 C h6 T hl kk)
        | 36, _, hk => exact lv_tableIn (off := 1137) (tgt := 1170) hx hb dL_law_33 h0 h1 (by rw [hk]; decide +kernel) (by decide) (lc_36 C h6 T hl kk)
        | 37, _, hk => exact lv_tableIn (off := 1170) (tgt := 1203) hx hb dL_law_33 h0 h1 (by rw [hk]; decide +kernel) (by decide) (lc_37 C h6 T hl kk)
        | 38, _, hk => exact lv_tableIn (off := 1183) (tgt := 1216) hx hb dL_law_33 h0 h1 (by rw [hk]; decide +kernel) (by decide) (lc_38 C h6 T hl kk)
        | 39, _, hk => exact lv_tableIn (off := 1206) (tgt := 1239) hx hb dL_law_33 h0 h1 (by rw [hk]; decide +kernel) (by decide) (lc_39 C h6 T hl kk)
        | 40, _, hk => exact lv_tableIn (off := 1229) (tgt := 1262) hx hb dL_law_33 h0 h1 (by rw [hk]; decide +kernel) (by decide) (lc_40 C h6 T hl kk)
        | 41, _, hk => exact lv_tableIn (off := 1262) (tgt := 1295) hx hb dL_law_33 h0 h1 (by rw [hk]; decide +kernel) (by decide) (lc_41 C h6 T hl kk)
        | 42, _, hk => exact lv_tableIn (off := 1305) (tgt := 1338) hx hb dL_law_33 h0 h1 (by rw [hk]; decide +kernel) (by decide) (lc_42 C h6 T hl kk)
        | 43, _, hk => exact lv_tableIn (off := 1338) (tgt := 1371) hx hb dL_law_33 h0 h1 (by rw [hk]; decide +kernel) (by decide) (lc_43 C h6 T hl kk)
        | 44, _, hk => exact lv_tableIn (off := 1351) (tgt := 1384) hx hb dL_law_33 h0 h1 (by rw [hk]; decide +kernel) (by decide) (lc_44 C h6 T hl kk)
        | 45, _, hk => exact lv_tableIn (off := 1374) (tgt := 1407) hx hb dL_law_33 h0 h1 (by rw [hk]; decide +kernel) (by decide) (lc_45 C h6 T hl kk)
        | 46, _, hk => exact lv_tableIn (off := 1397) (tgt := 1430) hx hb dL_law_33 h0 h1 (by rw [hk]; decide +kernel) (by decide) (lc_46 C h6 T hl kk)
        | 47, _, hk => exact lv_tableIn (off := 1420) (tgt := 1453) hx hb dL_law_33 h0 h1 (by rw [hk]; decide +kernel) (by decide) (lc_47 C h6 T hl kk)
        | 48, _, hk => exact lv_tableIn (off := 1433) (tgt := 1466) hx hb dL_law_33 h0 h1 (by rw [hk]; decide +kernel) (by decide) (lc_48 C h6 T hl kk)
        | 49, _, hk => exact lv_tableIn (off := 1456) (tgt := 1489) hx hb dL_law_33 h0 h1 (by rw [hk]; decide +kernel) (by decide) (lc_49 C h6 T hl kk)
        | 50, _, hk => exact lv_tableIn (off := 1479) (tgt := 1512) hx hb dL_law_33 h0 h1 (by rw [hk]; decide +kernel) (by decide) (lc_50 C h6 T hl kk)
        | 51, _, hk => exact lv_tableIn (off := 1502) (tgt := 1535) hx hb dL_law_33 h0 h1 (by rw [hk]; decide +kernel) (by decide) (lc_51 C h6 T hl kk)
        | 52, _, hk => exact lv_tableIn (off := 1545) (tgt := 1578) hx hb dL_law_33 h0 h1 (by rw [hk]; decide +kernel) (by decide) (lc_52 C h6 T hl kk)
        | 53, _, hk => exact lv_tableIn (off := 1608) (tgt := 1641) hx hb dL_law_33 h0 h1 (by rw [hk]; decide +kernel) (by decide) (lc_53 C h6 T hl kk)
        | 54, _, hk => exact lv_tableIn (off := 1641) (tgt := 1674) hx hb dL_law_33 h0 h1 (by rw [hk]; decide +kernel) (by decide) (lc_54 C h6 T hl kk)
        | 55, _, hk => exact lv_tableIn (off := 1684) (tgt := 1717) hx hb dL_law_33 h0 h1 (by rw [hk]; decide +kernel) (by decide) (lc_55 C h6 T hl kk)
        | 56, _, hk => exact lv_tableIn (off := 1707) (tgt := 1740) hx hb dL_law_33 h0 h1 (by rw [hk]; decide +kernel) (by decide) (lc_56 C h6 T hl kk)
        | 57, _, hk => exact lv_tableIn (off := 1730) (tgt := 1763) hx hb dL_law_33 h0 h1 (by rw [hk]; decide +kernel) (by decide) (lc_57 C h6 T hl kk)
        | 58, _, hk => exact lv_tableIn (off := 1753) (tgt := 1786) hx hb dL_law_33 h0 h1 (by rw [hk]; decide +kernel) (by decide) (lc_58 C h6 T hl kk)
        | 59, _, hk => exact lv_tableIn (off := 1796) (tgt := 1829) hx hb dL_law_33 h0 h1 (by rw [hk]; decide +kernel) (by decide) (lc_59 C h6 T hl kk)
        | 60, _, hk => exact lv_tableIn (off := 1869) (tgt := 1902) hx hb dL_law_33 h0 h1 (by rw [hk]; decide +kernel) (by decide) (lc_60 C h6 T hl kk)
        | k + 61, h, _ => exact absurd h (by omega)
    · refine lv_icmp_gt (tgt := 1971) hx hb dL_law_24 (by decide) (fun _ => ?_) (fun c_0 => absurd (z_gtT hL hj h6) c_0)
      refine lv_iconst (v := 1) hx hb dL_law_1971 (by decide) ?_
      refine va_forget (fun q hq => hS.2.2 q hq) ?_
      exact lw_ret hx hb hr hlocks dL_law_1972
