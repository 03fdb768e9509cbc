set_option maxHeartbeats 4000000 in
set_option maxRecDepth 100000 in
theorem mk_X11_feed (l : Launch) (D : va_G) (q : Nat → Nat) (cA : Nat → ClassId) (F : Nat → Nat → Int32) (I R : Nat → Nat → Int32) (J : Nat → Nat → Int64) (hI : mInv F (I, R, J)) (pa0 : Int32) (pa1 : Int32) (pa2 : Int32) (pa3 : Int32) (pa4 : Int32) : zMi l D vwCl (zMtys cA) 25 q (zMd q cA) yX11_feed cX11_feed 7 (some .int) ({ frames := 0, cells := 0, slots := 0, locals := 0 } : Room) [.ref (q 0), .int (pa0), .int (pa1), .int (pa2), .int (pa3), .int (pa4)] (I, R, J) (fun r u => zR (-1) 800 r ∧ (mInv F u ∧ u.2.2 = J)) := by
  intro sz
  refine z_body (by decide +kernel) (Nat.le_of_ble_eq_true rfl) (fun p e s m below meth c ls hx hb hml hr ht hown hlocks hsz hK hP hD hS hl => ?_)
  have hA : ∀ a, s.heap.size ≤ a → zA 25 q sz a := fun a h => Or.inr (hsz ▸ h)
  have hl : lv_has ls 7 [(0, .ref (q 0)), (1, .int (pa0)), (2, .int (pa1)), (3, .int (pa2)), (4, .int (pa3)), (5, .int (pa4))] := hl
  refine lv_aload_n hx hb dX11_feed_0 rfl (lv_at hl 0 rfl) ?_
  refine z_get hx hb ht hown hK hP ziX11 rfl 0 (by decide) 5 (by decide) hw_5_192 rfl (v := .int (I 0 5)) rfl dX11_feed_1 ?_
  have f_1 : zR 0 800 (I 0 5) := mI hI 0 5
  refine lv_bipush (v := nI 20) hx hb dX11_feed_4 (by decide +kernel) ?_
  refine lv_iadd hx hb dX11_feed_6 ?_
  refine z_addc 20 820 f_1 zk_20 (by decide) (fun v_2 hv_2 mv_2 => ?_)
  refine lv_sipush (v := nI 800) hx hb dX11_feed_7 (by decide +kernel) ?_
  refine lv_icmp_le (tgt := 15) hx hb dX11_feed_10 (by decide) (fun c_3 => ?_) (fun c_3 => ?_)
  · have t_c_3 := z_leT c_3
    have f_4 : zR 20 800 (v_2) := zR_lex t_c_3 hv_2 zk_800 (by decide)
    have f_5 : zR 0 780 (I 0 5) := zR_shift mv_2 f_4 (by decide)
    refine lv_aload_n hx hb dX11_feed_15 rfl (lv_at hl 0 rfl) ?_
    refine z_get hx hb ht hown hK hP ziX11 rfl 0 (by decide) 6 (by decide) hw_5_193 rfl (v := .ref (q 5)) rfl dX11_feed_16 ?_
    refine lv_iconst (v := nI 0) hx hb dX11_feed_19 (by decide +kernel) ?_
    refine lv_iload_n hx hb dX11_feed_20 rfl (lv_at hl 1 rfl) ?_
    refine z_iast hx hb hK hP hD hS 5 (by decide) 4 (fun _ => rfl) rfl (zR_vin zk_0 (by decide)) dX11_feed_21 (fun H locs hP hD hS => ?_)
    have hI_6 := mInv_R hI 5 (nI 0).toNatClampNeg (pa0) (zR_any _) rfl
    refine lv_aload_n hx hb dX11_feed_22 rfl (lv_at hl 0 rfl) ?_
    refine z_get hx hb ht hown hK hP ziX11 rfl 0 (by decide) 6 (by decide) hw_5_193 rfl (v := .ref (q 5)) rfl dX11_feed_23 ?_
    refine lv_iconst (v := nI 1) hx hb dX11_feed_26 (by decide +kernel) ?_
    refine lv_iload_n hx hb dX11_feed_27 rfl (lv_at hl 2 rfl) ?_
    refine z_iast hx hb hK hP hD hS 5 (by decide) 4 (fun _ => rfl) rfl (zR_vin zk_1 (by decide)) dX11_feed_28 (fun H locs hP hD hS => ?_)
    have hI_7 := mInv_R hI_6 5 (nI 1).toNatClampNeg (pa1) (zR_any _) rfl
    refine lv_aload_n hx hb dX11_feed_29 rfl (lv_at hl 0 rfl) ?_
    refine z_get hx hb ht hown hK hP ziX11 rfl 0 (by decide) 6 (by decide) hw_5_193 rfl (v := .ref (q 5)) rfl dX11_feed_30 ?_
    refine lv_iconst (v := nI 2) hx hb dX11_feed_33 (by decide +kernel) ?_
    refine lv_iload_n hx hb dX11_feed_34 rfl (lv_at hl 3 rfl) ?_
    refine z_iast hx hb hK hP hD hS 5 (by decide) 4 (fun _ => rfl) rfl (zR_vin zk_2 (by decide)) dX11_feed_35 (fun H locs hP hD hS => ?_)
    have hI_8 := mInv_R hI_7 5 (nI 2).toNatClampNeg (pa2) (zR_any _) rfl
    refine lv_aload_n hx hb dX11_feed_36 rfl (lv_at hl 0 rfl) ?_
    refine z_get hx hb ht hown hK hP ziX11 rfl 0 (by decide) 6 (by decide) hw_5_193 rfl (v := .ref (q 5)) rfl dX11_feed_37 ?_
    refine lv_iconst (v := nI 3) hx hb dX11_feed_40 (by decide +kernel) ?_
    refine lv_iload hx hb dX11_feed_41 (lv_at hl 4 rfl) ?_
    refine z_iast hx hb hK hP hD hS 5 (by decide) 4 (fun _ => rfl) rfl (zR_vin zk_3 (by decide)) dX11_feed_43 (fun H locs hP hD hS => ?_)
    have hI_9 := mInv_R hI_8 5 (nI 3).toNatClampNeg (pa3) (zR_any _) rfl
    refine lv_aload_n hx hb dX11_feed_44 rfl (lv_at hl 0 rfl) ?_
    refine z_get hx hb ht hown hK hP ziX11 rfl 0 (by decide) 6 (by decide) hw_5_193 rfl (v := .ref (q 5)) rfl dX11_feed_45 ?_
    refine lv_iconst (v := nI 4) hx hb dX11_feed_48 (by decide +kernel) ?_
    refine lv_iload hx hb dX11_feed_49 (lv_at hl 5 rfl) ?_
    refine z_iast hx hb hK hP hD hS 5 (by decide) 4 (fun _ => rfl) rfl (zR_vin zk_4 (by decide)) dX11_feed_51 (fun H locs hP hD hS => ?_)
    have hI_10 := mInv_R hI_9 5 (nI 4).toNatClampNeg (pa4) (zR_any _) rfl
    refine lv_iconst (v := nI 0) hx hb dX11_feed_52 (by decide +kernel) ?_
    refine lv_istore (lv' := [(6, .int (nI 0)), (0, .ref (q 0)), (1, .int (pa0)), (2, .int (pa1)), (3, .int (pa2)), (4, .int (pa3)), (5, .int (pa4))]) hx hb dX11_feed_53 hl (by decide) rfl (fun ls hl => ?_)
    have loop_57 : ∀ N : Nat, ∀ x_55 : Int32, zR 0 20 x_55 → ∀ R_56 : Nat → Nat → Int32, mInv F (I, R_56, J) → (2147483648 - (x_55).toInt).toNat < N → ∀ (H : Heap) (locs : List Loc), va_P D vwCl (zw 25 q (zMd q cA) I R_56 J) H → va_D (zA 25 q sz) (zw 25 q (zMd q cA) I R_56 J) → va_S (zA 25 q sz) s.heap H locs → ∀ ls : Array Slot, lv_has ls 7 [(0, .ref (q 0)), (1, .int (pa0)), (2, .int (pa1)), (3, .int (pa2)), (4, .int (pa3)), (5, .int (pa4)), (6, .int (x_55))] → W p l e ({ frames := 0, cells := 0, slots := 0, locals := 0 } : Room) s m ([.ref (q 0), .int (pa0), .int (pa1), .int (pa2), .int (pa3), .int (pa4)] : List Value).toArray below meth c H locs 0 0 (MQ below (va_Qi (fun r u => zR (-1) 800 r ∧ (mInv F u ∧ u.2.2 = J)) (zB D vwCl 25 q (zMd q cA) sz) (zA 25 q sz)) ([.ref (q 0), .int (pa0), .int (pa1), .int (pa2), .int (pa3), .int (pa4)] : List Value).toArray s 0 0 (zA 25 q sz)) (F0 m 55 ls []) := by
      intro N
      induction N with
      | zero => intro x_55 hx_55 R_56 hI_56 hN; exact absurd hN (Nat.not_lt_zero _)
      | succ N ih_59 =>
        intro x_55 hx_55 R_56 hI_56 hN_58 H locs hP hD hS ls hl
        refine lv_iload hx hb dX11_feed_55 (lv_at hl 6 rfl) ?_
        refine lv_bipush (v := nI 20) hx hb dX11_feed_57 (by decide +kernel) ?_
        refine lv_icmp_ge (tgt := 101) hx hb dX11_feed_59 (by decide) (fun c_60 => ?_) (fun c_60 => ?_)
        · have t_c_60 := z_leT c_60
          have f_72 : zR 20 20 (x_55) := zR_ley t_c_60 zk_20 hx_55 (by decide)
          refine lv_aload_n hx hb dX11_feed_101 rfl (lv_at hl 0 rfl) ?_
          refine lv_dup hx hb dX11_feed_102 rfl ?_
          refine z_get hx hb ht hown hK hP ziX11 rfl 0 (by decide) 5 (by decide) hw_5_192 rfl (v := .int (I 0 5)) rfl dX11_feed_103 ?_
          refine lv_bipush (v := nI 20) hx hb dX11_feed_106 (by decide +kernel) ?_
          refine lv_iadd hx hb dX11_feed_108 ?_
          refine z_addc 20 800 f_5 zk_20 (by decide) (fun v_73 hv_73 mv_73 => ?_)
          refine z_putI hx hb ht hown hK hP hD hS ziX11 tyX11 tyX11_ok nmX11 rfl 0 (by decide) 5 (by decide) hw_5_192 rfl (v := v_73) rfl rfl rfl (Nat.le_of_ble_eq_true rfl) rfl dX11_feed_109 (fun H locs hP hD hS => ?_)
          have hI_74 := mInv_I hI_56 0 5 (v_73) (zR_w hv_73 (by decide)) rfl
          refine lv_aload_n hx hb dX11_feed_112 rfl (lv_at hl 0 rfl) ?_
          refine z_get hx hb ht hown hK hP ziX11 rfl 0 (by decide) 5 (by decide) hw_5_192 rfl (v := .int (v_73)) rfl dX11_feed_113 ?_
          exact z_iret (v := v_73) hx hb hr hlocks hP hD hS dX11_feed_116 ⟨(zR_w hv_73 (by decide)), ⟨hI_74, rfl⟩⟩
        · have t_c_60 := z_leF c_60
          have f_75 : zR 0 19 (x_55) := zR_ltx t_c_60 hx_55 zk_20 (by decide)
          refine lv_aload_n hx hb dX11_feed_62 rfl (lv_at hl 0 rfl) ?_
          refine z_get hx hb ht hown hK hP ziX11 rfl 0 (by decide) 4 (by decide) hw_5_191 rfl (v := .ref (q 4)) rfl dX11_feed_63 ?_
          refine lv_aload_n hx hb dX11_feed_66 rfl (lv_at hl 0 rfl) ?_
          refine z_get hx hb ht hown hK hP ziX11 rfl 0 (by decide) 5 (by decide) hw_5_192 rfl (v := .int (I 0 5)) rfl dX11_feed_67 ?_
          refine lv_iload hx hb dX11_feed_70 (lv_at hl 6 rfl) ?_
          refine lv_iadd hx hb dX11_feed_72 ?_
          refine z_rng (a := 0) (b := 799) (zR_add f_5 f_75 (by decide)) (fun v_76 hv_76 => ?_)
          refine lv_aload_n hx hb dX11_feed_73 rfl (lv_at hl 0 rfl) ?_
          refine z_get hx hb ht hown hK hP ziX11 rfl 0 (by decide) 6 (by decide) hw_5_193 rfl (v := .ref (q 5)) rfl dX11_feed_74 ?_
          refine lv_iload hx hb dX11_feed_77 (lv_at hl 6 rfl) ?_
          refine lv_iconst (v := nI 4) hx hb dX11_feed_79 (by decide +kernel) ?_
          refine lv_idiv hx hb dX11_feed_80 (by decide +kernel) ?_
          refine z_rng (a := 0) (b := 4) (zR_divc f_75 zk_4 (by decide)) (fun v_77 hv_77 => ?_)
          refine z_iald hx hb hK hP 5 (by decide) 4 rfl rfl (zR_vin hv_77 (by decide)) dX11_feed_81 ?_
          refine z_eqi (y := R_56 5 (v_77).toNatClampNeg) rfl ?_
          refine lv_bipush (v := nI 24) hx hb dX11_feed_82 (by decide +kernel) ?_
          refine lv_bipush (v := nI 8) hx hb dX11_feed_84 (by decide +kernel) ?_
          refine lv_iload hx hb dX11_feed_86 (lv_at hl 6 rfl) ?_
          refine lv_iconst (v := nI 4) hx hb dX11_feed_88 (by decide +kernel) ?_
          refine lv_irem hx hb dX11_feed_89 (by decide +kernel) ?_
          refine z_rng (a := 0) (b := 3) (zR_rem f_75 zk_4 (by decide)) (fun v_78 hv_78 => ?_)
          refine lv_imul hx hb dX11_feed_90 ?_
          refine z_rng (a := 0) (b := 24) (zR_mul zk_8 hv_78 (by decide)) (fun v_79 hv_79 => ?_)
          refine lv_isub hx hb dX11_feed_91 ?_
          refine z_rng (a := 0) (b := 24) (zR_sub zk_24 hv_79 (by decide)) (fun v_80 hv_80 => ?_)
          refine lv_ishr hx hb dX11_feed_92 ?_
          refine z_any (fun v_81 => ?_)
          refine lv_i2b hx hb dX11_feed_93 rfl ?_
          refine z_any (fun v_82 => ?_)
          refine z_bast hx hb hK hP hD hS 4 (by decide) 3 (fun _ => rfl) rfl (zR_vin hv_76 (by decide)) dX11_feed_94 (fun H locs hP hD hS => ?_)
          have hI_83 := mInv_R hI_56 4 (v_76).toNatClampNeg (vp_nar .byte (v_82)) (zR_any _) rfl
          obtain ⟨v_84, ev_84⟩ : ∃ y : Int32, y = x_55 + nI 1 := ⟨_, rfl⟩
          have hv_84 : zR 1 20 v_84 := ev_84 ▸ zR_add f_75 zk_1 (by decide)
          have mv_84 : v_84.toInt = (x_55).toInt + 1 := by rw [ev_84, zR_addE f_75 zk_1 (by decide)]; rfl
          refine lv_iinc (v := v_84) (lv' := [(6, .int (v_84)), (0, .ref (q 0)), (1, .int (pa0)), (2, .int (pa1)), (3, .int (pa2)), (4, .int (pa3)), (5, .int (pa4))]) hx hb dX11_feed_95 hl (k := 6) rfl (ev_84 ▸ rfl) (by decide) rfl (fun ls hl => ?_)
          refine lv_goto (tgt := 55) hx hb dX11_feed_98 (by decide) ?_
          exact ih_59 (v_84) (zR_w hv_84 (by decide)) _ hI_83 (z2_up mv_84 (by decide) hN_58) _ _ hP hD hS _ (lv_sub hl [1, 2, 3, 4, 5, 6, 0] rfl)
    exact loop_57 _ (nI 0) (zR_w zk_0 (by decide)) _ hI_10 (Nat.lt_succ_self _) _ _ hP hD hS _ (lv_sub hl [1, 2, 3, 4, 5, 6, 0] rfl)
  · have t_c_3 := z_leF c_3
    have f_85 : zR 801 820 (v_2) := zR_lty t_c_3 zk_800 hv_2 (by decide)
    have f_86 : zR 781 800 (I 0 5) := zR_shift mv_2 f_85 (by decide)
    refine lv_iconst (v := (-1)) hx hb dX11_feed_13 (by decide +kernel) ?_
    exact z_iret (v := (-1)) hx hb hr hlocks hP hD hS dX11_feed_14 ⟨(zR_w zk_m1 (by decide)), ⟨hI, rfl⟩⟩
set_option maxHeartbeats 4000000 in
set_option maxRecDepth 100000 in
theorem mk_X11_in (l : Launch) (D : va_G) (q : Nat → Nat) (cA : Nat → ClassId) (F : Nat → Nat → Int32) (I R : Nat → Nat → Int32) (J : Nat → Nat → Int64) (hI : mInv F (I, R, J)) (pa0 : Int64) (pa1 : Int64) (pa2 : Int64) : zMi l D vwCl (zMtys cA) 25 q (zMd q cA) yX11_in cX11_in 6 (some .boolean) ({ frames := 0, cells := 0, slots := 0, locals := 0 } : Room) [.long (pa0), .long (pa1), .long (pa2)] (I, R, J) (fun r u => (r = nI 1 ∧ u = (I, R, J) ∧ pa1.toInt ≤ pa0.toInt ∧ pa0.toInt ≤ pa2.toInt) ∨ (r = nI 0 ∧ u = (I, R, J) ∧ (pa0.toInt < pa1.toInt ∨ pa2.toInt < pa0.toInt))) := by
  intro sz
  refine z_body (by decide +kernel) (Nat.le_of_ble_eq_true rfl) (fun p e s m below meth c ls hx hb hml hr ht hown hlocks hsz hK hP hD hS hl => ?_)
  have hA : ∀ a, s.heap.size ≤ a → zA 25 q sz a := fun a h => Or.inr (hsz ▸ h)
  have hl : lv_has ls 6 [(0, .long (pa0)), (2, .long (pa1)), (4, .long (pa2))] := hl
  refine lv_lload_n hx hb dX11_in_0 rfl (lv_at hl 0 rfl) ?_
  refine lv_lload_n hx hb dX11_in_1 rfl (lv_at hl 1 rfl) ?_
  refine W.lcmp hx hb dX11_in_2 ?_
  refine lv_if_lt (tgt := 17) hx hb dX11_in_3 (by decide) (fun c_1 => ?_) (fun c_1 => ?_)
  · have t_c_1 := z_lltT ((lg_cmp_lt _ _).mp c_1)
    have f_2 : zL (-9223372036854775808) 9223372036854775806 (pa0) := zL_ltx t_c_1 (zL_any (pa0)) (zL_any (pa1)) (by decide)
    have f_3 : zL (-9223372036854775807) 9223372036854775807 (pa1) := zL_lty t_c_1 (zL_any (pa0)) (zL_any (pa1)) (by decide)
    refine lv_iconst (v := nI 0) hx hb dX11_in_17 (by decide +kernel) ?_
    exact z_zret (v := nI 0) hx hb hr hlocks hP hD hS (by decide +kernel) dX11_in_18 (Or.inr ⟨rfl, rfl, Or.inl t_c_1⟩)
  · have t_c_1 := z_lltF (fun h => c_1 ((lg_cmp_lt _ _).mpr h))
    refine lv_lload_n hx hb dX11_in_6 rfl (lv_at hl 0 rfl) ?_
    refine lv_lload hx hb dX11_in_7 (lv_at hl 2 rfl) ?_
    refine W.lcmp hx hb dX11_in_9 ?_
    refine lv_if_gt (tgt := 17) hx hb dX11_in_10 (by decide) (fun c_4 => ?_) (fun c_4 => ?_)
    · have t_c_4 := z_lltT ((lg_cmp_gt _ _).mp c_4)
      have f_5 : zL (-9223372036854775808) 9223372036854775806 (pa2) := zL_ltx t_c_4 (zL_any (pa2)) (zL_any (pa0)) (by decide)
      have f_6 : zL (-9223372036854775807) 9223372036854775807 (pa0) := zL_lty t_c_4 (zL_any (pa2)) (zL_any (pa0)) (by decide)
      refine lv_iconst (v := nI 0) hx hb dX11_in_17 (by decide +kernel) ?_
      exact z_zret (v := nI 0) hx hb hr hlocks hP hD hS (by decide +kernel) dX11_in_18 (Or.inr ⟨rfl, rfl, Or.inr t_c_4⟩)
    · have t_c_4 := z_lltF (fun h => c_4 ((lg_cmp_gt _ _).mpr h))
      refine lv_iconst (v := nI 1) hx hb dX11_in_13 (by decide +kernel) ?_
      refine lv_goto (tgt := 18) hx hb dX11_in_14 (by decide) ?_
      exact z_zret (v := nI 1) hx hb hr hlocks hP hD hS (by decide +kernel) dX11_in_18 (Or.inl ⟨rfl, rfl, t_c_1, t_c_4⟩)
set_option maxHeartbeats 4000000 in
set_option maxRecDepth 100000 in
theorem mk_X11_end (l : Launch) (D : va_G) (q : Nat → Nat) (cA : Nat → ClassId) (F : Nat → Nat → Int32) (I R : Nat → Nat → Int32) (J : Nat → Nat → Int64) (hI : mInv F (I, R, J)) (pa0 : Int32) : zMi l D vwCl (zMtys cA) 25 q (zMd q cA) yX11_end cX11_end 2 (some .int) ({ frames := 1, cells := 0, slots := 0, locals := 25 } : Room) [.ref (q 0), .int (pa0)] (I, R, J) (fun r u => zR (-1) 800 r ∧ (mInv F u ∧ u.2.2 = J)) := by
  intro sz
  refine z_body (by decide +kernel) (Nat.le_of_ble_eq_true rfl) (fun p e s m below meth c ls hx hb hml hr ht hown hlocks hsz hK hP hD hS hl => ?_)
  have hA : ∀ a, s.heap.size ≤ a → zA 25 q sz a := fun a h => Or.inr (hsz ▸ h)
  have hl : lv_has ls 2 [(0, .ref (q 0)), (1, .int (pa0))] := hl
  refine lv_iload_n hx hb dX11_end_0 rfl (lv_at hl 1 rfl) ?_
  refine lv_i2l (v := (pa0).toInt64) hx hb dX11_end_1 rfl ?_
  refine lv_lconst (v := (0 : Int64)) hx hb dX11_end_2 (by decide +kernel) ?_
  refine lv_aload_n hx hb dX11_end_3 rfl (lv_at hl 0 rfl) ?_
  refine z_get hx hb ht hown hK hP ziX11 rfl 0 (by decide) 5 (by decide) hw_5_192 rfl (v := .int (I 0 5)) rfl dX11_end_4 ?_
  have f_1 : zR 0 800 (I 0 5) := mI hI 0 5
  refine lv_i2l (v := (I 0 5).toInt64) hx hb dX11_end_7 rfl ?_
  refine z_callSi (As := [.long ((pa0).toInt64), .long ((0 : Int64)), .long ((I 0 5).toInt64)]) (rest := []) hx hb hml hown ht (mk_X11_in l D q cA F _ _ _ hI ((pa0).toInt64) ((0 : Int64)) ((I 0 5).toInt64)) hw_6_86 hmX11_in ⟨rfl, rfl⟩ (na := 3) rfl (by decide +kernel) (by decide) hK hP hD hS hA hl.1 rfl (Nat.le_of_ble_eq_true rfl) ⟨Nat.zero_le _, Nat.zero_le _⟩ dX11_end_8 (fun r_2 I_2 R_2 J_2 H locs hp_2 hP hD hS _ _ => ?_)
  rcases hp_2 with ⟨rfl, hu_2, h1_2, h2_2⟩ | ⟨rfl, hu_2, h1_2 | h2_2⟩
  · cases hu_2
    have f_3 : zL 0 2147483647 ((pa0).toInt64) := zL_ley h1_2 zkl_0 (zR_i2l (zR_any (pa0))) (by decide)
    have f_4 : zR 0 2147483647 (pa0) := zL_back f_3
    have f_5 : zL 0 800 ((pa0).toInt64) := zL_lex h2_2 f_3 (zR_i2l f_1) (by decide)
    have f_6 : zR 0 800 (pa0) := zL_back f_5
    refine lv_if_ne (tgt := 16) hx hb dX11_end_11 (by decide) (fun _ => ?_) (fun c_0 => absurd c_0 (zD_ne zk_1 zk_z (by decide)))
    refine lv_aload_n hx hb dX11_end_16 rfl (lv_at hl 0 rfl) ?_
    refine lv_iload_n hx hb dX11_end_17 rfl (lv_at hl 1 rfl) ?_
    refine z_putI hx hb ht hown hK hP hD hS ziX11 tyX11 tyX11_ok nmX11 rfl 0 (by decide) 5 (by decide) hw_5_192 rfl (v := pa0) rfl rfl rfl (Nat.le_of_ble_eq_true rfl) rfl dX11_end_18 (fun H locs hP hD hS => ?_)
    have hI_7 := mInv_I hI 0 5 (pa0) f_6 rfl
    refine lv_iload_n hx hb dX11_end_21 rfl (lv_at hl 1 rfl) ?_
    exact z_iret (v := pa0) hx hb hr hlocks hP hD hS dX11_end_22 ⟨(zR_w f_6 (by decide)), ⟨hI_7, rfl⟩⟩
  · cases hu_2
    have f_8 : zL (-2147483648) (-1) ((pa0).toInt64) := zL_ltx h1_2 (zR_i2l (zR_any (pa0))) zkl_0 (by decide)
    have f_9 : zR (-2147483648) (-1) (pa0) := zL_back f_8
    refine lv_if_ne (tgt := 16) hx hb dX11_end_11 (by decide) (fun c_0 => absurd (zD_eq zk_0 zk_z) c_0) (fun _ => ?_)
    refine lv_iconst (v := (-1)) hx hb dX11_end_14 (by decide +kernel) ?_
    exact z_iret (v := (-1)) hx hb hr hlocks hP hD hS dX11_end_15 ⟨(zR_w zk_m1 (by decide)), ⟨hI, rfl⟩⟩
  · cases hu_2
    have f_10 : zL 1 2147483647 ((pa0).toInt64) := zL_lty h2_2 (zR_i2l f_1) (zR_i2l (zR_any (pa0))) (by decide)
    have f_11 : zR 1 2147483647 (pa0) := zL_back f_10
    refine lv_if_ne (tgt := 16) hx hb dX11_end_11 (by decide) (fun c_0 => absurd (zD_eq zk_0 zk_z) c_0) (fun _ => ?_)
    refine lv_iconst (v := (-1)) hx hb dX11_end_14 (by decide +kernel) ?_
    exact z_iret (v := (-1)) hx hb hr hlocks hP hD hS dX11_end_15 ⟨(zR_w zk_m1 (by decide)), ⟨hI, rfl⟩⟩
set_option maxHeartbeats 4000000 in
set_option maxRecDepth 100000 in
theorem mk_X11_see (l : Launch) (D : va_G) (q : Nat → Nat) (cA : Nat → ClassId) (F : Nat → Nat → Int32) (I R : Nat → Nat → Int32) (J : Nat → Nat → Int64) (hI : mInv F (I, R, J)) (pa0 : Int32) (hpa0 : zR 0 800 pa0) : zMi l D vwCl (zMtys cA) 25 q (zMd q cA) yX11_see cX11_see 2 (some .int) ({ frames := 0, cells := 0, slots := 0, locals := 0 } : Room) [.ref (q 0), .int (pa0)] (I, R, J) (fun r u => (pa0.toInt < (I 0 7).toInt ∧ zR 0 255 r ∧ r = R 4 (pa0).toNatClampNeg &&& nI 255 ∧ u = (I, R, J)) ∨ ((I 0 7).toInt ≤ pa0.toInt ∧ r = (-1) ∧ u = (I, R, J))) := by
  intro sz
  refine z_body (by decide +kernel) (Nat.le_of_ble_eq_true rfl) (fun p e s m below meth c ls hx hb hml hr ht hown hlocks hsz hK hP hD hS hl => ?_)
  have hA : ∀ a, s.heap.size ≤ a → zA 25 q sz a := fun a h => Or.inr (hsz ▸ h)
  have hl : lv_has ls 2 [(0, .ref (q 0)), (1, .int (pa0))] := hl
  refine lv_iload_n hx hb dX11_see_0 rfl (lv_at hl 1 rfl) ?_
  refine lv_aload_n hx hb dX11_see_1 rfl (lv_at hl 0 rfl) ?_
  refine z_get hx hb ht hown hK hP ziX11 rfl 0 (by decide) 7 (by decide) hw_5_194 rfl (v := .int (I 0 7)) rfl dX11_see_2 ?_
  have f_1 : zR 0 800 (I 0 7) := mI hI 0 7
  refine lv_icmp_ge (tgt := 21) hx hb dX11_see_5 (by decide) (fun c_2 => ?_) (fun c_2 => ?_)
  · have t_c_2 := z_leT c_2
    refine lv_iconst (v := (-1)) hx hb dX11_see_21 (by decide +kernel) ?_
    exact z_iret (v := (-1)) hx hb hr hlocks hP hD hS dX11_see_22 (Or.inr ⟨t_c_2, rfl, rfl⟩)
  · have t_c_2 := z_leF c_2
    have f_3 : zR 0 799 (pa0) := zR_ltx t_c_2 hpa0 f_1 (by decide)
    have f_4 : zR 1 800 (I 0 7) := zR_lty t_c_2 hpa0 f_1 (by decide)
    refine lv_aload_n hx hb dX11_see_8 rfl (lv_at hl 0 rfl) ?_
    refine z_get hx hb ht hown hK hP ziX11 rfl 0 (by decide) 4 (by decide) hw_5_191 rfl (v := .ref (q 4)) rfl dX11_see_9 ?_
    refine lv_iload_n hx hb dX11_see_12 rfl (lv_at hl 1 rfl) ?_
    refine z_bald hx hb hK hP 4 (by decide) 3 rfl rfl (zR_vin f_3 (by decide)) dX11_see_13 ?_
    refine z_eqi (y := R 4 (pa0).toNatClampNeg) rfl ?_
    refine lv_sipush (v := nI 255) hx hb dX11_see_14 (by decide +kernel) ?_
    refine lv_iand hx hb dX11_see_17 ?_
    refine lv_topi (fun v_5 ev_5 => ?_)
    have hv_5 : zR 0 255 v_5 := ev_5 ▸ zR_andr zk_255 (by decide)
    refine lv_goto (tgt := 22) hx hb dX11_see_18 (by decide) ?_
    exact z_iret (v := v_5) hx hb hr hlocks hP hD hS dX11_see_22 (Or.inl ⟨t_c_2, hv_5, ev_5, rfl⟩)
set_option maxHeartbeats 4000000 in
set_option maxRecDepth 100000 in
theorem mk_X11_advance (l : Launch) (D : va_G) (q : Nat → Nat) (cA : Nat → ClassId) (F : Nat → Nat → Int32) (I R : Nat → Nat → Int32) (J : Nat → Nat → Int64) (hI : mInv F (I, R, J))  : zMv l D vwCl (zMtys cA) 25 q (zMd q cA) yX11_advance cX11_advance 2 none ({ frames := 1, cells := 0, slots := 0, locals := 64 } : Room) [.ref (q 0)] (I, R, J) (fun u => (mInv F u ∧ (∀ k, k ≠ 0 → u.1 k = I k) ∧ u.2 = (R, J)) ∧ mTr I u.1) := by
  intro sz
  refine z_body (by decide +kernel) (Nat.le_of_ble_eq_true rfl) (fun p e s m below meth c ls hx hb hml hr ht hown hlocks hsz hK hP hD hS hl => ?_)
  have hA : ∀ a, s.heap.size ≤ a → zA 25 q sz a := fun a h => Or.inr (hsz ▸ h)
  have hl : lv_has ls 2 [(0, .ref (q 0))] := hl
  have loop_426 : ∀ N : Nat, ∀ I_424 : Nat → Nat → Int32, mInv F (I_424, R, J) → (∀ k, k ≠ 0 → I_424 k = I k) → ((I 0 8).toInt ≤ (I_424 0 8).toInt ∧ I_424 0 12 = I 0 12) → (2147483648 - (I_424 0 8).toInt).toNat < N → ∀ (H : Heap) (locs : List Loc), va_P D vwCl (zw 25 q (zMd q cA) I_424 R J) H → va_D (zA 25 q sz) (zw 25 q (zMd q cA) I_424 R J) → va_S (zA 25 q sz) s.heap H locs → ∀ ls : Array Slot, lv_has ls 2 [(0, .ref (q 0))] → W p l e ({ frames := 1, cells := 0, slots := 0, locals := 64 } : Room) s m ([.ref (q 0)] : List Value).toArray below meth c H locs 0 0 (MQ below (va_Qv (fun u => (mInv F u ∧ (∀ k, k ≠ 0 → u.1 k = I k) ∧ u.2 = (R, J)) ∧ mTr I u.1) (zB D vwCl 25 q (zMd q cA) sz) (zA 25 q sz)) ([.ref (q 0)] : List Value).toArray s 0 0 (zA 25 q sz)) (F0 m 0 ls []) := by
    intro N
    induction N with
    | zero => intro I_424 hI_424 hf_424 hx_425 hN; exact absurd hN (Nat.not_lt_zero _)
    | succ N ih_428 =>
      intro I_424 hI_424 hf_424 hx_425 hN_427 H locs hP hD hS ls hl
      refine lv_aload_n hx hb dX11_advance_0 rfl (lv_at hl 0 rfl) ?_
      refine lv_aload_n hx hb dX11_advance_1 rfl (lv_at hl 0 rfl) ?_
      refine z_get hx hb ht hown hK hP ziX11 rfl 0 (by decide) 8 (by decide) hw_5_195 rfl (v := .int (I_424 0 8)) rfl dX11_advance_2 ?_
      have f_429 : zR 0 800 (I_424 0 8) := mI hI_424 0 8
      have t_437 :  ∀ (H : Heap) (locs : List Loc), va_P D vwCl (zw 25 q (zMd q cA) I_424 R J) H → va_D (zA 25 q sz) (zw 25 q (zMd q cA) I_424 R J) → va_S (zA 25 q sz) s.heap H locs → ∀ ls : Array Slot, lv_has ls 2 [(0, .ref (q 0))] → W p l e ({ frames := 1, cells := 0, slots := 0, locals := 64 } : Room) s m ([.ref (q 0)] : List Value).toArray below meth c H locs 0 0 (MQ below (va_Qv (fun u => (mInv F u ∧ (∀ k, k ≠ 0 → u.1 k = I k) ∧ u.2 = (R, J)) ∧ mTr I u.1) (zB D vwCl 25 q (zMd q cA) sz) (zA 25 q sz)) ([.ref (q 0)] : List Value).toArray s 0 0 (zA 25 q sz)) (F0 m 13 ls []) := by
        intro  H locs hP hD hS ls hl
        refine lv_aload_n hx hb dX11_advance_13 rfl (lv_at hl 0 rfl) ?_
        refine lv_aload_n hx hb dX11_advance_14 rfl (lv_at hl 0 rfl) ?_
        refine z_get hx hb ht hown hK hP ziX11 rfl 0 (by decide) 8 (by decide) hw_5_195 rfl (v := .int (I_424 0 8)) rfl dX11_advance_15 ?_
        refine z_callVi (k := 0) (As := [.int (I_424 0 8)]) (rest := []) hx hb hml hown ht (mk_X11_see l D q cA F _ _ _ hI_424 (I_424 0 8) f_429) hw_6_113 hmX11_see ⟨rfl, rfl⟩ (na := 1) rfl (by decide +kernel) (by decide) (by decide) rfl rfl hK hP hD hS hA hl.1 rfl (Nat.le_of_ble_eq_true rfl) ⟨Nat.zero_le _, Nat.zero_le _⟩ dX11_advance_18 (fun r_438 I_438 R_438 J_438 H locs hp_438 hP hD hS _ _ => ?_)
        rcases hp_438 with ⟨h1_438, h2_438, rfl, hu_438⟩ | ⟨h1_438, rfl, hu_438⟩
        · cases hu_438
          have f_439 : zR 0 799 (I_424 0 8) := zR_ltx h1_438 f_429 None (by decide)
          have f_440 : zR 1 800 (I_424 0 7) := zR_lty h1_438 f_429 None (by decide)
          refine lv_bipush (v := nI 10) hx hb dX11_advance_21 (by decide +kernel) ?_
          refine lv_icmp_ne (tgt := 39) hx hb dX11_advance_23 (by decide) (fun c_441 => ?_) (fun c_441 => ?_)
          · have t_c_441 := z_eqF c_441
            refine lv_aload_n hx hb dX11_advance_39 rfl (lv_at hl 0 rfl) ?_
            refine lv_aload_n hx hb dX11_advance_40 rfl (lv_at hl 0 rfl) ?_
            refine z_get hx hb ht hown hK hP ziX11 rfl 0 (by decide) 8 (by decide) hw_5_195 rfl (v := .int (I_424 0 8)) rfl dX11_advance_41 ?_
            refine z_putI hx hb ht hown hK hP hD hS ziX11 tyX11 tyX11_ok nmX11 rfl 0 (by decide) 9 (by decide) hw_5_196 rfl (v := I_424 0 8) rfl rfl rfl (Nat.le_of_ble_eq_true rfl) rfl dX11_advance_44 (fun H locs hP hD hS => ?_)
            have hI_442 := mInv_I hI_424 0 9 (I_424 0 8) (zR_w f_439 (by decide)) rfl
            have hf_443 : ∀ k, k ≠ 0 → (zp I_424 0 9 (I_424 0 8)) k = I k := fun k h => (zp_nk h).trans (hf_424 k h)
            refine lv_aload_n hx hb dX11_advance_47 rfl (lv_at hl 0 rfl) ?_
            refine lv_aload_n hx hb dX11_advance_48 rfl (lv_at hl 0 rfl) ?_
            refine z_get hx hb ht hown hK hP ziX11 rfl 0 (by decide) 8 (by decide) hw_5_195 rfl (v := .int (I_424 0 8)) rfl dX11_advance_49 ?_
            refine z_callVi (k := 0) (As := [.int (I_424 0 8)]) (rest := []) hx hb hml hown ht (mk_X11_see l D q cA F _ _ _ hI_442 (I_424 0 8) (zR_w f_439 (by decide))) hw_6_113 hmX11_see ⟨rfl, rfl⟩ (na := 1) rfl (by decide +kernel) (by decide) (by decide) rfl rfl hK hP hD hS hA hl.1 rfl (Nat.le_of_ble_eq_true rfl) ⟨Nat.zero_le _, Nat.zero_le _⟩ dX11_advance_52 (fun r_444 I_444 R_444 J_444 H locs hp_444 hP hD hS _ _ => ?_)
            rcases hp_444 with ⟨h1_444, h2_444, rfl, hu_444⟩ | ⟨h1_444, rfl, hu_444⟩
            · cases hu_444
              refine lv_istore_n (lv' := [(1, .int (R 4 (I_424 0 8).toNatClampNeg &&& nI 255)), (0, .ref (q 0))]) hx hb dX11_advance_55 rfl hl (by decide) rfl (fun ls hl => ?_)
              refine lv_iload_n hx hb dX11_advance_56 rfl (lv_at hl 0 rfl) ?_
              refine lv_iconst (v := (-1)) hx hb dX11_advance_57 (by decide +kernel) ?_
              refine lv_icmp_ne (tgt := 69) hx hb dX11_advance_58 (by decide) (fun _ => ?_) (fun c_0 => absurd c_0 (zD_ne h2_438 zk_m1 (by decide)))
              refine lv_iload_n hx hb dX11_advance_69 rfl (lv_at hl 0 rfl) ?_
              refine lv_i2l (v := (R 4 (I_424 0 8).toNatClampNeg &&& nI 255).toInt64) hx hb dX11_advance_70 rfl ?_
              refine lv_ldc2 (v := (97 : Int64)) hx hb hown (ht _ hw_6_117) dX11_advance_71 ?_
              refine lv_ldc2 (v := (122 : Int64)) hx hb hown (ht _ hw_6_118) dX11_advance_74 ?_
              refine z_callSi (As := [.long ((R 4 (I_424 0 8).toNatClampNeg &&& nI 255).toInt64), .long ((97 : Int64)), .long ((122 : Int64))]) (rest := []) hx hb hml hown ht (mk_X11_in l D q cA F _ _ _ hI_442 ((R 4 (I_424 0 8).toNatClampNeg &&& nI 255).toInt64) ((97 : Int64)) ((122 : Int64))) hw_6_86 hmX11_in ⟨rfl, rfl⟩ (na := 3) rfl (by decide +kernel) (by decide) hK hP hD hS hA hl.1 rfl (Nat.le_of_ble_eq_true rfl) ⟨Nat.zero_le _, Nat.zero_le _⟩ dX11_advance_77 (fun r_445 I_445 R_445 J_445 H locs hp_445 hP hD hS _ _ => ?_)
              rcases hp_445 with ⟨rfl, hu_445, h1_445, h2_445⟩ | ⟨rfl, hu_445, h1_445 | h2_445⟩
              · cases hu_445
                have f_446 : zL 97 255 ((R 4 (I_424 0 8).toNatClampNeg &&& nI 255).toInt64) := zL_ley h1_445 zkl_97 (zR_i2l h2_438) (by decide)
                have f_447 : zR 97 255 (R 4 (I_424 0 8).toNatClampNeg &&& nI 255) := zL_back f_446
                have f_448 : zL 97 122 ((R 4 (I_424 0 8).toNatClampNeg &&& nI 255).toInt64) := zL_lex h2_445 f_446 zkl_122 (by decide)
                have f_449 : zR 97 122 (R 4 (I_424 0 8).toNatClampNeg &&& nI 255) := zL_back f_448
                refine lv_if_eq (tgt := 125) hx hb dX11_advance_80 (by decide) (fun c_0 => absurd c_0 (zD_ne zk_1 zk_z (by decide))) (fun _ => ?_)
                refine lv_aload_n hx hb dX11_advance_83 rfl (lv_at hl 1 rfl) ?_
                refine lv_aload_n hx hb dX11_advance_84 rfl (lv_at hl 1 rfl) ?_
                refine z_get hx hb ht hown hK hP ziX11 rfl 0 (by decide) 8 (by decide) hw_5_195 rfl (v := .int (I_424 0 8)) rfl dX11_advance_85 ?_
                refine z_callVi (k := 0) (As := [.int (I_424 0 8)]) (rest := []) hx hb hml hown ht (mk_X11_see l D q cA F _ _ _ hI_442 (I_424 0 8) (zR_w f_439 (by decide))) hw_6_113 hmX11_see ⟨rfl, rfl⟩ (na := 1) rfl (by decide +kernel) (by decide) (by decide) rfl rfl hK hP hD hS hA hl.1 rfl (Nat.le_of_ble_eq_true rfl) ⟨Nat.zero_le _, Nat.zero_le _⟩ dX11_advance_88 (fun r_450 I_450 R_450 J_450 H locs hp_450 hP hD hS _ _ => ?_)
                rcases hp_450 with ⟨h1_450, h2_450, rfl, hu_450⟩ | ⟨h1_450, rfl, hu_450⟩
                · cases hu_450
                  refine lv_i2l (v := (R 4 (I_424 0 8).toNatClampNeg &&& nI 255).toInt64) hx hb dX11_advance_91 rfl ?_
                  refine lv_ldc2 (v := (97 : Int64)) hx hb hown (ht _ hw_6_117) dX11_advance_92 ?_
                  refine lv_ldc2 (v := (122 : Int64)) hx hb hown (ht _ hw_6_118) dX11_advance_95 ?_
                  refine z_callSi (As := [.long ((R 4 (I_424 0 8).toNatClampNeg &&& nI 255).toInt64), .long ((97 : Int64)), .long ((122 : Int64))]) (rest := []) hx hb hml hown ht (mk_X11_in l D q cA F _ _ _ hI_442 ((R 4 (I_424 0 8).toNatClampNeg &&& nI 255).toInt64) ((97 : Int64)) ((122 : Int64))) hw_6_86 hmX11_in ⟨rfl, rfl⟩ (na := 3) rfl (by decide +kernel) (by decide) hK hP hD hS hA hl.1 rfl (Nat.le_of_ble_eq_true rfl) ⟨Nat.zero_le _, Nat.zero_le _⟩ dX11_advance_98 (fun r_451 I_451 R_451 J_451 H locs hp_451 hP hD hS _ _ => ?_)
                  rcases hp_451 with ⟨rfl, hu_451, h1_451, h2_451⟩ | ⟨rfl, hu_451, h1_451 | h2_451⟩
                  · cases hu_451
                    refine lv_if_eq (tgt := 117) hx hb dX11_advance_101 (by decide) (fun c_0 => absurd c_0 (zD_ne zk_1 zk_z (by decide))) (fun _ => ?_)
                    refine lv_aload_n hx hb dX11_advance_104 rfl (lv_at hl 1 rfl) ?_
                    refine lv_dup hx hb dX11_advance_105 rfl ?_
                    refine z_get hx hb ht hown hK hP ziX11 rfl 0 (by decide) 8 (by decide) hw_5_195 rfl (v := .int (I_424 0 8)) rfl dX11_advance_106 ?_
                    refine lv_iconst (v := nI 1) hx hb dX11_advance_109 (by decide +kernel) ?_
                    refine lv_iadd hx hb dX11_advance_110 ?_
                    refine z_addc 1 800 f_439 zk_1 (by decide) (fun v_452 hv_452 mv_452 => ?_)
                    refine z_putI hx hb ht hown hK hP hD hS ziX11 tyX11 tyX11_ok nmX11 rfl 0 (by decide) 8 (by decide) hw_5_195 rfl (v := v_452) rfl rfl rfl (Nat.le_of_ble_eq_true rfl) rfl dX11_advance_111 (fun H locs hP hD hS => ?_)
                    have hI_453 := mInv_I hI_442 0 8 (v_452) (zR_w hv_452 (by decide)) rfl
                    have hf_454 : ∀ k, k ≠ 0 → (zp (zp I_424 0 9 (I_424 0 8)) 0 8 (v_452)) k = I k := fun k h => (zp_nk h).trans (hf_443 k h)
                    refine lv_goto (tgt := 83) hx hb dX11_advance_114 (by decide) ?_
                    have loop_510 : ∀ N : Nat, ∀ I_508 : Nat → Nat → Int32, mInv F (I_508, R, J) → (∀ k, k ≠ 0 → I_508 k = I k) → ((I 0 8).toInt < (I_508 0 8).toInt ∧ I_508 0 12 = I 0 12) → (2147483648 - (I_508 0 8).toInt).toNat < N → ∀ (H : Heap) (locs : List Loc), va_P D vwCl (zw 25 q (zMd q cA) I_508 R J) H → va_D (zA 25 q sz) (zw 25 q (zMd q cA) I_508 R J) → va_S (zA 25 q sz) s.heap H locs → ∀ ls : Array Slot, lv_has ls 2 [(0, .ref (q 0)), (1, .int (R 4 (I_424 0 8).toNatClampNeg &&& nI 255))] → W p l e ({ frames := 1, cells := 0, slots := 0, locals := 64 } : Room) s m ([.ref (q 0)] : List Value).toArray below meth c H locs 0 0 (MQ below (va_Qv (fun u => (mInv F u ∧ (∀ k, k ≠ 0 → u.1 k = I k) ∧ u.2 = (R, J)) ∧ mTr I u.1) (zB D vwCl 25 q (zMd q cA) sz) (zA 25 q sz)) ([.ref (q 0)] : List Value).toArray s 0 0 (zA 25 q sz)) (F0 m 83 ls []) := by
                      intro N
                      induction N with
                      | zero => intro I_508 hI_508 hf_508 hx_509 hN; exact absurd hN (Nat.not_lt_zero _)
                      | succ N ih_512 =>
                        intro I_508 hI_508 hf_508 hx_509 hN_511 H locs hP hD hS ls hl
                        refine lv_aload_n hx hb dX11_advance_83 rfl (lv_at hl 0 rfl) ?_
                        refine lv_aload_n hx hb dX11_advance_84 rfl (lv_at hl 0 rfl) ?_
                        refine z_get hx hb ht hown hK hP ziX11 rfl 0 (by decide) 8 (by decide) hw_5_195 rfl (v := .int (I_508 0 8)) rfl dX11_advance_85 ?_
                        have f_513 : zR 0 800 (I_508 0 8) := mI hI_508 0 8
                        refine z_callVi (k := 0) (As := [.int (I_508 0 8)]) (rest := []) hx hb hml hown ht (mk_X11_see l D q cA F _ _ _ hI_508 (I_508 0 8) f_513) hw_6_113 hmX11_see ⟨rfl, rfl⟩ (na := 1) rfl (by decide +kernel) (by decide) (by decide) rfl rfl hK hP hD hS hA hl.1 rfl (Nat.le_of_ble_eq_true rfl) ⟨Nat.zero_le _, Nat.zero_le _⟩ dX11_advance_88 (fun r_514 I_514 R_514 J_514 H locs hp_514 hP hD hS _ _ => ?_)
                        rcases hp_514 with ⟨h1_514, h2_514, rfl, hu_514⟩ | ⟨h1_514, rfl, hu_514⟩
                        · cases hu_514
                          have f_515 : zR 0 799 (I_508 0 8) := zR_ltx h1_514 f_513 None (by decide)
                          have f_516 : zR 1 800 (I_508 0 7) := zR_lty h1_514 f_513 None (by decide)
                          refine lv_i2l (v := (R 4 (I_508 0 8).toNatClampNeg &&& nI 255).toInt64) hx hb dX11_advance_91 rfl ?_
                          refine lv_ldc2 (v := (97 : Int64)) hx hb hown (ht _ hw_6_117) dX11_advance_92 ?_
                          refine lv_ldc2 (v := (122 : Int64)) hx hb hown (ht _ hw_6_118) dX11_advance_95 ?_
                          refine z_callSi (As := [.long ((R 4 (I_508 0 8).toNatClampNeg &&& nI 255).toInt64), .long ((97 : Int64)), .long ((122 : Int64))]) (rest := []) hx hb hml hown ht (mk_X11_in l D q cA F _ _ _ hI_508 ((R 4 (I_508 0 8).toNatClampNeg &&& nI 255).toInt64) ((97 : Int64)) ((122 : Int64))) hw_6_86 hmX11_in ⟨rfl, rfl⟩ (na := 3) rfl (by decide +kernel) (by decide) hK hP hD hS hA hl.1 rfl (Nat.le_of_ble_eq_true rfl) ⟨Nat.zero_le _, Nat.zero_le _⟩ dX11_advance_98 (fun r_517 I_517 R_517 J_517 H locs hp_517 hP hD hS _ _ => ?_)
                          rcases hp_517 with ⟨rfl, hu_517, h1_517, h2_517⟩ | ⟨rfl, hu_517, h1_517 | h2_517⟩
                          · cases hu_517
                            have f_518 : zL 97 255 ((R 4 (I_508 0 8).toNatClampNeg &&& nI 255).toInt64) := zL_ley h1_517 zkl_97 (zR_i2l h2_514) (by decide)
                            have f_519 : zR 97 255 (R 4 (I_508 0 8).toNatClampNeg &&& nI 255) := zL_back f_518
                            have f_520 : zL 97 122 ((R 4 (I_508 0 8).toNatClampNeg &&& nI 255).toInt64) := zL_lex h2_517 f_518 zkl_122 (by decide)
                            have f_521 : zR 97 122 (R 4 (I_508 0 8).toNatClampNeg &&& nI 255) := zL_back f_520
                            refine lv_if_eq (tgt := 117) hx hb dX11_advance_101 (by decide) (fun c_0 => absurd c_0 (zD_ne zk_1 zk_z (by decide))) (fun _ => ?_)
                            refine lv_aload_n hx hb dX11_advance_104 rfl (lv_at hl 0 rfl) ?_
                            refine lv_dup hx hb dX11_advance_105 rfl ?_
                            refine z_get hx hb ht hown hK hP ziX11 rfl 0 (by decide) 8 (by decide) hw_5_195 rfl (v := .int (I_508 0 8)) rfl dX11_advance_106 ?_
                            refine lv_iconst (v := nI 1) hx hb dX11_advance_109 (by decide +kernel) ?_
                            refine lv_iadd hx hb dX11_advance_110 ?_
                            refine z_addc 1 800 f_515 zk_1 (by decide) (fun v_522 hv_522 mv_522 => ?_)
                            refine z_putI hx hb ht hown hK hP hD hS ziX11 tyX11 tyX11_ok nmX11 rfl 0 (by decide) 8 (by decide) hw_5_195 rfl (v := v_522) rfl rfl rfl (Nat.le_of_ble_eq_true rfl) rfl dX11_advance_111 (fun H locs hP hD hS => ?_)
                            have hI_523 := mInv_I hI_508 0 8 (v_522) (zR_w hv_522 (by decide)) rfl
                            have hf_524 : ∀ k, k ≠ 0 → (zp I_508 0 8 (v_522)) k = I k := fun k h => (zp_nk h).trans (hf_508 k h)
                            refine lv_goto (tgt := 83) hx hb dX11_advance_114 (by decide) ?_
                            exact ih_512 _ hI_523 hf_524 ⟨(m_lt1 (Int.le_of_lt hx_509.1) mv_522), hx_509.2⟩ (z2_up mv_522 (by decide) hN_511) _ _ hP hD hS _ (lv_sub hl [0, 1] rfl)
                          · cases hu_517
                            have f_525 : zL 0 96 ((R 4 (I_508 0 8).toNatClampNeg &&& nI 255).toInt64) := zL_ltx h1_517 (zR_i2l h2_514) zkl_97 (by decide)
                            have f_526 : zR 0 96 (R 4 (I_508 0 8).toNatClampNeg &&& nI 255) := zL_back f_525
                            refine lv_if_eq (tgt := 117) hx hb dX11_advance_101 (by decide) (fun _ => ?_) (fun c_0 => absurd (zD_eq zk_0 zk_z) c_0)
                            refine lv_aload_n hx hb dX11_advance_117 rfl (lv_at hl 0 rfl) ?_
                            refine lv_iconst (v := nI 1) hx hb dX11_advance_118 (by decide +kernel) ?_
                            refine z_putI hx hb ht hown hK hP hD hS ziX11 tyX11 tyX11_ok nmX11 rfl 0 (by decide) 10 (by decide) hw_5_197 rfl (v := nI 1) rfl rfl rfl (Nat.le_of_ble_eq_true rfl) rfl dX11_advance_119 (fun H locs hP hD hS => ?_)
                            have hI_527 := mInv_I hI_508 0 10 (nI 1) (zR_any (nI 1)) rfl
                            have hf_528 : ∀ k, k ≠ 0 → (zp I_508 0 10 (nI 1)) k = I k := fun k h => (zp_nk h).trans (hf_508 k h)
                            refine lv_goto (tgt := 239) hx hb dX11_advance_122 (by decide) ?_
                            exact z_vret hx hb hr hlocks hP hD hS dX11_advance_239 ⟨⟨hI_527, hf_528, rfl⟩, mTr_adv (I1 := (zp I_508 0 10 (nI 1))) hx_509.2 hx_509.1⟩
                          · cases hu_517
                            have f_529 : zL 123 255 ((R 4 (I_508 0 8).toNatClampNeg &&& nI 255).toInt64) := zL_lty h2_517 zkl_122 (zR_i2l h2_514) (by decide)
                            have f_530 : zR 123 255 (R 4 (I_508 0 8).toNatClampNeg &&& nI 255) := zL_back f_529
                            refine lv_if_eq (tgt := 117) hx hb dX11_advance_101 (by decide) (fun _ => ?_) (fun c_0 => absurd (zD_eq zk_0 zk_z) c_0)
                            refine lv_aload_n hx hb dX11_advance_117 rfl (lv_at hl 0 rfl) ?_
                            refine lv_iconst (v := nI 1) hx hb dX11_advance_118 (by decide +kernel) ?_
                            refine z_putI hx hb ht hown hK hP hD hS ziX11 tyX11 tyX11_ok nmX11 rfl 0 (by decide) 10 (by decide) hw_5_197 rfl (v := nI 1) rfl rfl rfl (Nat.le_of_ble_eq_true rfl) rfl dX11_advance_119 (fun H locs hP hD hS => ?_)
                            have hI_531 := mInv_I hI_508 0 10 (nI 1) (zR_any (nI 1)) rfl
                            have hf_532 : ∀ k, k ≠ 0 → (zp I_508 0 10 (nI 1)) k = I k := fun k h => (zp_nk h).trans (hf_508 k h)
                            refine lv_goto (tgt := 239) hx hb dX11_advance_122 (by decide) ?_
                            exact z_vret hx hb hr hlocks hP hD hS dX11_advance_239 ⟨⟨hI_531, hf_532, rfl⟩, mTr_adv (I1 := (zp I_508 0 10 (nI 1))) hx_509.2 hx_509.1⟩
                        · cases hu_514
                          refine lv_i2l (v := (-1 : Int64)) hx hb dX11_advance_91 (by decide +kernel) ?_
                          refine lv_ldc2 (v := (97 : Int64)) hx hb hown (ht _ hw_6_117) dX11_advance_92 ?_
                          refine lv_ldc2 (v := (122 : Int64)) hx hb hown (ht _ hw_6_118) dX11_advance_95 ?_
                          refine z_callSi (As := [.long ((-1 : Int64)), .long ((97 : Int64)), .long ((122 : Int64))]) (rest := []) hx hb hml hown ht (mk_X11_in l D q cA F _ _ _ hI_508 ((-1 : Int64)) ((97 : Int64)) ((122 : Int64))) hw_6_86 hmX11_in ⟨rfl, rfl⟩ (na := 3) rfl (by decide +kernel) (by decide) hK hP hD hS hA hl.1 rfl (Nat.le_of_ble_eq_true rfl) ⟨Nat.zero_le _, Nat.zero_le _⟩ dX11_advance_98 (fun r_533 I_533 R_533 J_533 H locs hp_533 hP hD hS _ _ => ?_)
                          rcases hp_533 with ⟨rfl, hu_533, h1_533, h2_533⟩ | ⟨rfl, hu_533, h1_533 | h2_533⟩
                          · cases hu_533
                            have f_534 : zL 97 (-1) ((-1 : Int64)) := zL_ley h1_533 zkl_97 zkl_m1 (by decide)
                            exact zL_absurd f_534 (by decide)
                          · cases hu_533
                            refine lv_if_eq (tgt := 117) hx hb dX11_advance_101 (by decide) (fun _ => ?_) (fun c_0 => absurd (zD_eq zk_0 zk_z) c_0)
                            refine lv_aload_n hx hb dX11_advance_117 rfl (lv_at hl 0 rfl) ?_
                            refine lv_iconst (v := nI 1) hx hb dX11_advance_118 (by decide +kernel) ?_
                            refine z_putI hx hb ht hown hK hP hD hS ziX11 tyX11 tyX11_ok nmX11 rfl 0 (by decide) 10 (by decide) hw_5_197 rfl (v := nI 1) rfl rfl rfl (Nat.le_of_ble_eq_true rfl) rfl dX11_advance_119 (fun H locs hP hD hS => ?_)
                            have hI_535 := mInv_I hI_508 0 10 (nI 1) (zR_any (nI 1)) rfl
                            have hf_536 : ∀ k, k ≠ 0 → (zp I_508 0 10 (nI 1)) k = I k := fun k h => (zp_nk h).trans (hf_508 k h)
                            refine lv_goto (tgt := 239) hx hb dX11_advance_122 (by decide) ?_
                            exact z_vret hx hb hr hlocks hP hD hS dX11_advance_239 ⟨⟨hI_535, hf_536, rfl⟩, mTr_adv (I1 := (zp I_508 0 10 (nI 1))) hx_509.2 hx_509.1⟩
                          · cases hu_533
                            have f_537 : zL 123 (-1) ((-1 : Int64)) := zL_lty h2_533 zkl_122 zkl_m1 (by decide)
                            exact zL_absurd f_537 (by decide)
                    exact loop_510 _ _ hI_453 hf_454 ⟨(m_lt1 hx_425.1 mv_452), hx_425.2⟩ (Nat.lt_succ_self _) _ _ hP hD hS _ (lv_sub hl [1, 0] rfl)
                  · cases hu_451
                    have f_538 : zL 97 96 ((R 4 (I_424 0 8).toNatClampNeg &&& nI 255).toInt64) := zL_ltx h1_451 f_448 zkl_97 (by decide)
                    exact zL_absurd f_538 (by decide)
                  · cases hu_451
                    have f_539 : zL 123 122 ((R 4 (I_424 0 8).toNatClampNeg &&& nI 255).toInt64) := zL_lty h2_451 zkl_122 f_448 (by decide)
                    exact zL_absurd f_539 (by decide)
                · cases hu_450
                  exact absurd h1_444 (Int.not_lt.mpr h1_450)
              · cases hu_445
                have f_540 : zL 0 96 ((R 4 (I_424 0 8).toNatClampNeg &&& nI 255).toInt64) := zL_ltx h1_445 (zR_i2l h2_438) zkl_97 (by decide)
                have f_541 : zR 0 96 (R 4 (I_424 0 8).toNatClampNeg &&& nI 255) := zL_back f_540
                refine lv_if_eq (tgt := 125) hx hb dX11_advance_80 (by decide) (fun _ => ?_) (fun c_0 => absurd (zD_eq zk_0 zk_z) c_0)
                refine lv_iload_n hx hb dX11_advance_125 rfl (lv_at hl 0 rfl) ?_
                refine lv_i2l (v := (R 4 (I_424 0 8).toNatClampNeg &&& nI 255).toInt64) hx hb dX11_advance_126 rfl ?_
                refine lv_ldc2 (v := (48 : Int64)) hx hb hown (ht _ hw_6_119) dX11_advance_127 ?_
                refine lv_ldc2 (v := (57 : Int64)) hx hb hown (ht _ hw_6_120) dX11_advance_130 ?_
                refine z_callSi (As := [.long ((R 4 (I_424 0 8).toNatClampNeg &&& nI 255).toInt64), .long ((48 : Int64)), .long ((57 : Int64))]) (rest := []) hx hb hml hown ht (mk_X11_in l D q cA F _ _ _ hI_442 ((R 4 (I_424 0 8).toNatClampNeg &&& nI 255).toInt64) ((48 : Int64)) ((57 : Int64))) hw_6_86 hmX11_in ⟨rfl, rfl⟩ (na := 3) rfl (by decide +kernel) (by decide) hK hP hD hS hA hl.1 rfl (Nat.le_of_ble_eq_true rfl) ⟨Nat.zero_le _, Nat.zero_le _⟩ dX11_advance_133 (fun r_542 I_542 R_542 J_542 H locs hp_542 hP hD hS _ _ => ?_)
                rcases hp_542 with ⟨rfl, hu_542, h1_542, h2_542⟩ | ⟨rfl, hu_542, h1_542 | h2_542⟩
                · cases hu_542
                  have f_543 : zL 48 96 ((R 4 (I_424 0 8).toNatClampNeg &&& nI 255).toInt64) := zL_ley h1_542 zkl_48 f_540 (by decide)
                  have f_544 : zR 48 96 (R 4 (I_424 0 8).toNatClampNeg &&& nI 255) := zL_back f_543
                  have f_545 : zL 48 57 ((R 4 (I_424 0 8).toNatClampNeg &&& nI 255).toInt64) := zL_lex h2_542 f_543 zkl_57 (by decide)
                  have f_546 : zR 48 57 (R 4 (I_424 0 8).toNatClampNeg &&& nI 255) := zL_back f_545
                  refine lv_if_eq (tgt := 214) hx hb dX11_advance_136 (by decide) (fun c_0 => absurd c_0 (zD_ne zk_1 zk_z (by decide))) (fun _ => ?_)
                  refine lv_aload_n hx hb dX11_advance_139 rfl (lv_at hl 1 rfl) ?_
                  refine lv_iconst (v := nI 0) hx hb dX11_advance_140 (by decide +kernel) ?_
                  refine z_putI hx hb ht hown hK hP hD hS ziX11 tyX11 tyX11_ok nmX11 rfl 0 (by decide) 11 (by decide) hw_5_198 rfl (v := nI 0) rfl rfl rfl (Nat.le_of_ble_eq_true rfl) rfl dX11_advance_141 (fun H locs hP hD hS => ?_)
                  have hI_547 := mInv_I hI_442 0 11 (nI 0) (zR_any (nI 0)) rfl
                  have hf_548 : ∀ k, k ≠ 0 → (zp (zp I_424 0 9 (I_424 0 8)) 0 11 (nI 0)) k = I k := fun k h => (zp_nk h).trans (hf_443 k h)
                  refine lv_aload_n hx hb dX11_advance_144 rfl (lv_at hl 1 rfl) ?_
                  refine lv_aload_n hx hb dX11_advance_145 rfl (lv_at hl 1 rfl) ?_
                  refine z_get hx hb ht hown hK hP ziX11 rfl 0 (by decide) 8 (by decide) hw_5_195 rfl (v := .int (I_424 0 8)) rfl dX11_advance_146 ?_
                  refine z_callVi (k := 0) (As := [.int (I_424 0 8)]) (rest := []) hx hb hml hown ht (mk_X11_see l D q cA F _ _ _ hI_547 (I_424 0 8) (zR_w f_439 (by decide))) hw_6_113 hmX11_see ⟨rfl, rfl⟩ (na := 1) rfl (by decide +kernel) (by decide) (by decide) rfl rfl hK hP hD hS hA hl.1 rfl (Nat.le_of_ble_eq_true rfl) ⟨Nat.zero_le _, Nat.zero_le _⟩ dX11_advance_149 (fun r_549 I_549 R_549 J_549 H locs hp_549 hP hD hS _ _ => ?_)
                  rcases hp_549 with ⟨h1_549, h2_549, rfl, hu_549⟩ | ⟨h1_549, rfl, hu_549⟩
                  · cases hu_549
                    refine lv_i2l (v := (R 4 (I_424 0 8).toNatClampNeg &&& nI 255).toInt64) hx hb dX11_advance_152 rfl ?_
                    refine lv_ldc2 (v := (48 : Int64)) hx hb hown (ht _ hw_6_119) dX11_advance_153 ?_
                    refine lv_ldc2 (v := (57 : Int64)) hx hb hown (ht _ hw_6_120) dX11_advance_156 ?_
                    refine z_callSi (As := [.long ((R 4 (I_424 0 8).toNatClampNeg &&& nI 255).toInt64), .long ((48 : Int64)), .long ((57 : Int64))]) (rest := []) hx hb hml hown ht (mk_X11_in l D q cA F _ _ _ hI_547 ((R 4 (I_424 0 8).toNatClampNeg &&& nI 255).toInt64) ((48 : Int64)) ((57 : Int64))) hw_6_86 hmX11_in ⟨rfl, rfl⟩ (na := 3) rfl (by decide +kernel) (by decide) hK hP hD hS hA hl.1 rfl (Nat.le_of_ble_eq_true rfl) ⟨Nat.zero_le _, Nat.zero_le _⟩ dX11_advance_159 (fun r_550 I_550 R_550 J_550 H locs hp_550 hP hD hS _ _ => ?_)
                    rcases hp_550 with ⟨rfl, hu_550, h1_550, h2_550⟩ | ⟨rfl, hu_550, h1_550 | h2_550⟩
                    · cases hu_550
                      refine lv_if_eq (tgt := 206) hx hb dX11_advance_162 (by decide) (fun c_0 => absurd c_0 (zD_ne zk_1 zk_z (by decide))) (fun _ => ?_)
                      refine lv_aload_n hx hb dX11_advance_165 rfl (lv_at hl 1 rfl) ?_
                      refine lv_ldc (v := nI 99999) hx hb hown (ht _ hw_6_121) dX11_advance_166 ?_
                      refine lv_bipush (v := nI 10) hx hb dX11_advance_168 (by decide +kernel) ?_
                      refine lv_aload_n hx hb dX11_advance_170 rfl (lv_at hl 1 rfl) ?_
                      refine z_get hx hb ht hown hK hP ziX11 rfl 0 (by decide) 11 (by decide) hw_5_198 rfl (v := .int (nI 0)) rfl dX11_advance_171 ?_
                      refine lv_imul hx hb dX11_advance_174 ?_
                      refine z_eqi (y := nI 0) (by decide +kernel) ?_
                      refine lv_aload_n hx hb dX11_advance_175 rfl (lv_at hl 1 rfl) ?_
                      refine lv_aload_n hx hb dX11_advance_176 rfl (lv_at hl 1 rfl) ?_
                      refine z_get hx hb ht hown hK hP ziX11 rfl 0 (by decide) 8 (by decide) hw_5_195 rfl (v := .int (I_424 0 8)) rfl dX11_advance_177 ?_
                      refine z_callVi (k := 0) (As := [.int (I_424 0 8)]) (rest := [.int (nI 0), .int (nI 99999), .ref (q 0)]) hx hb hml hown ht (mk_X11_see l D q cA F _ _ _ hI_547 (I_424 0 8) (zR_w f_439 (by decide))) hw_6_113 hmX11_see ⟨rfl, rfl⟩ (na := 1) rfl (by decide +kernel) (by decide) (by decide) rfl rfl hK hP hD hS hA hl.1 rfl (Nat.le_of_ble_eq_true rfl) ⟨Nat.zero_le _, Nat.zero_le _⟩ dX11_advance_180 (fun r_551 I_551 R_551 J_551 H locs hp_551 hP hD hS _ _ => ?_)
                      have hu_551 : (I_551, R_551, J_551) = ((zp (zp I_424 0 9 (I_424 0 8)) 0 11 (nI 0)), R, J) := hp_551.elim (fun h => h.2.2.2) (fun h => h.2.2)
                      cases hu_551
                      refine z_any (fun v_552 => ?_)
                      refine lv_iadd hx hb dX11_advance_183 ?_
                      refine z_cadd (-2147483648) 2147483647 zk_0 (zR_any (v_552)) (by decide) (fun v_553 hv_553 mv_553 => ?_)
                      refine lv_bipush (v := nI 48) hx hb dX11_advance_184 (by decide +kernel) ?_
                      refine lv_isub hx hb dX11_advance_186 ?_
                      refine z_any (fun v_554 => ?_)
                      refine va_mmin hx hb (hml.trans hl.1.symm) hown (ht _ hw_6_122) (ht _ hw_3_217) (ht _ hw_1_19) (ht _ hw_3_218) (by decide) (Nat.le_of_ble_eq_true rfl) (Nat.zero_le _) (Nat.zero_le _) dX11_advance_187 ?_
                      refine z_any (fun v_555 => ?_)
                      refine z_putI hx hb ht hown hK hP hD hS ziX11 tyX11 tyX11_ok nmX11 rfl 0 (by decide) 11 (by decide) hw_5_198 rfl (v := v_555) rfl rfl rfl (Nat.le_of_ble_eq_true rfl) rfl dX11_advance_190 (fun H locs hP hD hS => ?_)
                      have hI_556 := mInv_I hI_547 0 11 (v_555) (zR_any (v_555)) rfl
                      have hf_557 : ∀ k, k ≠ 0 → (zp (zp (zp I_424 0 9 (I_424 0 8)) 0 11 (nI 0)) 0 11 (v_555)) k = I k := fun k h => (zp_nk h).trans (hf_548 k h)
                      refine lv_aload_n hx hb dX11_advance_193 rfl (lv_at hl 1 rfl) ?_
                      refine lv_dup hx hb dX11_advance_194 rfl ?_
                      refine z_get hx hb ht hown hK hP ziX11 rfl 0 (by decide) 8 (by decide) hw_5_195 rfl (v := .int (I_424 0 8)) rfl dX11_advance_195 ?_
                      refine lv_iconst (v := nI 1) hx hb dX11_advance_198 (by decide +kernel) ?_
                      refine lv_iadd hx hb dX11_advance_199 ?_
                      refine z_addc 1 800 f_439 zk_1 (by decide) (fun v_558 hv_558 mv_558 => ?_)
                      refine z_putI hx hb ht hown hK hP hD hS ziX11 tyX11 tyX11_ok nmX11 rfl 0 (by decide) 8 (by decide) hw_5_195 rfl (v := v_558) rfl rfl rfl (Nat.le_of_ble_eq_true rfl) rfl dX11_advance_200 (fun H locs hP hD hS => ?_)
                      have hI_559 := mInv_I hI_556 0 8 (v_558) (zR_w hv_558 (by decide)) rfl
                      have hf_560 : ∀ k, k ≠ 0 → (zp (zp (zp (zp I_424 0 9 (I_424 0 8)) 0 11 (nI 0)) 0 11 (v_555)) 0 8 (v_558)) k = I k := fun k h => (zp_nk h).trans (hf_557 k h)
                      refine lv_goto (tgt := 144) hx hb dX11_advance_203 (by decide) ?_
                      have loop_632 : ∀ N : Nat, ∀ I_630 : Nat → Nat → Int32, mInv F (I_630, R, J) → (∀ k, k ≠ 0 → I_630 k = I k) → ((I 0 8).toInt < (I_630 0 8).toInt ∧ I_630 0 12 = I 0 12) → (2147483648 - (I_630 0 8).toInt).toNat < N → ∀ (H : Heap) (locs : List Loc), va_P D vwCl (zw 25 q (zMd q cA) I_630 R J) H → va_D (zA 25 q sz) (zw 25 q (zMd q cA) I_630 R J) → va_S (zA 25 q sz) s.heap H locs → ∀ ls : Array Slot, lv_has ls 2 [(0, .ref (q 0)), (1, .int (R 4 (I_424 0 8).toNatClampNeg &&& nI 255))] → W p l e ({ frames := 1, cells := 0, slots := 0, locals := 64 } : Room) s m ([.ref (q 0)] : List Value).toArray below meth c H locs 0 0 (MQ below (va_Qv (fun u => (mInv F u ∧ (∀ k, k ≠ 0 → u.1 k = I k) ∧ u.2 = (R, J)) ∧ mTr I u.1) (zB D vwCl 25 q (zMd q cA) sz) (zA 25 q sz)) ([.ref (q 0)] : List Value).toArray s 0 0 (zA 25 q sz)) (F0 m 144 ls []) := by
                        intro N
                        induction N with
                        | zero => intro I_630 hI_630 hf_630 hx_631 hN; exact absurd hN (Nat.not_lt_zero _)
                        | succ N ih_634 =>
                          intro I_630 hI_630 hf_630 hx_631 hN_633 H locs hP hD hS ls hl
                          refine lv_aload_n hx hb dX11_advance_144 rfl (lv_at hl 0 rfl) ?_
                          refine lv_aload_n hx hb dX11_advance_145 rfl (lv_at hl 0 rfl) ?_
                          refine z_get hx hb ht hown hK hP ziX11 rfl 0 (by decide) 8 (by decide) hw_5_195 rfl (v := .int (I_630 0 8)) rfl dX11_advance_146 ?_
                          have f_635 : zR 0 800 (I_630 0 8) := mI hI_630 0 8
                          refine z_callVi (k := 0) (As := [.int (I_630 0 8)]) (rest := []) hx hb hml hown ht (mk_X11_see l D q cA F _ _ _ hI_630 (I_630 0 8) f_635) hw_6_113 hmX11_see ⟨rfl, rfl⟩ (na := 1) rfl (by decide +kernel) (by decide) (by decide) rfl rfl hK hP hD hS hA hl.1 rfl (Nat.le_of_ble_eq_true rfl) ⟨Nat.zero_le _, Nat.zero_le _⟩ dX11_advance_149 (fun r_636 I_636 R_636 J_636 H locs hp_636 hP hD hS _ _ => ?_)
                          rcases hp_636 with ⟨h1_636, h2_636, rfl, hu_636⟩ | ⟨h1_636, rfl, hu_636⟩
                          · cases hu_636
                            have f_637 : zR 0 799 (I_630 0 8) := zR_ltx h1_636 f_635 None (by decide)
                            have f_638 : zR 1 800 (I_630 0 7) := zR_lty h1_636 f_635 None (by decide)
                            refine lv_i2l (v := (R 4 (I_630 0 8).toNatClampNeg &&& nI 255).toInt64) hx hb dX11_advance_152 rfl ?_
                            refine lv_ldc2 (v := (48 : Int64)) hx hb hown (ht _ hw_6_119) dX11_advance_153 ?_
                            refine lv_ldc2 (v := (57 : Int64)) hx hb hown (ht _ hw_6_120) dX11_advance_156 ?_
                            refine z_callSi (As := [.long ((R 4 (I_630 0 8).toNatClampNeg &&& nI 255).toInt64), .long ((48 : Int64)), .long ((57 : Int64))]) (rest := []) hx hb hml hown ht (mk_X11_in l D q cA F _ _ _ hI_630 ((R 4 (I_630 0 8).toNatClampNeg &&& nI 255).toInt64) ((48 : Int64)) ((57 : Int64))) hw_6_86 hmX11_in ⟨rfl, rfl⟩ (na := 3) rfl (by decide +kernel) (by decide) hK hP hD hS hA hl.1 rfl (Nat.le_of_ble_eq_true rfl) ⟨Nat.zero_le _, Nat.zero_le _⟩ dX11_advance_159 (fun r_639 I_639 R_639 J_639 H locs hp_639 hP hD hS _ _ => ?_)
                            rcases hp_639 with ⟨rfl, hu_639, h1_639, h2_639⟩ | ⟨rfl, hu_639, h1_639 | h2_639⟩
                            · cases hu_639
                              have f_640 : zL 48 255 ((R 4 (I_630 0 8).toNatClampNeg &&& nI 255).toInt64) := zL_ley h1_639 zkl_48 (zR_i2l h2_636) (by decide)
                              have f_641 : zR 48 255 (R 4 (I_630 0 8).toNatClampNeg &&& nI 255) := zL_back f_640
                              have f_642 : zL 48 57 ((R 4 (I_630 0 8).toNatClampNeg &&& nI 255).toInt64) := zL_lex h2_639 f_640 zkl_57 (by decide)
                              have f_643 : zR 48 57 (R 4 (I_630 0 8).toNatClampNeg &&& nI 255) := zL_back f_642
                              refine lv_if_eq (tgt := 206) hx hb dX11_advance_162 (by decide) (fun c_0 => absurd c_0 (zD_ne zk_1 zk_z (by decide))) (fun _ => ?_)
                              refine lv_aload_n hx hb dX11_advance_165 rfl (lv_at hl 0 rfl) ?_
                              refine lv_ldc (v := nI 99999) hx hb hown (ht _ hw_6_121) dX11_advance_166 ?_
                              refine lv_bipush (v := nI 10) hx hb dX11_advance_168 (by decide +kernel) ?_
                              refine lv_aload_n hx hb dX11_advance_170 rfl (lv_at hl 0 rfl) ?_
                              refine z_get hx hb ht hown hK hP ziX11 rfl 0 (by decide) 11 (by decide) hw_5_198 rfl (v := .int (I_630 0 11)) rfl dX11_advance_171 ?_
                              refine lv_imul hx hb dX11_advance_174 ?_
                              refine z_any (fun v_644 => ?_)
                              refine lv_aload_n hx hb dX11_advance_175 rfl (lv_at hl 0 rfl) ?_
                              refine lv_aload_n hx hb dX11_advance_176 rfl (lv_at hl 0 rfl) ?_
                              refine z_get hx hb ht hown hK hP ziX11 rfl 0 (by decide) 8 (by decide) hw_5_195 rfl (v := .int (I_630 0 8)) rfl dX11_advance_177 ?_
                              refine z_callVi (k := 0) (As := [.int (I_630 0 8)]) (rest := [.int (v_644), .int (nI 99999), .ref (q 0)]) hx hb hml hown ht (mk_X11_see l D q cA F _ _ _ hI_630 (I_630 0 8) (zR_w f_637 (by decide))) hw_6_113 hmX11_see ⟨rfl, rfl⟩ (na := 1) rfl (by decide +kernel) (by decide) (by decide) rfl rfl hK hP hD hS hA hl.1 rfl (Nat.le_of_ble_eq_true rfl) ⟨Nat.zero_le _, Nat.zero_le _⟩ dX11_advance_180 (fun r_645 I_645 R_645 J_645 H locs hp_645 hP hD hS _ _ => ?_)
                              have hu_645 : (I_645, R_645, J_645) = (I_630, R, J) := hp_645.elim (fun h => h.2.2.2) (fun h => h.2.2)
                              cases hu_645
                              refine z_any (fun v_646 => ?_)
                              refine lv_iadd hx hb dX11_advance_183 ?_
                              refine z_any (fun v_647 => ?_)
                              refine lv_bipush (v := nI 48) hx hb dX11_advance_184 (by decide +kernel) ?_
                              refine lv_isub hx hb dX11_advance_186 ?_
                              refine z_any (fun v_648 => ?_)
                              refine va_mmin hx hb (hml.trans hl.1.symm) hown (ht _ hw_6_122) (ht _ hw_3_217) (ht _ hw_1_19) (ht _ hw_3_218) (by decide) (Nat.le_of_ble_eq_true rfl) (Nat.zero_le _) (Nat.zero_le _) dX11_advance_187 ?_
                              refine z_any (fun v_649 => ?_)
                              refine z_putI hx hb ht hown hK hP hD hS ziX11 tyX11 tyX11_ok nmX11 rfl 0 (by decide) 11 (by decide) hw_5_198 rfl (v := v_649) rfl rfl rfl (Nat.le_of_ble_eq_true rfl) rfl dX11_advance_190 (fun H locs hP hD hS => ?_)
                              have hI_650 := mInv_I hI_630 0 11 (v_649) (zR_any (v_649)) rfl
                              have hf_651 : ∀ k, k ≠ 0 → (zp I_630 0 11 (v_649)) k = I k := fun k h => (zp_nk h).trans (hf_630 k h)
                              refine lv_aload_n hx hb dX11_advance_193 rfl (lv_at hl 0 rfl) ?_
                              refine lv_dup hx hb dX11_advance_194 rfl ?_
                              refine z_get hx hb ht hown hK hP ziX11 rfl 0 (by decide) 8 (by decide) hw_5_195 rfl (v := .int (I_630 0 8)) rfl dX11_advance_195 ?_
                              refine lv_iconst (v := nI 1) hx hb dX11_advance_198 (by decide +kernel) ?_
                              refine lv_iadd hx hb dX11_advance_199 ?_
                              refine z_addc 1 800 f_637 zk_1 (by decide) (fun v_652 hv_652 mv_652 => ?_)
                              refine z_putI hx hb ht hown hK hP hD hS ziX11 tyX11 tyX11_ok nmX11 rfl 0 (by decide) 8 (by decide) hw_5_195 rfl (v := v_652) rfl rfl rfl (Nat.le_of_ble_eq_true rfl) rfl dX11_advance_200 (fun H locs hP hD hS => ?_)
                              have hI_653 := mInv_I hI_650 0 8 (v_652) (zR_w hv_652 (by decide)) rfl
                              have hf_654 : ∀ k, k ≠ 0 → (zp (zp I_630 0 11 (v_649)) 0 8 (v_652)) k = I k := fun k h => (zp_nk h).trans (hf_651 k h)
                              refine lv_goto (tgt := 144) hx hb dX11_advance_203 (by decide) ?_
                              exact ih_634 _ hI_653 hf_654 ⟨(m_lt1 (Int.le_of_lt hx_631.1) mv_652), hx_631.2⟩ (z2_up mv_652 (by decide) hN_633) _ _ hP hD hS _ (lv_sub hl [0, 1] rfl)
                            · cases hu_639
                              have f_655 : zL 0 47 ((R 4 (I_630 0 8).toNatClampNeg &&& nI 255).toInt64) := zL_ltx h1_639 (zR_i2l h2_636) zkl_48 (by decide)
                              have f_656 : zR 0 47 (R 4 (I_630 0 8).toNatClampNeg &&& nI 255) := zL_back f_655
                              refine lv_if_eq (tgt := 206) hx hb dX11_advance_162 (by decide) (fun _ => ?_) (fun c_0 => absurd (zD_eq zk_0 zk_z) c_0)
                              refine lv_aload_n hx hb dX11_advance_206 rfl (lv_at hl 0 rfl) ?_
                              refine lv_iconst (v := nI 2) hx hb dX11_advance_207 (by decide +kernel) ?_
                              refine z_putI hx hb ht hown hK hP hD hS ziX11 tyX11 tyX11_ok nmX11 rfl 0 (by decide) 10 (by decide) hw_5_197 rfl (v := nI 2) rfl rfl rfl (Nat.le_of_ble_eq_true rfl) rfl dX11_advance_208 (fun H locs hP hD hS => ?_)
                              have hI_657 := mInv_I hI_630 0 10 (nI 2) (zR_any (nI 2)) rfl
                              have hf_658 : ∀ k, k ≠ 0 → (zp I_630 0 10 (nI 2)) k = I k := fun k h => (zp_nk h).trans (hf_630 k h)
                              refine lv_goto (tgt := 239) hx hb dX11_advance_211 (by decide) ?_
                              exact z_vret hx hb hr hlocks hP hD hS dX11_advance_239 ⟨⟨hI_657, hf_658, rfl⟩, mTr_adv (I1 := (zp I_630 0 10 (nI 2))) hx_631.2 hx_631.1⟩
                            · cases hu_639
                              have f_659 : zL 58 255 ((R 4 (I_630 0 8).toNatClampNeg &&& nI 255).toInt64) := zL_lty h2_639 zkl_57 (zR_i2l h2_636) (by decide)
                              have f_660 : zR 58 255 (R 4 (I_630 0 8).toNatClampNeg &&& nI 255) := zL_back f_659
                              refine lv_if_eq (tgt := 206) hx hb dX11_advance_162 (by decide) (fun _ => ?_) (fun c_0 => absurd (zD_eq zk_0 zk_z) c_0)
                              refine lv_aload_n hx hb dX11_advance_206 rfl (lv_at hl 0 rfl) ?_
                              refine lv_iconst (v := nI 2) hx hb dX11_advance_207 (by decide +kernel) ?_
                              refine z_putI hx hb ht hown hK hP hD hS ziX11 tyX11 tyX11_ok nmX11 rfl 0 (by decide) 10 (by decide) hw_5_197 rfl (v := nI 2) rfl rfl rfl (Nat.le_of_ble_eq_true rfl) rfl dX11_advance_208 (fun H locs hP hD hS => ?_)
                              have hI_661 := mInv_I hI_630 0 10 (nI 2) (zR_any (nI 2)) rfl
                              have hf_662 : ∀ k, k ≠ 0 → (zp I_630 0 10 (nI 2)) k = I k := fun k h => (zp_nk h).trans (hf_630 k h)
                              refine lv_goto (tgt := 239) hx hb dX11_advance_211 (by decide) ?_
                              exact z_vret hx hb hr hlocks hP hD hS dX11_advance_239 ⟨⟨hI_661, hf_662, rfl⟩, mTr_adv (I1 := (zp I_630 0 10 (nI 2))) hx_631.2 hx_631.1⟩
                          · cases hu_636
                            refine lv_i2l (v := (-1 : Int64)) hx hb dX11_advance_152 (by decide +kernel) ?_
                            refine lv_ldc2 (v := (48 : Int64)) hx hb hown (ht _ hw_6_119) dX11_advance_153 ?_
                            refine lv_ldc2 (v := (57 : Int64)) hx hb hown (ht _ hw_6_120) dX11_advance_156 ?_
                            refine z_callSi (As := [.long ((-1 : Int64)), .long ((48 : Int64)), .long ((57 : Int64))]) (rest := []) hx hb hml hown ht (mk_X11_in l D q cA F _ _ _ hI_630 ((-1 : Int64)) ((48 : Int64)) ((57 : Int64))) hw_6_86 hmX11_in ⟨rfl, rfl⟩ (na := 3) rfl (by decide +kernel) (by decide) hK hP hD hS hA hl.1 rfl (Nat.le_of_ble_eq_true rfl) ⟨Nat.zero_le _, Nat.zero_le _⟩ dX11_advance_159 (fun r_663 I_663 R_663 J_663 H locs hp_663 hP hD hS _ _ => ?_)
                            rcases hp_663 with ⟨rfl, hu_663, h1_663, h2_663⟩ | ⟨rfl, hu_663, h1_663 | h2_663⟩
                            · cases hu_663
                              have f_664 : zL 48 (-1) ((-1 : Int64)) := zL_ley h1_663 zkl_48 zkl_m1 (by decide)
                              exact zL_absurd f_664 (by decide)
                            · cases hu_663
                              refine lv_if_eq (tgt := 206) hx hb dX11_advance_162 (by decide) (fun _ => ?_) (fun c_0 => absurd (zD_eq zk_0 zk_z) c_0)
                              refine lv_aload_n hx hb dX11_advance_206 rfl (lv_at hl 0 rfl) ?_
                              refine lv_iconst (v := nI 2) hx hb dX11_advance_207 (by decide +kernel) ?_
                              refine z_putI hx hb ht hown hK hP hD hS ziX11 tyX11 tyX11_ok nmX11 rfl 0 (by decide) 10 (by decide) hw_5_197 rfl (v := nI 2) rfl rfl rfl (Nat.le_of_ble_eq_true rfl) rfl dX11_advance_208 (fun H locs hP hD hS => ?_)
                              have hI_665 := mInv_I hI_630 0 10 (nI 2) (zR_any (nI 2)) rfl
                              have hf_666 : ∀ k, k ≠ 0 → (zp I_630 0 10 (nI 2)) k = I k := fun k h => (zp_nk h).trans (hf_630 k h)
                              refine lv_goto (tgt := 239) hx hb dX11_advance_211 (by decide) ?_
                              exact z_vret hx hb hr hlocks hP hD hS dX11_advance_239 ⟨⟨hI_665, hf_666, rfl⟩, mTr_adv (I1 := (zp I_630 0 10 (nI 2))) hx_631.2 hx_631.1⟩
                            · cases hu_663
                              have f_667 : zL 58 (-1) ((-1 : Int64)) := zL_lty h2_663 zkl_57 zkl_m1 (by decide)
                              exact zL_absurd f_667 (by decide)
                      exact loop_632 _ _ hI_559 hf_560 ⟨(m_lt1 hx_425.1 mv_558), hx_425.2⟩ (Nat.lt_succ_self _) _ _ hP hD hS _ (lv_sub hl [1, 0] rfl)
                    · cases hu_550
                      have f_668 : zL 48 47 ((R 4 (I_424 0 8).toNatClampNeg &&& nI 255).toInt64) := zL_ltx h1_550 f_545 zkl_48 (by decide)
                      exact zL_absurd f_668 (by decide)
                    · cases hu_550
                      have f_669 : zL 58 57 ((R 4 (I_424 0 8).toNatClampNeg &&& nI 255).toInt64) := zL_lty h2_550 zkl_57 f_545 (by decide)
                      exact zL_absurd f_669 (by decide)
                  · cases hu_549
                    exact absurd h1_444 (Int.not_lt.mpr h1_549)
                · cases hu_542
                  have f_670 : zL 0 47 ((R 4 (I_424 0 8).toNatClampNeg &&& nI 255).toInt64) := zL_ltx h1_542 f_540 zkl_48 (by decide)
                  have f_671 : zR 0 47 (R 4 (I_424 0 8).toNatClampNeg &&& nI 255) := zL_back f_670
                  refine lv_if_eq (tgt := 214) hx hb dX11_advance_136 (by decide) (fun _ => ?_) (fun c_0 => absurd (zD_eq zk_0 zk_z) c_0)
                  refine lv_aload_n hx hb dX11_advance_214 rfl (lv_at hl 1 rfl) ?_
                  refine lv_iload_n hx hb dX11_advance_215 rfl (lv_at hl 0 rfl) ?_
                  refine lv_bipush (v := nI 59) hx hb dX11_advance_216 (by decide +kernel) ?_
                  refine lv_icmp_ne (tgt := 225) hx hb dX11_advance_218 (by decide) (fun _ => ?_) (fun c_0 => absurd c_0 (zD_ne f_671 zk_59 (by decide)))
                  refine lv_iconst (v := nI 4) hx hb dX11_advance_225 (by decide +kernel) ?_
                  refine z_putI hx hb ht hown hK hP hD hS ziX11 tyX11 tyX11_ok nmX11 rfl 0 (by decide) 10 (by decide) hw_5_197 rfl (v := nI 4) rfl rfl rfl (Nat.le_of_ble_eq_true rfl) rfl dX11_advance_226 (fun H locs hP hD hS => ?_)
                  have hI_672 := mInv_I hI_442 0 10 (nI 4) (zR_any (nI 4)) rfl
                  have hf_673 : ∀ k, k ≠ 0 → (zp (zp I_424 0 9 (I_424 0 8)) 0 10 (nI 4)) k = I k := fun k h => (zp_nk h).trans (hf_443 k h)
                  refine lv_aload_n hx hb dX11_advance_229 rfl (lv_at hl 1 rfl) ?_
                  refine lv_dup hx hb dX11_advance_230 rfl ?_
                  refine z_get hx hb ht hown hK hP ziX11 rfl 0 (by decide) 8 (by decide) hw_5_195 rfl (v := .int (I_424 0 8)) rfl dX11_advance_231 ?_
                  refine lv_iconst (v := nI 1) hx hb dX11_advance_234 (by decide +kernel) ?_
                  refine lv_iadd hx hb dX11_advance_235 ?_
                  refine z_addc 1 800 f_439 zk_1 (by decide) (fun v_674 hv_674 mv_674 => ?_)
                  refine z_putI hx hb ht hown hK hP hD hS ziX11 tyX11 tyX11_ok nmX11 rfl 0 (by decide) 8 (by decide) hw_5_195 rfl (v := v_674) rfl rfl rfl (Nat.le_of_ble_eq_true rfl) rfl dX11_advance_236 (fun H locs hP hD hS => ?_)
                  have hI_675 := mInv_I hI_672 0 8 (v_674) (zR_w hv_674 (by decide)) rfl
                  have hf_676 : ∀ k, k ≠ 0 → (zp (zp (zp I_424 0 9 (I_424 0 8)) 0 10 (nI 4)) 0 8 (v_674)) k = I k := fun k h => (zp_nk h).trans (hf_673 k h)
                  exact z_vret hx hb hr hlocks hP hD hS dX11_advance_239 ⟨⟨hI_675, hf_676, rfl⟩, mTr_adv (I1 := (zp (zp (zp I_424 0 9 (I_424 0 8)) 0 10 (nI 4)) 0 8 (v_674))) hx_425.2 (m_lt1 hx_425.1 mv_674)⟩
                · cases hu_542
                  have f_677 : zL 58 96 ((R 4 (I_424 0 8).toNatClampNeg &&& nI 255).toInt64) := zL_lty h2_542 zkl_57 f_540 (by decide)
                  have f_678 : zR 58 96 (R 4 (I_424 0 8).toNatClampNeg &&& nI 255) := zL_back f_677
                  refine lv_if_eq (tgt := 214) hx hb dX11_advance_136 (by decide) (fun _ => ?_) (fun c_0 => absurd (zD_eq zk_0 zk_z) c_0)
                  refine lv_aload_n hx hb dX11_advance_214 rfl (lv_at hl 1 rfl) ?_
                  refine lv_iload_n hx hb dX11_advance_215 rfl (lv_at hl 0 rfl) ?_
                  refine lv_bipush (v := nI 59) hx hb dX11_advance_216 (by decide +kernel) ?_
                  have t_682 : ∀ x_681 : Int32, zR 3 4 x_681 → ∀ (H : Heap) (locs : List Loc), va_P D vwCl (zw 25 q (zMd q cA) (zp I_424 0 9 (I_424 0 8)) R J) H → va_D (zA 25 q sz) (zw 25 q (zMd q cA) (zp I_424 0 9 (I_424 0 8)) R J) → va_S (zA 25 q sz) s.heap H locs → ∀ ls : Array Slot, lv_has ls 2 [(0, .ref (q 0)), (1, .int (R 4 (I_424 0 8).toNatClampNeg &&& nI 255))] → W p l e ({ frames := 1, cells := 0, slots := 0, locals := 64 } : Room) s m ([.ref (q 0)] : List Value).toArray below meth c H locs 0 0 (MQ below (va_Qv (fun u => (mInv F u ∧ (∀ k, k ≠ 0 → u.1 k = I k) ∧ u.2 = (R, J)) ∧ mTr I u.1) (zB D vwCl 25 q (zMd q cA) sz) (zA 25 q sz)) ([.ref (q 0)] : List Value).toArray s 0 0 (zA 25 q sz)) (F0 m 226 ls [.int (x_681), .ref (q 0)]) := by
                    intro x_681 hx_681 H locs hP hD hS ls hl
                    refine z_putI hx hb ht hown hK hP hD hS ziX11 tyX11 tyX11_ok nmX11 rfl 0 (by decide) 10 (by decide) hw_5_197 rfl (v := x_681) rfl rfl rfl (Nat.le_of_ble_eq_true rfl) rfl dX11_advance_226 (fun H locs hP hD hS => ?_)
                    have hI_683 := mInv_I hI_442 0 10 (x_681) (zR_any (x_681)) rfl
                    have hf_684 : ∀ k, k ≠ 0 → (zp (zp I_424 0 9 (I_424 0 8)) 0 10 (x_681)) k = I k := fun k h => (zp_nk h).trans (hf_443 k h)
                    refine lv_aload_n hx hb dX11_advance_229 rfl (lv_at hl 0 rfl) ?_
                    refine lv_dup hx hb dX11_advance_230 rfl ?_
                    refine z_get hx hb ht hown hK hP ziX11 rfl 0 (by decide) 8 (by decide) hw_5_195 rfl (v := .int (I_424 0 8)) rfl dX11_advance_231 ?_
                    refine lv_iconst (v := nI 1) hx hb dX11_advance_234 (by decide +kernel) ?_
                    refine lv_iadd hx hb dX11_advance_235 ?_
                    refine z_addc 1 800 f_439 zk_1 (by decide) (fun v_685 hv_685 mv_685 => ?_)
                    refine z_putI hx hb ht hown hK hP hD hS ziX11 tyX11 tyX11_ok nmX11 rfl 0 (by decide) 8 (by decide) hw_5_195 rfl (v := v_685) rfl rfl rfl (Nat.le_of_ble_eq_true rfl) rfl dX11_advance_236 (fun H locs hP hD hS => ?_)
                    have hI_686 := mInv_I hI_683 0 8 (v_685) (zR_w hv_685 (by decide)) rfl
                    have hf_687 : ∀ k, k ≠ 0 → (zp (zp (zp I_424 0 9 (I_424 0 8)) 0 10 (x_681)) 0 8 (v_685)) k = I k := fun k h => (zp_nk h).trans (hf_684 k h)
                    exact z_vret hx hb hr hlocks hP hD hS dX11_advance_239 ⟨⟨hI_686, hf_687, rfl⟩, mTr_adv (I1 := (zp (zp (zp I_424 0 9 (I_424 0 8)) 0 10 (x_681)) 0 8 (v_685))) hx_425.2 (m_lt1 hx_425.1 mv_685)⟩
                  refine lv_icmp_ne (tgt := 225) hx hb dX11_advance_218 (by decide) (fun c_679 => ?_) (fun c_679 => ?_)
                  · have t_c_679 := z_eqF c_679
                    refine lv_iconst (v := nI 4) hx hb dX11_advance_225 (by decide +kernel) ?_
                    exact t_682 (nI 4) (zR_w zk_4 (by decide)) _ _ hP hD hS _ (lv_sub hl [1, 0] rfl)
                  · have t_c_679 := z_eqT c_679
                    have f_688 : zR 59 59 (R 4 (I_424 0 8).toNatClampNeg &&& nI 255) := zR_eqx t_c_679 zk_59
                    refine lv_iconst (v := nI 3) hx hb dX11_advance_221 (by decide +kernel) ?_
                    refine lv_goto (tgt := 226) hx hb dX11_advance_222 (by decide) ?_
                    exact t_682 (nI 3) (zR_w zk_3 (by decide)) _ _ hP hD hS _ (lv_sub hl [1, 0] rfl)
              · cases hu_445
                have f_689 : zL 123 255 ((R 4 (I_424 0 8).toNatClampNeg &&& nI 255).toInt64) := zL_lty h2_445 zkl_122 (zR_i2l h2_438) (by decide)
                have f_690 : zR 123 255 (R 4 (I_424 0 8).toNatClampNeg &&& nI 255) := zL_back f_689
                refine lv_if_eq (tgt := 125) hx hb dX11_advance_80 (by decide) (fun _ => ?_) (fun c_0 => absurd (zD_eq zk_0 zk_z) c_0)
                refine lv_iload_n hx hb dX11_advance_125 rfl (lv_at hl 0 rfl) ?_
                refine lv_i2l (v := (R 4 (I_424 0 8).toNatClampNeg &&& nI 255).toInt64) hx hb dX11_advance_126 rfl ?_
                refine lv_ldc2 (v := (48 : Int64)) hx hb hown (ht _ hw_6_119) dX11_advance_127 ?_
                refine lv_ldc2 (v := (57 : Int64)) hx hb hown (ht _ hw_6_120) dX11_advance_130 ?_
                refine z_callSi (As := [.long ((R 4 (I_424 0 8).toNatClampNeg &&& nI 255).toInt64), .long ((48 : Int64)), .long ((57 : Int64))]) (rest := []) hx hb hml hown ht (mk_X11_in l D q cA F _ _ _ hI_442 ((R 4 (I_424 0 8).toNatClampNeg &&& nI 255).toInt64) ((48 : Int64)) ((57 : Int64))) hw_6_86 hmX11_in ⟨rfl, rfl⟩ (na := 3) rfl (by decide +kernel) (by decide) hK hP hD hS hA hl.1 rfl (Nat.le_of_ble_eq_true rfl) ⟨Nat.zero_le _, Nat.zero_le _⟩ dX11_advance_133 (fun r_691 I_691 R_691 J_691 H locs hp_691 hP hD hS _ _ => ?_)
                rcases hp_691 with ⟨rfl, hu_691, h1_691, h2_691⟩ | ⟨rfl, hu_691, h1_691 | h2_691⟩
                · cases hu_691
                  have f_692 : zL 123 57 ((R 4 (I_424 0 8).toNatClampNeg &&& nI 255).toInt64) := zL_lex h2_691 f_689 zkl_57 (by decide)
                  exact zL_absurd f_692 (by decide)
                · cases hu_691
                  have f_693 : zL 123 47 ((R 4 (I_424 0 8).toNatClampNeg &&& nI 255).toInt64) := zL_ltx h1_691 f_689 zkl_48 (by decide)
                  exact zL_absurd f_693 (by decide)
                · cases hu_691
                  refine lv_if_eq (tgt := 214) hx hb dX11_advance_136 (by decide) (fun _ => ?_) (fun c_0 => absurd (zD_eq zk_0 zk_z) c_0)
                  refine lv_aload_n hx hb dX11_advance_214 rfl (lv_at hl 1 rfl) ?_
                  refine lv_iload_n hx hb dX11_advance_215 rfl (lv_at hl 0 rfl) ?_
                  refine lv_bipush (v := nI 59) hx hb dX11_advance_216 (by decide +kernel) ?_
                  refine lv_icmp_ne (tgt := 225) hx hb dX11_advance_218 (by decide) (fun _ => ?_) (fun c_0 => absurd c_0 (zD_ne f_690 zk_59 (by decide)))
                  refine lv_iconst (v := nI 4) hx hb dX11_advance_225 (by decide +kernel) ?_
                  refine z_putI hx hb ht hown hK hP hD hS ziX11 tyX11 tyX11_ok nmX11 rfl 0 (by decide) 10 (by decide) hw_5_197 rfl (v := nI 4) rfl rfl rfl (Nat.le_of_ble_eq_true rfl) rfl dX11_advance_226 (fun H locs hP hD hS => ?_)
                  have hI_694 := mInv_I hI_442 0 10 (nI 4) (zR_any (nI 4)) rfl
                  have hf_695 : ∀ k, k ≠ 0 → (zp (zp I_424 0 9 (I_424 0 8)) 0 10 (nI 4)) k = I k := fun k h => (zp_nk h).trans (hf_443 k h)
                  refine lv_aload_n hx hb dX11_advance_229 rfl (lv_at hl 1 rfl) ?_
                  refine lv_dup hx hb dX11_advance_230 rfl ?_
                  refine z_get hx hb ht hown hK hP ziX11 rfl 0 (by decide) 8 (by decide) hw_5_195 rfl (v := .int (I_424 0 8)) rfl dX11_advance_231 ?_
                  refine lv_iconst (v := nI 1) hx hb dX11_advance_234 (by decide +kernel) ?_
                  refine lv_iadd hx hb dX11_advance_235 ?_
                  refine z_addc 1 800 f_439 zk_1 (by decide) (fun v_696 hv_696 mv_696 => ?_)
                  refine z_putI hx hb ht hown hK hP hD hS ziX11 tyX11 tyX11_ok nmX11 rfl 0 (by decide) 8 (by decide) hw_5_195 rfl (v := v_696) rfl rfl rfl (Nat.le_of_ble_eq_true rfl) rfl dX11_advance_236 (fun H locs hP hD hS => ?_)
                  have hI_697 := mInv_I hI_694 0 8 (v_696) (zR_w hv_696 (by decide)) rfl
                  have hf_698 : ∀ k, k ≠ 0 → (zp (zp (zp I_424 0 9 (I_424 0 8)) 0 10 (nI 4)) 0 8 (v_696)) k = I k := fun k h => (zp_nk h).trans (hf_695 k h)
                  exact z_vret hx hb hr hlocks hP hD hS dX11_advance_239 ⟨⟨hI_697, hf_698, rfl⟩, mTr_adv (I1 := (zp (zp (zp I_424 0 9 (I_424 0 8)) 0 10 (nI 4)) 0 8 (v_696))) hx_425.2 (m_lt1 hx_425.1 mv_696)⟩
            · cases hu_444
              exact absurd h1_438 (Int.not_lt.mpr h1_444)
          · have t_c_441 := z_eqT c_441
            have f_699 : zR 10 10 (R 4 (I_424 0 8).toNatClampNeg &&& nI 255) := zR_eqx t_c_441 zk_10
            refine lv_aload_n hx hb dX11_advance_26 rfl (lv_at hl 0 rfl) ?_
            refine lv_dup hx hb dX11_advance_27 rfl ?_
            refine z_get hx hb ht hown hK hP ziX11 rfl 0 (by decide) 8 (by decide) hw_5_195 rfl (v := .int (I_424 0 8)) rfl dX11_advance_28 ?_
            refine lv_iconst (v := nI 1) hx hb dX11_advance_31 (by decide +kernel) ?_
            refine lv_iadd hx hb dX11_advance_32 ?_
            refine z_addc 1 800 f_439 zk_1 (by decide) (fun v_700 hv_700 mv_700 => ?_)
            refine z_putI hx hb ht hown hK hP hD hS ziX11 tyX11 tyX11_ok nmX11 rfl 0 (by decide) 8 (by decide) hw_5_195 rfl (v := v_700) rfl rfl rfl (Nat.le_of_ble_eq_true rfl) rfl dX11_advance_33 (fun H locs hP hD hS => ?_)
            have hI_701 := mInv_I hI_424 0 8 (v_700) (zR_w hv_700 (by decide)) rfl
            have hf_702 : ∀ k, k ≠ 0 → (zp I_424 0 8 (v_700)) k = I k := fun k h => (zp_nk h).trans (hf_424 k h)
            refine lv_goto (tgt := 0) hx hb dX11_advance_36 (by decide) ?_
            exact ih_428 _ hI_701 hf_702 ⟨(Int.le_of_lt (m_lt1 hx_425.1 mv_700)), hx_425.2⟩ (z2_up mv_700 (by decide) hN_427) _ _ hP hD hS _ (lv_sub hl [0] rfl)
        · cases hu_438
          refine lv_bipush (v := nI 10) hx hb dX11_advance_21 (by decide +kernel) ?_
          refine lv_icmp_ne (tgt := 39) hx hb dX11_advance_23 (by decide) (fun _ => ?_) (fun c_0 => absurd c_0 (zD_ne zk_m1 zk_10 (by decide)))
          refine lv_aload_n hx hb dX11_advance_39 rfl (lv_at hl 0 rfl) ?_
          refine lv_aload_n hx hb dX11_advance_40 rfl (lv_at hl 0 rfl) ?_
          refine z_get hx hb ht hown hK hP ziX11 rfl 0 (by decide) 8 (by decide) hw_5_195 rfl (v := .int (I_424 0 8)) rfl dX11_advance_41 ?_
          refine z_putI hx hb ht hown hK hP hD hS ziX11 tyX11 tyX11_ok nmX11 rfl 0 (by decide) 9 (by decide) hw_5_196 rfl (v := I_424 0 8) rfl rfl rfl (Nat.le_of_ble_eq_true rfl) rfl dX11_advance_44 (fun H locs hP hD hS => ?_)
          have hI_703 := mInv_I hI_424 0 9 (I_424 0 8) f_429 rfl
          have hf_704 : ∀ k, k ≠ 0 → (zp I_424 0 9 (I_424 0 8)) k = I k := fun k h => (zp_nk h).trans (hf_424 k h)
          refine lv_aload_n hx hb dX11_advance_47 rfl (lv_at hl 0 rfl) ?_
          refine lv_aload_n hx hb dX11_advance_48 rfl (lv_at hl 0 rfl) ?_
          refine z_get hx hb ht hown hK hP ziX11 rfl 0 (by decide) 8 (by decide) hw_5_195 rfl (v := .int (I_424 0 8)) rfl dX11_advance_49 ?_
          refine z_callVi (k := 0) (As := [.int (I_424 0 8)]) (rest := []) hx hb hml hown ht (mk_X11_see l D q cA F _ _ _ hI_703 (I_424 0 8) f_429) hw_6_113 hmX11_see ⟨rfl, rfl⟩ (na := 1) rfl (by decide +kernel) (by decide) (by decide) rfl rfl hK hP hD hS hA hl.1 rfl (Nat.le_of_ble_eq_true rfl) ⟨Nat.zero_le _, Nat.zero_le _⟩ dX11_advance_52 (fun r_705 I_705 R_705 J_705 H locs hp_705 hP hD hS _ _ => ?_)
          rcases hp_705 with ⟨h1_705, h2_705, rfl, hu_705⟩ | ⟨h1_705, rfl, hu_705⟩
          · cases hu_705
            have f_706 : zR 0 799 (I_424 0 8) := zR_ltx h1_705 f_429 None (by decide)
            have f_707 : zR 1 800 (I_424 0 7) := zR_lty h1_705 f_429 None (by decide)
            exact absurd h1_705 (Int.not_lt.mpr h1_438)
          · cases hu_705
            refine lv_istore_n (lv' := [(1, .int ((-1))), (0, .ref (q 0))]) hx hb dX11_advance_55 rfl hl (by decide) rfl (fun ls hl => ?_)
            refine lv_iload_n hx hb dX11_advance_56 rfl (lv_at hl 0 rfl) ?_
            refine lv_iconst (v := (-1)) hx hb dX11_advance_57 (by decide +kernel) ?_
            refine lv_icmp_ne (tgt := 69) hx hb dX11_advance_58 (by decide) (fun c_0 => absurd (zD_eq zk_m1 zk_m1) c_0) (fun _ => ?_)
            refine lv_aload_n hx hb dX11_advance_61 rfl (lv_at hl 1 rfl) ?_
            refine lv_iconst (v := nI 0) hx hb dX11_advance_62 (by decide +kernel) ?_
            refine z_putI hx hb ht hown hK hP hD hS ziX11 tyX11 tyX11_ok nmX11 rfl 0 (by decide) 10 (by decide) hw_5_197 rfl (v := nI 0) rfl rfl rfl (Nat.le_of_ble_eq_true rfl) rfl dX11_advance_63 (fun H locs hP hD hS => ?_)
            have hI_708 := mInv_I hI_703 0 10 (nI 0) (zR_any (nI 0)) rfl
            have hf_709 : ∀ k, k ≠ 0 → (zp (zp I_424 0 9 (I_424 0 8)) 0 10 (nI 0)) k = I k := fun k h => (zp_nk h).trans (hf_704 k h)
            refine lv_goto (tgt := 239) hx hb dX11_advance_66 (by decide) ?_
            exact z_vret hx hb hr hlocks hP hD hS dX11_advance_239 ⟨⟨hI_708, hf_709, rfl⟩, mTr_end (I1 := (zp (zp I_424 0 9 (I_424 0 8)) 0 10 (nI 0))) hx_425.2 hx_425.1 rfl⟩
      refine z_callVi (k := 0) (As := [.int (I_424 0 8)]) (rest := []) hx hb hml hown ht (mk_X11_see l D q cA F _ _ _ hI_424 (I_424 0 8) f_429) hw_6_113 hmX11_see ⟨rfl, rfl⟩ (na := 1) rfl (by decide +kernel) (by decide) (by decide) rfl rfl hK hP hD hS hA hl.1 rfl (Nat.le_of_ble_eq_true rfl) ⟨Nat.zero_le _, Nat.zero_le _⟩ dX11_advance_5 (fun r_710 I_710 R_710 J_710 H locs hp_710 hP hD hS _ _ => ?_)
      rcases hp_710 with ⟨h1_710, h2_710, rfl, hu_710⟩ | ⟨h1_710, rfl, hu_710⟩
      · cases hu_710
        have f_711 : zR 0 799 (I_424 0 8) := zR_ltx h1_710 f_429 None (by decide)
        have f_712 : zR 1 800 (I_424 0 7) := zR_lty h1_710 f_429 None (by decide)
        refine lv_bipush (v := nI 32) hx hb dX11_advance_8 (by decide +kernel) ?_
        refine lv_icmp_eq (tgt := 26) hx hb dX11_advance_10 (by decide) (fun c_713 => ?_) (fun c_713 => ?_)
        · have t_c_713 := z_eqT c_713
          have f_714 : zR 32 32 (R 4 (I_424 0 8).toNatClampNeg &&& nI 255) := zR_eqx t_c_713 zk_32
          refine lv_aload_n hx hb dX11_advance_26 rfl (lv_at hl 0 rfl) ?_
          refine lv_dup hx hb dX11_advance_27 rfl ?_
          refine z_get hx hb ht hown hK hP ziX11 rfl 0 (by decide) 8 (by decide) hw_5_195 rfl (v := .int (I_424 0 8)) rfl dX11_advance_28 ?_
          refine lv_iconst (v := nI 1) hx hb dX11_advance_31 (by decide +kernel) ?_
          refine lv_iadd hx hb dX11_advance_32 ?_
          refine z_addc 1 800 f_711 zk_1 (by decide) (fun v_715 hv_715 mv_715 => ?_)
          refine z_putI hx hb ht hown hK hP hD hS ziX11 tyX11 tyX11_ok nmX11 rfl 0 (by decide) 8 (by decide) hw_5_195 rfl (v := v_715) rfl rfl rfl (Nat.le_of_ble_eq_true rfl) rfl dX11_advance_33 (fun H locs hP hD hS => ?_)
          have hI_716 := mInv_I hI_424 0 8 (v_715) (zR_w hv_715 (by decide)) rfl
          have hf_717 : ∀ k, k ≠ 0 → (zp I_424 0 8 (v_715)) k = I k := fun k h => (zp_nk h).trans (hf_424 k h)
          refine lv_goto (tgt := 0) hx hb dX11_advance_36 (by decide) ?_
          exact ih_428 _ hI_716 hf_717 ⟨(Int.le_of_lt (m_lt1 hx_425.1 mv_715)), hx_425.2⟩ (z2_up mv_715 (by decide) hN_427) _ _ hP hD hS _ (lv_sub hl [0] rfl)
        · have t_c_713 := z_eqF c_713
          exact t_437  _ _ hP hD hS _ (lv_sub hl [0] rfl)
      · cases hu_710
        refine lv_bipush (v := nI 32) hx hb dX11_advance_8 (by decide +kernel) ?_
        refine lv_icmp_eq (tgt := 26) hx hb dX11_advance_10 (by decide) (fun c_0 => absurd c_0 (zD_ne zk_m1 zk_32 (by decide))) (fun _ => ?_)
        exact t_437  _ _ hP hD hS _ (lv_sub hl [0] rfl)
  exact loop_426 _ _ hI (fun (_ : Nat) _ => rfl) ⟨(Int.le_refl _), rfl⟩ (Nat.lt_succ_self _) _ _ hP hD hS _ (lv_sub hl [0] rfl)
set_option maxHeartbeats 4000000 in
set_option maxRecDepth 100000 in
theorem mk_X11_good (l : Launch) (D : va_G) (q : Nat → Nat) (cA : Nat → ClassId) (F : Nat → Nat → Int32) (I R : Nat → Nat → Int32) (J : Nat → Nat → Int64) (hI : mInv F (I, R, J))  : zMi l D vwCl (zMtys cA) 25 q (zMd q cA) yX11_good cX11_good 1 (some .boolean) ({ frames := 0, cells := 0, slots := 0, locals := 0 } : Room) [.ref (q 0)] (I, R, J) (fun r u => (r = nI 1 ∧ u = (I, R, J) ∧ zR 0 0 (I 0 12)) ∨ (r = nI 0 ∧ u = (I, R, J) ∧ zR 1 3 (I 0 12))) := by
  intro sz
  refine z_body (by decide +kernel) (Nat.le_of_ble_eq_true rfl) (fun p e s m below meth c ls hx hb hml hr ht hown hlocks hsz hK hP hD hS hl => ?_)
  have hA : ∀ a, s.heap.size ≤ a → zA 25 q sz a := fun a h => Or.inr (hsz ▸ h)
  have hl : lv_has ls 1 [(0, .ref (q 0))] := hl
  refine lv_aload_n hx hb dX11_good_0 rfl (lv_at hl 0 rfl) ?_
  refine z_get hx hb ht hown hK hP ziX11 rfl 0 (by decide) 12 (by decide) hw_5_199 rfl (v := .int (I 0 12)) rfl dX11_good_1 ?_
  have f_1 : zR 0 3 (I 0 12) := mI hI 0 12
  refine lv_if_ne (tgt := 11) hx hb dX11_good_4 (by decide) (fun c_2 => ?_) (fun c_2 => ?_)
  · have t_c_2 := z_eqF c_2
    have f_3 : zR 1 3 (I 0 12) := zR_nex t_c_2 f_1 zk_z (by decide)
    refine lv_iconst (v := nI 0) hx hb dX11_good_11 (by decide +kernel) ?_
    exact z_zret (v := nI 0) hx hb hr hlocks hP hD hS (by decide +kernel) dX11_good_12 (Or.inr ⟨rfl, rfl, f_3⟩)
  · have t_c_2 := z_eqT c_2
    have f_4 : zR 0 0 (I 0 12) := zR_eqx t_c_2 zk_z
    refine lv_iconst (v := nI 1) hx hb dX11_good_7 (by decide +kernel) ?_
    refine lv_goto (tgt := 12) hx hb dX11_good_8 (by decide) ?_
    exact z_zret (v := nI 1) hx hb hr hlocks hP hD hS (by decide +kernel) dX11_good_12 (Or.inl ⟨rfl, rfl, f_4⟩)
set_option maxHeartbeats 4000000 in
set_option maxRecDepth 100000 in
theorem mk_J0_coder_7d493 (l : Launch) (D : va_G) (q : Nat → Nat) (cA : Nat → ClassId) (ad av : Nat → Nat) (t9 : Nat) (F : Nat → Nat → Int32) (I R : Nat → Nat → Int32) (J : Nat → Nat → Int64) (hI : mInv F (I, R, J))  : zNi (zSS zMRs 25 q ad av t9) l D vwCl (zMtys cA) 25 q (zMd q cA) yJ0_coder_7d493 cJ0_coder_7d493 1 (some .byte) ({ frames := 0, cells := 0, slots := 0, locals := 0 } : Room) [.ref (ad 4)] (I, R, J) (fun r u => r = nI 0 ∧ u = (I, R, J)) := by
  intro sz
  refine z_bodyN (by decide +kernel) (Nat.le_of_ble_eq_true rfl) (fun p e s m below meth c ls hx hb hml hr ht hown hlocks hsz hK hP hD hS hN hl => ?_)
  have hA : ∀ a, s.heap.size ≤ a → zA 25 q sz a := fun a h => Or.inr (hsz ▸ h)
  have hl : lv_has ls 1 [(0, .ref (ad 4))] := hl
  have hZ : zSz zMRs 25 q ad av t9 sz s := hsz ▸ hN
  refine va_gets hx hb hZ.2.1 hS hown (ht _ hw_2_195) (fun _ h => h) dJ0_coder_7d493_0 ?_
  refine z_eqi (y := nI 1) rfl ?_
  refine lv_if_eq (tgt := 13) hx hb dJ0_coder_7d493_3 (by decide) (fun c_0 => absurd c_0 (zD_ne zk_1 zk_z (by decide))) (fun _ => ?_)
  refine lv_aload_n hx hb dJ0_coder_7d493_6 rfl (lv_at hl 0 rfl) ?_
  refine vk_getf hx hb (hZ.1.1 4 (by decide)).2.1 hS hown (ht _ hw_8_165) (fun _ h => h) dJ0_coder_7d493_7 ?_
  refine z_eqi (y := nI 0) rfl ?_
  refine lv_goto (tgt := 14) hx hb dJ0_coder_7d493_10 (by decide) ?_
  exact z_zret (v := nI 0) hx hb hr hlocks hP hD hS (by decide +kernel) dJ0_coder_7d493_14 ⟨rfl, rfl⟩
set_option maxHeartbeats 4000000 in
set_option maxRecDepth 100000 in
theorem mk_J0_length_8abf5 (l : Launch) (D : va_G) (q : Nat → Nat) (cA : Nat → ClassId) (ad av : Nat → Nat) (t9 : Nat) (F : Nat → Nat → Int32) (I R : Nat → Nat → Int32) (J : Nat → Nat → Int64) (hI : mInv F (I, R, J))  : zNi (zSS zMRs 25 q ad av t9) l D vwCl (zMtys cA) 25 q (zMd q cA) yJ0_length_8abf5 cJ0_length_8abf5 1 (some .int) ({ frames := 1, cells := 0, slots := 0, locals := 20 } : Room) [.ref (ad 4)] (I, R, J) (fun r u => r = nI 5 ∧ u = (I, R, J)) := by
  intro sz
  refine z_bodyN (by decide +kernel) (Nat.le_of_ble_eq_true rfl) (fun p e s m below meth c ls hx hb hml hr ht hown hlocks hsz hK hP hD hS hN hl => ?_)
  have hA : ∀ a, s.heap.size ≤ a → zA 25 q sz a := fun a h => Or.inr (hsz ▸ h)
  have hl : lv_has ls 1 [(0, .ref (ad 4))] := hl
  have hZ : zSz zMRs 25 q ad av t9 sz s := hsz ▸ hN
  refine lv_aload_n hx hb dJ0_length_8abf5_0 rfl (lv_at hl 0 rfl) ?_
  refine vk_getf hx hb (hZ.1.1 4 (by decide)).2.2.1 hS hown (ht _ hw_8_164) (fun _ h => h) dJ0_length_8abf5_1 ?_
  refine va_tlen hx hb (hZ.1.1 4 (by decide)).2.2.2 hS (v := nI 5) rfl dJ0_length_8abf5_4 ?_
  refine lv_aload_n hx hb dJ0_length_8abf5_5 rfl (lv_at hl 0 rfl) ?_
  refine z_cNXi (As := []) (rest := [.int (nI 5)]) hx hb hml hown ht (mk_J0_coder_7d493 l D q cA ad av t9 F _ _ _ hI ) hw_2_191 hmJ0_coder_7d493 ⟨rfl, rfl⟩ (na := 0) rfl (by decide +kernel) (by decide) (vk_recv hZ.1 (by decide) hS) hK hP hD hS hA (zSS_c (fun _ _ _ => zMRs_c)) (zSS_w (fun _ _ _ => zMRs_w) hN hsz hS) hl.1 rfl (Nat.le_of_ble_eq_true rfl) ⟨Nat.zero_le _, Nat.zero_le _⟩ dJ0_length_8abf5_6 (fun r_1 I_1 R_1 J_1 H locs hp_1 hP hD hS _ _ => ?_)
  obtain ⟨rfl, hu_1⟩ := hp_1
  cases hu_1
  refine lv_ishr hx hb dJ0_length_8abf5_9 ?_
  refine z_eqi (y := nI 5) (by decide +kernel) ?_
  exact z_iret (v := nI 5) hx hb hr hlocks hP hD hS dJ0_length_8abf5_10 ⟨rfl, rfl⟩
set_option maxHeartbeats 4000000 in
set_option maxRecDepth 100000 in
theorem mk_J0_isLatin1_aae02 (l : Launch) (D : va_G) (q : Nat → Nat) (cA : Nat → ClassId) (ad av : Nat → Nat) (t9 : Nat) (F : Nat → Nat → Int32) (I R : Nat → Nat → Int32) (J : Nat → Nat → Int64) (hI : mInv F (I, R, J))  : zNi (zSS zMRs 25 q ad av t9) l D vwCl (zMtys cA) 25 q (zMd q cA) yJ0_isLatin1_aae02 cJ0_isLatin1_aae02 1 (some .boolean) ({ frames := 0, cells := 0, slots := 0, locals := 0 } : Room) [.ref (ad 4)] (I, R, J) (fun r u => (r = nI 1 ∧ u = (I, R, J))) := by
  intro sz
  refine z_bodyN (by decide +kernel) (Nat.le_of_ble_eq_true rfl) (fun p e s m below meth c ls hx hb hml hr ht hown hlocks hsz hK hP hD hS hN hl => ?_)
  have hA : ∀ a, s.heap.size ≤ a → zA 25 q sz a := fun a h => Or.inr (hsz ▸ h)
  have hl : lv_has ls 1 [(0, .ref (ad 4))] := hl
  have hZ : zSz zMRs 25 q ad av t9 sz s := hsz ▸ hN
  refine va_gets hx hb hZ.2.1 hS hown (ht _ hw_2_195) (fun _ h => h) dJ0_isLatin1_aae02_0 ?_
  refine z_eqi (y := nI 1) rfl ?_
  refine lv_if_eq (tgt := 17) hx hb dJ0_isLatin1_aae02_3 (by decide) (fun c_0 => absurd c_0 (zD_ne zk_1 zk_z (by decide))) (fun _ => ?_)
  refine lv_aload_n hx hb dJ0_isLatin1_aae02_6 rfl (lv_at hl 0 rfl) ?_
  refine vk_getf hx hb (hZ.1.1 4 (by decide)).2.1 hS hown (ht _ hw_8_165) (fun _ h => h) dJ0_isLatin1_aae02_7 ?_
  refine z_eqi (y := nI 0) rfl ?_
  refine lv_if_ne (tgt := 17) hx hb dJ0_isLatin1_aae02_10 (by decide) (fun c_0 => absurd (zD_eq zk_0 zk_z) c_0) (fun _ => ?_)
  refine lv_iconst (v := nI 1) hx hb dJ0_isLatin1_aae02_13 (by decide +kernel) ?_
  refine lv_goto (tgt := 18) hx hb dJ0_isLatin1_aae02_14 (by decide) ?_
  exact z_zret (v := nI 1) hx hb hr hlocks hP hD hS (by decide +kernel) dJ0_isLatin1_aae02_18 ⟨rfl, rfl⟩
set_option maxHeartbeats 4000000 in
set_option maxRecDepth 100000 in
theorem mk_J3_checkIndex_8e157_1 (l : Launch) (D : va_G) (q : Nat → Nat) (cA : Nat → ClassId) (ad av : Nat → Nat) (t9 : Nat) (F : Nat → Nat → Int32) (I R : Nat → Nat → Int32) (J : Nat → Nat → Int64) (hI : mInv F (I, R, J)) (pa0 : Int32) (hpa0 : zR 0 4 pa0) : zNi (zSS zMRs 25 q ad av t9) l D vwCl (zMtys cA) 25 q (zMd q cA) yJ3_checkIndex_8e157 cJ3_checkIndex_8e157 3 (some .int) ({ frames := 0, cells := 0, slots := 0, locals := 0 } : Room) [.int (pa0), .int (nI 5), .ref (t9)] (I, R, J) (fun r u => zR 0 4 r ∧ u = (I, R, J)) := by
  intro sz
  refine z_bodyN (by decide +kernel) (Nat.le_of_ble_eq_true rfl) (fun p e s m below meth c ls hx hb hml hr ht hown hlocks hsz hK hP hD hS hN hl => ?_)
  have hA : ∀ a, s.heap.size ≤ a → zA 25 q sz a := fun a h => Or.inr (hsz ▸ h)
  have hl : lv_has ls 3 [(0, .int (pa0)), (1, .int (nI 5)), (2, .ref (t9))] := hl
  have hZ : zSz zMRs 25 q ad av t9 sz s := hsz ▸ hN
  refine lv_iload_n hx hb dJ3_checkIndex_8e157_0 rfl (lv_at hl 0 rfl) ?_
  refine lv_if_lt (tgt := 9) hx hb dJ3_checkIndex_8e157_1 (by decide) (fun c_0 => absurd c_0 (zD_nlt hpa0 zk_z (by decide))) (fun _ => ?_)
  refine lv_iload_n hx hb dJ3_checkIndex_8e157_4 rfl (lv_at hl 0 rfl) ?_
  refine lv_iload_n hx hb dJ3_checkIndex_8e157_5 rfl (lv_at hl 1 rfl) ?_
  refine lv_icmp_lt (tgt := 16) hx hb dJ3_checkIndex_8e157_6 (by decide) (fun _ => ?_) (fun c_0 => absurd (zD_lt hpa0 zk_5 (by decide)) c_0)
  refine lv_iload_n hx hb dJ3_checkIndex_8e157_16 rfl (lv_at hl 0 rfl) ?_
  exact z_iret (v := pa0) hx hb hr hlocks hP hD hS dJ3_checkIndex_8e157_17 ⟨hpa0, rfl⟩
set_option maxHeartbeats 4000000 in
set_option maxRecDepth 100000 in
theorem mk_J0_checkIndex_df160_1 (l : Launch) (D : va_G) (q : Nat → Nat) (cA : Nat → ClassId) (ad av : Nat → Nat) (t9 : Nat) (F : Nat → Nat → Int32) (I R : Nat → Nat → Int32) (J : Nat → Nat → Int64) (hI : mInv F (I, R, J)) (pa0 : Int32) (hpa0 : zR 0 4 pa0) : zNv (zSS zMRs 25 q ad av t9) l D vwCl (zMtys cA) 25 q (zMd q cA) yJ0_checkIndex_df160 cJ0_checkIndex_df160 2 none ({ frames := 1, cells := 0, slots := 0, locals := 22 } : Room) [.int (pa0), .int (nI 5)] (I, R, J) (fun u => u = (I, R, J)) := by
  intro sz
  refine z_bodyN (by decide +kernel) (Nat.le_of_ble_eq_true rfl) (fun p e s m below meth c ls hx hb hml hr ht hown hlocks hsz hK hP hD hS hN hl => ?_)
  have hA : ∀ a, s.heap.size ≤ a → zA 25 q sz a := fun a h => Or.inr (hsz ▸ h)
  have hl : lv_has ls 2 [(0, .int (pa0)), (1, .int (nI 5))] := hl
  have hZ : zSz zMRs 25 q ad av t9 sz s := hsz ▸ hN
  refine lv_iload_n hx hb dJ0_checkIndex_df160_0 rfl (lv_at hl 0 rfl) ?_
  refine lv_iload_n hx hb dJ0_checkIndex_df160_1 rfl (lv_at hl 1 rfl) ?_
  refine va_gets hx hb hZ.2.2.1 hS hown (ht _ hw_2_211) (fun _ h => h) dJ0_checkIndex_df160_2 ?_
  refine z_cNSi (As := [.int (pa0), .int (nI 5), .ref (t9)]) (rest := []) hx hb hml hown ht (mk_J3_checkIndex_8e157_1 l D q cA ad av t9 F _ _ _ hI (pa0) hpa0) hw_2_213 hmJ3_checkIndex_8e157 ⟨rfl, rfl⟩ (na := 3) rfl (by decide +kernel) (by decide) hK hP hD hS hA (zSS_c (fun _ _ _ => zMRs_c)) (zSS_w (fun _ _ _ => zMRs_w) hN hsz hS) hl.1 rfl (Nat.le_of_ble_eq_true rfl) ⟨Nat.zero_le _, Nat.zero_le _⟩ dJ0_checkIndex_df160_5 (fun r_1 I_1 R_1 J_1 H locs hp_1 hP hD hS _ _ => ?_)
  obtain ⟨hr_1, hu_1⟩ := hp_1
  cases hu_1
  refine lv_pop hx hb dJ0_checkIndex_df160_8 rfl ?_
  exact z_vret hx hb hr hlocks hP hD hS dJ0_checkIndex_df160_9 rfl
set_option maxHeartbeats 4000000 in
set_option maxRecDepth 100000 in
theorem mk_J1_charAt_3b067_1 (l : Launch) (D : va_G) (q : Nat → Nat) (cA : Nat → ClassId) (ad av : Nat → Nat) (t9 : Nat) (F : Nat → Nat → Int32) (I R : Nat → Nat → Int32) (J : Nat → Nat → Int64) (hI : mInv F (I, R, J)) (pa1 : Int32) (hpa1 : zR 0 4 pa1) : zNi (zSS zMRs 25 q ad av t9) l D vwCl (zMtys cA) 25 q (zMd q cA) yJ1_charAt_3b067 cJ1_charAt_3b067 2 (some .char) ({ frames := 2, cells := 0, slots := 0, locals := 43 } : Room) [.ref (av 4), .int (pa1)] (I, R, J) (fun r u => (r = zch 4 (pa1).toNatClampNeg ∧ zR 0 65535 r) ∧ u = (I, R, J)) := by
  intro sz
  refine z_bodyN (by decide +kernel) (Nat.le_of_ble_eq_true rfl) (fun p e s m below meth c ls hx hb hml hr ht hown hlocks hsz hK hP hD hS hN hl => ?_)
  have hA : ∀ a, s.heap.size ≤ a → zA 25 q sz a := fun a h => Or.inr (hsz ▸ h)
  have hl : lv_has ls 2 [(0, .ref (av 4)), (1, .int (pa1))] := hl
  have hZ : zSz zMRs 25 q ad av t9 sz s := hsz ▸ hN
  refine lv_iload_n hx hb dJ1_charAt_3b067_0 rfl (lv_at hl 1 rfl) ?_
  refine lv_aload_n hx hb dJ1_charAt_3b067_1 rfl (lv_at hl 0 rfl) ?_
  refine va_tlen hx hb (hZ.1.1 4 (by decide)).2.2.2 hS (v := nI 5) rfl dJ1_charAt_3b067_2 ?_
  refine z_cNSv (As := [.int (pa1), .int (nI 5)]) (rest := []) hx hb hml hown ht (mk_J0_checkIndex_df160_1 l D q cA ad av t9 F _ _ _ hI (pa1) hpa1) hw_2_208 hmJ0_checkIndex_df160 ⟨rfl, rfl⟩ (na := 2) rfl (by decide +kernel) (by decide) hK hP hD hS hA (zSS_c (fun _ _ _ => zMRs_c)) (zSS_w (fun _ _ _ => zMRs_w) hN hsz hS) hl.1 rfl (Nat.le_of_ble_eq_true rfl) ⟨Nat.zero_le _, Nat.zero_le _⟩ dJ1_charAt_3b067_3 (fun I_1 R_1 J_1 H locs hp_1 hP hD hS _ _ => ?_)
  cases hp_1
  refine lv_aload_n hx hb dJ1_charAt_3b067_6 rfl (lv_at hl 0 rfl) ?_
  refine lv_iload_n hx hb dJ1_charAt_3b067_7 rfl (lv_at hl 1 rfl) ?_
  refine va_tb hx hb (hZ.1.1 4 (by decide)).2.2.2 hS (zR_vin hpa1 (by decide)) (v := .int ((zByt.getD 4 []).getD (pa1).toNatClampNeg 0)) rfl dJ1_charAt_3b067_8 ?_
  refine lv_sipush (v := nI 255) hx hb dJ1_charAt_3b067_9 (by decide +kernel) ?_
  refine lv_iand hx hb dJ1_charAt_3b067_12 ?_
  refine lv_i2c (v := ((((zByt.getD 4 []).getD (pa1).toNatClampNeg 0) &&& (nI 255)).toUInt32 % 65536).toInt32) hx hb dJ1_charAt_3b067_13 rfl ?_
  exact z_zret (v := ((((zByt.getD 4 []).getD (pa1).toNatClampNeg 0) &&& (nI 255)).toUInt32 % 65536).toInt32) hx hb hr hlocks hP hD hS (zR_char (zR_i2c _)) dJ1_charAt_3b067_14 ⟨⟨rfl, (zR_i2c _)⟩, rfl⟩
set_option maxHeartbeats 4000000 in
set_option maxRecDepth 100000 in
theorem mk_J0_charAt_5068e_1 (l : Launch) (D : va_G) (q : Nat → Nat) (cA : Nat → ClassId) (ad av : Nat → Nat) (t9 : Nat) (F : Nat → Nat → Int32) (I R : Nat → Nat → Int32) (J : Nat → Nat → Int64) (hI : mInv F (I, R, J)) (pa0 : Int32) (hpa0 : zR 0 4 pa0) : zNi (zSS zMRs 25 q ad av t9) l D vwCl (zMtys cA) 25 q (zMd q cA) yJ0_charAt_5068e cJ0_charAt_5068e 2 (some .char) ({ frames := 3, cells := 0, slots := 0, locals := 64 } : Room) [.ref (ad 4), .int (pa0)] (I, R, J) (fun r u => (r = zch 4 (pa0).toNatClampNeg ∧ zR 0 65535 r) ∧ u = (I, R, J)) := by
  intro sz
  refine z_bodyN (by decide +kernel) (Nat.le_of_ble_eq_true rfl) (fun p e s m below meth c ls hx hb hml hr ht hown hlocks hsz hK hP hD hS hN hl => ?_)
  have hA : ∀ a, s.heap.size ≤ a → zA 25 q sz a := fun a h => Or.inr (hsz ▸ h)
  have hl : lv_has ls 2 [(0, .ref (ad 4)), (1, .int (pa0))] := hl
  have hZ : zSz zMRs 25 q ad av t9 sz s := hsz ▸ hN
  refine lv_aload_n hx hb dJ0_charAt_5068e_0 rfl (lv_at hl 0 rfl) ?_
  refine z_cNXi (As := []) (rest := []) hx hb hml hown ht (mk_J0_isLatin1_aae02 l D q cA ad av t9 F _ _ _ hI ) hw_2_201 hmJ0_isLatin1_aae02 ⟨rfl, rfl⟩ (na := 0) rfl (by decide +kernel) (by decide) (vk_recv hZ.1 (by decide) hS) hK hP hD hS hA (zSS_c (fun _ _ _ => zMRs_c)) (zSS_w (fun _ _ _ => zMRs_w) hN hsz hS) hl.1 rfl (Nat.le_of_ble_eq_true rfl) ⟨Nat.zero_le _, Nat.zero_le _⟩ dJ0_charAt_5068e_1 (fun r_1 I_1 R_1 J_1 H locs hp_1 hP hD hS _ _ => ?_)
  obtain ⟨rfl, hu_1⟩ := hp_1
  cases hu_1
  refine lv_if_eq (tgt := 16) hx hb dJ0_charAt_5068e_4 (by decide) (fun c_0 => absurd c_0 (zD_ne zk_1 zk_z (by decide))) (fun _ => ?_)
  refine lv_aload_n hx hb dJ0_charAt_5068e_7 rfl (lv_at hl 0 rfl) ?_
  refine vk_getf hx hb (hZ.1.1 4 (by decide)).2.2.1 hS hown (ht _ hw_8_164) (fun _ h => h) dJ0_charAt_5068e_8 ?_
  refine lv_iload_n hx hb dJ0_charAt_5068e_11 rfl (lv_at hl 1 rfl) ?_
  refine z_cNSi (As := [.ref (av 4), .int (pa0)]) (rest := []) hx hb hml hown ht (mk_J1_charAt_3b067_1 l D q cA ad av t9 F _ _ _ hI (pa0) hpa0) hw_2_205 hmJ1_charAt_3b067 ⟨rfl, rfl⟩ (na := 2) rfl (by decide +kernel) (by decide) hK hP hD hS hA (zSS_c (fun _ _ _ => zMRs_c)) (zSS_w (fun _ _ _ => zMRs_w) hN hsz hS) hl.1 rfl (Nat.le_of_ble_eq_true rfl) ⟨Nat.zero_le _, Nat.zero_le _⟩ dJ0_charAt_5068e_12 (fun r_2 I_2 R_2 J_2 H locs hp_2 hP hD hS _ _ => ?_)
  obtain ⟨⟨rfl, hr_2⟩, hu_2⟩ := hp_2
  cases hu_2
  exact z_zret (v := zch 4 (pa0).toNatClampNeg) hx hb hr hlocks hP hD hS (zR_char hr_2) dJ0_charAt_5068e_15 ⟨⟨rfl, hr_2⟩, rfl⟩
set_option maxHeartbeats 4000000 in
set_option maxRecDepth 100000 in
theorem mk_X11_is (l : Launch) (D : va_G) (q : Nat → Nat) (cA : Nat → ClassId) (ad av : Nat → Nat) (t9 : Nat) (F : Nat → Nat → Int32) (I R : Nat → Nat → Int32) (J : Nat → Nat → Int64) (hI : mInv F (I, R, J))  : zNi (zSS zMRs 25 q ad av t9) l D vwCl (zMtys cA) 25 q (zMd q cA) yX11_is cX11_is 4 (some .boolean) ({ frames := 4, cells := 0, slots := 0, locals := 85 } : Room) [.ref (q 0), .ref (ad 4)] (I, R, J) (fun r u => (r = nI 1 ∧ u = (I, R, J) ∧ mIs 4 I R) ∨ (r = nI 0 ∧ u = (I, R, J) ∧ ¬ mIs 4 I R)) := by
  intro sz
  refine z_bodyN (by decide +kernel) (Nat.le_of_ble_eq_true rfl) (fun p e s m below meth c ls hx hb hml hr ht hown hlocks hsz hK hP hD hS hN hl => ?_)
  have hA : ∀ a, s.heap.size ≤ a → zA 25 q sz a := fun a h => Or.inr (hsz ▸ h)
  have hl : lv_has ls 4 [(0, .ref (q 0)), (1, .ref (ad 4))] := hl
  have hZ : zSz zMRs 25 q ad av t9 sz s := hsz ▸ hN
  refine lv_aload_n hx hb dX11_is_0 rfl (lv_at hl 0 rfl) ?_
  refine z_callVi (k := 0) (As := []) (rest := []) hx hb hml hown ht (mk_X11_good l D q cA F _ _ _ hI ) hw_6_123 hmX11_good ⟨rfl, rfl⟩ (na := 0) rfl (by decide +kernel) (by decide) (by decide) rfl rfl hK hP hD hS hA hl.1 rfl (Nat.le_of_ble_eq_true rfl) ⟨Nat.zero_le _, Nat.zero_le _⟩ dX11_is_1 (fun r_1 I_1 R_1 J_1 H locs hp_1 hP hD hS _ _ => ?_)
  rcases hp_1 with ⟨rfl, hu_1, nn_1⟩ | ⟨rfl, hu_1, nn_1⟩
  · cases hu_1
    refine lv_if_eq (tgt := 35) hx hb dX11_is_4 (by decide) (fun c_0 => absurd c_0 (zD_ne zk_1 zk_z (by decide))) (fun _ => ?_)
    refine lv_aload_n hx hb dX11_is_7 rfl (lv_at hl 0 rfl) ?_
    refine z_get hx hb ht hown hK hP ziX11 rfl 0 (by decide) 10 (by decide) hw_5_197 rfl (v := .int (I 0 10)) rfl dX11_is_8 ?_
    refine lv_iconst (v := nI 1) hx hb dX11_is_11 (by decide +kernel) ?_
    refine lv_icmp_ne (tgt := 35) hx hb dX11_is_12 (by decide) (fun c_2 => ?_) (fun c_2 => ?_)
    · have t_c_2 := z_eqF c_2
      refine lv_iconst (v := nI 0) hx hb dX11_is_35 (by decide +kernel) ?_
      refine lv_istore_n (lv' := [(2, .int (nI 0)), (0, .ref (q 0)), (1, .ref (ad 4))]) hx hb dX11_is_36 rfl hl (by decide) rfl (fun ls hl => ?_)
      refine lv_iconst (v := nI 0) hx hb dX11_is_37 (by decide +kernel) ?_
      refine lv_istore_n (lv' := [(3, .int (nI 0)), (2, .int (nI 0)), (0, .ref (q 0)), (1, .ref (ad 4))]) hx hb dX11_is_38 rfl hl (by decide) rfl (fun ls hl => ?_)
      refine lv_iload_n hx hb dX11_is_39 rfl (lv_at hl 0 rfl) ?_
      refine lv_aload_n hx hb dX11_is_40 rfl (lv_at hl 3 rfl) ?_
      refine z_cNXi (As := []) (rest := [.int (nI 0)]) hx hb hml hown ht (mk_J0_length_8abf5 l D q cA ad av t9 F _ _ _ hI ) hw_6_144 hmJ0_length_8abf5 ⟨rfl, rfl⟩ (na := 0) rfl (by decide +kernel) (by decide) (vk_recv hZ.1 (by decide) hS) hK hP hD hS hA (zSS_c (fun _ _ _ => zMRs_c)) (zSS_w (fun _ _ _ => zMRs_w) hN hsz hS) hl.1 rfl (Nat.le_of_ble_eq_true rfl) ⟨Nat.zero_le _, Nat.zero_le _⟩ dX11_is_41 (fun r_5 I_5 R_5 J_5 H locs hp_5 hP hD hS _ _ => ?_)
      obtain ⟨rfl, hu_5⟩ := hp_5
      cases hu_5
      refine lv_icmp_ge (tgt := 82) hx hb dX11_is_44 (by decide) (fun c_0 => absurd c_0 (zD_nle zk_5 zk_0 (by decide))) (fun _ => ?_)
      refine lv_iload_n hx hb dX11_is_47 rfl (lv_at hl 1 rfl) ?_
      refine lv_if_eq (tgt := 82) hx hb dX11_is_48 (by decide) (fun _ => ?_) (fun c_0 => absurd (zD_eq zk_0 zk_z) c_0)
      refine lv_iload_n hx hb dX11_is_82 rfl (lv_at hl 1 rfl) ?_
      exact z_zret (v := nI 0) hx hb hr hlocks hP hD hS (by decide +kernel) dX11_is_83 (Or.inr ⟨rfl, rfl, (mIs_n2 t_c_2)⟩)
    · have t_c_2 := z_eqT c_2
      have f_6 : zR 1 1 (I 0 10) := zR_eqx t_c_2 zk_1
      refine lv_aload_n hx hb dX11_is_15 rfl (lv_at hl 0 rfl) ?_
      refine z_get hx hb ht hown hK hP ziX11 rfl 0 (by decide) 8 (by decide) hw_5_195 rfl (v := .int (I 0 8)) rfl dX11_is_16 ?_
      have f_7 : zR 0 800 (I 0 8) := mI hI 0 8
      refine lv_aload_n hx hb dX11_is_19 rfl (lv_at hl 0 rfl) ?_
      refine z_get hx hb ht hown hK hP ziX11 rfl 0 (by decide) 9 (by decide) hw_5_196 rfl (v := .int (I 0 9)) rfl dX11_is_20 ?_
      have f_8 : zR 0 800 (I 0 9) := mI hI 0 9
      refine lv_isub hx hb dX11_is_23 ?_
      refine lv_topi (fun v_9 ev_9 => ?_)
      have hv_9 : zR (-800) 800 v_9 := ev_9 ▸ zR_sub f_7 f_8 (by decide)
      refine lv_aload_n hx hb dX11_is_24 rfl (lv_at hl 1 rfl) ?_
      refine z_cNXi (As := []) (rest := [.int (v_9)]) hx hb hml hown ht (mk_J0_length_8abf5 l D q cA ad av t9 F _ _ _ hI ) hw_6_144 hmJ0_length_8abf5 ⟨rfl, rfl⟩ (na := 0) rfl (by decide +kernel) (by decide) (vk_recv hZ.1 (by decide) hS) hK hP hD hS hA (zSS_c (fun _ _ _ => zMRs_c)) (zSS_w (fun _ _ _ => zMRs_w) hN hsz hS) hl.1 rfl (Nat.le_of_ble_eq_true rfl) ⟨Nat.zero_le _, Nat.zero_le _⟩ dX11_is_25 (fun r_10 I_10 R_10 J_10 H locs hp_10 hP hD hS _ _ => ?_)
      obtain ⟨rfl, hu_10⟩ := hp_10
      cases hu_10
      refine lv_icmp_ne (tgt := 35) hx hb dX11_is_28 (by decide) (fun c_11 => ?_) (fun c_11 => ?_)
      · have t_c_11 := z_eqF c_11
        refine lv_iconst (v := nI 0) hx hb dX11_is_35 (by decide +kernel) ?_
        refine lv_istore_n (lv' := [(2, .int (nI 0)), (0, .ref (q 0)), (1, .ref (ad 4))]) hx hb dX11_is_36 rfl hl (by decide) rfl (fun ls hl => ?_)
        refine lv_iconst (v := nI 0) hx hb dX11_is_37 (by decide +kernel) ?_
        refine lv_istore_n (lv' := [(3, .int (nI 0)), (2, .int (nI 0)), (0, .ref (q 0)), (1, .ref (ad 4))]) hx hb dX11_is_38 rfl hl (by decide) rfl (fun ls hl => ?_)
        refine lv_iload_n hx hb dX11_is_39 rfl (lv_at hl 0 rfl) ?_
        refine lv_aload_n hx hb dX11_is_40 rfl (lv_at hl 3 rfl) ?_
        refine z_cNXi (As := []) (rest := [.int (nI 0)]) hx hb hml hown ht (mk_J0_length_8abf5 l D q cA ad av t9 F _ _ _ hI ) hw_6_144 hmJ0_length_8abf5 ⟨rfl, rfl⟩ (na := 0) rfl (by decide +kernel) (by decide) (vk_recv hZ.1 (by decide) hS) hK hP hD hS hA (zSS_c (fun _ _ _ => zMRs_c)) (zSS_w (fun _ _ _ => zMRs_w) hN hsz hS) hl.1 rfl (Nat.le_of_ble_eq_true rfl) ⟨Nat.zero_le _, Nat.zero_le _⟩ dX11_is_41 (fun r_14 I_14 R_14 J_14 H locs hp_14 hP hD hS _ _ => ?_)
        obtain ⟨rfl, hu_14⟩ := hp_14
        cases hu_14
        refine lv_icmp_ge (tgt := 82) hx hb dX11_is_44 (by decide) (fun c_0 => absurd c_0 (zD_nle zk_5 zk_0 (by decide))) (fun _ => ?_)
        refine lv_iload_n hx hb dX11_is_47 rfl (lv_at hl 1 rfl) ?_
        refine lv_if_eq (tgt := 82) hx hb dX11_is_48 (by decide) (fun _ => ?_) (fun c_0 => absurd (zD_eq zk_0 zk_z) c_0)
        refine lv_iload_n hx hb dX11_is_82 rfl (lv_at hl 1 rfl) ?_
        exact z_zret (v := nI 0) hx hb hr hlocks hP hD hS (by decide +kernel) dX11_is_83 (Or.inr ⟨rfl, rfl, (mIs_n3 ev_9 t_c_11)⟩)
      · have t_c_11 := z_eqT c_11
        have f_15 : zR 5 5 (v_9) := zR_eqx t_c_11 zk_5
        have f_16 : zR 0 795 (I 0 9) := z_start f_7 f_8 ev_9 f_15 (by decide)
        refine lv_iconst (v := nI 1) hx hb dX11_is_31 (by decide +kernel) ?_
        refine lv_goto (tgt := 36) hx hb dX11_is_32 (by decide) ?_
        refine lv_istore_n (lv' := [(2, .int (nI 1)), (0, .ref (q 0)), (1, .ref (ad 4))]) hx hb dX11_is_36 rfl hl (by decide) rfl (fun ls hl => ?_)
        refine lv_iconst (v := nI 0) hx hb dX11_is_37 (by decide +kernel) ?_
        refine lv_istore_n (lv' := [(3, .int (nI 0)), (2, .int (nI 1)), (0, .ref (q 0)), (1, .ref (ad 4))]) hx hb dX11_is_38 rfl hl (by decide) rfl (fun ls hl => ?_)
        have loop_71 : ∀ N : Nat, ∀ x_68 : Int32, zR 0 1 x_68 → ∀ x_69 : Int32, zR 0 5 x_69 → (mIsL 4 I R (x_69) (x_68)) → (2147483648 - (x_69).toInt).toNat < N → ∀ (H : Heap) (locs : List Loc), va_P D vwCl (zw 25 q (zMd q cA) I R J) H → va_D (zA 25 q sz) (zw 25 q (zMd q cA) I R J) → va_S (zA 25 q sz) s.heap H locs → ∀ ls : Array Slot, lv_has ls 4 [(0, .ref (q 0)), (1, .ref (ad 4)), (2, .int (x_68)), (3, .int (x_69))] → W p l e ({ frames := 4, cells := 0, slots := 0, locals := 85 } : Room) s m ([.ref (q 0), .ref (ad 4)] : List Value).toArray below meth c H locs 0 0 (MQ below (va_Qi (fun r u => (r = nI 1 ∧ u = (I, R, J) ∧ mIs 4 I R) ∨ (r = nI 0 ∧ u = (I, R, J) ∧ ¬ mIs 4 I R)) (zB D vwCl 25 q (zMd q cA) sz) (zA 25 q sz)) ([.ref (q 0), .ref (ad 4)] : List Value).toArray s 0 0 (zA 25 q sz)) (F0 m 39 ls []) := by
          intro N
          induction N with
          | zero => intro x_68 hx_68 x_69 hx_69 hx_70 hN; exact absurd hN (Nat.not_lt_zero _)
          | succ N ih_73 =>
            intro x_68 hx_68 x_69 hx_69 hx_70 hN_72 H locs hP hD hS ls hl
            refine lv_iload_n hx hb dX11_is_39 rfl (lv_at hl 3 rfl) ?_
            refine lv_aload_n hx hb dX11_is_40 rfl (lv_at hl 1 rfl) ?_
            refine z_cNXi (As := []) (rest := [.int (x_69)]) hx hb hml hown ht (mk_J0_length_8abf5 l D q cA ad av t9 F _ _ _ hI ) hw_6_144 hmJ0_length_8abf5 ⟨rfl, rfl⟩ (na := 0) rfl (by decide +kernel) (by decide) (vk_recv hZ.1 (by decide) hS) hK hP hD hS hA (zSS_c (fun _ _ _ => zMRs_c)) (zSS_w (fun _ _ _ => zMRs_w) hN hsz hS) hl.1 rfl (Nat.le_of_ble_eq_true rfl) ⟨Nat.zero_le _, Nat.zero_le _⟩ dX11_is_41 (fun r_74 I_74 R_74 J_74 H locs hp_74 hP hD hS _ _ => ?_)
            obtain ⟨rfl, hu_74⟩ := hp_74
            cases hu_74
            refine lv_icmp_ge (tgt := 82) hx hb dX11_is_44 (by decide) (fun c_75 => ?_) (fun c_75 => ?_)
            · have t_c_75 := z_leT c_75
              have f_76 : zR 5 5 (x_69) := zR_ley t_c_75 zk_5 hx_69 (by decide)
              refine lv_iload_n hx hb dX11_is_82 rfl (lv_at hl 2 rfl) ?_
              exact z_zret (v := x_68) hx hb hr hlocks hP hD hS (zR_bool hx_68 (by decide)).1 dX11_is_83 (mIs_r1 hx_70 hx_68 t_c_75)
            · have t_c_75 := z_leF c_75
              have f_77 : zR 0 4 (x_69) := zR_ltx t_c_75 hx_69 zk_5 (by decide)
              refine lv_iload_n hx hb dX11_is_47 rfl (lv_at hl 2 rfl) ?_
              refine lv_if_eq (tgt := 82) hx hb dX11_is_48 (by decide) (fun c_78 => ?_) (fun c_78 => ?_)
              · have t_c_78 := z_eqT c_78
                have f_79 : zR 0 0 (x_68) := zR_eqx t_c_78 zk_z
                refine lv_iload_n hx hb dX11_is_82 rfl (lv_at hl 2 rfl) ?_
                exact z_zret (v := x_68) hx hb hr hlocks hP hD hS (zR_bool (zR_w f_79 (by decide)) (by decide)).1 dX11_is_83 (mIs_r0 hx_70 f_79)
              · have t_c_78 := z_eqF c_78
                have f_80 : zR 1 1 (x_68) := zR_nex t_c_78 hx_68 zk_z (by decide)
                refine lv_aload_n hx hb dX11_is_51 rfl (lv_at hl 0 rfl) ?_
                refine z_get hx hb ht hown hK hP ziX11 rfl 0 (by decide) 4 (by decide) hw_5_191 rfl (v := .ref (q 4)) rfl dX11_is_52 ?_
                refine lv_aload_n hx hb dX11_is_55 rfl (lv_at hl 0 rfl) ?_
                refine z_get hx hb ht hown hK hP ziX11 rfl 0 (by decide) 9 (by decide) hw_5_196 rfl (v := .int (I 0 9)) rfl dX11_is_56 ?_
                refine lv_iload_n hx hb dX11_is_59 rfl (lv_at hl 3 rfl) ?_
                refine lv_iadd hx hb dX11_is_60 ?_
                refine lv_topi (fun v_81 ev_81 => ?_)
                have hv_81 : zR 0 799 v_81 := ev_81 ▸ zR_add f_16 f_77 (by decide)
                refine z_bald hx hb hK hP 4 (by decide) 3 rfl rfl (zR_vin hv_81 (by decide)) dX11_is_61 ?_
                refine z_eqi (y := R 4 (v_81).toNatClampNeg) rfl ?_
                refine lv_aload_n hx hb dX11_is_62 rfl (lv_at hl 1 rfl) ?_
                refine lv_iload_n hx hb dX11_is_63 rfl (lv_at hl 3 rfl) ?_
                refine z_cNXi (As := [.int (x_69)]) (rest := [.int (R 4 (v_81).toNatClampNeg)]) hx hb hml hown ht (mk_J0_charAt_5068e_1 l D q cA ad av t9 F _ _ _ hI (x_69) f_77) hw_6_145 hmJ0_charAt_5068e ⟨rfl, rfl⟩ (na := 1) rfl (by decide +kernel) (by decide) (vk_recv hZ.1 (by decide) hS) hK hP hD hS hA (zSS_c (fun _ _ _ => zMRs_c)) (zSS_w (fun _ _ _ => zMRs_w) hN hsz hS) hl.1 rfl (Nat.le_of_ble_eq_true rfl) ⟨Nat.zero_le _, Nat.zero_le _⟩ dX11_is_64 (fun r_82 I_82 R_82 J_82 H locs hp_82 hP hD hS _ _ => ?_)
                obtain ⟨⟨rfl, hr_82⟩, hu_82⟩ := hp_82
                cases hu_82
                refine lv_icmp_ne (tgt := 74) hx hb dX11_is_67 (by decide) (fun c_83 => ?_) (fun c_83 => ?_)
                · have t_c_83 := z_eqF c_83
                  refine lv_iconst (v := nI 0) hx hb dX11_is_74 (by decide +kernel) ?_
                  refine lv_istore_n (lv' := [(2, .int (nI 0)), (0, .ref (q 0)), (1, .ref (ad 4)), (3, .int (x_69))]) hx hb dX11_is_75 rfl hl (by decide) rfl (fun ls hl => ?_)
                  obtain ⟨v_84, ev_84⟩ : ∃ y : Int32, y = x_69 + nI 1 := ⟨_, rfl⟩
                  have hv_84 : zR 1 5 v_84 := ev_84 ▸ zR_add f_77 zk_1 (by decide)
                  have mv_84 : v_84.toInt = (x_69).toInt + 1 := by rw [ev_84, zR_addE f_77 zk_1 (by decide)]; rfl
                  refine lv_iinc (v := v_84) (lv' := [(3, .int (v_84)), (2, .int (nI 0)), (0, .ref (q 0)), (1, .ref (ad 4))]) hx hb dX11_is_76 hl (k := 3) rfl (ev_84 ▸ rfl) (by decide) rfl (fun ls hl => ?_)
                  refine lv_goto (tgt := 39) hx hb dX11_is_79 (by decide) ?_
                  exact ih_73 (nI 0) (zR_w zk_0 (by decide)) (v_84) (zR_w hv_84 (by decide)) (mIsL_n hx_70 f_80 t_c_75 t_c_83 (mIs_ix (zR_w f_16 (by decide)) (zR_w f_77 (by decide)) ev_81)) (z2_up mv_84 (by decide) hN_72) _ _ hP hD hS _ (lv_sub hl [2, 3, 1, 0] rfl)
                · have t_c_83 := z_eqT c_83
                  have f_85 : zR 0 65535 (R 4 (v_81).toNatClampNeg) := zR_eqx t_c_83 hr_82
                  refine lv_iconst (v := nI 1) hx hb dX11_is_70 (by decide +kernel) ?_
                  refine lv_goto (tgt := 75) hx hb dX11_is_71 (by decide) ?_
                  refine lv_istore_n (lv' := [(2, .int (nI 1)), (0, .ref (q 0)), (1, .ref (ad 4)), (3, .int (x_69))]) hx hb dX11_is_75 rfl hl (by decide) rfl (fun ls hl => ?_)
                  obtain ⟨v_86, ev_86⟩ : ∃ y : Int32, y = x_69 + nI 1 := ⟨_, rfl⟩
                  have hv_86 : zR 1 5 v_86 := ev_86 ▸ zR_add f_77 zk_1 (by decide)
                  have mv_86 : v_86.toInt = (x_69).toInt + 1 := by rw [ev_86, zR_addE f_77 zk_1 (by decide)]; rfl
                  refine lv_iinc (v := v_86) (lv' := [(3, .int (v_86)), (2, .int (nI 1)), (0, .ref (q 0)), (1, .ref (ad 4))]) hx hb dX11_is_76 hl (k := 3) rfl (ev_86 ▸ rfl) (by decide) rfl (fun ls hl => ?_)
                  refine lv_goto (tgt := 39) hx hb dX11_is_79 (by decide) ?_
                  exact ih_73 (nI 1) (zR_w zk_1 (by decide)) (v_86) (zR_w hv_86 (by decide)) (mIsL_1 hx_70 f_80 mv_86 t_c_83 (mIs_ix (zR_w f_16 (by decide)) (zR_w f_77 (by decide)) ev_81)) (z2_up mv_86 (by decide) hN_72) _ _ hP hD hS _ (lv_sub hl [2, 3, 1, 0] rfl)
        exact loop_71 _ (nI 1) (zR_w zk_1 (by decide)) (nI 0) (zR_w zk_0 (by decide)) (mIsL_0 (mIs_a3 nn_1 t_c_2 ev_9 f_15)) (Nat.lt_succ_self _) _ _ hP hD hS _ (lv_sub hl [2, 3, 1, 0] rfl)
  · cases hu_1
    refine lv_if_eq (tgt := 35) hx hb dX11_is_4 (by decide) (fun _ => ?_) (fun c_0 => absurd (zD_eq zk_0 zk_z) c_0)
    refine lv_iconst (v := nI 0) hx hb dX11_is_35 (by decide +kernel) ?_
    refine lv_istore_n (lv' := [(2, .int (nI 0)), (0, .ref (q 0)), (1, .ref (ad 4))]) hx hb dX11_is_36 rfl hl (by decide) rfl (fun ls hl => ?_)
    refine lv_iconst (v := nI 0) hx hb dX11_is_37 (by decide +kernel) ?_
    refine lv_istore_n (lv' := [(3, .int (nI 0)), (2, .int (nI 0)), (0, .ref (q 0)), (1, .ref (ad 4))]) hx hb dX11_is_38 rfl hl (by decide) rfl (fun ls hl => ?_)
    refine lv_iload_n hx hb dX11_is_39 rfl (lv_at hl 0 rfl) ?_
    refine lv_aload_n hx hb dX11_is_40 rfl (lv_at hl 3 rfl) ?_
    refine z_cNXi (As := []) (rest := [.int (nI 0)]) hx hb hml hown ht (mk_J0_length_8abf5 l D q cA ad av t9 F _ _ _ hI ) hw_6_144 hmJ0_length_8abf5 ⟨rfl, rfl⟩ (na := 0) rfl (by decide +kernel) (by decide) (vk_recv hZ.1 (by decide) hS) hK hP hD hS hA (zSS_c (fun _ _ _ => zMRs_c)) (zSS_w (fun _ _ _ => zMRs_w) hN hsz hS) hl.1 rfl (Nat.le_of_ble_eq_true rfl) ⟨Nat.zero_le _, Nat.zero_le _⟩ dX11_is_41 (fun r_89 I_89 R_89 J_89 H locs hp_89 hP hD hS _ _ => ?_)
    obtain ⟨rfl, hu_89⟩ := hp_89
    cases hu_89
    refine lv_icmp_ge (tgt := 82) hx hb dX11_is_44 (by decide) (fun c_0 => absurd c_0 (zD_nle zk_5 zk_0 (by decide))) (fun _ => ?_)
    refine lv_iload_n hx hb dX11_is_47 rfl (lv_at hl 1 rfl) ?_
    refine lv_if_eq (tgt := 82) hx hb dX11_is_48 (by decide) (fun _ => ?_) (fun c_0 => absurd (zD_eq zk_0 zk_z) c_0)
    refine lv_iload_n hx hb dX11_is_82 rfl (lv_at hl 1 rfl) ?_
    exact z_zret (v := nI 0) hx hb hr hlocks hP hD hS (by decide +kernel) dX11_is_83 (Or.inr ⟨rfl, rfl, (mIs_n1 nn_1)⟩)
set_option maxHeartbeats 4000000 in
set_option maxRecDepth 100000 in
theorem mk_X11_takes (l : Launch) (D : va_G) (q : Nat → Nat) (cA : Nat → ClassId) (ad av : Nat → Nat) (t9 : Nat) (F : Nat → Nat → Int32) (I R : Nat → Nat → Int32) (J : Nat → Nat → Int64) (hI : mInv F (I, R, J))  : zNi (zSS zMRs 25 q ad av t9) l D vwCl (zMtys cA) 25 q (zMd q cA) yX11_takes cX11_takes 3 (some .boolean) ({ frames := 5, cells := 0, slots := 0, locals := 108 } : Room) [.ref (q 0), .ref (ad 4)] (I, R, J) (fun r u => (r = nI 1 ∧ ((mInv F u ∧ (∀ k, k ≠ 0 → u.1 k = I k) ∧ u.2 = (R, J)) ∧ mTr I u.1) ∧ mIs 4 I R) ∨ (r = nI 0 ∧ u = (I, R, J) ∧ ¬ mIs 4 I R)) := by
  intro sz
  refine z_bodyN (by decide +kernel) (Nat.le_of_ble_eq_true rfl) (fun p e s m below meth c ls hx hb hml hr ht hown hlocks hsz hK hP hD hS hN hl => ?_)
  have hA : ∀ a, s.heap.size ≤ a → zA 25 q sz a := fun a h => Or.inr (hsz ▸ h)
  have hl : lv_has ls 3 [(0, .ref (q 0)), (1, .ref (ad 4))] := hl
  have hZ : zSz zMRs 25 q ad av t9 sz s := hsz ▸ hN
  refine lv_aload_n hx hb dX11_takes_0 rfl (lv_at hl 0 rfl) ?_
  refine lv_aload_n hx hb dX11_takes_1 rfl (lv_at hl 1 rfl) ?_
  refine z_cNVi (k := 0) (As := [.ref (ad 4)]) (rest := []) hx hb hml hown ht (mk_X11_is l D q cA ad av t9 F _ _ _ hI ) hw_6_140 hmX11_is ⟨rfl, rfl⟩ (na := 1) rfl (by decide +kernel) (by decide) (by decide) rfl rfl hK hP hD hS hA (zSS_c (fun _ _ _ => zMRs_c)) (zSS_w (fun _ _ _ => zMRs_w) hN hsz hS) hl.1 rfl (Nat.le_of_ble_eq_true rfl) ⟨Nat.zero_le _, Nat.zero_le _⟩ dX11_takes_2 (fun r_1 I_1 R_1 J_1 H locs hp_1 hP hD hS _ _ => ?_)
  rcases hp_1 with ⟨rfl, hu_1, nn_1⟩ | ⟨rfl, hu_1, nn_1⟩
  · cases hu_1
    refine lv_istore_n (lv' := [(2, .int (nI 1)), (0, .ref (q 0)), (1, .ref (ad 4))]) hx hb dX11_takes_5 rfl hl (by decide) rfl (fun ls hl => ?_)
    refine lv_iload_n hx hb dX11_takes_6 rfl (lv_at hl 0 rfl) ?_
    refine lv_if_eq (tgt := 14) hx hb dX11_takes_7 (by decide) (fun c_0 => absurd c_0 (zD_ne zk_1 zk_z (by decide))) (fun _ => ?_)
    refine lv_aload_n hx hb dX11_takes_10 rfl (lv_at hl 1 rfl) ?_
    refine z_callVv (k := 0) (As := []) (rest := []) hx hb hml hown ht (mk_X11_advance l D q cA F _ _ _ hI ) hw_6_109 hmX11_advance ⟨rfl, rfl⟩ (na := 0) rfl (by decide +kernel) (by decide) (by decide) rfl rfl hK hP hD hS hA hl.1 rfl (Nat.le_of_ble_eq_true rfl) ⟨Nat.zero_le _, Nat.zero_le _⟩ dX11_takes_11 (fun I_2 R_2 J_2 H locs hp_2 hP hD hS _ _ => ?_)
    obtain ⟨hq_2, he_2⟩ := hp_2
    try dsimp only at he_2
    obtain ⟨hv_2, hk_2, hj_2⟩ := hq_2
    try dsimp only at hj_2 hk_2
    cases hj_2
    have hf_3 : ∀ k, k ≠ 0 → I_2 k = I k := fun k h => (hk_2 k h).trans ((fun (_ : Nat) _ => rfl) k h)
    refine lv_iload_n hx hb dX11_takes_14 rfl (lv_at hl 0 rfl) ?_
    exact z_zret (v := nI 1) hx hb hr hlocks hP hD hS (by decide +kernel) dX11_takes_15 (Or.inl ⟨rfl, ⟨⟨hv_2, hf_3, rfl⟩, he_2⟩, nn_1⟩)
  · cases hu_1
    refine lv_istore_n (lv' := [(2, .int (nI 0)), (0, .ref (q 0)), (1, .ref (ad 4))]) hx hb dX11_takes_5 rfl hl (by decide) rfl (fun ls hl => ?_)
    refine lv_iload_n hx hb dX11_takes_6 rfl (lv_at hl 0 rfl) ?_
    refine lv_if_eq (tgt := 14) hx hb dX11_takes_7 (by decide) (fun _ => ?_) (fun c_0 => absurd (zD_eq zk_0 zk_z) c_0)
    refine lv_iload_n hx hb dX11_takes_14 rfl (lv_at hl 0 rfl) ?_
    exact z_zret (v := nI 0) hx hb hr hlocks hP hD hS (by decide +kernel) dX11_takes_15 (Or.inr ⟨rfl, rfl, nn_1⟩)
set_option maxHeartbeats 4000000 in
set_option maxRecDepth 100000 in
theorem mk_J0_coder_7d493_1 (l : Launch) (D : va_G) (q : Nat → Nat) (cA : Nat → ClassId) (ad av : Nat → Nat) (t9 : Nat) (F : Nat → Nat → Int32) (I R : Nat → Nat → Int32) (J : Nat → Nat → Int64) (hI : mInv F (I, R, J))  : zNi (zSS zMRs 25 q ad av t9) l D vwCl (zMtys cA) 25 q (zMd q cA) yJ0_coder_7d493 cJ0_coder_7d493 1 (some .byte) ({ frames := 0, cells := 0, slots := 0, locals := 0 } : Room) [.ref (ad 5)] (I, R, J) (fun r u => r = nI 0 ∧ u = (I, R, J)) := by
  intro sz
  refine z_bodyN (by decide +kernel) (Nat.le_of_ble_eq_true rfl) (fun p e s m below meth c ls hx hb hml hr ht hown hlocks hsz hK hP hD hS hN hl => ?_)
  have hA : ∀ a, s.heap.size ≤ a → zA 25 q sz a := fun a h => Or.inr (hsz ▸ h)
  have hl : lv_has ls 1 [(0, .ref (ad 5))] := hl
  have hZ : zSz zMRs 25 q ad av t9 sz s := hsz ▸ hN
  refine va_gets hx hb hZ.2.1 hS hown (ht _ hw_2_195) (fun _ h => h) dJ0_coder_7d493_0 ?_
  refine z_eqi (y := nI 1) rfl ?_
  refine lv_if_eq (tgt := 13) hx hb dJ0_coder_7d493_3 (by decide) (fun c_0 => absurd c_0 (zD_ne zk_1 zk_z (by decide))) (fun _ => ?_)
  refine lv_aload_n hx hb dJ0_coder_7d493_6 rfl (lv_at hl 0 rfl) ?_
  refine vk_getf hx hb (hZ.1.1 5 (by decide)).2.1 hS hown (ht _ hw_8_165) (fun _ h => h) dJ0_coder_7d493_7 ?_
  refine z_eqi (y := nI 0) rfl ?_
  refine lv_goto (tgt := 14) hx hb dJ0_coder_7d493_10 (by decide) ?_
  exact z_zret (v := nI 0) hx hb hr hlocks hP hD hS (by decide +kernel) dJ0_coder_7d493_14 ⟨rfl, rfl⟩
set_option maxHeartbeats 4000000 in
set_option maxRecDepth 100000 in
theorem mk_J0_length_8abf5_1 (l : Launch) (D : va_G) (q : Nat → Nat) (cA : Nat → ClassId) (ad av : Nat → Nat) (t9 : Nat) (F : Nat → Nat → Int32) (I R : Nat → Nat → Int32) (J : Nat → Nat → Int64) (hI : mInv F (I, R, J))  : zNi (zSS zMRs 25 q ad av t9) l D vwCl (zMtys cA) 25 q (zMd q cA) yJ0_length_8abf5 cJ0_length_8abf5 1 (some .int) ({ frames := 1, cells := 0, slots := 0, locals := 20 } : Room) [.ref (ad 5)] (I, R, J) (fun r u => r = nI 5 ∧ u = (I, R, J)) := by
  intro sz
  refine z_bodyN (by decide +kernel) (Nat.le_of_ble_eq_true rfl) (fun p e s m below meth c ls hx hb hml hr ht hown hlocks hsz hK hP hD hS hN hl => ?_)
  have hA : ∀ a, s.heap.size ≤ a → zA 25 q sz a := fun a h => Or.inr (hsz ▸ h)
  have hl : lv_has ls 1 [(0, .ref (ad 5))] := hl
  have hZ : zSz zMRs 25 q ad av t9 sz s := hsz ▸ hN
  refine lv_aload_n hx hb dJ0_length_8abf5_0 rfl (lv_at hl 0 rfl) ?_
  refine vk_getf hx hb (hZ.1.1 5 (by decide)).2.2.1 hS hown (ht _ hw_8_164) (fun _ h => h) dJ0_length_8abf5_1 ?_
  refine va_tlen hx hb (hZ.1.1 5 (by decide)).2.2.2 hS (v := nI 5) rfl dJ0_length_8abf5_4 ?_
  refine lv_aload_n hx hb dJ0_length_8abf5_5 rfl (lv_at hl 0 rfl) ?_
  refine z_cNXi (As := []) (rest := [.int (nI 5)]) hx hb hml hown ht (mk_J0_coder_7d493_1 l D q cA ad av t9 F _ _ _ hI ) hw_2_191 hmJ0_coder_7d493 ⟨rfl, rfl⟩ (na := 0) rfl (by decide +kernel) (by decide) (vk_recv hZ.1 (by decide) hS) hK hP hD hS hA (zSS_c (fun _ _ _ => zMRs_c)) (zSS_w (fun _ _ _ => zMRs_w) hN hsz hS) hl.1 rfl (Nat.le_of_ble_eq_true rfl) ⟨Nat.zero_le _, Nat.zero_le _⟩ dJ0_length_8abf5_6 (fun r_1 I_1 R_1 J_1 H locs hp_1 hP hD hS _ _ => ?_)
  obtain ⟨rfl, hu_1⟩ := hp_1
  cases hu_1
  refine lv_ishr hx hb dJ0_length_8abf5_9 ?_
  refine z_eqi (y := nI 5) (by decide +kernel) ?_
  exact z_iret (v := nI 5) hx hb hr hlocks hP hD hS dJ0_length_8abf5_10 ⟨rfl, rfl⟩
set_option maxHeartbeats 4000000 in
set_option maxRecDepth 100000 in
theorem mk_J0_isLatin1_aae02_1 (l : Launch) (D : va_G) (q : Nat → Nat) (cA : Nat → ClassId) (ad av : Nat → Nat) (t9 : Nat) (F : Nat → Nat → Int32) (I R : Nat → Nat → Int32) (J : Nat → Nat → Int64) (hI : mInv F (I, R, J))  : zNi (zSS zMRs 25 q ad av t9) l D vwCl (zMtys cA) 25 q (zMd q cA) yJ0_isLatin1_aae02 cJ0_isLatin1_aae02 1 (some .boolean) ({ frames := 0, cells := 0, slots := 0, locals := 0 } : Room) [.ref (ad 5)] (I, R, J) (fun r u => (r = nI 1 ∧ u = (I, R, J))) := by
  intro sz
  refine z_bodyN (by decide +kernel) (Nat.le_of_ble_eq_true rfl) (fun p e s m below meth c ls hx hb hml hr ht hown hlocks hsz hK hP hD hS hN hl => ?_)
  have hA : ∀ a, s.heap.size ≤ a → zA 25 q sz a := fun a h => Or.inr (hsz ▸ h)
  have hl : lv_has ls 1 [(0, .ref (ad 5))] := hl
  have hZ : zSz zMRs 25 q ad av t9 sz s := hsz ▸ hN
  refine va_gets hx hb hZ.2.1 hS hown (ht _ hw_2_195) (fun _ h => h) dJ0_isLatin1_aae02_0 ?_
  refine z_eqi (y := nI 1) rfl ?_
  refine lv_if_eq (tgt := 17) hx hb dJ0_isLatin1_aae02_3 (by decide) (fun c_0 => absurd c_0 (zD_ne zk_1 zk_z (by decide))) (fun _ => ?_)
  refine lv_aload_n hx hb dJ0_isLatin1_aae02_6 rfl (lv_at hl 0 rfl) ?_
  refine vk_getf hx hb (hZ.1.1 5 (by decide)).2.1 hS hown (ht _ hw_8_165) (fun _ h => h) dJ0_isLatin1_aae02_7 ?_
  refine z_eqi (y := nI 0) rfl ?_
  refine lv_if_ne (tgt := 17) hx hb dJ0_isLatin1_aae02_10 (by decide) (fun c_0 => absurd (zD_eq zk_0 zk_z) c_0) (fun _ => ?_)
  refine lv_iconst (v := nI 1) hx hb dJ0_isLatin1_aae02_13 (by decide +kernel) ?_
  refine lv_goto (tgt := 18) hx hb dJ0_isLatin1_aae02_14 (by decide) ?_
  exact z_zret (v := nI 1) hx hb hr hlocks hP hD hS (by decide +kernel) dJ0_isLatin1_aae02_18 ⟨rfl, rfl⟩
set_option maxHeartbeats 4000000 in
set_option maxRecDepth 100000 in
theorem mk_J1_charAt_3b067_3 (l : Launch) (D : va_G) (q : Nat → Nat) (cA : Nat → ClassId) (ad av : Nat → Nat) (t9 : Nat) (F : Nat → Nat → Int32) (I R : Nat → Nat → Int32) (J : Nat → Nat → Int64) (hI : mInv F (I, R, J)) (pa1 : Int32) (hpa1 : zR 0 4 pa1) : zNi (zSS zMRs 25 q ad av t9) l D vwCl (zMtys cA) 25 q (zMd q cA) yJ1_charAt_3b067 cJ1_charAt_3b067 2 (some .char) ({ frames := 2, cells := 0, slots := 0, locals := 43 } : Room) [.ref (av 5), .int (pa1)] (I, R, J) (fun r u => (r = zch 5 (pa1).toNatClampNeg ∧ zR 0 65535 r) ∧ u = (I, R, J)) := by
  intro sz
  refine z_bodyN (by decide +kernel) (Nat.le_of_ble_eq_true rfl) (fun p e s m below meth c ls hx hb hml hr ht hown hlocks hsz hK hP hD hS hN hl => ?_)
  have hA : ∀ a, s.heap.size ≤ a → zA 25 q sz a := fun a h => Or.inr (hsz ▸ h)
  have hl : lv_has ls 2 [(0, .ref (av 5)), (1, .int (pa1))] := hl
  have hZ : zSz zMRs 25 q ad av t9 sz s := hsz ▸ hN
  refine lv_iload_n hx hb dJ1_charAt_3b067_0 rfl (lv_at hl 1 rfl) ?_
  refine lv_aload_n hx hb dJ1_charAt_3b067_1 rfl (lv_at hl 0 rfl) ?_
  refine va_tlen hx hb (hZ.1.1 5 (by decide)).2.2.2 hS (v := nI 5) rfl dJ1_charAt_3b067_2 ?_
  refine z_cNSv (As := [.int (pa1), .int (nI 5)]) (rest := []) hx hb hml hown ht (mk_J0_checkIndex_df160_1 l D q cA ad av t9 F _ _ _ hI (pa1) hpa1) hw_2_208 hmJ0_checkIndex_df160 ⟨rfl, rfl⟩ (na := 2) rfl (by decide +kernel) (by decide) hK hP hD hS hA (zSS_c (fun _ _ _ => zMRs_c)) (zSS_w (fun _ _ _ => zMRs_w) hN hsz hS) hl.1 rfl (Nat.le_of_ble_eq_true rfl) ⟨Nat.zero_le _, Nat.zero_le _⟩ dJ1_charAt_3b067_3 (fun I_1 R_1 J_1 H locs hp_1 hP hD hS _ _ => ?_)
  cases hp_1
  refine lv_aload_n hx hb dJ1_charAt_3b067_6 rfl (lv_at hl 0 rfl) ?_
  refine lv_iload_n hx hb dJ1_charAt_3b067_7 rfl (lv_at hl 1 rfl) ?_
  refine va_tb hx hb (hZ.1.1 5 (by decide)).2.2.2 hS (zR_vin hpa1 (by decide)) (v := .int ((zByt.getD 5 []).getD (pa1).toNatClampNeg 0)) rfl dJ1_charAt_3b067_8 ?_
  refine lv_sipush (v := nI 255) hx hb dJ1_charAt_3b067_9 (by decide +kernel) ?_
  refine lv_iand hx hb dJ1_charAt_3b067_12 ?_
  refine lv_i2c (v := ((((zByt.getD 5 []).getD (pa1).toNatClampNeg 0) &&& (nI 255)).toUInt32 % 65536).toInt32) hx hb dJ1_charAt_3b067_13 rfl ?_
  exact z_zret (v := ((((zByt.getD 5 []).getD (pa1).toNatClampNeg 0) &&& (nI 255)).toUInt32 % 65536).toInt32) hx hb hr hlocks hP hD hS (zR_char (zR_i2c _)) dJ1_charAt_3b067_14 ⟨⟨rfl, (zR_i2c _)⟩, rfl⟩
set_option maxHeartbeats 4000000 in
set_option maxRecDepth 100000 in
theorem mk_J0_charAt_5068e_3 (l : Launch) (D : va_G) (q : Nat → Nat) (cA : Nat → ClassId) (ad av : Nat → Nat) (t9 : Nat) (F : Nat → Nat → Int32) (I R : Nat → Nat → Int32) (J : Nat → Nat → Int64) (hI : mInv F (I, R, J)) (pa0 : Int32) (hpa0 : zR 0 4 pa0) : zNi (zSS zMRs 25 q ad av t9) l D vwCl (zMtys cA) 25 q (zMd q cA) yJ0_charAt_5068e cJ0_charAt_5068e 2 (some .char) ({ frames := 3, cells := 0, slots := 0, locals := 64 } : Room) [.ref (ad 5), .int (pa0)] (I, R, J) (fun r u => (r = zch 5 (pa0).toNatClampNeg ∧ zR 0 65535 r) ∧ u = (I, R, J)) := by
  intro sz
  refine z_bodyN (by decide +kernel) (Nat.le_of_ble_eq_true rfl) (fun p e s m below meth c ls hx hb hml hr ht hown hlocks hsz hK hP hD hS hN hl => ?_)
  have hA : ∀ a, s.heap.size ≤ a → zA 25 q sz a := fun a h => Or.inr (hsz ▸ h)
  have hl : lv_has ls 2 [(0, .ref (ad 5)), (1, .int (pa0))] := hl
  have hZ : zSz zMRs 25 q ad av t9 sz s := hsz ▸ hN
  refine lv_aload_n hx hb dJ0_charAt_5068e_0 rfl (lv_at hl 0 rfl) ?_
  refine z_cNXi (As := []) (rest := []) hx hb hml hown ht (mk_J0_isLatin1_aae02_1 l D q cA ad av t9 F _ _ _ hI ) hw_2_201 hmJ0_isLatin1_aae02 ⟨rfl, rfl⟩ (na := 0) rfl (by decide +kernel) (by decide) (vk_recv hZ.1 (by decide) hS) hK hP hD hS hA (zSS_c (fun _ _ _ => zMRs_c)) (zSS_w (fun _ _ _ => zMRs_w) hN hsz hS) hl.1 rfl (Nat.le_of_ble_eq_true rfl) ⟨Nat.zero_le _, Nat.zero_le _⟩ dJ0_charAt_5068e_1 (fun r_1 I_1 R_1 J_1 H locs hp_1 hP hD hS _ _ => ?_)
  obtain ⟨rfl, hu_1⟩ := hp_1
  cases hu_1
  refine lv_if_eq (tgt := 16) hx hb dJ0_charAt_5068e_4 (by decide) (fun c_0 => absurd c_0 (zD_ne zk_1 zk_z (by decide))) (fun _ => ?_)
  refine lv_aload_n hx hb dJ0_charAt_5068e_7 rfl (lv_at hl 0 rfl) ?_
  refine vk_getf hx hb (hZ.1.1 5 (by decide)).2.2.1 hS hown (ht _ hw_8_164) (fun _ h => h) dJ0_charAt_5068e_8 ?_
  refine lv_iload_n hx hb dJ0_charAt_5068e_11 rfl (lv_at hl 1 rfl) ?_
  refine z_cNSi (As := [.ref (av 5), .int (pa0)]) (rest := []) hx hb hml hown ht (mk_J1_charAt_3b067_3 l D q cA ad av t9 F _ _ _ hI (pa0) hpa0) hw_2_205 hmJ1_charAt_3b067 ⟨rfl, rfl⟩ (na := 2) rfl (by decide +kernel) (by decide) hK hP hD hS hA (zSS_c (fun _ _ _ => zMRs_c)) (zSS_w (fun _ _ _ => zMRs_w) hN hsz hS) hl.1 rfl (Nat.le_of_ble_eq_true rfl) ⟨Nat.zero_le _, Nat.zero_le _⟩ dJ0_charAt_5068e_12 (fun r_2 I_2 R_2 J_2 H locs hp_2 hP hD hS _ _ => ?_)
  obtain ⟨⟨rfl, hr_2⟩, hu_2⟩ := hp_2
  cases hu_2
  exact z_zret (v := zch 5 (pa0).toNatClampNeg) hx hb hr hlocks hP hD hS (zR_char hr_2) dJ0_charAt_5068e_15 ⟨⟨rfl, hr_2⟩, rfl⟩
set_option maxHeartbeats 4000000 in
set_option maxRecDepth 100000 in
theorem mk_X11_is_1 (l : Launch) (D : va_G) (q : Nat → Nat) (cA : Nat → ClassId) (ad av : Nat → Nat) (t9 : Nat) (F : Nat → Nat → Int32) (I R : Nat → Nat → Int32) (J : Nat → Nat → Int64) (hI : mInv F (I, R, J))  : zNi (zSS zMRs 25 q ad av t9) l D vwCl (zMtys cA) 25 q (zMd q cA) yX11_is cX11_is 4 (some .boolean) ({ frames := 4, cells := 0, slots := 0, locals := 85 } : Room) [.ref (q 0), .ref (ad 5)] (I, R, J) (fun r u => (r = nI 1 ∧ u = (I, R, J) ∧ mIs 5 I R) ∨ (r = nI 0 ∧ u = (I, R, J) ∧ ¬ mIs 5 I R)) := by
  intro sz
  refine z_bodyN (by decide +kernel) (Nat.le_of_ble_eq_true rfl) (fun p e s m below meth c ls hx hb hml hr ht hown hlocks hsz hK hP hD hS hN hl => ?_)
  have hA : ∀ a, s.heap.size ≤ a → zA 25 q sz a := fun a h => Or.inr (hsz ▸ h)
  have hl : lv_has ls 4 [(0, .ref (q 0)), (1, .ref (ad 5))] := hl
  have hZ : zSz zMRs 25 q ad av t9 sz s := hsz ▸ hN
  refine lv_aload_n hx hb dX11_is_0 rfl (lv_at hl 0 rfl) ?_
  refine z_callVi (k := 0) (As := []) (rest := []) hx hb hml hown ht (mk_X11_good l D q cA F _ _ _ hI ) hw_6_123 hmX11_good ⟨rfl, rfl⟩ (na := 0) rfl (by decide +kernel) (by decide) (by decide) rfl rfl hK hP hD hS hA hl.1 rfl (Nat.le_of_ble_eq_true rfl) ⟨Nat.zero_le _, Nat.zero_le _⟩ dX11_is_1 (fun r_1 I_1 R_1 J_1 H locs hp_1 hP hD hS _ _ => ?_)
  rcases hp_1 with ⟨rfl, hu_1, nn_1⟩ | ⟨rfl, hu_1, nn_1⟩
  · cases hu_1
    refine lv_if_eq (tgt := 35) hx hb dX11_is_4 (by decide) (fun c_0 => absurd c_0 (zD_ne zk_1 zk_z (by decide))) (fun _ => ?_)
    refine lv_aload_n hx hb dX11_is_7 rfl (lv_at hl 0 rfl) ?_
    refine z_get hx hb ht hown hK hP ziX11 rfl 0 (by decide) 10 (by decide) hw_5_197 rfl (v := .int (I 0 10)) rfl dX11_is_8 ?_
    refine lv_iconst (v := nI 1) hx hb dX11_is_11 (by decide +kernel) ?_
    refine lv_icmp_ne (tgt := 35) hx hb dX11_is_12 (by decide) (fun c_2 => ?_) (fun c_2 => ?_)
    · have t_c_2 := z_eqF c_2
      refine lv_iconst (v := nI 0) hx hb dX11_is_35 (by decide +kernel) ?_
      refine lv_istore_n (lv' := [(2, .int (nI 0)), (0, .ref (q 0)), (1, .ref (ad 5))]) hx hb dX11_is_36 rfl hl (by decide) rfl (fun ls hl => ?_)
      refine lv_iconst (v := nI 0) hx hb dX11_is_37 (by decide +kernel) ?_
      refine lv_istore_n (lv' := [(3, .int (nI 0)), (2, .int (nI 0)), (0, .ref (q 0)), (1, .ref (ad 5))]) hx hb dX11_is_38 rfl hl (by decide) rfl (fun ls hl => ?_)
      refine lv_iload_n hx hb dX11_is_39 rfl (lv_at hl 0 rfl) ?_
      refine lv_aload_n hx hb dX11_is_40 rfl (lv_at hl 3 rfl) ?_
      refine z_cNXi (As := []) (rest := [.int (nI 0)]) hx hb hml hown ht (mk_J0_length_8abf5_1 l D q cA ad av t9 F _ _ _ hI ) hw_6_144 hmJ0_length_8abf5 ⟨rfl, rfl⟩ (na := 0) rfl (by decide +kernel) (by decide) (vk_recv hZ.1 (by decide) hS) hK hP hD hS hA (zSS_c (fun _ _ _ => zMRs_c)) (zSS_w (fun _ _ _ => zMRs_w) hN hsz hS) hl.1 rfl (Nat.le_of_ble_eq_true rfl) ⟨Nat.zero_le _, Nat.zero_le _⟩ dX11_is_41 (fun r_5 I_5 R_5 J_5 H locs hp_5 hP hD hS _ _ => ?_)
      obtain ⟨rfl, hu_5⟩ := hp_5
      cases hu_5
      refine lv_icmp_ge (tgt := 82) hx hb dX11_is_44 (by decide) (fun c_0 => absurd c_0 (zD_nle zk_5 zk_0 (by decide))) (fun _ => ?_)
      refine lv_iload_n hx hb dX11_is_47 rfl (lv_at hl 1 rfl) ?_
      refine lv_if_eq (tgt := 82) hx hb dX11_is_48 (by decide) (fun _ => ?_) (fun c_0 => absurd (zD_eq zk_0 zk_z) c_0)
      refine lv_iload_n hx hb dX11_is_82 rfl (lv_at hl 1 rfl) ?_
      exact z_zret (v := nI 0) hx hb hr hlocks hP hD hS (by decide +kernel) dX11_is_83 (Or.inr ⟨rfl, rfl, (mIs_n2 t_c_2)⟩)
    · have t_c_2 := z_eqT c_2
      have f_6 : zR 1 1 (I 0 10) := zR_eqx t_c_2 zk_1
      refine lv_aload_n hx hb dX11_is_15 rfl (lv_at hl 0 rfl) ?_
      refine z_get hx hb ht hown hK hP ziX11 rfl 0 (by decide) 8 (by decide) hw_5_195 rfl (v := .int (I 0 8)) rfl dX11_is_16 ?_
      have f_7 : zR 0 800 (I 0 8) := mI hI 0 8
      refine lv_aload_n hx hb dX11_is_19 rfl (lv_at hl 0 rfl) ?_
      refine z_get hx hb ht hown hK hP ziX11 rfl 0 (by decide) 9 (by decide) hw_5_196 rfl (v := .int (I 0 9)) rfl dX11_is_20 ?_
      have f_8 : zR 0 800 (I 0 9) := mI hI 0 9
      refine lv_isub hx hb dX11_is_23 ?_
      refine lv_topi (fun v_9 ev_9 => ?_)
      have hv_9 : zR (-800) 800 v_9 := ev_9 ▸ zR_sub f_7 f_8 (by decide)
      refine lv_aload_n hx hb dX11_is_24 rfl (lv_at hl 1 rfl) ?_
      refine z_cNXi (As := []) (rest := [.int (v_9)]) hx hb hml hown ht (mk_J0_length_8abf5_1 l D q cA ad av t9 F _ _ _ hI ) hw_6_144 hmJ0_length_8abf5 ⟨rfl, rfl⟩ (na := 0) rfl (by decide +kernel) (by decide) (vk_recv hZ.1 (by decide) hS) hK hP hD hS hA (zSS_c (fun _ _ _ => zMRs_c)) (zSS_w (fun _ _ _ => zMRs_w) hN hsz hS) hl.1 rfl (Nat.le_of_ble_eq_true rfl) ⟨Nat.zero_le _, Nat.zero_le _⟩ dX11_is_25 (fun r_10 I_10 R_10 J_10 H locs hp_10 hP hD hS _ _ => ?_)
      obtain ⟨rfl, hu_10⟩ := hp_10
      cases hu_10
      refine lv_icmp_ne (tgt := 35) hx hb dX11_is_28 (by decide) (fun c_11 => ?_) (fun c_11 => ?_)
      · have t_c_11 := z_eqF c_11
        refine lv_iconst (v := nI 0) hx hb dX11_is_35 (by decide +kernel) ?_
        refine lv_istore_n (lv' := [(2, .int (nI 0)), (0, .ref (q 0)), (1, .ref (ad 5))]) hx hb dX11_is_36 rfl hl (by decide) rfl (fun ls hl => ?_)
        refine lv_iconst (v := nI 0) hx hb dX11_is_37 (by decide +kernel) ?_
        refine lv_istore_n (lv' := [(3, .int (nI 0)), (2, .int (nI 0)), (0, .ref (q 0)), (1, .ref (ad 5))]) hx hb dX11_is_38 rfl hl (by decide) rfl (fun ls hl => ?_)
        refine lv_iload_n hx hb dX11_is_39 rfl (lv_at hl 0 rfl) ?_
        refine lv_aload_n hx hb dX11_is_40 rfl (lv_at hl 3 rfl) ?_
        refine z_cNXi (As := []) (rest := [.int (nI 0)]) hx hb hml hown ht (mk_J0_length_8abf5_1 l D q cA ad av t9 F _ _ _ hI ) hw_6_144 hmJ0_length_8abf5 ⟨rfl, rfl⟩ (na := 0) rfl (by decide +kernel) (by decide) (vk_recv hZ.1 (by decide) hS) hK hP hD hS hA (zSS_c (fun _ _ _ => zMRs_c)) (zSS_w (fun _ _ _ => zMRs_w) hN hsz hS) hl.1 rfl (Nat.le_of_ble_eq_true rfl) ⟨Nat.zero_le _, Nat.zero_le _⟩ dX11_is_41 (fun r_14 I_14 R_14 J_14 H locs hp_14 hP hD hS _ _ => ?_)
        obtain ⟨rfl, hu_14⟩ := hp_14
        cases hu_14
        refine lv_icmp_ge (tgt := 82) hx hb dX11_is_44 (by decide) (fun c_0 => absurd c_0 (zD_nle zk_5 zk_0 (by decide))) (fun _ => ?_)
        refine lv_iload_n hx hb dX11_is_47 rfl (lv_at hl 1 rfl) ?_
        refine lv_if_eq (tgt := 82) hx hb dX11_is_48 (by decide) (fun _ => ?_) (fun c_0 => absurd (zD_eq zk_0 zk_z) c_0)
        refine lv_iload_n hx hb dX11_is_82 rfl (lv_at hl 1 rfl) ?_
        exact z_zret (v := nI 0) hx hb hr hlocks hP hD hS (by decide +kernel) dX11_is_83 (Or.inr ⟨rfl, rfl, (mIs_n3 ev_9 t_c_11)⟩)
      · have t_c_11 := z_eqT c_11
        have f_15 : zR 5 5 (v_9) := zR_eqx t_c_11 zk_5
        have f_16 : zR 0 795 (I 0 9) := z_start f_7 f_8 ev_9 f_15 (by decide)
        refine lv_iconst (v := nI 1) hx hb dX11_is_31 (by decide +kernel) ?_
        refine lv_goto (tgt := 36) hx hb dX11_is_32 (by decide) ?_
        refine lv_istore_n (lv' := [(2, .int (nI 1)), (0, .ref (q 0)), (1, .ref (ad 5))]) hx hb dX11_is_36 rfl hl (by decide) rfl (fun ls hl => ?_)
        refine lv_iconst (v := nI 0) hx hb dX11_is_37 (by decide +kernel) ?_
        refine lv_istore_n (lv' := [(3, .int (nI 0)), (2, .int (nI 1)), (0, .ref (q 0)), (1, .ref (ad 5))]) hx hb dX11_is_38 rfl hl (by decide) rfl (fun ls hl => ?_)
        have loop_71 : ∀ N : Nat, ∀ x_68 : Int32, zR 0 1 x_68 → ∀ x_69 : Int32, zR 0 5 x_69 → (mIsL 5 I R (x_69) (x_68)) → (2147483648 - (x_69).toInt).toNat < N → ∀ (H : Heap) (locs : List Loc), va_P D vwCl (zw 25 q (zMd q cA) I R J) H → va_D (zA 25 q sz) (zw 25 q (zMd q cA) I R J) → va_S (zA 25 q sz) s.heap H locs → ∀ ls : Array Slot, lv_has ls 4 [(0, .ref (q 0)), (1, .ref (ad 5)), (2, .int (x_68)), (3, .int (x_69))] → W p l e ({ frames := 4, cells := 0, slots := 0, locals := 85 } : Room) s m ([.ref (q 0), .ref (ad 5)] : List Value).toArray below meth c H locs 0 0 (MQ below (va_Qi (fun r u => (r = nI 1 ∧ u = (I, R, J) ∧ mIs 5 I R) ∨ (r = nI 0 ∧ u = (I, R, J) ∧ ¬ mIs 5 I R)) (zB D vwCl 25 q (zMd q cA) sz) (zA 25 q sz)) ([.ref (q 0), .ref (ad 5)] : List Value).toArray s 0 0 (zA 25 q sz)) (F0 m 39 ls []) := by
          intro N
          induction N with
          | zero => intro x_68 hx_68 x_69 hx_69 hx_70 hN; exact absurd hN (Nat.not_lt_zero _)
          | succ N ih_73 =>
            intro x_68 hx_68 x_69 hx_69 hx_70 hN_72 H locs hP hD hS ls hl
            refine lv_iload_n hx hb dX11_is_39 rfl (lv_at hl 3 rfl) ?_
            refine lv_aload_n hx hb dX11_is_40 rfl (lv_at hl 1 rfl) ?_
            refine z_cNXi (As := []) (rest := [.int (x_69)]) hx hb hml hown ht (mk_J0_length_8abf5_1 l D q cA ad av t9 F _ _ _ hI ) hw_6_144 hmJ0_length_8abf5 ⟨rfl, rfl⟩ (na := 0) rfl (by decide +kernel) (by decide) (vk_recv hZ.1 (by decide) hS) hK hP hD hS hA (zSS_c (fun _ _ _ => zMRs_c)) (zSS_w (fun _ _ _ => zMRs_w) hN hsz hS) hl.1 rfl (Nat.le_of_ble_eq_true rfl) ⟨Nat.zero_le _, Nat.zero_le _⟩ dX11_is_41 (fun r_74 I_74 R_74 J_74 H locs hp_74 hP hD hS _ _ => ?_)
            obtain ⟨rfl, hu_74⟩ := hp_74
            cases hu_74
            refine lv_icmp_ge (tgt := 82) hx hb dX11_is_44 (by decide) (fun c_75 => ?_) (fun c_75 => ?_)
            · have t_c_75 := z_leT c_75
              have f_76 : zR 5 5 (x_69) := zR_ley t_c_75 zk_5 hx_69 (by decide)
              refine lv_iload_n hx hb dX11_is_82 rfl (lv_at hl 2 rfl) ?_
              exact z_zret (v := x_68) hx hb hr hlocks hP hD hS (zR_bool hx_68 (by decide)).1 dX11_is_83 (mIs_r1 hx_70 hx_68 t_c_75)
            · have t_c_75 := z_leF c_75
              have f_77 : zR 0 4 (x_69) := zR_ltx t_c_75 hx_69 zk_5 (by decide)
              refine lv_iload_n hx hb dX11_is_47 rfl (lv_at hl 2 rfl) ?_
              refine lv_if_eq (tgt := 82) hx hb dX11_is_48 (by decide) (fun c_78 => ?_) (fun c_78 => ?_)
              · have t_c_78 := z_eqT c_78
                have f_79 : zR 0 0 (x_68) := zR_eqx t_c_78 zk_z
                refine lv_iload_n hx hb dX11_is_82 rfl (lv_at hl 2 rfl) ?_
                exact z_zret (v := x_68) hx hb hr hlocks hP hD hS (zR_bool (zR_w f_79 (by decide)) (by decide)).1 dX11_is_83 (mIs_r0 hx_70 f_79)
              · have t_c_78 := z_eqF c_78
                have f_80 : zR 1 1 (x_68) := zR_nex t_c_78 hx_68 zk_z (by decide)
                refine lv_aload_n hx hb dX11_is_51 rfl (lv_at hl 0 rfl) ?_
                refine z_get hx hb ht hown hK hP ziX11 rfl 0 (by decide) 4 (by decide) hw_5_191 rfl (v := .ref (q 4)) rfl dX11_is_52 ?_
                refine lv_aload_n hx hb dX11_is_55 rfl (lv_at hl 0 rfl) ?_
                refine z_get hx hb ht hown hK hP ziX11 rfl 0 (by decide) 9 (by decide) hw_5_196 rfl (v := .int (I 0 9)) rfl dX11_is_56 ?_
                refine lv_iload_n hx hb dX11_is_59 rfl (lv_at hl 3 rfl) ?_
                refine lv_iadd hx hb dX11_is_60 ?_
                refine lv_topi (fun v_81 ev_81 => ?_)
                have hv_81 : zR 0 799 v_81 := ev_81 ▸ zR_add f_16 f_77 (by decide)
                refine z_bald hx hb hK hP 4 (by decide) 3 rfl rfl (zR_vin hv_81 (by decide)) dX11_is_61 ?_
                refine z_eqi (y := R 4 (v_81).toNatClampNeg) rfl ?_
                refine lv_aload_n hx hb dX11_is_62 rfl (lv_at hl 1 rfl) ?_
                refine lv_iload_n hx hb dX11_is_63 rfl (lv_at hl 3 rfl) ?_
                refine z_cNXi (As := [.int (x_69)]) (rest := [.int (R 4 (v_81).toNatClampNeg)]) hx hb hml hown ht (mk_J0_charAt_5068e_3 l D q cA ad av t9 F _ _ _ hI (x_69) f_77) hw_6_145 hmJ0_charAt_5068e ⟨rfl, rfl⟩ (na := 1) rfl (by decide +kernel) (by decide) (vk_recv hZ.1 (by decide) hS) hK hP hD hS hA (zSS_c (fun _ _ _ => zMRs_c)) (zSS_w (fun _ _ _ => zMRs_w) hN hsz hS) hl.1 rfl (Nat.le_of_ble_eq_true rfl) ⟨Nat.zero_le _, Nat.zero_le _⟩ dX11_is_64 (fun r_82 I_82 R_82 J_82 H locs hp_82 hP hD hS _ _ => ?_)
                obtain ⟨⟨rfl, hr_82⟩, hu_82⟩ := hp_82
                cases hu_82
                refine lv_icmp_ne (tgt := 74) hx hb dX11_is_67 (by decide) (fun c_83 => ?_) (fun c_83 => ?_)
                · have t_c_83 := z_eqF c_83
                  refine lv_iconst (v := nI 0) hx hb dX11_is_74 (by decide +kernel) ?_
                  refine lv_istore_n (lv' := [(2, .int (nI 0)), (0, .ref (q 0)), (1, .ref (ad 5)), (3, .int (x_69))]) hx hb dX11_is_75 rfl hl (by decide) rfl (fun ls hl => ?_)
                  obtain ⟨v_84, ev_84⟩ : ∃ y : Int32, y = x_69 + nI 1 := ⟨_, rfl⟩
                  have hv_84 : zR 1 5 v_84 := ev_84 ▸ zR_add f_77 zk_1 (by decide)
                  have mv_84 : v_84.toInt = (x_69).toInt + 1 := by rw [ev_84, zR_addE f_77 zk_1 (by decide)]; rfl
                  refine lv_iinc (v := v_84) (lv' := [(3, .int (v_84)), (2, .int (nI 0)), (0, .ref (q 0)), (1, .ref (ad 5))]) hx hb dX11_is_76 hl (k := 3) rfl (ev_84 ▸ rfl) (by decide) rfl (fun ls hl => ?_)
                  refine lv_goto (tgt := 39) hx hb dX11_is_79 (by decide) ?_
                  exact ih_73 (nI 0) (zR_w zk_0 (by decide)) (v_84) (zR_w hv_84 (by decide)) (mIsL_n hx_70 f_80 t_c_75 t_c_83 (mIs_ix (zR_w f_16 (by decide)) (zR_w f_77 (by decide)) ev_81)) (z2_up mv_84 (by decide) hN_72) _ _ hP hD hS _ (lv_sub hl [2, 3, 1, 0] rfl)
                · have t_c_83 := z_eqT c_83
                  have f_85 : zR 0 65535 (R 4 (v_81).toNatClampNeg) := zR_eqx t_c_83 hr_82
                  refine lv_iconst (v := nI 1) hx hb dX11_is_70 (by decide +kernel) ?_
                  refine lv_goto (tgt := 75) hx hb dX11_is_71 (by decide) ?_
                  refine lv_istore_n (lv' := [(2, .int (nI 1)), (0, .ref (q 0)), (1, .ref (ad 5)), (3, .int (x_69))]) hx hb dX11_is_75 rfl hl (by decide) rfl (fun ls hl => ?_)
                  obtain ⟨v_86, ev_86⟩ : ∃ y : Int32, y = x_69 + nI 1 := ⟨_, rfl⟩
                  have hv_86 : zR 1 5 v_86 := ev_86 ▸ zR_add f_77 zk_1 (by decide)
                  have mv_86 : v_86.toInt = (x_69).toInt + 1 := by rw [ev_86, zR_addE f_77 zk_1 (by decide)]; rfl
                  refine lv_iinc (v := v_86) (lv' := [(3, .int (v_86)), (2, .int (nI 1)), (0, .ref (q 0)), (1, .ref (ad 5))]) hx hb dX11_is_76 hl (k := 3) rfl (ev_86 ▸ rfl) (by decide) rfl (fun ls hl => ?_)
                  refine lv_goto (tgt := 39) hx hb dX11_is_79 (by decide) ?_
                  exact ih_73 (nI 1) (zR_w zk_1 (by decide)) (v_86) (zR_w hv_86 (by decide)) (mIsL_1 hx_70 f_80 mv_86 t_c_83 (mIs_ix (zR_w f_16 (by decide)) (zR_w f_77 (by decide)) ev_81)) (z2_up mv_86 (by decide) hN_72) _ _ hP hD hS _ (lv_sub hl [2, 3, 1, 0] rfl)
        exact loop_71 _ (nI 1) (zR_w zk_1 (by decide)) (nI 0) (zR_w zk_0 (by decide)) (mIsL_0 (mIs_a3 nn_1 t_c_2 ev_9 f_15)) (Nat.lt_succ_self _) _ _ hP hD hS _ (lv_sub hl [2, 3, 1, 0] rfl)
  · cases hu_1
    refine lv_if_eq (tgt := 35) hx hb dX11_is_4 (by decide) (fun _ => ?_) (fun c_0 => absurd (zD_eq zk_0 zk_z) c_0)
    refine lv_iconst (v := nI 0) hx hb dX11_is_35 (by decide +kernel) ?_
    refine lv_istore_n (lv' := [(2, .int (nI 0)), (0, .ref (q 0)), (1, .ref (ad 5))]) hx hb dX11_is_36 rfl hl (by decide) rfl (fun ls hl => ?_)
    refine lv_iconst (v := nI 0) hx hb dX11_is_37 (by decide +kernel) ?_
    refine lv_istore_n (lv' := [(3, .int (nI 0)), (2, .int (nI 0)), (0, .ref (q 0)), (1, .ref (ad 5))]) hx hb dX11_is_38 rfl hl (by decide) rfl (fun ls hl => ?_)
    refine lv_iload_n hx hb dX11_is_39 rfl (lv_at hl 0 rfl) ?_
    refine lv_aload_n hx hb dX11_is_40 rfl (lv_at hl 3 rfl) ?_
    refine z_cNXi (As := []) (rest := [.int (nI 0)]) hx hb hml hown ht (mk_J0_length_8abf5_1 l D q cA ad av t9 F _ _ _ hI ) hw_6_144 hmJ0_length_8abf5 ⟨rfl, rfl⟩ (na := 0) rfl (by decide +kernel) (by decide) (vk_recv hZ.1 (by decide) hS) hK hP hD hS hA (zSS_c (fun _ _ _ => zMRs_c)) (zSS_w (fun _ _ _ => zMRs_w) hN hsz hS) hl.1 rfl (Nat.le_of_ble_eq_true rfl) ⟨Nat.zero_le _, Nat.zero_le _⟩ dX11_is_41 (fun r_89 I_89 R_89 J_89 H locs hp_89 hP hD hS _ _ => ?_)
    obtain ⟨rfl, hu_89⟩ := hp_89
    cases hu_89
    refine lv_icmp_ge (tgt := 82) hx hb dX11_is_44 (by decide) (fun c_0 => absurd c_0 (zD_nle zk_5 zk_0 (by decide))) (fun _ => ?_)
    refine lv_iload_n hx hb dX11_is_47 rfl (lv_at hl 1 rfl) ?_
    refine lv_if_eq (tgt := 82) hx hb dX11_is_48 (by decide) (fun _ => ?_) (fun c_0 => absurd (zD_eq zk_0 zk_z) c_0)
    refine lv_iload_n hx hb dX11_is_82 rfl (lv_at hl 1 rfl) ?_
    exact z_zret (v := nI 0) hx hb hr hlocks hP hD hS (by decide +kernel) dX11_is_83 (Or.inr ⟨rfl, rfl, (mIs_n1 nn_1)⟩)
set_option maxHeartbeats 4000000 in
set_option maxRecDepth 100000 in
theorem mk_X11_takes_1 (l : Launch) (D : va_G) (q : Nat → Nat) (cA : Nat → ClassId) (ad av : Nat → Nat) (t9 : Nat) (F : Nat → Nat → Int32) (I R : Nat → Nat → Int32) (J : Nat → Nat → Int64) (hI : mInv F (I, R, J))  : zNi (zSS zMRs 25 q ad av t9) l D vwCl (zMtys cA) 25 q (zMd q cA) yX11_takes cX11_takes 3 (some .boolean) ({ frames := 5, cells := 0, slots := 0, locals := 108 } : Room) [.ref (q 0), .ref (ad 5)] (I, R, J) (fun r u => (r = nI 1 ∧ ((mInv F u ∧ (∀ k, k ≠ 0 → u.1 k = I k) ∧ u.2 = (R, J)) ∧ mTr I u.1) ∧ mIs 5 I R) ∨ (r = nI 0 ∧ u = (I, R, J) ∧ ¬ mIs 5 I R)) := by
  intro sz
  refine z_bodyN (by decide +kernel) (Nat.le_of_ble_eq_true rfl) (fun p e s m below meth c ls hx hb hml hr ht hown hlocks hsz hK hP hD hS hN hl => ?_)
  have hA : ∀ a, s.heap.size ≤ a → zA 25 q sz a := fun a h => Or.inr (hsz ▸ h)
  have hl : lv_has ls 3 [(0, .ref (q 0)), (1, .ref (ad 5))] := hl
  have hZ : zSz zMRs 25 q ad av t9 sz s := hsz ▸ hN
  refine lv_aload_n hx hb dX11_takes_0 rfl (lv_at hl 0 rfl) ?_
  refine lv_aload_n hx hb dX11_takes_1 rfl (lv_at hl 1 rfl) ?_
  refine z_cNVi (k := 0) (As := [.ref (ad 5)]) (rest := []) hx hb hml hown ht (mk_X11_is_1 l D q cA ad av t9 F _ _ _ hI ) hw_6_140 hmX11_is ⟨rfl, rfl⟩ (na := 1) rfl (by decide +kernel) (by decide) (by decide) rfl rfl hK hP hD hS hA (zSS_c (fun _ _ _ => zMRs_c)) (zSS_w (fun _ _ _ => zMRs_w) hN hsz hS) hl.1 rfl (Nat.le_of_ble_eq_true rfl) ⟨Nat.zero_le _, Nat.zero_le _⟩ dX11_takes_2 (fun r_1 I_1 R_1 J_1 H locs hp_1 hP hD hS _ _ => ?_)
  rcases hp_1 with ⟨rfl, hu_1, nn_1⟩ | ⟨rfl, hu_1, nn_1⟩
  · cases hu_1
    refine lv_istore_n (lv' := [(2, .int (nI 1)), (0, .ref (q 0)), (1, .ref (ad 5))]) hx hb dX11_takes_5 rfl hl (by decide) rfl (fun ls hl => ?_)
    refine lv_iload_n hx hb dX11_takes_6 rfl (lv_at hl 0 rfl) ?_
    refine lv_if_eq (tgt := 14) hx hb dX11_takes_7 (by decide) (fun c_0 => absurd c_0 (zD_ne zk_1 zk_z (by decide))) (fun _ => ?_)
    refine lv_aload_n hx hb dX11_takes_10 rfl (lv_at hl 1 rfl) ?_
    refine z_callVv (k := 0) (As := []) (rest := []) hx hb hml hown ht (mk_X11_advance l D q cA F _ _ _ hI ) hw_6_109 hmX11_advance ⟨rfl, rfl⟩ (na := 0) rfl (by decide +kernel) (by decide) (by decide) rfl rfl hK hP hD hS hA hl.1 rfl (Nat.le_of_ble_eq_true rfl) ⟨Nat.zero_le _, Nat.zero_le _⟩ dX11_takes_11 (fun I_2 R_2 J_2 H locs hp_2 hP hD hS _ _ => ?_)
    obtain ⟨hq_2, he_2⟩ := hp_2
    try dsimp only at he_2
    obtain ⟨hv_2, hk_2, hj_2⟩ := hq_2
    try dsimp only at hj_2 hk_2
    cases hj_2
    have hf_3 : ∀ k, k ≠ 0 → I_2 k = I k := fun k h => (hk_2 k h).trans ((fun (_ : Nat) _ => rfl) k h)
    refine lv_iload_n hx hb dX11_takes_14 rfl (lv_at hl 0 rfl) ?_
    exact z_zret (v := nI 1) hx hb hr hlocks hP hD hS (by decide +kernel) dX11_takes_15 (Or.inl ⟨rfl, ⟨⟨hv_2, hf_3, rfl⟩, he_2⟩, nn_1⟩)
  · cases hu_1
    refine lv_istore_n (lv' := [(2, .int (nI 0)), (0, .ref (q 0)), (1, .ref (ad 5))]) hx hb dX11_takes_5 rfl hl (by decide) rfl (fun ls hl => ?_)
    refine lv_iload_n hx hb dX11_takes_6 rfl (lv_at hl 0 rfl) ?_
    refine lv_if_eq (tgt := 14) hx hb dX11_takes_7 (by decide) (fun _ => ?_) (fun c_0 => absurd (zD_eq zk_0 zk_z) c_0)
    refine lv_iload_n hx hb dX11_takes_14 rfl (lv_at hl 0 rfl) ?_
    exact z_zret (v := nI 0) hx hb hr hlocks hP hD hS (by decide +kernel) dX11_takes_15 (Or.inr ⟨rfl, rfl, nn_1⟩)
set_option maxHeartbeats 4000000 in
set_option maxRecDepth 100000 in
theorem mk_X11_errs (l : Launch) (D : va_G) (q : Nat → Nat) (cA : Nat → ClassId) (F : Nat → Nat → Int32) (I R : Nat → Nat → Int32) (J : Nat → Nat → Int64) (hI : mInv F (I, R, J))  : zMv l D vwCl (zMtys cA) 25 q (zMd q cA) yX11_errs cX11_errs 2 none ({ frames := 1, cells := 0, slots := 0, locals := 20 } : Room) [.ref (q 0), .int (nI 1)] (I, R, J) (fun u => (mInv F u ∧ (∀ k, k ≠ 0 → u.1 k = I k) ∧ u.2 = (R, J)) ∧ zR 1 3 (u.1 0 12)) := by
  intro sz
  refine z_body (by decide +kernel) (Nat.le_of_ble_eq_true rfl) (fun p e s m below meth c ls hx hb hml hr ht hown hlocks hsz hK hP hD hS hl => ?_)
  have hA : ∀ a, s.heap.size ≤ a → zA 25 q sz a := fun a h => Or.inr (hsz ▸ h)
  have hl : lv_has ls 2 [(0, .ref (q 0)), (1, .int (nI 1))] := hl
  refine lv_aload_n hx hb dX11_errs_0 rfl (lv_at hl 0 rfl) ?_
  refine z_callVi (k := 0) (As := []) (rest := []) hx hb hml hown ht (mk_X11_good l D q cA F _ _ _ hI ) hw_6_123 hmX11_good ⟨rfl, rfl⟩ (na := 0) rfl (by decide +kernel) (by decide) (by decide) rfl rfl hK hP hD hS hA hl.1 rfl (Nat.le_of_ble_eq_true rfl) ⟨Nat.zero_le _, Nat.zero_le _⟩ dX11_errs_1 (fun r_1 I_1 R_1 J_1 H locs hp_1 hP hD hS _ _ => ?_)
  rcases hp_1 with ⟨rfl, hu_1, nn_1⟩ | ⟨rfl, hu_1, nn_1⟩
  · cases hu_1
    refine lv_if_ne (tgt := 8) hx hb dX11_errs_4 (by decide) (fun _ => ?_) (fun c_0 => absurd c_0 (zD_ne zk_1 zk_z (by decide)))
    refine lv_aload_n hx hb dX11_errs_8 rfl (lv_at hl 0 rfl) ?_
    refine lv_iload_n hx hb dX11_errs_9 rfl (lv_at hl 1 rfl) ?_
    refine z_putI hx hb ht hown hK hP hD hS ziX11 tyX11 tyX11_ok nmX11 rfl 0 (by decide) 12 (by decide) hw_5_199 rfl (v := nI 1) rfl rfl rfl (Nat.le_of_ble_eq_true rfl) rfl dX11_errs_10 (fun H locs hP hD hS => ?_)
    have hI_2 := mInv_I hI 0 12 (nI 1) (zR_w zk_1 (by decide)) rfl
    have hf_3 : ∀ k, k ≠ 0 → (zp I 0 12 (nI 1)) k = I k := fun k h => (zp_nk h).trans ((fun (_ : Nat) _ => rfl) k h)
    refine lv_aload_n hx hb dX11_errs_13 rfl (lv_at hl 0 rfl) ?_
    refine lv_aload_n hx hb dX11_errs_14 rfl (lv_at hl 0 rfl) ?_
    refine z_get hx hb ht hown hK hP ziX11 rfl 0 (by decide) 9 (by decide) hw_5_196 rfl (v := .int (I 0 9)) rfl dX11_errs_15 ?_
    have f_4 : zR 0 800 (I 0 9) := mI hI 0 9
    refine z_putI hx hb ht hown hK hP hD hS ziX11 tyX11 tyX11_ok nmX11 rfl 0 (by decide) 13 (by decide) hw_5_200 rfl (v := I 0 9) rfl rfl rfl (Nat.le_of_ble_eq_true rfl) rfl dX11_errs_18 (fun H locs hP hD hS => ?_)
    have hI_5 := mInv_I hI_2 0 13 (I 0 9) (zR_any (I 0 9)) rfl
    have hf_6 : ∀ k, k ≠ 0 → (zp (zp I 0 12 (nI 1)) 0 13 (I 0 9)) k = I k := fun k h => (zp_nk h).trans (hf_3 k h)
    exact z_vret hx hb hr hlocks hP hD hS dX11_errs_21 ⟨⟨hI_5, hf_6, rfl⟩, (zR_w zk_1 (by decide))⟩
  · cases hu_1
    refine lv_if_ne (tgt := 8) hx hb dX11_errs_4 (by decide) (fun c_0 => absurd (zD_eq zk_0 zk_z) c_0) (fun _ => ?_)
    exact z_vret hx hb hr hlocks hP hD hS dX11_errs_7 ⟨⟨hI, (fun (_ : Nat) _ => rfl), rfl⟩, nn_1⟩
