set_option maxHeartbeats 4000000 in
set_option maxRecDepth 100000 in
theorem mk_X11_feed (l : Launch) (D : va_G) (q : Nat → Nat) (cA : Nat → ClassId) (F : Nat → Nat → Int32) (I R : Nat → Nat → Int32) (J : Nat → Nat → Int64) (hI : mInv F (I, R, J)) (pa0 : Int32) (pa1 : Int32) (pa2 : Int32) (pa3 : Int32) (pa4 : Int32) : zMi l D vwCl (zMtys cA) 25 q (zMd q cA) yX11_feed cX11_feed 7 (some .int) ({ frames := 0, cells := 0, slots := 0, locals := 0 } : Room) [.ref (q 0), .int (pa0), .int (pa1), .int (pa2), .int (pa3), .int (pa4)] (I, R, J) (fun r u => zR (-1) 800 r ∧ (mInv F u ∧ u.2.2 = J)) := by
  intro sz
  refine z_body (by decide +kernel) (Nat.le_of_ble_eq_true rfl) (fun p e s m below meth c ls hx hb hml hr ht hown hlocks hsz hK hP hD hS hl => ?_)
  have hA : ∀ a, s.heap.size ≤ a → zA 25 q sz a := fun a h => Or.inr (hsz ▸ h)
  have hl : lv_has ls 7 [(0, .ref (q 0)), (1, .int (pa0)), (2, .int (pa1)), (3, .int (pa2)), (4, .int (pa3)), (5, .int (pa4))] := hl
  refine lv_aload_n hx hb dX11_feed_0 rfl (lv_at hl 0 rfl) ?_
  refine z_get hx hb ht hown hK hP ziX11 rfl 0 (by decide) 5 (by decide) hw_5_192 rfl (v := .int (I 0 5)) rfl dX11_feed_1 ?_
  have f_1 : zR 0 800 (I 0 5) := mI hI 0 5
  refine lv_bipush (v := nI 20) hx hb dX11_feed_4 (by decide +kernel) ?_
  refine lv_iadd hx hb dX11_feed_6 ?_
  refine z_addc 20 820 f_1 zk_20 (by decide) (fun v_2 hv_2 mv_2 => ?_)
  refine lv_sipush (v := nI 800) hx hb dX11_feed_7 (by decide +kernel) ?_
  refine lv_icmp_le (tgt := 15) hx hb dX11_feed_10 (by decide) (fun c_3 => ?_) (fun c_3 => ?_)
  · have t_c_3 := z_leT c_3
    have f_4 : zR 20 800 (v_2) := zR_lex t_c_3 hv_2 zk_800 (by decide)
    have f_5 : zR 0 780 (I 0 5) := zR_shift mv_2 f_4 (by decide)
    refine lv_aload_n hx hb dX11_feed_15 rfl (lv_at hl 0 rfl) ?_
    refine z_get hx hb ht hown hK hP ziX11 rfl 0 (by decide) 6 (by decide) hw_5_193 rfl (v := .ref (q 5)) rfl dX11_feed_16 ?_
    refine lv_iconst (v := nI 0) hx hb dX11_feed_19 (by decide +kernel) ?_
    refine lv_iload_n hx hb dX11_feed_20 rfl (lv_at hl 1 rfl) ?_
    refine z_iast hx hb hK hP hD hS 5 (by decide) 4 (fun _ => rfl) rfl (zR_vin zk_0 (by decide)) dX11_feed_21 (fun H locs hP hD hS => ?_)
    have hI_6 := mInv_R hI 5 (nI 0).toNatClampNeg (pa0) (zR_any _) rfl
    refine lv_aload_n hx hb dX11_feed_22 rfl (lv_at hl 0 rfl) ?_
    refine z_get hx hb ht hown hK hP ziX11 rfl 0 (by decide) 6 (by decide) hw_5_193 rfl (v := .ref (q 5)) rfl dX11_feed_23 ?_
    refine lv_iconst (v := nI 1) hx hb dX11_feed_26 (by decide +kernel) ?_
    refine lv_iload_n hx hb dX11_feed_27 rfl (lv_at hl 2 rfl) ?_
    refine z_iast hx hb hK hP hD hS 5 (by decide) 4 (fun _ => rfl) rfl (zR_vin zk_1 (by decide)) dX11_feed_28 (fun H locs hP hD hS => ?_)
    have hI_7 := mInv_R hI_6 5 (nI 1).toNatClampNeg (pa1) (zR_any _) rfl
    refine lv_aload_n hx hb dX11_feed_29 rfl (lv_at hl 0 rfl) ?_
    refine z_get hx hb ht hown hK hP ziX11 rfl 0 (by decide) 6 (by decide) hw_5_193 rfl (v := .ref (q 5)) rfl dX11_feed_30 ?_
    refine lv_iconst (v := nI 2) hx hb dX11_feed_33 (by decide +kernel) ?_
    refine lv_iload_n hx hb dX11_feed_34 rfl (lv_at hl 3 rfl) ?_
    refine z_iast hx hb hK hP hD hS 5 (by decide) 4 (fun _ => rfl) rfl (zR_vin zk_2 (by decide)) dX11_feed_35 (fun H locs hP hD hS => ?_)
    have hI_8 := mInv_R hI_7 5 (nI 2).toNatClampNeg (pa2) (zR_any _) rfl
    refine lv_aload_n hx hb dX11_feed_36 rfl (lv_at hl 0 rfl) ?_
    refine z_get hx hb ht hown hK hP ziX11 rfl 0 (by decide) 6 (by decide) hw_5_193 rfl (v := .ref (q 5)) rfl dX11_feed_37 ?_
    refine lv_iconst (v := nI 3) hx hb dX11_feed_40 (by decide +kernel) ?_
    refine lv_iload hx hb dX11_feed_41 (lv_at hl 4 rfl) ?_
    refine z_iast hx hb hK hP hD hS 5 (by decide) 4 (fun _ => rfl) rfl (zR_vin zk_3 (by decide)) dX11_feed_43 (fun H locs hP hD hS => ?_)
    have hI_9 := mInv_R hI_8 5 (nI 3).toNatClampNeg (pa3) (zR_any _) rfl
    refine lv_aload_n hx hb dX11_feed_44 rfl (lv_at hl 0 rfl) ?_
    refine z_get hx hb ht hown hK hP ziX11 rfl 0 (by decide) 6 (by decide) hw_5_193 rfl (v := .ref (q 5)) rfl dX11_feed_45 ?_
    refine lv_iconst (v := nI 4) hx hb dX11_feed_48 (by decide +kernel) ?_
    refine lv_iload hx hb dX11_feed_49 (lv_at hl 5 rfl) ?_
    refine z_iast hx hb hK hP hD hS 5 (by decide) 4 (fun _ => rfl) rfl (zR_vin zk_4 (by decide)) dX11_feed_51 (fun H locs hP hD hS => ?_)
    have hI_10 := mInv_R hI_9 5 (nI 4).toNatClampNeg (pa4) (zR_any _) rfl
    refine lv_iconst (v := nI 0) hx hb dX11_feed_52 (by decide +kernel) ?_
    refine lv_istore (lv' := [(6, .int (nI 0)), (0, .ref (q 0)), (1, .int (pa0)), (2, .int (pa1)), (3, .int (pa2)), (4, .int (pa3)), (5, .int (pa4))]) hx hb dX11_feed_53 hl (by decide) rfl (fun ls hl => ?_)
    have loop_57 : ∀ N : Nat, ∀ x_55 : Int32, zR 0 20 x_55 → ∀ R_56 : Nat → Nat → Int32, mInv F (I, R_56, J) → (2147483648 - (x_55).toInt).toNat < N → ∀ (H : Heap) (locs : List Loc), va_P D vwCl (zw 25 q (zMd q cA) I R_56 J) H → va_D (zA 25 q sz) (zw 25 q (zMd q cA) I R_56 J) → va_S (zA 25 q sz) s.heap H locs → ∀ ls : Array Slot, lv_has ls 7 [(0, .ref (q 0)), (1, .int (pa0)), (2, .int (pa1)), (3, .int (pa2)), (4, .int (pa3)), (5, .int (pa4)), (6, .int (x_55))] → W p l e ({ frames := 0, cells := 0, slots := 0, locals := 0 } : Room) s m ([.ref (q 0), .int (pa0), .int (pa1), .int (pa2), .int (pa3), .int (pa4)] : List Value).toArray below meth c H locs 0 0 (MQ below (va_Qi (fun r u => zR (-1) 800 r ∧ (mInv F u ∧ u.2.2 = J)) (zB D vwCl 25 q (zMd q cA) sz) (zA 25 q sz)) ([.ref (q 0), .int (pa0), .int (pa1), .int (pa2), .int (pa3), .int (pa4)] : List Value).toArray s 0 0 (zA 25 q sz)) (F0 m 55 ls []) := by
      intro N
      induction N with
      | zero => intro x_55 hx_55 R_56 hI_56 hN; exact absurd hN (Nat.not_lt_zero _)
      | succ N ih_59 =>
        intro x_55 hx_55 R_56 hI_56 hN_58 H locs hP hD hS ls hl
        refine lv_iload hx hb dX11_feed_55 (lv_at hl 6 rfl) ?_
        refine lv_bipush (v := nI 20) hx hb dX11_feed_57 (by decide +kernel) ?_
        refine lv_icmp_ge (tgt := 101) hx hb dX11_feed_59 (by decide) (fun c_60 => ?_) (fun c_60 => ?_)
        · have t_c_60 := z_leT c_60
          have f_72 : zR 20 20 (x_55) := zR_ley t_c_60 zk_20 hx_55 (by decide)
          refine lv_aload_n hx hb dX11_feed_101 rfl (lv_at hl 0 rfl) ?_
          refine lv_dup hx hb dX11_feed_102 rfl ?_
          refine z_get hx hb ht hown hK hP ziX11 rfl 0 (by decide) 5 (by decide) hw_5_192 rfl (v := .int (I 0 5)) rfl dX11_feed_103 ?_
          refine lv_bipush (v := nI 20) hx hb dX11_feed_106 (by decide +kernel) ?_
          refine lv_iadd hx hb dX11_feed_108 ?_
          refine z_addc 20 800 f_5 zk_20 (by decide) (fun v_73 hv_73 mv_73 => ?_)
          refine z_putI hx hb ht hown hK hP hD hS ziX11 tyX11 tyX11_ok nmX11 rfl 0 (by decide) 5 (by decide) hw_5_192 rfl (v := v_73) rfl rfl rfl (Nat.le_of_ble_eq_true rfl) rfl dX11_feed_109 (fun H locs hP hD hS => ?_)
          have hI_74 := mInv_I hI_56 0 5 (v_73) (zR_w hv_73 (by decide)) rfl
          refine lv_aload_n hx hb dX11_feed_112 rfl (lv_at hl 0 rfl) ?_
          refine z_get hx hb ht hown hK hP ziX11 rfl 0 (by decide) 5 (by decide) hw_5_192 rfl (v := .int (v_73)) rfl dX11_feed_113 ?_
          exact z_iret (v := v_73) hx hb hr hlocks hP hD hS dX11_feed_116 ⟨(zR_w hv_73 (by decide)), ⟨hI_74, rfl⟩⟩
        · have t_c_60 := z_leF c_60
          have f_75 : zR 0 19 (x_55) := zR_ltx t_c_60 hx_55 zk_20 (by decide)
          refine lv_aload_n hx hb dX11_feed_62 rfl (lv_at hl 0 rfl) ?_
          refine z_get hx hb ht hown hK hP ziX11 rfl 0 (by decide) 4 (by decide) hw_5_191 rfl (v := .ref (q 4)) rfl dX11_feed_63 ?_
          refine lv_aload_n hx hb dX11_feed_66 rfl (lv_at hl 0 rfl) ?_
          refine z_get hx hb ht hown hK hP ziX11 rfl 0 (by decide) 5 (by decide) hw_5_192 rfl (v := .int (I 0 5)) rfl dX11_feed_67 ?_
          refine lv_iload hx hb dX11_feed_70 (lv_at hl 6 rfl) ?_
          refine lv_iadd hx hb dX11_feed_72 ?_
          refine z_rng (a := 0) (b := 799) (zR_add f_5 f_75 (by decide)) (fun v_76 hv_76 => ?_)
          refine lv_aload_n hx hb dX11_feed_73 rfl (lv_at hl 0 rfl) ?_
          refine z_get hx hb ht hown hK hP ziX11 rfl 0 (by decide) 6 (by decide) hw_5_193 rfl (v := .ref (q 5)) rfl dX11_feed_74 ?_
          refine lv_iload hx hb dX11_feed_77 (lv_at hl 6 rfl) ?_
          refine lv_iconst (v := nI 4) hx hb dX11_feed_79 (by decide +kernel) ?_
          refine lv_idiv hx hb dX11_feed_80 (by decide +kernel) ?_
          refine z_rng (a := 0) (b := 4) (zR_divc f_75 zk_4 (by decide)) (fun v_77 hv_77 => ?_)
          refine z_iald hx hb hK hP 5 (by decide) 4 rfl rfl (zR_vin hv_77 (by decide)) dX11_feed_81 ?_
          refine z_eqi (y := R_56 5 (v_77).toNatClampNeg) rfl ?_
          refine lv_bipush (v := nI 24) hx hb dX11_feed_82 (by decide +kernel) ?_
          refine lv_bipush (v := nI 8) hx hb dX11_feed_84 (by decide +kernel) ?_
          refine lv_iload hx hb dX11_feed_86 (lv_at hl 6 rfl) ?_
          refine lv_iconst (v := nI 4) hx hb dX11_feed_88 (by decide +kernel) ?_
          refine lv_irem hx hb dX11_feed_89 (by decide +kernel) ?_
          refine z_rng (a := 0) (b := 3) (zR_rem f_75 zk_4 (by decide)) (fun v_78 hv_78 => ?_)
          refine lv_imul hx hb dX11_feed_90 ?_
          refine z_rng (a := 0) (b := 24) (zR_mul zk_8 hv_78 (by decide)) (fun v_79 hv_79 => ?_)
          refine lv_isub hx hb dX11_feed_91 ?_
          refine z_rng (a := 0) (b := 24) (zR_sub zk_24 hv_79 (by decide)) (fun v_80 hv_80 => ?_)
          refine lv_ishr hx hb dX11_feed_92 ?_
          refine z_any (fun v_81 => ?_)
          refine lv_i2b hx hb dX11_feed_93 rfl ?_
          refine z_any (fun v_82 => ?_)
          refine z_bast hx hb hK hP hD hS 4 (by decide) 3 (fun _ => rfl) rfl (zR_vin hv_76 (by decide)) dX11_feed_94 (fun H locs hP hD hS => ?_)
          have hI_83 := mInv_R hI_56 4 (v_76).toNatClampNeg (vp_nar .byte (v_82)) (zR_any _) rfl
          obtain ⟨v_84, ev_84⟩ : ∃ y : Int32, y = x_55 + nI 1 := ⟨_, rfl⟩
          have hv_84 : zR 1 20 v_84 := ev_84 ▸ zR_add f_75 zk_1 (by decide)
          have mv_84 : v_84.toInt = (x_55).toInt + 1 := by rw [ev_84, zR_addE f_75 zk_1 (by decide)]; rfl
          refine lv_iinc (v := v_84) (lv' := [(6, .int (v_84)), (0, .ref (q 0)), (1, .int (pa0)), (2, .int (pa1)), (3, .int (pa2)), (4, .int (pa3)), (5, .int (pa4))]) hx hb dX11_feed_95 hl (k := 6) rfl (ev_84 ▸ rfl) (by decide) rfl (fun ls hl => ?_)
          refine lv_goto (tgt := 55) hx hb dX11_feed_98 (by decide) ?_
          exact ih_59 (v_84) (zR_w hv_84 (by decide)) _ hI_83 (z2_up mv_84 (by decide) hN_58) _ _ hP hD hS _ (lv_sub hl [1, 2, 3, 4, 5, 6, 0] rfl)
    exact loop_57 _ (nI 0) (zR_w zk_0 (by decide)) _ hI_10 (Nat.lt_succ_self _) _ _ hP hD hS _ (lv_sub hl [1, 2, 3, 4, 5, 6, 0] rfl)
  · have t_c_3 := z_leF c_3
    have f_85 : zR 801 820 (v_2) := zR_lty t_c_3 zk_800 hv_2 (by decide)
    have f_86 : zR 781 800 (I 0 5) := zR_shift mv_2 f_85 (by decide)
    refine lv_iconst (v := (-1)) hx hb dX11_feed_13 (by decide +kernel) ?_
    exact z_iret (v := (-1)) hx hb hr hlocks hP hD hS dX11_feed_14 ⟨(zR_w zk_m1 (by decide)), ⟨hI, rfl⟩⟩
set_option maxHeartbeats 4000000 in
set_option maxRecDepth 100000 in
theorem mk_X11_in (l : Launch) (D : va_G) (q : Nat → Nat) (cA : Nat → ClassId) (F : Nat → Nat → Int32) (I R : Nat → Nat → Int32) (J : Nat → Nat → Int64) (hI : mInv F (I, R, J)) (pa0 : Int64) (pa1 : Int64) (pa2 : Int64) : zMi l D vwCl (zMtys cA) 25 q (zMd q cA) yX11_in cX11_in 6 (some .boolean) ({ frames := 0, cells := 0, slots := 0, locals := 0 } : Room) [.long (pa0), .long (pa1), .long (pa2)] (I, R, J) (fun r u => (r = nI 1 ∧ u = (I, R, J) ∧ pa1.toInt ≤ pa0.toInt ∧ pa0.toInt ≤ pa2.toInt) ∨ (r = nI 0 ∧ u = (I, R, J) ∧ (pa0.toInt < pa1.toInt ∨ pa2.toInt < pa0.toInt))) := by
  intro sz
  refine z_body (by decide +kernel) (Nat.le_of_ble_eq_true rfl) (fun p e s m below meth c ls hx hb hml hr ht hown hlocks hsz hK hP hD hS hl => ?_)
  have hA : ∀ a, s.heap.size ≤ a → zA 25 q sz a := fun a h => Or.inr (hsz ▸ h)
  have hl : lv_has ls 6 [(0, .long (pa0)), (2, .long (pa1)), (4, .long (pa2))] := hl
  refine lv_lload_n hx hb dX11_in_0 rfl (lv_at hl 0 rfl) ?_
  refine lv_lload_n hx hb dX11_in_1 rfl (lv_at hl 1 rfl) ?_
  refine W.lcmp hx hb dX11_in_2 ?_
  refine lv_if_lt (tgt := 17) hx hb dX11_in_3 (by decide) (fun c_1 => ?_) (fun c_1 => ?_)
  · have t_c_1 := z_lltT ((lg_cmp_lt _ _).mp c_1)
    have f_2 : zL (-9223372036854775808) 9223372036854775806 (pa0) := zL_ltx t_c_1 (zL_any (pa0)) (zL_any (pa1)) (by decide)
    have f_3 : zL (-9223372036854775807) 9223372036854775807 (pa1) := zL_lty t_c_1 (zL_any (pa0)) (zL_any (pa1)) (by decide)
    refine lv_iconst (v := nI 0) hx hb dX11_in_17 (by decide +kernel) ?_
    exact z_zret (v := nI 0) hx hb hr hlocks hP hD hS (by decide +kernel) dX11_in_18 (Or.inr ⟨rfl, rfl, Or.inl t_c_1⟩)
  · have t_c_1 := z_lltF (fun h => c_1 ((lg_cmp_lt _ _).mpr h))
    refine lv_lload_n hx hb dX11_in_6 rfl (lv_at hl 0 rfl) ?_
    refine lv_lload hx hb dX11_in_7 (lv_at hl 2 rfl) ?_
    refine W.lcmp hx hb dX11_in_9 ?_
    refine lv_if_gt (tgt := 17) hx hb dX11_in_10 (by decide) (fun c_4 => ?_) (fun c_4 => ?_)
    · have t_c_4 := z_lltT ((lg_cmp_gt _ _).mp c_4)
      have f_5 : zL (-9223372036854775808) 9223372036854775806 (pa2) := zL_ltx t_c_4 (zL_any (pa2)) (zL_any (pa0)) (by decide)
      have f_6 : zL (-9223372036854775807) 9223372036854775807 (pa0) := zL_lty t_c_4 (zL_any (pa2)) (zL_any (pa0)) (by decide)
      refine lv_iconst (v := nI 0) hx hb dX11_in_17 (by decide +kernel) ?_
      exact z_zret (v := nI 0) hx hb hr hlocks hP hD hS (by decide +kernel) dX11_in_18 (Or.inr ⟨rfl, rfl, Or.inr t_c_4⟩)
    · have t_c_4 := z_lltF (fun h => c_4 ((lg_cmp_gt _ _).mpr h))
      refine lv_iconst (v := nI 1) hx hb dX11_in_13 (by decide +kernel) ?_
      refine lv_goto (tgt := 18) hx hb dX11_in_14 (by decide) ?_
      exact z_zret (v := nI 1) hx hb hr hlocks hP hD hS (by decide +kernel) dX11_in_18 (Or.inl ⟨rfl, rfl, t_c_1, t_c_4⟩)
set_option maxHeartbeats 4000000 in
set_option maxRecDepth 100000 in
theorem mk_X11_end (l : Launch) (D : va_G) (q : Nat → Nat) (cA : Nat → ClassId) (F : Nat → Nat → Int32) (I R : Nat → Nat → Int32) (J : Nat → Nat → Int64) (hI : mInv F (I, R, J)) (pa0 : Int32) : zMi l D vwCl (zMtys cA) 25 q (zMd q cA) yX11_end cX11_end 2 (some .int) ({ frames := 1, cells := 0, slots := 0, locals := 25 } : Room) [.ref (q 0), .int (pa0)] (I, R, J) (fun r u => zR (-1) 800 r ∧ (mInv F u ∧ u.2.2 = J)) := by
  intro sz
  refine z_body (by decide +kernel) (Nat.le_of_ble_eq_true rfl) (fun p e s m below meth c ls hx hb hml hr ht hown hlocks hsz hK hP hD hS hl => ?_)
  have hA : ∀ a, s.heap.size ≤ a → zA 25 q sz a := fun a h => Or.inr (hsz ▸ h)
  have hl : lv_has ls 2 [(0, .ref (q 0)), (1, .int (pa0))] := hl
  refine lv_iload_n hx hb dX11_end_0 rfl (lv_at hl 1 rfl) ?_
  refine lv_i2l (v := (pa0).toInt64) hx hb dX11_end_1 rfl ?_
  refine lv_lconst (v := (0 : Int64)) hx hb dX11_end_2 (by decide +kernel) ?_
  refine lv_aload_n hx hb dX11_end_3 rfl (lv_at hl 0 rfl) ?_
  refine z_get hx hb ht hown hK hP ziX11 rfl 0 (by decide) 5 (by decide) hw_5_192 rfl (v := .int (I 0 5)) rfl dX11_end_4 ?_
  have f_1 : zR 0 800 (I 0 5) := mI hI 0 5
  refine lv_i2l (v := (I 0 5).toInt64) hx hb dX11_end_7 rfl ?_
  refine z_callSi (As := [.long ((pa0).toInt64), .long ((0 : Int64)), .long ((I 0 5).toInt64)]) (rest := []) hx hb hml hown ht (mk_X11_in l D q cA F _ _ _ hI ((pa0).toInt64) ((0 : Int64)) ((I 0 5).toInt64)) hw_6_86 hmX11_in ⟨rfl, rfl⟩ (na := 3) rfl (by decide +kernel) (by decide) hK hP hD hS hA hl.1 rfl (Nat.le_of_ble_eq_true rfl) ⟨Nat.zero_le _, Nat.zero_le _⟩ dX11_end_8 (fun r_2 I_2 R_2 J_2 H locs hp_2 hP hD hS _ _ => ?_)
  rcases hp_2 with ⟨rfl, hu_2, h1_2, h2_2⟩ | ⟨rfl, hu_2, h1_2 | h2_2⟩
  · cases hu_2
    have f_3 : zL 0 2147483647 ((pa0).toInt64) := zL_ley h1_2 zkl_0 (zR_i2l (zR_any (pa0))) (by decide)
    have f_4 : zR 0 2147483647 (pa0) := zL_back f_3
    have f_5 : zL 0 800 ((pa0).toInt64) := zL_lex h2_2 f_3 (zR_i2l f_1) (by decide)
    have f_6 : zR 0 800 (pa0) := zL_back f_5
    refine lv_if_ne (tgt := 16) hx hb dX11_end_11 (by decide) (fun _ => ?_) (fun c_0 => absurd c_0 (zD_ne zk_1 zk_z (by decide)))
    refine lv_aload_n hx hb dX11_end_16 rfl (lv_at hl 0 rfl) ?_
    refine lv_iload_n hx hb dX11_end_17 rfl (lv_at hl 1 rfl) ?_
    refine z_putI hx hb ht hown hK hP hD hS ziX11 tyX11 tyX11_ok nmX11 rfl 0 (by decide) 5 (by decide) hw_5_192 rfl (v := pa0) rfl rfl rfl (Nat.le_of_ble_eq_true rfl) rfl dX11_end_18 (fun H locs hP hD hS => ?_)
    have hI_7 := mInv_I hI 0 5 (pa0) f_6 rfl
    refine lv_iload_n hx hb dX11_end_21 rfl (lv_at hl 1 rfl) ?_
    exact z_iret (v := pa0) hx hb hr hlocks hP hD hS dX11_end_22 ⟨(zR_w f_6 (by decide)), ⟨hI_7, rfl⟩⟩
  · cases hu_2
    have f_8 : zL (-2147483648) (-1) ((pa0).toInt64) := zL_ltx h1_2 (zR_i2l (zR_any (pa0))) zkl_0 (by decide)
    have f_9 : zR (-2147483648) (-1) (pa0) := zL_back f_8
    refine lv_if_ne (tgt := 16) hx hb dX11_end_11 (by decide) (fun c_0 => absurd (zD_eq zk_0 zk_z) c_0) (fun _ => ?_)
    refine lv_iconst (v := (-1)) hx hb dX11_end_14 (by decide +kernel) ?_
    exact z_iret (v := (-1)) hx hb hr hlocks hP hD hS dX11_end_15 ⟨(zR_w zk_m1 (by decide)), ⟨hI, rfl⟩⟩
  · cases hu_2
    have f_10 : zL 1 2147483647 ((pa0).toInt64) := zL_lty h2_2 (zR_i2l f_1) (zR_i2l (zR_any (pa0))) (by decide)
    have f_11 : zR 1 2147483647 (pa0) := zL_back f_10
    refine lv_if_ne (tgt := 16) hx hb dX11_end_11 (by decide) (fun c_0 => absurd (zD_eq zk_0 zk_z) c_0) (fun _ => ?_)
    refine lv_iconst (v := (-1)) hx hb dX11_end_14 (by decide +kernel) ?_
    exact z_iret (v := (-1)) hx hb hr hlocks hP hD hS dX11_end_15 ⟨(zR_w zk_m1 (by decide)), ⟨hI, rfl⟩⟩
set_option maxHeartbeats 4000000 in
set_option maxRecDepth 100000 in
theorem mk_X11_see (l : Launch) (D : va_G) (q : Nat → Nat) (cA : Nat → ClassId) (F : Nat → Nat → Int32) (I R : Nat → Nat → Int32) (J : Nat → Nat → Int64) (hI : mInv F (I, R, J)) (pa0 : Int32) (hpa0 : zR 0 800 pa0) : zMi l D vwCl (zMtys cA) 25 q (zMd q cA) yX11_see cX11_see 2 (some .int) ({ frames := 0, cells := 0, slots := 0, locals := 0 } : Room) [.ref (q 0), .int (pa0)] (I, R, J) (fun r u => (pa0.toInt < (I 0 7).toInt ∧ zR 0 255 r ∧ r = R 4 (pa0).toNatClampNeg &&& nI 255 ∧ u = (I, R, J)) ∨ ((I 0 7).toInt ≤ pa0.toInt ∧ r = (-1) ∧ u = (I, R, J))) := by
  intro sz
  refine z_body (by decide +kernel) (Nat.le_of_ble_eq_true rfl) (fun p e s m below meth c ls hx hb hml hr ht hown hlocks hsz hK hP hD hS hl => ?_)
  have hA : ∀ a, s.heap.size ≤ a → zA 25 q sz a := fun a h => Or.inr (hsz ▸ h)
  have hl : lv_has ls 2 [(0, .ref (q 0)), (1, .int (pa0))] := hl
  refine lv_iload_n hx hb dX11_see_0 rfl (lv_at hl 1 rfl) ?_
  refine lv_aload_n hx hb dX11_see_1 rfl (lv_at hl 0 rfl) ?_
  refine z_get hx hb ht hown hK hP ziX11 rfl 0 (by decide) 7 (by decide) hw_5_194 rfl (v := .int (I 0 7)) rfl dX11_see_2 ?_
  have f_1 : zR 0 800 (I 0 7) := mI hI 0 7
  refine lv_icmp_ge (tgt := 21) hx hb dX11_see_5 (by decide) (fun c_2 => ?_) (fun c_2 => ?_)
  · have t_c_2 := z_leT c_2
    refine lv_iconst (v := (-1)) hx hb dX11_see_21 (by decide +kernel) ?_
    exact z_iret (v := (-1)) hx hb hr hlocks hP hD hS dX11_see_22 (Or.inr ⟨t_c_2, rfl, rfl⟩)
  · have t_c_2 := z_leF c_2
    have f_3 : zR 0 799 (pa0) := zR_ltx t_c_2 hpa0 f_1 (by decide)
    have f_4 : zR 1 800 (I 0 7) := zR_lty t_c_2 hpa0 f_1 (by decide)
    refine lv_aload_n hx hb dX11_see_8 rfl (lv_at hl 0 rfl) ?_
    refine z_get hx hb ht hown hK hP ziX11 rfl 0 (by decide) 4 (by decide) hw_5_191 rfl (v := .ref (q 4)) rfl dX11_see_9 ?_
    refine lv_iload_n hx hb dX11_see_12 rfl (lv_at hl 1 rfl) ?_
    refine z_bald hx hb hK hP 4 (by decide) 3 rfl rfl (zR_vin f_3 (by decide)) dX11_see_13 ?_
    refine z_eqi (y := R 4 (pa0).toNatClampNeg) rfl ?_
    refine lv_sipush (v := nI 255) hx hb dX11_see_14 (by decide +kernel) ?_
    refine lv_iand hx hb dX11_see_17 ?_
    refine lv_topi (fun v_5 ev_5 => ?_)
    have hv_5 : zR 0 255 v_5 := ev_5 ▸ zR_andr zk_255 (by decide)
    refine lv_goto (tgt := 22) hx hb dX11_see_18 (by decide) ?_
    exact z_iret (v := v_5) hx hb hr hlocks hP hD hS dX11_see_22 (Or.inl ⟨t_c_2, hv_5, ev_5, rfl⟩)
set_option maxHeartbeats 4000000 in
set_option maxRecDepth 100000 in
theorem mk_X11_advance (l : Launch) (D : va_G) (q : Nat → Nat) (cA : Nat → ClassId) (F : Nat → Nat → Int32) (I R : Nat → Nat → Int32) (J : Nat → Nat → Int64) (hI : mInv F (I, R, J))  : zMv l D vwCl (zMtys cA) 25 q (zMd q cA) yX11_advance cX11_advance 2 none ({ frames := 1, cells := 0, slots := 0, locals := 64 } : Room) [.ref (q 0)] (I, R, J) (fun u => (mInv F u ∧ (∀ k, k ≠ 0 → u.1 k = I k) ∧ u.2 = (R, J)) ∧ mTr I u.1) := by
  intro sz
  refine z_body (by decide +kernel) (Nat.le_of_ble_eq_true rfl) (fun p e s m below meth c ls hx hb hml hr ht hown hlocks hsz hK hP hD hS hl => ?_)
  have hA : ∀ a, s.heap.size ≤ a → zA 25 q sz a := fun a h => Or.inr (hsz ▸ h)
  have hl : lv_has ls 2 [(0, .ref (q 0))] := hl
  have loop_432 : ∀ N : Nat, ∀ I_430 : Nat → Nat → Int32, mInv F (I_430, R, J) → (∀ k, k ≠ 0 → I_430 k = I k) → ((I 0 8).toInt ≤ (I_430 0 8).toInt ∧ I_430 0 12 = I 0 12) → (2147483648 - (I_430 0 8).toInt).toNat < N → ∀ (H : Heap) (locs : List Loc), va_P D vwCl (zw 25 q (zMd q cA) I_430 R J) H → va_D (zA 25 q sz) (zw 25 q (zMd q cA) I_430 R J) → va_S (zA 25 q sz) s.heap H locs → ∀ ls : Array Slot, lv_has ls 2 [(0, .ref (q 0))] → W p l e ({ frames := 1, cells := 0, slots := 0, locals := 64 } : Room) s m ([.ref (q 0)] : List Value).toArray below meth c H locs 0 0 (MQ below (va_Qv (fun u => (mInv F u ∧ (∀ k, k ≠ 0 → u.1 k = I k) ∧ u.2 = (R, J)) ∧ mTr I u.1) (zB D vwCl 25 q (zMd q cA) sz) (zA 25 q sz)) ([.ref (q 0)] : List Value).toArray s 0 0 (zA 25 q sz)) (F0 m 0 ls []) := by
    intro N
    induction N with
    | zero => intro I_430 hI_430 hf_430 hx_431 hN; exact absurd hN (Nat.not_lt_zero _)
    | succ N ih_434 =>
      intro I_430 hI_430 hf_430 hx_431 hN_433 H locs hP hD hS ls hl
      refine lv_aload_n hx hb dX11_advance_0 rfl (lv_at hl 0 rfl) ?_
      refine lv_aload_n hx hb dX11_advance_1 rfl (lv_at hl 0 rfl) ?_
      refine z_get hx hb ht hown hK hP ziX11 rfl 0 (by decide) 8 (by decide) hw_5_195 rfl (v := .int (I_430 0 8)) rfl dX11_advance_2 ?_
      have f_435 : zR 0 800 (I_430 0 8) := mI hI_430 0 8
      have f_436 : zR 0 800 (I_430 0 7) := mI hI_430 0 7
      have t_444 :  ∀ (H : Heap) (locs : List Loc), va_P D vwCl (zw 25 q (zMd q cA) I_430 R J) H → va_D (zA 25 q sz) (zw 25 q (zMd q cA) I_430 R J) → va_S (zA 25 q sz) s.heap H locs → ∀ ls : Array Slot, lv_has ls 2 [(0, .ref (q 0))] → W p l e ({ frames := 1, cells := 0, slots := 0, locals := 64 } : Room) s m ([.ref (q 0)] : List Value).toArray below meth c H locs 0 0 (MQ below (va_Qv (fun u => (mInv F u ∧ (∀ k, k ≠ 0 → u.1 k = I k) ∧ u.2 = (R, J)) ∧ mTr I u.1) (zB D vwCl 25 q (zMd q cA) sz) (zA 25 q sz)) ([.ref (q 0)] : List Value).toArray s 0 0 (zA 25 q sz)) (F0 m 13 ls []) := by
        intro  H locs hP hD hS ls hl
        refine lv_aload_n hx hb dX11_advance_13 rfl (lv_at hl 0 rfl) ?_
        refine lv_aload_n hx hb dX11_advance_14 rfl (lv_at hl 0 rfl) ?_
        refine z_get hx hb ht hown hK hP ziX11 rfl 0 (by decide) 8 (by decide) hw_5_195 rfl (v := .int (I_430 0 8)) rfl dX11_advance_15 ?_
        refine z_callVi (k := 0) (As := [.int (I_430 0 8)]) (rest := []) hx hb hml hown ht (mk_X11_see l D q cA F _ _ _ hI_430 (I_430 0 8) f_435) hw_6_113 hmX11_see ⟨rfl, rfl⟩ (na := 1) rfl (by decide +kernel) (by decide) (by decide) rfl rfl hK hP hD hS hA hl.1 rfl (Nat.le_of_ble_eq_true rfl) ⟨Nat.zero_le _, Nat.zero_le _⟩ dX11_advance_18 (fun r_445 I_445 R_445 J_445 H locs hp_445 hP hD hS _ _ => ?_)
        rcases hp_445 with ⟨h1_445, h2_445, rfl, hu_445⟩ | ⟨h1_445, rfl, hu_445⟩
        · cases hu_445
          have f_446 : zR 0 799 (I_430 0 8) := zR_ltx h1_445 f_435 f_436 (by decide)
          have f_447 : zR 1 800 (I_430 0 7) := zR_lty h1_445 f_435 f_436 (by decide)
          refine lv_bipush (v := nI 10) hx hb dX11_advance_21 (by decide +kernel) ?_
          refine lv_icmp_ne (tgt := 39) hx hb dX11_advance_23 (by decide) (fun c_448 => ?_) (fun c_448 => ?_)
          · have t_c_448 := z_eqF c_448
            refine lv_aload_n hx hb dX11_advance_39 rfl (lv_at hl 0 rfl) ?_
            refine lv_aload_n hx hb dX11_advance_40 rfl (lv_at hl 0 rfl) ?_
            refine z_get hx hb ht hown hK hP ziX11 rfl 0 (by decide) 8 (by decide) hw_5_195 rfl (v := .int (I_430 0 8)) rfl dX11_advance_41 ?_
            refine z_putI hx hb ht hown hK hP hD hS ziX11 tyX11 tyX11_ok nmX11 rfl 0 (by decide) 9 (by decide) hw_5_196 rfl (v := I_430 0 8) rfl rfl rfl (Nat.le_of_ble_eq_true rfl) rfl dX11_advance_44 (fun H locs hP hD hS => ?_)
            have hI_449 := mInv_I hI_430 0 9 (I_430 0 8) (zR_w f_446 (by decide)) rfl
            have hf_450 : ∀ k, k ≠ 0 → (zp I_430 0 9 (I_430 0 8)) k = I k := fun k h => (zp_nk h).trans (hf_430 k h)
            refine lv_aload_n hx hb dX11_advance_47 rfl (lv_at hl 0 rfl) ?_
            refine lv_aload_n hx hb dX11_advance_48 rfl (lv_at hl 0 rfl) ?_
            refine z_get hx hb ht hown hK hP ziX11 rfl 0 (by decide) 8 (by decide) hw_5_195 rfl (v := .int (I_430 0 8)) rfl dX11_advance_49 ?_
            refine z_callVi (k := 0) (As := [.int (I_430 0 8)]) (rest := []) hx hb hml hown ht (mk_X11_see l D q cA F _ _ _ hI_449 (I_430 0 8) (zR_w f_446 (by decide))) hw_6_113 hmX11_see ⟨rfl, rfl⟩ (na := 1) rfl (by decide +kernel) (by decide) (by decide) rfl rfl hK hP hD hS hA hl.1 rfl (Nat.le_of_ble_eq_true rfl) ⟨Nat.zero_le _, Nat.zero_le _⟩ dX11_advance_52 (fun r_451 I_451 R_451 J_451 H locs hp_451 hP hD hS _ _ => ?_)
            rcases hp_451 with ⟨h1_451, h2_451, rfl, hu_451⟩ | ⟨h1_451, rfl, hu_451⟩
            · cases hu_451
              refine lv_istore_n (lv' := [(1, .int (R 4 (I_430 0 8).toNatClampNeg &&& nI 255)), (0, .ref (q 0))]) hx hb dX11_advance_55 rfl hl (by decide) rfl (fun ls hl => ?_)
              refine lv_iload_n hx hb dX11_advance_56 rfl (lv_at hl 0 rfl) ?_
              refine lv_iconst (v := (-1)) hx hb dX11_advance_57 (by decide +kernel) ?_
              refine lv_icmp_ne (tgt := 69) hx hb dX11_advance_58 (by decide) (fun _ => ?_) (fun c_0 => absurd c_0 (zD_ne h2_445 zk_m1 (by decide)))
              refine lv_iload_n hx hb dX11_advance_69 rfl (lv_at hl 0 rfl) ?_
              refine lv_i2l (v := (R 4 (I_430 0 8).toNatClampNeg &&& nI 255).toInt64) hx hb dX11_advance_70 rfl ?_
              refine lv_ldc2 (v := (97 : Int64)) hx hb hown (ht _ hw_6_117) dX11_advance_71 ?_
              refine lv_ldc2 (v := (122 : Int64)) hx hb hown (ht _ hw_6_118) dX11_advance_74 ?_
              refine z_callSi (As := [.long ((R 4 (I_430 0 8).toNatClampNeg &&& nI 255).toInt64), .long ((97 : Int64)), .long ((122 : Int64))]) (rest := []) hx hb hml hown ht (mk_X11_in l D q cA F _ _ _ hI_449 ((R 4 (I_430 0 8).toNatClampNeg &&& nI 255).toInt64) ((97 : Int64)) ((122 : Int64))) hw_6_86 hmX11_in ⟨rfl, rfl⟩ (na := 3) rfl (by decide +kernel) (by decide) hK hP hD hS hA hl.1 rfl (Nat.le_of_ble_eq_true rfl) ⟨Nat.zero_le _, Nat.zero_le _⟩ dX11_advance_77 (fun r_452 I_452 R_452 J_452 H locs hp_452 hP hD hS _ _ => ?_)
              rcases hp_452 with ⟨rfl, hu_452, h1_452, h2_452⟩ | ⟨rfl, hu_452, h1_452 | h2_452⟩
              · cases hu_452
                have f_453 : zL 97 255 ((R 4 (I_430 0 8).toNatClampNeg &&& nI 255).toInt64) := zL_ley h1_452 zkl_97 (zR_i2l h2_445) (by decide)
                have f_454 : zR 97 255 (R 4 (I_430 0 8).toNatClampNeg &&& nI 255) := zL_back f_453
                have f_455 : zL 97 122 ((R 4 (I_430 0 8).toNatClampNeg &&& nI 255).toInt64) := zL_lex h2_452 f_453 zkl_122 (by decide)
                have f_456 : zR 97 122 (R 4 (I_430 0 8).toNatClampNeg &&& nI 255) := zL_back f_455
                refine lv_if_eq (tgt := 125) hx hb dX11_advance_80 (by decide) (fun c_0 => absurd c_0 (zD_ne zk_1 zk_z (by decide))) (fun _ => ?_)
                refine lv_aload_n hx hb dX11_advance_83 rfl (lv_at hl 1 rfl) ?_
                refine lv_aload_n hx hb dX11_advance_84 rfl (lv_at hl 1 rfl) ?_
                refine z_get hx hb ht hown hK hP ziX11 rfl 0 (by decide) 8 (by decide) hw_5_195 rfl (v := .int (I_430 0 8)) rfl dX11_advance_85 ?_
                refine z_callVi (k := 0) (As := [.int (I_430 0 8)]) (rest := []) hx hb hml hown ht (mk_X11_see l D q cA F _ _ _ hI_449 (I_430 0 8) (zR_w f_446 (by decide))) hw_6_113 hmX11_see ⟨rfl, rfl⟩ (na := 1) rfl (by decide +kernel) (by decide) (by decide) rfl rfl hK hP hD hS hA hl.1 rfl (Nat.le_of_ble_eq_true rfl) ⟨Nat.zero_le _, Nat.zero_le _⟩ dX11_advance_88 (fun r_457 I_457 R_457 J_457 H locs hp_457 hP hD hS _ _ => ?_)
                rcases hp_457 with ⟨h1_457, h2_457, rfl, hu_457⟩ | ⟨h1_457, rfl, hu_457⟩
                · cases hu_457
                  refine lv_i2l (v := (R 4 (I_430 0 8).toNatClampNeg &&& nI 255).toInt64) hx hb dX11_advance_91 rfl ?_
                  refine lv_ldc2 (v := (97 : Int64)) hx hb hown (ht _ hw_6_117) dX11_advance_92 ?_
                  refine lv_ldc2 (v := (122 : Int64)) hx hb hown (ht _ hw_6_118) dX11_advance_95 ?_
                  refine z_callSi (As := [.long ((R 4 (I_430 0 8).toNatClampNeg &&& nI 255).toInt64), .long ((97 : Int64)), .long ((122 : Int64))]) (rest := []) hx hb hml hown ht (mk_X11_in l D q cA F _ _ _ hI_449 ((R 4 (I_430 0 8).toNatClampNeg &&& nI 255).toInt64) ((97 : Int64)) ((122 : Int64))) hw_6_86 hmX11_in ⟨rfl, rfl⟩ (na := 3) rfl (by decide +kernel) (by decide) hK hP hD hS hA hl.1 rfl (Nat.le_of_ble_eq_true rfl) ⟨Nat.zero_le _, Nat.zero_le _⟩ dX11_advance_98 (fun r_458 I_458 R_458 J_458 H locs hp_458 hP hD hS _ _ => ?_)
                  rcases hp_458 with ⟨rfl, hu_458, h1_458, h2_458⟩ | ⟨rfl, hu_458, h1_458 | h2_458⟩
                  · cases hu_458
                    refine lv_if_eq (tgt := 117) hx hb dX11_advance_101 (by decide) (fun c_0 => absurd c_0 (zD_ne zk_1 zk_z (by decide))) (fun _ => ?_)
                    refine lv_aload_n hx hb dX11_advance_104 rfl (lv_at hl 1 rfl) ?_
                    refine lv_dup hx hb dX11_advance_105 rfl ?_
                    refine z_get hx hb ht hown hK hP ziX11 rfl 0 (by decide) 8 (by decide) hw_5_195 rfl (v := .int (I_430 0 8)) rfl dX11_advance_106 ?_
                    refine lv_iconst (v := nI 1) hx hb dX11_advance_109 (by decide +kernel) ?_
                    refine lv_iadd hx hb dX11_advance_110 ?_
                    refine z_addc 1 800 f_446 zk_1 (by decide) (fun v_459 hv_459 mv_459 => ?_)
                    refine z_putI hx hb ht hown hK hP hD hS ziX11 tyX11 tyX11_ok nmX11 rfl 0 (by decide) 8 (by decide) hw_5_195 rfl (v := v_459) rfl rfl rfl (Nat.le_of_ble_eq_true rfl) rfl dX11_advance_111 (fun H locs hP hD hS => ?_)
                    have hI_460 := mInv_I hI_449 0 8 (v_459) (zR_w hv_459 (by decide)) rfl
                    have hf_461 : ∀ k, k ≠ 0 → (zp (zp I_430 0 9 (I_430 0 8)) 0 8 (v_459)) k = I k := fun k h => (zp_nk h).trans (hf_450 k h)
                    refine lv_goto (tgt := 83) hx hb dX11_advance_114 (by decide) ?_
                    have loop_518 : ∀ N : Nat, ∀ I_516 : Nat → Nat → Int32, mInv F (I_516, R, J) → (∀ k, k ≠ 0 → I_516 k = I k) → ((I 0 8).toInt < (I_516 0 8).toInt ∧ I_516 0 12 = I 0 12) → (2147483648 - (I_516 0 8).toInt).toNat < N → ∀ (H : Heap) (locs : List Loc), va_P D vwCl (zw 25 q (zMd q cA) I_516 R J) H → va_D (zA 25 q sz) (zw 25 q (zMd q cA) I_516 R J) → va_S (zA 25 q sz) s.heap H locs → ∀ ls : Array Slot, lv_has ls 2 [(0, .ref (q 0)), (1, .int (R 4 (I_430 0 8).toNatClampNeg &&& nI 255))] → W p l e ({ frames := 1, cells := 0, slots := 0, locals := 64 } : Room) s m ([.ref (q 0)] : List Value).toArray below meth c H locs 0 0 (MQ below (va_Qv (fun u => (mInv F u ∧ (∀ k, k ≠ 0 → u.1 k = I k) ∧ u.2 = (R, J)) ∧ mTr I u.1) (zB D vwCl 25 q (zMd q cA) sz) (zA 25 q sz)) ([.ref (q 0)] : List Value).toArray s 0 0 (zA 25 q sz)) (F0 m 83 ls []) := by
                      intro N
                      induction N with
                      | zero => intro I_516 hI_516 hf_516 hx_517 hN; exact absurd hN (Nat.not_lt_zero _)
                      | succ N ih_520 =>
                        intro I_516 hI_516 hf_516 hx_517 hN_519 H locs hP hD hS ls hl
                        refine lv_aload_n hx hb dX11_advance_83 rfl (lv_at hl 0 rfl) ?_
                        refine lv_aload_n hx hb dX11_advance_84 rfl (lv_at hl 0 rfl) ?_
                        refine z_get hx hb ht hown hK hP ziX11 rfl 0 (by decide) 8 (by decide) hw_5_195 rfl (v := .int (I_516 0 8)) rfl dX11_advance_85 ?_
                        have f_521 : zR 0 800 (I_516 0 8) := mI hI_516 0 8
                        have f_522 : zR 0 800 (I_516 0 7) := mI hI_516 0 7
                        refine z_callVi (k := 0) (As := [.int (I_516 0 8)]) (rest := []) hx hb hml hown ht (mk_X11_see l D q cA F _ _ _ hI_516 (I_516 0 8) f_521) hw_6_113 hmX11_see ⟨rfl, rfl⟩ (na := 1) rfl (by decide +kernel) (by decide) (by decide) rfl rfl hK hP hD hS hA hl.1 rfl (Nat.le_of_ble_eq_true rfl) ⟨Nat.zero_le _, Nat.zero_le _⟩ dX11_advance_88 (fun r_523 I_523 R_523 J_523 H locs hp_523 hP hD hS _ _ => ?_)
                        rcases hp_523 with ⟨h1_523, h2_523, rfl, hu_523⟩ | ⟨h1_523, rfl, hu_523⟩
                        · cases hu_523
                          have f_524 : zR 0 799 (I_516 0 8) := zR_ltx h1_523 f_521 f_522 (by decide)
                          have f_525 : zR 1 800 (I_516 0 7) := zR_lty h1_523 f_521 f_522 (by decide)
                          refine lv_i2l (v := (R 4 (I_516 0 8).toNatClampNeg &&& nI 255).toInt64) hx hb dX11_advance_91 rfl ?_
                          refine lv_ldc2 (v := (97 : Int64)) hx hb hown (ht _ hw_6_117) dX11_advance_92 ?_
                          refine lv_ldc2 (v := (122 : Int64)) hx hb hown (ht _ hw_6_118) dX11_advance_95 ?_
                          refine z_callSi (As := [.long ((R 4 (I_516 0 8).toNatClampNeg &&& nI 255).toInt64), .long ((97 : Int64)), .long ((122 : Int64))]) (rest := []) hx hb hml hown ht (mk_X11_in l D q cA F _ _ _ hI_516 ((R 4 (I_516 0 8).toNatClampNeg &&& nI 255).toInt64) ((97 : Int64)) ((122 : Int64))) hw_6_86 hmX11_in ⟨rfl, rfl⟩ (na := 3) rfl (by decide +kernel) (by decide) hK hP hD hS hA hl.1 rfl (Nat.le_of_ble_eq_true rfl) ⟨Nat.zero_le _, Nat.zero_le _⟩ dX11_advance_98 (fun r_526 I_526 R_526 J_526 H locs hp_526 hP hD hS _ _ => ?_)
                          rcases hp_526 with ⟨rfl, hu_526, h1_526, h2_526⟩ | ⟨rfl, hu_526, h1_526 | h2_526⟩
                          · cases hu_526
                            have f_527 : zL 97 255 ((R 4 (I_516 0 8).toNatClampNeg &&& nI 255).toInt64) := zL_ley h1_526 zkl_97 (zR_i2l h2_523) (by decide)
                            have f_528 : zR 97 255 (R 4 (I_516 0 8).toNatClampNeg &&& nI 255) := zL_back f_527
                            have f_529 : zL 97 122 ((R 4 (I_516 0 8).toNatClampNeg &&& nI 255).toInt64) := zL_lex h2_526 f_527 zkl_122 (by decide)
                            have f_530 : zR 97 122 (R 4 (I_516 0 8).toNatClampNeg &&& nI 255) := zL_back f_529
                            refine lv_if_eq (tgt := 117) hx hb dX11_advance_101 (by decide) (fun c_0 => absurd c_0 (zD_ne zk_1 zk_z (by decide))) (fun _ => ?_)
                            refine lv_aload_n hx hb dX11_advance_104 rfl (lv_at hl 0 rfl) ?_
                            refine lv_dup hx hb dX11_advance_105 rfl ?_
                            refine z_get hx hb ht hown hK hP ziX11 rfl 0 (by decide) 8 (by decide) hw_5_195 rfl (v := .int (I_516 0 8)) rfl dX11_advance_106 ?_
                            refine lv_iconst (v := nI 1) hx hb dX11_advance_109 (by decide +kernel) ?_
                            refine lv_iadd hx hb dX11_advance_110 ?_
                            refine z_addc 1 800 f_524 zk_1 (by decide) (fun v_531 hv_531 mv_531 => ?_)
                            refine z_putI hx hb ht hown hK hP hD hS ziX11 tyX11 tyX11_ok nmX11 rfl 0 (by decide) 8 (by decide) hw_5_195 rfl (v := v_531) rfl rfl rfl (Nat.le_of_ble_eq_true rfl) rfl dX11_advance_111 (fun H locs hP hD hS => ?_)
                            have hI_532 := mInv_I hI_516 0 8 (v_531) (zR_w hv_531 (by decide)) rfl
                            have hf_533 : ∀ k, k ≠ 0 → (zp I_516 0 8 (v_531)) k = I k := fun k h => (zp_nk h).trans (hf_516 k h)
                            refine lv_goto (tgt := 83) hx hb dX11_advance_114 (by decide) ?_
                            exact ih_520 _ hI_532 hf_533 ⟨(m_lt1 (Int.le_of_lt hx_517.1) mv_531), hx_517.2⟩ (z2_up mv_531 (by decide) hN_519) _ _ hP hD hS _ (lv_sub hl [0, 1] rfl)
                          · cases hu_526
                            have f_534 : zL 0 96 ((R 4 (I_516 0 8).toNatClampNeg &&& nI 255).toInt64) := zL_ltx h1_526 (zR_i2l h2_523) zkl_97 (by decide)
                            have f_535 : zR 0 96 (R 4 (I_516 0 8).toNatClampNeg &&& nI 255) := zL_back f_534
                            refine lv_if_eq (tgt := 117) hx hb dX11_advance_101 (by decide) (fun _ => ?_) (fun c_0 => absurd (zD_eq zk_0 zk_z) c_0)
                            refine lv_aload_n hx hb dX11_advance_117 rfl (lv_at hl 0 rfl) ?_
                            refine lv_iconst (v := nI 1) hx hb dX11_advance_118 (by decide +kernel) ?_
                            refine z_putI hx hb ht hown hK hP hD hS ziX11 tyX11 tyX11_ok nmX11 rfl 0 (by decide) 10 (by decide) hw_5_197 rfl (v := nI 1) rfl rfl rfl (Nat.le_of_ble_eq_true rfl) rfl dX11_advance_119 (fun H locs hP hD hS => ?_)
                            have hI_536 := mInv_I hI_516 0 10 (nI 1) (zR_any (nI 1)) rfl
                            have hf_537 : ∀ k, k ≠ 0 → (zp I_516 0 10 (nI 1)) k = I k := fun k h => (zp_nk h).trans (hf_516 k h)
                            refine lv_goto (tgt := 239) hx hb dX11_advance_122 (by decide) ?_
                            exact z_vret hx hb hr hlocks hP hD hS dX11_advance_239 ⟨⟨hI_536, hf_537, rfl⟩, mTr_adv (I1 := (zp I_516 0 10 (nI 1))) hx_517.2 hx_517.1⟩
                          · cases hu_526
                            have f_538 : zL 123 255 ((R 4 (I_516 0 8).toNatClampNeg &&& nI 255).toInt64) := zL_lty h2_526 zkl_122 (zR_i2l h2_523) (by decide)
                            have f_539 : zR 123 255 (R 4 (I_516 0 8).toNatClampNeg &&& nI 255) := zL_back f_538
                            refine lv_if_eq (tgt := 117) hx hb dX11_advance_101 (by decide) (fun _ => ?_) (fun c_0 => absurd (zD_eq zk_0 zk_z) c_0)
                            refine lv_aload_n hx hb dX11_advance_117 rfl (lv_at hl 0 rfl) ?_
                            refine lv_iconst (v := nI 1) hx hb dX11_advance_118 (by decide +kernel) ?_
                            refine z_putI hx hb ht hown hK hP hD hS ziX11 tyX11 tyX11_ok nmX11 rfl 0 (by decide) 10 (by decide) hw_5_197 rfl (v := nI 1) rfl rfl rfl (Nat.le_of_ble_eq_true rfl) rfl dX11_advance_119 (fun H locs hP hD hS => ?_)
                            have hI_540 := mInv_I hI_516 0 10 (nI 1) (zR_any (nI 1)) rfl
                            have hf_541 : ∀ k, k ≠ 0 → (zp I_516 0 10 (nI 1)) k = I k := fun k h => (zp_nk h).trans (hf_516 k h)
                            refine lv_goto (tgt := 239) hx hb dX11_advance_122 (by decide) ?_
                            exact z_vret hx hb hr hlocks hP hD hS dX11_advance_239 ⟨⟨hI_540, hf_541, rfl⟩, mTr_adv (I1 := (zp I_516 0 10 (nI 1))) hx_517.2 hx_517.1⟩
                        · cases hu_523
                          refine lv_i2l (v := (-1 : Int64)) hx hb dX11_advance_91 (by decide +kernel) ?_
                          refine lv_ldc2 (v := (97 : Int64)) hx hb hown (ht _ hw_6_117) dX11_advance_92 ?_
                          refine lv_ldc2 (v := (122 : Int64)) hx hb hown (ht _ hw_6_118) dX11_advance_95 ?_
                          refine z_callSi (As := [.long ((-1 : Int64)), .long ((97 : Int64)), .long ((122 : Int64))]) (rest := []) hx hb hml hown ht (mk_X11_in l D q cA F _ _ _ hI_516 ((-1 : Int64)) ((97 : Int64)) ((122 : Int64))) hw_6_86 hmX11_in ⟨rfl, rfl⟩ (na := 3) rfl (by decide +kernel) (by decide) hK hP hD hS hA hl.1 rfl (Nat.le_of_ble_eq_true rfl) ⟨Nat.zero_le _, Nat.zero_le _⟩ dX11_advance_98 (fun r_542 I_542 R_542 J_542 H locs hp_542 hP hD hS _ _ => ?_)
                          rcases hp_542 with ⟨rfl, hu_542, h1_542, h2_542⟩ | ⟨rfl, hu_542, h1_542 | h2_542⟩
                          · cases hu_542
                            have f_543 : zL 97 (-1) ((-1 : Int64)) := zL_ley h1_542 zkl_97 zkl_m1 (by decide)
                            exact zL_absurd f_543 (by decide)
                          · cases hu_542
                            refine lv_if_eq (tgt := 117) hx hb dX11_advance_101 (by decide) (fun _ => ?_) (fun c_0 => absurd (zD_eq zk_0 zk_z) c_0)
                            refine lv_aload_n hx hb dX11_advance_117 rfl (lv_at hl 0 rfl) ?_
                            refine lv_iconst (v := nI 1) hx hb dX11_advance_118 (by decide +kernel) ?_
                            refine z_putI hx hb ht hown hK hP hD hS ziX11 tyX11 tyX11_ok nmX11 rfl 0 (by decide) 10 (by decide) hw_5_197 rfl (v := nI 1) rfl rfl rfl (Nat.le_of_ble_eq_true rfl) rfl dX11_advance_119 (fun H locs hP hD hS => ?_)
                            have hI_544 := mInv_I hI_516 0 10 (nI 1) (zR_any (nI 1)) rfl
                            have hf_545 : ∀ k, k ≠ 0 → (zp I_516 0 10 (nI 1)) k = I k := fun k h => (zp_nk h).trans (hf_516 k h)
                            refine lv_goto (tgt := 239) hx hb dX11_advance_122 (by decide) ?_
                            exact z_vret hx hb hr hlocks hP hD hS dX11_advance_239 ⟨⟨hI_544, hf_545, rfl⟩, mTr_adv (I1 := (zp I_516 0 10 (nI 1))) hx_517.2 hx_517.1⟩
                          · cases hu_542
                            have f_546 : zL 123 (-1) ((-1 : Int64)) := zL_lty h2_542 zkl_122 zkl_m1 (by decide)
                            exact zL_absurd f_546 (by decide)
                    exact loop_518 _ _ hI_460 hf_461 ⟨(m_lt1 hx_431.1 mv_459), hx_431.2⟩ (Nat.lt_succ_self _) _ _ hP hD hS _ (lv_sub hl [1, 0] rfl)
                  · cases hu_458
                    have f_547 : zL 97 96 ((R 4 (I_430 0 8).toNatClampNeg &&& nI 255).toInt64) := zL_ltx h1_458 f_455 zkl_97 (by decide)
                    exact zL_absurd f_547 (by decide)
                  · cases hu_458
                    have f_548 : zL 123 122 ((R 4 (I_430 0 8).toNatClampNeg &&& nI 255).toInt64) := zL_lty h2_458 zkl_122 f_455 (by decide)
                    exact zL_absurd f_548 (by decide)
                · cases hu_457
                  exact absurd h1_451 (Int.not_lt.mpr h1_457)
              · cases hu_452
                have f_549 : zL 0 96 ((R 4 (I_430 0 8).toNatClampNeg &&& nI 255).toInt64) := zL_ltx h1_452 (zR_i2l h2_445) zkl_97 (by decide)
                have f_550 : zR 0 96 (R 4 (I_430 0 8).toNatClampNeg &&& nI 255) := zL_back f_549
                refine lv_if_eq (tgt := 125) hx hb dX11_advance_80 (by decide) (fun _ => ?_) (fun c_0 => absurd (zD_eq zk_0 zk_z) c_0)
                refine lv_iload_n hx hb dX11_advance_125 rfl (lv_at hl 0 rfl) ?_
                refine lv_i2l (v := (R 4 (I_430 0 8).toNatClampNeg &&& nI 255).toInt64) hx hb dX11_advance_126 rfl ?_
                refine lv_ldc2 (v := (48 : Int64)) hx hb hown (ht _ hw_6_119) dX11_advance_127 ?_
                refine lv_ldc2 (v := (57 : Int64)) hx hb hown (ht _ hw_6_120) dX11_advance_130 ?_
                refine z_callSi (As := [.long ((R 4 (I_430 0 8).toNatClampNeg &&& nI 255).toInt64), .long ((48 : Int64)), .long ((57 : Int64))]) (rest := []) hx hb hml hown ht (mk_X11_in l D q cA F _ _ _ hI_449 ((R 4 (I_430 0 8).toNatClampNeg &&& nI 255).toInt64) ((48 : Int64)) ((57 : Int64))) hw_6_86 hmX11_in ⟨rfl, rfl⟩ (na := 3) rfl (by decide +kernel) (by decide) hK hP hD hS hA hl.1 rfl (Nat.le_of_ble_eq_true rfl) ⟨Nat.zero_le _, Nat.zero_le _⟩ dX11_advance_133 (fun r_551 I_551 R_551 J_551 H locs hp_551 hP hD hS _ _ => ?_)
                rcases hp_551 with ⟨rfl, hu_551, h1_551, h2_551⟩ | ⟨rfl, hu_551, h1_551 | h2_551⟩
                · cases hu_551
                  have f_552 : zL 48 96 ((R 4 (I_430 0 8).toNatClampNeg &&& nI 255).toInt64) := zL_ley h1_551 zkl_48 f_549 (by decide)
                  have f_553 : zR 48 96 (R 4 (I_430 0 8).toNatClampNeg &&& nI 255) := zL_back f_552
                  have f_554 : zL 48 57 ((R 4 (I_430 0 8).toNatClampNeg &&& nI 255).toInt64) := zL_lex h2_551 f_552 zkl_57 (by decide)
                  have f_555 : zR 48 57 (R 4 (I_430 0 8).toNatClampNeg &&& nI 255) := zL_back f_554
                  refine lv_if_eq (tgt := 214) hx hb dX11_advance_136 (by decide) (fun c_0 => absurd c_0 (zD_ne zk_1 zk_z (by decide))) (fun _ => ?_)
                  refine lv_aload_n hx hb dX11_advance_139 rfl (lv_at hl 1 rfl) ?_
                  refine lv_iconst (v := nI 0) hx hb dX11_advance_140 (by decide +kernel) ?_
                  refine z_putI hx hb ht hown hK hP hD hS ziX11 tyX11 tyX11_ok nmX11 rfl 0 (by decide) 11 (by decide) hw_5_198 rfl (v := nI 0) rfl rfl rfl (Nat.le_of_ble_eq_true rfl) rfl dX11_advance_141 (fun H locs hP hD hS => ?_)
                  have hI_556 := mInv_I hI_449 0 11 (nI 0) (zR_any (nI 0)) rfl
                  have hf_557 : ∀ k, k ≠ 0 → (zp (zp I_430 0 9 (I_430 0 8)) 0 11 (nI 0)) k = I k := fun k h => (zp_nk h).trans (hf_450 k h)
                  refine lv_aload_n hx hb dX11_advance_144 rfl (lv_at hl 1 rfl) ?_
                  refine lv_aload_n hx hb dX11_advance_145 rfl (lv_at hl 1 rfl) ?_
                  refine z_get hx hb ht hown hK hP ziX11 rfl 0 (by decide) 8 (by decide) hw_5_195 rfl (v := .int (I_430 0 8)) rfl dX11_advance_146 ?_
                  refine z_callVi (k := 0) (As := [.int (I_430 0 8)]) (rest := []) hx hb hml hown ht (mk_X11_see l D q cA F _ _ _ hI_556 (I_430 0 8) (zR_w f_446 (by decide))) hw_6_113 hmX11_see ⟨rfl, rfl⟩ (na := 1) rfl (by decide +kernel) (by decide) (by decide) rfl rfl hK hP hD hS hA hl.1 rfl (Nat.le_of_ble_eq_true rfl) ⟨Nat.zero_le _, Nat.zero_le _⟩ dX11_advance_149 (fun r_558 I_558 R_558 J_558 H locs hp_558 hP hD hS _ _ => ?_)
                  rcases hp_558 with ⟨h1_558, h2_558, rfl, hu_558⟩ | ⟨h1_558, rfl, hu_558⟩
                  · cases hu_558
                    refine lv_i2l (v := (R 4 (I_430 0 8).toNatClampNeg &&& nI 255).toInt64) hx hb dX11_advance_152 rfl ?_
                    refine lv_ldc2 (v := (48 : Int64)) hx hb hown (ht _ hw_6_119) dX11_advance_153 ?_
                    refine lv_ldc2 (v := (57 : Int64)) hx hb hown (ht _ hw_6_120) dX11_advance_156 ?_
                    refine z_callSi (As := [.long ((R 4 (I_430 0 8).toNatClampNeg &&& nI 255).toInt64), .long ((48 : Int64)), .long ((57 : Int64))]) (rest := []) hx hb hml hown ht (mk_X11_in l D q cA F _ _ _ hI_556 ((R 4 (I_430 0 8).toNatClampNeg &&& nI 255).toInt64) ((48 : Int64)) ((57 : Int64))) hw_6_86 hmX11_in ⟨rfl, rfl⟩ (na := 3) rfl (by decide +kernel) (by decide) hK hP hD hS hA hl.1 rfl (Nat.le_of_ble_eq_true rfl) ⟨Nat.zero_le _, Nat.zero_le _⟩ dX11_advance_159 (fun r_559 I_559 R_559 J_559 H locs hp_559 hP hD hS _ _ => ?_)
                    rcases hp_559 with ⟨rfl, hu_559, h1_559, h2_559⟩ | ⟨rfl, hu_559, h1_559 | h2_559⟩
                    · cases hu_559
                      refine lv_if_eq (tgt := 206) hx hb dX11_advance_162 (by decide) (fun c_0 => absurd c_0 (zD_ne zk_1 zk_z (by decide))) (fun _ => ?_)
                      refine lv_aload_n hx hb dX11_advance_165 rfl (lv_at hl 1 rfl) ?_
                      refine lv_ldc (v := nI 99999) hx hb hown (ht _ hw_6_121) dX11_advance_166 ?_
                      refine lv_bipush (v := nI 10) hx hb dX11_advance_168 (by decide +kernel) ?_
                      refine lv_aload_n hx hb dX11_advance_170 rfl (lv_at hl 1 rfl) ?_
                      refine z_get hx hb ht hown hK hP ziX11 rfl 0 (by decide) 11 (by decide) hw_5_198 rfl (v := .int (nI 0)) rfl dX11_advance_171 ?_
                      refine lv_imul hx hb dX11_advance_174 ?_
                      refine z_eqi (y := nI 0) (by decide +kernel) ?_
                      refine lv_aload_n hx hb dX11_advance_175 rfl (lv_at hl 1 rfl) ?_
                      refine lv_aload_n hx hb dX11_advance_176 rfl (lv_at hl 1 rfl) ?_
                      refine z_get hx hb ht hown hK hP ziX11 rfl 0 (by decide) 8 (by decide) hw_5_195 rfl (v := .int (I_430 0 8)) rfl dX11_advance_177 ?_
                      refine z_callVi (k := 0) (As := [.int (I_430 0 8)]) (rest := [.int (nI 0), .int (nI 99999), .ref (q 0)]) hx hb hml hown ht (mk_X11_see l D q cA F _ _ _ hI_556 (I_430 0 8) (zR_w f_446 (by decide))) hw_6_113 hmX11_see ⟨rfl, rfl⟩ (na := 1) rfl (by decide +kernel) (by decide) (by decide) rfl rfl hK hP hD hS hA hl.1 rfl (Nat.le_of_ble_eq_true rfl) ⟨Nat.zero_le _, Nat.zero_le _⟩ dX11_advance_180 (fun r_560 I_560 R_560 J_560 H locs hp_560 hP hD hS _ _ => ?_)
                      have hu_560 : (I_560, R_560, J_560) = ((zp (zp I_430 0 9 (I_430 0 8)) 0 11 (nI 0)), R, J) := hp_560.elim (fun h => h.2.2.2) (fun h => h.2.2)
                      cases hu_560
                      refine z_any (fun v_561 => ?_)
                      refine lv_iadd hx hb dX11_advance_183 ?_
                      refine z_cadd (-2147483648) 2147483647 zk_0 (zR_any (v_561)) (by decide) (fun v_562 hv_562 mv_562 => ?_)
                      refine lv_bipush (v := nI 48) hx hb dX11_advance_184 (by decide +kernel) ?_
                      refine lv_isub hx hb dX11_advance_186 ?_
                      refine z_any (fun v_563 => ?_)
                      refine va_mmin hx hb (hml.trans hl.1.symm) hown (ht _ hw_6_122) (ht _ hw_3_217) (ht _ hw_1_19) (ht _ hw_3_218) (by decide) (Nat.le_of_ble_eq_true rfl) (Nat.zero_le _) (Nat.zero_le _) dX11_advance_187 ?_
                      refine z_any (fun v_564 => ?_)
                      refine z_putI hx hb ht hown hK hP hD hS ziX11 tyX11 tyX11_ok nmX11 rfl 0 (by decide) 11 (by decide) hw_5_198 rfl (v := v_564) rfl rfl rfl (Nat.le_of_ble_eq_true rfl) rfl dX11_advance_190 (fun H locs hP hD hS => ?_)
                      have hI_565 := mInv_I hI_556 0 11 (v_564) (zR_any (v_564)) rfl
                      have hf_566 : ∀ k, k ≠ 0 → (zp (zp (zp I_430 0 9 (I_430 0 8)) 0 11 (nI 0)) 0 11 (v_564)) k = I k := fun k h => (zp_nk h).trans (hf_557 k h)
                      refine lv_aload_n hx hb dX11_advance_193 rfl (lv_at hl 1 rfl) ?_
                      refine lv_dup hx hb dX11_advance_194 rfl ?_
                      refine z_get hx hb ht hown hK hP ziX11 rfl 0 (by decide) 8 (by decide) hw_5_195 rfl (v := .int (I_430 0 8)) rfl dX11_advance_195 ?_
                      refine lv_iconst (v := nI 1) hx hb dX11_advance_198 (by decide +kernel) ?_
                      refine lv_iadd hx hb dX11_advance_199 ?_
                      refine z_addc 1 800 f_446 zk_1 (by decide) (fun v_567 hv_567 mv_567 => ?_)
                      refine z_putI hx hb ht hown hK hP hD hS ziX11 tyX11 tyX11_ok nmX11 rfl 0 (by decide) 8 (by decide) hw_5_195 rfl (v := v_567) rfl rfl rfl (Nat.le_of_ble_eq_true rfl) rfl dX11_advance_200 (fun H locs hP hD hS => ?_)
                      have hI_568 := mInv_I hI_565 0 8 (v_567) (zR_w hv_567 (by decide)) rfl
                      have hf_569 : ∀ k, k ≠ 0 → (zp (zp (zp (zp I_430 0 9 (I_430 0 8)) 0 11 (nI 0)) 0 11 (v_564)) 0 8 (v_567)) k = I k := fun k h => (zp_nk h).trans (hf_566 k h)
                      refine lv_goto (tgt := 144) hx hb dX11_advance_203 (by decide) ?_
                      have loop_642 : ∀ N : Nat, ∀ I_640 : Nat → Nat → Int32, mInv F (I_640, R, J) → (∀ k, k ≠ 0 → I_640 k = I k) → ((I 0 8).toInt < (I_640 0 8).toInt ∧ I_640 0 12 = I 0 12) → (2147483648 - (I_640 0 8).toInt).toNat < N → ∀ (H : Heap) (locs : List Loc), va_P D vwCl (zw 25 q (zMd q cA) I_640 R J) H → va_D (zA 25 q sz) (zw 25 q (zMd q cA) I_640 R J) → va_S (zA 25 q sz) s.heap H locs → ∀ ls : Array Slot, lv_has ls 2 [(0, .ref (q 0)), (1, .int (R 4 (I_430 0 8).toNatClampNeg &&& nI 255))] → W p l e ({ frames := 1, cells := 0, slots := 0, locals := 64 } : Room) s m ([.ref (q 0)] : List Value).toArray below meth c H locs 0 0 (MQ below (va_Qv (fun u => (mInv F u ∧ (∀ k, k ≠ 0 → u.1 k = I k) ∧ u.2 = (R, J)) ∧ mTr I u.1) (zB D vwCl 25 q (zMd q cA) sz) (zA 25 q sz)) ([.ref (q 0)] : List Value).toArray s 0 0 (zA 25 q sz)) (F0 m 144 ls []) := by
                        intro N
                        induction N with
                        | zero => intro I_640 hI_640 hf_640 hx_641 hN; exact absurd hN (Nat.not_lt_zero _)
                        | succ N ih_644 =>
                          intro I_640 hI_640 hf_640 hx_641 hN_643 H locs hP hD hS ls hl
                          refine lv_aload_n hx hb dX11_advance_144 rfl (lv_at hl 0 rfl) ?_
                          refine lv_aload_n hx hb dX11_advance_145 rfl (lv_at hl 0 rfl) ?_
                          refine z_get hx hb ht hown hK hP ziX11 rfl 0 (by decide) 8 (by decide) hw_5_195 rfl (v := .int (I_640 0 8)) rfl dX11_advance_146 ?_
                          have f_645 : zR 0 800 (I_640 0 8) := mI hI_640 0 8
                          have f_646 : zR 0 800 (I_640 0 7) := mI hI_640 0 7
                          refine z_callVi (k := 0) (As := [.int (I_640 0 8)]) (rest := []) hx hb hml hown ht (mk_X11_see l D q cA F _ _ _ hI_640 (I_640 0 8) f_645) hw_6_113 hmX11_see ⟨rfl, rfl⟩ (na := 1) rfl (by decide +kernel) (by decide) (by decide) rfl rfl hK hP hD hS hA hl.1 rfl (Nat.le_of_ble_eq_true rfl) ⟨Nat.zero_le _, Nat.zero_le _⟩ dX11_advance_149 (fun r_647 I_647 R_647 J_647 H locs hp_647 hP hD hS _ _ => ?_)
                          rcases hp_647 with ⟨h1_647, h2_647, rfl, hu_647⟩ | ⟨h1_647, rfl, hu_647⟩
                          · cases hu_647
                            have f_648 : zR 0 799 (I_640 0 8) := zR_ltx h1_647 f_645 f_646 (by decide)
                            have f_649 : zR 1 800 (I_640 0 7) := zR_lty h1_647 f_645 f_646 (by decide)
                            refine lv_i2l (v := (R 4 (I_640 0 8).toNatClampNeg &&& nI 255).toInt64) hx hb dX11_advance_152 rfl ?_
                            refine lv_ldc2 (v := (48 : Int64)) hx hb hown (ht _ hw_6_119) dX11_advance_153 ?_
                            refine lv_ldc2 (v := (57 : Int64)) hx hb hown (ht _ hw_6_120) dX11_advance_156 ?_
                            refine z_callSi (As := [.long ((R 4 (I_640 0 8).toNatClampNeg &&& nI 255).toInt64), .long ((48 : Int64)), .long ((57 : Int64))]) (rest := []) hx hb hml hown ht (mk_X11_in l D q cA F _ _ _ hI_640 ((R 4 (I_640 0 8).toNatClampNeg &&& nI 255).toInt64) ((48 : Int64)) ((57 : Int64))) hw_6_86 hmX11_in ⟨rfl, rfl⟩ (na := 3) rfl (by decide +kernel) (by decide) hK hP hD hS hA hl.1 rfl (Nat.le_of_ble_eq_true rfl) ⟨Nat.zero_le _, Nat.zero_le _⟩ dX11_advance_159 (fun r_650 I_650 R_650 J_650 H locs hp_650 hP hD hS _ _ => ?_)
                            rcases hp_650 with ⟨rfl, hu_650, h1_650, h2_650⟩ | ⟨rfl, hu_650, h1_650 | h2_650⟩
                            · cases hu_650
                              have f_651 : zL 48 255 ((R 4 (I_640 0 8).toNatClampNeg &&& nI 255).toInt64) := zL_ley h1_650 zkl_48 (zR_i2l h2_647) (by decide)
                              have f_652 : zR 48 255 (R 4 (I_640 0 8).toNatClampNeg &&& nI 255) := zL_back f_651
                              have f_653 : zL 48 57 ((R 4 (I_640 0 8).toNatClampNeg &&& nI 255).toInt64) := zL_lex h2_650 f_651 zkl_57 (by decide)
                              have f_654 : zR 48 57 (R 4 (I_640 0 8).toNatClampNeg &&& nI 255) := zL_back f_653
                              refine lv_if_eq (tgt := 206) hx hb dX11_advance_162 (by decide) (fun c_0 => absurd c_0 (zD_ne zk_1 zk_z (by decide))) (fun _ => ?_)
                              refine lv_aload_n hx hb dX11_advance_165 rfl (lv_at hl 0 rfl) ?_
                              refine lv_ldc (v := nI 99999) hx hb hown (ht _ hw_6_121) dX11_advance_166 ?_
                              refine lv_bipush (v := nI 10) hx hb dX11_advance_168 (by decide +kernel) ?_
                              refine lv_aload_n hx hb dX11_advance_170 rfl (lv_at hl 0 rfl) ?_
                              refine z_get hx hb ht hown hK hP ziX11 rfl 0 (by decide) 11 (by decide) hw_5_198 rfl (v := .int (I_640 0 11)) rfl dX11_advance_171 ?_
                              refine lv_imul hx hb dX11_advance_174 ?_
                              refine z_any (fun v_655 => ?_)
                              refine lv_aload_n hx hb dX11_advance_175 rfl (lv_at hl 0 rfl) ?_
                              refine lv_aload_n hx hb dX11_advance_176 rfl (lv_at hl 0 rfl) ?_
                              refine z_get hx hb ht hown hK hP ziX11 rfl 0 (by decide) 8 (by decide) hw_5_195 rfl (v := .int (I_640 0 8)) rfl dX11_advance_177 ?_
                              refine z_callVi (k := 0) (As := [.int (I_640 0 8)]) (rest := [.int (v_655), .int (nI 99999), .ref (q 0)]) hx hb hml hown ht (mk_X11_see l D q cA F _ _ _ hI_640 (I_640 0 8) (zR_w f_648 (by decide))) hw_6_113 hmX11_see ⟨rfl, rfl⟩ (na := 1) rfl (by decide +kernel) (by decide) (by decide) rfl rfl hK hP hD hS hA hl.1 rfl (Nat.le_of_ble_eq_true rfl) ⟨Nat.zero_le _, Nat.zero_le _⟩ dX11_advance_180 (fun r_656 I_656 R_656 J_656 H locs hp_656 hP hD hS _ _ => ?_)
                              have hu_656 : (I_656, R_656, J_656) = (I_640, R, J) := hp_656.elim (fun h => h.2.2.2) (fun h => h.2.2)
                              cases hu_656
                              refine z_any (fun v_657 => ?_)
                              refine lv_iadd hx hb dX11_advance_183 ?_
                              refine z_any (fun v_658 => ?_)
                              refine lv_bipush (v := nI 48) hx hb dX11_advance_184 (by decide +kernel) ?_
                              refine lv_isub hx hb dX11_advance_186 ?_
                              refine z_any (fun v_659 => ?_)
                              refine va_mmin hx hb (hml.trans hl.1.symm) hown (ht _ hw_6_122) (ht _ hw_3_217) (ht _ hw_1_19) (ht _ hw_3_218) (by decide) (Nat.le_of_ble_eq_true rfl) (Nat.zero_le _) (Nat.zero_le _) dX11_advance_187 ?_
                              refine z_any (fun v_660 => ?_)
                              refine z_putI hx hb ht hown hK hP hD hS ziX11 tyX11 tyX11_ok nmX11 rfl 0 (by decide) 11 (by decide) hw_5_198 rfl (v := v_660) rfl rfl rfl (Nat.le_of_ble_eq_true rfl) rfl dX11_advance_190 (fun H locs hP hD hS => ?_)
                              have hI_661 := mInv_I hI_640 0 11 (v_660) (zR_any (v_660)) rfl
                              have hf_662 : ∀ k, k ≠ 0 → (zp I_640 0 11 (v_660)) k = I k := fun k h => (zp_nk h).trans (hf_640 k h)
                              refine lv_aload_n hx hb dX11_advance_193 rfl (lv_at hl 0 rfl) ?_
                              refine lv_dup hx hb dX11_advance_194 rfl ?_
                              refine z_get hx hb ht hown hK hP ziX11 rfl 0 (by decide) 8 (by decide) hw_5_195 rfl (v := .int (I_640 0 8)) rfl dX11_advance_195 ?_
                              refine lv_iconst (v := nI 1) hx hb dX11_advance_198 (by decide +kernel) ?_
                              refine lv_iadd hx hb dX11_advance_199 ?_
                              refine z_addc 1 800 f_648 zk_1 (by decide) (fun v_663 hv_663 mv_663 => ?_)
                              refine z_putI hx hb ht hown hK hP hD hS ziX11 tyX11 tyX11_ok nmX11 rfl 0 (by decide) 8 (by decide) hw_5_195 rfl (v := v_663) rfl rfl rfl (Nat.le_of_ble_eq_true rfl) rfl dX11_advance_200 (fun H locs hP hD hS => ?_)
                              have hI_664 := mInv_I hI_661 0 8 (v_663) (zR_w hv_663 (by decide)) rfl
                              have hf_665 : ∀ k, k ≠ 0 → (zp (zp I_640 0 11 (v_660)) 0 8 (v_663)) k = I k := fun k h => (zp_nk h).trans (hf_662 k h)
                              refine lv_goto (tgt := 144) hx hb dX11_advance_203 (by decide) ?_
                              exact ih_644 _ hI_664 hf_665 ⟨(m_lt1 (Int.le_of_lt hx_641.1) mv_663), hx_641.2⟩ (z2_up mv_663 (by decide) hN_643) _ _ hP hD hS _ (lv_sub hl [0, 1] rfl)
                            · cases hu_650
                              have f_666 : zL 0 47 ((R 4 (I_640 0 8).toNatClampNeg &&& nI 255).toInt64) := zL_ltx h1_650 (zR_i2l h2_647) zkl_48 (by decide)
                              have f_667 : zR 0 47 (R 4 (I_640 0 8).toNatClampNeg &&& nI 255) := zL_back f_666
                              refine lv_if_eq (tgt := 206) hx hb dX11_advance_162 (by decide) (fun _ => ?_) (fun c_0 => absurd (zD_eq zk_0 zk_z) c_0)
                              refine lv_aload_n hx hb dX11_advance_206 rfl (lv_at hl 0 rfl) ?_
                              refine lv_iconst (v := nI 2) hx hb dX11_advance_207 (by decide +kernel) ?_
                              refine z_putI hx hb ht hown hK hP hD hS ziX11 tyX11 tyX11_ok nmX11 rfl 0 (by decide) 10 (by decide) hw_5_197 rfl (v := nI 2) rfl rfl rfl (Nat.le_of_ble_eq_true rfl) rfl dX11_advance_208 (fun H locs hP hD hS => ?_)
                              have hI_668 := mInv_I hI_640 0 10 (nI 2) (zR_any (nI 2)) rfl
                              have hf_669 : ∀ k, k ≠ 0 → (zp I_640 0 10 (nI 2)) k = I k := fun k h => (zp_nk h).trans (hf_640 k h)
                              refine lv_goto (tgt := 239) hx hb dX11_advance_211 (by decide) ?_
                              exact z_vret hx hb hr hlocks hP hD hS dX11_advance_239 ⟨⟨hI_668, hf_669, rfl⟩, mTr_adv (I1 := (zp I_640 0 10 (nI 2))) hx_641.2 hx_641.1⟩
                            · cases hu_650
                              have f_670 : zL 58 255 ((R 4 (I_640 0 8).toNatClampNeg &&& nI 255).toInt64) := zL_lty h2_650 zkl_57 (zR_i2l h2_647) (by decide)
                              have f_671 : zR 58 255 (R 4 (I_640 0 8).toNatClampNeg &&& nI 255) := zL_back f_670
                              refine lv_if_eq (tgt := 206) hx hb dX11_advance_162 (by decide) (fun _ => ?_) (fun c_0 => absurd (zD_eq zk_0 zk_z) c_0)
                              refine lv_aload_n hx hb dX11_advance_206 rfl (lv_at hl 0 rfl) ?_
                              refine lv_iconst (v := nI 2) hx hb dX11_advance_207 (by decide +kernel) ?_
                              refine z_putI hx hb ht hown hK hP hD hS ziX11 tyX11 tyX11_ok nmX11 rfl 0 (by decide) 10 (by decide) hw_5_197 rfl (v := nI 2) rfl rfl rfl (Nat.le_of_ble_eq_true rfl) rfl dX11_advance_208 (fun H locs hP hD hS => ?_)
                              have hI_672 := mInv_I hI_640 0 10 (nI 2) (zR_any (nI 2)) rfl
                              have hf_673 : ∀ k, k ≠ 0 → (zp I_640 0 10 (nI 2)) k = I k := fun k h => (zp_nk h).trans (hf_640 k h)
                              refine lv_goto (tgt := 239) hx hb dX11_advance_211 (by decide) ?_
                              exact z_vret hx hb hr hlocks hP hD hS dX11_advance_239 ⟨⟨hI_672, hf_673, rfl⟩, mTr_adv (I1 := (zp I_640 0 10 (nI 2))) hx_641.2 hx_641.1⟩
                          · cases hu_647
                            refine lv_i2l (v := (-1 : Int64)) hx hb dX11_advance_152 (by decide +kernel) ?_
                            refine lv_ldc2 (v := (48 : Int64)) hx hb hown (ht _ hw_6_119) dX11_advance_153 ?_
                            refine lv_ldc2 (v := (57 : Int64)) hx hb hown (ht _ hw_6_120) dX11_advance_156 ?_
                            refine z_callSi (As := [.long ((-1 : Int64)), .long ((48 : Int64)), .long ((57 : Int64))]) (rest := []) hx hb hml hown ht (mk_X11_in l D q cA F _ _ _ hI_640 ((-1 : Int64)) ((48 : Int64)) ((57 : Int64))) hw_6_86 hmX11_in ⟨rfl, rfl⟩ (na := 3) rfl (by decide +kernel) (by decide) hK hP hD hS hA hl.1 rfl (Nat.le_of_ble_eq_true rfl) ⟨Nat.zero_le _, Nat.zero_le _⟩ dX11_advance_159 (fun r_674 I_674 R_674 J_674 H locs hp_674 hP hD hS _ _ => ?_)
                            rcases hp_674 with ⟨rfl, hu_674, h1_674, h2_674⟩ | ⟨rfl, hu_674, h1_674 | h2_674⟩
                            · cases hu_674
                              have f_675 : zL 48 (-1) ((-1 : Int64)) := zL_ley h1_674 zkl_48 zkl_m1 (by decide)
                              exact zL_absurd f_675 (by decide)
                            · cases hu_674
                              refine lv_if_eq (tgt := 206) hx hb dX11_advance_162 (by decide) (fun _ => ?_) (fun c_0 => absurd (zD_eq zk_0 zk_z) c_0)
                              refine lv_aload_n hx hb dX11_advance_206 rfl (lv_at hl 0 rfl) ?_
                              refine lv_iconst (v := nI 2) hx hb dX11_advance_207 (by decide +kernel) ?_
                              refine z_putI hx hb ht hown hK hP hD hS ziX11 tyX11 tyX11_ok nmX11 rfl 0 (by decide) 10 (by decide) hw_5_197 rfl (v := nI 2) rfl rfl rfl (Nat.le_of_ble_eq_true rfl) rfl dX11_advance_208 (fun H locs hP hD hS => ?_)
                              have hI_676 := mInv_I hI_640 0 10 (nI 2) (zR_any (nI 2)) rfl
                              have hf_677 : ∀ k, k ≠ 0 → (zp I_640 0 10 (nI 2)) k = I k := fun k h => (zp_nk h).trans (hf_640 k h)
                              refine lv_goto (tgt := 239) hx hb dX11_advance_211 (by decide) ?_
                              exact z_vret hx hb hr hlocks hP hD hS dX11_advance_239 ⟨⟨hI_676, hf_677, rfl⟩, mTr_adv (I1 := (zp I_640 0 10 (nI 2))) hx_641.2 hx_641.1⟩
                            · cases hu_674
                              have f_678 : zL 58 (-1) ((-1 : Int64)) := zL_lty h2_674 zkl_57 zkl_m1 (by decide)
                              exact zL_absurd f_678 (by decide)
                      exact loop_642 _ _ hI_568 hf_569 ⟨(m_lt1 hx_431.1 mv_567), hx_431.2⟩ (Nat.lt_succ_self _) _ _ hP hD hS _ (lv_sub hl [1, 0] rfl)
                    · cases hu_559
                      have f_679 : zL 48 47 ((R 4 (I_430 0 8).toNatClampNeg &&& nI 255).toInt64) := zL_ltx h1_559 f_554 zkl_48 (by decide)
                      exact zL_absurd f_679 (by decide)
                    · cases hu_559
                      have f_680 : zL 58 57 ((R 4 (I_430 0 8).toNatClampNeg &&& nI 255).toInt64) := zL_lty h2_559 zkl_57 f_554 (by decide)
                      exact zL_absurd f_680 (by decide)
                  · cases hu_558
                    exact absurd h1_451 (Int.not_lt.mpr h1_558)
                · cases hu_551
                  have f_681 : zL 0 47 ((R 4 (I_430 0 8).toNatClampNeg &&& nI 255).toInt64) := zL_ltx h1_551 f_549 zkl_48 (by decide)
                  have f_682 : zR 0 47 (R 4 (I_430 0 8).toNatClampNeg &&& nI 255) := zL_back f_681
                  refine lv_if_eq (tgt := 214) hx hb dX11_advance_136 (by decide) (fun _ => ?_) (fun c_0 => absurd (zD_eq zk_0 zk_z) c_0)
                  refine lv_aload_n hx hb dX11_advance_214 rfl (lv_at hl 1 rfl) ?_
                  refine lv_iload_n hx hb dX11_advance_215 rfl (lv_at hl 0 rfl) ?_
                  refine lv_bipush (v := nI 59) hx hb dX11_advance_216 (by decide +kernel) ?_
                  refine lv_icmp_ne (tgt := 225) hx hb dX11_advance_218 (by decide) (fun _ => ?_) (fun c_0 => absurd c_0 (zD_ne f_682 zk_59 (by decide)))
                  refine lv_iconst (v := nI 4) hx hb dX11_advance_225 (by decide +kernel) ?_
                  refine z_putI hx hb ht hown hK hP hD hS ziX11 tyX11 tyX11_ok nmX11 rfl 0 (by decide) 10 (by decide) hw_5_197 rfl (v := nI 4) rfl rfl rfl (Nat.le_of_ble_eq_true rfl) rfl dX11_advance_226 (fun H locs hP hD hS => ?_)
                  have hI_683 := mInv_I hI_449 0 10 (nI 4) (zR_any (nI 4)) rfl
                  have hf_684 : ∀ k, k ≠ 0 → (zp (zp I_430 0 9 (I_430 0 8)) 0 10 (nI 4)) k = I k := fun k h => (zp_nk h).trans (hf_450 k h)
                  refine lv_aload_n hx hb dX11_advance_229 rfl (lv_at hl 1 rfl) ?_
                  refine lv_dup hx hb dX11_advance_230 rfl ?_
                  refine z_get hx hb ht hown hK hP ziX11 rfl 0 (by decide) 8 (by decide) hw_5_195 rfl (v := .int (I_430 0 8)) rfl dX11_advance_231 ?_
                  refine lv_iconst (v := nI 1) hx hb dX11_advance_234 (by decide +kernel) ?_
                  refine lv_iadd hx hb dX11_advance_235 ?_
                  refine z_addc 1 800 f_446 zk_1 (by decide) (fun v_685 hv_685 mv_685 => ?_)
                  refine z_putI hx hb ht hown hK hP hD hS ziX11 tyX11 tyX11_ok nmX11 rfl 0 (by decide) 8 (by decide) hw_5_195 rfl (v := v_685) rfl rfl rfl (Nat.le_of_ble_eq_true rfl) rfl dX11_advance_236 (fun H locs hP hD hS => ?_)
                  have hI_686 := mInv_I hI_683 0 8 (v_685) (zR_w hv_685 (by decide)) rfl
                  have hf_687 : ∀ k, k ≠ 0 → (zp (zp (zp I_430 0 9 (I_430 0 8)) 0 10 (nI 4)) 0 8 (v_685)) k = I k := fun k h => (zp_nk h).trans (hf_684 k h)
                  exact z_vret hx hb hr hlocks hP hD hS dX11_advance_239 ⟨⟨hI_686, hf_687, rfl⟩, mTr_adv (I1 := (zp (zp (zp I_430 0 9 (I_430 0 8)) 0 10 (nI 4)) 0 8 (v_685))) hx_431.2 (m_lt1 hx_431.1 mv_685)⟩
                · cases hu_551
                  have f_688 : zL 58 96 ((R 4 (I_430 0 8).toNatClampNeg &&& nI 255).toInt64) := zL_lty h2_551 zkl_57 f_549 (by decide)
                  have f_689 : zR 58 96 (R 4 (I_430 0 8).toNatClampNeg &&& nI 255) := zL_back f_688
                  refine lv_if_eq (tgt := 214) hx hb dX11_advance_136 (by decide) (fun _ => ?_) (fun c_0 => absurd (zD_eq zk_0 zk_z) c_0)
                  refine lv_aload_n hx hb dX11_advance_214 rfl (lv_at hl 1 rfl) ?_
                  refine lv_iload_n hx hb dX11_advance_215 rfl (lv_at hl 0 rfl) ?_
                  refine lv_bipush (v := nI 59) hx hb dX11_advance_216 (by decide +kernel) ?_
                  have t_693 : ∀ x_692 : Int32, zR 3 4 x_692 → ∀ (H : Heap) (locs : List Loc), va_P D vwCl (zw 25 q (zMd q cA) (zp I_430 0 9 (I_430 0 8)) R J) H → va_D (zA 25 q sz) (zw 25 q (zMd q cA) (zp I_430 0 9 (I_430 0 8)) R J) → va_S (zA 25 q sz) s.heap H locs → ∀ ls : Array Slot, lv_has ls 2 [(0, .ref (q 0)), (1, .int (R 4 (I_430 0 8).toNatClampNeg &&& nI 255))] → W p l e ({ frames := 1, cells := 0, slots := 0, locals := 64 } : Room) s m ([.ref (q 0)] : List Value).toArray below meth c H locs 0 0 (MQ below (va_Qv (fun u => (mInv F u ∧ (∀ k, k ≠ 0 → u.1 k = I k) ∧ u.2 = (R, J)) ∧ mTr I u.1) (zB D vwCl 25 q (zMd q cA) sz) (zA 25 q sz)) ([.ref (q 0)] : List Value).toArray s 0 0 (zA 25 q sz)) (F0 m 226 ls [.int (x_692), .ref (q 0)]) := by
                    intro x_692 hx_692 H locs hP hD hS ls hl
                    refine z_putI hx hb ht hown hK hP hD hS ziX11 tyX11 tyX11_ok nmX11 rfl 0 (by decide) 10 (by decide) hw_5_197 rfl (v := x_692) rfl rfl rfl (Nat.le_of_ble_eq_true rfl) rfl dX11_advance_226 (fun H locs hP hD hS => ?_)
                    have hI_694 := mInv_I hI_449 0 10 (x_692) (zR_any (x_692)) rfl
                    have hf_695 : ∀ k, k ≠ 0 → (zp (zp I_430 0 9 (I_430 0 8)) 0 10 (x_692)) k = I k := fun k h => (zp_nk h).trans (hf_450 k h)
                    refine lv_aload_n hx hb dX11_advance_229 rfl (lv_at hl 0 rfl) ?_
                    refine lv_dup hx hb dX11_advance_230 rfl ?_
                    refine z_get hx hb ht hown hK hP ziX11 rfl 0 (by decide) 8 (by decide) hw_5_195 rfl (v := .int (I_430 0 8)) rfl dX11_advance_231 ?_
                    refine lv_iconst (v := nI 1) hx hb dX11_advance_234 (by decide +kernel) ?_
                    refine lv_iadd hx hb dX11_advance_235 ?_
                    refine z_addc 1 800 f_446 zk_1 (by decide) (fun v_696 hv_696 mv_696 => ?_)
                    refine z_putI hx hb ht hown hK hP hD hS ziX11 tyX11 tyX11_ok nmX11 rfl 0 (by decide) 8 (by decide) hw_5_195 rfl (v := v_696) rfl rfl rfl (Nat.le_of_ble_eq_true rfl) rfl dX11_advance_236 (fun H locs hP hD hS => ?_)
                    have hI_697 := mInv_I hI_694 0 8 (v_696) (zR_w hv_696 (by decide)) rfl
                    have hf_698 : ∀ k, k ≠ 0 → (zp (zp (zp I_430 0 9 (I_430 0 8)) 0 10 (x_692)) 0 8 (v_696)) k = I k := fun k h => (zp_nk h).trans (hf_695 k h)
                    exact z_vret hx hb hr hlocks hP hD hS dX11_advance_239 ⟨⟨hI_697, hf_698, rfl⟩, mTr_adv (I1 := (zp (zp (zp I_430 0 9 (I_430 0 8)) 0 10 (x_692)) 0 8 (v_696))) hx_431.2 (m_lt1 hx_431.1 mv_696)⟩
                  refine lv_icmp_ne (tgt := 225) hx hb dX11_advance_218 (by decide) (fun c_690 => ?_) (fun c_690 => ?_)
                  · have t_c_690 := z_eqF c_690
                    refine lv_iconst (v := nI 4) hx hb dX11_advance_225 (by decide +kernel) ?_
                    exact t_693 (nI 4) (zR_w zk_4 (by decide)) _ _ hP hD hS _ (lv_sub hl [1, 0] rfl)
                  · have t_c_690 := z_eqT c_690
                    have f_699 : zR 59 59 (R 4 (I_430 0 8).toNatClampNeg &&& nI 255) := zR_eqx t_c_690 zk_59
                    refine lv_iconst (v := nI 3) hx hb dX11_advance_221 (by decide +kernel) ?_
                    refine lv_goto (tgt := 226) hx hb dX11_advance_222 (by decide) ?_
                    exact t_693 (nI 3) (zR_w zk_3 (by decide)) _ _ hP hD hS _ (lv_sub hl [1, 0] rfl)
              · cases hu_452
                have f_700 : zL 123 255 ((R 4 (I_430 0 8).toNatClampNeg &&& nI 255).toInt64) := zL_lty h2_452 zkl_122 (zR_i2l h2_445) (by decide)
                have f_701 : zR 123 255 (R 4 (I_430 0 8).toNatClampNeg &&& nI 255) := zL_back f_700
                refine lv_if_eq (tgt := 125) hx hb dX11_advance_80 (by decide) (fun _ => ?_) (fun c_0 => absurd (zD_eq zk_0 zk_z) c_0)
                refine lv_iload_n hx hb dX11_advance_125 rfl (lv_at hl 0 rfl) ?_
                refine lv_i2l (v := (R 4 (I_430 0 8).toNatClampNeg &&& nI 255).toInt64) hx hb dX11_advance_126 rfl ?_
                refine lv_ldc2 (v := (48 : Int64)) hx hb hown (ht _ hw_6_119) dX11_advance_127 ?_
                refine lv_ldc2 (v := (57 : Int64)) hx hb hown (ht _ hw_6_120) dX11_advance_130 ?_
                refine z_callSi (As := [.long ((R 4 (I_430 0 8).toNatClampNeg &&& nI 255).toInt64), .long ((48 : Int64)), .long ((57 : Int64))]) (rest := []) hx hb hml hown ht (mk_X11_in l D q cA F _ _ _ hI_449 ((R 4 (I_430 0 8).toNatClampNeg &&& nI 255).toInt64) ((48 : Int64)) ((57 : Int64))) hw_6_86 hmX11_in ⟨rfl, rfl⟩ (na := 3) rfl (by decide +kernel) (by decide) hK hP hD hS hA hl.1 rfl (Nat.le_of_ble_eq_true rfl) ⟨Nat.zero_le _, Nat.zero_le _⟩ dX11_advance_133 (fun r_702 I_702 R_702 J_702 H locs hp_702 hP hD hS _ _ => ?_)
                rcases hp_702 with ⟨rfl, hu_702, h1_702, h2_702⟩ | ⟨rfl, hu_702, h1_702 | h2_702⟩
                · cases hu_702
                  have f_703 : zL 123 57 ((R 4 (I_430 0 8).toNatClampNeg &&& nI 255).toInt64) := zL_lex h2_702 f_700 zkl_57 (by decide)
                  exact zL_absurd f_703 (by decide)
                · cases hu_702
                  have f_704 : zL 123 47 ((R 4 (I_430 0 8).toNatClampNeg &&& nI 255).toInt64) := zL_ltx h1_702 f_700 zkl_48 (by decide)
                  exact zL_absurd f_704 (by decide)
                · cases hu_702
                  refine lv_if_eq (tgt := 214) hx hb dX11_advance_136 (by decide) (fun _ => ?_) (fun c_0 => absurd (zD_eq zk_0 zk_z) c_0)
                  refine lv_aload_n hx hb dX11_advance_214 rfl (lv_at hl 1 rfl) ?_
                  refine lv_iload_n hx hb dX11_advance_215 rfl (lv_at hl 0 rfl) ?_
                  refine lv_bipush (v := nI 59) hx hb dX11_advance_216 (by decide +kernel) ?_
                  refine lv_icmp_ne (tgt := 225) hx hb dX11_advance_218 (by decide) (fun _ => ?_) (fun c_0 => absurd c_0 (zD_ne f_701 zk_59 (by decide)))
                  refine lv_iconst (v := nI 4) hx hb dX11_advance_225 (by decide +kernel) ?_
                  refine z_putI hx hb ht hown hK hP hD hS ziX11 tyX11 tyX11_ok nmX11 rfl 0 (by decide) 10 (by decide) hw_5_197 rfl (v := nI 4) rfl rfl rfl (Nat.le_of_ble_eq_true rfl) rfl dX11_advance_226 (fun H locs hP hD hS => ?_)
                  have hI_705 := mInv_I hI_449 0 10 (nI 4) (zR_any (nI 4)) rfl
                  have hf_706 : ∀ k, k ≠ 0 → (zp (zp I_430 0 9 (I_430 0 8)) 0 10 (nI 4)) k = I k := fun k h => (zp_nk h).trans (hf_450 k h)
                  refine lv_aload_n hx hb dX11_advance_229 rfl (lv_at hl 1 rfl) ?_
                  refine lv_dup hx hb dX11_advance_230 rfl ?_
                  refine z_get hx hb ht hown hK hP ziX11 rfl 0 (by decide) 8 (by decide) hw_5_195 rfl (v := .int (I_430 0 8)) rfl dX11_advance_231 ?_
                  refine lv_iconst (v := nI 1) hx hb dX11_advance_234 (by decide +kernel) ?_
                  refine lv_iadd hx hb dX11_advance_235 ?_
                  refine z_addc 1 800 f_446 zk_1 (by decide) (fun v_707 hv_707 mv_707 => ?_)
                  refine z_putI hx hb ht hown hK hP hD hS ziX11 tyX11 tyX11_ok nmX11 rfl 0 (by decide) 8 (by decide) hw_5_195 rfl (v := v_707) rfl rfl rfl (Nat.le_of_ble_eq_true rfl) rfl dX11_advance_236 (fun H locs hP hD hS => ?_)
                  have hI_708 := mInv_I hI_705 0 8 (v_707) (zR_w hv_707 (by decide)) rfl
                  have hf_709 : ∀ k, k ≠ 0 → (zp (zp (zp I_430 0 9 (I_430 0 8)) 0 10 (nI 4)) 0 8 (v_707)) k = I k := fun k h => (zp_nk h).trans (hf_706 k h)
                  exact z_vret hx hb hr hlocks hP hD hS dX11_advance_239 ⟨⟨hI_708, hf_709, rfl⟩, mTr_adv (I1 := (zp (zp (zp I_430 0 9 (I_430 0 8)) 0 10 (nI 4)) 0 8 (v_707))) hx_431.2 (m_lt1 hx_431.1 mv_707)⟩
            · cases hu_451
              exact absurd h1_445 (Int.not_lt.mpr h1_451)
          · have t_c_448 := z_eqT c_448
            have f_710 : zR 10 10 (R 4 (I_430 0 8).toNatClampNeg &&& nI 255) := zR_eqx t_c_448 zk_10
            refine lv_aload_n hx hb dX11_advance_26 rfl (lv_at hl 0 rfl) ?_
            refine lv_dup hx hb dX11_advance_27 rfl ?_
            refine z_get hx hb ht hown hK hP ziX11 rfl 0 (by decide) 8 (by decide) hw_5_195 rfl (v := .int (I_430 0 8)) rfl dX11_advance_28 ?_
            refine lv_iconst (v := nI 1) hx hb dX11_advance_31 (by decide +kernel) ?_
            refine lv_iadd hx hb dX11_advance_32 ?_
            refine z_addc 1 800 f_446 zk_1 (by decide) (fun v_711 hv_711 mv_711 => ?_)
            refine z_putI hx hb ht hown hK hP hD hS ziX11 tyX11 tyX11_ok nmX11 rfl 0 (by decide) 8 (by decide) hw_5_195 rfl (v := v_711) rfl rfl rfl (Nat.le_of_ble_eq_true rfl) rfl dX11_advance_33 (fun H locs hP hD hS => ?_)
            have hI_712 := mInv_I hI_430 0 8 (v_711) (zR_w hv_711 (by decide)) rfl
            have hf_713 : ∀ k, k ≠ 0 → (zp I_430 0 8 (v_711)) k = I k := fun k h => (zp_nk h).trans (hf_430 k h)
            refine lv_goto (tgt := 0) hx hb dX11_advance_36 (by decide) ?_
            exact ih_434 _ hI_712 hf_713 ⟨(Int.le_of_lt (m_lt1 hx_431.1 mv_711)), hx_431.2⟩ (z2_up mv_711 (by decide) hN_433) _ _ hP hD hS _ (lv_sub hl [0] rfl)
        · cases hu_445
          refine lv_bipush (v := nI 10) hx hb dX11_advance_21 (by decide +kernel) ?_
          refine lv_icmp_ne (tgt := 39) hx hb dX11_advance_23 (by decide) (fun _ => ?_) (fun c_0 => absurd c_0 (zD_ne zk_m1 zk_10 (by decide)))
          refine lv_aload_n hx hb dX11_advance_39 rfl (lv_at hl 0 rfl) ?_
          refine lv_aload_n hx hb dX11_advance_40 rfl (lv_at hl 0 rfl) ?_
          refine z_get hx hb ht hown hK hP ziX11 rfl 0 (by decide) 8 (by decide) hw_5_195 rfl (v := .int (I_430 0 8)) rfl dX11_advance_41 ?_
          refine z_putI hx hb ht hown hK hP hD hS ziX11 tyX11 tyX11_ok nmX11 rfl 0 (by decide) 9 (by decide) hw_5_196 rfl (v := I_430 0 8) rfl rfl rfl (Nat.le_of_ble_eq_true rfl) rfl dX11_advance_44 (fun H locs hP hD hS => ?_)
          have hI_714 := mInv_I hI_430 0 9 (I_430 0 8) f_435 rfl
          have hf_715 : ∀ k, k ≠ 0 → (zp I_430 0 9 (I_430 0 8)) k = I k := fun k h => (zp_nk h).trans (hf_430 k h)
          refine lv_aload_n hx hb dX11_advance_47 rfl (lv_at hl 0 rfl) ?_
          refine lv_aload_n hx hb dX11_advance_48 rfl (lv_at hl 0 rfl) ?_
          refine z_get hx hb ht hown hK hP ziX11 rfl 0 (by decide) 8 (by decide) hw_5_195 rfl (v := .int (I_430 0 8)) rfl dX11_advance_49 ?_
          refine z_callVi (k := 0) (As := [.int (I_430 0 8)]) (rest := []) hx hb hml hown ht (mk_X11_see l D q cA F _ _ _ hI_714 (I_430 0 8) f_435) hw_6_113 hmX11_see ⟨rfl, rfl⟩ (na := 1) rfl (by decide +kernel) (by decide) (by decide) rfl rfl hK hP hD hS hA hl.1 rfl (Nat.le_of_ble_eq_true rfl) ⟨Nat.zero_le _, Nat.zero_le _⟩ dX11_advance_52 (fun r_716 I_716 R_716 J_716 H locs hp_716 hP hD hS _ _ => ?_)
          rcases hp_716 with ⟨h1_716, h2_716, rfl, hu_716⟩ | ⟨h1_716, rfl, hu_716⟩
          · cases hu_716
            have f_717 : zR 0 799 (I_430 0 8) := zR_ltx h1_716 f_435 f_436 (by decide)
            have f_718 : zR 1 800 (I_430 0 7) := zR_lty h1_716 f_435 f_436 (by decide)
            exact absurd h1_716 (Int.not_lt.mpr h1_445)
          · cases hu_716
            refine lv_istore_n (lv' := [(1, .int ((-1))), (0, .ref (q 0))]) hx hb dX11_advance_55 rfl hl (by decide) rfl (fun ls hl => ?_)
            refine lv_iload_n hx hb dX11_advance_56 rfl (lv_at hl 0 rfl) ?_
            refine lv_iconst (v := (-1)) hx hb dX11_advance_57 (by decide +kernel) ?_
            refine lv_icmp_ne (tgt := 69) hx hb dX11_advance_58 (by decide) (fun c_0 => absurd (zD_eq zk_m1 zk_m1) c_0) (fun _ => ?_)
            refine lv_aload_n hx hb dX11_advance_61 rfl (lv_at hl 1 rfl) ?_
            refine lv_iconst (v := nI 0) hx hb dX11_advance_62 (by decide +kernel) ?_
            refine z_putI hx hb ht hown hK hP hD hS ziX11 tyX11 tyX11_ok nmX11 rfl 0 (by decide) 10 (by decide) hw_5_197 rfl (v := nI 0) rfl rfl rfl (Nat.le_of_ble_eq_true rfl) rfl dX11_advance_63 (fun H locs hP hD hS => ?_)
            have hI_719 := mInv_I hI_714 0 10 (nI 0) (zR_any (nI 0)) rfl
            have hf_720 : ∀ k, k ≠ 0 → (zp (zp I_430 0 9 (I_430 0 8)) 0 10 (nI 0)) k = I k := fun k h => (zp_nk h).trans (hf_715 k h)
            refine lv_goto (tgt := 239) hx hb dX11_advance_66 (by decide) ?_
            exact z_vret hx hb hr hlocks hP hD hS dX11_advance_239 ⟨⟨hI_719, hf_720, rfl⟩, mTr_end (I1 := (zp (zp I_430 0 9 (I_430 0 8)) 0 10 (nI 0))) hx_431.2 hx_431.1 rfl⟩
      refine z_callVi (k := 0) (As := [.int (I_430 0 8)]) (rest := []) hx hb hml hown ht (mk_X11_see l D q cA F _ _ _ hI_430 (I_430 0 8) f_435) hw_6_113 hmX11_see ⟨rfl, rfl⟩ (na := 1) rfl (by decide +kernel) (by decide) (by decide) rfl rfl hK hP hD hS hA hl.1 rfl (Nat.le_of_ble_eq_true rfl) ⟨Nat.zero_le _, Nat.zero_le _⟩ dX11_advance_5 (fun r_721 I_721 R_721 J_721 H locs hp_721 hP hD hS _ _ => ?_)
      rcases hp_721 with ⟨h1_721, h2_721, rfl, hu_721⟩ | ⟨h1_721, rfl, hu_721⟩
      · cases hu_721
        have f_722 : zR 0 799 (I_430 0 8) := zR_ltx h1_721 f_435 f_436 (by decide)
        have f_723 : zR 1 800 (I_430 0 7) := zR_lty h1_721 f_435 f_436 (by decide)
        refine lv_bipush (v := nI 32) hx hb dX11_advance_8 (by decide +kernel) ?_
        refine lv_icmp_eq (tgt := 26) hx hb dX11_advance_10 (by decide) (fun c_724 => ?_) (fun c_724 => ?_)
        · have t_c_724 := z_eqT c_724
          have f_725 : zR 32 32 (R 4 (I_430 0 8).toNatClampNeg &&& nI 255) := zR_eqx t_c_724 zk_32
          refine lv_aload_n hx hb dX11_advance_26 rfl (lv_at hl 0 rfl) ?_
          refine lv_dup hx hb dX11_advance_27 rfl ?_
          refine z_get hx hb ht hown hK hP ziX11 rfl 0 (by decide) 8 (by decide) hw_5_195 rfl (v := .int (I_430 0 8)) rfl dX11_advance_28 ?_
          refine lv_iconst (v := nI 1) hx hb dX11_advance_31 (by decide +kernel) ?_
          refine lv_iadd hx hb dX11_advance_32 ?_
          refine z_addc 1 800 f_722 zk_1 (by decide) (fun v_726 hv_726 mv_726 => ?_)
          refine z_putI hx hb ht hown hK hP hD hS ziX11 tyX11 tyX11_ok nmX11 rfl 0 (by decide) 8 (by decide) hw_5_195 rfl (v := v_726) rfl rfl rfl (Nat.le_of_ble_eq_true rfl) rfl dX11_advance_33 (fun H locs hP hD hS => ?_)
          have hI_727 := mInv_I hI_430 0 8 (v_726) (zR_w hv_726 (by decide)) rfl
          have hf_728 : ∀ k, k ≠ 0 → (zp I_430 0 8 (v_726)) k = I k := fun k h => (zp_nk h).trans (hf_430 k h)
          refine lv_goto (tgt := 0) hx hb dX11_advance_36 (by decide) ?_
          exact ih_434 _ hI_727 hf_728 ⟨(Int.le_of_lt (m_lt1 hx_431.1 mv_726)), hx_431.2⟩ (z2_up mv_726 (by decide) hN_433) _ _ hP hD hS _ (lv_sub hl [0] rfl)
        · have t_c_724 := z_eqF c_724
          exact t_444  _ _ hP hD hS _ (lv_sub hl [0] rfl)
      · cases hu_721
        refine lv_bipush (v := nI 32) hx hb dX11_advance_8 (by decide +kernel) ?_
        refine lv_icmp_eq (tgt := 26) hx hb dX11_advance_10 (by decide) (fun c_0 => absurd c_0 (zD_ne zk_m1 zk_32 (by decide))) (fun _ => ?_)
        exact t_444  _ _ hP hD hS _ (lv_sub hl [0] rfl)
  exact loop_432 _ _ hI (fun (_ : Nat) _ => rfl) ⟨(Int.le_refl _), rfl⟩ (Nat.lt_succ_self _) _ _ hP hD hS _ (lv_sub hl [0] rfl)
set_option maxHeartbeats 4000000 in
set_option maxRecDepth 100000 in
theorem mk_X11_good (l : Launch) (D : va_G) (q : Nat → Nat) (cA : Nat → ClassId) (F : Nat → Nat → Int32) (I R : Nat → Nat → Int32) (J : Nat → Nat → Int64) (hI : mInv F (I, R, J))  : zMi l D vwCl (zMtys cA) 25 q (zMd q cA) yX11_good cX11_good 1 (some .boolean) ({ frames := 0, cells := 0, slots := 0, locals := 0 } : Room) [.ref (q 0)] (I, R, J) (fun r u => (r = nI 1 ∧ u = (I, R, J) ∧ zR 0 0 (I 0 12)) ∨ (r = nI 0 ∧ u = (I, R, J) ∧ zR 1 3 (I 0 12))) := by
  intro sz
  refine z_body (by decide +kernel) (Nat.le_of_ble_eq_true rfl) (fun p e s m below meth c ls hx hb hml hr ht hown hlocks hsz hK hP hD hS hl => ?_)
  have hA : ∀ a, s.heap.size ≤ a → zA 25 q sz a := fun a h => Or.inr (hsz ▸ h)
  have hl : lv_has ls 1 [(0, .ref (q 0))] := hl
  refine lv_aload_n hx hb dX11_good_0 rfl (lv_at hl 0 rfl) ?_
  refine z_get hx hb ht hown hK hP ziX11 rfl 0 (by decide) 12 (by decide) hw_5_199 rfl (v := .int (I 0 12)) rfl dX11_good_1 ?_
  have f_1 : zR 0 3 (I 0 12) := mI hI 0 12
  refine lv_if_ne (tgt := 11) hx hb dX11_good_4 (by decide) (fun c_2 => ?_) (fun c_2 => ?_)
  · have t_c_2 := z_eqF c_2
    have f_3 : zR 1 3 (I 0 12) := zR_nex t_c_2 f_1 zk_z (by decide)
    refine lv_iconst (v := nI 0) hx hb dX11_good_11 (by decide +kernel) ?_
    exact z_zret (v := nI 0) hx hb hr hlocks hP hD hS (by decide +kernel) dX11_good_12 (Or.inr ⟨rfl, rfl, f_3⟩)
  · have t_c_2 := z_eqT c_2
    have f_4 : zR 0 0 (I 0 12) := zR_eqx t_c_2 zk_z
    refine lv_iconst (v := nI 1) hx hb dX11_good_7 (by decide +kernel) ?_
    refine lv_goto (tgt := 12) hx hb dX11_good_8 (by decide) ?_
    exact z_zret (v := nI 1) hx hb hr hlocks hP hD hS (by decide +kernel) dX11_good_12 (Or.inl ⟨rfl, rfl, f_4⟩)
set_option maxHeartbeats 4000000 in
set_option maxRecDepth 100000 in
theorem mk_J0_coder_7d493 (l : Launch) (D : va_G) (q : Nat → Nat) (cA : Nat → ClassId) (ad av : Nat → Nat) (t9 : Nat) (F : Nat → Nat → Int32) (I R : Nat → Nat → Int32) (J : Nat → Nat → Int64) (hI : mInv F (I, R, J))  : zNi (zSS zMRs 25 q ad av t9) l D vwCl (zMtys cA) 25 q (zMd q cA) yJ0_coder_7d493 cJ0_coder_7d493 1 (some .byte) ({ frames := 0, cells := 0, slots := 0, locals := 0 } : Room) [.ref (ad 4)] (I, R, J) (fun r u => r = nI 0 ∧ u = (I, R, J)) := by
  intro sz
  refine z_bodyN (by decide +kernel) (Nat.le_of_ble_eq_true rfl) (fun p e s m below meth c ls hx hb hml hr ht hown hlocks hsz hK hP hD hS hN hl => ?_)
  have hA : ∀ a, s.heap.size ≤ a → zA 25 q sz a := fun a h => Or.inr (hsz ▸ h)
  have hl : lv_has ls 1 [(0, .ref (ad 4))] := hl
  have hZ : zSz zMRs 25 q ad av t9 sz s := hsz ▸ hN
  refine va_gets hx hb hZ.2.1 hS hown (ht _ hw_2_195) (fun _ h => h) dJ0_coder_7d493_0 ?_
  refine z_eqi (y := nI 1) rfl ?_
  refine lv_if_eq (tgt := 13) hx hb dJ0_coder_7d493_3 (by decide) (fun c_0 => absurd c_0 (zD_ne zk_1 zk_z (by decide))) (fun _ => ?_)
  refine lv_aload_n hx hb dJ0_coder_7d493_6 rfl (lv_at hl 0 rfl) ?_
  refine vk_getf hx hb (hZ.1.1 4 (by decide)).2.1 hS hown (ht _ hw_8_165) (fun _ h => h) dJ0_coder_7d493_7 ?_
  refine z_eqi (y := nI 0) rfl ?_
  refine lv_goto (tgt := 14) hx hb dJ0_coder_7d493_10 (by decide) ?_
  exact z_zret (v := nI 0) hx hb hr hlocks hP hD hS (by decide +kernel) dJ0_coder_7d493_14 ⟨rfl, rfl⟩
set_option maxHeartbeats 4000000 in
set_option maxRecDepth 100000 in
theorem mk_J0_length_8abf5 (l : Launch) (D : va_G) (q : Nat → Nat) (cA : Nat → ClassId) (ad av : Nat → Nat) (t9 : Nat) (F : Nat → Nat → Int32) (I R : Nat → Nat → Int32) (J : Nat → Nat → Int64) (hI : mInv F (I, R, J))  : zNi (zSS zMRs 25 q ad av t9) l D vwCl (zMtys cA) 25 q (zMd q cA) yJ0_length_8abf5 cJ0_length_8abf5 1 (some .int) ({ frames := 1, cells := 0, slots := 0, locals := 20 } : Room) [.ref (ad 4)] (I, R, J) (fun r u => r = nI 5 ∧ u = (I, R, J)) := by
  intro sz
  refine z_bodyN (by decide +kernel) (Nat.le_of_ble_eq_true rfl) (fun p e s m below meth c ls hx hb hml hr ht hown hlocks hsz hK hP hD hS hN hl => ?_)
  have hA : ∀ a, s.heap.size ≤ a → zA 25 q sz a := fun a h => Or.inr (hsz ▸ h)
  have hl : lv_has ls 1 [(0, .ref (ad 4))] := hl
  have hZ : zSz zMRs 25 q ad av t9 sz s := hsz ▸ hN
  refine lv_aload_n hx hb dJ0_length_8abf5_0 rfl (lv_at hl 0 rfl) ?_
  refine vk_getf hx hb (hZ.1.1 4 (by decide)).2.2.1 hS hown (ht _ hw_8_164) (fun _ h => h) dJ0_length_8abf5_1 ?_
  refine va_tlen hx hb (hZ.1.1 4 (by decide)).2.2.2 hS (v := nI 5) rfl dJ0_length_8abf5_4 ?_
  refine lv_aload_n hx hb dJ0_length_8abf5_5 rfl (lv_at hl 0 rfl) ?_
  refine z_cNXi (As := []) (rest := [.int (nI 5)]) hx hb hml hown ht (mk_J0_coder_7d493 l D q cA ad av t9 F _ _ _ hI ) hw_2_191 hmJ0_coder_7d493 ⟨rfl, rfl⟩ (na := 0) rfl (by decide +kernel) (by decide) (vk_recv hZ.1 (by decide) hS) hK hP hD hS hA (zSS_c (Rs := zMRs) (t9 := t9) (fun _ _ _ => zMRs_c)) (zSS_w (Rs := zMRs) (t9 := t9) (fun _ _ _ => zMRs_w) hN hsz hS) hl.1 rfl (Nat.le_of_ble_eq_true rfl) ⟨Nat.zero_le _, Nat.zero_le _⟩ dJ0_length_8abf5_6 (fun r_1 I_1 R_1 J_1 H locs hp_1 hP hD hS _ _ => ?_)
  obtain ⟨rfl, hu_1⟩ := hp_1
  cases hu_1
  refine lv_ishr hx hb dJ0_length_8abf5_9 ?_
  refine z_eqi (y := nI 5) (by decide +kernel) ?_
  exact z_iret (v := nI 5) hx hb hr hlocks hP hD hS dJ0_length_8abf5_10 ⟨rfl, rfl⟩
set_option maxHeartbeats 4000000 in
set_option maxRecDepth 100000 in
theorem mk_J0_isLatin1_aae02 (l : Launch) (D : va_G) (q : Nat → Nat) (cA : Nat → ClassId) (ad av : Nat → Nat) (t9 : Nat) (F : Nat → Nat → Int32) (I R : Nat → Nat → Int32) (J : Nat → Nat → Int64) (hI : mInv F (I, R, J))  : zNi (zSS zMRs 25 q ad av t9) l D vwCl (zMtys cA) 25 q (zMd q cA) yJ0_isLatin1_aae02 cJ0_isLatin1_aae02 1 (some .boolean) ({ frames := 0, cells := 0, slots := 0, locals := 0 } : Room) [.ref (ad 4)] (I, R, J) (fun r u => (r = nI 1 ∧ u = (I, R, J))) := by
  intro sz
  refine z_bodyN (by decide +kernel) (Nat.le_of_ble_eq_true rfl) (fun p e s m below meth c ls hx hb hml hr ht hown hlocks hsz hK hP hD hS hN hl => ?_)
  have hA : ∀ a, s.heap.size ≤ a → zA 25 q sz a := fun a h => Or.inr (hsz ▸ h)
  have hl : lv_has ls 1 [(0, .ref (ad 4))] := hl
  have hZ : zSz zMRs 25 q ad av t9 sz s := hsz ▸ hN
  refine va_gets hx hb hZ.2.1 hS hown (ht _ hw_2_195) (fun _ h => h) dJ0_isLatin1_aae02_0 ?_
  refine z_eqi (y := nI 1) rfl ?_
  refine lv_if_eq (tgt := 17) hx hb dJ0_isLatin1_aae02_3 (by decide) (fun c_0 => absurd c_0 (zD_ne zk_1 zk_z (by decide))) (fun _ => ?_)
  refine lv_aload_n hx hb dJ0_isLatin1_aae02_6 rfl (lv_at hl 0 rfl) ?_
  refine vk_getf hx hb (hZ.1.1 4 (by decide)).2.1 hS hown (ht _ hw_8_165) (fun _ h => h) dJ0_isLatin1_aae02_7 ?_
  refine z_eqi (y := nI 0) rfl ?_
  refine lv_if_ne (tgt := 17) hx hb dJ0_isLatin1_aae02_10 (by decide) (fun c_0 => absurd (zD_eq zk_0 zk_z) c_0) (fun _ => ?_)
  refine lv_iconst (v := nI 1) hx hb dJ0_isLatin1_aae02_13 (by decide +kernel) ?_
  refine lv_goto (tgt := 18) hx hb dJ0_isLatin1_aae02_14 (by decide) ?_
  exact z_zret (v := nI 1) hx hb hr hlocks hP hD hS (by decide +kernel) dJ0_isLatin1_aae02_18 ⟨rfl, rfl⟩
set_option maxHeartbeats 4000000 in
set_option maxRecDepth 100000 in
theorem mk_J3_checkIndex_8e157_2 (l : Launch) (D : va_G) (q : Nat → Nat) (cA : Nat → ClassId) (ad av : Nat → Nat) (t9 : Nat) (F : Nat → Nat → Int32) (I R : Nat → Nat → Int32) (J : Nat → Nat → Int64) (hI : mInv F (I, R, J)) (pa0 : Int32) (hpa0 : zR 0 4 pa0) : zNi (zSS zMRs 25 q ad av t9) l D vwCl (zMtys cA) 25 q (zMd q cA) yJ3_checkIndex_8e157 cJ3_checkIndex_8e157 3 (some .int) ({ frames := 0, cells := 0, slots := 0, locals := 0 } : Room) [.int (pa0), .int (nI 5), .null] (I, R, J) (fun r u => zR 0 4 r ∧ u = (I, R, J)) := by
  intro sz
  refine z_bodyN (by decide +kernel) (Nat.le_of_ble_eq_true rfl) (fun p e s m below meth c ls hx hb hml hr ht hown hlocks hsz hK hP hD hS hN hl => ?_)
  have hA : ∀ a, s.heap.size ≤ a → zA 25 q sz a := fun a h => Or.inr (hsz ▸ h)
  have hl : lv_has ls 3 [(0, .int (pa0)), (1, .int (nI 5)), (2, .null)] := hl
  have hZ : zSz zMRs 25 q ad av t9 sz s := hsz ▸ hN
  refine lv_iload_n hx hb dJ3_checkIndex_8e157_0 rfl (lv_at hl 0 rfl) ?_
  refine lv_if_lt (tgt := 9) hx hb dJ3_checkIndex_8e157_1 (by decide) (fun c_0 => absurd c_0 (zD_nlt hpa0 zk_z (by decide))) (fun _ => ?_)
  refine lv_iload_n hx hb dJ3_checkIndex_8e157_4 rfl (lv_at hl 0 rfl) ?_
  refine lv_iload_n hx hb dJ3_checkIndex_8e157_5 rfl (lv_at hl 1 rfl) ?_
  refine lv_icmp_lt (tgt := 16) hx hb dJ3_checkIndex_8e157_6 (by decide) (fun _ => ?_) (fun c_0 => absurd (zD_lt hpa0 zk_5 (by decide)) c_0)
  refine lv_iload_n hx hb dJ3_checkIndex_8e157_16 rfl (lv_at hl 0 rfl) ?_
  exact z_iret (v := pa0) hx hb hr hlocks hP hD hS dJ3_checkIndex_8e157_17 ⟨hpa0, rfl⟩
set_option maxHeartbeats 4000000 in
set_option maxRecDepth 100000 in
theorem mk_J3_checkIndex_8e157_3 (l : Launch) (D : va_G) (q : Nat → Nat) (cA : Nat → ClassId) (ad av : Nat → Nat) (t9 : Nat) (F : Nat → Nat → Int32) (I R : Nat → Nat → Int32) (J : Nat → Nat → Int64) (hI : mInv F (I, R, J)) (pa0 : Int32) (hpa0 : zR 0 4 pa0) : zNi (zSS zMRs 25 q ad av t9) l D vwCl (zMtys cA) 25 q (zMd q cA) yJ3_checkIndex_8e157 cJ3_checkIndex_8e157 3 (some .int) ({ frames := 0, cells := 0, slots := 0, locals := 0 } : Room) [.int (pa0), .int (nI 5), .ref (t9)] (I, R, J) (fun r u => zR 0 4 r ∧ u = (I, R, J)) := by
  intro sz
  refine z_bodyN (by decide +kernel) (Nat.le_of_ble_eq_true rfl) (fun p e s m below meth c ls hx hb hml hr ht hown hlocks hsz hK hP hD hS hN hl => ?_)
  have hA : ∀ a, s.heap.size ≤ a → zA 25 q sz a := fun a h => Or.inr (hsz ▸ h)
  have hl : lv_has ls 3 [(0, .int (pa0)), (1, .int (nI 5)), (2, .ref (t9))] := hl
  have hZ : zSz zMRs 25 q ad av t9 sz s := hsz ▸ hN
  refine lv_iload_n hx hb dJ3_checkIndex_8e157_0 rfl (lv_at hl 0 rfl) ?_
  refine lv_if_lt (tgt := 9) hx hb dJ3_checkIndex_8e157_1 (by decide) (fun c_0 => absurd c_0 (zD_nlt hpa0 zk_z (by decide))) (fun _ => ?_)
  refine lv_iload_n hx hb dJ3_checkIndex_8e157_4 rfl (lv_at hl 0 rfl) ?_
  refine lv_iload_n hx hb dJ3_checkIndex_8e157_5 rfl (lv_at hl 1 rfl) ?_
  refine lv_icmp_lt (tgt := 16) hx hb dJ3_checkIndex_8e157_6 (by decide) (fun _ => ?_) (fun c_0 => absurd (zD_lt hpa0 zk_5 (by decide)) c_0)
  refine lv_iload_n hx hb dJ3_checkIndex_8e157_16 rfl (lv_at hl 0 rfl) ?_
  exact z_iret (v := pa0) hx hb hr hlocks hP hD hS dJ3_checkIndex_8e157_17 ⟨hpa0, rfl⟩
set_option maxHeartbeats 4000000 in
set_option maxRecDepth 100000 in
theorem mk_J0_checkIndex_df160_1 (l : Launch) (D : va_G) (q : Nat → Nat) (cA : Nat → ClassId) (ad av : Nat → Nat) (t9 : Nat) (F : Nat → Nat → Int32) (I R : Nat → Nat → Int32) (J : Nat → Nat → Int64) (hI : mInv F (I, R, J)) (pa0 : Int32) (hpa0 : zR 0 4 pa0) : zNv (zSS zMRs 25 q ad av t9) l D vwCl (zMtys cA) 25 q (zMd q cA) yJ0_checkIndex_df160 cJ0_checkIndex_df160 2 none ({ frames := 1, cells := 0, slots := 0, locals := 22 } : Room) [.int (pa0), .int (nI 5)] (I, R, J) (fun u => u = (I, R, J)) := by
  intro sz
  refine z_bodyN (by decide +kernel) (Nat.le_of_ble_eq_true rfl) (fun p e s m below meth c ls hx hb hml hr ht hown hlocks hsz hK hP hD hS hN hl => ?_)
  have hA : ∀ a, s.heap.size ≤ a → zA 25 q sz a := fun a h => Or.inr (hsz ▸ h)
  have hl : lv_has ls 2 [(0, .int (pa0)), (1, .int (nI 5))] := hl
  have hZ : zSz zMRs 25 q ad av t9 sz s := hsz ▸ hN
  refine lv_iload_n hx hb dJ0_checkIndex_df160_0 rfl (lv_at hl 0 rfl) ?_
  refine lv_iload_n hx hb dJ0_checkIndex_df160_1 rfl (lv_at hl 1 rfl) ?_
  rcases hZ.2.2.1 with hz9 | ⟨t9, hz9⟩
  · refine va_gets hx hb hz9 hS hown (ht _ hw_2_211) (fun _ h => h) dJ0_checkIndex_df160_2 ?_
    refine z_cNSi (As := [.int (pa0), .int (nI 5), .null]) (rest := []) hx hb hml hown ht (mk_J3_checkIndex_8e157_2 l D q cA ad av t9 F _ _ _ hI (pa0) hpa0) hw_2_213 hmJ3_checkIndex_8e157 ⟨rfl, rfl⟩ (na := 3) rfl (by decide +kernel) (by decide) hK hP hD hS hA (zSS_c (Rs := zMRs) (t9 := t9) (fun _ _ _ => zMRs_c)) (zSS_w (Rs := zMRs) (t9 := t9) (fun _ _ _ => zMRs_w) hN hsz hS) hl.1 rfl (Nat.le_of_ble_eq_true rfl) ⟨Nat.zero_le _, Nat.zero_le _⟩ dJ0_checkIndex_df160_5 (fun r_1 I_1 R_1 J_1 H locs hp_1 hP hD hS _ _ => ?_)
    obtain ⟨hr_1, hu_1⟩ := hp_1
    cases hu_1
    refine lv_pop hx hb dJ0_checkIndex_df160_8 rfl ?_
    exact z_vret hx hb hr hlocks hP hD hS dJ0_checkIndex_df160_9 rfl
  · refine va_gets hx hb hz9 hS hown (ht _ hw_2_211) (fun _ h => h) dJ0_checkIndex_df160_2 ?_
    refine z_cNSi (As := [.int (pa0), .int (nI 5), .ref (t9)]) (rest := []) hx hb hml hown ht (mk_J3_checkIndex_8e157_3 l D q cA ad av t9 F _ _ _ hI (pa0) hpa0) hw_2_213 hmJ3_checkIndex_8e157 ⟨rfl, rfl⟩ (na := 3) rfl (by decide +kernel) (by decide) hK hP hD hS hA (zSS_c (Rs := zMRs) (t9 := t9) (fun _ _ _ => zMRs_c)) (zSS_w (Rs := zMRs) (t9 := t9) (fun _ _ _ => zMRs_w) hN hsz hS) hl.1 rfl (Nat.le_of_ble_eq_true rfl) ⟨Nat.zero_le _, Nat.zero_le _⟩ dJ0_checkIndex_df160_5 (fun r_2 I_2 R_2 J_2 H locs hp_2 hP hD hS _ _ => ?_)
    obtain ⟨hr_2, hu_2⟩ := hp_2
    cases hu_2
    refine lv_pop hx hb dJ0_checkIndex_df160_8 rfl ?_
    exact z_vret hx hb hr hlocks hP hD hS dJ0_checkIndex_df160_9 rfl
set_option maxHeartbeats 4000000 in
set_option maxRecDepth 100000 in
theorem mk_J1_charAt_3b067_1 (l : Launch) (D : va_G) (q : Nat → Nat) (cA : Nat → ClassId) (ad av : Nat → Nat) (t9 : Nat) (F : Nat → Nat → Int32) (I R : Nat → Nat → Int32) (J : Nat → Nat → Int64) (hI : mInv F (I, R, J)) (pa1 : Int32) (hpa1 : zR 0 4 pa1) : zNi (zSS zMRs 25 q ad av t9) l D vwCl (zMtys cA) 25 q (zMd q cA) yJ1_charAt_3b067 cJ1_charAt_3b067 2 (some .char) ({ frames := 2, cells := 0, slots := 0, locals := 43 } : Room) [.ref (av 4), .int (pa1)] (I, R, J) (fun r u => (r = zch 4 (pa1).toNatClampNeg ∧ zR 0 65535 r) ∧ u = (I, R, J)) := by
  intro sz
  refine z_bodyN (by decide +kernel) (Nat.le_of_ble_eq_true rfl) (fun p e s m below meth c ls hx hb hml hr ht hown hlocks hsz hK hP hD hS hN hl => ?_)
  have hA : ∀ a, s.heap.size ≤ a → zA 25 q sz a := fun a h => Or.inr (hsz ▸ h)
  have hl : lv_has ls 2 [(0, .ref (av 4)), (1, .int (pa1))] := hl
  have hZ : zSz zMRs 25 q ad av t9 sz s := hsz ▸ hN
  refine lv_iload_n hx hb dJ1_charAt_3b067_0 rfl (lv_at hl 1 rfl) ?_
  refine lv_aload_n hx hb dJ1_charAt_3b067_1 rfl (lv_at hl 0 rfl) ?_
  refine va_tlen hx hb (hZ.1.1 4 (by decide)).2.2.2 hS (v := nI 5) rfl dJ1_charAt_3b067_2 ?_
  refine z_cNSv (As := [.int (pa1), .int (nI 5)]) (rest := []) hx hb hml hown ht (mk_J0_checkIndex_df160_1 l D q cA ad av t9 F _ _ _ hI (pa1) hpa1) hw_2_208 hmJ0_checkIndex_df160 ⟨rfl, rfl⟩ (na := 2) rfl (by decide +kernel) (by decide) hK hP hD hS hA (zSS_c (Rs := zMRs) (t9 := t9) (fun _ _ _ => zMRs_c)) (zSS_w (Rs := zMRs) (t9 := t9) (fun _ _ _ => zMRs_w) hN hsz hS) hl.1 rfl (Nat.le_of_ble_eq_true rfl) ⟨Nat.zero_le _, Nat.zero_le _⟩ dJ1_charAt_3b067_3 (fun I_1 R_1 J_1 H locs hp_1 hP hD hS _ _ => ?_)
  cases hp_1
  refine lv_aload_n hx hb dJ1_charAt_3b067_6 rfl (lv_at hl 0 rfl) ?_
  refine lv_iload_n hx hb dJ1_charAt_3b067_7 rfl (lv_at hl 1 rfl) ?_
  refine va_tb hx hb (hZ.1.1 4 (by decide)).2.2.2 hS (zR_vin hpa1 (by decide)) (v := .int ((zByt.getD 4 []).getD (pa1).toNatClampNeg 0)) rfl dJ1_charAt_3b067_8 ?_
  refine lv_sipush (v := nI 255) hx hb dJ1_charAt_3b067_9 (by decide +kernel) ?_
  refine lv_iand hx hb dJ1_charAt_3b067_12 ?_
  refine lv_i2c (v := ((((zByt.getD 4 []).getD (pa1).toNatClampNeg 0) &&& (nI 255)).toUInt32 % 65536).toInt32) hx hb dJ1_charAt_3b067_13 rfl ?_
  exact z_zret (v := ((((zByt.getD 4 []).getD (pa1).toNatClampNeg 0) &&& (nI 255)).toUInt32 % 65536).toInt32) hx hb hr hlocks hP hD hS (zR_char (zR_i2c _)) dJ1_charAt_3b067_14 ⟨⟨rfl, (zR_i2c _)⟩, rfl⟩
set_option maxHeartbeats 4000000 in
set_option maxRecDepth 100000 in
theorem mk_J0_charAt_5068e_1 (l : Launch) (D : va_G) (q : Nat → Nat) (cA : Nat → ClassId) (ad av : Nat → Nat) (t9 : Nat) (F : Nat → Nat → Int32) (I R : Nat → Nat → Int32) (J : Nat → Nat → Int64) (hI : mInv F (I, R, J)) (pa0 : Int32) (hpa0 : zR 0 4 pa0) : zNi (zSS zMRs 25 q ad av t9) l D vwCl (zMtys cA) 25 q (zMd q cA) yJ0_charAt_5068e cJ0_charAt_5068e 2 (some .char) ({ frames := 3, cells := 0, slots := 0, locals := 64 } : Room) [.ref (ad 4), .int (pa0)] (I, R, J) (fun r u => (r = zch 4 (pa0).toNatClampNeg ∧ zR 0 65535 r) ∧ u = (I, R, J)) := by
  intro sz
  refine z_bodyN (by decide +kernel) (Nat.le_of_ble_eq_true rfl) (fun p e s m below meth c ls hx hb hml hr ht hown hlocks hsz hK hP hD hS hN hl => ?_)
  have hA : ∀ a, s.heap.size ≤ a → zA 25 q sz a := fun a h => Or.inr (hsz ▸ h)
  have hl : lv_has ls 2 [(0, .ref (ad 4)), (1, .int (pa0))] := hl
  have hZ : zSz zMRs 25 q ad av t9 sz s := hsz ▸ hN
  refine lv_aload_n hx hb dJ0_charAt_5068e_0 rfl (lv_at hl 0 rfl) ?_
  refine z_cNXi (As := []) (rest := []) hx hb hml hown ht (mk_J0_isLatin1_aae02 l D q cA ad av t9 F _ _ _ hI ) hw_2_201 hmJ0_isLatin1_aae02 ⟨rfl, rfl⟩ (na := 0) rfl (by decide +kernel) (by decide) (vk_recv hZ.1 (by decide) hS) hK hP hD hS hA (zSS_c (Rs := zMRs) (t9 := t9) (fun _ _ _ => zMRs_c)) (zSS_w (Rs := zMRs) (t9 := t9) (fun _ _ _ => zMRs_w) hN hsz hS) hl.1 rfl (Nat.le_of_ble_eq_true rfl) ⟨Nat.zero_le _, Nat.zero_le _⟩ dJ0_charAt_5068e_1 (fun r_1 I_1 R_1 J_1 H locs hp_1 hP hD hS _ _ => ?_)
  obtain ⟨rfl, hu_1⟩ := hp_1
  cases hu_1
  refine lv_if_eq (tgt := 16) hx hb dJ0_charAt_5068e_4 (by decide) (fun c_0 => absurd c_0 (zD_ne zk_1 zk_z (by decide))) (fun _ => ?_)
  refine lv_aload_n hx hb dJ0_charAt_5068e_7 rfl (lv_at hl 0 rfl) ?_
  refine vk_getf hx hb (hZ.1.1 4 (by decide)).2.2.1 hS hown (ht _ hw_8_164) (fun _ h => h) dJ0_charAt_5068e_8 ?_
  refine lv_iload_n hx hb dJ0_charAt_5068e_11 rfl (lv_at hl 1 rfl) ?_
  refine z_cNSi (As := [.ref (av 4), .int (pa0)]) (rest := []) hx hb hml hown ht (mk_J1_charAt_3b067_1 l D q cA ad av t9 F _ _ _ hI (pa0) hpa0) hw_2_205 hmJ1_charAt_3b067 ⟨rfl, rfl⟩ (na := 2) rfl (by decide +kernel) (by decide) hK hP hD hS hA (zSS_c (Rs := zMRs) (t9 := t9) (fun _ _ _ => zMRs_c)) (zSS_w (Rs := zMRs) (t9 := t9) (fun _ _ _ => zMRs_w) hN hsz hS) hl.1 rfl (Nat.le_of_ble_eq_true rfl) ⟨Nat.zero_le _, Nat.zero_le _⟩ dJ0_charAt_5068e_12 (fun r_2 I_2 R_2 J_2 H locs hp_2 hP hD hS _ _ => ?_)
  obtain ⟨⟨rfl, hr_2⟩, hu_2⟩ := hp_2
  cases hu_2
  exact z_zret (v := zch 4 (pa0).toNatClampNeg) hx hb hr hlocks hP hD hS (zR_char hr_2) dJ0_charAt_5068e_15 ⟨⟨rfl, hr_2⟩, rfl⟩
set_option maxHeartbeats 4000000 in
set_option maxRecDepth 100000 in
theorem mk_X11_is (l : Launch) (D : va_G) (q : Nat → Nat) (cA : Nat → ClassId) (ad av : Nat → Nat) (t9 : Nat) (F : Nat → Nat → Int32) (I R : Nat → Nat → Int32) (J : Nat → Nat → Int64) (hI : mInv F (I, R, J))  : zNi (zSS zMRs 25 q ad av t9) l D vwCl (zMtys cA) 25 q (zMd q cA) yX11_is cX11_is 4 (some .boolean) ({ frames := 4, cells := 0, slots := 0, locals := 85 } : Room) [.ref (q 0), .ref (ad 4)] (I, R, J) (fun r u => (r = nI 1 ∧ u = (I, R, J) ∧ mIs 4 I R) ∨ (r = nI 0 ∧ u = (I, R, J) ∧ ¬ mIs 4 I R)) := by
  intro sz
  refine z_bodyN (by decide +kernel) (Nat.le_of_ble_eq_true rfl) (fun p e s m below meth c ls hx hb hml hr ht hown hlocks hsz hK hP hD hS hN hl => ?_)
  have hA : ∀ a, s.heap.size ≤ a → zA 25 q sz a := fun a h => Or.inr (hsz ▸ h)
  have hl : lv_has ls 4 [(0, .ref (q 0)), (1, .ref (ad 4))] := hl
  have hZ : zSz zMRs 25 q ad av t9 sz s := hsz ▸ hN
  refine lv_aload_n hx hb dX11_is_0 rfl (lv_at hl 0 rfl) ?_
  refine z_callVi (k := 0) (As := []) (rest := []) hx hb hml hown ht (mk_X11_good l D q cA F _ _ _ hI ) hw_6_123 hmX11_good ⟨rfl, rfl⟩ (na := 0) rfl (by decide +kernel) (by decide) (by decide) rfl rfl hK hP hD hS hA hl.1 rfl (Nat.le_of_ble_eq_true rfl) ⟨Nat.zero_le _, Nat.zero_le _⟩ dX11_is_1 (fun r_1 I_1 R_1 J_1 H locs hp_1 hP hD hS _ _ => ?_)
  rcases hp_1 with ⟨rfl, hu_1, nn_1⟩ | ⟨rfl, hu_1, nn_1⟩
  · cases hu_1
    refine lv_if_eq (tgt := 35) hx hb dX11_is_4 (by decide) (fun c_0 => absurd c_0 (zD_ne zk_1 zk_z (by decide))) (fun _ => ?_)
    refine lv_aload_n hx hb dX11_is_7 rfl (lv_at hl 0 rfl) ?_
    refine z_get hx hb ht hown hK hP ziX11 rfl 0 (by decide) 10 (by decide) hw_5_197 rfl (v := .int (I 0 10)) rfl dX11_is_8 ?_
    refine lv_iconst (v := nI 1) hx hb dX11_is_11 (by decide +kernel) ?_
    refine lv_icmp_ne (tgt := 35) hx hb dX11_is_12 (by decide) (fun c_2 => ?_) (fun c_2 => ?_)
    · have t_c_2 := z_eqF c_2
      refine lv_iconst (v := nI 0) hx hb dX11_is_35 (by decide +kernel) ?_
      refine lv_istore_n (lv' := [(2, .int (nI 0)), (0, .ref (q 0)), (1, .ref (ad 4))]) hx hb dX11_is_36 rfl hl (by decide) rfl (fun ls hl => ?_)
      refine lv_iconst (v := nI 0) hx hb dX11_is_37 (by decide +kernel) ?_
      refine lv_istore_n (lv' := [(3, .int (nI 0)), (2, .int (nI 0)), (0, .ref (q 0)), (1, .ref (ad 4))]) hx hb dX11_is_38 rfl hl (by decide) rfl (fun ls hl => ?_)
      refine lv_iload_n hx hb dX11_is_39 rfl (lv_at hl 0 rfl) ?_
      refine lv_aload_n hx hb dX11_is_40 rfl (lv_at hl 3 rfl) ?_
      refine z_cNXi (As := []) (rest := [.int (nI 0)]) hx hb hml hown ht (mk_J0_length_8abf5 l D q cA ad av t9 F _ _ _ hI ) hw_6_144 hmJ0_length_8abf5 ⟨rfl, rfl⟩ (na := 0) rfl (by decide +kernel) (by decide) (vk_recv hZ.1 (by decide) hS) hK hP hD hS hA (zSS_c (Rs := zMRs) (t9 := t9) (fun _ _ _ => zMRs_c)) (zSS_w (Rs := zMRs) (t9 := t9) (fun _ _ _ => zMRs_w) hN hsz hS) hl.1 rfl (Nat.le_of_ble_eq_true rfl) ⟨Nat.zero_le _, Nat.zero_le _⟩ dX11_is_41 (fun r_5 I_5 R_5 J_5 H locs hp_5 hP hD hS _ _ => ?_)
      obtain ⟨rfl, hu_5⟩ := hp_5
      cases hu_5
      refine lv_icmp_ge (tgt := 82) hx hb dX11_is_44 (by decide) (fun c_0 => absurd c_0 (zD_nle zk_5 zk_0 (by decide))) (fun _ => ?_)
      refine lv_iload_n hx hb dX11_is_47 rfl (lv_at hl 1 rfl) ?_
      refine lv_if_eq (tgt := 82) hx hb dX11_is_48 (by decide) (fun _ => ?_) (fun c_0 => absurd (zD_eq zk_0 zk_z) c_0)
      refine lv_iload_n hx hb dX11_is_82 rfl (lv_at hl 1 rfl) ?_
      exact z_zret (v := nI 0) hx hb hr hlocks hP hD hS (by decide +kernel) dX11_is_83 (Or.inr ⟨rfl, rfl, (mIs_n2 t_c_2)⟩)
    · have t_c_2 := z_eqT c_2
      have f_6 : zR 1 1 (I 0 10) := zR_eqx t_c_2 zk_1
      refine lv_aload_n hx hb dX11_is_15 rfl (lv_at hl 0 rfl) ?_
      refine z_get hx hb ht hown hK hP ziX11 rfl 0 (by decide) 8 (by decide) hw_5_195 rfl (v := .int (I 0 8)) rfl dX11_is_16 ?_
      have f_7 : zR 0 800 (I 0 8) := mI hI 0 8
      refine lv_aload_n hx hb dX11_is_19 rfl (lv_at hl 0 rfl) ?_
      refine z_get hx hb ht hown hK hP ziX11 rfl 0 (by decide) 9 (by decide) hw_5_196 rfl (v := .int (I 0 9)) rfl dX11_is_20 ?_
      have f_8 : zR 0 800 (I 0 9) := mI hI 0 9
      refine lv_isub hx hb dX11_is_23 ?_
      refine lv_topi (fun v_9 ev_9 => ?_)
      have hv_9 : zR (-800) 800 v_9 := ev_9 ▸ zR_sub f_7 f_8 (by decide)
      refine lv_aload_n hx hb dX11_is_24 rfl (lv_at hl 1 rfl) ?_
      refine z_cNXi (As := []) (rest := [.int (v_9)]) hx hb hml hown ht (mk_J0_length_8abf5 l D q cA ad av t9 F _ _ _ hI ) hw_6_144 hmJ0_length_8abf5 ⟨rfl, rfl⟩ (na := 0) rfl (by decide +kernel) (by decide) (vk_recv hZ.1 (by decide) hS) hK hP hD hS hA (zSS_c (Rs := zMRs) (t9 := t9) (fun _ _ _ => zMRs_c)) (zSS_w (Rs := zMRs) (t9 := t9) (fun _ _ _ => zMRs_w) hN hsz hS) hl.1 rfl (Nat.le_of_ble_eq_true rfl) ⟨Nat.zero_le _, Nat.zero_le _⟩ dX11_is_25 (fun r_10 I_10 R_10 J_10 H locs hp_10 hP hD hS _ _ => ?_)
      obtain ⟨rfl, hu_10⟩ := hp_10
      cases hu_10
      refine lv_icmp_ne (tgt := 35) hx hb dX11_is_28 (by decide) (fun c_11 => ?_) (fun c_11 => ?_)
      · have t_c_11 := z_eqF c_11
        refine lv_iconst (v := nI 0) hx hb dX11_is_35 (by decide +kernel) ?_
        refine lv_istore_n (lv' := [(2, .int (nI 0)), (0, .ref (q 0)), (1, .ref (ad 4))]) hx hb dX11_is_36 rfl hl (by decide) rfl (fun ls hl => ?_)
        refine lv_iconst (v := nI 0) hx hb dX11_is_37 (by decide +kernel) ?_
        refine lv_istore_n (lv' := [(3, .int (nI 0)), (2, .int (nI 0)), (0, .ref (q 0)), (1, .ref (ad 4))]) hx hb dX11_is_38 rfl hl (by decide) rfl (fun ls hl => ?_)
        refine lv_iload_n hx hb dX11_is_39 rfl (lv_at hl 0 rfl) ?_
        refine lv_aload_n hx hb dX11_is_40 rfl (lv_at hl 3 rfl) ?_
        refine z_cNXi (As := []) (rest := [.int (nI 0)]) hx hb hml hown ht (mk_J0_length_8abf5 l D q cA ad av t9 F _ _ _ hI ) hw_6_144 hmJ0_length_8abf5 ⟨rfl, rfl⟩ (na := 0) rfl (by decide +kernel) (by decide) (vk_recv hZ.1 (by decide) hS) hK hP hD hS hA (zSS_c (Rs := zMRs) (t9 := t9) (fun _ _ _ => zMRs_c)) (zSS_w (Rs := zMRs) (t9 := t9) (fun _ _ _ => zMRs_w) hN hsz hS) hl.1 rfl (Nat.le_of_ble_eq_true rfl) ⟨Nat.zero_le _, Nat.zero_le _⟩ dX11_is_41 (fun r_14 I_14 R_14 J_14 H locs hp_14 hP hD hS _ _ => ?_)
        obtain ⟨rfl, hu_14⟩ := hp_14
        cases hu_14
        refine lv_icmp_ge (tgt := 82) hx hb dX11_is_44 (by decide) (fun c_0 => absurd c_0 (zD_nle zk_5 zk_0 (by decide))) (fun _ => ?_)
        refine lv_iload_n hx hb dX11_is_47 rfl (lv_at hl 1 rfl) ?_
        refine lv_if_eq (tgt := 82) hx hb dX11_is_48 (by decide) (fun _ => ?_) (fun c_0 => absurd (zD_eq zk_0 zk_z) c_0)
        refine lv_iload_n hx hb dX11_is_82 rfl (lv_at hl 1 rfl) ?_
        exact z_zret (v := nI 0) hx hb hr hlocks hP hD hS (by decide +kernel) dX11_is_83 (Or.inr ⟨rfl, rfl, (mIs_n3 ev_9 t_c_11)⟩)
      · have t_c_11 := z_eqT c_11
        have f_15 : zR 5 5 (v_9) := zR_eqx t_c_11 zk_5
        have f_16 : zR 0 795 (I 0 9) := z_start f_7 f_8 ev_9 f_15 (by decide)
        refine lv_iconst (v := nI 1) hx hb dX11_is_31 (by decide +kernel) ?_
        refine lv_goto (tgt := 36) hx hb dX11_is_32 (by decide) ?_
        refine lv_istore_n (lv' := [(2, .int (nI 1)), (0, .ref (q 0)), (1, .ref (ad 4))]) hx hb dX11_is_36 rfl hl (by decide) rfl (fun ls hl => ?_)
        refine lv_iconst (v := nI 0) hx hb dX11_is_37 (by decide +kernel) ?_
        refine lv_istore_n (lv' := [(3, .int (nI 0)), (2, .int (nI 1)), (0, .ref (q 0)), (1, .ref (ad 4))]) hx hb dX11_is_38 rfl hl (by decide) rfl (fun ls hl => ?_)
        have loop_71 : ∀ N : Nat, ∀ x_68 : Int32, zR 0 1 x_68 → ∀ x_69 : Int32, zR 0 5 x_69 → (mIsL 4 I R (x_69) (x_68)) → (2147483648 - (x_69).toInt).toNat < N → ∀ (H : Heap) (locs : List Loc), va_P D vwCl (zw 25 q (zMd q cA) I R J) H → va_D (zA 25 q sz) (zw 25 q (zMd q cA) I R J) → va_S (zA 25 q sz) s.heap H locs → ∀ ls : Array Slot, lv_has ls 4 [(0, .ref (q 0)), (1, .ref (ad 4)), (2, .int (x_68)), (3, .int (x_69))] → W p l e ({ frames := 4, cells := 0, slots := 0, locals := 85 } : Room) s m ([.ref (q 0), .ref (ad 4)] : List Value).toArray below meth c H locs 0 0 (MQ below (va_Qi (fun r u => (r = nI 1 ∧ u = (I, R, J) ∧ mIs 4 I R) ∨ (r = nI 0 ∧ u = (I, R, J) ∧ ¬ mIs 4 I R)) (zB D vwCl 25 q (zMd q cA) sz) (zA 25 q sz)) ([.ref (q 0), .ref (ad 4)] : List Value).toArray s 0 0 (zA 25 q sz)) (F0 m 39 ls []) := by
          intro N
          induction N with
          | zero => intro x_68 hx_68 x_69 hx_69 hx_70 hN; exact absurd hN (Nat.not_lt_zero _)
          | succ N ih_73 =>
            intro x_68 hx_68 x_69 hx_69 hx_70 hN_72 H locs hP hD hS ls hl
            refine lv_iload_n hx hb dX11_is_39 rfl (lv_at hl 3 rfl) ?_
            refine lv_aload_n hx hb dX11_is_40 rfl (lv_at hl 1 rfl) ?_
            refine z_cNXi (As := []) (rest := [.int (x_69)]) hx hb hml hown ht (mk_J0_length_8abf5 l D q cA ad av t9 F _ _ _ hI ) hw_6_144 hmJ0_length_8abf5 ⟨rfl, rfl⟩ (na := 0) rfl (by decide +kernel) (by decide) (vk_recv hZ.1 (by decide) hS) hK hP hD hS hA (zSS_c (Rs := zMRs) (t9 := t9) (fun _ _ _ => zMRs_c)) (zSS_w (Rs := zMRs) (t9 := t9) (fun _ _ _ => zMRs_w) hN hsz hS) hl.1 rfl (Nat.le_of_ble_eq_true rfl) ⟨Nat.zero_le _, Nat.zero_le _⟩ dX11_is_41 (fun r_74 I_74 R_74 J_74 H locs hp_74 hP hD hS _ _ => ?_)
            obtain ⟨rfl, hu_74⟩ := hp_74
            cases hu_74
            refine lv_icmp_ge (tgt := 82) hx hb dX11_is_44 (by decide) (fun c_75 => ?_) (fun c_75 => ?_)
            · have t_c_75 := z_leT c_75
              have f_76 : zR 5 5 (x_69) := zR_ley t_c_75 zk_5 hx_69 (by decide)
              refine lv_iload_n hx hb dX11_is_82 rfl (lv_at hl 2 rfl) ?_
              exact z_zret (v := x_68) hx hb hr hlocks hP hD hS (zR_bool (a := 0) (b := 1) hx_68 (by decide)).1 dX11_is_83 (mIs_r1 hx_70 hx_68 t_c_75)
            · have t_c_75 := z_leF c_75
              have f_77 : zR 0 4 (x_69) := zR_ltx t_c_75 hx_69 zk_5 (by decide)
              refine lv_iload_n hx hb dX11_is_47 rfl (lv_at hl 2 rfl) ?_
              refine lv_if_eq (tgt := 82) hx hb dX11_is_48 (by decide) (fun c_78 => ?_) (fun c_78 => ?_)
              · have t_c_78 := z_eqT c_78
                have f_79 : zR 0 0 (x_68) := zR_eqx t_c_78 zk_z
                refine lv_iload_n hx hb dX11_is_82 rfl (lv_at hl 2 rfl) ?_
                exact z_zret (v := x_68) hx hb hr hlocks hP hD hS (zR_bool (a := 0) (b := 1) (zR_w f_79 (by decide)) (by decide)).1 dX11_is_83 (mIs_r0 hx_70 f_79)
              · have t_c_78 := z_eqF c_78
                have f_80 : zR 1 1 (x_68) := zR_nex t_c_78 hx_68 zk_z (by decide)
                refine lv_aload_n hx hb dX11_is_51 rfl (lv_at hl 0 rfl) ?_
                refine z_get hx hb ht hown hK hP ziX11 rfl 0 (by decide) 4 (by decide) hw_5_191 rfl (v := .ref (q 4)) rfl dX11_is_52 ?_
                refine lv_aload_n hx hb dX11_is_55 rfl (lv_at hl 0 rfl) ?_
                refine z_get hx hb ht hown hK hP ziX11 rfl 0 (by decide) 9 (by decide) hw_5_196 rfl (v := .int (I 0 9)) rfl dX11_is_56 ?_
                refine lv_iload_n hx hb dX11_is_59 rfl (lv_at hl 3 rfl) ?_
                refine lv_iadd hx hb dX11_is_60 ?_
                refine lv_topi (fun v_81 ev_81 => ?_)
                have hv_81 : zR 0 799 v_81 := ev_81 ▸ zR_add f_16 f_77 (by decide)
                refine z_bald hx hb hK hP 4 (by decide) 3 rfl rfl (zR_vin hv_81 (by decide)) dX11_is_61 ?_
                refine z_eqi (y := R 4 (v_81).toNatClampNeg) rfl ?_
                refine lv_aload_n hx hb dX11_is_62 rfl (lv_at hl 1 rfl) ?_
                refine lv_iload_n hx hb dX11_is_63 rfl (lv_at hl 3 rfl) ?_
                refine z_cNXi (As := [.int (x_69)]) (rest := [.int (R 4 (v_81).toNatClampNeg)]) hx hb hml hown ht (mk_J0_charAt_5068e_1 l D q cA ad av t9 F _ _ _ hI (x_69) f_77) hw_6_145 hmJ0_charAt_5068e ⟨rfl, rfl⟩ (na := 1) rfl (by decide +kernel) (by decide) (vk_recv hZ.1 (by decide) hS) hK hP hD hS hA (zSS_c (Rs := zMRs) (t9 := t9) (fun _ _ _ => zMRs_c)) (zSS_w (Rs := zMRs) (t9 := t9) (fun _ _ _ => zMRs_w) hN hsz hS) hl.1 rfl (Nat.le_of_ble_eq_true rfl) ⟨Nat.zero_le _, Nat.zero_le _⟩ dX11_is_64 (fun r_82 I_82 R_82 J_82 H locs hp_82 hP hD hS _ _ => ?_)
                obtain ⟨⟨rfl, hr_82⟩, hu_82⟩ := hp_82
                cases hu_82
                refine lv_icmp_ne (tgt := 74) hx hb dX11_is_67 (by decide) (fun c_83 => ?_) (fun c_83 => ?_)
                · have t_c_83 := z_eqF c_83
                  refine lv_iconst (v := nI 0) hx hb dX11_is_74 (by decide +kernel) ?_
                  refine lv_istore_n (lv' := [(2, .int (nI 0)), (0, .ref (q 0)), (1, .ref (ad 4)), (3, .int (x_69))]) hx hb dX11_is_75 rfl hl (by decide) rfl (fun ls hl => ?_)
                  obtain ⟨v_84, ev_84⟩ : ∃ y : Int32, y = x_69 + nI 1 := ⟨_, rfl⟩
                  have hv_84 : zR 1 5 v_84 := ev_84 ▸ zR_add f_77 zk_1 (by decide)
                  have mv_84 : v_84.toInt = (x_69).toInt + 1 := by rw [ev_84, zR_addE f_77 zk_1 (by decide)]; rfl
                  refine lv_iinc (v := v_84) (lv' := [(3, .int (v_84)), (2, .int (nI 0)), (0, .ref (q 0)), (1, .ref (ad 4))]) hx hb dX11_is_76 hl (k := 3) rfl (ev_84 ▸ rfl) (by decide) rfl (fun ls hl => ?_)
                  refine lv_goto (tgt := 39) hx hb dX11_is_79 (by decide) ?_
                  exact ih_73 (nI 0) (zR_w zk_0 (by decide)) (v_84) (zR_w hv_84 (by decide)) (mIsL_n hx_70 f_80 t_c_75 t_c_83 (mIs_ix (zR_w f_16 (by decide)) (zR_w f_77 (by decide)) ev_81)) (z2_up mv_84 (by decide) hN_72) _ _ hP hD hS _ (lv_sub hl [2, 3, 1, 0] rfl)
                · have t_c_83 := z_eqT c_83
                  have f_85 : zR 0 65535 (R 4 (v_81).toNatClampNeg) := zR_eqx t_c_83 hr_82
                  refine lv_iconst (v := nI 1) hx hb dX11_is_70 (by decide +kernel) ?_
                  refine lv_goto (tgt := 75) hx hb dX11_is_71 (by decide) ?_
                  refine lv_istore_n (lv' := [(2, .int (nI 1)), (0, .ref (q 0)), (1, .ref (ad 4)), (3, .int (x_69))]) hx hb dX11_is_75 rfl hl (by decide) rfl (fun ls hl => ?_)
                  obtain ⟨v_86, ev_86⟩ : ∃ y : Int32, y = x_69 + nI 1 := ⟨_, rfl⟩
                  have hv_86 : zR 1 5 v_86 := ev_86 ▸ zR_add f_77 zk_1 (by decide)
                  have mv_86 : v_86.toInt = (x_69).toInt + 1 := by rw [ev_86, zR_addE f_77 zk_1 (by decide)]; rfl
                  refine lv_iinc (v := v_86) (lv' := [(3, .int (v_86)), (2, .int (nI 1)), (0, .ref (q 0)), (1, .ref (ad 4))]) hx hb dX11_is_76 hl (k := 3) rfl (ev_86 ▸ rfl) (by decide) rfl (fun ls hl => ?_)
                  refine lv_goto (tgt := 39) hx hb dX11_is_79 (by decide) ?_
                  exact ih_73 (nI 1) (zR_w zk_1 (by decide)) (v_86) (zR_w hv_86 (by decide)) (mIsL_1 hx_70 f_80 mv_86 t_c_83 (mIs_ix (zR_w f_16 (by decide)) (zR_w f_77 (by decide)) ev_81)) (z2_up mv_86 (by decide) hN_72) _ _ hP hD hS _ (lv_sub hl [2, 3, 1, 0] rfl)
        exact loop_71 _ (nI 1) (zR_w zk_1 (by decide)) (nI 0) (zR_w zk_0 (by decide)) (mIsL_0 (mIs_a3 nn_1 t_c_2 ev_9 f_15)) (Nat.lt_succ_self _) _ _ hP hD hS _ (lv_sub hl [2, 3, 1, 0] rfl)
  · cases hu_1
    refine lv_if_eq (tgt := 35) hx hb dX11_is_4 (by decide) (fun _ => ?_) (fun c_0 => absurd (zD_eq zk_0 zk_z) c_0)
    refine lv_iconst (v := nI 0) hx hb dX11_is_35 (by decide +kernel) ?_
    refine lv_istore_n (lv' := [(2, .int (nI 0)), (0, .ref (q 0)), (1, .ref (ad 4))]) hx hb dX11_is_36 rfl hl (by decide) rfl (fun ls hl => ?_)
    refine lv_iconst (v := nI 0) hx hb dX11_is_37 (by decide +kernel) ?_
    refine lv_istore_n (lv' := [(3, .int (nI 0)), (2, .int (nI 0)), (0, .ref (q 0)), (1, .ref (ad 4))]) hx hb dX11_is_38 rfl hl (by decide) rfl (fun ls hl => ?_)
    refine lv_iload_n hx hb dX11_is_39 rfl (lv_at hl 0 rfl) ?_
    refine lv_aload_n hx hb dX11_is_40 rfl (lv_at hl 3 rfl) ?_
    refine z_cNXi (As := []) (rest := [.int (nI 0)]) hx hb hml hown ht (mk_J0_length_8abf5 l D q cA ad av t9 F _ _ _ hI ) hw_6_144 hmJ0_length_8abf5 ⟨rfl, rfl⟩ (na := 0) rfl (by decide +kernel) (by decide) (vk_recv hZ.1 (by decide) hS) hK hP hD hS hA (zSS_c (Rs := zMRs) (t9 := t9) (fun _ _ _ => zMRs_c)) (zSS_w (Rs := zMRs) (t9 := t9) (fun _ _ _ => zMRs_w) hN hsz hS) hl.1 rfl (Nat.le_of_ble_eq_true rfl) ⟨Nat.zero_le _, Nat.zero_le _⟩ dX11_is_41 (fun r_89 I_89 R_89 J_89 H locs hp_89 hP hD hS _ _ => ?_)
    obtain ⟨rfl, hu_89⟩ := hp_89
    cases hu_89
    refine lv_icmp_ge (tgt := 82) hx hb dX11_is_44 (by decide) (fun c_0 => absurd c_0 (zD_nle zk_5 zk_0 (by decide))) (fun _ => ?_)
    refine lv_iload_n hx hb dX11_is_47 rfl (lv_at hl 1 rfl) ?_
    refine lv_if_eq (tgt := 82) hx hb dX11_is_48 (by decide) (fun _ => ?_) (fun c_0 => absurd (zD_eq zk_0 zk_z) c_0)
    refine lv_iload_n hx hb dX11_is_82 rfl (lv_at hl 1 rfl) ?_
    exact z_zret (v := nI 0) hx hb hr hlocks hP hD hS (by decide +kernel) dX11_is_83 (Or.inr ⟨rfl, rfl, (mIs_n1 nn_1)⟩)
set_option maxHeartbeats 4000000 in
set_option maxRecDepth 100000 in
theorem mk_X11_takes (l : Launch) (D : va_G) (q : Nat → Nat) (cA : Nat → ClassId) (ad av : Nat → Nat) (t9 : Nat) (F : Nat → Nat → Int32) (I R : Nat → Nat → Int32) (J : Nat → Nat → Int64) (hI : mInv F (I, R, J))  : zNi (zSS zMRs 25 q ad av t9) l D vwCl (zMtys cA) 25 q (zMd q cA) yX11_takes cX11_takes 3 (some .boolean) ({ frames := 5, cells := 0, slots := 0, locals := 108 } : Room) [.ref (q 0), .ref (ad 4)] (I, R, J) (fun r u => (r = nI 1 ∧ ((mInv F u ∧ (∀ k, k ≠ 0 → u.1 k = I k) ∧ u.2 = (R, J)) ∧ mTr I u.1) ∧ mIs 4 I R) ∨ (r = nI 0 ∧ u = (I, R, J) ∧ ¬ mIs 4 I R)) := by
  intro sz
  refine z_bodyN (by decide +kernel) (Nat.le_of_ble_eq_true rfl) (fun p e s m below meth c ls hx hb hml hr ht hown hlocks hsz hK hP hD hS hN hl => ?_)
  have hA : ∀ a, s.heap.size ≤ a → zA 25 q sz a := fun a h => Or.inr (hsz ▸ h)
  have hl : lv_has ls 3 [(0, .ref (q 0)), (1, .ref (ad 4))] := hl
  have hZ : zSz zMRs 25 q ad av t9 sz s := hsz ▸ hN
  refine lv_aload_n hx hb dX11_takes_0 rfl (lv_at hl 0 rfl) ?_
  refine lv_aload_n hx hb dX11_takes_1 rfl (lv_at hl 1 rfl) ?_
  refine z_cNVi (k := 0) (As := [.ref (ad 4)]) (rest := []) hx hb hml hown ht (mk_X11_is l D q cA ad av t9 F _ _ _ hI ) hw_6_140 hmX11_is ⟨rfl, rfl⟩ (na := 1) rfl (by decide +kernel) (by decide) (by decide) rfl rfl hK hP hD hS hA (zSS_c (Rs := zMRs) (t9 := t9) (fun _ _ _ => zMRs_c)) (zSS_w (Rs := zMRs) (t9 := t9) (fun _ _ _ => zMRs_w) hN hsz hS) hl.1 rfl (Nat.le_of_ble_eq_true rfl) ⟨Nat.zero_le _, Nat.zero_le _⟩ dX11_takes_2 (fun r_1 I_1 R_1 J_1 H locs hp_1 hP hD hS _ _ => ?_)
  rcases hp_1 with ⟨rfl, hu_1, nn_1⟩ | ⟨rfl, hu_1, nn_1⟩
  · cases hu_1
    refine lv_istore_n (lv' := [(2, .int (nI 1)), (0, .ref (q 0)), (1, .ref (ad 4))]) hx hb dX11_takes_5 rfl hl (by decide) rfl (fun ls hl => ?_)
    refine lv_iload_n hx hb dX11_takes_6 rfl (lv_at hl 0 rfl) ?_
    refine lv_if_eq (tgt := 14) hx hb dX11_takes_7 (by decide) (fun c_0 => absurd c_0 (zD_ne zk_1 zk_z (by decide))) (fun _ => ?_)
    refine lv_aload_n hx hb dX11_takes_10 rfl (lv_at hl 1 rfl) ?_
    refine z_callVv (k := 0) (As := []) (rest := []) hx hb hml hown ht (mk_X11_advance l D q cA F _ _ _ hI ) hw_6_109 hmX11_advance ⟨rfl, rfl⟩ (na := 0) rfl (by decide +kernel) (by decide) (by decide) rfl rfl hK hP hD hS hA hl.1 rfl (Nat.le_of_ble_eq_true rfl) ⟨Nat.zero_le _, Nat.zero_le _⟩ dX11_takes_11 (fun I_2 R_2 J_2 H locs hp_2 hP hD hS _ _ => ?_)
    obtain ⟨hq_2, he_2⟩ := hp_2
    try dsimp only at he_2
    obtain ⟨hv_2, hk_2, hj_2⟩ := hq_2
    try dsimp only at hj_2 hk_2
    cases hj_2
    have hf_3 : ∀ k, k ≠ 0 → I_2 k = I k := fun k h => (hk_2 k h).trans ((fun (_ : Nat) _ => rfl) k h)
    refine lv_iload_n hx hb dX11_takes_14 rfl (lv_at hl 0 rfl) ?_
    exact z_zret (v := nI 1) hx hb hr hlocks hP hD hS (by decide +kernel) dX11_takes_15 (Or.inl ⟨rfl, ⟨⟨hv_2, hf_3, rfl⟩, he_2⟩, nn_1⟩)
  · cases hu_1
    refine lv_istore_n (lv' := [(2, .int (nI 0)), (0, .ref (q 0)), (1, .ref (ad 4))]) hx hb dX11_takes_5 rfl hl (by decide) rfl (fun ls hl => ?_)
    refine lv_iload_n hx hb dX11_takes_6 rfl (lv_at hl 0 rfl) ?_
    refine lv_if_eq (tgt := 14) hx hb dX11_takes_7 (by decide) (fun _ => ?_) (fun c_0 => absurd (zD_eq zk_0 zk_z) c_0)
    refine lv_iload_n hx hb dX11_takes_14 rfl (lv_at hl 0 rfl) ?_
    exact z_zret (v := nI 0) hx hb hr hlocks hP hD hS (by decide +kernel) dX11_takes_15 (Or.inr ⟨rfl, rfl, nn_1⟩)
set_option maxHeartbeats 4000000 in
set_option maxRecDepth 100000 in
theorem mk_J0_coder_7d493_1 (l : Launch) (D : va_G) (q : Nat → Nat) (cA : Nat → ClassId) (ad av : Nat → Nat) (t9 : Nat) (F : Nat → Nat → Int32) (I R : Nat → Nat → Int32) (J : Nat → Nat → Int64) (hI : mInv F (I, R, J))  : zNi (zSS zMRs 25 q ad av t9) l D vwCl (zMtys cA) 25 q (zMd q cA) yJ0_coder_7d493 cJ0_coder_7d493 1 (some .byte) ({ frames := 0, cells := 0, slots := 0, locals := 0 } : Room) [.ref (ad 5)] (I, R, J) (fun r u => r = nI 0 ∧ u = (I, R, J)) := by
  intro sz
  refine z_bodyN (by decide +kernel) (Nat.le_of_ble_eq_true rfl) (fun p e s m below meth c ls hx hb hml hr ht hown hlocks hsz hK hP hD hS hN hl => ?_)
  have hA : ∀ a, s.heap.size ≤ a → zA 25 q sz a := fun a h => Or.inr (hsz ▸ h)
  have hl : lv_has ls 1 [(0, .ref (ad 5))] := hl
  have hZ : zSz zMRs 25 q ad av t9 sz s := hsz ▸ hN
  refine va_gets hx hb hZ.2.1 hS hown (ht _ hw_2_195) (fun _ h => h) dJ0_coder_7d493_0 ?_
  refine z_eqi (y := nI 1) rfl ?_
  refine lv_if_eq (tgt := 13) hx hb dJ0_coder_7d493_3 (by decide) (fun c_0 => absurd c_0 (zD_ne zk_1 zk_z (by decide))) (fun _ => ?_)
  refine lv_aload_n hx hb dJ0_coder_7d493_6 rfl (lv_at hl 0 rfl) ?_
  refine vk_getf hx hb (hZ.1.1 5 (by decide)).2.1 hS hown (ht _ hw_8_165) (fun _ h => h) dJ0_coder_7d493_7 ?_
  refine z_eqi (y := nI 0) rfl ?_
  refine lv_goto (tgt := 14) hx hb dJ0_coder_7d493_10 (by decide) ?_
  exact z_zret (v := nI 0) hx hb hr hlocks hP hD hS (by decide +kernel) dJ0_coder_7d493_14 ⟨rfl, rfl⟩
set_option maxHeartbeats 4000000 in
set_option maxRecDepth 100000 in
theorem mk_J0_length_8abf5_1 (l : Launch) (D : va_G) (q : Nat → Nat) (cA : Nat → ClassId) (ad av : Nat → Nat) (t9 : Nat) (F : Nat → Nat → Int32) (I R : Nat → Nat → Int32) (J : Nat → Nat → Int64) (hI : mInv F (I, R, J))  : zNi (zSS zMRs 25 q ad av t9) l D vwCl (zMtys cA) 25 q (zMd q cA) yJ0_length_8abf5 cJ0_length_8abf5 1 (some .int) ({ frames := 1, cells := 0, slots := 0, locals := 20 } : Room) [.ref (ad 5)] (I, R, J) (fun r u => r = nI 5 ∧ u = (I, R, J)) := by
  intro sz
  refine z_bodyN (by decide +kernel) (Nat.le_of_ble_eq_true rfl) (fun p e s m below meth c ls hx hb hml hr ht hown hlocks hsz hK hP hD hS hN hl => ?_)
  have hA : ∀ a, s.heap.size ≤ a → zA 25 q sz a := fun a h => Or.inr (hsz ▸ h)
  have hl : lv_has ls 1 [(0, .ref (ad 5))] := hl
  have hZ : zSz zMRs 25 q ad av t9 sz s := hsz ▸ hN
  refine lv_aload_n hx hb dJ0_length_8abf5_0 rfl (lv_at hl 0 rfl) ?_
  refine vk_getf hx hb (hZ.1.1 5 (by decide)).2.2.1 hS hown (ht _ hw_8_164) (fun _ h => h) dJ0_length_8abf5_1 ?_
  refine va_tlen hx hb (hZ.1.1 5 (by decide)).2.2.2 hS (v := nI 5) rfl dJ0_length_8abf5_4 ?_
  refine lv_aload_n hx hb dJ0_length_8abf5_5 rfl (lv_at hl 0 rfl) ?_
  refine z_cNXi (As := []) (rest := [.int (nI 5)]) hx hb hml hown ht (mk_J0_coder_7d493_1 l D q cA ad av t9 F _ _ _ hI ) hw_2_191 hmJ0_coder_7d493 ⟨rfl, rfl⟩ (na := 0) rfl (by decide +kernel) (by decide) (vk_recv hZ.1 (by decide) hS) hK hP hD hS hA (zSS_c (Rs := zMRs) (t9 := t9) (fun _ _ _ => zMRs_c)) (zSS_w (Rs := zMRs) (t9 := t9) (fun _ _ _ => zMRs_w) hN hsz hS) hl.1 rfl (Nat.le_of_ble_eq_true rfl) ⟨Nat.zero_le _, Nat.zero_le _⟩ dJ0_length_8abf5_6 (fun r_1 I_1 R_1 J_1 H locs hp_1 hP hD hS _ _ => ?_)
  obtain ⟨rfl, hu_1⟩ := hp_1
  cases hu_1
  refine lv_ishr hx hb dJ0_length_8abf5_9 ?_
  refine z_eqi (y := nI 5) (by decide +kernel) ?_
  exact z_iret (v := nI 5) hx hb hr hlocks hP hD hS dJ0_length_8abf5_10 ⟨rfl, rfl⟩
set_option maxHeartbeats 4000000 in
set_option maxRecDepth 100000 in
theorem mk_J0_isLatin1_aae02_1 (l : Launch) (D : va_G) (q : Nat → Nat) (cA : Nat → ClassId) (ad av : Nat → Nat) (t9 : Nat) (F : Nat → Nat → Int32) (I R : Nat → Nat → Int32) (J : Nat → Nat → Int64) (hI : mInv F (I, R, J))  : zNi (zSS zMRs 25 q ad av t9) l D vwCl (zMtys cA) 25 q (zMd q cA) yJ0_isLatin1_aae02 cJ0_isLatin1_aae02 1 (some .boolean) ({ frames := 0, cells := 0, slots := 0, locals := 0 } : Room) [.ref (ad 5)] (I, R, J) (fun r u => (r = nI 1 ∧ u = (I, R, J))) := by
  intro sz
  refine z_bodyN (by decide +kernel) (Nat.le_of_ble_eq_true rfl) (fun p e s m below meth c ls hx hb hml hr ht hown hlocks hsz hK hP hD hS hN hl => ?_)
  have hA : ∀ a, s.heap.size ≤ a → zA 25 q sz a := fun a h => Or.inr (hsz ▸ h)
  have hl : lv_has ls 1 [(0, .ref (ad 5))] := hl
  have hZ : zSz zMRs 25 q ad av t9 sz s := hsz ▸ hN
  refine va_gets hx hb hZ.2.1 hS hown (ht _ hw_2_195) (fun _ h => h) dJ0_isLatin1_aae02_0 ?_
  refine z_eqi (y := nI 1) rfl ?_
  refine lv_if_eq (tgt := 17) hx hb dJ0_isLatin1_aae02_3 (by decide) (fun c_0 => absurd c_0 (zD_ne zk_1 zk_z (by decide))) (fun _ => ?_)
  refine lv_aload_n hx hb dJ0_isLatin1_aae02_6 rfl (lv_at hl 0 rfl) ?_
  refine vk_getf hx hb (hZ.1.1 5 (by decide)).2.1 hS hown (ht _ hw_8_165) (fun _ h => h) dJ0_isLatin1_aae02_7 ?_
  refine z_eqi (y := nI 0) rfl ?_
  refine lv_if_ne (tgt := 17) hx hb dJ0_isLatin1_aae02_10 (by decide) (fun c_0 => absurd (zD_eq zk_0 zk_z) c_0) (fun _ => ?_)
  refine lv_iconst (v := nI 1) hx hb dJ0_isLatin1_aae02_13 (by decide +kernel) ?_
  refine lv_goto (tgt := 18) hx hb dJ0_isLatin1_aae02_14 (by decide) ?_
  exact z_zret (v := nI 1) hx hb hr hlocks hP hD hS (by decide +kernel) dJ0_isLatin1_aae02_18 ⟨rfl, rfl⟩
set_option maxHeartbeats 4000000 in
set_option maxRecDepth 100000 in
theorem mk_J1_charAt_3b067_3 (l : Launch) (D : va_G) (q : Nat → Nat) (cA : Nat → ClassId) (ad av : Nat → Nat) (t9 : Nat) (F : Nat → Nat → Int32) (I R : Nat → Nat → Int32) (J : Nat → Nat → Int64) (hI : mInv F (I, R, J)) (pa1 : Int32) (hpa1 : zR 0 4 pa1) : zNi (zSS zMRs 25 q ad av t9) l D vwCl (zMtys cA) 25 q (zMd q cA) yJ1_charAt_3b067 cJ1_charAt_3b067 2 (some .char) ({ frames := 2, cells := 0, slots := 0, locals := 43 } : Room) [.ref (av 5), .int (pa1)] (I, R, J) (fun r u => (r = zch 5 (pa1).toNatClampNeg ∧ zR 0 65535 r) ∧ u = (I, R, J)) := by
  intro sz
  refine z_bodyN (by decide +kernel) (Nat.le_of_ble_eq_true rfl) (fun p e s m below meth c ls hx hb hml hr ht hown hlocks hsz hK hP hD hS hN hl => ?_)
  have hA : ∀ a, s.heap.size ≤ a → zA 25 q sz a := fun a h => Or.inr (hsz ▸ h)
  have hl : lv_has ls 2 [(0, .ref (av 5)), (1, .int (pa1))] := hl
  have hZ : zSz zMRs 25 q ad av t9 sz s := hsz ▸ hN
  refine lv_iload_n hx hb dJ1_charAt_3b067_0 rfl (lv_at hl 1 rfl) ?_
  refine lv_aload_n hx hb dJ1_charAt_3b067_1 rfl (lv_at hl 0 rfl) ?_
  refine va_tlen hx hb (hZ.1.1 5 (by decide)).2.2.2 hS (v := nI 5) rfl dJ1_charAt_3b067_2 ?_
  refine z_cNSv (As := [.int (pa1), .int (nI 5)]) (rest := []) hx hb hml hown ht (mk_J0_checkIndex_df160_1 l D q cA ad av t9 F _ _ _ hI (pa1) hpa1) hw_2_208 hmJ0_checkIndex_df160 ⟨rfl, rfl⟩ (na := 2) rfl (by decide +kernel) (by decide) hK hP hD hS hA (zSS_c (Rs := zMRs) (t9 := t9) (fun _ _ _ => zMRs_c)) (zSS_w (Rs := zMRs) (t9 := t9) (fun _ _ _ => zMRs_w) hN hsz hS) hl.1 rfl (Nat.le_of_ble_eq_true rfl) ⟨Nat.zero_le _, Nat.zero_le _⟩ dJ1_charAt_3b067_3 (fun I_1 R_1 J_1 H locs hp_1 hP hD hS _ _ => ?_)
  cases hp_1
  refine lv_aload_n hx hb dJ1_charAt_3b067_6 rfl (lv_at hl 0 rfl) ?_
  refine lv_iload_n hx hb dJ1_charAt_3b067_7 rfl (lv_at hl 1 rfl) ?_
  refine va_tb hx hb (hZ.1.1 5 (by decide)).2.2.2 hS (zR_vin hpa1 (by decide)) (v := .int ((zByt.getD 5 []).getD (pa1).toNatClampNeg 0)) rfl dJ1_charAt_3b067_8 ?_
  refine lv_sipush (v := nI 255) hx hb dJ1_charAt_3b067_9 (by decide +kernel) ?_
  refine lv_iand hx hb dJ1_charAt_3b067_12 ?_
  refine lv_i2c (v := ((((zByt.getD 5 []).getD (pa1).toNatClampNeg 0) &&& (nI 255)).toUInt32 % 65536).toInt32) hx hb dJ1_charAt_3b067_13 rfl ?_
  exact z_zret (v := ((((zByt.getD 5 []).getD (pa1).toNatClampNeg 0) &&& (nI 255)).toUInt32 % 65536).toInt32) hx hb hr hlocks hP hD hS (zR_char (zR_i2c _)) dJ1_charAt_3b067_14 ⟨⟨rfl, (zR_i2c _)⟩, rfl⟩
set_option maxHeartbeats 4000000 in
set_option maxRecDepth 100000 in
theorem mk_J0_charAt_5068e_3 (l : Launch) (D : va_G) (q : Nat → Nat) (cA : Nat → ClassId) (ad av : Nat → Nat) (t9 : Nat) (F : Nat → Nat → Int32) (I R : Nat → Nat → Int32) (J : Nat → Nat → Int64) (hI : mInv F (I, R, J)) (pa0 : Int32) (hpa0 : zR 0 4 pa0) : zNi (zSS zMRs 25 q ad av t9) l D vwCl (zMtys cA) 25 q (zMd q cA) yJ0_charAt_5068e cJ0_charAt_5068e 2 (some .char) ({ frames := 3, cells := 0, slots := 0, locals := 64 } : Room) [.ref (ad 5), .int (pa0)] (I, R, J) (fun r u => (r = zch 5 (pa0).toNatClampNeg ∧ zR 0 65535 r) ∧ u = (I, R, J)) := by
  intro sz
  refine z_bodyN (by decide +kernel) (Nat.le_of_ble_eq_true rfl) (fun p e s m below meth c ls hx hb hml hr ht hown hlocks hsz hK hP hD hS hN hl => ?_)
  have hA : ∀ a, s.heap.size ≤ a → zA 25 q sz a := fun a h => Or.inr (hsz ▸ h)
  have hl : lv_has ls 2 [(0, .ref (ad 5)), (1, .int (pa0))] := hl
  have hZ : zSz zMRs 25 q ad av t9 sz s := hsz ▸ hN
  refine lv_aload_n hx hb dJ0_charAt_5068e_0 rfl (lv_at hl 0 rfl) ?_
  refine z_cNXi (As := []) (rest := []) hx hb hml hown ht (mk_J0_isLatin1_aae02_1 l D q cA ad av t9 F _ _ _ hI ) hw_2_201 hmJ0_isLatin1_aae02 ⟨rfl, rfl⟩ (na := 0) rfl (by decide +kernel) (by decide) (vk_recv hZ.1 (by decide) hS) hK hP hD hS hA (zSS_c (Rs := zMRs) (t9 := t9) (fun _ _ _ => zMRs_c)) (zSS_w (Rs := zMRs) (t9 := t9) (fun _ _ _ => zMRs_w) hN hsz hS) hl.1 rfl (Nat.le_of_ble_eq_true rfl) ⟨Nat.zero_le _, Nat.zero_le _⟩ dJ0_charAt_5068e_1 (fun r_1 I_1 R_1 J_1 H locs hp_1 hP hD hS _ _ => ?_)
  obtain ⟨rfl, hu_1⟩ := hp_1
  cases hu_1
  refine lv_if_eq (tgt := 16) hx hb dJ0_charAt_5068e_4 (by decide) (fun c_0 => absurd c_0 (zD_ne zk_1 zk_z (by decide))) (fun _ => ?_)
  refine lv_aload_n hx hb dJ0_charAt_5068e_7 rfl (lv_at hl 0 rfl) ?_
  refine vk_getf hx hb (hZ.1.1 5 (by decide)).2.2.1 hS hown (ht _ hw_8_164) (fun _ h => h) dJ0_charAt_5068e_8 ?_
  refine lv_iload_n hx hb dJ0_charAt_5068e_11 rfl (lv_at hl 1 rfl) ?_
  refine z_cNSi (As := [.ref (av 5), .int (pa0)]) (rest := []) hx hb hml hown ht (mk_J1_charAt_3b067_3 l D q cA ad av t9 F _ _ _ hI (pa0) hpa0) hw_2_205 hmJ1_charAt_3b067 ⟨rfl, rfl⟩ (na := 2) rfl (by decide +kernel) (by decide) hK hP hD hS hA (zSS_c (Rs := zMRs) (t9 := t9) (fun _ _ _ => zMRs_c)) (zSS_w (Rs := zMRs) (t9 := t9) (fun _ _ _ => zMRs_w) hN hsz hS) hl.1 rfl (Nat.le_of_ble_eq_true rfl) ⟨Nat.zero_le _, Nat.zero_le _⟩ dJ0_charAt_5068e_12 (fun r_2 I_2 R_2 J_2 H locs hp_2 hP hD hS _ _ => ?_)
  obtain ⟨⟨rfl, hr_2⟩, hu_2⟩ := hp_2
  cases hu_2
  exact z_zret (v := zch 5 (pa0).toNatClampNeg) hx hb hr hlocks hP hD hS (zR_char hr_2) dJ0_charAt_5068e_15 ⟨⟨rfl, hr_2⟩, rfl⟩
set_option maxHeartbeats 4000000 in
set_option maxRecDepth 100000 in
theorem mk_X11_is_1 (l : Launch) (D : va_G) (q : Nat → Nat) (cA : Nat → ClassId) (ad av : Nat → Nat) (t9 : Nat) (F : Nat → Nat → Int32) (I R : Nat → Nat → Int32) (J : Nat → Nat → Int64) (hI : mInv F (I, R, J))  : zNi (zSS zMRs 25 q ad av t9) l D vwCl (zMtys cA) 25 q (zMd q cA) yX11_is cX11_is 4 (some .boolean) ({ frames := 4, cells := 0, slots := 0, locals := 85 } : Room) [.ref (q 0), .ref (ad 5)] (I, R, J) (fun r u => (r = nI 1 ∧ u = (I, R, J) ∧ mIs 5 I R) ∨ (r = nI 0 ∧ u = (I, R, J) ∧ ¬ mIs 5 I R)) := by
  intro sz
  refine z_bodyN (by decide +kernel) (Nat.le_of_ble_eq_true rfl) (fun p e s m below meth c ls hx hb hml hr ht hown hlocks hsz hK hP hD hS hN hl => ?_)
  have hA : ∀ a, s.heap.size ≤ a → zA 25 q sz a := fun a h => Or.inr (hsz ▸ h)
  have hl : lv_has ls 4 [(0, .ref (q 0)), (1, .ref (ad 5))] := hl
  have hZ : zSz zMRs 25 q ad av t9 sz s := hsz ▸ hN
  refine lv_aload_n hx hb dX11_is_0 rfl (lv_at hl 0 rfl) ?_
  refine z_callVi (k := 0) (As := []) (rest := []) hx hb hml hown ht (mk_X11_good l D q cA F _ _ _ hI ) hw_6_123 hmX11_good ⟨rfl, rfl⟩ (na := 0) rfl (by decide +kernel) (by decide) (by decide) rfl rfl hK hP hD hS hA hl.1 rfl (Nat.le_of_ble_eq_true rfl) ⟨Nat.zero_le _, Nat.zero_le _⟩ dX11_is_1 (fun r_1 I_1 R_1 J_1 H locs hp_1 hP hD hS _ _ => ?_)
  rcases hp_1 with ⟨rfl, hu_1, nn_1⟩ | ⟨rfl, hu_1, nn_1⟩
  · cases hu_1
    refine lv_if_eq (tgt := 35) hx hb dX11_is_4 (by decide) (fun c_0 => absurd c_0 (zD_ne zk_1 zk_z (by decide))) (fun _ => ?_)
    refine lv_aload_n hx hb dX11_is_7 rfl (lv_at hl 0 rfl) ?_
    refine z_get hx hb ht hown hK hP ziX11 rfl 0 (by decide) 10 (by decide) hw_5_197 rfl (v := .int (I 0 10)) rfl dX11_is_8 ?_
    refine lv_iconst (v := nI 1) hx hb dX11_is_11 (by decide +kernel) ?_
    refine lv_icmp_ne (tgt := 35) hx hb dX11_is_12 (by decide) (fun c_2 => ?_) (fun c_2 => ?_)
    · have t_c_2 := z_eqF c_2
      refine lv_iconst (v := nI 0) hx hb dX11_is_35 (by decide +kernel) ?_
      refine lv_istore_n (lv' := [(2, .int (nI 0)), (0, .ref (q 0)), (1, .ref (ad 5))]) hx hb dX11_is_36 rfl hl (by decide) rfl (fun ls hl => ?_)
      refine lv_iconst (v := nI 0) hx hb dX11_is_37 (by decide +kernel) ?_
      refine lv_istore_n (lv' := [(3, .int (nI 0)), (2, .int (nI 0)), (0, .ref (q 0)), (1, .ref (ad 5))]) hx hb dX11_is_38 rfl hl (by decide) rfl (fun ls hl => ?_)
      refine lv_iload_n hx hb dX11_is_39 rfl (lv_at hl 0 rfl) ?_
      refine lv_aload_n hx hb dX11_is_40 rfl (lv_at hl 3 rfl) ?_
      refine z_cNXi (As := []) (rest := [.int (nI 0)]) hx hb hml hown ht (mk_J0_length_8abf5_1 l D q cA ad av t9 F _ _ _ hI ) hw_6_144 hmJ0_length_8abf5 ⟨rfl, rfl⟩ (na := 0) rfl (by decide +kernel) (by decide) (vk_recv hZ.1 (by decide) hS) hK hP hD hS hA (zSS_c (Rs := zMRs) (t9 := t9) (fun _ _ _ => zMRs_c)) (zSS_w (Rs := zMRs) (t9 := t9) (fun _ _ _ => zMRs_w) hN hsz hS) hl.1 rfl (Nat.le_of_ble_eq_true rfl) ⟨Nat.zero_le _, Nat.zero_le _⟩ dX11_is_41 (fun r_5 I_5 R_5 J_5 H locs hp_5 hP hD hS _ _ => ?_)
      obtain ⟨rfl, hu_5⟩ := hp_5
      cases hu_5
      refine lv_icmp_ge (tgt := 82) hx hb dX11_is_44 (by decide) (fun c_0 => absurd c_0 (zD_nle zk_5 zk_0 (by decide))) (fun _ => ?_)
      refine lv_iload_n hx hb dX11_is_47 rfl (lv_at hl 1 rfl) ?_
      refine lv_if_eq (tgt := 82) hx hb dX11_is_48 (by decide) (fun _ => ?_) (fun c_0 => absurd (zD_eq zk_0 zk_z) c_0)
      refine lv_iload_n hx hb dX11_is_82 rfl (lv_at hl 1 rfl) ?_
      exact z_zret (v := nI 0) hx hb hr hlocks hP hD hS (by decide +kernel) dX11_is_83 (Or.inr ⟨rfl, rfl, (mIs_n2 t_c_2)⟩)
    · have t_c_2 := z_eqT c_2
      have f_6 : zR 1 1 (I 0 10) := zR_eqx t_c_2 zk_1
      refine lv_aload_n hx hb dX11_is_15 rfl (lv_at hl 0 rfl) ?_
      refine z_get hx hb ht hown hK hP ziX11 rfl 0 (by decide) 8 (by decide) hw_5_195 rfl (v := .int (I 0 8)) rfl dX11_is_16 ?_
      have f_7 : zR 0 800 (I 0 8) := mI hI 0 8
      refine lv_aload_n hx hb dX11_is_19 rfl (lv_at hl 0 rfl) ?_
      refine z_get hx hb ht hown hK hP ziX11 rfl 0 (by decide) 9 (by decide) hw_5_196 rfl (v := .int (I 0 9)) rfl dX11_is_20 ?_
      have f_8 : zR 0 800 (I 0 9) := mI hI 0 9
      refine lv_isub hx hb dX11_is_23 ?_
      refine lv_topi (fun v_9 ev_9 => ?_)
      have hv_9 : zR (-800) 800 v_9 := ev_9 ▸ zR_sub f_7 f_8 (by decide)
      refine lv_aload_n hx hb dX11_is_24 rfl (lv_at hl 1 rfl) ?_
      refine z_cNXi (As := []) (rest := [.int (v_9)]) hx hb hml hown ht (mk_J0_length_8abf5_1 l D q cA ad av t9 F _ _ _ hI ) hw_6_144 hmJ0_length_8abf5 ⟨rfl, rfl⟩ (na := 0) rfl (by decide +kernel) (by decide) (vk_recv hZ.1 (by decide) hS) hK hP hD hS hA (zSS_c (Rs := zMRs) (t9 := t9) (fun _ _ _ => zMRs_c)) (zSS_w (Rs := zMRs) (t9 := t9) (fun _ _ _ => zMRs_w) hN hsz hS) hl.1 rfl (Nat.le_of_ble_eq_true rfl) ⟨Nat.zero_le _, Nat.zero_le _⟩ dX11_is_25 (fun r_10 I_10 R_10 J_10 H locs hp_10 hP hD hS _ _ => ?_)
      obtain ⟨rfl, hu_10⟩ := hp_10
      cases hu_10
      refine lv_icmp_ne (tgt := 35) hx hb dX11_is_28 (by decide) (fun c_11 => ?_) (fun c_11 => ?_)
      · have t_c_11 := z_eqF c_11
        refine lv_iconst (v := nI 0) hx hb dX11_is_35 (by decide +kernel) ?_
        refine lv_istore_n (lv' := [(2, .int (nI 0)), (0, .ref (q 0)), (1, .ref (ad 5))]) hx hb dX11_is_36 rfl hl (by decide) rfl (fun ls hl => ?_)
        refine lv_iconst (v := nI 0) hx hb dX11_is_37 (by decide +kernel) ?_
        refine lv_istore_n (lv' := [(3, .int (nI 0)), (2, .int (nI 0)), (0, .ref (q 0)), (1, .ref (ad 5))]) hx hb dX11_is_38 rfl hl (by decide) rfl (fun ls hl => ?_)
        refine lv_iload_n hx hb dX11_is_39 rfl (lv_at hl 0 rfl) ?_
        refine lv_aload_n hx hb dX11_is_40 rfl (lv_at hl 3 rfl) ?_
        refine z_cNXi (As := []) (rest := [.int (nI 0)]) hx hb hml hown ht (mk_J0_length_8abf5_1 l D q cA ad av t9 F _ _ _ hI ) hw_6_144 hmJ0_length_8abf5 ⟨rfl, rfl⟩ (na := 0) rfl (by decide +kernel) (by decide) (vk_recv hZ.1 (by decide) hS) hK hP hD hS hA (zSS_c (Rs := zMRs) (t9 := t9) (fun _ _ _ => zMRs_c)) (zSS_w (Rs := zMRs) (t9 := t9) (fun _ _ _ => zMRs_w) hN hsz hS) hl.1 rfl (Nat.le_of_ble_eq_true rfl) ⟨Nat.zero_le _, Nat.zero_le _⟩ dX11_is_41 (fun r_14 I_14 R_14 J_14 H locs hp_14 hP hD hS _ _ => ?_)
        obtain ⟨rfl, hu_14⟩ := hp_14
        cases hu_14
        refine lv_icmp_ge (tgt := 82) hx hb dX11_is_44 (by decide) (fun c_0 => absurd c_0 (zD_nle zk_5 zk_0 (by decide))) (fun _ => ?_)
        refine lv_iload_n hx hb dX11_is_47 rfl (lv_at hl 1 rfl) ?_
        refine lv_if_eq (tgt := 82) hx hb dX11_is_48 (by decide) (fun _ => ?_) (fun c_0 => absurd (zD_eq zk_0 zk_z) c_0)
        refine lv_iload_n hx hb dX11_is_82 rfl (lv_at hl 1 rfl) ?_
        exact z_zret (v := nI 0) hx hb hr hlocks hP hD hS (by decide +kernel) dX11_is_83 (Or.inr ⟨rfl, rfl, (mIs_n3 ev_9 t_c_11)⟩)
      · have t_c_11 := z_eqT c_11
        have f_15 : zR 5 5 (v_9) := zR_eqx t_c_11 zk_5
        have f_16 : zR 0 795 (I 0 9) := z_start f_7 f_8 ev_9 f_15 (by decide)
        refine lv_iconst (v := nI 1) hx hb dX11_is_31 (by decide +kernel) ?_
        refine lv_goto (tgt := 36) hx hb dX11_is_32 (by decide) ?_
        refine lv_istore_n (lv' := [(2, .int (nI 1)), (0, .ref (q 0)), (1, .ref (ad 5))]) hx hb dX11_is_36 rfl hl (by decide) rfl (fun ls hl => ?_)
        refine lv_iconst (v := nI 0) hx hb dX11_is_37 (by decide +kernel) ?_
        refine lv_istore_n (lv' := [(3, .int (nI 0)), (2, .int (nI 1)), (0, .ref (q 0)), (1, .ref (ad 5))]) hx hb dX11_is_38 rfl hl (by decide) rfl (fun ls hl => ?_)
        have loop_71 : ∀ N : Nat, ∀ x_68 : Int32, zR 0 1 x_68 → ∀ x_69 : Int32, zR 0 5 x_69 → (mIsL 5 I R (x_69) (x_68)) → (2147483648 - (x_69).toInt).toNat < N → ∀ (H : Heap) (locs : List Loc), va_P D vwCl (zw 25 q (zMd q cA) I R J) H → va_D (zA 25 q sz) (zw 25 q (zMd q cA) I R J) → va_S (zA 25 q sz) s.heap H locs → ∀ ls : Array Slot, lv_has ls 4 [(0, .ref (q 0)), (1, .ref (ad 5)), (2, .int (x_68)), (3, .int (x_69))] → W p l e ({ frames := 4, cells := 0, slots := 0, locals := 85 } : Room) s m ([.ref (q 0), .ref (ad 5)] : List Value).toArray below meth c H locs 0 0 (MQ below (va_Qi (fun r u => (r = nI 1 ∧ u = (I, R, J) ∧ mIs 5 I R) ∨ (r = nI 0 ∧ u = (I, R, J) ∧ ¬ mIs 5 I R)) (zB D vwCl 25 q (zMd q cA) sz) (zA 25 q sz)) ([.ref (q 0), .ref (ad 5)] : List Value).toArray s 0 0 (zA 25 q sz)) (F0 m 39 ls []) := by
          intro N
          induction N with
          | zero => intro x_68 hx_68 x_69 hx_69 hx_70 hN; exact absurd hN (Nat.not_lt_zero _)
          | succ N ih_73 =>
            intro x_68 hx_68 x_69 hx_69 hx_70 hN_72 H locs hP hD hS ls hl
            refine lv_iload_n hx hb dX11_is_39 rfl (lv_at hl 3 rfl) ?_
            refine lv_aload_n hx hb dX11_is_40 rfl (lv_at hl 1 rfl) ?_
            refine z_cNXi (As := []) (rest := [.int (x_69)]) hx hb hml hown ht (mk_J0_length_8abf5_1 l D q cA ad av t9 F _ _ _ hI ) hw_6_144 hmJ0_length_8abf5 ⟨rfl, rfl⟩ (na := 0) rfl (by decide +kernel) (by decide) (vk_recv hZ.1 (by decide) hS) hK hP hD hS hA (zSS_c (Rs := zMRs) (t9 := t9) (fun _ _ _ => zMRs_c)) (zSS_w (Rs := zMRs) (t9 := t9) (fun _ _ _ => zMRs_w) hN hsz hS) hl.1 rfl (Nat.le_of_ble_eq_true rfl) ⟨Nat.zero_le _, Nat.zero_le _⟩ dX11_is_41 (fun r_74 I_74 R_74 J_74 H locs hp_74 hP hD hS _ _ => ?_)
            obtain ⟨rfl, hu_74⟩ := hp_74
            cases hu_74
            refine lv_icmp_ge (tgt := 82) hx hb dX11_is_44 (by decide) (fun c_75 => ?_) (fun c_75 => ?_)
            · have t_c_75 := z_leT c_75
              have f_76 : zR 5 5 (x_69) := zR_ley t_c_75 zk_5 hx_69 (by decide)
              refine lv_iload_n hx hb dX11_is_82 rfl (lv_at hl 2 rfl) ?_
              exact z_zret (v := x_68) hx hb hr hlocks hP hD hS (zR_bool (a := 0) (b := 1) hx_68 (by decide)).1 dX11_is_83 (mIs_r1 hx_70 hx_68 t_c_75)
            · have t_c_75 := z_leF c_75
              have f_77 : zR 0 4 (x_69) := zR_ltx t_c_75 hx_69 zk_5 (by decide)
              refine lv_iload_n hx hb dX11_is_47 rfl (lv_at hl 2 rfl) ?_
              refine lv_if_eq (tgt := 82) hx hb dX11_is_48 (by decide) (fun c_78 => ?_) (fun c_78 => ?_)
              · have t_c_78 := z_eqT c_78
                have f_79 : zR 0 0 (x_68) := zR_eqx t_c_78 zk_z
                refine lv_iload_n hx hb dX11_is_82 rfl (lv_at hl 2 rfl) ?_
                exact z_zret (v := x_68) hx hb hr hlocks hP hD hS (zR_bool (a := 0) (b := 1) (zR_w f_79 (by decide)) (by decide)).1 dX11_is_83 (mIs_r0 hx_70 f_79)
              · have t_c_78 := z_eqF c_78
                have f_80 : zR 1 1 (x_68) := zR_nex t_c_78 hx_68 zk_z (by decide)
                refine lv_aload_n hx hb dX11_is_51 rfl (lv_at hl 0 rfl) ?_
                refine z_get hx hb ht hown hK hP ziX11 rfl 0 (by decide) 4 (by decide) hw_5_191 rfl (v := .ref (q 4)) rfl dX11_is_52 ?_
                refine lv_aload_n hx hb dX11_is_55 rfl (lv_at hl 0 rfl) ?_
                refine z_get hx hb ht hown hK hP ziX11 rfl 0 (by decide) 9 (by decide) hw_5_196 rfl (v := .int (I 0 9)) rfl dX11_is_56 ?_
                refine lv_iload_n hx hb dX11_is_59 rfl (lv_at hl 3 rfl) ?_
                refine lv_iadd hx hb dX11_is_60 ?_
                refine lv_topi (fun v_81 ev_81 => ?_)
                have hv_81 : zR 0 799 v_81 := ev_81 ▸ zR_add f_16 f_77 (by decide)
                refine z_bald hx hb hK hP 4 (by decide) 3 rfl rfl (zR_vin hv_81 (by decide)) dX11_is_61 ?_
                refine z_eqi (y := R 4 (v_81).toNatClampNeg) rfl ?_
                refine lv_aload_n hx hb dX11_is_62 rfl (lv_at hl 1 rfl) ?_
                refine lv_iload_n hx hb dX11_is_63 rfl (lv_at hl 3 rfl) ?_
                refine z_cNXi (As := [.int (x_69)]) (rest := [.int (R 4 (v_81).toNatClampNeg)]) hx hb hml hown ht (mk_J0_charAt_5068e_3 l D q cA ad av t9 F _ _ _ hI (x_69) f_77) hw_6_145 hmJ0_charAt_5068e ⟨rfl, rfl⟩ (na := 1) rfl (by decide +kernel) (by decide) (vk_recv hZ.1 (by decide) hS) hK hP hD hS hA (zSS_c (Rs := zMRs) (t9 := t9) (fun _ _ _ => zMRs_c)) (zSS_w (Rs := zMRs) (t9 := t9) (fun _ _ _ => zMRs_w) hN hsz hS) hl.1 rfl (Nat.le_of_ble_eq_true rfl) ⟨Nat.zero_le _, Nat.zero_le _⟩ dX11_is_64 (fun r_82 I_82 R_82 J_82 H locs hp_82 hP hD hS _ _ => ?_)
                obtain ⟨⟨rfl, hr_82⟩, hu_82⟩ := hp_82
                cases hu_82
                refine lv_icmp_ne (tgt := 74) hx hb dX11_is_67 (by decide) (fun c_83 => ?_) (fun c_83 => ?_)
                · have t_c_83 := z_eqF c_83
                  refine lv_iconst (v := nI 0) hx hb dX11_is_74 (by decide +kernel) ?_
                  refine lv_istore_n (lv' := [(2, .int (nI 0)), (0, .ref (q 0)), (1, .ref (ad 5)), (3, .int (x_69))]) hx hb dX11_is_75 rfl hl (by decide) rfl (fun ls hl => ?_)
                  obtain ⟨v_84, ev_84⟩ : ∃ y : Int32, y = x_69 + nI 1 := ⟨_, rfl⟩
                  have hv_84 : zR 1 5 v_84 := ev_84 ▸ zR_add f_77 zk_1 (by decide)
                  have mv_84 : v_84.toInt = (x_69).toInt + 1 := by rw [ev_84, zR_addE f_77 zk_1 (by decide)]; rfl
                  refine lv_iinc (v := v_84) (lv' := [(3, .int (v_84)), (2, .int (nI 0)), (0, .ref (q 0)), (1, .ref (ad 5))]) hx hb dX11_is_76 hl (k := 3) rfl (ev_84 ▸ rfl) (by decide) rfl (fun ls hl => ?_)
                  refine lv_goto (tgt := 39) hx hb dX11_is_79 (by decide) ?_
                  exact ih_73 (nI 0) (zR_w zk_0 (by decide)) (v_84) (zR_w hv_84 (by decide)) (mIsL_n hx_70 f_80 t_c_75 t_c_83 (mIs_ix (zR_w f_16 (by decide)) (zR_w f_77 (by decide)) ev_81)) (z2_up mv_84 (by decide) hN_72) _ _ hP hD hS _ (lv_sub hl [2, 3, 1, 0] rfl)
                · have t_c_83 := z_eqT c_83
                  have f_85 : zR 0 65535 (R 4 (v_81).toNatClampNeg) := zR_eqx t_c_83 hr_82
                  refine lv_iconst (v := nI 1) hx hb dX11_is_70 (by decide +kernel) ?_
                  refine lv_goto (tgt := 75) hx hb dX11_is_71 (by decide) ?_
                  refine lv_istore_n (lv' := [(2, .int (nI 1)), (0, .ref (q 0)), (1, .ref (ad 5)), (3, .int (x_69))]) hx hb dX11_is_75 rfl hl (by decide) rfl (fun ls hl => ?_)
                  obtain ⟨v_86, ev_86⟩ : ∃ y : Int32, y = x_69 + nI 1 := ⟨_, rfl⟩
                  have hv_86 : zR 1 5 v_86 := ev_86 ▸ zR_add f_77 zk_1 (by decide)
                  have mv_86 : v_86.toInt = (x_69).toInt + 1 := by rw [ev_86, zR_addE f_77 zk_1 (by decide)]; rfl
                  refine lv_iinc (v := v_86) (lv' := [(3, .int (v_86)), (2, .int (nI 1)), (0, .ref (q 0)), (1, .ref (ad 5))]) hx hb dX11_is_76 hl (k := 3) rfl (ev_86 ▸ rfl) (by decide) rfl (fun ls hl => ?_)
                  refine lv_goto (tgt := 39) hx hb dX11_is_79 (by decide) ?_
                  exact ih_73 (nI 1) (zR_w zk_1 (by decide)) (v_86) (zR_w hv_86 (by decide)) (mIsL_1 hx_70 f_80 mv_86 t_c_83 (mIs_ix (zR_w f_16 (by decide)) (zR_w f_77 (by decide)) ev_81)) (z2_up mv_86 (by decide) hN_72) _ _ hP hD hS _ (lv_sub hl [2, 3, 1, 0] rfl)
        exact loop_71 _ (nI 1) (zR_w zk_1 (by decide)) (nI 0) (zR_w zk_0 (by decide)) (mIsL_0 (mIs_a3 nn_1 t_c_2 ev_9 f_15)) (Nat.lt_succ_self _) _ _ hP hD hS _ (lv_sub hl [2, 3, 1, 0] rfl)
  · cases hu_1
    refine lv_if_eq (tgt := 35) hx hb dX11_is_4 (by decide) (fun _ => ?_) (fun c_0 => absurd (zD_eq zk_0 zk_z) c_0)
    refine lv_iconst (v := nI 0) hx hb dX11_is_35 (by decide +kernel) ?_
    refine lv_istore_n (lv' := [(2, .int (nI 0)), (0, .ref (q 0)), (1, .ref (ad 5))]) hx hb dX11_is_36 rfl hl (by decide) rfl (fun ls hl => ?_)
    refine lv_iconst (v := nI 0) hx hb dX11_is_37 (by decide +kernel) ?_
    refine lv_istore_n (lv' := [(3, .int (nI 0)), (2, .int (nI 0)), (0, .ref (q 0)), (1, .ref (ad 5))]) hx hb dX11_is_38 rfl hl (by decide) rfl (fun ls hl => ?_)
    refine lv_iload_n hx hb dX11_is_39 rfl (lv_at hl 0 rfl) ?_
    refine lv_aload_n hx hb dX11_is_40 rfl (lv_at hl 3 rfl) ?_
    refine z_cNXi (As := []) (rest := [.int (nI 0)]) hx hb hml hown ht (mk_J0_length_8abf5_1 l D q cA ad av t9 F _ _ _ hI ) hw_6_144 hmJ0_length_8abf5 ⟨rfl, rfl⟩ (na := 0) rfl (by decide +kernel) (by decide) (vk_recv hZ.1 (by decide) hS) hK hP hD hS hA (zSS_c (Rs := zMRs) (t9 := t9) (fun _ _ _ => zMRs_c)) (zSS_w (Rs := zMRs) (t9 := t9) (fun _ _ _ => zMRs_w) hN hsz hS) hl.1 rfl (Nat.le_of_ble_eq_true rfl) ⟨Nat.zero_le _, Nat.zero_le _⟩ dX11_is_41 (fun r_89 I_89 R_89 J_89 H locs hp_89 hP hD hS _ _ => ?_)
    obtain ⟨rfl, hu_89⟩ := hp_89
    cases hu_89
    refine lv_icmp_ge (tgt := 82) hx hb dX11_is_44 (by decide) (fun c_0 => absurd c_0 (zD_nle zk_5 zk_0 (by decide))) (fun _ => ?_)
    refine lv_iload_n hx hb dX11_is_47 rfl (lv_at hl 1 rfl) ?_
    refine lv_if_eq (tgt := 82) hx hb dX11_is_48 (by decide) (fun _ => ?_) (fun c_0 => absurd (zD_eq zk_0 zk_z) c_0)
    refine lv_iload_n hx hb dX11_is_82 rfl (lv_at hl 1 rfl) ?_
    exact z_zret (v := nI 0) hx hb hr hlocks hP hD hS (by decide +kernel) dX11_is_83 (Or.inr ⟨rfl, rfl, (mIs_n1 nn_1)⟩)
set_option maxHeartbeats 4000000 in
set_option maxRecDepth 100000 in
theorem mk_X11_takes_1 (l : Launch) (D : va_G) (q : Nat → Nat) (cA : Nat → ClassId) (ad av : Nat → Nat) (t9 : Nat) (F : Nat → Nat → Int32) (I R : Nat → Nat → Int32) (J : Nat → Nat → Int64) (hI : mInv F (I, R, J))  : zNi (zSS zMRs 25 q ad av t9) l D vwCl (zMtys cA) 25 q (zMd q cA) yX11_takes cX11_takes 3 (some .boolean) ({ frames := 5, cells := 0, slots := 0, locals := 108 } : Room) [.ref (q 0), .ref (ad 5)] (I, R, J) (fun r u => (r = nI 1 ∧ ((mInv F u ∧ (∀ k, k ≠ 0 → u.1 k = I k) ∧ u.2 = (R, J)) ∧ mTr I u.1) ∧ mIs 5 I R) ∨ (r = nI 0 ∧ u = (I, R, J) ∧ ¬ mIs 5 I R)) := by
  intro sz
  refine z_bodyN (by decide +kernel) (Nat.le_of_ble_eq_true rfl) (fun p e s m below meth c ls hx hb hml hr ht hown hlocks hsz hK hP hD hS hN hl => ?_)
  have hA : ∀ a, s.heap.size ≤ a → zA 25 q sz a := fun a h => Or.inr (hsz ▸ h)
  have hl : lv_has ls 3 [(0, .ref (q 0)), (1, .ref (ad 5))] := hl
  have hZ : zSz zMRs 25 q ad av t9 sz s := hsz ▸ hN
  refine lv_aload_n hx hb dX11_takes_0 rfl (lv_at hl 0 rfl) ?_
  refine lv_aload_n hx hb dX11_takes_1 rfl (lv_at hl 1 rfl) ?_
  refine z_cNVi (k := 0) (As := [.ref (ad 5)]) (rest := []) hx hb hml hown ht (mk_X11_is_1 l D q cA ad av t9 F _ _ _ hI ) hw_6_140 hmX11_is ⟨rfl, rfl⟩ (na := 1) rfl (by decide +kernel) (by decide) (by decide) rfl rfl hK hP hD hS hA (zSS_c (Rs := zMRs) (t9 := t9) (fun _ _ _ => zMRs_c)) (zSS_w (Rs := zMRs) (t9 := t9) (fun _ _ _ => zMRs_w) hN hsz hS) hl.1 rfl (Nat.le_of_ble_eq_true rfl) ⟨Nat.zero_le _, Nat.zero_le _⟩ dX11_takes_2 (fun r_1 I_1 R_1 J_1 H locs hp_1 hP hD hS _ _ => ?_)
  rcases hp_1 with ⟨rfl, hu_1, nn_1⟩ | ⟨rfl, hu_1, nn_1⟩
  · cases hu_1
    refine lv_istore_n (lv' := [(2, .int (nI 1)), (0, .ref (q 0)), (1, .ref (ad 5))]) hx hb dX11_takes_5 rfl hl (by decide) rfl (fun ls hl => ?_)
    refine lv_iload_n hx hb dX11_takes_6 rfl (lv_at hl 0 rfl) ?_
    refine lv_if_eq (tgt := 14) hx hb dX11_takes_7 (by decide) (fun c_0 => absurd c_0 (zD_ne zk_1 zk_z (by decide))) (fun _ => ?_)
    refine lv_aload_n hx hb dX11_takes_10 rfl (lv_at hl 1 rfl) ?_
    refine z_callVv (k := 0) (As := []) (rest := []) hx hb hml hown ht (mk_X11_advance l D q cA F _ _ _ hI ) hw_6_109 hmX11_advance ⟨rfl, rfl⟩ (na := 0) rfl (by decide +kernel) (by decide) (by decide) rfl rfl hK hP hD hS hA hl.1 rfl (Nat.le_of_ble_eq_true rfl) ⟨Nat.zero_le _, Nat.zero_le _⟩ dX11_takes_11 (fun I_2 R_2 J_2 H locs hp_2 hP hD hS _ _ => ?_)
    obtain ⟨hq_2, he_2⟩ := hp_2
    try dsimp only at he_2
    obtain ⟨hv_2, hk_2, hj_2⟩ := hq_2
    try dsimp only at hj_2 hk_2
    cases hj_2
    have hf_3 : ∀ k, k ≠ 0 → I_2 k = I k := fun k h => (hk_2 k h).trans ((fun (_ : Nat) _ => rfl) k h)
    refine lv_iload_n hx hb dX11_takes_14 rfl (lv_at hl 0 rfl) ?_
    exact z_zret (v := nI 1) hx hb hr hlocks hP hD hS (by decide +kernel) dX11_takes_15 (Or.inl ⟨rfl, ⟨⟨hv_2, hf_3, rfl⟩, he_2⟩, nn_1⟩)
  · cases hu_1
    refine lv_istore_n (lv' := [(2, .int (nI 0)), (0, .ref (q 0)), (1, .ref (ad 5))]) hx hb dX11_takes_5 rfl hl (by decide) rfl (fun ls hl => ?_)
    refine lv_iload_n hx hb dX11_takes_6 rfl (lv_at hl 0 rfl) ?_
    refine lv_if_eq (tgt := 14) hx hb dX11_takes_7 (by decide) (fun _ => ?_) (fun c_0 => absurd (zD_eq zk_0 zk_z) c_0)
    refine lv_iload_n hx hb dX11_takes_14 rfl (lv_at hl 0 rfl) ?_
    exact z_zret (v := nI 0) hx hb hr hlocks hP hD hS (by decide +kernel) dX11_takes_15 (Or.inr ⟨rfl, rfl, nn_1⟩)
set_option maxHeartbeats 4000000 in
set_option maxRecDepth 100000 in
theorem mk_X11_errs (l : Launch) (D : va_G) (q : Nat → Nat) (cA : Nat → ClassId) (F : Nat → Nat → Int32) (I R : Nat → Nat → Int32) (J : Nat → Nat → Int64) (hI : mInv F (I, R, J))  : zMv l D vwCl (zMtys cA) 25 q (zMd q cA) yX11_errs cX11_errs 2 none ({ frames := 1, cells := 0, slots := 0, locals := 20 } : Room) [.ref (q 0), .int (nI 1)] (I, R, J) (fun u => (mInv F u ∧ (∀ k, k ≠ 0 → u.1 k = I k) ∧ u.2 = (R, J)) ∧ zR 1 3 (u.1 0 12)) := by
  intro sz
  refine z_body (by decide +kernel) (Nat.le_of_ble_eq_true rfl) (fun p e s m below meth c ls hx hb hml hr ht hown hlocks hsz hK hP hD hS hl => ?_)
  have hA : ∀ a, s.heap.size ≤ a → zA 25 q sz a := fun a h => Or.inr (hsz ▸ h)
  have hl : lv_has ls 2 [(0, .ref (q 0)), (1, .int (nI 1))] := hl
  refine lv_aload_n hx hb dX11_errs_0 rfl (lv_at hl 0 rfl) ?_
  refine z_callVi (k := 0) (As := []) (rest := []) hx hb hml hown ht (mk_X11_good l D q cA F _ _ _ hI ) hw_6_123 hmX11_good ⟨rfl, rfl⟩ (na := 0) rfl (by decide +kernel) (by decide) (by decide) rfl rfl hK hP hD hS hA hl.1 rfl (Nat.le_of_ble_eq_true rfl) ⟨Nat.zero_le _, Nat.zero_le _⟩ dX11_errs_1 (fun r_1 I_1 R_1 J_1 H locs hp_1 hP hD hS _ _ => ?_)
  rcases hp_1 with ⟨rfl, hu_1, nn_1⟩ | ⟨rfl, hu_1, nn_1⟩
  · cases hu_1
    refine lv_if_ne (tgt := 8) hx hb dX11_errs_4 (by decide) (fun _ => ?_) (fun c_0 => absurd c_0 (zD_ne zk_1 zk_z (by decide)))
    refine lv_aload_n hx hb dX11_errs_8 rfl (lv_at hl 0 rfl) ?_
    refine lv_iload_n hx hb dX11_errs_9 rfl (lv_at hl 1 rfl) ?_
    refine z_putI hx hb ht hown hK hP hD hS ziX11 tyX11 tyX11_ok nmX11 rfl 0 (by decide) 12 (by decide) hw_5_199 rfl (v := nI 1) rfl rfl rfl (Nat.le_of_ble_eq_true rfl) rfl dX11_errs_10 (fun H locs hP hD hS => ?_)
    have hI_2 := mInv_I hI 0 12 (nI 1) (zR_w zk_1 (by decide)) rfl
    have hf_3 : ∀ k, k ≠ 0 → (zp I 0 12 (nI 1)) k = I k := fun k h => (zp_nk h).trans ((fun (_ : Nat) _ => rfl) k h)
    refine lv_aload_n hx hb dX11_errs_13 rfl (lv_at hl 0 rfl) ?_
    refine lv_aload_n hx hb dX11_errs_14 rfl (lv_at hl 0 rfl) ?_
    refine z_get hx hb ht hown hK hP ziX11 rfl 0 (by decide) 9 (by decide) hw_5_196 rfl (v := .int (I 0 9)) rfl dX11_errs_15 ?_
    have f_4 : zR 0 800 (I 0 9) := mI hI 0 9
    refine z_putI hx hb ht hown hK hP hD hS ziX11 tyX11 tyX11_ok nmX11 rfl 0 (by decide) 13 (by decide) hw_5_200 rfl (v := I 0 9) rfl rfl rfl (Nat.le_of_ble_eq_true rfl) rfl dX11_errs_18 (fun H locs hP hD hS => ?_)
    have hI_5 := mInv_I hI_2 0 13 (I 0 9) (zR_any (I 0 9)) rfl
    have hf_6 : ∀ k, k ≠ 0 → (zp (zp I 0 12 (nI 1)) 0 13 (I 0 9)) k = I k := fun k h => (zp_nk h).trans (hf_3 k h)
    exact z_vret hx hb hr hlocks hP hD hS dX11_errs_21 ⟨⟨hI_5, hf_6, rfl⟩, (zR_w zk_1 (by decide))⟩
  · cases hu_1
    refine lv_if_ne (tgt := 8) hx hb dX11_errs_4 (by decide) (fun c_0 => absurd (zD_eq zk_0 zk_z) c_0) (fun _ => ?_)
    exact z_vret hx hb hr hlocks hP hD hS dX11_errs_7 ⟨⟨hI, (fun (_ : Nat) _ => rfl), rfl⟩, nn_1⟩
set_option maxHeartbeats 4000000 in
set_option maxRecDepth 100000 in
theorem mk_X11_needs (l : Launch) (D : va_G) (q : Nat → Nat) (cA : Nat → ClassId) (ad av : Nat → Nat) (t9 : Nat) (F : Nat → Nat → Int32) (I R : Nat → Nat → Int32) (J : Nat → Nat → Int64) (hI : mInv F (I, R, J))  : zNv (zSS zMRs 25 q ad av t9) l D vwCl (zMtys cA) 25 q (zMd q cA) yX11_needs cX11_needs 2 none ({ frames := 6, cells := 0, slots := 0, locals := 130 } : Room) [.ref (q 0), .ref (ad 5)] (I, R, J) (fun u => (mInv F u ∧ (∀ k, k ≠ 0 → u.1 k = I k) ∧ u.2 = (R, J)) ∧ mTr I u.1) := by
  intro sz
  refine z_bodyN (by decide +kernel) (Nat.le_of_ble_eq_true rfl) (fun p e s m below meth c ls hx hb hml hr ht hown hlocks hsz hK hP hD hS hN hl => ?_)
  have hA : ∀ a, s.heap.size ≤ a → zA 25 q sz a := fun a h => Or.inr (hsz ▸ h)
  have hl : lv_has ls 2 [(0, .ref (q 0)), (1, .ref (ad 5))] := hl
  have hZ : zSz zMRs 25 q ad av t9 sz s := hsz ▸ hN
  refine lv_aload_n hx hb dX11_needs_0 rfl (lv_at hl 0 rfl) ?_
  refine lv_aload_n hx hb dX11_needs_1 rfl (lv_at hl 1 rfl) ?_
  refine z_cNVi (k := 0) (As := [.ref (ad 5)]) (rest := []) hx hb hml hown ht (mk_X11_takes_1 l D q cA ad av t9 F _ _ _ hI ) hw_6_136 hmX11_takes ⟨rfl, rfl⟩ (na := 1) rfl (by decide +kernel) (by decide) (by decide) rfl rfl hK hP hD hS hA (zSS_c (Rs := zMRs) (t9 := t9) (fun _ _ _ => zMRs_c)) (zSS_w (Rs := zMRs) (t9 := t9) (fun _ _ _ => zMRs_w) hN hsz hS) hl.1 rfl (Nat.le_of_ble_eq_true rfl) ⟨Nat.zero_le _, Nat.zero_le _⟩ dX11_needs_2 (fun r_1 I_1 R_1 J_1 H locs hp_1 hP hD hS _ _ => ?_)
  rcases hp_1 with ⟨rfl, hu_1, nn_1⟩ | ⟨rfl, hu_1, nn_1⟩
  · obtain ⟨hq_1, he_1⟩ := hu_1
    try dsimp only at he_1
    obtain ⟨hv_1, hk_1, hj_1⟩ := hq_1
    try dsimp only at hj_1 hk_1
    cases hj_1
    have hf_2 : ∀ k, k ≠ 0 → I_1 k = I k := fun k h => (hk_1 k h).trans ((fun (_ : Nat) _ => rfl) k h)
    refine lv_if_ne (tgt := 13) hx hb dX11_needs_5 (by decide) (fun _ => ?_) (fun c_0 => absurd c_0 (zD_ne zk_1 zk_z (by decide)))
    exact z_vret hx hb hr hlocks hP hD hS dX11_needs_13 ⟨⟨hv_1, hf_2, rfl⟩, he_1⟩
  · cases hu_1
    refine lv_if_ne (tgt := 13) hx hb dX11_needs_5 (by decide) (fun c_0 => absurd (zD_eq zk_0 zk_z) c_0) (fun _ => ?_)
    refine lv_aload_n hx hb dX11_needs_8 rfl (lv_at hl 0 rfl) ?_
    refine lv_iconst (v := nI 1) hx hb dX11_needs_9 (by decide +kernel) ?_
    refine z_callVv (k := 0) (As := [.int (nI 1)]) (rest := []) hx hb hml hown ht (mk_X11_errs l D q cA F _ _ _ hI ) hw_6_146 hmX11_errs ⟨rfl, rfl⟩ (na := 1) rfl (by decide +kernel) (by decide) (by decide) rfl rfl hK hP hD hS hA hl.1 rfl (Nat.le_of_ble_eq_true rfl) ⟨Nat.zero_le _, Nat.zero_le _⟩ dX11_needs_10 (fun I_3 R_3 J_3 H locs hp_3 hP hD hS _ _ => ?_)
    obtain ⟨hq_3, he_3⟩ := hp_3
    obtain ⟨hv_3, hk_3, hj_3⟩ := hq_3
    try dsimp only at hj_3 hk_3
    cases hj_3
    have hf_4 : ∀ k, k ≠ 0 → I_3 k = I k := fun k h => (hk_3 k h).trans ((fun (_ : Nat) _ => rfl) k h)
    exact z_vret hx hb hr hlocks hP hD hS dX11_needs_13 ⟨⟨hv_3, hf_4, rfl⟩, (mTr_f he_3)⟩
set_option maxHeartbeats 4000000 in
set_option maxRecDepth 100000 in
theorem mk_X11_errs_1 (l : Launch) (D : va_G) (q : Nat → Nat) (cA : Nat → ClassId) (F : Nat → Nat → Int32) (I R : Nat → Nat → Int32) (J : Nat → Nat → Int64) (hI : mInv F (I, R, J))  : zMv l D vwCl (zMtys cA) 25 q (zMd q cA) yX11_errs cX11_errs 2 none ({ frames := 1, cells := 0, slots := 0, locals := 20 } : Room) [.ref (q 0), .int (nI 2)] (I, R, J) (fun u => (mInv F u ∧ (∀ k, k ≠ 0 → u.1 k = I k) ∧ u.2 = (R, J)) ∧ zR 1 3 (u.1 0 12)) := by
  intro sz
  refine z_body (by decide +kernel) (Nat.le_of_ble_eq_true rfl) (fun p e s m below meth c ls hx hb hml hr ht hown hlocks hsz hK hP hD hS hl => ?_)
  have hA : ∀ a, s.heap.size ≤ a → zA 25 q sz a := fun a h => Or.inr (hsz ▸ h)
  have hl : lv_has ls 2 [(0, .ref (q 0)), (1, .int (nI 2))] := hl
  refine lv_aload_n hx hb dX11_errs_0 rfl (lv_at hl 0 rfl) ?_
  refine z_callVi (k := 0) (As := []) (rest := []) hx hb hml hown ht (mk_X11_good l D q cA F _ _ _ hI ) hw_6_123 hmX11_good ⟨rfl, rfl⟩ (na := 0) rfl (by decide +kernel) (by decide) (by decide) rfl rfl hK hP hD hS hA hl.1 rfl (Nat.le_of_ble_eq_true rfl) ⟨Nat.zero_le _, Nat.zero_le _⟩ dX11_errs_1 (fun r_1 I_1 R_1 J_1 H locs hp_1 hP hD hS _ _ => ?_)
  rcases hp_1 with ⟨rfl, hu_1, nn_1⟩ | ⟨rfl, hu_1, nn_1⟩
  · cases hu_1
    refine lv_if_ne (tgt := 8) hx hb dX11_errs_4 (by decide) (fun _ => ?_) (fun c_0 => absurd c_0 (zD_ne zk_1 zk_z (by decide)))
    refine lv_aload_n hx hb dX11_errs_8 rfl (lv_at hl 0 rfl) ?_
    refine lv_iload_n hx hb dX11_errs_9 rfl (lv_at hl 1 rfl) ?_
    refine z_putI hx hb ht hown hK hP hD hS ziX11 tyX11 tyX11_ok nmX11 rfl 0 (by decide) 12 (by decide) hw_5_199 rfl (v := nI 2) rfl rfl rfl (Nat.le_of_ble_eq_true rfl) rfl dX11_errs_10 (fun H locs hP hD hS => ?_)
    have hI_2 := mInv_I hI 0 12 (nI 2) (zR_w zk_2 (by decide)) rfl
    have hf_3 : ∀ k, k ≠ 0 → (zp I 0 12 (nI 2)) k = I k := fun k h => (zp_nk h).trans ((fun (_ : Nat) _ => rfl) k h)
    refine lv_aload_n hx hb dX11_errs_13 rfl (lv_at hl 0 rfl) ?_
    refine lv_aload_n hx hb dX11_errs_14 rfl (lv_at hl 0 rfl) ?_
    refine z_get hx hb ht hown hK hP ziX11 rfl 0 (by decide) 9 (by decide) hw_5_196 rfl (v := .int (I 0 9)) rfl dX11_errs_15 ?_
    have f_4 : zR 0 800 (I 0 9) := mI hI 0 9
    refine z_putI hx hb ht hown hK hP hD hS ziX11 tyX11 tyX11_ok nmX11 rfl 0 (by decide) 13 (by decide) hw_5_200 rfl (v := I 0 9) rfl rfl rfl (Nat.le_of_ble_eq_true rfl) rfl dX11_errs_18 (fun H locs hP hD hS => ?_)
    have hI_5 := mInv_I hI_2 0 13 (I 0 9) (zR_any (I 0 9)) rfl
    have hf_6 : ∀ k, k ≠ 0 → (zp (zp I 0 12 (nI 2)) 0 13 (I 0 9)) k = I k := fun k h => (zp_nk h).trans (hf_3 k h)
    exact z_vret hx hb hr hlocks hP hD hS dX11_errs_21 ⟨⟨hI_5, hf_6, rfl⟩, (zR_w zk_2 (by decide))⟩
  · cases hu_1
    refine lv_if_ne (tgt := 8) hx hb dX11_errs_4 (by decide) (fun c_0 => absurd (zD_eq zk_0 zk_z) c_0) (fun _ => ?_)
    exact z_vret hx hb hr hlocks hP hD hS dX11_errs_7 ⟨⟨hI, (fun (_ : Nat) _ => rfl), rfl⟩, nn_1⟩
set_option maxHeartbeats 4000000 in
set_option maxRecDepth 100000 in
theorem mk_X11_number (l : Launch) (D : va_G) (q : Nat → Nat) (cA : Nat → ClassId) (F : Nat → Nat → Int32) (I R : Nat → Nat → Int32) (J : Nat → Nat → Int64) (hI : mInv F (I, R, J))  : zMi l D vwCl (zMtys cA) 25 q (zMd q cA) yX11_number cX11_number 4 (some .int) ({ frames := 2, cells := 0, slots := 0, locals := 85 } : Room) [.ref (q 0), .int (nI 0), .int (nI 9999)] (I, R, J) (fun r u => ((mInv F u ∧ (∀ k, k ≠ 0 → u.1 k = I k) ∧ u.2 = (R, J)) ∧ mTr I u.1) ∧ zR 0 9999 r) := by
  intro sz
  refine z_body (by decide +kernel) (Nat.le_of_ble_eq_true rfl) (fun p e s m below meth c ls hx hb hml hr ht hown hlocks hsz hK hP hD hS hl => ?_)
  have hA : ∀ a, s.heap.size ≤ a → zA 25 q sz a := fun a h => Or.inr (hsz ▸ h)
  have hl : lv_has ls 4 [(0, .ref (q 0)), (1, .int (nI 0)), (2, .int (nI 9999))] := hl
  refine lv_aload_n hx hb dX11_number_0 rfl (lv_at hl 0 rfl) ?_
  refine z_callVi (k := 0) (As := []) (rest := []) hx hb hml hown ht (mk_X11_good l D q cA F _ _ _ hI ) hw_6_123 hmX11_good ⟨rfl, rfl⟩ (na := 0) rfl (by decide +kernel) (by decide) (by decide) rfl rfl hK hP hD hS hA hl.1 rfl (Nat.le_of_ble_eq_true rfl) ⟨Nat.zero_le _, Nat.zero_le _⟩ dX11_number_1 (fun r_1 I_1 R_1 J_1 H locs hp_1 hP hD hS _ _ => ?_)
  rcases hp_1 with ⟨rfl, hu_1, nn_1⟩ | ⟨rfl, hu_1, nn_1⟩
  · cases hu_1
    refine lv_if_eq (tgt := 20) hx hb dX11_number_4 (by decide) (fun c_0 => absurd c_0 (zD_ne zk_1 zk_z (by decide))) (fun _ => ?_)
    refine lv_aload_n hx hb dX11_number_7 rfl (lv_at hl 0 rfl) ?_
    refine z_get hx hb ht hown hK hP ziX11 rfl 0 (by decide) 10 (by decide) hw_5_197 rfl (v := .int (I 0 10)) rfl dX11_number_8 ?_
    refine lv_iconst (v := nI 2) hx hb dX11_number_11 (by decide +kernel) ?_
    refine lv_icmp_eq (tgt := 20) hx hb dX11_number_12 (by decide) (fun c_2 => ?_) (fun c_2 => ?_)
    · have t_c_2 := z_eqT c_2
      have f_3 : zR 2 2 (I 0 10) := zR_eqx t_c_2 zk_2
      refine lv_aload_n hx hb dX11_number_20 rfl (lv_at hl 0 rfl) ?_
      refine z_callVi (k := 0) (As := []) (rest := []) hx hb hml hown ht (mk_X11_good l D q cA F _ _ _ hI ) hw_6_123 hmX11_good ⟨rfl, rfl⟩ (na := 0) rfl (by decide +kernel) (by decide) (by decide) rfl rfl hK hP hD hS hA hl.1 rfl (Nat.le_of_ble_eq_true rfl) ⟨Nat.zero_le _, Nat.zero_le _⟩ dX11_number_21 (fun r_4 I_4 R_4 J_4 H locs hp_4 hP hD hS _ _ => ?_)
      rcases hp_4 with ⟨rfl, hu_4, nn_4⟩ | ⟨rfl, hu_4, nn_4⟩
      · cases hu_4
        refine lv_if_eq (tgt := 47) hx hb dX11_number_24 (by decide) (fun c_0 => absurd c_0 (zD_ne zk_1 zk_z (by decide))) (fun _ => ?_)
        refine lv_aload_n hx hb dX11_number_27 rfl (lv_at hl 0 rfl) ?_
        refine z_get hx hb ht hown hK hP ziX11 rfl 0 (by decide) 11 (by decide) hw_5_198 rfl (v := .int (I 0 11)) rfl dX11_number_28 ?_
        refine lv_i2l (v := (I 0 11).toInt64) hx hb dX11_number_31 rfl ?_
        refine lv_iload_n hx hb dX11_number_32 rfl (lv_at hl 1 rfl) ?_
        refine lv_i2l (v := (0 : Int64)) hx hb dX11_number_33 (by decide +kernel) ?_
        refine lv_iload_n hx hb dX11_number_34 rfl (lv_at hl 2 rfl) ?_
        refine lv_i2l (v := (9999 : Int64)) hx hb dX11_number_35 (by decide +kernel) ?_
        refine z_callSi (As := [.long ((I 0 11).toInt64), .long ((0 : Int64)), .long ((9999 : Int64))]) (rest := []) hx hb hml hown ht (mk_X11_in l D q cA F _ _ _ hI ((I 0 11).toInt64) ((0 : Int64)) ((9999 : Int64))) hw_6_86 hmX11_in ⟨rfl, rfl⟩ (na := 3) rfl (by decide +kernel) (by decide) hK hP hD hS hA hl.1 rfl (Nat.le_of_ble_eq_true rfl) ⟨Nat.zero_le _, Nat.zero_le _⟩ dX11_number_36 (fun r_5 I_5 R_5 J_5 H locs hp_5 hP hD hS _ _ => ?_)
        rcases hp_5 with ⟨rfl, hu_5, h1_5, h2_5⟩ | ⟨rfl, hu_5, h1_5 | h2_5⟩
        · cases hu_5
          have f_6 : zL 0 2147483647 ((I 0 11).toInt64) := zL_ley h1_5 zkl_0 (zR_i2l (zR_any (I 0 11))) (by decide)
          have f_7 : zR 0 2147483647 (I 0 11) := zL_back f_6
          have f_8 : zL 0 9999 ((I 0 11).toInt64) := zL_lex h2_5 f_6 zkl_9999 (by decide)
          have f_9 : zR 0 9999 (I 0 11) := zL_back f_8
          refine lv_if_ne (tgt := 47) hx hb dX11_number_39 (by decide) (fun _ => ?_) (fun c_0 => absurd c_0 (zD_ne zk_1 zk_z (by decide)))
          refine lv_aload_n hx hb dX11_number_47 rfl (lv_at hl 0 rfl) ?_
          refine z_callVi (k := 0) (As := []) (rest := []) hx hb hml hown ht (mk_X11_good l D q cA F _ _ _ hI ) hw_6_123 hmX11_good ⟨rfl, rfl⟩ (na := 0) rfl (by decide +kernel) (by decide) (by decide) rfl rfl hK hP hD hS hA hl.1 rfl (Nat.le_of_ble_eq_true rfl) ⟨Nat.zero_le _, Nat.zero_le _⟩ dX11_number_48 (fun r_10 I_10 R_10 J_10 H locs hp_10 hP hD hS _ _ => ?_)
          rcases hp_10 with ⟨rfl, hu_10, nn_10⟩ | ⟨rfl, hu_10, nn_10⟩
          · cases hu_10
            refine lv_if_ne (tgt := 56) hx hb dX11_number_51 (by decide) (fun _ => ?_) (fun c_0 => absurd c_0 (zD_ne zk_1 zk_z (by decide)))
            refine lv_aload_n hx hb dX11_number_56 rfl (lv_at hl 0 rfl) ?_
            refine z_get hx hb ht hown hK hP ziX11 rfl 0 (by decide) 11 (by decide) hw_5_198 rfl (v := .int (I 0 11)) rfl dX11_number_57 ?_
            refine lv_istore_n (lv' := [(3, .int (I 0 11)), (0, .ref (q 0)), (1, .int (nI 0)), (2, .int (nI 9999))]) hx hb dX11_number_60 rfl hl (by decide) rfl (fun ls hl => ?_)
            refine lv_aload_n hx hb dX11_number_61 rfl (lv_at hl 1 rfl) ?_
            refine z_callVv (k := 0) (As := []) (rest := []) hx hb hml hown ht (mk_X11_advance l D q cA F _ _ _ hI ) hw_6_109 hmX11_advance ⟨rfl, rfl⟩ (na := 0) rfl (by decide +kernel) (by decide) (by decide) rfl rfl hK hP hD hS hA hl.1 rfl (Nat.le_of_ble_eq_true rfl) ⟨Nat.zero_le _, Nat.zero_le _⟩ dX11_number_62 (fun I_11 R_11 J_11 H locs hp_11 hP hD hS _ _ => ?_)
            obtain ⟨hq_11, he_11⟩ := hp_11
            try dsimp only at he_11
            obtain ⟨hv_11, hk_11, hj_11⟩ := hq_11
            try dsimp only at hj_11 hk_11
            cases hj_11
            have hf_12 : ∀ k, k ≠ 0 → I_11 k = I k := fun k h => (hk_11 k h).trans ((fun (_ : Nat) _ => rfl) k h)
            refine lv_iload_n hx hb dX11_number_65 rfl (lv_at hl 0 rfl) ?_
            exact z_iret (v := I 0 11) hx hb hr hlocks hP hD hS dX11_number_66 ⟨⟨⟨hv_11, hf_12, rfl⟩, he_11⟩, f_9⟩
          · cases hu_10
            exact (zR_abs2 nn_10 nn_4 (by decide)).elim
        · cases hu_5
          have f_13 : zL (-2147483648) (-1) ((I 0 11).toInt64) := zL_ltx h1_5 (zR_i2l (zR_any (I 0 11))) zkl_0 (by decide)
          have f_14 : zR (-2147483648) (-1) (I 0 11) := zL_back f_13
          refine lv_if_ne (tgt := 47) hx hb dX11_number_39 (by decide) (fun c_0 => absurd (zD_eq zk_0 zk_z) c_0) (fun _ => ?_)
          refine lv_aload_n hx hb dX11_number_42 rfl (lv_at hl 0 rfl) ?_
          refine lv_iconst (v := nI 2) hx hb dX11_number_43 (by decide +kernel) ?_
          refine z_callVv (k := 0) (As := [.int (nI 2)]) (rest := []) hx hb hml hown ht (mk_X11_errs_1 l D q cA F _ _ _ hI ) hw_6_146 hmX11_errs ⟨rfl, rfl⟩ (na := 1) rfl (by decide +kernel) (by decide) (by decide) rfl rfl hK hP hD hS hA hl.1 rfl (Nat.le_of_ble_eq_true rfl) ⟨Nat.zero_le _, Nat.zero_le _⟩ dX11_number_44 (fun I_15 R_15 J_15 H locs hp_15 hP hD hS _ _ => ?_)
          obtain ⟨hq_15, he_15⟩ := hp_15
          obtain ⟨hv_15, hk_15, hj_15⟩ := hq_15
          try dsimp only at hj_15 hk_15
          cases hj_15
          have hf_16 : ∀ k, k ≠ 0 → I_15 k = I k := fun k h => (hk_15 k h).trans ((fun (_ : Nat) _ => rfl) k h)
          refine lv_aload_n hx hb dX11_number_47 rfl (lv_at hl 0 rfl) ?_
          refine z_callVi (k := 0) (As := []) (rest := []) hx hb hml hown ht (mk_X11_good l D q cA F _ _ _ hv_15 ) hw_6_123 hmX11_good ⟨rfl, rfl⟩ (na := 0) rfl (by decide +kernel) (by decide) (by decide) rfl rfl hK hP hD hS hA hl.1 rfl (Nat.le_of_ble_eq_true rfl) ⟨Nat.zero_le _, Nat.zero_le _⟩ dX11_number_48 (fun r_17 I_17 R_17 J_17 H locs hp_17 hP hD hS _ _ => ?_)
          rcases hp_17 with ⟨rfl, hu_17, nn_17⟩ | ⟨rfl, hu_17, nn_17⟩
          · cases hu_17
            exact (zR_abs2 nn_17 he_15 (by decide)).elim
          · cases hu_17
            refine lv_if_ne (tgt := 56) hx hb dX11_number_51 (by decide) (fun c_0 => absurd (zD_eq zk_0 zk_z) c_0) (fun _ => ?_)
            refine lv_iconst (v := nI 0) hx hb dX11_number_54 (by decide +kernel) ?_
            exact z_iret (v := nI 0) hx hb hr hlocks hP hD hS dX11_number_55 ⟨⟨⟨hv_15, hf_16, rfl⟩, (mTr_f he_15)⟩, (zR_w zk_0 (by decide))⟩
        · cases hu_5
          have f_18 : zL 10000 2147483647 ((I 0 11).toInt64) := zL_lty h2_5 zkl_9999 (zR_i2l (zR_any (I 0 11))) (by decide)
          have f_19 : zR 10000 2147483647 (I 0 11) := zL_back f_18
          refine lv_if_ne (tgt := 47) hx hb dX11_number_39 (by decide) (fun c_0 => absurd (zD_eq zk_0 zk_z) c_0) (fun _ => ?_)
          refine lv_aload_n hx hb dX11_number_42 rfl (lv_at hl 0 rfl) ?_
          refine lv_iconst (v := nI 2) hx hb dX11_number_43 (by decide +kernel) ?_
          refine z_callVv (k := 0) (As := [.int (nI 2)]) (rest := []) hx hb hml hown ht (mk_X11_errs_1 l D q cA F _ _ _ hI ) hw_6_146 hmX11_errs ⟨rfl, rfl⟩ (na := 1) rfl (by decide +kernel) (by decide) (by decide) rfl rfl hK hP hD hS hA hl.1 rfl (Nat.le_of_ble_eq_true rfl) ⟨Nat.zero_le _, Nat.zero_le _⟩ dX11_number_44 (fun I_20 R_20 J_20 H locs hp_20 hP hD hS _ _ => ?_)
          obtain ⟨hq_20, he_20⟩ := hp_20
          obtain ⟨hv_20, hk_20, hj_20⟩ := hq_20
          try dsimp only at hj_20 hk_20
          cases hj_20
          have hf_21 : ∀ k, k ≠ 0 → I_20 k = I k := fun k h => (hk_20 k h).trans ((fun (_ : Nat) _ => rfl) k h)
          refine lv_aload_n hx hb dX11_number_47 rfl (lv_at hl 0 rfl) ?_
          refine z_callVi (k := 0) (As := []) (rest := []) hx hb hml hown ht (mk_X11_good l D q cA F _ _ _ hv_20 ) hw_6_123 hmX11_good ⟨rfl, rfl⟩ (na := 0) rfl (by decide +kernel) (by decide) (by decide) rfl rfl hK hP hD hS hA hl.1 rfl (Nat.le_of_ble_eq_true rfl) ⟨Nat.zero_le _, Nat.zero_le _⟩ dX11_number_48 (fun r_22 I_22 R_22 J_22 H locs hp_22 hP hD hS _ _ => ?_)
          rcases hp_22 with ⟨rfl, hu_22, nn_22⟩ | ⟨rfl, hu_22, nn_22⟩
          · cases hu_22
            exact (zR_abs2 nn_22 he_20 (by decide)).elim
          · cases hu_22
            refine lv_if_ne (tgt := 56) hx hb dX11_number_51 (by decide) (fun c_0 => absurd (zD_eq zk_0 zk_z) c_0) (fun _ => ?_)
            refine lv_iconst (v := nI 0) hx hb dX11_number_54 (by decide +kernel) ?_
            exact z_iret (v := nI 0) hx hb hr hlocks hP hD hS dX11_number_55 ⟨⟨⟨hv_20, hf_21, rfl⟩, (mTr_f he_20)⟩, (zR_w zk_0 (by decide))⟩
      · cases hu_4
        exact (zR_abs2 nn_4 nn_1 (by decide)).elim
    · have t_c_2 := z_eqF c_2
      refine lv_aload_n hx hb dX11_number_15 rfl (lv_at hl 0 rfl) ?_
      refine lv_iconst (v := nI 1) hx hb dX11_number_16 (by decide +kernel) ?_
      refine z_callVv (k := 0) (As := [.int (nI 1)]) (rest := []) hx hb hml hown ht (mk_X11_errs l D q cA F _ _ _ hI ) hw_6_146 hmX11_errs ⟨rfl, rfl⟩ (na := 1) rfl (by decide +kernel) (by decide) (by decide) rfl rfl hK hP hD hS hA hl.1 rfl (Nat.le_of_ble_eq_true rfl) ⟨Nat.zero_le _, Nat.zero_le _⟩ dX11_number_17 (fun I_23 R_23 J_23 H locs hp_23 hP hD hS _ _ => ?_)
      obtain ⟨hq_23, he_23⟩ := hp_23
      obtain ⟨hv_23, hk_23, hj_23⟩ := hq_23
      try dsimp only at hj_23 hk_23
      cases hj_23
      have hf_24 : ∀ k, k ≠ 0 → I_23 k = I k := fun k h => (hk_23 k h).trans ((fun (_ : Nat) _ => rfl) k h)
      refine lv_aload_n hx hb dX11_number_20 rfl (lv_at hl 0 rfl) ?_
      refine z_callVi (k := 0) (As := []) (rest := []) hx hb hml hown ht (mk_X11_good l D q cA F _ _ _ hv_23 ) hw_6_123 hmX11_good ⟨rfl, rfl⟩ (na := 0) rfl (by decide +kernel) (by decide) (by decide) rfl rfl hK hP hD hS hA hl.1 rfl (Nat.le_of_ble_eq_true rfl) ⟨Nat.zero_le _, Nat.zero_le _⟩ dX11_number_21 (fun r_25 I_25 R_25 J_25 H locs hp_25 hP hD hS _ _ => ?_)
      rcases hp_25 with ⟨rfl, hu_25, nn_25⟩ | ⟨rfl, hu_25, nn_25⟩
      · cases hu_25
        exact (zR_abs2 nn_25 he_23 (by decide)).elim
      · cases hu_25
        refine lv_if_eq (tgt := 47) hx hb dX11_number_24 (by decide) (fun _ => ?_) (fun c_0 => absurd (zD_eq zk_0 zk_z) c_0)
        refine lv_aload_n hx hb dX11_number_47 rfl (lv_at hl 0 rfl) ?_
        refine z_callVi (k := 0) (As := []) (rest := []) hx hb hml hown ht (mk_X11_good l D q cA F _ _ _ hv_23 ) hw_6_123 hmX11_good ⟨rfl, rfl⟩ (na := 0) rfl (by decide +kernel) (by decide) (by decide) rfl rfl hK hP hD hS hA hl.1 rfl (Nat.le_of_ble_eq_true rfl) ⟨Nat.zero_le _, Nat.zero_le _⟩ dX11_number_48 (fun r_26 I_26 R_26 J_26 H locs hp_26 hP hD hS _ _ => ?_)
        rcases hp_26 with ⟨rfl, hu_26, nn_26⟩ | ⟨rfl, hu_26, nn_26⟩
        · cases hu_26
          exact (zR_abs2 nn_26 nn_25 (by decide)).elim
        · cases hu_26
          refine lv_if_ne (tgt := 56) hx hb dX11_number_51 (by decide) (fun c_0 => absurd (zD_eq zk_0 zk_z) c_0) (fun _ => ?_)
          refine lv_iconst (v := nI 0) hx hb dX11_number_54 (by decide +kernel) ?_
          exact z_iret (v := nI 0) hx hb hr hlocks hP hD hS dX11_number_55 ⟨⟨⟨hv_23, hf_24, rfl⟩, (mTr_f he_23)⟩, (zR_w zk_0 (by decide))⟩
  · cases hu_1
    refine lv_if_eq (tgt := 20) hx hb dX11_number_4 (by decide) (fun _ => ?_) (fun c_0 => absurd (zD_eq zk_0 zk_z) c_0)
    refine lv_aload_n hx hb dX11_number_20 rfl (lv_at hl 0 rfl) ?_
    refine z_callVi (k := 0) (As := []) (rest := []) hx hb hml hown ht (mk_X11_good l D q cA F _ _ _ hI ) hw_6_123 hmX11_good ⟨rfl, rfl⟩ (na := 0) rfl (by decide +kernel) (by decide) (by decide) rfl rfl hK hP hD hS hA hl.1 rfl (Nat.le_of_ble_eq_true rfl) ⟨Nat.zero_le _, Nat.zero_le _⟩ dX11_number_21 (fun r_27 I_27 R_27 J_27 H locs hp_27 hP hD hS _ _ => ?_)
    rcases hp_27 with ⟨rfl, hu_27, nn_27⟩ | ⟨rfl, hu_27, nn_27⟩
    · cases hu_27
      exact (zR_abs2 nn_27 nn_1 (by decide)).elim
    · cases hu_27
      refine lv_if_eq (tgt := 47) hx hb dX11_number_24 (by decide) (fun _ => ?_) (fun c_0 => absurd (zD_eq zk_0 zk_z) c_0)
      refine lv_aload_n hx hb dX11_number_47 rfl (lv_at hl 0 rfl) ?_
      refine z_callVi (k := 0) (As := []) (rest := []) hx hb hml hown ht (mk_X11_good l D q cA F _ _ _ hI ) hw_6_123 hmX11_good ⟨rfl, rfl⟩ (na := 0) rfl (by decide +kernel) (by decide) (by decide) rfl rfl hK hP hD hS hA hl.1 rfl (Nat.le_of_ble_eq_true rfl) ⟨Nat.zero_le _, Nat.zero_le _⟩ dX11_number_48 (fun r_28 I_28 R_28 J_28 H locs hp_28 hP hD hS _ _ => ?_)
      rcases hp_28 with ⟨rfl, hu_28, nn_28⟩ | ⟨rfl, hu_28, nn_28⟩
      · cases hu_28
        exact (zR_abs2 nn_28 nn_27 (by decide)).elim
      · cases hu_28
        refine lv_if_ne (tgt := 56) hx hb dX11_number_51 (by decide) (fun c_0 => absurd (zD_eq zk_0 zk_z) c_0) (fun _ => ?_)
        refine lv_iconst (v := nI 0) hx hb dX11_number_54 (by decide +kernel) ?_
        exact z_iret (v := nI 0) hx hb hr hlocks hP hD hS dX11_number_55 ⟨⟨⟨hI, (fun (_ : Nat) _ => rfl), rfl⟩, (mTr_f nn_28)⟩, (zR_w zk_0 (by decide))⟩
set_option maxHeartbeats 4000000 in
set_option maxRecDepth 100000 in
theorem mk_X11_told (l : Launch) (D : va_G) (q : Nat → Nat) (cA : Nat → ClassId) (ad av : Nat → Nat) (t9 : Nat) (F : Nat → Nat → Int32) (I R : Nat → Nat → Int32) (J : Nat → Nat → Int64) (hI : mInv F (I, R, J))  : zNi (zSS zMRs 25 q ad av t9) l D vwCl (zMtys cA) 25 q (zMd q cA) yX11_told cX11_told 4 (some .int) ({ frames := 7, cells := 0, slots := 0, locals := 151 } : Room) [.ref (q 0), .ref (ad 5), .int (nI 0), .int (nI 9999)] (I, R, J) (fun r u => ((mInv F u ∧ (∀ k, k ≠ 0 → u.1 k = I k) ∧ u.2 = (R, J)) ∧ mTr I u.1) ∧ zR 0 9999 r) := by
  intro sz
  refine z_bodyN (by decide +kernel) (Nat.le_of_ble_eq_true rfl) (fun p e s m below meth c ls hx hb hml hr ht hown hlocks hsz hK hP hD hS hN hl => ?_)
  have hA : ∀ a, s.heap.size ≤ a → zA 25 q sz a := fun a h => Or.inr (hsz ▸ h)
  have hl : lv_has ls 4 [(0, .ref (q 0)), (1, .ref (ad 5)), (2, .int (nI 0)), (3, .int (nI 9999))] := hl
  have hZ : zSz zMRs 25 q ad av t9 sz s := hsz ▸ hN
  refine lv_aload_n hx hb dX11_told_0 rfl (lv_at hl 0 rfl) ?_
  refine lv_aload_n hx hb dX11_told_1 rfl (lv_at hl 1 rfl) ?_
  refine z_cNVv (k := 0) (As := [.ref (ad 5)]) (rest := []) hx hb hml hown ht (mk_X11_needs l D q cA ad av t9 F _ _ _ hI ) hw_6_132 hmX11_needs ⟨rfl, rfl⟩ (na := 1) rfl (by decide +kernel) (by decide) (by decide) rfl rfl hK hP hD hS hA (zSS_c (Rs := zMRs) (t9 := t9) (fun _ _ _ => zMRs_c)) (zSS_w (Rs := zMRs) (t9 := t9) (fun _ _ _ => zMRs_w) hN hsz hS) hl.1 rfl (Nat.le_of_ble_eq_true rfl) ⟨Nat.zero_le _, Nat.zero_le _⟩ dX11_told_2 (fun I_1 R_1 J_1 H locs hp_1 hP hD hS _ _ => ?_)
  obtain ⟨hq_1, he_1⟩ := hp_1
  try dsimp only at he_1
  obtain ⟨hv_1, hk_1, hj_1⟩ := hq_1
  try dsimp only at hj_1 hk_1
  cases hj_1
  have hf_2 : ∀ k, k ≠ 0 → I_1 k = I k := fun k h => (hk_1 k h).trans ((fun (_ : Nat) _ => rfl) k h)
  refine lv_aload_n hx hb dX11_told_5 rfl (lv_at hl 0 rfl) ?_
  refine lv_iload_n hx hb dX11_told_6 rfl (lv_at hl 2 rfl) ?_
  refine lv_iload_n hx hb dX11_told_7 rfl (lv_at hl 3 rfl) ?_
  refine z_callVi (k := 0) (As := [.int (nI 0), .int (nI 9999)]) (rest := []) hx hb hml hown ht (mk_X11_number l D q cA F _ _ _ hv_1 ) hw_6_155 hmX11_number ⟨rfl, rfl⟩ (na := 2) rfl (by decide +kernel) (by decide) (by decide) rfl rfl hK hP hD hS hA hl.1 rfl (Nat.le_of_ble_eq_true rfl) ⟨Nat.zero_le _, Nat.zero_le _⟩ dX11_told_8 (fun r_3 I_3 R_3 J_3 H locs hp_3 hP hD hS _ _ => ?_)
  obtain ⟨⟨hq_3, he_3⟩, hr_3⟩ := hp_3
  try dsimp only at he_3
  obtain ⟨hv_3, hk_3, hj_3⟩ := hq_3
  try dsimp only at hj_3 hk_3
  cases hj_3
  have hf_4 : ∀ k, k ≠ 0 → I_3 k = I k := fun k h => (hk_3 k h).trans (hf_2 k h)
  exact z_iret (v := r_3) hx hb hr hlocks hP hD hS dX11_told_11 ⟨⟨⟨hv_3, hf_4, rfl⟩, (mTr_t he_1 he_3)⟩, hr_3⟩
set_option maxHeartbeats 4000000 in
set_option maxRecDepth 100000 in
theorem mk_J0_coder_7d493_2 (l : Launch) (D : va_G) (q : Nat → Nat) (cA : Nat → ClassId) (ad av : Nat → Nat) (t9 : Nat) (F : Nat → Nat → Int32) (I R : Nat → Nat → Int32) (J : Nat → Nat → Int64) (hI : mInv F (I, R, J))  : zNi (zSS zMRs 25 q ad av t9) l D vwCl (zMtys cA) 25 q (zMd q cA) yJ0_coder_7d493 cJ0_coder_7d493 1 (some .byte) ({ frames := 0, cells := 0, slots := 0, locals := 0 } : Room) [.ref (ad 6)] (I, R, J) (fun r u => r = nI 0 ∧ u = (I, R, J)) := by
  intro sz
  refine z_bodyN (by decide +kernel) (Nat.le_of_ble_eq_true rfl) (fun p e s m below meth c ls hx hb hml hr ht hown hlocks hsz hK hP hD hS hN hl => ?_)
  have hA : ∀ a, s.heap.size ≤ a → zA 25 q sz a := fun a h => Or.inr (hsz ▸ h)
  have hl : lv_has ls 1 [(0, .ref (ad 6))] := hl
  have hZ : zSz zMRs 25 q ad av t9 sz s := hsz ▸ hN
  refine va_gets hx hb hZ.2.1 hS hown (ht _ hw_2_195) (fun _ h => h) dJ0_coder_7d493_0 ?_
  refine z_eqi (y := nI 1) rfl ?_
  refine lv_if_eq (tgt := 13) hx hb dJ0_coder_7d493_3 (by decide) (fun c_0 => absurd c_0 (zD_ne zk_1 zk_z (by decide))) (fun _ => ?_)
  refine lv_aload_n hx hb dJ0_coder_7d493_6 rfl (lv_at hl 0 rfl) ?_
  refine vk_getf hx hb (hZ.1.1 6 (by decide)).2.1 hS hown (ht _ hw_8_165) (fun _ h => h) dJ0_coder_7d493_7 ?_
  refine z_eqi (y := nI 0) rfl ?_
  refine lv_goto (tgt := 14) hx hb dJ0_coder_7d493_10 (by decide) ?_
  exact z_zret (v := nI 0) hx hb hr hlocks hP hD hS (by decide +kernel) dJ0_coder_7d493_14 ⟨rfl, rfl⟩
set_option maxHeartbeats 4000000 in
set_option maxRecDepth 100000 in
theorem mk_J0_length_8abf5_2 (l : Launch) (D : va_G) (q : Nat → Nat) (cA : Nat → ClassId) (ad av : Nat → Nat) (t9 : Nat) (F : Nat → Nat → Int32) (I R : Nat → Nat → Int32) (J : Nat → Nat → Int64) (hI : mInv F (I, R, J))  : zNi (zSS zMRs 25 q ad av t9) l D vwCl (zMtys cA) 25 q (zMd q cA) yJ0_length_8abf5 cJ0_length_8abf5 1 (some .int) ({ frames := 1, cells := 0, slots := 0, locals := 20 } : Room) [.ref (ad 6)] (I, R, J) (fun r u => r = nI 6 ∧ u = (I, R, J)) := by
  intro sz
  refine z_bodyN (by decide +kernel) (Nat.le_of_ble_eq_true rfl) (fun p e s m below meth c ls hx hb hml hr ht hown hlocks hsz hK hP hD hS hN hl => ?_)
  have hA : ∀ a, s.heap.size ≤ a → zA 25 q sz a := fun a h => Or.inr (hsz ▸ h)
  have hl : lv_has ls 1 [(0, .ref (ad 6))] := hl
  have hZ : zSz zMRs 25 q ad av t9 sz s := hsz ▸ hN
  refine lv_aload_n hx hb dJ0_length_8abf5_0 rfl (lv_at hl 0 rfl) ?_
  refine vk_getf hx hb (hZ.1.1 6 (by decide)).2.2.1 hS hown (ht _ hw_8_164) (fun _ h => h) dJ0_length_8abf5_1 ?_
  refine va_tlen hx hb (hZ.1.1 6 (by decide)).2.2.2 hS (v := nI 6) rfl dJ0_length_8abf5_4 ?_
  refine lv_aload_n hx hb dJ0_length_8abf5_5 rfl (lv_at hl 0 rfl) ?_
  refine z_cNXi (As := []) (rest := [.int (nI 6)]) hx hb hml hown ht (mk_J0_coder_7d493_2 l D q cA ad av t9 F _ _ _ hI ) hw_2_191 hmJ0_coder_7d493 ⟨rfl, rfl⟩ (na := 0) rfl (by decide +kernel) (by decide) (vk_recv hZ.1 (by decide) hS) hK hP hD hS hA (zSS_c (Rs := zMRs) (t9 := t9) (fun _ _ _ => zMRs_c)) (zSS_w (Rs := zMRs) (t9 := t9) (fun _ _ _ => zMRs_w) hN hsz hS) hl.1 rfl (Nat.le_of_ble_eq_true rfl) ⟨Nat.zero_le _, Nat.zero_le _⟩ dJ0_length_8abf5_6 (fun r_1 I_1 R_1 J_1 H locs hp_1 hP hD hS _ _ => ?_)
  obtain ⟨rfl, hu_1⟩ := hp_1
  cases hu_1
  refine lv_ishr hx hb dJ0_length_8abf5_9 ?_
  refine z_eqi (y := nI 6) (by decide +kernel) ?_
  exact z_iret (v := nI 6) hx hb hr hlocks hP hD hS dJ0_length_8abf5_10 ⟨rfl, rfl⟩
set_option maxHeartbeats 4000000 in
set_option maxRecDepth 100000 in
theorem mk_J0_isLatin1_aae02_2 (l : Launch) (D : va_G) (q : Nat → Nat) (cA : Nat → ClassId) (ad av : Nat → Nat) (t9 : Nat) (F : Nat → Nat → Int32) (I R : Nat → Nat → Int32) (J : Nat → Nat → Int64) (hI : mInv F (I, R, J))  : zNi (zSS zMRs 25 q ad av t9) l D vwCl (zMtys cA) 25 q (zMd q cA) yJ0_isLatin1_aae02 cJ0_isLatin1_aae02 1 (some .boolean) ({ frames := 0, cells := 0, slots := 0, locals := 0 } : Room) [.ref (ad 6)] (I, R, J) (fun r u => (r = nI 1 ∧ u = (I, R, J))) := by
  intro sz
  refine z_bodyN (by decide +kernel) (Nat.le_of_ble_eq_true rfl) (fun p e s m below meth c ls hx hb hml hr ht hown hlocks hsz hK hP hD hS hN hl => ?_)
  have hA : ∀ a, s.heap.size ≤ a → zA 25 q sz a := fun a h => Or.inr (hsz ▸ h)
  have hl : lv_has ls 1 [(0, .ref (ad 6))] := hl
  have hZ : zSz zMRs 25 q ad av t9 sz s := hsz ▸ hN
  refine va_gets hx hb hZ.2.1 hS hown (ht _ hw_2_195) (fun _ h => h) dJ0_isLatin1_aae02_0 ?_
  refine z_eqi (y := nI 1) rfl ?_
  refine lv_if_eq (tgt := 17) hx hb dJ0_isLatin1_aae02_3 (by decide) (fun c_0 => absurd c_0 (zD_ne zk_1 zk_z (by decide))) (fun _ => ?_)
  refine lv_aload_n hx hb dJ0_isLatin1_aae02_6 rfl (lv_at hl 0 rfl) ?_
  refine vk_getf hx hb (hZ.1.1 6 (by decide)).2.1 hS hown (ht _ hw_8_165) (fun _ h => h) dJ0_isLatin1_aae02_7 ?_
  refine z_eqi (y := nI 0) rfl ?_
  refine lv_if_ne (tgt := 17) hx hb dJ0_isLatin1_aae02_10 (by decide) (fun c_0 => absurd (zD_eq zk_0 zk_z) c_0) (fun _ => ?_)
  refine lv_iconst (v := nI 1) hx hb dJ0_isLatin1_aae02_13 (by decide +kernel) ?_
  refine lv_goto (tgt := 18) hx hb dJ0_isLatin1_aae02_14 (by decide) ?_
  exact z_zret (v := nI 1) hx hb hr hlocks hP hD hS (by decide +kernel) dJ0_isLatin1_aae02_18 ⟨rfl, rfl⟩
set_option maxHeartbeats 4000000 in
set_option maxRecDepth 100000 in
theorem mk_J3_checkIndex_8e157_6 (l : Launch) (D : va_G) (q : Nat → Nat) (cA : Nat → ClassId) (ad av : Nat → Nat) (t9 : Nat) (F : Nat → Nat → Int32) (I R : Nat → Nat → Int32) (J : Nat → Nat → Int64) (hI : mInv F (I, R, J)) (pa0 : Int32) (hpa0 : zR 0 5 pa0) : zNi (zSS zMRs 25 q ad av t9) l D vwCl (zMtys cA) 25 q (zMd q cA) yJ3_checkIndex_8e157 cJ3_checkIndex_8e157 3 (some .int) ({ frames := 0, cells := 0, slots := 0, locals := 0 } : Room) [.int (pa0), .int (nI 6), .null] (I, R, J) (fun r u => zR 0 5 r ∧ u = (I, R, J)) := by
  intro sz
  refine z_bodyN (by decide +kernel) (Nat.le_of_ble_eq_true rfl) (fun p e s m below meth c ls hx hb hml hr ht hown hlocks hsz hK hP hD hS hN hl => ?_)
  have hA : ∀ a, s.heap.size ≤ a → zA 25 q sz a := fun a h => Or.inr (hsz ▸ h)
  have hl : lv_has ls 3 [(0, .int (pa0)), (1, .int (nI 6)), (2, .null)] := hl
  have hZ : zSz zMRs 25 q ad av t9 sz s := hsz ▸ hN
  refine lv_iload_n hx hb dJ3_checkIndex_8e157_0 rfl (lv_at hl 0 rfl) ?_
  refine lv_if_lt (tgt := 9) hx hb dJ3_checkIndex_8e157_1 (by decide) (fun c_0 => absurd c_0 (zD_nlt hpa0 zk_z (by decide))) (fun _ => ?_)
  refine lv_iload_n hx hb dJ3_checkIndex_8e157_4 rfl (lv_at hl 0 rfl) ?_
  refine lv_iload_n hx hb dJ3_checkIndex_8e157_5 rfl (lv_at hl 1 rfl) ?_
  refine lv_icmp_lt (tgt := 16) hx hb dJ3_checkIndex_8e157_6 (by decide) (fun _ => ?_) (fun c_0 => absurd (zD_lt hpa0 zk_6 (by decide)) c_0)
  refine lv_iload_n hx hb dJ3_checkIndex_8e157_16 rfl (lv_at hl 0 rfl) ?_
  exact z_iret (v := pa0) hx hb hr hlocks hP hD hS dJ3_checkIndex_8e157_17 ⟨hpa0, rfl⟩
set_option maxHeartbeats 4000000 in
set_option maxRecDepth 100000 in
theorem mk_J3_checkIndex_8e157_7 (l : Launch) (D : va_G) (q : Nat → Nat) (cA : Nat → ClassId) (ad av : Nat → Nat) (t9 : Nat) (F : Nat → Nat → Int32) (I R : Nat → Nat → Int32) (J : Nat → Nat → Int64) (hI : mInv F (I, R, J)) (pa0 : Int32) (hpa0 : zR 0 5 pa0) : zNi (zSS zMRs 25 q ad av t9) l D vwCl (zMtys cA) 25 q (zMd q cA) yJ3_checkIndex_8e157 cJ3_checkIndex_8e157 3 (some .int) ({ frames := 0, cells := 0, slots := 0, locals := 0 } : Room) [.int (pa0), .int (nI 6), .ref (t9)] (I, R, J) (fun r u => zR 0 5 r ∧ u = (I, R, J)) := by
  intro sz
  refine z_bodyN (by decide +kernel) (Nat.le_of_ble_eq_true rfl) (fun p e s m below meth c ls hx hb hml hr ht hown hlocks hsz hK hP hD hS hN hl => ?_)
  have hA : ∀ a, s.heap.size ≤ a → zA 25 q sz a := fun a h => Or.inr (hsz ▸ h)
  have hl : lv_has ls 3 [(0, .int (pa0)), (1, .int (nI 6)), (2, .ref (t9))] := hl
  have hZ : zSz zMRs 25 q ad av t9 sz s := hsz ▸ hN
  refine lv_iload_n hx hb dJ3_checkIndex_8e157_0 rfl (lv_at hl 0 rfl) ?_
  refine lv_if_lt (tgt := 9) hx hb dJ3_checkIndex_8e157_1 (by decide) (fun c_0 => absurd c_0 (zD_nlt hpa0 zk_z (by decide))) (fun _ => ?_)
  refine lv_iload_n hx hb dJ3_checkIndex_8e157_4 rfl (lv_at hl 0 rfl) ?_
  refine lv_iload_n hx hb dJ3_checkIndex_8e157_5 rfl (lv_at hl 1 rfl) ?_
  refine lv_icmp_lt (tgt := 16) hx hb dJ3_checkIndex_8e157_6 (by decide) (fun _ => ?_) (fun c_0 => absurd (zD_lt hpa0 zk_6 (by decide)) c_0)
  refine lv_iload_n hx hb dJ3_checkIndex_8e157_16 rfl (lv_at hl 0 rfl) ?_
  exact z_iret (v := pa0) hx hb hr hlocks hP hD hS dJ3_checkIndex_8e157_17 ⟨hpa0, rfl⟩
set_option maxHeartbeats 4000000 in
set_option maxRecDepth 100000 in
theorem mk_J0_checkIndex_df160_3 (l : Launch) (D : va_G) (q : Nat → Nat) (cA : Nat → ClassId) (ad av : Nat → Nat) (t9 : Nat) (F : Nat → Nat → Int32) (I R : Nat → Nat → Int32) (J : Nat → Nat → Int64) (hI : mInv F (I, R, J)) (pa0 : Int32) (hpa0 : zR 0 5 pa0) : zNv (zSS zMRs 25 q ad av t9) l D vwCl (zMtys cA) 25 q (zMd q cA) yJ0_checkIndex_df160 cJ0_checkIndex_df160 2 none ({ frames := 1, cells := 0, slots := 0, locals := 22 } : Room) [.int (pa0), .int (nI 6)] (I, R, J) (fun u => u = (I, R, J)) := by
  intro sz
  refine z_bodyN (by decide +kernel) (Nat.le_of_ble_eq_true rfl) (fun p e s m below meth c ls hx hb hml hr ht hown hlocks hsz hK hP hD hS hN hl => ?_)
  have hA : ∀ a, s.heap.size ≤ a → zA 25 q sz a := fun a h => Or.inr (hsz ▸ h)
  have hl : lv_has ls 2 [(0, .int (pa0)), (1, .int (nI 6))] := hl
  have hZ : zSz zMRs 25 q ad av t9 sz s := hsz ▸ hN
  refine lv_iload_n hx hb dJ0_checkIndex_df160_0 rfl (lv_at hl 0 rfl) ?_
  refine lv_iload_n hx hb dJ0_checkIndex_df160_1 rfl (lv_at hl 1 rfl) ?_
  rcases hZ.2.2.1 with hz9 | ⟨t9, hz9⟩
  · refine va_gets hx hb hz9 hS hown (ht _ hw_2_211) (fun _ h => h) dJ0_checkIndex_df160_2 ?_
    refine z_cNSi (As := [.int (pa0), .int (nI 6), .null]) (rest := []) hx hb hml hown ht (mk_J3_checkIndex_8e157_6 l D q cA ad av t9 F _ _ _ hI (pa0) hpa0) hw_2_213 hmJ3_checkIndex_8e157 ⟨rfl, rfl⟩ (na := 3) rfl (by decide +kernel) (by decide) hK hP hD hS hA (zSS_c (Rs := zMRs) (t9 := t9) (fun _ _ _ => zMRs_c)) (zSS_w (Rs := zMRs) (t9 := t9) (fun _ _ _ => zMRs_w) hN hsz hS) hl.1 rfl (Nat.le_of_ble_eq_true rfl) ⟨Nat.zero_le _, Nat.zero_le _⟩ dJ0_checkIndex_df160_5 (fun r_1 I_1 R_1 J_1 H locs hp_1 hP hD hS _ _ => ?_)
    obtain ⟨hr_1, hu_1⟩ := hp_1
    cases hu_1
    refine lv_pop hx hb dJ0_checkIndex_df160_8 rfl ?_
    exact z_vret hx hb hr hlocks hP hD hS dJ0_checkIndex_df160_9 rfl
  · refine va_gets hx hb hz9 hS hown (ht _ hw_2_211) (fun _ h => h) dJ0_checkIndex_df160_2 ?_
    refine z_cNSi (As := [.int (pa0), .int (nI 6), .ref (t9)]) (rest := []) hx hb hml hown ht (mk_J3_checkIndex_8e157_7 l D q cA ad av t9 F _ _ _ hI (pa0) hpa0) hw_2_213 hmJ3_checkIndex_8e157 ⟨rfl, rfl⟩ (na := 3) rfl (by decide +kernel) (by decide) hK hP hD hS hA (zSS_c (Rs := zMRs) (t9 := t9) (fun _ _ _ => zMRs_c)) (zSS_w (Rs := zMRs) (t9 := t9) (fun _ _ _ => zMRs_w) hN hsz hS) hl.1 rfl (Nat.le_of_ble_eq_true rfl) ⟨Nat.zero_le _, Nat.zero_le _⟩ dJ0_checkIndex_df160_5 (fun r_2 I_2 R_2 J_2 H locs hp_2 hP hD hS _ _ => ?_)
    obtain ⟨hr_2, hu_2⟩ := hp_2
    cases hu_2
    refine lv_pop hx hb dJ0_checkIndex_df160_8 rfl ?_
    exact z_vret hx hb hr hlocks hP hD hS dJ0_checkIndex_df160_9 rfl
set_option maxHeartbeats 4000000 in
set_option maxRecDepth 100000 in
theorem mk_J1_charAt_3b067_5 (l : Launch) (D : va_G) (q : Nat → Nat) (cA : Nat → ClassId) (ad av : Nat → Nat) (t9 : Nat) (F : Nat → Nat → Int32) (I R : Nat → Nat → Int32) (J : Nat → Nat → Int64) (hI : mInv F (I, R, J)) (pa1 : Int32) (hpa1 : zR 0 5 pa1) : zNi (zSS zMRs 25 q ad av t9) l D vwCl (zMtys cA) 25 q (zMd q cA) yJ1_charAt_3b067 cJ1_charAt_3b067 2 (some .char) ({ frames := 2, cells := 0, slots := 0, locals := 43 } : Room) [.ref (av 6), .int (pa1)] (I, R, J) (fun r u => (r = zch 6 (pa1).toNatClampNeg ∧ zR 0 65535 r) ∧ u = (I, R, J)) := by
  intro sz
  refine z_bodyN (by decide +kernel) (Nat.le_of_ble_eq_true rfl) (fun p e s m below meth c ls hx hb hml hr ht hown hlocks hsz hK hP hD hS hN hl => ?_)
  have hA : ∀ a, s.heap.size ≤ a → zA 25 q sz a := fun a h => Or.inr (hsz ▸ h)
  have hl : lv_has ls 2 [(0, .ref (av 6)), (1, .int (pa1))] := hl
  have hZ : zSz zMRs 25 q ad av t9 sz s := hsz ▸ hN
  refine lv_iload_n hx hb dJ1_charAt_3b067_0 rfl (lv_at hl 1 rfl) ?_
  refine lv_aload_n hx hb dJ1_charAt_3b067_1 rfl (lv_at hl 0 rfl) ?_
  refine va_tlen hx hb (hZ.1.1 6 (by decide)).2.2.2 hS (v := nI 6) rfl dJ1_charAt_3b067_2 ?_
  refine z_cNSv (As := [.int (pa1), .int (nI 6)]) (rest := []) hx hb hml hown ht (mk_J0_checkIndex_df160_3 l D q cA ad av t9 F _ _ _ hI (pa1) hpa1) hw_2_208 hmJ0_checkIndex_df160 ⟨rfl, rfl⟩ (na := 2) rfl (by decide +kernel) (by decide) hK hP hD hS hA (zSS_c (Rs := zMRs) (t9 := t9) (fun _ _ _ => zMRs_c)) (zSS_w (Rs := zMRs) (t9 := t9) (fun _ _ _ => zMRs_w) hN hsz hS) hl.1 rfl (Nat.le_of_ble_eq_true rfl) ⟨Nat.zero_le _, Nat.zero_le _⟩ dJ1_charAt_3b067_3 (fun I_1 R_1 J_1 H locs hp_1 hP hD hS _ _ => ?_)
  cases hp_1
  refine lv_aload_n hx hb dJ1_charAt_3b067_6 rfl (lv_at hl 0 rfl) ?_
  refine lv_iload_n hx hb dJ1_charAt_3b067_7 rfl (lv_at hl 1 rfl) ?_
  refine va_tb hx hb (hZ.1.1 6 (by decide)).2.2.2 hS (zR_vin hpa1 (by decide)) (v := .int ((zByt.getD 6 []).getD (pa1).toNatClampNeg 0)) rfl dJ1_charAt_3b067_8 ?_
  refine lv_sipush (v := nI 255) hx hb dJ1_charAt_3b067_9 (by decide +kernel) ?_
  refine lv_iand hx hb dJ1_charAt_3b067_12 ?_
  refine lv_i2c (v := ((((zByt.getD 6 []).getD (pa1).toNatClampNeg 0) &&& (nI 255)).toUInt32 % 65536).toInt32) hx hb dJ1_charAt_3b067_13 rfl ?_
  exact z_zret (v := ((((zByt.getD 6 []).getD (pa1).toNatClampNeg 0) &&& (nI 255)).toUInt32 % 65536).toInt32) hx hb hr hlocks hP hD hS (zR_char (zR_i2c _)) dJ1_charAt_3b067_14 ⟨⟨rfl, (zR_i2c _)⟩, rfl⟩
set_option maxHeartbeats 4000000 in
set_option maxRecDepth 100000 in
theorem mk_J0_charAt_5068e_5 (l : Launch) (D : va_G) (q : Nat → Nat) (cA : Nat → ClassId) (ad av : Nat → Nat) (t9 : Nat) (F : Nat → Nat → Int32) (I R : Nat → Nat → Int32) (J : Nat → Nat → Int64) (hI : mInv F (I, R, J)) (pa0 : Int32) (hpa0 : zR 0 5 pa0) : zNi (zSS zMRs 25 q ad av t9) l D vwCl (zMtys cA) 25 q (zMd q cA) yJ0_charAt_5068e cJ0_charAt_5068e 2 (some .char) ({ frames := 3, cells := 0, slots := 0, locals := 64 } : Room) [.ref (ad 6), .int (pa0)] (I, R, J) (fun r u => (r = zch 6 (pa0).toNatClampNeg ∧ zR 0 65535 r) ∧ u = (I, R, J)) := by
  intro sz
  refine z_bodyN (by decide +kernel) (Nat.le_of_ble_eq_true rfl) (fun p e s m below meth c ls hx hb hml hr ht hown hlocks hsz hK hP hD hS hN hl => ?_)
  have hA : ∀ a, s.heap.size ≤ a → zA 25 q sz a := fun a h => Or.inr (hsz ▸ h)
  have hl : lv_has ls 2 [(0, .ref (ad 6)), (1, .int (pa0))] := hl
  have hZ : zSz zMRs 25 q ad av t9 sz s := hsz ▸ hN
  refine lv_aload_n hx hb dJ0_charAt_5068e_0 rfl (lv_at hl 0 rfl) ?_
  refine z_cNXi (As := []) (rest := []) hx hb hml hown ht (mk_J0_isLatin1_aae02_2 l D q cA ad av t9 F _ _ _ hI ) hw_2_201 hmJ0_isLatin1_aae02 ⟨rfl, rfl⟩ (na := 0) rfl (by decide +kernel) (by decide) (vk_recv hZ.1 (by decide) hS) hK hP hD hS hA (zSS_c (Rs := zMRs) (t9 := t9) (fun _ _ _ => zMRs_c)) (zSS_w (Rs := zMRs) (t9 := t9) (fun _ _ _ => zMRs_w) hN hsz hS) hl.1 rfl (Nat.le_of_ble_eq_true rfl) ⟨Nat.zero_le _, Nat.zero_le _⟩ dJ0_charAt_5068e_1 (fun r_1 I_1 R_1 J_1 H locs hp_1 hP hD hS _ _ => ?_)
  obtain ⟨rfl, hu_1⟩ := hp_1
  cases hu_1
  refine lv_if_eq (tgt := 16) hx hb dJ0_charAt_5068e_4 (by decide) (fun c_0 => absurd c_0 (zD_ne zk_1 zk_z (by decide))) (fun _ => ?_)
  refine lv_aload_n hx hb dJ0_charAt_5068e_7 rfl (lv_at hl 0 rfl) ?_
  refine vk_getf hx hb (hZ.1.1 6 (by decide)).2.2.1 hS hown (ht _ hw_8_164) (fun _ h => h) dJ0_charAt_5068e_8 ?_
  refine lv_iload_n hx hb dJ0_charAt_5068e_11 rfl (lv_at hl 1 rfl) ?_
  refine z_cNSi (As := [.ref (av 6), .int (pa0)]) (rest := []) hx hb hml hown ht (mk_J1_charAt_3b067_5 l D q cA ad av t9 F _ _ _ hI (pa0) hpa0) hw_2_205 hmJ1_charAt_3b067 ⟨rfl, rfl⟩ (na := 2) rfl (by decide +kernel) (by decide) hK hP hD hS hA (zSS_c (Rs := zMRs) (t9 := t9) (fun _ _ _ => zMRs_c)) (zSS_w (Rs := zMRs) (t9 := t9) (fun _ _ _ => zMRs_w) hN hsz hS) hl.1 rfl (Nat.le_of_ble_eq_true rfl) ⟨Nat.zero_le _, Nat.zero_le _⟩ dJ0_charAt_5068e_12 (fun r_2 I_2 R_2 J_2 H locs hp_2 hP hD hS _ _ => ?_)
  obtain ⟨⟨rfl, hr_2⟩, hu_2⟩ := hp_2
  cases hu_2
  exact z_zret (v := zch 6 (pa0).toNatClampNeg) hx hb hr hlocks hP hD hS (zR_char hr_2) dJ0_charAt_5068e_15 ⟨⟨rfl, hr_2⟩, rfl⟩
set_option maxHeartbeats 4000000 in
set_option maxRecDepth 100000 in
theorem mk_X11_is_2 (l : Launch) (D : va_G) (q : Nat → Nat) (cA : Nat → ClassId) (ad av : Nat → Nat) (t9 : Nat) (F : Nat → Nat → Int32) (I R : Nat → Nat → Int32) (J : Nat → Nat → Int64) (hI : mInv F (I, R, J))  : zNi (zSS zMRs 25 q ad av t9) l D vwCl (zMtys cA) 25 q (zMd q cA) yX11_is cX11_is 4 (some .boolean) ({ frames := 4, cells := 0, slots := 0, locals := 85 } : Room) [.ref (q 0), .ref (ad 6)] (I, R, J) (fun r u => (r = nI 1 ∧ u = (I, R, J) ∧ mIs 6 I R) ∨ (r = nI 0 ∧ u = (I, R, J) ∧ ¬ mIs 6 I R)) := by
  intro sz
  refine z_bodyN (by decide +kernel) (Nat.le_of_ble_eq_true rfl) (fun p e s m below meth c ls hx hb hml hr ht hown hlocks hsz hK hP hD hS hN hl => ?_)
  have hA : ∀ a, s.heap.size ≤ a → zA 25 q sz a := fun a h => Or.inr (hsz ▸ h)
  have hl : lv_has ls 4 [(0, .ref (q 0)), (1, .ref (ad 6))] := hl
  have hZ : zSz zMRs 25 q ad av t9 sz s := hsz ▸ hN
  refine lv_aload_n hx hb dX11_is_0 rfl (lv_at hl 0 rfl) ?_
  refine z_callVi (k := 0) (As := []) (rest := []) hx hb hml hown ht (mk_X11_good l D q cA F _ _ _ hI ) hw_6_123 hmX11_good ⟨rfl, rfl⟩ (na := 0) rfl (by decide +kernel) (by decide) (by decide) rfl rfl hK hP hD hS hA hl.1 rfl (Nat.le_of_ble_eq_true rfl) ⟨Nat.zero_le _, Nat.zero_le _⟩ dX11_is_1 (fun r_1 I_1 R_1 J_1 H locs hp_1 hP hD hS _ _ => ?_)
  rcases hp_1 with ⟨rfl, hu_1, nn_1⟩ | ⟨rfl, hu_1, nn_1⟩
  · cases hu_1
    refine lv_if_eq (tgt := 35) hx hb dX11_is_4 (by decide) (fun c_0 => absurd c_0 (zD_ne zk_1 zk_z (by decide))) (fun _ => ?_)
    refine lv_aload_n hx hb dX11_is_7 rfl (lv_at hl 0 rfl) ?_
    refine z_get hx hb ht hown hK hP ziX11 rfl 0 (by decide) 10 (by decide) hw_5_197 rfl (v := .int (I 0 10)) rfl dX11_is_8 ?_
    refine lv_iconst (v := nI 1) hx hb dX11_is_11 (by decide +kernel) ?_
    refine lv_icmp_ne (tgt := 35) hx hb dX11_is_12 (by decide) (fun c_2 => ?_) (fun c_2 => ?_)
    · have t_c_2 := z_eqF c_2
      refine lv_iconst (v := nI 0) hx hb dX11_is_35 (by decide +kernel) ?_
      refine lv_istore_n (lv' := [(2, .int (nI 0)), (0, .ref (q 0)), (1, .ref (ad 6))]) hx hb dX11_is_36 rfl hl (by decide) rfl (fun ls hl => ?_)
      refine lv_iconst (v := nI 0) hx hb dX11_is_37 (by decide +kernel) ?_
      refine lv_istore_n (lv' := [(3, .int (nI 0)), (2, .int (nI 0)), (0, .ref (q 0)), (1, .ref (ad 6))]) hx hb dX11_is_38 rfl hl (by decide) rfl (fun ls hl => ?_)
      refine lv_iload_n hx hb dX11_is_39 rfl (lv_at hl 0 rfl) ?_
      refine lv_aload_n hx hb dX11_is_40 rfl (lv_at hl 3 rfl) ?_
      refine z_cNXi (As := []) (rest := [.int (nI 0)]) hx hb hml hown ht (mk_J0_length_8abf5_2 l D q cA ad av t9 F _ _ _ hI ) hw_6_144 hmJ0_length_8abf5 ⟨rfl, rfl⟩ (na := 0) rfl (by decide +kernel) (by decide) (vk_recv hZ.1 (by decide) hS) hK hP hD hS hA (zSS_c (Rs := zMRs) (t9 := t9) (fun _ _ _ => zMRs_c)) (zSS_w (Rs := zMRs) (t9 := t9) (fun _ _ _ => zMRs_w) hN hsz hS) hl.1 rfl (Nat.le_of_ble_eq_true rfl) ⟨Nat.zero_le _, Nat.zero_le _⟩ dX11_is_41 (fun r_5 I_5 R_5 J_5 H locs hp_5 hP hD hS _ _ => ?_)
      obtain ⟨rfl, hu_5⟩ := hp_5
      cases hu_5
      refine lv_icmp_ge (tgt := 82) hx hb dX11_is_44 (by decide) (fun c_0 => absurd c_0 (zD_nle zk_6 zk_0 (by decide))) (fun _ => ?_)
      refine lv_iload_n hx hb dX11_is_47 rfl (lv_at hl 1 rfl) ?_
      refine lv_if_eq (tgt := 82) hx hb dX11_is_48 (by decide) (fun _ => ?_) (fun c_0 => absurd (zD_eq zk_0 zk_z) c_0)
      refine lv_iload_n hx hb dX11_is_82 rfl (lv_at hl 1 rfl) ?_
      exact z_zret (v := nI 0) hx hb hr hlocks hP hD hS (by decide +kernel) dX11_is_83 (Or.inr ⟨rfl, rfl, (mIs_n2 t_c_2)⟩)
    · have t_c_2 := z_eqT c_2
      have f_6 : zR 1 1 (I 0 10) := zR_eqx t_c_2 zk_1
      refine lv_aload_n hx hb dX11_is_15 rfl (lv_at hl 0 rfl) ?_
      refine z_get hx hb ht hown hK hP ziX11 rfl 0 (by decide) 8 (by decide) hw_5_195 rfl (v := .int (I 0 8)) rfl dX11_is_16 ?_
      have f_7 : zR 0 800 (I 0 8) := mI hI 0 8
      refine lv_aload_n hx hb dX11_is_19 rfl (lv_at hl 0 rfl) ?_
      refine z_get hx hb ht hown hK hP ziX11 rfl 0 (by decide) 9 (by decide) hw_5_196 rfl (v := .int (I 0 9)) rfl dX11_is_20 ?_
      have f_8 : zR 0 800 (I 0 9) := mI hI 0 9
      refine lv_isub hx hb dX11_is_23 ?_
      refine lv_topi (fun v_9 ev_9 => ?_)
      have hv_9 : zR (-800) 800 v_9 := ev_9 ▸ zR_sub f_7 f_8 (by decide)
      refine lv_aload_n hx hb dX11_is_24 rfl (lv_at hl 1 rfl) ?_
      refine z_cNXi (As := []) (rest := [.int (v_9)]) hx hb hml hown ht (mk_J0_length_8abf5_2 l D q cA ad av t9 F _ _ _ hI ) hw_6_144 hmJ0_length_8abf5 ⟨rfl, rfl⟩ (na := 0) rfl (by decide +kernel) (by decide) (vk_recv hZ.1 (by decide) hS) hK hP hD hS hA (zSS_c (Rs := zMRs) (t9 := t9) (fun _ _ _ => zMRs_c)) (zSS_w (Rs := zMRs) (t9 := t9) (fun _ _ _ => zMRs_w) hN hsz hS) hl.1 rfl (Nat.le_of_ble_eq_true rfl) ⟨Nat.zero_le _, Nat.zero_le _⟩ dX11_is_25 (fun r_10 I_10 R_10 J_10 H locs hp_10 hP hD hS _ _ => ?_)
      obtain ⟨rfl, hu_10⟩ := hp_10
      cases hu_10
      refine lv_icmp_ne (tgt := 35) hx hb dX11_is_28 (by decide) (fun c_11 => ?_) (fun c_11 => ?_)
      · have t_c_11 := z_eqF c_11
        refine lv_iconst (v := nI 0) hx hb dX11_is_35 (by decide +kernel) ?_
        refine lv_istore_n (lv' := [(2, .int (nI 0)), (0, .ref (q 0)), (1, .ref (ad 6))]) hx hb dX11_is_36 rfl hl (by decide) rfl (fun ls hl => ?_)
        refine lv_iconst (v := nI 0) hx hb dX11_is_37 (by decide +kernel) ?_
        refine lv_istore_n (lv' := [(3, .int (nI 0)), (2, .int (nI 0)), (0, .ref (q 0)), (1, .ref (ad 6))]) hx hb dX11_is_38 rfl hl (by decide) rfl (fun ls hl => ?_)
        refine lv_iload_n hx hb dX11_is_39 rfl (lv_at hl 0 rfl) ?_
        refine lv_aload_n hx hb dX11_is_40 rfl (lv_at hl 3 rfl) ?_
        refine z_cNXi (As := []) (rest := [.int (nI 0)]) hx hb hml hown ht (mk_J0_length_8abf5_2 l D q cA ad av t9 F _ _ _ hI ) hw_6_144 hmJ0_length_8abf5 ⟨rfl, rfl⟩ (na := 0) rfl (by decide +kernel) (by decide) (vk_recv hZ.1 (by decide) hS) hK hP hD hS hA (zSS_c (Rs := zMRs) (t9 := t9) (fun _ _ _ => zMRs_c)) (zSS_w (Rs := zMRs) (t9 := t9) (fun _ _ _ => zMRs_w) hN hsz hS) hl.1 rfl (Nat.le_of_ble_eq_true rfl) ⟨Nat.zero_le _, Nat.zero_le _⟩ dX11_is_41 (fun r_14 I_14 R_14 J_14 H locs hp_14 hP hD hS _ _ => ?_)
        obtain ⟨rfl, hu_14⟩ := hp_14
        cases hu_14
        refine lv_icmp_ge (tgt := 82) hx hb dX11_is_44 (by decide) (fun c_0 => absurd c_0 (zD_nle zk_6 zk_0 (by decide))) (fun _ => ?_)
        refine lv_iload_n hx hb dX11_is_47 rfl (lv_at hl 1 rfl) ?_
        refine lv_if_eq (tgt := 82) hx hb dX11_is_48 (by decide) (fun _ => ?_) (fun c_0 => absurd (zD_eq zk_0 zk_z) c_0)
        refine lv_iload_n hx hb dX11_is_82 rfl (lv_at hl 1 rfl) ?_
        exact z_zret (v := nI 0) hx hb hr hlocks hP hD hS (by decide +kernel) dX11_is_83 (Or.inr ⟨rfl, rfl, (mIs_n3 ev_9 t_c_11)⟩)
      · have t_c_11 := z_eqT c_11
        have f_15 : zR 6 6 (v_9) := zR_eqx t_c_11 zk_6
        have f_16 : zR 0 794 (I 0 9) := z_start f_7 f_8 ev_9 f_15 (by decide)
        refine lv_iconst (v := nI 1) hx hb dX11_is_31 (by decide +kernel) ?_
        refine lv_goto (tgt := 36) hx hb dX11_is_32 (by decide) ?_
        refine lv_istore_n (lv' := [(2, .int (nI 1)), (0, .ref (q 0)), (1, .ref (ad 6))]) hx hb dX11_is_36 rfl hl (by decide) rfl (fun ls hl => ?_)
        refine lv_iconst (v := nI 0) hx hb dX11_is_37 (by decide +kernel) ?_
        refine lv_istore_n (lv' := [(3, .int (nI 0)), (2, .int (nI 1)), (0, .ref (q 0)), (1, .ref (ad 6))]) hx hb dX11_is_38 rfl hl (by decide) rfl (fun ls hl => ?_)
        have loop_71 : ∀ N : Nat, ∀ x_68 : Int32, zR 0 1 x_68 → ∀ x_69 : Int32, zR 0 6 x_69 → (mIsL 6 I R (x_69) (x_68)) → (2147483648 - (x_69).toInt).toNat < N → ∀ (H : Heap) (locs : List Loc), va_P D vwCl (zw 25 q (zMd q cA) I R J) H → va_D (zA 25 q sz) (zw 25 q (zMd q cA) I R J) → va_S (zA 25 q sz) s.heap H locs → ∀ ls : Array Slot, lv_has ls 4 [(0, .ref (q 0)), (1, .ref (ad 6)), (2, .int (x_68)), (3, .int (x_69))] → W p l e ({ frames := 4, cells := 0, slots := 0, locals := 85 } : Room) s m ([.ref (q 0), .ref (ad 6)] : List Value).toArray below meth c H locs 0 0 (MQ below (va_Qi (fun r u => (r = nI 1 ∧ u = (I, R, J) ∧ mIs 6 I R) ∨ (r = nI 0 ∧ u = (I, R, J) ∧ ¬ mIs 6 I R)) (zB D vwCl 25 q (zMd q cA) sz) (zA 25 q sz)) ([.ref (q 0), .ref (ad 6)] : List Value).toArray s 0 0 (zA 25 q sz)) (F0 m 39 ls []) := by
          intro N
          induction N with
          | zero => intro x_68 hx_68 x_69 hx_69 hx_70 hN; exact absurd hN (Nat.not_lt_zero _)
          | succ N ih_73 =>
            intro x_68 hx_68 x_69 hx_69 hx_70 hN_72 H locs hP hD hS ls hl
            refine lv_iload_n hx hb dX11_is_39 rfl (lv_at hl 3 rfl) ?_
            refine lv_aload_n hx hb dX11_is_40 rfl (lv_at hl 1 rfl) ?_
            refine z_cNXi (As := []) (rest := [.int (x_69)]) hx hb hml hown ht (mk_J0_length_8abf5_2 l D q cA ad av t9 F _ _ _ hI ) hw_6_144 hmJ0_length_8abf5 ⟨rfl, rfl⟩ (na := 0) rfl (by decide +kernel) (by decide) (vk_recv hZ.1 (by decide) hS) hK hP hD hS hA (zSS_c (Rs := zMRs) (t9 := t9) (fun _ _ _ => zMRs_c)) (zSS_w (Rs := zMRs) (t9 := t9) (fun _ _ _ => zMRs_w) hN hsz hS) hl.1 rfl (Nat.le_of_ble_eq_true rfl) ⟨Nat.zero_le _, Nat.zero_le _⟩ dX11_is_41 (fun r_74 I_74 R_74 J_74 H locs hp_74 hP hD hS _ _ => ?_)
            obtain ⟨rfl, hu_74⟩ := hp_74
            cases hu_74
            refine lv_icmp_ge (tgt := 82) hx hb dX11_is_44 (by decide) (fun c_75 => ?_) (fun c_75 => ?_)
            · have t_c_75 := z_leT c_75
              have f_76 : zR 6 6 (x_69) := zR_ley t_c_75 zk_6 hx_69 (by decide)
              refine lv_iload_n hx hb dX11_is_82 rfl (lv_at hl 2 rfl) ?_
              exact z_zret (v := x_68) hx hb hr hlocks hP hD hS (zR_bool (a := 0) (b := 1) hx_68 (by decide)).1 dX11_is_83 (mIs_r1 hx_70 hx_68 t_c_75)
            · have t_c_75 := z_leF c_75
              have f_77 : zR 0 5 (x_69) := zR_ltx t_c_75 hx_69 zk_6 (by decide)
              refine lv_iload_n hx hb dX11_is_47 rfl (lv_at hl 2 rfl) ?_
              refine lv_if_eq (tgt := 82) hx hb dX11_is_48 (by decide) (fun c_78 => ?_) (fun c_78 => ?_)
              · have t_c_78 := z_eqT c_78
                have f_79 : zR 0 0 (x_68) := zR_eqx t_c_78 zk_z
                refine lv_iload_n hx hb dX11_is_82 rfl (lv_at hl 2 rfl) ?_
                exact z_zret (v := x_68) hx hb hr hlocks hP hD hS (zR_bool (a := 0) (b := 1) (zR_w f_79 (by decide)) (by decide)).1 dX11_is_83 (mIs_r0 hx_70 f_79)
              · have t_c_78 := z_eqF c_78
                have f_80 : zR 1 1 (x_68) := zR_nex t_c_78 hx_68 zk_z (by decide)
                refine lv_aload_n hx hb dX11_is_51 rfl (lv_at hl 0 rfl) ?_
                refine z_get hx hb ht hown hK hP ziX11 rfl 0 (by decide) 4 (by decide) hw_5_191 rfl (v := .ref (q 4)) rfl dX11_is_52 ?_
                refine lv_aload_n hx hb dX11_is_55 rfl (lv_at hl 0 rfl) ?_
                refine z_get hx hb ht hown hK hP ziX11 rfl 0 (by decide) 9 (by decide) hw_5_196 rfl (v := .int (I 0 9)) rfl dX11_is_56 ?_
                refine lv_iload_n hx hb dX11_is_59 rfl (lv_at hl 3 rfl) ?_
                refine lv_iadd hx hb dX11_is_60 ?_
                refine lv_topi (fun v_81 ev_81 => ?_)
                have hv_81 : zR 0 799 v_81 := ev_81 ▸ zR_add f_16 f_77 (by decide)
                refine z_bald hx hb hK hP 4 (by decide) 3 rfl rfl (zR_vin hv_81 (by decide)) dX11_is_61 ?_
                refine z_eqi (y := R 4 (v_81).toNatClampNeg) rfl ?_
                refine lv_aload_n hx hb dX11_is_62 rfl (lv_at hl 1 rfl) ?_
                refine lv_iload_n hx hb dX11_is_63 rfl (lv_at hl 3 rfl) ?_
                refine z_cNXi (As := [.int (x_69)]) (rest := [.int (R 4 (v_81).toNatClampNeg)]) hx hb hml hown ht (mk_J0_charAt_5068e_5 l D q cA ad av t9 F _ _ _ hI (x_69) f_77) hw_6_145 hmJ0_charAt_5068e ⟨rfl, rfl⟩ (na := 1) rfl (by decide +kernel) (by decide) (vk_recv hZ.1 (by decide) hS) hK hP hD hS hA (zSS_c (Rs := zMRs) (t9 := t9) (fun _ _ _ => zMRs_c)) (zSS_w (Rs := zMRs) (t9 := t9) (fun _ _ _ => zMRs_w) hN hsz hS) hl.1 rfl (Nat.le_of_ble_eq_true rfl) ⟨Nat.zero_le _, Nat.zero_le _⟩ dX11_is_64 (fun r_82 I_82 R_82 J_82 H locs hp_82 hP hD hS _ _ => ?_)
                obtain ⟨⟨rfl, hr_82⟩, hu_82⟩ := hp_82
                cases hu_82
                refine lv_icmp_ne (tgt := 74) hx hb dX11_is_67 (by decide) (fun c_83 => ?_) (fun c_83 => ?_)
                · have t_c_83 := z_eqF c_83
                  refine lv_iconst (v := nI 0) hx hb dX11_is_74 (by decide +kernel) ?_
                  refine lv_istore_n (lv' := [(2, .int (nI 0)), (0, .ref (q 0)), (1, .ref (ad 6)), (3, .int (x_69))]) hx hb dX11_is_75 rfl hl (by decide) rfl (fun ls hl => ?_)
                  obtain ⟨v_84, ev_84⟩ : ∃ y : Int32, y = x_69 + nI 1 := ⟨_, rfl⟩
                  have hv_84 : zR 1 6 v_84 := ev_84 ▸ zR_add f_77 zk_1 (by decide)
                  have mv_84 : v_84.toInt = (x_69).toInt + 1 := by rw [ev_84, zR_addE f_77 zk_1 (by decide)]; rfl
                  refine lv_iinc (v := v_84) (lv' := [(3, .int (v_84)), (2, .int (nI 0)), (0, .ref (q 0)), (1, .ref (ad 6))]) hx hb dX11_is_76 hl (k := 3) rfl (ev_84 ▸ rfl) (by decide) rfl (fun ls hl => ?_)
                  refine lv_goto (tgt := 39) hx hb dX11_is_79 (by decide) ?_
                  exact ih_73 (nI 0) (zR_w zk_0 (by decide)) (v_84) (zR_w hv_84 (by decide)) (mIsL_n hx_70 f_80 t_c_75 t_c_83 (mIs_ix (zR_w f_16 (by decide)) (zR_w f_77 (by decide)) ev_81)) (z2_up mv_84 (by decide) hN_72) _ _ hP hD hS _ (lv_sub hl [2, 3, 1, 0] rfl)
                · have t_c_83 := z_eqT c_83
                  have f_85 : zR 0 65535 (R 4 (v_81).toNatClampNeg) := zR_eqx t_c_83 hr_82
                  refine lv_iconst (v := nI 1) hx hb dX11_is_70 (by decide +kernel) ?_
                  refine lv_goto (tgt := 75) hx hb dX11_is_71 (by decide) ?_
                  refine lv_istore_n (lv' := [(2, .int (nI 1)), (0, .ref (q 0)), (1, .ref (ad 6)), (3, .int (x_69))]) hx hb dX11_is_75 rfl hl (by decide) rfl (fun ls hl => ?_)
                  obtain ⟨v_86, ev_86⟩ : ∃ y : Int32, y = x_69 + nI 1 := ⟨_, rfl⟩
                  have hv_86 : zR 1 6 v_86 := ev_86 ▸ zR_add f_77 zk_1 (by decide)
                  have mv_86 : v_86.toInt = (x_69).toInt + 1 := by rw [ev_86, zR_addE f_77 zk_1 (by decide)]; rfl
                  refine lv_iinc (v := v_86) (lv' := [(3, .int (v_86)), (2, .int (nI 1)), (0, .ref (q 0)), (1, .ref (ad 6))]) hx hb dX11_is_76 hl (k := 3) rfl (ev_86 ▸ rfl) (by decide) rfl (fun ls hl => ?_)
                  refine lv_goto (tgt := 39) hx hb dX11_is_79 (by decide) ?_
                  exact ih_73 (nI 1) (zR_w zk_1 (by decide)) (v_86) (zR_w hv_86 (by decide)) (mIsL_1 hx_70 f_80 mv_86 t_c_83 (mIs_ix (zR_w f_16 (by decide)) (zR_w f_77 (by decide)) ev_81)) (z2_up mv_86 (by decide) hN_72) _ _ hP hD hS _ (lv_sub hl [2, 3, 1, 0] rfl)
        exact loop_71 _ (nI 1) (zR_w zk_1 (by decide)) (nI 0) (zR_w zk_0 (by decide)) (mIsL_0 (mIs_a3 nn_1 t_c_2 ev_9 f_15)) (Nat.lt_succ_self _) _ _ hP hD hS _ (lv_sub hl [2, 3, 1, 0] rfl)
  · cases hu_1
    refine lv_if_eq (tgt := 35) hx hb dX11_is_4 (by decide) (fun _ => ?_) (fun c_0 => absurd (zD_eq zk_0 zk_z) c_0)
    refine lv_iconst (v := nI 0) hx hb dX11_is_35 (by decide +kernel) ?_
    refine lv_istore_n (lv' := [(2, .int (nI 0)), (0, .ref (q 0)), (1, .ref (ad 6))]) hx hb dX11_is_36 rfl hl (by decide) rfl (fun ls hl => ?_)
    refine lv_iconst (v := nI 0) hx hb dX11_is_37 (by decide +kernel) ?_
    refine lv_istore_n (lv' := [(3, .int (nI 0)), (2, .int (nI 0)), (0, .ref (q 0)), (1, .ref (ad 6))]) hx hb dX11_is_38 rfl hl (by decide) rfl (fun ls hl => ?_)
    refine lv_iload_n hx hb dX11_is_39 rfl (lv_at hl 0 rfl) ?_
    refine lv_aload_n hx hb dX11_is_40 rfl (lv_at hl 3 rfl) ?_
    refine z_cNXi (As := []) (rest := [.int (nI 0)]) hx hb hml hown ht (mk_J0_length_8abf5_2 l D q cA ad av t9 F _ _ _ hI ) hw_6_144 hmJ0_length_8abf5 ⟨rfl, rfl⟩ (na := 0) rfl (by decide +kernel) (by decide) (vk_recv hZ.1 (by decide) hS) hK hP hD hS hA (zSS_c (Rs := zMRs) (t9 := t9) (fun _ _ _ => zMRs_c)) (zSS_w (Rs := zMRs) (t9 := t9) (fun _ _ _ => zMRs_w) hN hsz hS) hl.1 rfl (Nat.le_of_ble_eq_true rfl) ⟨Nat.zero_le _, Nat.zero_le _⟩ dX11_is_41 (fun r_89 I_89 R_89 J_89 H locs hp_89 hP hD hS _ _ => ?_)
    obtain ⟨rfl, hu_89⟩ := hp_89
    cases hu_89
    refine lv_icmp_ge (tgt := 82) hx hb dX11_is_44 (by decide) (fun c_0 => absurd c_0 (zD_nle zk_6 zk_0 (by decide))) (fun _ => ?_)
    refine lv_iload_n hx hb dX11_is_47 rfl (lv_at hl 1 rfl) ?_
    refine lv_if_eq (tgt := 82) hx hb dX11_is_48 (by decide) (fun _ => ?_) (fun c_0 => absurd (zD_eq zk_0 zk_z) c_0)
    refine lv_iload_n hx hb dX11_is_82 rfl (lv_at hl 1 rfl) ?_
    exact z_zret (v := nI 0) hx hb hr hlocks hP hD hS (by decide +kernel) dX11_is_83 (Or.inr ⟨rfl, rfl, (mIs_n1 nn_1)⟩)
set_option maxHeartbeats 4000000 in
set_option maxRecDepth 100000 in
theorem mk_X11_takes_2 (l : Launch) (D : va_G) (q : Nat → Nat) (cA : Nat → ClassId) (ad av : Nat → Nat) (t9 : Nat) (F : Nat → Nat → Int32) (I R : Nat → Nat → Int32) (J : Nat → Nat → Int64) (hI : mInv F (I, R, J))  : zNi (zSS zMRs 25 q ad av t9) l D vwCl (zMtys cA) 25 q (zMd q cA) yX11_takes cX11_takes 3 (some .boolean) ({ frames := 5, cells := 0, slots := 0, locals := 108 } : Room) [.ref (q 0), .ref (ad 6)] (I, R, J) (fun r u => (r = nI 1 ∧ ((mInv F u ∧ (∀ k, k ≠ 0 → u.1 k = I k) ∧ u.2 = (R, J)) ∧ mTr I u.1) ∧ mIs 6 I R) ∨ (r = nI 0 ∧ u = (I, R, J) ∧ ¬ mIs 6 I R)) := by
  intro sz
  refine z_bodyN (by decide +kernel) (Nat.le_of_ble_eq_true rfl) (fun p e s m below meth c ls hx hb hml hr ht hown hlocks hsz hK hP hD hS hN hl => ?_)
  have hA : ∀ a, s.heap.size ≤ a → zA 25 q sz a := fun a h => Or.inr (hsz ▸ h)
  have hl : lv_has ls 3 [(0, .ref (q 0)), (1, .ref (ad 6))] := hl
  have hZ : zSz zMRs 25 q ad av t9 sz s := hsz ▸ hN
  refine lv_aload_n hx hb dX11_takes_0 rfl (lv_at hl 0 rfl) ?_
  refine lv_aload_n hx hb dX11_takes_1 rfl (lv_at hl 1 rfl) ?_
  refine z_cNVi (k := 0) (As := [.ref (ad 6)]) (rest := []) hx hb hml hown ht (mk_X11_is_2 l D q cA ad av t9 F _ _ _ hI ) hw_6_140 hmX11_is ⟨rfl, rfl⟩ (na := 1) rfl (by decide +kernel) (by decide) (by decide) rfl rfl hK hP hD hS hA (zSS_c (Rs := zMRs) (t9 := t9) (fun _ _ _ => zMRs_c)) (zSS_w (Rs := zMRs) (t9 := t9) (fun _ _ _ => zMRs_w) hN hsz hS) hl.1 rfl (Nat.le_of_ble_eq_true rfl) ⟨Nat.zero_le _, Nat.zero_le _⟩ dX11_takes_2 (fun r_1 I_1 R_1 J_1 H locs hp_1 hP hD hS _ _ => ?_)
  rcases hp_1 with ⟨rfl, hu_1, nn_1⟩ | ⟨rfl, hu_1, nn_1⟩
  · cases hu_1
    refine lv_istore_n (lv' := [(2, .int (nI 1)), (0, .ref (q 0)), (1, .ref (ad 6))]) hx hb dX11_takes_5 rfl hl (by decide) rfl (fun ls hl => ?_)
    refine lv_iload_n hx hb dX11_takes_6 rfl (lv_at hl 0 rfl) ?_
    refine lv_if_eq (tgt := 14) hx hb dX11_takes_7 (by decide) (fun c_0 => absurd c_0 (zD_ne zk_1 zk_z (by decide))) (fun _ => ?_)
    refine lv_aload_n hx hb dX11_takes_10 rfl (lv_at hl 1 rfl) ?_
    refine z_callVv (k := 0) (As := []) (rest := []) hx hb hml hown ht (mk_X11_advance l D q cA F _ _ _ hI ) hw_6_109 hmX11_advance ⟨rfl, rfl⟩ (na := 0) rfl (by decide +kernel) (by decide) (by decide) rfl rfl hK hP hD hS hA hl.1 rfl (Nat.le_of_ble_eq_true rfl) ⟨Nat.zero_le _, Nat.zero_le _⟩ dX11_takes_11 (fun I_2 R_2 J_2 H locs hp_2 hP hD hS _ _ => ?_)
    obtain ⟨hq_2, he_2⟩ := hp_2
    try dsimp only at he_2
    obtain ⟨hv_2, hk_2, hj_2⟩ := hq_2
    try dsimp only at hj_2 hk_2
    cases hj_2
    have hf_3 : ∀ k, k ≠ 0 → I_2 k = I k := fun k h => (hk_2 k h).trans ((fun (_ : Nat) _ => rfl) k h)
    refine lv_iload_n hx hb dX11_takes_14 rfl (lv_at hl 0 rfl) ?_
    exact z_zret (v := nI 1) hx hb hr hlocks hP hD hS (by decide +kernel) dX11_takes_15 (Or.inl ⟨rfl, ⟨⟨hv_2, hf_3, rfl⟩, he_2⟩, nn_1⟩)
  · cases hu_1
    refine lv_istore_n (lv' := [(2, .int (nI 0)), (0, .ref (q 0)), (1, .ref (ad 6))]) hx hb dX11_takes_5 rfl hl (by decide) rfl (fun ls hl => ?_)
    refine lv_iload_n hx hb dX11_takes_6 rfl (lv_at hl 0 rfl) ?_
    refine lv_if_eq (tgt := 14) hx hb dX11_takes_7 (by decide) (fun _ => ?_) (fun c_0 => absurd (zD_eq zk_0 zk_z) c_0)
    refine lv_iload_n hx hb dX11_takes_14 rfl (lv_at hl 0 rfl) ?_
    exact z_zret (v := nI 0) hx hb hr hlocks hP hD hS (by decide +kernel) dX11_takes_15 (Or.inr ⟨rfl, rfl, nn_1⟩)
set_option maxHeartbeats 4000000 in
set_option maxRecDepth 100000 in
theorem mk_J0_coder_7d493_3 (l : Launch) (D : va_G) (q : Nat → Nat) (cA : Nat → ClassId) (ad av : Nat → Nat) (t9 : Nat) (F : Nat → Nat → Int32) (I R : Nat → Nat → Int32) (J : Nat → Nat → Int64) (hI : mInv F (I, R, J))  : zNi (zSS zMRs 25 q ad av t9) l D vwCl (zMtys cA) 25 q (zMd q cA) yJ0_coder_7d493 cJ0_coder_7d493 1 (some .byte) ({ frames := 0, cells := 0, slots := 0, locals := 0 } : Room) [.ref (ad 7)] (I, R, J) (fun r u => r = nI 0 ∧ u = (I, R, J)) := by
  intro sz
  refine z_bodyN (by decide +kernel) (Nat.le_of_ble_eq_true rfl) (fun p e s m below meth c ls hx hb hml hr ht hown hlocks hsz hK hP hD hS hN hl => ?_)
  have hA : ∀ a, s.heap.size ≤ a → zA 25 q sz a := fun a h => Or.inr (hsz ▸ h)
  have hl : lv_has ls 1 [(0, .ref (ad 7))] := hl
  have hZ : zSz zMRs 25 q ad av t9 sz s := hsz ▸ hN
  refine va_gets hx hb hZ.2.1 hS hown (ht _ hw_2_195) (fun _ h => h) dJ0_coder_7d493_0 ?_
  refine z_eqi (y := nI 1) rfl ?_
  refine lv_if_eq (tgt := 13) hx hb dJ0_coder_7d493_3 (by decide) (fun c_0 => absurd c_0 (zD_ne zk_1 zk_z (by decide))) (fun _ => ?_)
  refine lv_aload_n hx hb dJ0_coder_7d493_6 rfl (lv_at hl 0 rfl) ?_
  refine vk_getf hx hb (hZ.1.1 7 (by decide)).2.1 hS hown (ht _ hw_8_165) (fun _ h => h) dJ0_coder_7d493_7 ?_
  refine z_eqi (y := nI 0) rfl ?_
  refine lv_goto (tgt := 14) hx hb dJ0_coder_7d493_10 (by decide) ?_
  exact z_zret (v := nI 0) hx hb hr hlocks hP hD hS (by decide +kernel) dJ0_coder_7d493_14 ⟨rfl, rfl⟩
set_option maxHeartbeats 4000000 in
set_option maxRecDepth 100000 in
theorem mk_J0_length_8abf5_3 (l : Launch) (D : va_G) (q : Nat → Nat) (cA : Nat → ClassId) (ad av : Nat → Nat) (t9 : Nat) (F : Nat → Nat → Int32) (I R : Nat → Nat → Int32) (J : Nat → Nat → Int64) (hI : mInv F (I, R, J))  : zNi (zSS zMRs 25 q ad av t9) l D vwCl (zMtys cA) 25 q (zMd q cA) yJ0_length_8abf5 cJ0_length_8abf5 1 (some .int) ({ frames := 1, cells := 0, slots := 0, locals := 20 } : Room) [.ref (ad 7)] (I, R, J) (fun r u => r = nI 5 ∧ u = (I, R, J)) := by
  intro sz
  refine z_bodyN (by decide +kernel) (Nat.le_of_ble_eq_true rfl) (fun p e s m below meth c ls hx hb hml hr ht hown hlocks hsz hK hP hD hS hN hl => ?_)
  have hA : ∀ a, s.heap.size ≤ a → zA 25 q sz a := fun a h => Or.inr (hsz ▸ h)
  have hl : lv_has ls 1 [(0, .ref (ad 7))] := hl
  have hZ : zSz zMRs 25 q ad av t9 sz s := hsz ▸ hN
  refine lv_aload_n hx hb dJ0_length_8abf5_0 rfl (lv_at hl 0 rfl) ?_
  refine vk_getf hx hb (hZ.1.1 7 (by decide)).2.2.1 hS hown (ht _ hw_8_164) (fun _ h => h) dJ0_length_8abf5_1 ?_
  refine va_tlen hx hb (hZ.1.1 7 (by decide)).2.2.2 hS (v := nI 5) rfl dJ0_length_8abf5_4 ?_
  refine lv_aload_n hx hb dJ0_length_8abf5_5 rfl (lv_at hl 0 rfl) ?_
  refine z_cNXi (As := []) (rest := [.int (nI 5)]) hx hb hml hown ht (mk_J0_coder_7d493_3 l D q cA ad av t9 F _ _ _ hI ) hw_2_191 hmJ0_coder_7d493 ⟨rfl, rfl⟩ (na := 0) rfl (by decide +kernel) (by decide) (vk_recv hZ.1 (by decide) hS) hK hP hD hS hA (zSS_c (Rs := zMRs) (t9 := t9) (fun _ _ _ => zMRs_c)) (zSS_w (Rs := zMRs) (t9 := t9) (fun _ _ _ => zMRs_w) hN hsz hS) hl.1 rfl (Nat.le_of_ble_eq_true rfl) ⟨Nat.zero_le _, Nat.zero_le _⟩ dJ0_length_8abf5_6 (fun r_1 I_1 R_1 J_1 H locs hp_1 hP hD hS _ _ => ?_)
  obtain ⟨rfl, hu_1⟩ := hp_1
  cases hu_1
  refine lv_ishr hx hb dJ0_length_8abf5_9 ?_
  refine z_eqi (y := nI 5) (by decide +kernel) ?_
  exact z_iret (v := nI 5) hx hb hr hlocks hP hD hS dJ0_length_8abf5_10 ⟨rfl, rfl⟩
set_option maxHeartbeats 4000000 in
set_option maxRecDepth 100000 in
theorem mk_J0_isLatin1_aae02_3 (l : Launch) (D : va_G) (q : Nat → Nat) (cA : Nat → ClassId) (ad av : Nat → Nat) (t9 : Nat) (F : Nat → Nat → Int32) (I R : Nat → Nat → Int32) (J : Nat → Nat → Int64) (hI : mInv F (I, R, J))  : zNi (zSS zMRs 25 q ad av t9) l D vwCl (zMtys cA) 25 q (zMd q cA) yJ0_isLatin1_aae02 cJ0_isLatin1_aae02 1 (some .boolean) ({ frames := 0, cells := 0, slots := 0, locals := 0 } : Room) [.ref (ad 7)] (I, R, J) (fun r u => (r = nI 1 ∧ u = (I, R, J))) := by
  intro sz
  refine z_bodyN (by decide +kernel) (Nat.le_of_ble_eq_true rfl) (fun p e s m below meth c ls hx hb hml hr ht hown hlocks hsz hK hP hD hS hN hl => ?_)
  have hA : ∀ a, s.heap.size ≤ a → zA 25 q sz a := fun a h => Or.inr (hsz ▸ h)
  have hl : lv_has ls 1 [(0, .ref (ad 7))] := hl
  have hZ : zSz zMRs 25 q ad av t9 sz s := hsz ▸ hN
  refine va_gets hx hb hZ.2.1 hS hown (ht _ hw_2_195) (fun _ h => h) dJ0_isLatin1_aae02_0 ?_
  refine z_eqi (y := nI 1) rfl ?_
  refine lv_if_eq (tgt := 17) hx hb dJ0_isLatin1_aae02_3 (by decide) (fun c_0 => absurd c_0 (zD_ne zk_1 zk_z (by decide))) (fun _ => ?_)
  refine lv_aload_n hx hb dJ0_isLatin1_aae02_6 rfl (lv_at hl 0 rfl) ?_
  refine vk_getf hx hb (hZ.1.1 7 (by decide)).2.1 hS hown (ht _ hw_8_165) (fun _ h => h) dJ0_isLatin1_aae02_7 ?_
  refine z_eqi (y := nI 0) rfl ?_
  refine lv_if_ne (tgt := 17) hx hb dJ0_isLatin1_aae02_10 (by decide) (fun c_0 => absurd (zD_eq zk_0 zk_z) c_0) (fun _ => ?_)
  refine lv_iconst (v := nI 1) hx hb dJ0_isLatin1_aae02_13 (by decide +kernel) ?_
  refine lv_goto (tgt := 18) hx hb dJ0_isLatin1_aae02_14 (by decide) ?_
  exact z_zret (v := nI 1) hx hb hr hlocks hP hD hS (by decide +kernel) dJ0_isLatin1_aae02_18 ⟨rfl, rfl⟩
set_option maxHeartbeats 4000000 in
set_option maxRecDepth 100000 in
theorem mk_J1_charAt_3b067_7 (l : Launch) (D : va_G) (q : Nat → Nat) (cA : Nat → ClassId) (ad av : Nat → Nat) (t9 : Nat) (F : Nat → Nat → Int32) (I R : Nat → Nat → Int32) (J : Nat → Nat → Int64) (hI : mInv F (I, R, J)) (pa1 : Int32) (hpa1 : zR 0 4 pa1) : zNi (zSS zMRs 25 q ad av t9) l D vwCl (zMtys cA) 25 q (zMd q cA) yJ1_charAt_3b067 cJ1_charAt_3b067 2 (some .char) ({ frames := 2, cells := 0, slots := 0, locals := 43 } : Room) [.ref (av 7), .int (pa1)] (I, R, J) (fun r u => (r = zch 7 (pa1).toNatClampNeg ∧ zR 0 65535 r) ∧ u = (I, R, J)) := by
  intro sz
  refine z_bodyN (by decide +kernel) (Nat.le_of_ble_eq_true rfl) (fun p e s m below meth c ls hx hb hml hr ht hown hlocks hsz hK hP hD hS hN hl => ?_)
  have hA : ∀ a, s.heap.size ≤ a → zA 25 q sz a := fun a h => Or.inr (hsz ▸ h)
  have hl : lv_has ls 2 [(0, .ref (av 7)), (1, .int (pa1))] := hl
  have hZ : zSz zMRs 25 q ad av t9 sz s := hsz ▸ hN
  refine lv_iload_n hx hb dJ1_charAt_3b067_0 rfl (lv_at hl 1 rfl) ?_
  refine lv_aload_n hx hb dJ1_charAt_3b067_1 rfl (lv_at hl 0 rfl) ?_
  refine va_tlen hx hb (hZ.1.1 7 (by decide)).2.2.2 hS (v := nI 5) rfl dJ1_charAt_3b067_2 ?_
  refine z_cNSv (As := [.int (pa1), .int (nI 5)]) (rest := []) hx hb hml hown ht (mk_J0_checkIndex_df160_1 l D q cA ad av t9 F _ _ _ hI (pa1) hpa1) hw_2_208 hmJ0_checkIndex_df160 ⟨rfl, rfl⟩ (na := 2) rfl (by decide +kernel) (by decide) hK hP hD hS hA (zSS_c (Rs := zMRs) (t9 := t9) (fun _ _ _ => zMRs_c)) (zSS_w (Rs := zMRs) (t9 := t9) (fun _ _ _ => zMRs_w) hN hsz hS) hl.1 rfl (Nat.le_of_ble_eq_true rfl) ⟨Nat.zero_le _, Nat.zero_le _⟩ dJ1_charAt_3b067_3 (fun I_1 R_1 J_1 H locs hp_1 hP hD hS _ _ => ?_)
  cases hp_1
  refine lv_aload_n hx hb dJ1_charAt_3b067_6 rfl (lv_at hl 0 rfl) ?_
  refine lv_iload_n hx hb dJ1_charAt_3b067_7 rfl (lv_at hl 1 rfl) ?_
  refine va_tb hx hb (hZ.1.1 7 (by decide)).2.2.2 hS (zR_vin hpa1 (by decide)) (v := .int ((zByt.getD 7 []).getD (pa1).toNatClampNeg 0)) rfl dJ1_charAt_3b067_8 ?_
  refine lv_sipush (v := nI 255) hx hb dJ1_charAt_3b067_9 (by decide +kernel) ?_
  refine lv_iand hx hb dJ1_charAt_3b067_12 ?_
  refine lv_i2c (v := ((((zByt.getD 7 []).getD (pa1).toNatClampNeg 0) &&& (nI 255)).toUInt32 % 65536).toInt32) hx hb dJ1_charAt_3b067_13 rfl ?_
  exact z_zret (v := ((((zByt.getD 7 []).getD (pa1).toNatClampNeg 0) &&& (nI 255)).toUInt32 % 65536).toInt32) hx hb hr hlocks hP hD hS (zR_char (zR_i2c _)) dJ1_charAt_3b067_14 ⟨⟨rfl, (zR_i2c _)⟩, rfl⟩
set_option maxHeartbeats 4000000 in
set_option maxRecDepth 100000 in
theorem mk_J0_charAt_5068e_7 (l : Launch) (D : va_G) (q : Nat → Nat) (cA : Nat → ClassId) (ad av : Nat → Nat) (t9 : Nat) (F : Nat → Nat → Int32) (I R : Nat → Nat → Int32) (J : Nat → Nat → Int64) (hI : mInv F (I, R, J)) (pa0 : Int32) (hpa0 : zR 0 4 pa0) : zNi (zSS zMRs 25 q ad av t9) l D vwCl (zMtys cA) 25 q (zMd q cA) yJ0_charAt_5068e cJ0_charAt_5068e 2 (some .char) ({ frames := 3, cells := 0, slots := 0, locals := 64 } : Room) [.ref (ad 7), .int (pa0)] (I, R, J) (fun r u => (r = zch 7 (pa0).toNatClampNeg ∧ zR 0 65535 r) ∧ u = (I, R, J)) := by
  intro sz
  refine z_bodyN (by decide +kernel) (Nat.le_of_ble_eq_true rfl) (fun p e s m below meth c ls hx hb hml hr ht hown hlocks hsz hK hP hD hS hN hl => ?_)
  have hA : ∀ a, s.heap.size ≤ a → zA 25 q sz a := fun a h => Or.inr (hsz ▸ h)
  have hl : lv_has ls 2 [(0, .ref (ad 7)), (1, .int (pa0))] := hl
  have hZ : zSz zMRs 25 q ad av t9 sz s := hsz ▸ hN
  refine lv_aload_n hx hb dJ0_charAt_5068e_0 rfl (lv_at hl 0 rfl) ?_
  refine z_cNXi (As := []) (rest := []) hx hb hml hown ht (mk_J0_isLatin1_aae02_3 l D q cA ad av t9 F _ _ _ hI ) hw_2_201 hmJ0_isLatin1_aae02 ⟨rfl, rfl⟩ (na := 0) rfl (by decide +kernel) (by decide) (vk_recv hZ.1 (by decide) hS) hK hP hD hS hA (zSS_c (Rs := zMRs) (t9 := t9) (fun _ _ _ => zMRs_c)) (zSS_w (Rs := zMRs) (t9 := t9) (fun _ _ _ => zMRs_w) hN hsz hS) hl.1 rfl (Nat.le_of_ble_eq_true rfl) ⟨Nat.zero_le _, Nat.zero_le _⟩ dJ0_charAt_5068e_1 (fun r_1 I_1 R_1 J_1 H locs hp_1 hP hD hS _ _ => ?_)
  obtain ⟨rfl, hu_1⟩ := hp_1
  cases hu_1
  refine lv_if_eq (tgt := 16) hx hb dJ0_charAt_5068e_4 (by decide) (fun c_0 => absurd c_0 (zD_ne zk_1 zk_z (by decide))) (fun _ => ?_)
  refine lv_aload_n hx hb dJ0_charAt_5068e_7 rfl (lv_at hl 0 rfl) ?_
  refine vk_getf hx hb (hZ.1.1 7 (by decide)).2.2.1 hS hown (ht _ hw_8_164) (fun _ h => h) dJ0_charAt_5068e_8 ?_
  refine lv_iload_n hx hb dJ0_charAt_5068e_11 rfl (lv_at hl 1 rfl) ?_
  refine z_cNSi (As := [.ref (av 7), .int (pa0)]) (rest := []) hx hb hml hown ht (mk_J1_charAt_3b067_7 l D q cA ad av t9 F _ _ _ hI (pa0) hpa0) hw_2_205 hmJ1_charAt_3b067 ⟨rfl, rfl⟩ (na := 2) rfl (by decide +kernel) (by decide) hK hP hD hS hA (zSS_c (Rs := zMRs) (t9 := t9) (fun _ _ _ => zMRs_c)) (zSS_w (Rs := zMRs) (t9 := t9) (fun _ _ _ => zMRs_w) hN hsz hS) hl.1 rfl (Nat.le_of_ble_eq_true rfl) ⟨Nat.zero_le _, Nat.zero_le _⟩ dJ0_charAt_5068e_12 (fun r_2 I_2 R_2 J_2 H locs hp_2 hP hD hS _ _ => ?_)
  obtain ⟨⟨rfl, hr_2⟩, hu_2⟩ := hp_2
  cases hu_2
  exact z_zret (v := zch 7 (pa0).toNatClampNeg) hx hb hr hlocks hP hD hS (zR_char hr_2) dJ0_charAt_5068e_15 ⟨⟨rfl, hr_2⟩, rfl⟩
set_option maxHeartbeats 4000000 in
set_option maxRecDepth 100000 in
theorem mk_X11_is_3 (l : Launch) (D : va_G) (q : Nat → Nat) (cA : Nat → ClassId) (ad av : Nat → Nat) (t9 : Nat) (F : Nat → Nat → Int32) (I R : Nat → Nat → Int32) (J : Nat → Nat → Int64) (hI : mInv F (I, R, J))  : zNi (zSS zMRs 25 q ad av t9) l D vwCl (zMtys cA) 25 q (zMd q cA) yX11_is cX11_is 4 (some .boolean) ({ frames := 4, cells := 0, slots := 0, locals := 85 } : Room) [.ref (q 0), .ref (ad 7)] (I, R, J) (fun r u => (r = nI 1 ∧ u = (I, R, J) ∧ mIs 7 I R) ∨ (r = nI 0 ∧ u = (I, R, J) ∧ ¬ mIs 7 I R)) := by
  intro sz
  refine z_bodyN (by decide +kernel) (Nat.le_of_ble_eq_true rfl) (fun p e s m below meth c ls hx hb hml hr ht hown hlocks hsz hK hP hD hS hN hl => ?_)
  have hA : ∀ a, s.heap.size ≤ a → zA 25 q sz a := fun a h => Or.inr (hsz ▸ h)
  have hl : lv_has ls 4 [(0, .ref (q 0)), (1, .ref (ad 7))] := hl
  have hZ : zSz zMRs 25 q ad av t9 sz s := hsz ▸ hN
  refine lv_aload_n hx hb dX11_is_0 rfl (lv_at hl 0 rfl) ?_
  refine z_callVi (k := 0) (As := []) (rest := []) hx hb hml hown ht (mk_X11_good l D q cA F _ _ _ hI ) hw_6_123 hmX11_good ⟨rfl, rfl⟩ (na := 0) rfl (by decide +kernel) (by decide) (by decide) rfl rfl hK hP hD hS hA hl.1 rfl (Nat.le_of_ble_eq_true rfl) ⟨Nat.zero_le _, Nat.zero_le _⟩ dX11_is_1 (fun r_1 I_1 R_1 J_1 H locs hp_1 hP hD hS _ _ => ?_)
  rcases hp_1 with ⟨rfl, hu_1, nn_1⟩ | ⟨rfl, hu_1, nn_1⟩
  · cases hu_1
    refine lv_if_eq (tgt := 35) hx hb dX11_is_4 (by decide) (fun c_0 => absurd c_0 (zD_ne zk_1 zk_z (by decide))) (fun _ => ?_)
    refine lv_aload_n hx hb dX11_is_7 rfl (lv_at hl 0 rfl) ?_
    refine z_get hx hb ht hown hK hP ziX11 rfl 0 (by decide) 10 (by decide) hw_5_197 rfl (v := .int (I 0 10)) rfl dX11_is_8 ?_
    refine lv_iconst (v := nI 1) hx hb dX11_is_11 (by decide +kernel) ?_
    refine lv_icmp_ne (tgt := 35) hx hb dX11_is_12 (by decide) (fun c_2 => ?_) (fun c_2 => ?_)
    · have t_c_2 := z_eqF c_2
      refine lv_iconst (v := nI 0) hx hb dX11_is_35 (by decide +kernel) ?_
      refine lv_istore_n (lv' := [(2, .int (nI 0)), (0, .ref (q 0)), (1, .ref (ad 7))]) hx hb dX11_is_36 rfl hl (by decide) rfl (fun ls hl => ?_)
      refine lv_iconst (v := nI 0) hx hb dX11_is_37 (by decide +kernel) ?_
      refine lv_istore_n (lv' := [(3, .int (nI 0)), (2, .int (nI 0)), (0, .ref (q 0)), (1, .ref (ad 7))]) hx hb dX11_is_38 rfl hl (by decide) rfl (fun ls hl => ?_)
      refine lv_iload_n hx hb dX11_is_39 rfl (lv_at hl 0 rfl) ?_
      refine lv_aload_n hx hb dX11_is_40 rfl (lv_at hl 3 rfl) ?_
      refine z_cNXi (As := []) (rest := [.int (nI 0)]) hx hb hml hown ht (mk_J0_length_8abf5_3 l D q cA ad av t9 F _ _ _ hI ) hw_6_144 hmJ0_length_8abf5 ⟨rfl, rfl⟩ (na := 0) rfl (by decide +kernel) (by decide) (vk_recv hZ.1 (by decide) hS) hK hP hD hS hA (zSS_c (Rs := zMRs) (t9 := t9) (fun _ _ _ => zMRs_c)) (zSS_w (Rs := zMRs) (t9 := t9) (fun _ _ _ => zMRs_w) hN hsz hS) hl.1 rfl (Nat.le_of_ble_eq_true rfl) ⟨Nat.zero_le _, Nat.zero_le _⟩ dX11_is_41 (fun r_5 I_5 R_5 J_5 H locs hp_5 hP hD hS _ _ => ?_)
      obtain ⟨rfl, hu_5⟩ := hp_5
      cases hu_5
      refine lv_icmp_ge (tgt := 82) hx hb dX11_is_44 (by decide) (fun c_0 => absurd c_0 (zD_nle zk_5 zk_0 (by decide))) (fun _ => ?_)
      refine lv_iload_n hx hb dX11_is_47 rfl (lv_at hl 1 rfl) ?_
      refine lv_if_eq (tgt := 82) hx hb dX11_is_48 (by decide) (fun _ => ?_) (fun c_0 => absurd (zD_eq zk_0 zk_z) c_0)
      refine lv_iload_n hx hb dX11_is_82 rfl (lv_at hl 1 rfl) ?_
      exact z_zret (v := nI 0) hx hb hr hlocks hP hD hS (by decide +kernel) dX11_is_83 (Or.inr ⟨rfl, rfl, (mIs_n2 t_c_2)⟩)
    · have t_c_2 := z_eqT c_2
      have f_6 : zR 1 1 (I 0 10) := zR_eqx t_c_2 zk_1
      refine lv_aload_n hx hb dX11_is_15 rfl (lv_at hl 0 rfl) ?_
      refine z_get hx hb ht hown hK hP ziX11 rfl 0 (by decide) 8 (by decide) hw_5_195 rfl (v := .int (I 0 8)) rfl dX11_is_16 ?_
      have f_7 : zR 0 800 (I 0 8) := mI hI 0 8
      refine lv_aload_n hx hb dX11_is_19 rfl (lv_at hl 0 rfl) ?_
      refine z_get hx hb ht hown hK hP ziX11 rfl 0 (by decide) 9 (by decide) hw_5_196 rfl (v := .int (I 0 9)) rfl dX11_is_20 ?_
      have f_8 : zR 0 800 (I 0 9) := mI hI 0 9
      refine lv_isub hx hb dX11_is_23 ?_
      refine lv_topi (fun v_9 ev_9 => ?_)
      have hv_9 : zR (-800) 800 v_9 := ev_9 ▸ zR_sub f_7 f_8 (by decide)
      refine lv_aload_n hx hb dX11_is_24 rfl (lv_at hl 1 rfl) ?_
      refine z_cNXi (As := []) (rest := [.int (v_9)]) hx hb hml hown ht (mk_J0_length_8abf5_3 l D q cA ad av t9 F _ _ _ hI ) hw_6_144 hmJ0_length_8abf5 ⟨rfl, rfl⟩ (na := 0) rfl (by decide +kernel) (by decide) (vk_recv hZ.1 (by decide) hS) hK hP hD hS hA (zSS_c (Rs := zMRs) (t9 := t9) (fun _ _ _ => zMRs_c)) (zSS_w (Rs := zMRs) (t9 := t9) (fun _ _ _ => zMRs_w) hN hsz hS) hl.1 rfl (Nat.le_of_ble_eq_true rfl) ⟨Nat.zero_le _, Nat.zero_le _⟩ dX11_is_25 (fun r_10 I_10 R_10 J_10 H locs hp_10 hP hD hS _ _ => ?_)
      obtain ⟨rfl, hu_10⟩ := hp_10
      cases hu_10
      refine lv_icmp_ne (tgt := 35) hx hb dX11_is_28 (by decide) (fun c_11 => ?_) (fun c_11 => ?_)
      · have t_c_11 := z_eqF c_11
        refine lv_iconst (v := nI 0) hx hb dX11_is_35 (by decide +kernel) ?_
        refine lv_istore_n (lv' := [(2, .int (nI 0)), (0, .ref (q 0)), (1, .ref (ad 7))]) hx hb dX11_is_36 rfl hl (by decide) rfl (fun ls hl => ?_)
        refine lv_iconst (v := nI 0) hx hb dX11_is_37 (by decide +kernel) ?_
        refine lv_istore_n (lv' := [(3, .int (nI 0)), (2, .int (nI 0)), (0, .ref (q 0)), (1, .ref (ad 7))]) hx hb dX11_is_38 rfl hl (by decide) rfl (fun ls hl => ?_)
        refine lv_iload_n hx hb dX11_is_39 rfl (lv_at hl 0 rfl) ?_
        refine lv_aload_n hx hb dX11_is_40 rfl (lv_at hl 3 rfl) ?_
        refine z_cNXi (As := []) (rest := [.int (nI 0)]) hx hb hml hown ht (mk_J0_length_8abf5_3 l D q cA ad av t9 F _ _ _ hI ) hw_6_144 hmJ0_length_8abf5 ⟨rfl, rfl⟩ (na := 0) rfl (by decide +kernel) (by decide) (vk_recv hZ.1 (by decide) hS) hK hP hD hS hA (zSS_c (Rs := zMRs) (t9 := t9) (fun _ _ _ => zMRs_c)) (zSS_w (Rs := zMRs) (t9 := t9) (fun _ _ _ => zMRs_w) hN hsz hS) hl.1 rfl (Nat.le_of_ble_eq_true rfl) ⟨Nat.zero_le _, Nat.zero_le _⟩ dX11_is_41 (fun r_14 I_14 R_14 J_14 H locs hp_14 hP hD hS _ _ => ?_)
        obtain ⟨rfl, hu_14⟩ := hp_14
        cases hu_14
        refine lv_icmp_ge (tgt := 82) hx hb dX11_is_44 (by decide) (fun c_0 => absurd c_0 (zD_nle zk_5 zk_0 (by decide))) (fun _ => ?_)
        refine lv_iload_n hx hb dX11_is_47 rfl (lv_at hl 1 rfl) ?_
        refine lv_if_eq (tgt := 82) hx hb dX11_is_48 (by decide) (fun _ => ?_) (fun c_0 => absurd (zD_eq zk_0 zk_z) c_0)
        refine lv_iload_n hx hb dX11_is_82 rfl (lv_at hl 1 rfl) ?_
        exact z_zret (v := nI 0) hx hb hr hlocks hP hD hS (by decide +kernel) dX11_is_83 (Or.inr ⟨rfl, rfl, (mIs_n3 ev_9 t_c_11)⟩)
      · have t_c_11 := z_eqT c_11
        have f_15 : zR 5 5 (v_9) := zR_eqx t_c_11 zk_5
        have f_16 : zR 0 795 (I 0 9) := z_start f_7 f_8 ev_9 f_15 (by decide)
        refine lv_iconst (v := nI 1) hx hb dX11_is_31 (by decide +kernel) ?_
        refine lv_goto (tgt := 36) hx hb dX11_is_32 (by decide) ?_
        refine lv_istore_n (lv' := [(2, .int (nI 1)), (0, .ref (q 0)), (1, .ref (ad 7))]) hx hb dX11_is_36 rfl hl (by decide) rfl (fun ls hl => ?_)
        refine lv_iconst (v := nI 0) hx hb dX11_is_37 (by decide +kernel) ?_
        refine lv_istore_n (lv' := [(3, .int (nI 0)), (2, .int (nI 1)), (0, .ref (q 0)), (1, .ref (ad 7))]) hx hb dX11_is_38 rfl hl (by decide) rfl (fun ls hl => ?_)
        have loop_71 : ∀ N : Nat, ∀ x_68 : Int32, zR 0 1 x_68 → ∀ x_69 : Int32, zR 0 5 x_69 → (mIsL 7 I R (x_69) (x_68)) → (2147483648 - (x_69).toInt).toNat < N → ∀ (H : Heap) (locs : List Loc), va_P D vwCl (zw 25 q (zMd q cA) I R J) H → va_D (zA 25 q sz) (zw 25 q (zMd q cA) I R J) → va_S (zA 25 q sz) s.heap H locs → ∀ ls : Array Slot, lv_has ls 4 [(0, .ref (q 0)), (1, .ref (ad 7)), (2, .int (x_68)), (3, .int (x_69))] → W p l e ({ frames := 4, cells := 0, slots := 0, locals := 85 } : Room) s m ([.ref (q 0), .ref (ad 7)] : List Value).toArray below meth c H locs 0 0 (MQ below (va_Qi (fun r u => (r = nI 1 ∧ u = (I, R, J) ∧ mIs 7 I R) ∨ (r = nI 0 ∧ u = (I, R, J) ∧ ¬ mIs 7 I R)) (zB D vwCl 25 q (zMd q cA) sz) (zA 25 q sz)) ([.ref (q 0), .ref (ad 7)] : List Value).toArray s 0 0 (zA 25 q sz)) (F0 m 39 ls []) := by
          intro N
          induction N with
          | zero => intro x_68 hx_68 x_69 hx_69 hx_70 hN; exact absurd hN (Nat.not_lt_zero _)
          | succ N ih_73 =>
            intro x_68 hx_68 x_69 hx_69 hx_70 hN_72 H locs hP hD hS ls hl
            refine lv_iload_n hx hb dX11_is_39 rfl (lv_at hl 3 rfl) ?_
            refine lv_aload_n hx hb dX11_is_40 rfl (lv_at hl 1 rfl) ?_
            refine z_cNXi (As := []) (rest := [.int (x_69)]) hx hb hml hown ht (mk_J0_length_8abf5_3 l D q cA ad av t9 F _ _ _ hI ) hw_6_144 hmJ0_length_8abf5 ⟨rfl, rfl⟩ (na := 0) rfl (by decide +kernel) (by decide) (vk_recv hZ.1 (by decide) hS) hK hP hD hS hA (zSS_c (Rs := zMRs) (t9 := t9) (fun _ _ _ => zMRs_c)) (zSS_w (Rs := zMRs) (t9 := t9) (fun _ _ _ => zMRs_w) hN hsz hS) hl.1 rfl (Nat.le_of_ble_eq_true rfl) ⟨Nat.zero_le _, Nat.zero_le _⟩ dX11_is_41 (fun r_74 I_74 R_74 J_74 H locs hp_74 hP hD hS _ _ => ?_)
            obtain ⟨rfl, hu_74⟩ := hp_74
            cases hu_74
            refine lv_icmp_ge (tgt := 82) hx hb dX11_is_44 (by decide) (fun c_75 => ?_) (fun c_75 => ?_)
            · have t_c_75 := z_leT c_75
              have f_76 : zR 5 5 (x_69) := zR_ley t_c_75 zk_5 hx_69 (by decide)
              refine lv_iload_n hx hb dX11_is_82 rfl (lv_at hl 2 rfl) ?_
              exact z_zret (v := x_68) hx hb hr hlocks hP hD hS (zR_bool (a := 0) (b := 1) hx_68 (by decide)).1 dX11_is_83 (mIs_r1 hx_70 hx_68 t_c_75)
            · have t_c_75 := z_leF c_75
              have f_77 : zR 0 4 (x_69) := zR_ltx t_c_75 hx_69 zk_5 (by decide)
              refine lv_iload_n hx hb dX11_is_47 rfl (lv_at hl 2 rfl) ?_
              refine lv_if_eq (tgt := 82) hx hb dX11_is_48 (by decide) (fun c_78 => ?_) (fun c_78 => ?_)
              · have t_c_78 := z_eqT c_78
                have f_79 : zR 0 0 (x_68) := zR_eqx t_c_78 zk_z
                refine lv_iload_n hx hb dX11_is_82 rfl (lv_at hl 2 rfl) ?_
                exact z_zret (v := x_68) hx hb hr hlocks hP hD hS (zR_bool (a := 0) (b := 1) (zR_w f_79 (by decide)) (by decide)).1 dX11_is_83 (mIs_r0 hx_70 f_79)
              · have t_c_78 := z_eqF c_78
                have f_80 : zR 1 1 (x_68) := zR_nex t_c_78 hx_68 zk_z (by decide)
                refine lv_aload_n hx hb dX11_is_51 rfl (lv_at hl 0 rfl) ?_
                refine z_get hx hb ht hown hK hP ziX11 rfl 0 (by decide) 4 (by decide) hw_5_191 rfl (v := .ref (q 4)) rfl dX11_is_52 ?_
                refine lv_aload_n hx hb dX11_is_55 rfl (lv_at hl 0 rfl) ?_
                refine z_get hx hb ht hown hK hP ziX11 rfl 0 (by decide) 9 (by decide) hw_5_196 rfl (v := .int (I 0 9)) rfl dX11_is_56 ?_
                refine lv_iload_n hx hb dX11_is_59 rfl (lv_at hl 3 rfl) ?_
                refine lv_iadd hx hb dX11_is_60 ?_
                refine lv_topi (fun v_81 ev_81 => ?_)
                have hv_81 : zR 0 799 v_81 := ev_81 ▸ zR_add f_16 f_77 (by decide)
                refine z_bald hx hb hK hP 4 (by decide) 3 rfl rfl (zR_vin hv_81 (by decide)) dX11_is_61 ?_
                refine z_eqi (y := R 4 (v_81).toNatClampNeg) rfl ?_
                refine lv_aload_n hx hb dX11_is_62 rfl (lv_at hl 1 rfl) ?_
                refine lv_iload_n hx hb dX11_is_63 rfl (lv_at hl 3 rfl) ?_
                refine z_cNXi (As := [.int (x_69)]) (rest := [.int (R 4 (v_81).toNatClampNeg)]) hx hb hml hown ht (mk_J0_charAt_5068e_7 l D q cA ad av t9 F _ _ _ hI (x_69) f_77) hw_6_145 hmJ0_charAt_5068e ⟨rfl, rfl⟩ (na := 1) rfl (by decide +kernel) (by decide) (vk_recv hZ.1 (by decide) hS) hK hP hD hS hA (zSS_c (Rs := zMRs) (t9 := t9) (fun _ _ _ => zMRs_c)) (zSS_w (Rs := zMRs) (t9 := t9) (fun _ _ _ => zMRs_w) hN hsz hS) hl.1 rfl (Nat.le_of_ble_eq_true rfl) ⟨Nat.zero_le _, Nat.zero_le _⟩ dX11_is_64 (fun r_82 I_82 R_82 J_82 H locs hp_82 hP hD hS _ _ => ?_)
                obtain ⟨⟨rfl, hr_82⟩, hu_82⟩ := hp_82
                cases hu_82
                refine lv_icmp_ne (tgt := 74) hx hb dX11_is_67 (by decide) (fun c_83 => ?_) (fun c_83 => ?_)
                · have t_c_83 := z_eqF c_83
                  refine lv_iconst (v := nI 0) hx hb dX11_is_74 (by decide +kernel) ?_
                  refine lv_istore_n (lv' := [(2, .int (nI 0)), (0, .ref (q 0)), (1, .ref (ad 7)), (3, .int (x_69))]) hx hb dX11_is_75 rfl hl (by decide) rfl (fun ls hl => ?_)
                  obtain ⟨v_84, ev_84⟩ : ∃ y : Int32, y = x_69 + nI 1 := ⟨_, rfl⟩
                  have hv_84 : zR 1 5 v_84 := ev_84 ▸ zR_add f_77 zk_1 (by decide)
                  have mv_84 : v_84.toInt = (x_69).toInt + 1 := by rw [ev_84, zR_addE f_77 zk_1 (by decide)]; rfl
                  refine lv_iinc (v := v_84) (lv' := [(3, .int (v_84)), (2, .int (nI 0)), (0, .ref (q 0)), (1, .ref (ad 7))]) hx hb dX11_is_76 hl (k := 3) rfl (ev_84 ▸ rfl) (by decide) rfl (fun ls hl => ?_)
                  refine lv_goto (tgt := 39) hx hb dX11_is_79 (by decide) ?_
                  exact ih_73 (nI 0) (zR_w zk_0 (by decide)) (v_84) (zR_w hv_84 (by decide)) (mIsL_n hx_70 f_80 t_c_75 t_c_83 (mIs_ix (zR_w f_16 (by decide)) (zR_w f_77 (by decide)) ev_81)) (z2_up mv_84 (by decide) hN_72) _ _ hP hD hS _ (lv_sub hl [2, 3, 1, 0] rfl)
                · have t_c_83 := z_eqT c_83
                  have f_85 : zR 0 65535 (R 4 (v_81).toNatClampNeg) := zR_eqx t_c_83 hr_82
                  refine lv_iconst (v := nI 1) hx hb dX11_is_70 (by decide +kernel) ?_
                  refine lv_goto (tgt := 75) hx hb dX11_is_71 (by decide) ?_
                  refine lv_istore_n (lv' := [(2, .int (nI 1)), (0, .ref (q 0)), (1, .ref (ad 7)), (3, .int (x_69))]) hx hb dX11_is_75 rfl hl (by decide) rfl (fun ls hl => ?_)
                  obtain ⟨v_86, ev_86⟩ : ∃ y : Int32, y = x_69 + nI 1 := ⟨_, rfl⟩
                  have hv_86 : zR 1 5 v_86 := ev_86 ▸ zR_add f_77 zk_1 (by decide)
                  have mv_86 : v_86.toInt = (x_69).toInt + 1 := by rw [ev_86, zR_addE f_77 zk_1 (by decide)]; rfl
                  refine lv_iinc (v := v_86) (lv' := [(3, .int (v_86)), (2, .int (nI 1)), (0, .ref (q 0)), (1, .ref (ad 7))]) hx hb dX11_is_76 hl (k := 3) rfl (ev_86 ▸ rfl) (by decide) rfl (fun ls hl => ?_)
                  refine lv_goto (tgt := 39) hx hb dX11_is_79 (by decide) ?_
                  exact ih_73 (nI 1) (zR_w zk_1 (by decide)) (v_86) (zR_w hv_86 (by decide)) (mIsL_1 hx_70 f_80 mv_86 t_c_83 (mIs_ix (zR_w f_16 (by decide)) (zR_w f_77 (by decide)) ev_81)) (z2_up mv_86 (by decide) hN_72) _ _ hP hD hS _ (lv_sub hl [2, 3, 1, 0] rfl)
        exact loop_71 _ (nI 1) (zR_w zk_1 (by decide)) (nI 0) (zR_w zk_0 (by decide)) (mIsL_0 (mIs_a3 nn_1 t_c_2 ev_9 f_15)) (Nat.lt_succ_self _) _ _ hP hD hS _ (lv_sub hl [2, 3, 1, 0] rfl)
  · cases hu_1
    refine lv_if_eq (tgt := 35) hx hb dX11_is_4 (by decide) (fun _ => ?_) (fun c_0 => absurd (zD_eq zk_0 zk_z) c_0)
    refine lv_iconst (v := nI 0) hx hb dX11_is_35 (by decide +kernel) ?_
    refine lv_istore_n (lv' := [(2, .int (nI 0)), (0, .ref (q 0)), (1, .ref (ad 7))]) hx hb dX11_is_36 rfl hl (by decide) rfl (fun ls hl => ?_)
    refine lv_iconst (v := nI 0) hx hb dX11_is_37 (by decide +kernel) ?_
    refine lv_istore_n (lv' := [(3, .int (nI 0)), (2, .int (nI 0)), (0, .ref (q 0)), (1, .ref (ad 7))]) hx hb dX11_is_38 rfl hl (by decide) rfl (fun ls hl => ?_)
    refine lv_iload_n hx hb dX11_is_39 rfl (lv_at hl 0 rfl) ?_
    refine lv_aload_n hx hb dX11_is_40 rfl (lv_at hl 3 rfl) ?_
    refine z_cNXi (As := []) (rest := [.int (nI 0)]) hx hb hml hown ht (mk_J0_length_8abf5_3 l D q cA ad av t9 F _ _ _ hI ) hw_6_144 hmJ0_length_8abf5 ⟨rfl, rfl⟩ (na := 0) rfl (by decide +kernel) (by decide) (vk_recv hZ.1 (by decide) hS) hK hP hD hS hA (zSS_c (Rs := zMRs) (t9 := t9) (fun _ _ _ => zMRs_c)) (zSS_w (Rs := zMRs) (t9 := t9) (fun _ _ _ => zMRs_w) hN hsz hS) hl.1 rfl (Nat.le_of_ble_eq_true rfl) ⟨Nat.zero_le _, Nat.zero_le _⟩ dX11_is_41 (fun r_89 I_89 R_89 J_89 H locs hp_89 hP hD hS _ _ => ?_)
    obtain ⟨rfl, hu_89⟩ := hp_89
    cases hu_89
    refine lv_icmp_ge (tgt := 82) hx hb dX11_is_44 (by decide) (fun c_0 => absurd c_0 (zD_nle zk_5 zk_0 (by decide))) (fun _ => ?_)
    refine lv_iload_n hx hb dX11_is_47 rfl (lv_at hl 1 rfl) ?_
    refine lv_if_eq (tgt := 82) hx hb dX11_is_48 (by decide) (fun _ => ?_) (fun c_0 => absurd (zD_eq zk_0 zk_z) c_0)
    refine lv_iload_n hx hb dX11_is_82 rfl (lv_at hl 1 rfl) ?_
    exact z_zret (v := nI 0) hx hb hr hlocks hP hD hS (by decide +kernel) dX11_is_83 (Or.inr ⟨rfl, rfl, (mIs_n1 nn_1)⟩)
set_option maxHeartbeats 4000000 in
set_option maxRecDepth 100000 in
theorem mk_X11_takes_3 (l : Launch) (D : va_G) (q : Nat → Nat) (cA : Nat → ClassId) (ad av : Nat → Nat) (t9 : Nat) (F : Nat → Nat → Int32) (I R : Nat → Nat → Int32) (J : Nat → Nat → Int64) (hI : mInv F (I, R, J))  : zNi (zSS zMRs 25 q ad av t9) l D vwCl (zMtys cA) 25 q (zMd q cA) yX11_takes cX11_takes 3 (some .boolean) ({ frames := 5, cells := 0, slots := 0, locals := 108 } : Room) [.ref (q 0), .ref (ad 7)] (I, R, J) (fun r u => (r = nI 1 ∧ ((mInv F u ∧ (∀ k, k ≠ 0 → u.1 k = I k) ∧ u.2 = (R, J)) ∧ mTr I u.1) ∧ mIs 7 I R) ∨ (r = nI 0 ∧ u = (I, R, J) ∧ ¬ mIs 7 I R)) := by
  intro sz
  refine z_bodyN (by decide +kernel) (Nat.le_of_ble_eq_true rfl) (fun p e s m below meth c ls hx hb hml hr ht hown hlocks hsz hK hP hD hS hN hl => ?_)
  have hA : ∀ a, s.heap.size ≤ a → zA 25 q sz a := fun a h => Or.inr (hsz ▸ h)
  have hl : lv_has ls 3 [(0, .ref (q 0)), (1, .ref (ad 7))] := hl
  have hZ : zSz zMRs 25 q ad av t9 sz s := hsz ▸ hN
  refine lv_aload_n hx hb dX11_takes_0 rfl (lv_at hl 0 rfl) ?_
  refine lv_aload_n hx hb dX11_takes_1 rfl (lv_at hl 1 rfl) ?_
  refine z_cNVi (k := 0) (As := [.ref (ad 7)]) (rest := []) hx hb hml hown ht (mk_X11_is_3 l D q cA ad av t9 F _ _ _ hI ) hw_6_140 hmX11_is ⟨rfl, rfl⟩ (na := 1) rfl (by decide +kernel) (by decide) (by decide) rfl rfl hK hP hD hS hA (zSS_c (Rs := zMRs) (t9 := t9) (fun _ _ _ => zMRs_c)) (zSS_w (Rs := zMRs) (t9 := t9) (fun _ _ _ => zMRs_w) hN hsz hS) hl.1 rfl (Nat.le_of_ble_eq_true rfl) ⟨Nat.zero_le _, Nat.zero_le _⟩ dX11_takes_2 (fun r_1 I_1 R_1 J_1 H locs hp_1 hP hD hS _ _ => ?_)
  rcases hp_1 with ⟨rfl, hu_1, nn_1⟩ | ⟨rfl, hu_1, nn_1⟩
  · cases hu_1
    refine lv_istore_n (lv' := [(2, .int (nI 1)), (0, .ref (q 0)), (1, .ref (ad 7))]) hx hb dX11_takes_5 rfl hl (by decide) rfl (fun ls hl => ?_)
    refine lv_iload_n hx hb dX11_takes_6 rfl (lv_at hl 0 rfl) ?_
    refine lv_if_eq (tgt := 14) hx hb dX11_takes_7 (by decide) (fun c_0 => absurd c_0 (zD_ne zk_1 zk_z (by decide))) (fun _ => ?_)
    refine lv_aload_n hx hb dX11_takes_10 rfl (lv_at hl 1 rfl) ?_
    refine z_callVv (k := 0) (As := []) (rest := []) hx hb hml hown ht (mk_X11_advance l D q cA F _ _ _ hI ) hw_6_109 hmX11_advance ⟨rfl, rfl⟩ (na := 0) rfl (by decide +kernel) (by decide) (by decide) rfl rfl hK hP hD hS hA hl.1 rfl (Nat.le_of_ble_eq_true rfl) ⟨Nat.zero_le _, Nat.zero_le _⟩ dX11_takes_11 (fun I_2 R_2 J_2 H locs hp_2 hP hD hS _ _ => ?_)
    obtain ⟨hq_2, he_2⟩ := hp_2
    try dsimp only at he_2
    obtain ⟨hv_2, hk_2, hj_2⟩ := hq_2
    try dsimp only at hj_2 hk_2
    cases hj_2
    have hf_3 : ∀ k, k ≠ 0 → I_2 k = I k := fun k h => (hk_2 k h).trans ((fun (_ : Nat) _ => rfl) k h)
    refine lv_iload_n hx hb dX11_takes_14 rfl (lv_at hl 0 rfl) ?_
    exact z_zret (v := nI 1) hx hb hr hlocks hP hD hS (by decide +kernel) dX11_takes_15 (Or.inl ⟨rfl, ⟨⟨hv_2, hf_3, rfl⟩, he_2⟩, nn_1⟩)
  · cases hu_1
    refine lv_istore_n (lv' := [(2, .int (nI 0)), (0, .ref (q 0)), (1, .ref (ad 7))]) hx hb dX11_takes_5 rfl hl (by decide) rfl (fun ls hl => ?_)
    refine lv_iload_n hx hb dX11_takes_6 rfl (lv_at hl 0 rfl) ?_
    refine lv_if_eq (tgt := 14) hx hb dX11_takes_7 (by decide) (fun _ => ?_) (fun c_0 => absurd (zD_eq zk_0 zk_z) c_0)
    refine lv_iload_n hx hb dX11_takes_14 rfl (lv_at hl 0 rfl) ?_
    exact z_zret (v := nI 0) hx hb hr hlocks hP hD hS (by decide +kernel) dX11_takes_15 (Or.inr ⟨rfl, rfl, nn_1⟩)
set_option maxHeartbeats 4000000 in
set_option maxRecDepth 100000 in
theorem mk_J0_coder_7d493_4 (l : Launch) (D : va_G) (q : Nat → Nat) (cA : Nat → ClassId) (ad av : Nat → Nat) (t9 : Nat) (F : Nat → Nat → Int32) (I R : Nat → Nat → Int32) (J : Nat → Nat → Int64) (hI : mInv F (I, R, J))  : zNi (zSS zMRs 25 q ad av t9) l D vwCl (zMtys cA) 25 q (zMd q cA) yJ0_coder_7d493 cJ0_coder_7d493 1 (some .byte) ({ frames := 0, cells := 0, slots := 0, locals := 0 } : Room) [.ref (ad 8)] (I, R, J) (fun r u => r = nI 0 ∧ u = (I, R, J)) := by
  intro sz
  refine z_bodyN (by decide +kernel) (Nat.le_of_ble_eq_true rfl) (fun p e s m below meth c ls hx hb hml hr ht hown hlocks hsz hK hP hD hS hN hl => ?_)
  have hA : ∀ a, s.heap.size ≤ a → zA 25 q sz a := fun a h => Or.inr (hsz ▸ h)
  have hl : lv_has ls 1 [(0, .ref (ad 8))] := hl
  have hZ : zSz zMRs 25 q ad av t9 sz s := hsz ▸ hN
  refine va_gets hx hb hZ.2.1 hS hown (ht _ hw_2_195) (fun _ h => h) dJ0_coder_7d493_0 ?_
  refine z_eqi (y := nI 1) rfl ?_
  refine lv_if_eq (tgt := 13) hx hb dJ0_coder_7d493_3 (by decide) (fun c_0 => absurd c_0 (zD_ne zk_1 zk_z (by decide))) (fun _ => ?_)
  refine lv_aload_n hx hb dJ0_coder_7d493_6 rfl (lv_at hl 0 rfl) ?_
  refine vk_getf hx hb (hZ.1.1 8 (by decide)).2.1 hS hown (ht _ hw_8_165) (fun _ h => h) dJ0_coder_7d493_7 ?_
  refine z_eqi (y := nI 0) rfl ?_
  refine lv_goto (tgt := 14) hx hb dJ0_coder_7d493_10 (by decide) ?_
  exact z_zret (v := nI 0) hx hb hr hlocks hP hD hS (by decide +kernel) dJ0_coder_7d493_14 ⟨rfl, rfl⟩
set_option maxHeartbeats 4000000 in
set_option maxRecDepth 100000 in
theorem mk_J0_length_8abf5_4 (l : Launch) (D : va_G) (q : Nat → Nat) (cA : Nat → ClassId) (ad av : Nat → Nat) (t9 : Nat) (F : Nat → Nat → Int32) (I R : Nat → Nat → Int32) (J : Nat → Nat → Int64) (hI : mInv F (I, R, J))  : zNi (zSS zMRs 25 q ad av t9) l D vwCl (zMtys cA) 25 q (zMd q cA) yJ0_length_8abf5 cJ0_length_8abf5 1 (some .int) ({ frames := 1, cells := 0, slots := 0, locals := 20 } : Room) [.ref (ad 8)] (I, R, J) (fun r u => r = nI 2 ∧ u = (I, R, J)) := by
  intro sz
  refine z_bodyN (by decide +kernel) (Nat.le_of_ble_eq_true rfl) (fun p e s m below meth c ls hx hb hml hr ht hown hlocks hsz hK hP hD hS hN hl => ?_)
  have hA : ∀ a, s.heap.size ≤ a → zA 25 q sz a := fun a h => Or.inr (hsz ▸ h)
  have hl : lv_has ls 1 [(0, .ref (ad 8))] := hl
  have hZ : zSz zMRs 25 q ad av t9 sz s := hsz ▸ hN
  refine lv_aload_n hx hb dJ0_length_8abf5_0 rfl (lv_at hl 0 rfl) ?_
  refine vk_getf hx hb (hZ.1.1 8 (by decide)).2.2.1 hS hown (ht _ hw_8_164) (fun _ h => h) dJ0_length_8abf5_1 ?_
  refine va_tlen hx hb (hZ.1.1 8 (by decide)).2.2.2 hS (v := nI 2) rfl dJ0_length_8abf5_4 ?_
  refine lv_aload_n hx hb dJ0_length_8abf5_5 rfl (lv_at hl 0 rfl) ?_
  refine z_cNXi (As := []) (rest := [.int (nI 2)]) hx hb hml hown ht (mk_J0_coder_7d493_4 l D q cA ad av t9 F _ _ _ hI ) hw_2_191 hmJ0_coder_7d493 ⟨rfl, rfl⟩ (na := 0) rfl (by decide +kernel) (by decide) (vk_recv hZ.1 (by decide) hS) hK hP hD hS hA (zSS_c (Rs := zMRs) (t9 := t9) (fun _ _ _ => zMRs_c)) (zSS_w (Rs := zMRs) (t9 := t9) (fun _ _ _ => zMRs_w) hN hsz hS) hl.1 rfl (Nat.le_of_ble_eq_true rfl) ⟨Nat.zero_le _, Nat.zero_le _⟩ dJ0_length_8abf5_6 (fun r_1 I_1 R_1 J_1 H locs hp_1 hP hD hS _ _ => ?_)
  obtain ⟨rfl, hu_1⟩ := hp_1
  cases hu_1
  refine lv_ishr hx hb dJ0_length_8abf5_9 ?_
  refine z_eqi (y := nI 2) (by decide +kernel) ?_
  exact z_iret (v := nI 2) hx hb hr hlocks hP hD hS dJ0_length_8abf5_10 ⟨rfl, rfl⟩
set_option maxHeartbeats 4000000 in
set_option maxRecDepth 100000 in
theorem mk_J0_isLatin1_aae02_4 (l : Launch) (D : va_G) (q : Nat → Nat) (cA : Nat → ClassId) (ad av : Nat → Nat) (t9 : Nat) (F : Nat → Nat → Int32) (I R : Nat → Nat → Int32) (J : Nat → Nat → Int64) (hI : mInv F (I, R, J))  : zNi (zSS zMRs 25 q ad av t9) l D vwCl (zMtys cA) 25 q (zMd q cA) yJ0_isLatin1_aae02 cJ0_isLatin1_aae02 1 (some .boolean) ({ frames := 0, cells := 0, slots := 0, locals := 0 } : Room) [.ref (ad 8)] (I, R, J) (fun r u => (r = nI 1 ∧ u = (I, R, J))) := by
  intro sz
  refine z_bodyN (by decide +kernel) (Nat.le_of_ble_eq_true rfl) (fun p e s m below meth c ls hx hb hml hr ht hown hlocks hsz hK hP hD hS hN hl => ?_)
  have hA : ∀ a, s.heap.size ≤ a → zA 25 q sz a := fun a h => Or.inr (hsz ▸ h)
  have hl : lv_has ls 1 [(0, .ref (ad 8))] := hl
  have hZ : zSz zMRs 25 q ad av t9 sz s := hsz ▸ hN
  refine va_gets hx hb hZ.2.1 hS hown (ht _ hw_2_195) (fun _ h => h) dJ0_isLatin1_aae02_0 ?_
  refine z_eqi (y := nI 1) rfl ?_
  refine lv_if_eq (tgt := 17) hx hb dJ0_isLatin1_aae02_3 (by decide) (fun c_0 => absurd c_0 (zD_ne zk_1 zk_z (by decide))) (fun _ => ?_)
  refine lv_aload_n hx hb dJ0_isLatin1_aae02_6 rfl (lv_at hl 0 rfl) ?_
  refine vk_getf hx hb (hZ.1.1 8 (by decide)).2.1 hS hown (ht _ hw_8_165) (fun _ h => h) dJ0_isLatin1_aae02_7 ?_
  refine z_eqi (y := nI 0) rfl ?_
  refine lv_if_ne (tgt := 17) hx hb dJ0_isLatin1_aae02_10 (by decide) (fun c_0 => absurd (zD_eq zk_0 zk_z) c_0) (fun _ => ?_)
  refine lv_iconst (v := nI 1) hx hb dJ0_isLatin1_aae02_13 (by decide +kernel) ?_
  refine lv_goto (tgt := 18) hx hb dJ0_isLatin1_aae02_14 (by decide) ?_
  exact z_zret (v := nI 1) hx hb hr hlocks hP hD hS (by decide +kernel) dJ0_isLatin1_aae02_18 ⟨rfl, rfl⟩
set_option maxHeartbeats 4000000 in
set_option maxRecDepth 100000 in
theorem mk_J3_checkIndex_8e157_8 (l : Launch) (D : va_G) (q : Nat → Nat) (cA : Nat → ClassId) (ad av : Nat → Nat) (t9 : Nat) (F : Nat → Nat → Int32) (I R : Nat → Nat → Int32) (J : Nat → Nat → Int64) (hI : mInv F (I, R, J)) (pa0 : Int32) (hpa0 : zR 0 1 pa0) : zNi (zSS zMRs 25 q ad av t9) l D vwCl (zMtys cA) 25 q (zMd q cA) yJ3_checkIndex_8e157 cJ3_checkIndex_8e157 3 (some .int) ({ frames := 0, cells := 0, slots := 0, locals := 0 } : Room) [.int (pa0), .int (nI 2), .null] (I, R, J) (fun r u => zR 0 1 r ∧ u = (I, R, J)) := by
  intro sz
  refine z_bodyN (by decide +kernel) (Nat.le_of_ble_eq_true rfl) (fun p e s m below meth c ls hx hb hml hr ht hown hlocks hsz hK hP hD hS hN hl => ?_)
  have hA : ∀ a, s.heap.size ≤ a → zA 25 q sz a := fun a h => Or.inr (hsz ▸ h)
  have hl : lv_has ls 3 [(0, .int (pa0)), (1, .int (nI 2)), (2, .null)] := hl
  have hZ : zSz zMRs 25 q ad av t9 sz s := hsz ▸ hN
  refine lv_iload_n hx hb dJ3_checkIndex_8e157_0 rfl (lv_at hl 0 rfl) ?_
  refine lv_if_lt (tgt := 9) hx hb dJ3_checkIndex_8e157_1 (by decide) (fun c_0 => absurd c_0 (zD_nlt hpa0 zk_z (by decide))) (fun _ => ?_)
  refine lv_iload_n hx hb dJ3_checkIndex_8e157_4 rfl (lv_at hl 0 rfl) ?_
  refine lv_iload_n hx hb dJ3_checkIndex_8e157_5 rfl (lv_at hl 1 rfl) ?_
  refine lv_icmp_lt (tgt := 16) hx hb dJ3_checkIndex_8e157_6 (by decide) (fun _ => ?_) (fun c_0 => absurd (zD_lt hpa0 zk_2 (by decide)) c_0)
  refine lv_iload_n hx hb dJ3_checkIndex_8e157_16 rfl (lv_at hl 0 rfl) ?_
  exact z_iret (v := pa0) hx hb hr hlocks hP hD hS dJ3_checkIndex_8e157_17 ⟨hpa0, rfl⟩
set_option maxHeartbeats 4000000 in
set_option maxRecDepth 100000 in
theorem mk_J3_checkIndex_8e157_9 (l : Launch) (D : va_G) (q : Nat → Nat) (cA : Nat → ClassId) (ad av : Nat → Nat) (t9 : Nat) (F : Nat → Nat → Int32) (I R : Nat → Nat → Int32) (J : Nat → Nat → Int64) (hI : mInv F (I, R, J)) (pa0 : Int32) (hpa0 : zR 0 1 pa0) : zNi (zSS zMRs 25 q ad av t9) l D vwCl (zMtys cA) 25 q (zMd q cA) yJ3_checkIndex_8e157 cJ3_checkIndex_8e157 3 (some .int) ({ frames := 0, cells := 0, slots := 0, locals := 0 } : Room) [.int (pa0), .int (nI 2), .ref (t9)] (I, R, J) (fun r u => zR 0 1 r ∧ u = (I, R, J)) := by
  intro sz
  refine z_bodyN (by decide +kernel) (Nat.le_of_ble_eq_true rfl) (fun p e s m below meth c ls hx hb hml hr ht hown hlocks hsz hK hP hD hS hN hl => ?_)
  have hA : ∀ a, s.heap.size ≤ a → zA 25 q sz a := fun a h => Or.inr (hsz ▸ h)
  have hl : lv_has ls 3 [(0, .int (pa0)), (1, .int (nI 2)), (2, .ref (t9))] := hl
  have hZ : zSz zMRs 25 q ad av t9 sz s := hsz ▸ hN
  refine lv_iload_n hx hb dJ3_checkIndex_8e157_0 rfl (lv_at hl 0 rfl) ?_
  refine lv_if_lt (tgt := 9) hx hb dJ3_checkIndex_8e157_1 (by decide) (fun c_0 => absurd c_0 (zD_nlt hpa0 zk_z (by decide))) (fun _ => ?_)
  refine lv_iload_n hx hb dJ3_checkIndex_8e157_4 rfl (lv_at hl 0 rfl) ?_
  refine lv_iload_n hx hb dJ3_checkIndex_8e157_5 rfl (lv_at hl 1 rfl) ?_
  refine lv_icmp_lt (tgt := 16) hx hb dJ3_checkIndex_8e157_6 (by decide) (fun _ => ?_) (fun c_0 => absurd (zD_lt hpa0 zk_2 (by decide)) c_0)
  refine lv_iload_n hx hb dJ3_checkIndex_8e157_16 rfl (lv_at hl 0 rfl) ?_
  exact z_iret (v := pa0) hx hb hr hlocks hP hD hS dJ3_checkIndex_8e157_17 ⟨hpa0, rfl⟩
set_option maxHeartbeats 4000000 in
set_option maxRecDepth 100000 in
theorem mk_J0_checkIndex_df160_4 (l : Launch) (D : va_G) (q : Nat → Nat) (cA : Nat → ClassId) (ad av : Nat → Nat) (t9 : Nat) (F : Nat → Nat → Int32) (I R : Nat → Nat → Int32) (J : Nat → Nat → Int64) (hI : mInv F (I, R, J)) (pa0 : Int32) (hpa0 : zR 0 1 pa0) : zNv (zSS zMRs 25 q ad av t9) l D vwCl (zMtys cA) 25 q (zMd q cA) yJ0_checkIndex_df160 cJ0_checkIndex_df160 2 none ({ frames := 1, cells := 0, slots := 0, locals := 22 } : Room) [.int (pa0), .int (nI 2)] (I, R, J) (fun u => u = (I, R, J)) := by
  intro sz
  refine z_bodyN (by decide +kernel) (Nat.le_of_ble_eq_true rfl) (fun p e s m below meth c ls hx hb hml hr ht hown hlocks hsz hK hP hD hS hN hl => ?_)
  have hA : ∀ a, s.heap.size ≤ a → zA 25 q sz a := fun a h => Or.inr (hsz ▸ h)
  have hl : lv_has ls 2 [(0, .int (pa0)), (1, .int (nI 2))] := hl
  have hZ : zSz zMRs 25 q ad av t9 sz s := hsz ▸ hN
  refine lv_iload_n hx hb dJ0_checkIndex_df160_0 rfl (lv_at hl 0 rfl) ?_
  refine lv_iload_n hx hb dJ0_checkIndex_df160_1 rfl (lv_at hl 1 rfl) ?_
  rcases hZ.2.2.1 with hz9 | ⟨t9, hz9⟩
  · refine va_gets hx hb hz9 hS hown (ht _ hw_2_211) (fun _ h => h) dJ0_checkIndex_df160_2 ?_
    refine z_cNSi (As := [.int (pa0), .int (nI 2), .null]) (rest := []) hx hb hml hown ht (mk_J3_checkIndex_8e157_8 l D q cA ad av t9 F _ _ _ hI (pa0) hpa0) hw_2_213 hmJ3_checkIndex_8e157 ⟨rfl, rfl⟩ (na := 3) rfl (by decide +kernel) (by decide) hK hP hD hS hA (zSS_c (Rs := zMRs) (t9 := t9) (fun _ _ _ => zMRs_c)) (zSS_w (Rs := zMRs) (t9 := t9) (fun _ _ _ => zMRs_w) hN hsz hS) hl.1 rfl (Nat.le_of_ble_eq_true rfl) ⟨Nat.zero_le _, Nat.zero_le _⟩ dJ0_checkIndex_df160_5 (fun r_1 I_1 R_1 J_1 H locs hp_1 hP hD hS _ _ => ?_)
    obtain ⟨hr_1, hu_1⟩ := hp_1
    cases hu_1
    refine lv_pop hx hb dJ0_checkIndex_df160_8 rfl ?_
    exact z_vret hx hb hr hlocks hP hD hS dJ0_checkIndex_df160_9 rfl
  · refine va_gets hx hb hz9 hS hown (ht _ hw_2_211) (fun _ h => h) dJ0_checkIndex_df160_2 ?_
    refine z_cNSi (As := [.int (pa0), .int (nI 2), .ref (t9)]) (rest := []) hx hb hml hown ht (mk_J3_checkIndex_8e157_9 l D q cA ad av t9 F _ _ _ hI (pa0) hpa0) hw_2_213 hmJ3_checkIndex_8e157 ⟨rfl, rfl⟩ (na := 3) rfl (by decide +kernel) (by decide) hK hP hD hS hA (zSS_c (Rs := zMRs) (t9 := t9) (fun _ _ _ => zMRs_c)) (zSS_w (Rs := zMRs) (t9 := t9) (fun _ _ _ => zMRs_w) hN hsz hS) hl.1 rfl (Nat.le_of_ble_eq_true rfl) ⟨Nat.zero_le _, Nat.zero_le _⟩ dJ0_checkIndex_df160_5 (fun r_2 I_2 R_2 J_2 H locs hp_2 hP hD hS _ _ => ?_)
    obtain ⟨hr_2, hu_2⟩ := hp_2
    cases hu_2
    refine lv_pop hx hb dJ0_checkIndex_df160_8 rfl ?_
    exact z_vret hx hb hr hlocks hP hD hS dJ0_checkIndex_df160_9 rfl
set_option maxHeartbeats 4000000 in
set_option maxRecDepth 100000 in
theorem mk_J1_charAt_3b067_8 (l : Launch) (D : va_G) (q : Nat → Nat) (cA : Nat → ClassId) (ad av : Nat → Nat) (t9 : Nat) (F : Nat → Nat → Int32) (I R : Nat → Nat → Int32) (J : Nat → Nat → Int64) (hI : mInv F (I, R, J)) (pa1 : Int32) (hpa1 : zR 0 1 pa1) : zNi (zSS zMRs 25 q ad av t9) l D vwCl (zMtys cA) 25 q (zMd q cA) yJ1_charAt_3b067 cJ1_charAt_3b067 2 (some .char) ({ frames := 2, cells := 0, slots := 0, locals := 43 } : Room) [.ref (av 8), .int (pa1)] (I, R, J) (fun r u => (r = zch 8 (pa1).toNatClampNeg ∧ zR 0 65535 r) ∧ u = (I, R, J)) := by
  intro sz
  refine z_bodyN (by decide +kernel) (Nat.le_of_ble_eq_true rfl) (fun p e s m below meth c ls hx hb hml hr ht hown hlocks hsz hK hP hD hS hN hl => ?_)
  have hA : ∀ a, s.heap.size ≤ a → zA 25 q sz a := fun a h => Or.inr (hsz ▸ h)
  have hl : lv_has ls 2 [(0, .ref (av 8)), (1, .int (pa1))] := hl
  have hZ : zSz zMRs 25 q ad av t9 sz s := hsz ▸ hN
  refine lv_iload_n hx hb dJ1_charAt_3b067_0 rfl (lv_at hl 1 rfl) ?_
  refine lv_aload_n hx hb dJ1_charAt_3b067_1 rfl (lv_at hl 0 rfl) ?_
  refine va_tlen hx hb (hZ.1.1 8 (by decide)).2.2.2 hS (v := nI 2) rfl dJ1_charAt_3b067_2 ?_
  refine z_cNSv (As := [.int (pa1), .int (nI 2)]) (rest := []) hx hb hml hown ht (mk_J0_checkIndex_df160_4 l D q cA ad av t9 F _ _ _ hI (pa1) hpa1) hw_2_208 hmJ0_checkIndex_df160 ⟨rfl, rfl⟩ (na := 2) rfl (by decide +kernel) (by decide) hK hP hD hS hA (zSS_c (Rs := zMRs) (t9 := t9) (fun _ _ _ => zMRs_c)) (zSS_w (Rs := zMRs) (t9 := t9) (fun _ _ _ => zMRs_w) hN hsz hS) hl.1 rfl (Nat.le_of_ble_eq_true rfl) ⟨Nat.zero_le _, Nat.zero_le _⟩ dJ1_charAt_3b067_3 (fun I_1 R_1 J_1 H locs hp_1 hP hD hS _ _ => ?_)
  cases hp_1
  refine lv_aload_n hx hb dJ1_charAt_3b067_6 rfl (lv_at hl 0 rfl) ?_
  refine lv_iload_n hx hb dJ1_charAt_3b067_7 rfl (lv_at hl 1 rfl) ?_
  refine va_tb hx hb (hZ.1.1 8 (by decide)).2.2.2 hS (zR_vin hpa1 (by decide)) (v := .int ((zByt.getD 8 []).getD (pa1).toNatClampNeg 0)) rfl dJ1_charAt_3b067_8 ?_
  refine lv_sipush (v := nI 255) hx hb dJ1_charAt_3b067_9 (by decide +kernel) ?_
  refine lv_iand hx hb dJ1_charAt_3b067_12 ?_
  refine lv_i2c (v := ((((zByt.getD 8 []).getD (pa1).toNatClampNeg 0) &&& (nI 255)).toUInt32 % 65536).toInt32) hx hb dJ1_charAt_3b067_13 rfl ?_
  exact z_zret (v := ((((zByt.getD 8 []).getD (pa1).toNatClampNeg 0) &&& (nI 255)).toUInt32 % 65536).toInt32) hx hb hr hlocks hP hD hS (zR_char (zR_i2c _)) dJ1_charAt_3b067_14 ⟨⟨rfl, (zR_i2c _)⟩, rfl⟩
set_option maxHeartbeats 4000000 in
set_option maxRecDepth 100000 in
theorem mk_J0_charAt_5068e_8 (l : Launch) (D : va_G) (q : Nat → Nat) (cA : Nat → ClassId) (ad av : Nat → Nat) (t9 : Nat) (F : Nat → Nat → Int32) (I R : Nat → Nat → Int32) (J : Nat → Nat → Int64) (hI : mInv F (I, R, J)) (pa0 : Int32) (hpa0 : zR 0 1 pa0) : zNi (zSS zMRs 25 q ad av t9) l D vwCl (zMtys cA) 25 q (zMd q cA) yJ0_charAt_5068e cJ0_charAt_5068e 2 (some .char) ({ frames := 3, cells := 0, slots := 0, locals := 64 } : Room) [.ref (ad 8), .int (pa0)] (I, R, J) (fun r u => (r = zch 8 (pa0).toNatClampNeg ∧ zR 0 65535 r) ∧ u = (I, R, J)) := by
  intro sz
  refine z_bodyN (by decide +kernel) (Nat.le_of_ble_eq_true rfl) (fun p e s m below meth c ls hx hb hml hr ht hown hlocks hsz hK hP hD hS hN hl => ?_)
  have hA : ∀ a, s.heap.size ≤ a → zA 25 q sz a := fun a h => Or.inr (hsz ▸ h)
  have hl : lv_has ls 2 [(0, .ref (ad 8)), (1, .int (pa0))] := hl
  have hZ : zSz zMRs 25 q ad av t9 sz s := hsz ▸ hN
  refine lv_aload_n hx hb dJ0_charAt_5068e_0 rfl (lv_at hl 0 rfl) ?_
  refine z_cNXi (As := []) (rest := []) hx hb hml hown ht (mk_J0_isLatin1_aae02_4 l D q cA ad av t9 F _ _ _ hI ) hw_2_201 hmJ0_isLatin1_aae02 ⟨rfl, rfl⟩ (na := 0) rfl (by decide +kernel) (by decide) (vk_recv hZ.1 (by decide) hS) hK hP hD hS hA (zSS_c (Rs := zMRs) (t9 := t9) (fun _ _ _ => zMRs_c)) (zSS_w (Rs := zMRs) (t9 := t9) (fun _ _ _ => zMRs_w) hN hsz hS) hl.1 rfl (Nat.le_of_ble_eq_true rfl) ⟨Nat.zero_le _, Nat.zero_le _⟩ dJ0_charAt_5068e_1 (fun r_1 I_1 R_1 J_1 H locs hp_1 hP hD hS _ _ => ?_)
  obtain ⟨rfl, hu_1⟩ := hp_1
  cases hu_1
  refine lv_if_eq (tgt := 16) hx hb dJ0_charAt_5068e_4 (by decide) (fun c_0 => absurd c_0 (zD_ne zk_1 zk_z (by decide))) (fun _ => ?_)
  refine lv_aload_n hx hb dJ0_charAt_5068e_7 rfl (lv_at hl 0 rfl) ?_
  refine vk_getf hx hb (hZ.1.1 8 (by decide)).2.2.1 hS hown (ht _ hw_8_164) (fun _ h => h) dJ0_charAt_5068e_8 ?_
  refine lv_iload_n hx hb dJ0_charAt_5068e_11 rfl (lv_at hl 1 rfl) ?_
  refine z_cNSi (As := [.ref (av 8), .int (pa0)]) (rest := []) hx hb hml hown ht (mk_J1_charAt_3b067_8 l D q cA ad av t9 F _ _ _ hI (pa0) hpa0) hw_2_205 hmJ1_charAt_3b067 ⟨rfl, rfl⟩ (na := 2) rfl (by decide +kernel) (by decide) hK hP hD hS hA (zSS_c (Rs := zMRs) (t9 := t9) (fun _ _ _ => zMRs_c)) (zSS_w (Rs := zMRs) (t9 := t9) (fun _ _ _ => zMRs_w) hN hsz hS) hl.1 rfl (Nat.le_of_ble_eq_true rfl) ⟨Nat.zero_le _, Nat.zero_le _⟩ dJ0_charAt_5068e_12 (fun r_2 I_2 R_2 J_2 H locs hp_2 hP hD hS _ _ => ?_)
  obtain ⟨⟨rfl, hr_2⟩, hu_2⟩ := hp_2
  cases hu_2
  exact z_zret (v := zch 8 (pa0).toNatClampNeg) hx hb hr hlocks hP hD hS (zR_char hr_2) dJ0_charAt_5068e_15 ⟨⟨rfl, hr_2⟩, rfl⟩
set_option maxHeartbeats 4000000 in
set_option maxRecDepth 100000 in
theorem mk_X11_is_4 (l : Launch) (D : va_G) (q : Nat → Nat) (cA : Nat → ClassId) (ad av : Nat → Nat) (t9 : Nat) (F : Nat → Nat → Int32) (I R : Nat → Nat → Int32) (J : Nat → Nat → Int64) (hI : mInv F (I, R, J))  : zNi (zSS zMRs 25 q ad av t9) l D vwCl (zMtys cA) 25 q (zMd q cA) yX11_is cX11_is 4 (some .boolean) ({ frames := 4, cells := 0, slots := 0, locals := 85 } : Room) [.ref (q 0), .ref (ad 8)] (I, R, J) (fun r u => (r = nI 1 ∧ u = (I, R, J) ∧ mIs 8 I R) ∨ (r = nI 0 ∧ u = (I, R, J) ∧ ¬ mIs 8 I R)) := by
  intro sz
  refine z_bodyN (by decide +kernel) (Nat.le_of_ble_eq_true rfl) (fun p e s m below meth c ls hx hb hml hr ht hown hlocks hsz hK hP hD hS hN hl => ?_)
  have hA : ∀ a, s.heap.size ≤ a → zA 25 q sz a := fun a h => Or.inr (hsz ▸ h)
  have hl : lv_has ls 4 [(0, .ref (q 0)), (1, .ref (ad 8))] := hl
  have hZ : zSz zMRs 25 q ad av t9 sz s := hsz ▸ hN
  refine lv_aload_n hx hb dX11_is_0 rfl (lv_at hl 0 rfl) ?_
  refine z_callVi (k := 0) (As := []) (rest := []) hx hb hml hown ht (mk_X11_good l D q cA F _ _ _ hI ) hw_6_123 hmX11_good ⟨rfl, rfl⟩ (na := 0) rfl (by decide +kernel) (by decide) (by decide) rfl rfl hK hP hD hS hA hl.1 rfl (Nat.le_of_ble_eq_true rfl) ⟨Nat.zero_le _, Nat.zero_le _⟩ dX11_is_1 (fun r_1 I_1 R_1 J_1 H locs hp_1 hP hD hS _ _ => ?_)
  rcases hp_1 with ⟨rfl, hu_1, nn_1⟩ | ⟨rfl, hu_1, nn_1⟩
  · cases hu_1
    refine lv_if_eq (tgt := 35) hx hb dX11_is_4 (by decide) (fun c_0 => absurd c_0 (zD_ne zk_1 zk_z (by decide))) (fun _ => ?_)
    refine lv_aload_n hx hb dX11_is_7 rfl (lv_at hl 0 rfl) ?_
    refine z_get hx hb ht hown hK hP ziX11 rfl 0 (by decide) 10 (by decide) hw_5_197 rfl (v := .int (I 0 10)) rfl dX11_is_8 ?_
    refine lv_iconst (v := nI 1) hx hb dX11_is_11 (by decide +kernel) ?_
    refine lv_icmp_ne (tgt := 35) hx hb dX11_is_12 (by decide) (fun c_2 => ?_) (fun c_2 => ?_)
    · have t_c_2 := z_eqF c_2
      refine lv_iconst (v := nI 0) hx hb dX11_is_35 (by decide +kernel) ?_
      refine lv_istore_n (lv' := [(2, .int (nI 0)), (0, .ref (q 0)), (1, .ref (ad 8))]) hx hb dX11_is_36 rfl hl (by decide) rfl (fun ls hl => ?_)
      refine lv_iconst (v := nI 0) hx hb dX11_is_37 (by decide +kernel) ?_
      refine lv_istore_n (lv' := [(3, .int (nI 0)), (2, .int (nI 0)), (0, .ref (q 0)), (1, .ref (ad 8))]) hx hb dX11_is_38 rfl hl (by decide) rfl (fun ls hl => ?_)
      refine lv_iload_n hx hb dX11_is_39 rfl (lv_at hl 0 rfl) ?_
      refine lv_aload_n hx hb dX11_is_40 rfl (lv_at hl 3 rfl) ?_
      refine z_cNXi (As := []) (rest := [.int (nI 0)]) hx hb hml hown ht (mk_J0_length_8abf5_4 l D q cA ad av t9 F _ _ _ hI ) hw_6_144 hmJ0_length_8abf5 ⟨rfl, rfl⟩ (na := 0) rfl (by decide +kernel) (by decide) (vk_recv hZ.1 (by decide) hS) hK hP hD hS hA (zSS_c (Rs := zMRs) (t9 := t9) (fun _ _ _ => zMRs_c)) (zSS_w (Rs := zMRs) (t9 := t9) (fun _ _ _ => zMRs_w) hN hsz hS) hl.1 rfl (Nat.le_of_ble_eq_true rfl) ⟨Nat.zero_le _, Nat.zero_le _⟩ dX11_is_41 (fun r_5 I_5 R_5 J_5 H locs hp_5 hP hD hS _ _ => ?_)
      obtain ⟨rfl, hu_5⟩ := hp_5
      cases hu_5
      refine lv_icmp_ge (tgt := 82) hx hb dX11_is_44 (by decide) (fun c_0 => absurd c_0 (zD_nle zk_2 zk_0 (by decide))) (fun _ => ?_)
      refine lv_iload_n hx hb dX11_is_47 rfl (lv_at hl 1 rfl) ?_
      refine lv_if_eq (tgt := 82) hx hb dX11_is_48 (by decide) (fun _ => ?_) (fun c_0 => absurd (zD_eq zk_0 zk_z) c_0)
      refine lv_iload_n hx hb dX11_is_82 rfl (lv_at hl 1 rfl) ?_
      exact z_zret (v := nI 0) hx hb hr hlocks hP hD hS (by decide +kernel) dX11_is_83 (Or.inr ⟨rfl, rfl, (mIs_n2 t_c_2)⟩)
    · have t_c_2 := z_eqT c_2
      have f_6 : zR 1 1 (I 0 10) := zR_eqx t_c_2 zk_1
      refine lv_aload_n hx hb dX11_is_15 rfl (lv_at hl 0 rfl) ?_
      refine z_get hx hb ht hown hK hP ziX11 rfl 0 (by decide) 8 (by decide) hw_5_195 rfl (v := .int (I 0 8)) rfl dX11_is_16 ?_
      have f_7 : zR 0 800 (I 0 8) := mI hI 0 8
      refine lv_aload_n hx hb dX11_is_19 rfl (lv_at hl 0 rfl) ?_
      refine z_get hx hb ht hown hK hP ziX11 rfl 0 (by decide) 9 (by decide) hw_5_196 rfl (v := .int (I 0 9)) rfl dX11_is_20 ?_
      have f_8 : zR 0 800 (I 0 9) := mI hI 0 9
      refine lv_isub hx hb dX11_is_23 ?_
      refine lv_topi (fun v_9 ev_9 => ?_)
      have hv_9 : zR (-800) 800 v_9 := ev_9 ▸ zR_sub f_7 f_8 (by decide)
      refine lv_aload_n hx hb dX11_is_24 rfl (lv_at hl 1 rfl) ?_
      refine z_cNXi (As := []) (rest := [.int (v_9)]) hx hb hml hown ht (mk_J0_length_8abf5_4 l D q cA ad av t9 F _ _ _ hI ) hw_6_144 hmJ0_length_8abf5 ⟨rfl, rfl⟩ (na := 0) rfl (by decide +kernel) (by decide) (vk_recv hZ.1 (by decide) hS) hK hP hD hS hA (zSS_c (Rs := zMRs) (t9 := t9) (fun _ _ _ => zMRs_c)) (zSS_w (Rs := zMRs) (t9 := t9) (fun _ _ _ => zMRs_w) hN hsz hS) hl.1 rfl (Nat.le_of_ble_eq_true rfl) ⟨Nat.zero_le _, Nat.zero_le _⟩ dX11_is_25 (fun r_10 I_10 R_10 J_10 H locs hp_10 hP hD hS _ _ => ?_)
      obtain ⟨rfl, hu_10⟩ := hp_10
      cases hu_10
      refine lv_icmp_ne (tgt := 35) hx hb dX11_is_28 (by decide) (fun c_11 => ?_) (fun c_11 => ?_)
      · have t_c_11 := z_eqF c_11
        refine lv_iconst (v := nI 0) hx hb dX11_is_35 (by decide +kernel) ?_
        refine lv_istore_n (lv' := [(2, .int (nI 0)), (0, .ref (q 0)), (1, .ref (ad 8))]) hx hb dX11_is_36 rfl hl (by decide) rfl (fun ls hl => ?_)
        refine lv_iconst (v := nI 0) hx hb dX11_is_37 (by decide +kernel) ?_
        refine lv_istore_n (lv' := [(3, .int (nI 0)), (2, .int (nI 0)), (0, .ref (q 0)), (1, .ref (ad 8))]) hx hb dX11_is_38 rfl hl (by decide) rfl (fun ls hl => ?_)
        refine lv_iload_n hx hb dX11_is_39 rfl (lv_at hl 0 rfl) ?_
        refine lv_aload_n hx hb dX11_is_40 rfl (lv_at hl 3 rfl) ?_
        refine z_cNXi (As := []) (rest := [.int (nI 0)]) hx hb hml hown ht (mk_J0_length_8abf5_4 l D q cA ad av t9 F _ _ _ hI ) hw_6_144 hmJ0_length_8abf5 ⟨rfl, rfl⟩ (na := 0) rfl (by decide +kernel) (by decide) (vk_recv hZ.1 (by decide) hS) hK hP hD hS hA (zSS_c (Rs := zMRs) (t9 := t9) (fun _ _ _ => zMRs_c)) (zSS_w (Rs := zMRs) (t9 := t9) (fun _ _ _ => zMRs_w) hN hsz hS) hl.1 rfl (Nat.le_of_ble_eq_true rfl) ⟨Nat.zero_le _, Nat.zero_le _⟩ dX11_is_41 (fun r_14 I_14 R_14 J_14 H locs hp_14 hP hD hS _ _ => ?_)
        obtain ⟨rfl, hu_14⟩ := hp_14
        cases hu_14
        refine lv_icmp_ge (tgt := 82) hx hb dX11_is_44 (by decide) (fun c_0 => absurd c_0 (zD_nle zk_2 zk_0 (by decide))) (fun _ => ?_)
        refine lv_iload_n hx hb dX11_is_47 rfl (lv_at hl 1 rfl) ?_
        refine lv_if_eq (tgt := 82) hx hb dX11_is_48 (by decide) (fun _ => ?_) (fun c_0 => absurd (zD_eq zk_0 zk_z) c_0)
        refine lv_iload_n hx hb dX11_is_82 rfl (lv_at hl 1 rfl) ?_
        exact z_zret (v := nI 0) hx hb hr hlocks hP hD hS (by decide +kernel) dX11_is_83 (Or.inr ⟨rfl, rfl, (mIs_n3 ev_9 t_c_11)⟩)
      · have t_c_11 := z_eqT c_11
        have f_15 : zR 2 2 (v_9) := zR_eqx t_c_11 zk_2
        have f_16 : zR 0 798 (I 0 9) := z_start f_7 f_8 ev_9 f_15 (by decide)
        refine lv_iconst (v := nI 1) hx hb dX11_is_31 (by decide +kernel) ?_
        refine lv_goto (tgt := 36) hx hb dX11_is_32 (by decide) ?_
        refine lv_istore_n (lv' := [(2, .int (nI 1)), (0, .ref (q 0)), (1, .ref (ad 8))]) hx hb dX11_is_36 rfl hl (by decide) rfl (fun ls hl => ?_)
        refine lv_iconst (v := nI 0) hx hb dX11_is_37 (by decide +kernel) ?_
        refine lv_istore_n (lv' := [(3, .int (nI 0)), (2, .int (nI 1)), (0, .ref (q 0)), (1, .ref (ad 8))]) hx hb dX11_is_38 rfl hl (by decide) rfl (fun ls hl => ?_)
        have loop_71 : ∀ N : Nat, ∀ x_68 : Int32, zR 0 1 x_68 → ∀ x_69 : Int32, zR 0 2 x_69 → (mIsL 8 I R (x_69) (x_68)) → (2147483648 - (x_69).toInt).toNat < N → ∀ (H : Heap) (locs : List Loc), va_P D vwCl (zw 25 q (zMd q cA) I R J) H → va_D (zA 25 q sz) (zw 25 q (zMd q cA) I R J) → va_S (zA 25 q sz) s.heap H locs → ∀ ls : Array Slot, lv_has ls 4 [(0, .ref (q 0)), (1, .ref (ad 8)), (2, .int (x_68)), (3, .int (x_69))] → W p l e ({ frames := 4, cells := 0, slots := 0, locals := 85 } : Room) s m ([.ref (q 0), .ref (ad 8)] : List Value).toArray below meth c H locs 0 0 (MQ below (va_Qi (fun r u => (r = nI 1 ∧ u = (I, R, J) ∧ mIs 8 I R) ∨ (r = nI 0 ∧ u = (I, R, J) ∧ ¬ mIs 8 I R)) (zB D vwCl 25 q (zMd q cA) sz) (zA 25 q sz)) ([.ref (q 0), .ref (ad 8)] : List Value).toArray s 0 0 (zA 25 q sz)) (F0 m 39 ls []) := by
          intro N
          induction N with
          | zero => intro x_68 hx_68 x_69 hx_69 hx_70 hN; exact absurd hN (Nat.not_lt_zero _)
          | succ N ih_73 =>
            intro x_68 hx_68 x_69 hx_69 hx_70 hN_72 H locs hP hD hS ls hl
            refine lv_iload_n hx hb dX11_is_39 rfl (lv_at hl 3 rfl) ?_
            refine lv_aload_n hx hb dX11_is_40 rfl (lv_at hl 1 rfl) ?_
            refine z_cNXi (As := []) (rest := [.int (x_69)]) hx hb hml hown ht (mk_J0_length_8abf5_4 l D q cA ad av t9 F _ _ _ hI ) hw_6_144 hmJ0_length_8abf5 ⟨rfl, rfl⟩ (na := 0) rfl (by decide +kernel) (by decide) (vk_recv hZ.1 (by decide) hS) hK hP hD hS hA (zSS_c (Rs := zMRs) (t9 := t9) (fun _ _ _ => zMRs_c)) (zSS_w (Rs := zMRs) (t9 := t9) (fun _ _ _ => zMRs_w) hN hsz hS) hl.1 rfl (Nat.le_of_ble_eq_true rfl) ⟨Nat.zero_le _, Nat.zero_le _⟩ dX11_is_41 (fun r_74 I_74 R_74 J_74 H locs hp_74 hP hD hS _ _ => ?_)
            obtain ⟨rfl, hu_74⟩ := hp_74
            cases hu_74
            refine lv_icmp_ge (tgt := 82) hx hb dX11_is_44 (by decide) (fun c_75 => ?_) (fun c_75 => ?_)
            · have t_c_75 := z_leT c_75
              have f_76 : zR 2 2 (x_69) := zR_ley t_c_75 zk_2 hx_69 (by decide)
              refine lv_iload_n hx hb dX11_is_82 rfl (lv_at hl 2 rfl) ?_
              exact z_zret (v := x_68) hx hb hr hlocks hP hD hS (zR_bool (a := 0) (b := 1) hx_68 (by decide)).1 dX11_is_83 (mIs_r1 hx_70 hx_68 t_c_75)
            · have t_c_75 := z_leF c_75
              have f_77 : zR 0 1 (x_69) := zR_ltx t_c_75 hx_69 zk_2 (by decide)
              refine lv_iload_n hx hb dX11_is_47 rfl (lv_at hl 2 rfl) ?_
              refine lv_if_eq (tgt := 82) hx hb dX11_is_48 (by decide) (fun c_78 => ?_) (fun c_78 => ?_)
              · have t_c_78 := z_eqT c_78
                have f_79 : zR 0 0 (x_68) := zR_eqx t_c_78 zk_z
                refine lv_iload_n hx hb dX11_is_82 rfl (lv_at hl 2 rfl) ?_
                exact z_zret (v := x_68) hx hb hr hlocks hP hD hS (zR_bool (a := 0) (b := 1) (zR_w f_79 (by decide)) (by decide)).1 dX11_is_83 (mIs_r0 hx_70 f_79)
              · have t_c_78 := z_eqF c_78
                have f_80 : zR 1 1 (x_68) := zR_nex t_c_78 hx_68 zk_z (by decide)
                refine lv_aload_n hx hb dX11_is_51 rfl (lv_at hl 0 rfl) ?_
                refine z_get hx hb ht hown hK hP ziX11 rfl 0 (by decide) 4 (by decide) hw_5_191 rfl (v := .ref (q 4)) rfl dX11_is_52 ?_
                refine lv_aload_n hx hb dX11_is_55 rfl (lv_at hl 0 rfl) ?_
                refine z_get hx hb ht hown hK hP ziX11 rfl 0 (by decide) 9 (by decide) hw_5_196 rfl (v := .int (I 0 9)) rfl dX11_is_56 ?_
                refine lv_iload_n hx hb dX11_is_59 rfl (lv_at hl 3 rfl) ?_
                refine lv_iadd hx hb dX11_is_60 ?_
                refine lv_topi (fun v_81 ev_81 => ?_)
                have hv_81 : zR 0 799 v_81 := ev_81 ▸ zR_add f_16 f_77 (by decide)
                refine z_bald hx hb hK hP 4 (by decide) 3 rfl rfl (zR_vin hv_81 (by decide)) dX11_is_61 ?_
                refine z_eqi (y := R 4 (v_81).toNatClampNeg) rfl ?_
                refine lv_aload_n hx hb dX11_is_62 rfl (lv_at hl 1 rfl) ?_
                refine lv_iload_n hx hb dX11_is_63 rfl (lv_at hl 3 rfl) ?_
                refine z_cNXi (As := [.int (x_69)]) (rest := [.int (R 4 (v_81).toNatClampNeg)]) hx hb hml hown ht (mk_J0_charAt_5068e_8 l D q cA ad av t9 F _ _ _ hI (x_69) f_77) hw_6_145 hmJ0_charAt_5068e ⟨rfl, rfl⟩ (na := 1) rfl (by decide +kernel) (by decide) (vk_recv hZ.1 (by decide) hS) hK hP hD hS hA (zSS_c (Rs := zMRs) (t9 := t9) (fun _ _ _ => zMRs_c)) (zSS_w (Rs := zMRs) (t9 := t9) (fun _ _ _ => zMRs_w) hN hsz hS) hl.1 rfl (Nat.le_of_ble_eq_true rfl) ⟨Nat.zero_le _, Nat.zero_le _⟩ dX11_is_64 (fun r_82 I_82 R_82 J_82 H locs hp_82 hP hD hS _ _ => ?_)
                obtain ⟨⟨rfl, hr_82⟩, hu_82⟩ := hp_82
                cases hu_82
                refine lv_icmp_ne (tgt := 74) hx hb dX11_is_67 (by decide) (fun c_83 => ?_) (fun c_83 => ?_)
                · have t_c_83 := z_eqF c_83
                  refine lv_iconst (v := nI 0) hx hb dX11_is_74 (by decide +kernel) ?_
                  refine lv_istore_n (lv' := [(2, .int (nI 0)), (0, .ref (q 0)), (1, .ref (ad 8)), (3, .int (x_69))]) hx hb dX11_is_75 rfl hl (by decide) rfl (fun ls hl => ?_)
                  obtain ⟨v_84, ev_84⟩ : ∃ y : Int32, y = x_69 + nI 1 := ⟨_, rfl⟩
                  have hv_84 : zR 1 2 v_84 := ev_84 ▸ zR_add f_77 zk_1 (by decide)
                  have mv_84 : v_84.toInt = (x_69).toInt + 1 := by rw [ev_84, zR_addE f_77 zk_1 (by decide)]; rfl
                  refine lv_iinc (v := v_84) (lv' := [(3, .int (v_84)), (2, .int (nI 0)), (0, .ref (q 0)), (1, .ref (ad 8))]) hx hb dX11_is_76 hl (k := 3) rfl (ev_84 ▸ rfl) (by decide) rfl (fun ls hl => ?_)
                  refine lv_goto (tgt := 39) hx hb dX11_is_79 (by decide) ?_
                  exact ih_73 (nI 0) (zR_w zk_0 (by decide)) (v_84) (zR_w hv_84 (by decide)) (mIsL_n hx_70 f_80 t_c_75 t_c_83 (mIs_ix (zR_w f_16 (by decide)) (zR_w f_77 (by decide)) ev_81)) (z2_up mv_84 (by decide) hN_72) _ _ hP hD hS _ (lv_sub hl [2, 3, 1, 0] rfl)
                · have t_c_83 := z_eqT c_83
                  have f_85 : zR 0 65535 (R 4 (v_81).toNatClampNeg) := zR_eqx t_c_83 hr_82
                  refine lv_iconst (v := nI 1) hx hb dX11_is_70 (by decide +kernel) ?_
                  refine lv_goto (tgt := 75) hx hb dX11_is_71 (by decide) ?_
                  refine lv_istore_n (lv' := [(2, .int (nI 1)), (0, .ref (q 0)), (1, .ref (ad 8)), (3, .int (x_69))]) hx hb dX11_is_75 rfl hl (by decide) rfl (fun ls hl => ?_)
                  obtain ⟨v_86, ev_86⟩ : ∃ y : Int32, y = x_69 + nI 1 := ⟨_, rfl⟩
                  have hv_86 : zR 1 2 v_86 := ev_86 ▸ zR_add f_77 zk_1 (by decide)
                  have mv_86 : v_86.toInt = (x_69).toInt + 1 := by rw [ev_86, zR_addE f_77 zk_1 (by decide)]; rfl
                  refine lv_iinc (v := v_86) (lv' := [(3, .int (v_86)), (2, .int (nI 1)), (0, .ref (q 0)), (1, .ref (ad 8))]) hx hb dX11_is_76 hl (k := 3) rfl (ev_86 ▸ rfl) (by decide) rfl (fun ls hl => ?_)
                  refine lv_goto (tgt := 39) hx hb dX11_is_79 (by decide) ?_
                  exact ih_73 (nI 1) (zR_w zk_1 (by decide)) (v_86) (zR_w hv_86 (by decide)) (mIsL_1 hx_70 f_80 mv_86 t_c_83 (mIs_ix (zR_w f_16 (by decide)) (zR_w f_77 (by decide)) ev_81)) (z2_up mv_86 (by decide) hN_72) _ _ hP hD hS _ (lv_sub hl [2, 3, 1, 0] rfl)
        exact loop_71 _ (nI 1) (zR_w zk_1 (by decide)) (nI 0) (zR_w zk_0 (by decide)) (mIsL_0 (mIs_a3 nn_1 t_c_2 ev_9 f_15)) (Nat.lt_succ_self _) _ _ hP hD hS _ (lv_sub hl [2, 3, 1, 0] rfl)
  · cases hu_1
    refine lv_if_eq (tgt := 35) hx hb dX11_is_4 (by decide) (fun _ => ?_) (fun c_0 => absurd (zD_eq zk_0 zk_z) c_0)
    refine lv_iconst (v := nI 0) hx hb dX11_is_35 (by decide +kernel) ?_
    refine lv_istore_n (lv' := [(2, .int (nI 0)), (0, .ref (q 0)), (1, .ref (ad 8))]) hx hb dX11_is_36 rfl hl (by decide) rfl (fun ls hl => ?_)
    refine lv_iconst (v := nI 0) hx hb dX11_is_37 (by decide +kernel) ?_
    refine lv_istore_n (lv' := [(3, .int (nI 0)), (2, .int (nI 0)), (0, .ref (q 0)), (1, .ref (ad 8))]) hx hb dX11_is_38 rfl hl (by decide) rfl (fun ls hl => ?_)
    refine lv_iload_n hx hb dX11_is_39 rfl (lv_at hl 0 rfl) ?_
    refine lv_aload_n hx hb dX11_is_40 rfl (lv_at hl 3 rfl) ?_
    refine z_cNXi (As := []) (rest := [.int (nI 0)]) hx hb hml hown ht (mk_J0_length_8abf5_4 l D q cA ad av t9 F _ _ _ hI ) hw_6_144 hmJ0_length_8abf5 ⟨rfl, rfl⟩ (na := 0) rfl (by decide +kernel) (by decide) (vk_recv hZ.1 (by decide) hS) hK hP hD hS hA (zSS_c (Rs := zMRs) (t9 := t9) (fun _ _ _ => zMRs_c)) (zSS_w (Rs := zMRs) (t9 := t9) (fun _ _ _ => zMRs_w) hN hsz hS) hl.1 rfl (Nat.le_of_ble_eq_true rfl) ⟨Nat.zero_le _, Nat.zero_le _⟩ dX11_is_41 (fun r_89 I_89 R_89 J_89 H locs hp_89 hP hD hS _ _ => ?_)
    obtain ⟨rfl, hu_89⟩ := hp_89
    cases hu_89
    refine lv_icmp_ge (tgt := 82) hx hb dX11_is_44 (by decide) (fun c_0 => absurd c_0 (zD_nle zk_2 zk_0 (by decide))) (fun _ => ?_)
    refine lv_iload_n hx hb dX11_is_47 rfl (lv_at hl 1 rfl) ?_
    refine lv_if_eq (tgt := 82) hx hb dX11_is_48 (by decide) (fun _ => ?_) (fun c_0 => absurd (zD_eq zk_0 zk_z) c_0)
    refine lv_iload_n hx hb dX11_is_82 rfl (lv_at hl 1 rfl) ?_
    exact z_zret (v := nI 0) hx hb hr hlocks hP hD hS (by decide +kernel) dX11_is_83 (Or.inr ⟨rfl, rfl, (mIs_n1 nn_1)⟩)
set_option maxHeartbeats 4000000 in
set_option maxRecDepth 100000 in
theorem mk_X11_takes_4 (l : Launch) (D : va_G) (q : Nat → Nat) (cA : Nat → ClassId) (ad av : Nat → Nat) (t9 : Nat) (F : Nat → Nat → Int32) (I R : Nat → Nat → Int32) (J : Nat → Nat → Int64) (hI : mInv F (I, R, J))  : zNi (zSS zMRs 25 q ad av t9) l D vwCl (zMtys cA) 25 q (zMd q cA) yX11_takes cX11_takes 3 (some .boolean) ({ frames := 5, cells := 0, slots := 0, locals := 108 } : Room) [.ref (q 0), .ref (ad 8)] (I, R, J) (fun r u => (r = nI 1 ∧ ((mInv F u ∧ (∀ k, k ≠ 0 → u.1 k = I k) ∧ u.2 = (R, J)) ∧ mTr I u.1) ∧ mIs 8 I R) ∨ (r = nI 0 ∧ u = (I, R, J) ∧ ¬ mIs 8 I R)) := by
  intro sz
  refine z_bodyN (by decide +kernel) (Nat.le_of_ble_eq_true rfl) (fun p e s m below meth c ls hx hb hml hr ht hown hlocks hsz hK hP hD hS hN hl => ?_)
  have hA : ∀ a, s.heap.size ≤ a → zA 25 q sz a := fun a h => Or.inr (hsz ▸ h)
  have hl : lv_has ls 3 [(0, .ref (q 0)), (1, .ref (ad 8))] := hl
  have hZ : zSz zMRs 25 q ad av t9 sz s := hsz ▸ hN
  refine lv_aload_n hx hb dX11_takes_0 rfl (lv_at hl 0 rfl) ?_
  refine lv_aload_n hx hb dX11_takes_1 rfl (lv_at hl 1 rfl) ?_
  refine z_cNVi (k := 0) (As := [.ref (ad 8)]) (rest := []) hx hb hml hown ht (mk_X11_is_4 l D q cA ad av t9 F _ _ _ hI ) hw_6_140 hmX11_is ⟨rfl, rfl⟩ (na := 1) rfl (by decide +kernel) (by decide) (by decide) rfl rfl hK hP hD hS hA (zSS_c (Rs := zMRs) (t9 := t9) (fun _ _ _ => zMRs_c)) (zSS_w (Rs := zMRs) (t9 := t9) (fun _ _ _ => zMRs_w) hN hsz hS) hl.1 rfl (Nat.le_of_ble_eq_true rfl) ⟨Nat.zero_le _, Nat.zero_le _⟩ dX11_takes_2 (fun r_1 I_1 R_1 J_1 H locs hp_1 hP hD hS _ _ => ?_)
  rcases hp_1 with ⟨rfl, hu_1, nn_1⟩ | ⟨rfl, hu_1, nn_1⟩
  · cases hu_1
    refine lv_istore_n (lv' := [(2, .int (nI 1)), (0, .ref (q 0)), (1, .ref (ad 8))]) hx hb dX11_takes_5 rfl hl (by decide) rfl (fun ls hl => ?_)
    refine lv_iload_n hx hb dX11_takes_6 rfl (lv_at hl 0 rfl) ?_
    refine lv_if_eq (tgt := 14) hx hb dX11_takes_7 (by decide) (fun c_0 => absurd c_0 (zD_ne zk_1 zk_z (by decide))) (fun _ => ?_)
    refine lv_aload_n hx hb dX11_takes_10 rfl (lv_at hl 1 rfl) ?_
    refine z_callVv (k := 0) (As := []) (rest := []) hx hb hml hown ht (mk_X11_advance l D q cA F _ _ _ hI ) hw_6_109 hmX11_advance ⟨rfl, rfl⟩ (na := 0) rfl (by decide +kernel) (by decide) (by decide) rfl rfl hK hP hD hS hA hl.1 rfl (Nat.le_of_ble_eq_true rfl) ⟨Nat.zero_le _, Nat.zero_le _⟩ dX11_takes_11 (fun I_2 R_2 J_2 H locs hp_2 hP hD hS _ _ => ?_)
    obtain ⟨hq_2, he_2⟩ := hp_2
    try dsimp only at he_2
    obtain ⟨hv_2, hk_2, hj_2⟩ := hq_2
    try dsimp only at hj_2 hk_2
    cases hj_2
    have hf_3 : ∀ k, k ≠ 0 → I_2 k = I k := fun k h => (hk_2 k h).trans ((fun (_ : Nat) _ => rfl) k h)
    refine lv_iload_n hx hb dX11_takes_14 rfl (lv_at hl 0 rfl) ?_
    exact z_zret (v := nI 1) hx hb hr hlocks hP hD hS (by decide +kernel) dX11_takes_15 (Or.inl ⟨rfl, ⟨⟨hv_2, hf_3, rfl⟩, he_2⟩, nn_1⟩)
  · cases hu_1
    refine lv_istore_n (lv' := [(2, .int (nI 0)), (0, .ref (q 0)), (1, .ref (ad 8))]) hx hb dX11_takes_5 rfl hl (by decide) rfl (fun ls hl => ?_)
    refine lv_iload_n hx hb dX11_takes_6 rfl (lv_at hl 0 rfl) ?_
    refine lv_if_eq (tgt := 14) hx hb dX11_takes_7 (by decide) (fun _ => ?_) (fun c_0 => absurd (zD_eq zk_0 zk_z) c_0)
    refine lv_iload_n hx hb dX11_takes_14 rfl (lv_at hl 0 rfl) ?_
    exact z_zret (v := nI 0) hx hb hr hlocks hP hD hS (by decide +kernel) dX11_takes_15 (Or.inr ⟨rfl, rfl, nn_1⟩)
set_option maxHeartbeats 4000000 in
set_option maxRecDepth 100000 in
theorem mk_X11_needs_1 (l : Launch) (D : va_G) (q : Nat → Nat) (cA : Nat → ClassId) (ad av : Nat → Nat) (t9 : Nat) (F : Nat → Nat → Int32) (I R : Nat → Nat → Int32) (J : Nat → Nat → Int64) (hI : mInv F (I, R, J))  : zNv (zSS zMRs 25 q ad av t9) l D vwCl (zMtys cA) 25 q (zMd q cA) yX11_needs cX11_needs 2 none ({ frames := 6, cells := 0, slots := 0, locals := 130 } : Room) [.ref (q 0), .ref (ad 8)] (I, R, J) (fun u => (mInv F u ∧ (∀ k, k ≠ 0 → u.1 k = I k) ∧ u.2 = (R, J)) ∧ mTr I u.1) := by
  intro sz
  refine z_bodyN (by decide +kernel) (Nat.le_of_ble_eq_true rfl) (fun p e s m below meth c ls hx hb hml hr ht hown hlocks hsz hK hP hD hS hN hl => ?_)
  have hA : ∀ a, s.heap.size ≤ a → zA 25 q sz a := fun a h => Or.inr (hsz ▸ h)
  have hl : lv_has ls 2 [(0, .ref (q 0)), (1, .ref (ad 8))] := hl
  have hZ : zSz zMRs 25 q ad av t9 sz s := hsz ▸ hN
  refine lv_aload_n hx hb dX11_needs_0 rfl (lv_at hl 0 rfl) ?_
  refine lv_aload_n hx hb dX11_needs_1 rfl (lv_at hl 1 rfl) ?_
  refine z_cNVi (k := 0) (As := [.ref (ad 8)]) (rest := []) hx hb hml hown ht (mk_X11_takes_4 l D q cA ad av t9 F _ _ _ hI ) hw_6_136 hmX11_takes ⟨rfl, rfl⟩ (na := 1) rfl (by decide +kernel) (by decide) (by decide) rfl rfl hK hP hD hS hA (zSS_c (Rs := zMRs) (t9 := t9) (fun _ _ _ => zMRs_c)) (zSS_w (Rs := zMRs) (t9 := t9) (fun _ _ _ => zMRs_w) hN hsz hS) hl.1 rfl (Nat.le_of_ble_eq_true rfl) ⟨Nat.zero_le _, Nat.zero_le _⟩ dX11_needs_2 (fun r_1 I_1 R_1 J_1 H locs hp_1 hP hD hS _ _ => ?_)
  rcases hp_1 with ⟨rfl, hu_1, nn_1⟩ | ⟨rfl, hu_1, nn_1⟩
  · obtain ⟨hq_1, he_1⟩ := hu_1
    try dsimp only at he_1
    obtain ⟨hv_1, hk_1, hj_1⟩ := hq_1
    try dsimp only at hj_1 hk_1
    cases hj_1
    have hf_2 : ∀ k, k ≠ 0 → I_1 k = I k := fun k h => (hk_1 k h).trans ((fun (_ : Nat) _ => rfl) k h)
    refine lv_if_ne (tgt := 13) hx hb dX11_needs_5 (by decide) (fun _ => ?_) (fun c_0 => absurd c_0 (zD_ne zk_1 zk_z (by decide)))
    exact z_vret hx hb hr hlocks hP hD hS dX11_needs_13 ⟨⟨hv_1, hf_2, rfl⟩, he_1⟩
  · cases hu_1
    refine lv_if_ne (tgt := 13) hx hb dX11_needs_5 (by decide) (fun c_0 => absurd (zD_eq zk_0 zk_z) c_0) (fun _ => ?_)
    refine lv_aload_n hx hb dX11_needs_8 rfl (lv_at hl 0 rfl) ?_
    refine lv_iconst (v := nI 1) hx hb dX11_needs_9 (by decide +kernel) ?_
    refine z_callVv (k := 0) (As := [.int (nI 1)]) (rest := []) hx hb hml hown ht (mk_X11_errs l D q cA F _ _ _ hI ) hw_6_146 hmX11_errs ⟨rfl, rfl⟩ (na := 1) rfl (by decide +kernel) (by decide) (by decide) rfl rfl hK hP hD hS hA hl.1 rfl (Nat.le_of_ble_eq_true rfl) ⟨Nat.zero_le _, Nat.zero_le _⟩ dX11_needs_10 (fun I_3 R_3 J_3 H locs hp_3 hP hD hS _ _ => ?_)
    obtain ⟨hq_3, he_3⟩ := hp_3
    obtain ⟨hv_3, hk_3, hj_3⟩ := hq_3
    try dsimp only at hj_3 hk_3
    cases hj_3
    have hf_4 : ∀ k, k ≠ 0 → I_3 k = I k := fun k h => (hk_3 k h).trans ((fun (_ : Nat) _ => rfl) k h)
    exact z_vret hx hb hr hlocks hP hD hS dX11_needs_13 ⟨⟨hv_3, hf_4, rfl⟩, (mTr_f he_3)⟩
set_option maxHeartbeats 4000000 in
set_option maxRecDepth 100000 in
theorem mk_X11_number_1 (l : Launch) (D : va_G) (q : Nat → Nat) (cA : Nat → ClassId) (F : Nat → Nat → Int32) (I R : Nat → Nat → Int32) (J : Nat → Nat → Int64) (hI : mInv F (I, R, J)) (pa1 : Int32) (hpa1 : zR (-1) 4 pa1) : zMi l D vwCl (zMtys cA) 25 q (zMd q cA) yX11_number cX11_number 4 (some .int) ({ frames := 2, cells := 0, slots := 0, locals := 85 } : Room) [.ref (q 0), .int (nI 0), .int (pa1)] (I, R, J) (fun r u => ((mInv F u ∧ (∀ k, k ≠ 0 → u.1 k = I k) ∧ u.2 = (R, J)) ∧ mTr I u.1) ∧ zR 0 4 r) := by
  intro sz
  refine z_body (by decide +kernel) (Nat.le_of_ble_eq_true rfl) (fun p e s m below meth c ls hx hb hml hr ht hown hlocks hsz hK hP hD hS hl => ?_)
  have hA : ∀ a, s.heap.size ≤ a → zA 25 q sz a := fun a h => Or.inr (hsz ▸ h)
  have hl : lv_has ls 4 [(0, .ref (q 0)), (1, .int (nI 0)), (2, .int (pa1))] := hl
  refine lv_aload_n hx hb dX11_number_0 rfl (lv_at hl 0 rfl) ?_
  refine z_callVi (k := 0) (As := []) (rest := []) hx hb hml hown ht (mk_X11_good l D q cA F _ _ _ hI ) hw_6_123 hmX11_good ⟨rfl, rfl⟩ (na := 0) rfl (by decide +kernel) (by decide) (by decide) rfl rfl hK hP hD hS hA hl.1 rfl (Nat.le_of_ble_eq_true rfl) ⟨Nat.zero_le _, Nat.zero_le _⟩ dX11_number_1 (fun r_1 I_1 R_1 J_1 H locs hp_1 hP hD hS _ _ => ?_)
  rcases hp_1 with ⟨rfl, hu_1, nn_1⟩ | ⟨rfl, hu_1, nn_1⟩
  · cases hu_1
    refine lv_if_eq (tgt := 20) hx hb dX11_number_4 (by decide) (fun c_0 => absurd c_0 (zD_ne zk_1 zk_z (by decide))) (fun _ => ?_)
    refine lv_aload_n hx hb dX11_number_7 rfl (lv_at hl 0 rfl) ?_
    refine z_get hx hb ht hown hK hP ziX11 rfl 0 (by decide) 10 (by decide) hw_5_197 rfl (v := .int (I 0 10)) rfl dX11_number_8 ?_
    refine lv_iconst (v := nI 2) hx hb dX11_number_11 (by decide +kernel) ?_
    refine lv_icmp_eq (tgt := 20) hx hb dX11_number_12 (by decide) (fun c_2 => ?_) (fun c_2 => ?_)
    · have t_c_2 := z_eqT c_2
      have f_3 : zR 2 2 (I 0 10) := zR_eqx t_c_2 zk_2
      refine lv_aload_n hx hb dX11_number_20 rfl (lv_at hl 0 rfl) ?_
      refine z_callVi (k := 0) (As := []) (rest := []) hx hb hml hown ht (mk_X11_good l D q cA F _ _ _ hI ) hw_6_123 hmX11_good ⟨rfl, rfl⟩ (na := 0) rfl (by decide +kernel) (by decide) (by decide) rfl rfl hK hP hD hS hA hl.1 rfl (Nat.le_of_ble_eq_true rfl) ⟨Nat.zero_le _, Nat.zero_le _⟩ dX11_number_21 (fun r_4 I_4 R_4 J_4 H locs hp_4 hP hD hS _ _ => ?_)
      rcases hp_4 with ⟨rfl, hu_4, nn_4⟩ | ⟨rfl, hu_4, nn_4⟩
      · cases hu_4
        refine lv_if_eq (tgt := 47) hx hb dX11_number_24 (by decide) (fun c_0 => absurd c_0 (zD_ne zk_1 zk_z (by decide))) (fun _ => ?_)
        refine lv_aload_n hx hb dX11_number_27 rfl (lv_at hl 0 rfl) ?_
        refine z_get hx hb ht hown hK hP ziX11 rfl 0 (by decide) 11 (by decide) hw_5_198 rfl (v := .int (I 0 11)) rfl dX11_number_28 ?_
        refine lv_i2l (v := (I 0 11).toInt64) hx hb dX11_number_31 rfl ?_
        refine lv_iload_n hx hb dX11_number_32 rfl (lv_at hl 1 rfl) ?_
        refine lv_i2l (v := (0 : Int64)) hx hb dX11_number_33 (by decide +kernel) ?_
        refine lv_iload_n hx hb dX11_number_34 rfl (lv_at hl 2 rfl) ?_
        refine lv_i2l (v := (pa1).toInt64) hx hb dX11_number_35 rfl ?_
        refine z_callSi (As := [.long ((I 0 11).toInt64), .long ((0 : Int64)), .long ((pa1).toInt64)]) (rest := []) hx hb hml hown ht (mk_X11_in l D q cA F _ _ _ hI ((I 0 11).toInt64) ((0 : Int64)) ((pa1).toInt64)) hw_6_86 hmX11_in ⟨rfl, rfl⟩ (na := 3) rfl (by decide +kernel) (by decide) hK hP hD hS hA hl.1 rfl (Nat.le_of_ble_eq_true rfl) ⟨Nat.zero_le _, Nat.zero_le _⟩ dX11_number_36 (fun r_5 I_5 R_5 J_5 H locs hp_5 hP hD hS _ _ => ?_)
        rcases hp_5 with ⟨rfl, hu_5, h1_5, h2_5⟩ | ⟨rfl, hu_5, h1_5 | h2_5⟩
        · cases hu_5
          have f_6 : zL 0 2147483647 ((I 0 11).toInt64) := zL_ley h1_5 zkl_0 (zR_i2l (zR_any (I 0 11))) (by decide)
          have f_7 : zR 0 2147483647 (I 0 11) := zL_back f_6
          have f_8 : zL 0 4 ((I 0 11).toInt64) := zL_lex h2_5 f_6 (zR_i2l hpa1) (by decide)
          have f_9 : zR 0 4 (I 0 11) := zL_back f_8
          have f_10 : zL 0 4 ((pa1).toInt64) := zL_ley h2_5 f_6 (zR_i2l hpa1) (by decide)
          have f_11 : zR 0 4 (pa1) := zL_back f_10
          refine lv_if_ne (tgt := 47) hx hb dX11_number_39 (by decide) (fun _ => ?_) (fun c_0 => absurd c_0 (zD_ne zk_1 zk_z (by decide)))
          refine lv_aload_n hx hb dX11_number_47 rfl (lv_at hl 0 rfl) ?_
          refine z_callVi (k := 0) (As := []) (rest := []) hx hb hml hown ht (mk_X11_good l D q cA F _ _ _ hI ) hw_6_123 hmX11_good ⟨rfl, rfl⟩ (na := 0) rfl (by decide +kernel) (by decide) (by decide) rfl rfl hK hP hD hS hA hl.1 rfl (Nat.le_of_ble_eq_true rfl) ⟨Nat.zero_le _, Nat.zero_le _⟩ dX11_number_48 (fun r_12 I_12 R_12 J_12 H locs hp_12 hP hD hS _ _ => ?_)
          rcases hp_12 with ⟨rfl, hu_12, nn_12⟩ | ⟨rfl, hu_12, nn_12⟩
          · cases hu_12
            refine lv_if_ne (tgt := 56) hx hb dX11_number_51 (by decide) (fun _ => ?_) (fun c_0 => absurd c_0 (zD_ne zk_1 zk_z (by decide)))
            refine lv_aload_n hx hb dX11_number_56 rfl (lv_at hl 0 rfl) ?_
            refine z_get hx hb ht hown hK hP ziX11 rfl 0 (by decide) 11 (by decide) hw_5_198 rfl (v := .int (I 0 11)) rfl dX11_number_57 ?_
            refine lv_istore_n (lv' := [(3, .int (I 0 11)), (0, .ref (q 0)), (1, .int (nI 0)), (2, .int (pa1))]) hx hb dX11_number_60 rfl hl (by decide) rfl (fun ls hl => ?_)
            refine lv_aload_n hx hb dX11_number_61 rfl (lv_at hl 1 rfl) ?_
            refine z_callVv (k := 0) (As := []) (rest := []) hx hb hml hown ht (mk_X11_advance l D q cA F _ _ _ hI ) hw_6_109 hmX11_advance ⟨rfl, rfl⟩ (na := 0) rfl (by decide +kernel) (by decide) (by decide) rfl rfl hK hP hD hS hA hl.1 rfl (Nat.le_of_ble_eq_true rfl) ⟨Nat.zero_le _, Nat.zero_le _⟩ dX11_number_62 (fun I_13 R_13 J_13 H locs hp_13 hP hD hS _ _ => ?_)
            obtain ⟨hq_13, he_13⟩ := hp_13
            try dsimp only at he_13
            obtain ⟨hv_13, hk_13, hj_13⟩ := hq_13
            try dsimp only at hj_13 hk_13
            cases hj_13
            have hf_14 : ∀ k, k ≠ 0 → I_13 k = I k := fun k h => (hk_13 k h).trans ((fun (_ : Nat) _ => rfl) k h)
            refine lv_iload_n hx hb dX11_number_65 rfl (lv_at hl 0 rfl) ?_
            exact z_iret (v := I 0 11) hx hb hr hlocks hP hD hS dX11_number_66 ⟨⟨⟨hv_13, hf_14, rfl⟩, he_13⟩, f_9⟩
          · cases hu_12
            exact (zR_abs2 nn_12 nn_4 (by decide)).elim
        · cases hu_5
          have f_15 : zL (-2147483648) (-1) ((I 0 11).toInt64) := zL_ltx h1_5 (zR_i2l (zR_any (I 0 11))) zkl_0 (by decide)
          have f_16 : zR (-2147483648) (-1) (I 0 11) := zL_back f_15
          refine lv_if_ne (tgt := 47) hx hb dX11_number_39 (by decide) (fun c_0 => absurd (zD_eq zk_0 zk_z) c_0) (fun _ => ?_)
          refine lv_aload_n hx hb dX11_number_42 rfl (lv_at hl 0 rfl) ?_
          refine lv_iconst (v := nI 2) hx hb dX11_number_43 (by decide +kernel) ?_
          refine z_callVv (k := 0) (As := [.int (nI 2)]) (rest := []) hx hb hml hown ht (mk_X11_errs_1 l D q cA F _ _ _ hI ) hw_6_146 hmX11_errs ⟨rfl, rfl⟩ (na := 1) rfl (by decide +kernel) (by decide) (by decide) rfl rfl hK hP hD hS hA hl.1 rfl (Nat.le_of_ble_eq_true rfl) ⟨Nat.zero_le _, Nat.zero_le _⟩ dX11_number_44 (fun I_17 R_17 J_17 H locs hp_17 hP hD hS _ _ => ?_)
          obtain ⟨hq_17, he_17⟩ := hp_17
          obtain ⟨hv_17, hk_17, hj_17⟩ := hq_17
          try dsimp only at hj_17 hk_17
          cases hj_17
          have hf_18 : ∀ k, k ≠ 0 → I_17 k = I k := fun k h => (hk_17 k h).trans ((fun (_ : Nat) _ => rfl) k h)
          refine lv_aload_n hx hb dX11_number_47 rfl (lv_at hl 0 rfl) ?_
          refine z_callVi (k := 0) (As := []) (rest := []) hx hb hml hown ht (mk_X11_good l D q cA F _ _ _ hv_17 ) hw_6_123 hmX11_good ⟨rfl, rfl⟩ (na := 0) rfl (by decide +kernel) (by decide) (by decide) rfl rfl hK hP hD hS hA hl.1 rfl (Nat.le_of_ble_eq_true rfl) ⟨Nat.zero_le _, Nat.zero_le _⟩ dX11_number_48 (fun r_19 I_19 R_19 J_19 H locs hp_19 hP hD hS _ _ => ?_)
          rcases hp_19 with ⟨rfl, hu_19, nn_19⟩ | ⟨rfl, hu_19, nn_19⟩
          · cases hu_19
            exact (zR_abs2 nn_19 he_17 (by decide)).elim
          · cases hu_19
            refine lv_if_ne (tgt := 56) hx hb dX11_number_51 (by decide) (fun c_0 => absurd (zD_eq zk_0 zk_z) c_0) (fun _ => ?_)
            refine lv_iconst (v := nI 0) hx hb dX11_number_54 (by decide +kernel) ?_
            exact z_iret (v := nI 0) hx hb hr hlocks hP hD hS dX11_number_55 ⟨⟨⟨hv_17, hf_18, rfl⟩, (mTr_f he_17)⟩, (zR_w zk_0 (by decide))⟩
        · cases hu_5
          have f_20 : zL 0 2147483647 ((I 0 11).toInt64) := zL_lty h2_5 (zR_i2l hpa1) (zR_i2l (zR_any (I 0 11))) (by decide)
          have f_21 : zR 0 2147483647 (I 0 11) := zL_back f_20
          refine lv_if_ne (tgt := 47) hx hb dX11_number_39 (by decide) (fun c_0 => absurd (zD_eq zk_0 zk_z) c_0) (fun _ => ?_)
          refine lv_aload_n hx hb dX11_number_42 rfl (lv_at hl 0 rfl) ?_
          refine lv_iconst (v := nI 2) hx hb dX11_number_43 (by decide +kernel) ?_
          refine z_callVv (k := 0) (As := [.int (nI 2)]) (rest := []) hx hb hml hown ht (mk_X11_errs_1 l D q cA F _ _ _ hI ) hw_6_146 hmX11_errs ⟨rfl, rfl⟩ (na := 1) rfl (by decide +kernel) (by decide) (by decide) rfl rfl hK hP hD hS hA hl.1 rfl (Nat.le_of_ble_eq_true rfl) ⟨Nat.zero_le _, Nat.zero_le _⟩ dX11_number_44 (fun I_22 R_22 J_22 H locs hp_22 hP hD hS _ _ => ?_)
          obtain ⟨hq_22, he_22⟩ := hp_22
          obtain ⟨hv_22, hk_22, hj_22⟩ := hq_22
          try dsimp only at hj_22 hk_22
          cases hj_22
          have hf_23 : ∀ k, k ≠ 0 → I_22 k = I k := fun k h => (hk_22 k h).trans ((fun (_ : Nat) _ => rfl) k h)
          refine lv_aload_n hx hb dX11_number_47 rfl (lv_at hl 0 rfl) ?_
          refine z_callVi (k := 0) (As := []) (rest := []) hx hb hml hown ht (mk_X11_good l D q cA F _ _ _ hv_22 ) hw_6_123 hmX11_good ⟨rfl, rfl⟩ (na := 0) rfl (by decide +kernel) (by decide) (by decide) rfl rfl hK hP hD hS hA hl.1 rfl (Nat.le_of_ble_eq_true rfl) ⟨Nat.zero_le _, Nat.zero_le _⟩ dX11_number_48 (fun r_24 I_24 R_24 J_24 H locs hp_24 hP hD hS _ _ => ?_)
          rcases hp_24 with ⟨rfl, hu_24, nn_24⟩ | ⟨rfl, hu_24, nn_24⟩
          · cases hu_24
            exact (zR_abs2 nn_24 he_22 (by decide)).elim
          · cases hu_24
            refine lv_if_ne (tgt := 56) hx hb dX11_number_51 (by decide) (fun c_0 => absurd (zD_eq zk_0 zk_z) c_0) (fun _ => ?_)
            refine lv_iconst (v := nI 0) hx hb dX11_number_54 (by decide +kernel) ?_
            exact z_iret (v := nI 0) hx hb hr hlocks hP hD hS dX11_number_55 ⟨⟨⟨hv_22, hf_23, rfl⟩, (mTr_f he_22)⟩, (zR_w zk_0 (by decide))⟩
      · cases hu_4
        exact (zR_abs2 nn_4 nn_1 (by decide)).elim
    · have t_c_2 := z_eqF c_2
      refine lv_aload_n hx hb dX11_number_15 rfl (lv_at hl 0 rfl) ?_
      refine lv_iconst (v := nI 1) hx hb dX11_number_16 (by decide +kernel) ?_
      refine z_callVv (k := 0) (As := [.int (nI 1)]) (rest := []) hx hb hml hown ht (mk_X11_errs l D q cA F _ _ _ hI ) hw_6_146 hmX11_errs ⟨rfl, rfl⟩ (na := 1) rfl (by decide +kernel) (by decide) (by decide) rfl rfl hK hP hD hS hA hl.1 rfl (Nat.le_of_ble_eq_true rfl) ⟨Nat.zero_le _, Nat.zero_le _⟩ dX11_number_17 (fun I_25 R_25 J_25 H locs hp_25 hP hD hS _ _ => ?_)
      obtain ⟨hq_25, he_25⟩ := hp_25
      obtain ⟨hv_25, hk_25, hj_25⟩ := hq_25
      try dsimp only at hj_25 hk_25
      cases hj_25
      have hf_26 : ∀ k, k ≠ 0 → I_25 k = I k := fun k h => (hk_25 k h).trans ((fun (_ : Nat) _ => rfl) k h)
      refine lv_aload_n hx hb dX11_number_20 rfl (lv_at hl 0 rfl) ?_
      refine z_callVi (k := 0) (As := []) (rest := []) hx hb hml hown ht (mk_X11_good l D q cA F _ _ _ hv_25 ) hw_6_123 hmX11_good ⟨rfl, rfl⟩ (na := 0) rfl (by decide +kernel) (by decide) (by decide) rfl rfl hK hP hD hS hA hl.1 rfl (Nat.le_of_ble_eq_true rfl) ⟨Nat.zero_le _, Nat.zero_le _⟩ dX11_number_21 (fun r_27 I_27 R_27 J_27 H locs hp_27 hP hD hS _ _ => ?_)
      rcases hp_27 with ⟨rfl, hu_27, nn_27⟩ | ⟨rfl, hu_27, nn_27⟩
      · cases hu_27
        exact (zR_abs2 nn_27 he_25 (by decide)).elim
      · cases hu_27
        refine lv_if_eq (tgt := 47) hx hb dX11_number_24 (by decide) (fun _ => ?_) (fun c_0 => absurd (zD_eq zk_0 zk_z) c_0)
        refine lv_aload_n hx hb dX11_number_47 rfl (lv_at hl 0 rfl) ?_
        refine z_callVi (k := 0) (As := []) (rest := []) hx hb hml hown ht (mk_X11_good l D q cA F _ _ _ hv_25 ) hw_6_123 hmX11_good ⟨rfl, rfl⟩ (na := 0) rfl (by decide +kernel) (by decide) (by decide) rfl rfl hK hP hD hS hA hl.1 rfl (Nat.le_of_ble_eq_true rfl) ⟨Nat.zero_le _, Nat.zero_le _⟩ dX11_number_48 (fun r_28 I_28 R_28 J_28 H locs hp_28 hP hD hS _ _ => ?_)
        rcases hp_28 with ⟨rfl, hu_28, nn_28⟩ | ⟨rfl, hu_28, nn_28⟩
        · cases hu_28
          exact (zR_abs2 nn_28 nn_27 (by decide)).elim
        · cases hu_28
          refine lv_if_ne (tgt := 56) hx hb dX11_number_51 (by decide) (fun c_0 => absurd (zD_eq zk_0 zk_z) c_0) (fun _ => ?_)
          refine lv_iconst (v := nI 0) hx hb dX11_number_54 (by decide +kernel) ?_
          exact z_iret (v := nI 0) hx hb hr hlocks hP hD hS dX11_number_55 ⟨⟨⟨hv_25, hf_26, rfl⟩, (mTr_f he_25)⟩, (zR_w zk_0 (by decide))⟩
  · cases hu_1
    refine lv_if_eq (tgt := 20) hx hb dX11_number_4 (by decide) (fun _ => ?_) (fun c_0 => absurd (zD_eq zk_0 zk_z) c_0)
    refine lv_aload_n hx hb dX11_number_20 rfl (lv_at hl 0 rfl) ?_
    refine z_callVi (k := 0) (As := []) (rest := []) hx hb hml hown ht (mk_X11_good l D q cA F _ _ _ hI ) hw_6_123 hmX11_good ⟨rfl, rfl⟩ (na := 0) rfl (by decide +kernel) (by decide) (by decide) rfl rfl hK hP hD hS hA hl.1 rfl (Nat.le_of_ble_eq_true rfl) ⟨Nat.zero_le _, Nat.zero_le _⟩ dX11_number_21 (fun r_29 I_29 R_29 J_29 H locs hp_29 hP hD hS _ _ => ?_)
    rcases hp_29 with ⟨rfl, hu_29, nn_29⟩ | ⟨rfl, hu_29, nn_29⟩
    · cases hu_29
      exact (zR_abs2 nn_29 nn_1 (by decide)).elim
    · cases hu_29
      refine lv_if_eq (tgt := 47) hx hb dX11_number_24 (by decide) (fun _ => ?_) (fun c_0 => absurd (zD_eq zk_0 zk_z) c_0)
      refine lv_aload_n hx hb dX11_number_47 rfl (lv_at hl 0 rfl) ?_
      refine z_callVi (k := 0) (As := []) (rest := []) hx hb hml hown ht (mk_X11_good l D q cA F _ _ _ hI ) hw_6_123 hmX11_good ⟨rfl, rfl⟩ (na := 0) rfl (by decide +kernel) (by decide) (by decide) rfl rfl hK hP hD hS hA hl.1 rfl (Nat.le_of_ble_eq_true rfl) ⟨Nat.zero_le _, Nat.zero_le _⟩ dX11_number_48 (fun r_30 I_30 R_30 J_30 H locs hp_30 hP hD hS _ _ => ?_)
      rcases hp_30 with ⟨rfl, hu_30, nn_30⟩ | ⟨rfl, hu_30, nn_30⟩
      · cases hu_30
        exact (zR_abs2 nn_30 nn_29 (by decide)).elim
      · cases hu_30
        refine lv_if_ne (tgt := 56) hx hb dX11_number_51 (by decide) (fun c_0 => absurd (zD_eq zk_0 zk_z) c_0) (fun _ => ?_)
        refine lv_iconst (v := nI 0) hx hb dX11_number_54 (by decide +kernel) ?_
        exact z_iret (v := nI 0) hx hb hr hlocks hP hD hS dX11_number_55 ⟨⟨⟨hI, (fun (_ : Nat) _ => rfl), rfl⟩, (mTr_f nn_30)⟩, (zR_w zk_0 (by decide))⟩
set_option maxHeartbeats 4000000 in
set_option maxRecDepth 100000 in
theorem mk_X11_told_1 (l : Launch) (D : va_G) (q : Nat → Nat) (cA : Nat → ClassId) (ad av : Nat → Nat) (t9 : Nat) (F : Nat → Nat → Int32) (I R : Nat → Nat → Int32) (J : Nat → Nat → Int64) (hI : mInv F (I, R, J)) (pa2 : Int32) (hpa2 : zR (-1) 4 pa2) : zNi (zSS zMRs 25 q ad av t9) l D vwCl (zMtys cA) 25 q (zMd q cA) yX11_told cX11_told 4 (some .int) ({ frames := 7, cells := 0, slots := 0, locals := 151 } : Room) [.ref (q 0), .ref (ad 8), .int (nI 0), .int (pa2)] (I, R, J) (fun r u => ((mInv F u ∧ (∀ k, k ≠ 0 → u.1 k = I k) ∧ u.2 = (R, J)) ∧ mTr I u.1) ∧ zR 0 4 r) := by
  intro sz
  refine z_bodyN (by decide +kernel) (Nat.le_of_ble_eq_true rfl) (fun p e s m below meth c ls hx hb hml hr ht hown hlocks hsz hK hP hD hS hN hl => ?_)
  have hA : ∀ a, s.heap.size ≤ a → zA 25 q sz a := fun a h => Or.inr (hsz ▸ h)
  have hl : lv_has ls 4 [(0, .ref (q 0)), (1, .ref (ad 8)), (2, .int (nI 0)), (3, .int (pa2))] := hl
  have hZ : zSz zMRs 25 q ad av t9 sz s := hsz ▸ hN
  refine lv_aload_n hx hb dX11_told_0 rfl (lv_at hl 0 rfl) ?_
  refine lv_aload_n hx hb dX11_told_1 rfl (lv_at hl 1 rfl) ?_
  refine z_cNVv (k := 0) (As := [.ref (ad 8)]) (rest := []) hx hb hml hown ht (mk_X11_needs_1 l D q cA ad av t9 F _ _ _ hI ) hw_6_132 hmX11_needs ⟨rfl, rfl⟩ (na := 1) rfl (by decide +kernel) (by decide) (by decide) rfl rfl hK hP hD hS hA (zSS_c (Rs := zMRs) (t9 := t9) (fun _ _ _ => zMRs_c)) (zSS_w (Rs := zMRs) (t9 := t9) (fun _ _ _ => zMRs_w) hN hsz hS) hl.1 rfl (Nat.le_of_ble_eq_true rfl) ⟨Nat.zero_le _, Nat.zero_le _⟩ dX11_told_2 (fun I_1 R_1 J_1 H locs hp_1 hP hD hS _ _ => ?_)
  obtain ⟨hq_1, he_1⟩ := hp_1
  try dsimp only at he_1
  obtain ⟨hv_1, hk_1, hj_1⟩ := hq_1
  try dsimp only at hj_1 hk_1
  cases hj_1
  have hf_2 : ∀ k, k ≠ 0 → I_1 k = I k := fun k h => (hk_1 k h).trans ((fun (_ : Nat) _ => rfl) k h)
  refine lv_aload_n hx hb dX11_told_5 rfl (lv_at hl 0 rfl) ?_
  refine lv_iload_n hx hb dX11_told_6 rfl (lv_at hl 2 rfl) ?_
  refine lv_iload_n hx hb dX11_told_7 rfl (lv_at hl 3 rfl) ?_
  refine z_callVi (k := 0) (As := [.int (nI 0), .int (pa2)]) (rest := []) hx hb hml hown ht (mk_X11_number_1 l D q cA F _ _ _ hv_1 (pa2) hpa2) hw_6_155 hmX11_number ⟨rfl, rfl⟩ (na := 2) rfl (by decide +kernel) (by decide) (by decide) rfl rfl hK hP hD hS hA hl.1 rfl (Nat.le_of_ble_eq_true rfl) ⟨Nat.zero_le _, Nat.zero_le _⟩ dX11_told_8 (fun r_3 I_3 R_3 J_3 H locs hp_3 hP hD hS _ _ => ?_)
  obtain ⟨⟨hq_3, he_3⟩, hr_3⟩ := hp_3
  try dsimp only at he_3
  obtain ⟨hv_3, hk_3, hj_3⟩ := hq_3
  try dsimp only at hj_3 hk_3
  cases hj_3
  have hf_4 : ∀ k, k ≠ 0 → I_3 k = I k := fun k h => (hk_3 k h).trans (hf_2 k h)
  exact z_iret (v := r_3) hx hb hr hlocks hP hD hS dX11_told_11 ⟨⟨⟨hv_3, hf_4, rfl⟩, (mTr_t he_1 he_3)⟩, hr_3⟩
