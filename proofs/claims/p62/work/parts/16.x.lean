set_option maxHeartbeats 4000000 in
set_option maxRecDepth 100000 in
theorem xk_X6_spans_1 (l : Launch) (D : va_G) (q : Nat → Nat) (cA : Nat → ClassId) (F : Nat → Nat → Int32) (I R : Nat → Nat → Int32) (J : Nat → Nat → Int64) (hI : xInv F (I, R, J)) (pa0 : Int32) (pa1 : Int32) : zMi l D vwCl (zXtys cA) 81 q (zXd q cA) yX6_spans cX6_spans 3 (some .boolean) ({ frames := 0, cells := 0, slots := 0, locals := 0 } : Room) [.ref (q 75), .int (pa0), .int (pa1)] (I, R, J) (fun r u => (r = nI 1 ∧ u = (I, R, J) ∧ 0 ≤ pa0.toInt ∧ 0 ≤ pa1.toInt ∧ pa0.toInt + pa1.toInt ≤ (I 75 1).toInt) ∨ (r = nI 0 ∧ u = (I, R, J) ∧ (pa0.toInt < 0 ∨ pa1.toInt < 0 ∨ (I 75 1).toInt < pa0.toInt + pa1.toInt))) := by
  intro sz
  refine z_body (by decide +kernel) (Nat.le_of_ble_eq_true rfl) (fun p e s m below meth c ls hx hb hml hr ht hown hlocks hsz hK hP hD hS hl => ?_)
  have hA : ∀ a, s.heap.size ≤ a → zA 81 q sz a := fun a h => Or.inr (hsz ▸ h)
  have hl : lv_has ls 3 [(0, .ref (q 75)), (1, .int (pa0)), (2, .int (pa1))] := hl
  refine lv_iload_n hx hb dX6_spans_0 rfl (lv_at hl 1 rfl) ?_
  refine lv_if_lt (tgt := 30) hx hb dX6_spans_1 (by decide) (fun c_1 => ?_) (fun c_1 => ?_)
  · have t_c_1 := z_ltT c_1
    have f_2 : zR (-2147483648) (-1) (pa0) := zR_ltx t_c_1 (zR_any (pa0)) zk_z (by decide)
    refine lv_iconst (v := nI 0) hx hb dX6_spans_30 (by decide +kernel) ?_
    exact z_zret (v := nI 0) hx hb hr hlocks hP hD hS (by decide +kernel) dX6_spans_31 (Or.inr ⟨rfl, rfl, (by have z0 : (0 : Int32).toInt = 0 := (by decide +kernel); have _ := t_c_1; obtain ⟨_, _⟩ := (show zR (-1) 60 (I 75 1) from xI hI 75 1); omega)⟩)
  · have t_c_1 := z_ltF c_1
    have f_3 : zR 0 2147483647 (pa0) := zR_ley t_c_1 zk_z (zR_any (pa0)) (by decide)
    refine lv_iload_n hx hb dX6_spans_4 rfl (lv_at hl 2 rfl) ?_
    refine lv_if_lt (tgt := 30) hx hb dX6_spans_5 (by decide) (fun c_4 => ?_) (fun c_4 => ?_)
    · have t_c_4 := z_ltT c_4
      have f_5 : zR (-2147483648) (-1) (pa1) := zR_ltx t_c_4 (zR_any (pa1)) zk_z (by decide)
      refine lv_iconst (v := nI 0) hx hb dX6_spans_30 (by decide +kernel) ?_
      exact z_zret (v := nI 0) hx hb hr hlocks hP hD hS (by decide +kernel) dX6_spans_31 (Or.inr ⟨rfl, rfl, (by have z0 : (0 : Int32).toInt = 0 := (by decide +kernel); have _ := t_c_1; have _ := t_c_4; obtain ⟨_, _⟩ := (show zR (-1) 60 (I 75 1) from xI hI 75 1); omega)⟩)
    · have t_c_4 := z_ltF c_4
      have f_6 : zR 0 2147483647 (pa1) := zR_ley t_c_4 zk_z (zR_any (pa1)) (by decide)
      refine lv_iload_n hx hb dX6_spans_8 rfl (lv_at hl 2 rfl) ?_
      refine lv_aload_n hx hb dX6_spans_9 rfl (lv_at hl 0 rfl) ?_
      refine z_get hx hb ht hown hK hP ziX6 rfl 75 (by decide) 1 (by decide) hw_2_79 rfl (v := .int (I 75 1)) rfl dX6_spans_10 ?_
      have f_7 : zR (-1) 60 (I 75 1) := xI hI 75 1
      refine lv_icmp_gt (tgt := 30) hx hb dX6_spans_13 (by decide) (fun c_8 => ?_) (fun c_8 => ?_)
      · have t_c_8 := z_ltT c_8
        refine lv_iconst (v := nI 0) hx hb dX6_spans_30 (by decide +kernel) ?_
        exact z_zret (v := nI 0) hx hb hr hlocks hP hD hS (by decide +kernel) dX6_spans_31 (Or.inr ⟨rfl, rfl, (by have z0 : (0 : Int32).toInt = 0 := (by decide +kernel); have _ := t_c_1; have _ := t_c_4; have _ := t_c_8; obtain ⟨_, _⟩ := (show zR (-1) 60 (I 75 1) from xI hI 75 1); omega)⟩)
      · have t_c_8 := z_ltF c_8
        have f_9 : zR 0 60 (pa1) := zR_lex t_c_8 f_6 f_7 (by decide)
        have f_10 : zR 0 60 (I 75 1) := zR_ley t_c_8 f_6 f_7 (by decide)
        refine lv_iload_n hx hb dX6_spans_16 rfl (lv_at hl 1 rfl) ?_
        refine lv_aload_n hx hb dX6_spans_17 rfl (lv_at hl 0 rfl) ?_
        refine z_get hx hb ht hown hK hP ziX6 rfl 75 (by decide) 1 (by decide) hw_2_79 rfl (v := .int (I 75 1)) rfl dX6_spans_18 ?_
        refine lv_iload_n hx hb dX6_spans_21 rfl (lv_at hl 2 rfl) ?_
        refine lv_isub hx hb dX6_spans_22 ?_
        refine lv_topi (fun v_11 ev_11 => ?_)
        have hv_11 : zR (-60) 60 v_11 := ev_11 ▸ zR_sub f_10 f_9 (by decide)
        refine lv_icmp_gt (tgt := 30) hx hb dX6_spans_23 (by decide) (fun c_12 => ?_) (fun c_12 => ?_)
        · have t_c_12 := z_ltT c_12
          refine lv_iconst (v := nI 0) hx hb dX6_spans_30 (by decide +kernel) ?_
          exact z_zret (v := nI 0) hx hb hr hlocks hP hD hS (by decide +kernel) dX6_spans_31 (Or.inr ⟨rfl, rfl, (by have z0 : (0 : Int32).toInt = 0 := (by decide +kernel); have _ := t_c_1; have _ := t_c_4; have _ := t_c_8; have _ := t_c_12; obtain ⟨_, _⟩ := (show zR (-1) 60 (I 75 1) from xI hI 75 1); have e1 := z2_sub (x := I 75 1) (y := pa1) (by omega) (by omega); have e2 := congrArg Int32.toInt ev_11; omega)⟩)
        · have t_c_12 := z_ltF c_12
          have f_13 : zR 0 60 (pa0) := zR_lex t_c_12 f_3 hv_11 (by decide)
          have f_14 : zR 0 60 (v_11) := zR_ley t_c_12 f_3 hv_11 (by decide)
          refine lv_iconst (v := nI 1) hx hb dX6_spans_26 (by decide +kernel) ?_
          refine lv_goto (tgt := 31) hx hb dX6_spans_27 (by decide) ?_
          exact z_zret (v := nI 1) hx hb hr hlocks hP hD hS (by decide +kernel) dX6_spans_31 (Or.inl ⟨rfl, rfl, (by have z0 : (0 : Int32).toInt = 0 := (by decide +kernel); have _ := t_c_1; have _ := t_c_4; have _ := t_c_8; have _ := t_c_12; obtain ⟨_, _⟩ := (show zR (-1) 60 (I 75 1) from xI hI 75 1); have e1 := z2_sub (x := I 75 1) (y := pa1) (by omega) (by omega); have e2 := congrArg Int32.toInt ev_11; omega), (by have z0 : (0 : Int32).toInt = 0 := (by decide +kernel); have _ := t_c_1; have _ := t_c_4; have _ := t_c_8; have _ := t_c_12; obtain ⟨_, _⟩ := (show zR (-1) 60 (I 75 1) from xI hI 75 1); have e1 := z2_sub (x := I 75 1) (y := pa1) (by omega) (by omega); have e2 := congrArg Int32.toInt ev_11; omega), (by have z0 : (0 : Int32).toInt = 0 := (by decide +kernel); have _ := t_c_1; have _ := t_c_4; have _ := t_c_8; have _ := t_c_12; obtain ⟨_, _⟩ := (show zR (-1) 60 (I 75 1) from xI hI 75 1); have e1 := z2_sub (x := I 75 1) (y := pa1) (by omega) (by omega); have e2 := congrArg Int32.toInt ev_11; omega)⟩)
set_option maxHeartbeats 4000000 in
set_option maxRecDepth 100000 in
theorem xk_X6_spans_2 (l : Launch) (D : va_G) (q : Nat → Nat) (cA : Nat → ClassId) (F : Nat → Nat → Int32) (I R : Nat → Nat → Int32) (J : Nat → Nat → Int64) (hI : xInv F (I, R, J)) (pa0 : Int32) (pa1 : Int32) : zMi l D vwCl (zXtys cA) 81 q (zXd q cA) yX6_spans cX6_spans 3 (some .boolean) ({ frames := 0, cells := 0, slots := 0, locals := 0 } : Room) [.ref (q 77), .int (pa0), .int (pa1)] (I, R, J) (fun r u => (r = nI 1 ∧ u = (I, R, J) ∧ 0 ≤ pa0.toInt ∧ 0 ≤ pa1.toInt ∧ pa0.toInt + pa1.toInt ≤ (I 77 1).toInt) ∨ (r = nI 0 ∧ u = (I, R, J) ∧ (pa0.toInt < 0 ∨ pa1.toInt < 0 ∨ (I 77 1).toInt < pa0.toInt + pa1.toInt))) := by
  intro sz
  refine z_body (by decide +kernel) (Nat.le_of_ble_eq_true rfl) (fun p e s m below meth c ls hx hb hml hr ht hown hlocks hsz hK hP hD hS hl => ?_)
  have hA : ∀ a, s.heap.size ≤ a → zA 81 q sz a := fun a h => Or.inr (hsz ▸ h)
  have hl : lv_has ls 3 [(0, .ref (q 77)), (1, .int (pa0)), (2, .int (pa1))] := hl
  refine lv_iload_n hx hb dX6_spans_0 rfl (lv_at hl 1 rfl) ?_
  refine lv_if_lt (tgt := 30) hx hb dX6_spans_1 (by decide) (fun c_1 => ?_) (fun c_1 => ?_)
  · have t_c_1 := z_ltT c_1
    have f_2 : zR (-2147483648) (-1) (pa0) := zR_ltx t_c_1 (zR_any (pa0)) zk_z (by decide)
    refine lv_iconst (v := nI 0) hx hb dX6_spans_30 (by decide +kernel) ?_
    exact z_zret (v := nI 0) hx hb hr hlocks hP hD hS (by decide +kernel) dX6_spans_31 (Or.inr ⟨rfl, rfl, (by have z0 : (0 : Int32).toInt = 0 := (by decide +kernel); have _ := t_c_1; obtain ⟨_, _⟩ := (show zR (-1) 60 (I 77 1) from xI hI 77 1); omega)⟩)
  · have t_c_1 := z_ltF c_1
    have f_3 : zR 0 2147483647 (pa0) := zR_ley t_c_1 zk_z (zR_any (pa0)) (by decide)
    refine lv_iload_n hx hb dX6_spans_4 rfl (lv_at hl 2 rfl) ?_
    refine lv_if_lt (tgt := 30) hx hb dX6_spans_5 (by decide) (fun c_4 => ?_) (fun c_4 => ?_)
    · have t_c_4 := z_ltT c_4
      have f_5 : zR (-2147483648) (-1) (pa1) := zR_ltx t_c_4 (zR_any (pa1)) zk_z (by decide)
      refine lv_iconst (v := nI 0) hx hb dX6_spans_30 (by decide +kernel) ?_
      exact z_zret (v := nI 0) hx hb hr hlocks hP hD hS (by decide +kernel) dX6_spans_31 (Or.inr ⟨rfl, rfl, (by have z0 : (0 : Int32).toInt = 0 := (by decide +kernel); have _ := t_c_1; have _ := t_c_4; obtain ⟨_, _⟩ := (show zR (-1) 60 (I 77 1) from xI hI 77 1); omega)⟩)
    · have t_c_4 := z_ltF c_4
      have f_6 : zR 0 2147483647 (pa1) := zR_ley t_c_4 zk_z (zR_any (pa1)) (by decide)
      refine lv_iload_n hx hb dX6_spans_8 rfl (lv_at hl 2 rfl) ?_
      refine lv_aload_n hx hb dX6_spans_9 rfl (lv_at hl 0 rfl) ?_
      refine z_get hx hb ht hown hK hP ziX6 rfl 77 (by decide) 1 (by decide) hw_2_79 rfl (v := .int (I 77 1)) rfl dX6_spans_10 ?_
      have f_7 : zR (-1) 60 (I 77 1) := xI hI 77 1
      refine lv_icmp_gt (tgt := 30) hx hb dX6_spans_13 (by decide) (fun c_8 => ?_) (fun c_8 => ?_)
      · have t_c_8 := z_ltT c_8
        refine lv_iconst (v := nI 0) hx hb dX6_spans_30 (by decide +kernel) ?_
        exact z_zret (v := nI 0) hx hb hr hlocks hP hD hS (by decide +kernel) dX6_spans_31 (Or.inr ⟨rfl, rfl, (by have z0 : (0 : Int32).toInt = 0 := (by decide +kernel); have _ := t_c_1; have _ := t_c_4; have _ := t_c_8; obtain ⟨_, _⟩ := (show zR (-1) 60 (I 77 1) from xI hI 77 1); omega)⟩)
      · have t_c_8 := z_ltF c_8
        have f_9 : zR 0 60 (pa1) := zR_lex t_c_8 f_6 f_7 (by decide)
        have f_10 : zR 0 60 (I 77 1) := zR_ley t_c_8 f_6 f_7 (by decide)
        refine lv_iload_n hx hb dX6_spans_16 rfl (lv_at hl 1 rfl) ?_
        refine lv_aload_n hx hb dX6_spans_17 rfl (lv_at hl 0 rfl) ?_
        refine z_get hx hb ht hown hK hP ziX6 rfl 77 (by decide) 1 (by decide) hw_2_79 rfl (v := .int (I 77 1)) rfl dX6_spans_18 ?_
        refine lv_iload_n hx hb dX6_spans_21 rfl (lv_at hl 2 rfl) ?_
        refine lv_isub hx hb dX6_spans_22 ?_
        refine lv_topi (fun v_11 ev_11 => ?_)
        have hv_11 : zR (-60) 60 v_11 := ev_11 ▸ zR_sub f_10 f_9 (by decide)
        refine lv_icmp_gt (tgt := 30) hx hb dX6_spans_23 (by decide) (fun c_12 => ?_) (fun c_12 => ?_)
        · have t_c_12 := z_ltT c_12
          refine lv_iconst (v := nI 0) hx hb dX6_spans_30 (by decide +kernel) ?_
          exact z_zret (v := nI 0) hx hb hr hlocks hP hD hS (by decide +kernel) dX6_spans_31 (Or.inr ⟨rfl, rfl, (by have z0 : (0 : Int32).toInt = 0 := (by decide +kernel); have _ := t_c_1; have _ := t_c_4; have _ := t_c_8; have _ := t_c_12; obtain ⟨_, _⟩ := (show zR (-1) 60 (I 77 1) from xI hI 77 1); have e1 := z2_sub (x := I 77 1) (y := pa1) (by omega) (by omega); have e2 := congrArg Int32.toInt ev_11; omega)⟩)
        · have t_c_12 := z_ltF c_12
          have f_13 : zR 0 60 (pa0) := zR_lex t_c_12 f_3 hv_11 (by decide)
          have f_14 : zR 0 60 (v_11) := zR_ley t_c_12 f_3 hv_11 (by decide)
          refine lv_iconst (v := nI 1) hx hb dX6_spans_26 (by decide +kernel) ?_
          refine lv_goto (tgt := 31) hx hb dX6_spans_27 (by decide) ?_
          exact z_zret (v := nI 1) hx hb hr hlocks hP hD hS (by decide +kernel) dX6_spans_31 (Or.inl ⟨rfl, rfl, (by have z0 : (0 : Int32).toInt = 0 := (by decide +kernel); have _ := t_c_1; have _ := t_c_4; have _ := t_c_8; have _ := t_c_12; obtain ⟨_, _⟩ := (show zR (-1) 60 (I 77 1) from xI hI 77 1); have e1 := z2_sub (x := I 77 1) (y := pa1) (by omega) (by omega); have e2 := congrArg Int32.toInt ev_11; omega), (by have z0 : (0 : Int32).toInt = 0 := (by decide +kernel); have _ := t_c_1; have _ := t_c_4; have _ := t_c_8; have _ := t_c_12; obtain ⟨_, _⟩ := (show zR (-1) 60 (I 77 1) from xI hI 77 1); have e1 := z2_sub (x := I 77 1) (y := pa1) (by omega) (by omega); have e2 := congrArg Int32.toInt ev_11; omega), (by have z0 : (0 : Int32).toInt = 0 := (by decide +kernel); have _ := t_c_1; have _ := t_c_4; have _ := t_c_8; have _ := t_c_12; obtain ⟨_, _⟩ := (show zR (-1) 60 (I 77 1) from xI hI 77 1); have e1 := z2_sub (x := I 77 1) (y := pa1) (by omega) (by omega); have e2 := congrArg Int32.toInt ev_11; omega)⟩)
set_option maxHeartbeats 4000000 in
set_option maxRecDepth 100000 in
theorem xk_X6_spans_3 (l : Launch) (D : va_G) (q : Nat → Nat) (cA : Nat → ClassId) (F : Nat → Nat → Int32) (I R : Nat → Nat → Int32) (J : Nat → Nat → Int64) (hI : xInv F (I, R, J)) (pa0 : Int32) (pa1 : Int32) : zMi l D vwCl (zXtys cA) 81 q (zXd q cA) yX6_spans cX6_spans 3 (some .boolean) ({ frames := 0, cells := 0, slots := 0, locals := 0 } : Room) [.ref (q 79), .int (pa0), .int (pa1)] (I, R, J) (fun r u => (r = nI 1 ∧ u = (I, R, J) ∧ 0 ≤ pa0.toInt ∧ 0 ≤ pa1.toInt ∧ pa0.toInt + pa1.toInt ≤ (I 79 1).toInt) ∨ (r = nI 0 ∧ u = (I, R, J) ∧ (pa0.toInt < 0 ∨ pa1.toInt < 0 ∨ (I 79 1).toInt < pa0.toInt + pa1.toInt))) := by
  intro sz
  refine z_body (by decide +kernel) (Nat.le_of_ble_eq_true rfl) (fun p e s m below meth c ls hx hb hml hr ht hown hlocks hsz hK hP hD hS hl => ?_)
  have hA : ∀ a, s.heap.size ≤ a → zA 81 q sz a := fun a h => Or.inr (hsz ▸ h)
  have hl : lv_has ls 3 [(0, .ref (q 79)), (1, .int (pa0)), (2, .int (pa1))] := hl
  refine lv_iload_n hx hb dX6_spans_0 rfl (lv_at hl 1 rfl) ?_
  refine lv_if_lt (tgt := 30) hx hb dX6_spans_1 (by decide) (fun c_1 => ?_) (fun c_1 => ?_)
  · have t_c_1 := z_ltT c_1
    have f_2 : zR (-2147483648) (-1) (pa0) := zR_ltx t_c_1 (zR_any (pa0)) zk_z (by decide)
    refine lv_iconst (v := nI 0) hx hb dX6_spans_30 (by decide +kernel) ?_
    exact z_zret (v := nI 0) hx hb hr hlocks hP hD hS (by decide +kernel) dX6_spans_31 (Or.inr ⟨rfl, rfl, (by have z0 : (0 : Int32).toInt = 0 := (by decide +kernel); have _ := t_c_1; obtain ⟨_, _⟩ := (show zR (-1) 60 (I 79 1) from xI hI 79 1); omega)⟩)
  · have t_c_1 := z_ltF c_1
    have f_3 : zR 0 2147483647 (pa0) := zR_ley t_c_1 zk_z (zR_any (pa0)) (by decide)
    refine lv_iload_n hx hb dX6_spans_4 rfl (lv_at hl 2 rfl) ?_
    refine lv_if_lt (tgt := 30) hx hb dX6_spans_5 (by decide) (fun c_4 => ?_) (fun c_4 => ?_)
    · have t_c_4 := z_ltT c_4
      have f_5 : zR (-2147483648) (-1) (pa1) := zR_ltx t_c_4 (zR_any (pa1)) zk_z (by decide)
      refine lv_iconst (v := nI 0) hx hb dX6_spans_30 (by decide +kernel) ?_
      exact z_zret (v := nI 0) hx hb hr hlocks hP hD hS (by decide +kernel) dX6_spans_31 (Or.inr ⟨rfl, rfl, (by have z0 : (0 : Int32).toInt = 0 := (by decide +kernel); have _ := t_c_1; have _ := t_c_4; obtain ⟨_, _⟩ := (show zR (-1) 60 (I 79 1) from xI hI 79 1); omega)⟩)
    · have t_c_4 := z_ltF c_4
      have f_6 : zR 0 2147483647 (pa1) := zR_ley t_c_4 zk_z (zR_any (pa1)) (by decide)
      refine lv_iload_n hx hb dX6_spans_8 rfl (lv_at hl 2 rfl) ?_
      refine lv_aload_n hx hb dX6_spans_9 rfl (lv_at hl 0 rfl) ?_
      refine z_get hx hb ht hown hK hP ziX6 rfl 79 (by decide) 1 (by decide) hw_2_79 rfl (v := .int (I 79 1)) rfl dX6_spans_10 ?_
      have f_7 : zR (-1) 60 (I 79 1) := xI hI 79 1
      refine lv_icmp_gt (tgt := 30) hx hb dX6_spans_13 (by decide) (fun c_8 => ?_) (fun c_8 => ?_)
      · have t_c_8 := z_ltT c_8
        refine lv_iconst (v := nI 0) hx hb dX6_spans_30 (by decide +kernel) ?_
        exact z_zret (v := nI 0) hx hb hr hlocks hP hD hS (by decide +kernel) dX6_spans_31 (Or.inr ⟨rfl, rfl, (by have z0 : (0 : Int32).toInt = 0 := (by decide +kernel); have _ := t_c_1; have _ := t_c_4; have _ := t_c_8; obtain ⟨_, _⟩ := (show zR (-1) 60 (I 79 1) from xI hI 79 1); omega)⟩)
      · have t_c_8 := z_ltF c_8
        have f_9 : zR 0 60 (pa1) := zR_lex t_c_8 f_6 f_7 (by decide)
        have f_10 : zR 0 60 (I 79 1) := zR_ley t_c_8 f_6 f_7 (by decide)
        refine lv_iload_n hx hb dX6_spans_16 rfl (lv_at hl 1 rfl) ?_
        refine lv_aload_n hx hb dX6_spans_17 rfl (lv_at hl 0 rfl) ?_
        refine z_get hx hb ht hown hK hP ziX6 rfl 79 (by decide) 1 (by decide) hw_2_79 rfl (v := .int (I 79 1)) rfl dX6_spans_18 ?_
        refine lv_iload_n hx hb dX6_spans_21 rfl (lv_at hl 2 rfl) ?_
        refine lv_isub hx hb dX6_spans_22 ?_
        refine lv_topi (fun v_11 ev_11 => ?_)
        have hv_11 : zR (-60) 60 v_11 := ev_11 ▸ zR_sub f_10 f_9 (by decide)
        refine lv_icmp_gt (tgt := 30) hx hb dX6_spans_23 (by decide) (fun c_12 => ?_) (fun c_12 => ?_)
        · have t_c_12 := z_ltT c_12
          refine lv_iconst (v := nI 0) hx hb dX6_spans_30 (by decide +kernel) ?_
          exact z_zret (v := nI 0) hx hb hr hlocks hP hD hS (by decide +kernel) dX6_spans_31 (Or.inr ⟨rfl, rfl, (by have z0 : (0 : Int32).toInt = 0 := (by decide +kernel); have _ := t_c_1; have _ := t_c_4; have _ := t_c_8; have _ := t_c_12; obtain ⟨_, _⟩ := (show zR (-1) 60 (I 79 1) from xI hI 79 1); have e1 := z2_sub (x := I 79 1) (y := pa1) (by omega) (by omega); have e2 := congrArg Int32.toInt ev_11; omega)⟩)
        · have t_c_12 := z_ltF c_12
          have f_13 : zR 0 60 (pa0) := zR_lex t_c_12 f_3 hv_11 (by decide)
          have f_14 : zR 0 60 (v_11) := zR_ley t_c_12 f_3 hv_11 (by decide)
          refine lv_iconst (v := nI 1) hx hb dX6_spans_26 (by decide +kernel) ?_
          refine lv_goto (tgt := 31) hx hb dX6_spans_27 (by decide) ?_
          exact z_zret (v := nI 1) hx hb hr hlocks hP hD hS (by decide +kernel) dX6_spans_31 (Or.inl ⟨rfl, rfl, (by have z0 : (0 : Int32).toInt = 0 := (by decide +kernel); have _ := t_c_1; have _ := t_c_4; have _ := t_c_8; have _ := t_c_12; obtain ⟨_, _⟩ := (show zR (-1) 60 (I 79 1) from xI hI 79 1); have e1 := z2_sub (x := I 79 1) (y := pa1) (by omega) (by omega); have e2 := congrArg Int32.toInt ev_11; omega), (by have z0 : (0 : Int32).toInt = 0 := (by decide +kernel); have _ := t_c_1; have _ := t_c_4; have _ := t_c_8; have _ := t_c_12; obtain ⟨_, _⟩ := (show zR (-1) 60 (I 79 1) from xI hI 79 1); have e1 := z2_sub (x := I 79 1) (y := pa1) (by omega) (by omega); have e2 := congrArg Int32.toInt ev_11; omega), (by have z0 : (0 : Int32).toInt = 0 := (by decide +kernel); have _ := t_c_1; have _ := t_c_4; have _ := t_c_8; have _ := t_c_12; obtain ⟨_, _⟩ := (show zR (-1) 60 (I 79 1) from xI hI 79 1); have e1 := z2_sub (x := I 79 1) (y := pa1) (by omega) (by omega); have e2 := congrArg Int32.toInt ev_11; omega)⟩)
set_option maxHeartbeats 4000000 in
set_option maxRecDepth 100000 in
theorem xk_X10_paste (l : Launch) (D : va_G) (q : Nat → Nat) (cA : Nat → ClassId) (F : Nat → Nat → Int32) (I R : Nat → Nat → Int32) (J : Nat → Nat → Int64) (hI : xInv F (I, R, J)) (pa0 : Int32) (pa1 : Int32) (pa2 : Int32) (pa3 : Int32) (pa4 : Int32) : zMi l D vwCl (zXtys cA) 81 q (zXd q cA) yX10_paste cX10_paste 8 (some .int) ({ frames := 1, cells := 0, slots := 0, locals := 64 } : Room) [.ref (q 0), .int (pa0), .int (pa1), .int (pa2), .int (pa3), .int (pa4)] (I, R, J) (fun r u => ((pa0.toInt < 0 ∨ 3 < pa0.toInt ∨ pa2.toInt < 0 ∨ 3 < pa2.toInt) ∧ r = (-2) ∧ xInv F u) ∨ (¬ (pa0.toInt < 0 ∨ 3 < pa0.toInt ∨ pa2.toInt < 0 ∨ 3 < pa2.toInt) ∧ ((xlen F pa0).toInt = -1 ∨ (xlen F pa2).toInt = -1) ∧ r = (-6) ∧ xInv F u) ∨ (¬ (pa0.toInt < 0 ∨ 3 < pa0.toInt ∨ pa2.toInt < 0 ∨ 3 < pa2.toInt) ∧ ((xlen F pa0).toInt ≠ -1 ∧ (xlen F pa2).toInt ≠ -1) ∧ (xwid F pa0).toInt ≠ (xwid F pa2).toInt ∧ r = (-8) ∧ xInv F u) ∨ (¬ (pa0.toInt < 0 ∨ 3 < pa0.toInt ∨ pa2.toInt < 0 ∨ 3 < pa2.toInt) ∧ ((xlen F pa0).toInt ≠ -1 ∧ (xlen F pa2).toInt ≠ -1) ∧ (xwid F pa0).toInt = (xwid F pa2).toInt ∧ ¬ (0 ≤ pa1.toInt ∧ 0 ≤ pa3.toInt ∧ 0 ≤ pa4.toInt ∧ pa1.toInt + pa4.toInt ≤ (xlen F pa0).toInt ∧ pa3.toInt + pa4.toInt ≤ (xlen F pa2).toInt) ∧ r = (-7) ∧ xInv F u) ∨ (¬ (pa0.toInt < 0 ∨ 3 < pa0.toInt ∨ pa2.toInt < 0 ∨ 3 < pa2.toInt) ∧ ((xlen F pa0).toInt ≠ -1 ∧ (xlen F pa2).toInt ≠ -1) ∧ (xwid F pa0).toInt = (xwid F pa2).toInt ∧ (0 ≤ pa1.toInt ∧ 0 ≤ pa3.toInt ∧ 0 ≤ pa4.toInt ∧ pa1.toInt + pa4.toInt ≤ (xlen F pa0).toInt ∧ pa3.toInt + pa4.toInt ≤ (xlen F pa2).toInt) ∧ r = nI 0 ∧ xInv F u)) := by
  intro sz
  refine z_body (by decide +kernel) (Nat.le_of_ble_eq_true rfl) (fun p e s m below meth c ls hx hb hml hr ht hown hlocks hsz hK hP hD hS hl => ?_)
  have hA : ∀ a, s.heap.size ≤ a → zA 81 q sz a := fun a h => Or.inr (hsz ▸ h)
  have hl : lv_has ls 8 [(0, .ref (q 0)), (1, .int (pa0)), (2, .int (pa1)), (3, .int (pa2)), (4, .int (pa3)), (5, .int (pa4))] := hl
  refine lv_iload_n hx hb dX10_paste_0 rfl (lv_at hl 1 rfl) ?_
  refine z_callSi (As := [.int (pa0)]) (rest := []) hx hb hml hown ht (xk_X10_isSlot l D q cA F _ _ _ hI (pa0)) hw_5_60 hmX10_isSlot ⟨rfl, rfl⟩ (na := 1) rfl (by decide +kernel) (by decide) hK hP hD hS hA hl.1 rfl (Nat.le_of_ble_eq_true rfl) ⟨Nat.zero_le _, Nat.zero_le _⟩ dX10_paste_1 (fun r_1 I_1 R_1 J_1 H locs hp_1 hP hD hS _ _ => ?_)
  rcases hp_1 with ⟨rfl, hu_1, f0_1⟩ | ⟨rfl, hu_1, nn_1⟩
  · cases hu_1
    refine lv_if_eq (tgt := 14) hx hb dX10_paste_4 (by decide) (fun c_0 => absurd c_0 (zD_ne zk_1 zk_z (by decide))) (fun _ => ?_)
    refine lv_iload_n hx hb dX10_paste_7 rfl (lv_at hl 3 rfl) ?_
    refine z_callSi (As := [.int (pa2)]) (rest := []) hx hb hml hown ht (xk_X10_isSlot l D q cA F _ _ _ hI (pa2)) hw_5_60 hmX10_isSlot ⟨rfl, rfl⟩ (na := 1) rfl (by decide +kernel) (by decide) hK hP hD hS hA hl.1 rfl (Nat.le_of_ble_eq_true rfl) ⟨Nat.zero_le _, Nat.zero_le _⟩ dX10_paste_8 (fun r_2 I_2 R_2 J_2 H locs hp_2 hP hD hS _ _ => ?_)
    rcases hp_2 with ⟨rfl, hu_2, f0_2⟩ | ⟨rfl, hu_2, nn_2⟩
    · cases hu_2
      refine lv_if_ne (tgt := 17) hx hb dX10_paste_11 (by decide) (fun _ => ?_) (fun c_0 => absurd c_0 (zD_ne zk_1 zk_z (by decide)))
      refine lv_aload_n hx hb dX10_paste_17 rfl (lv_at hl 0 rfl) ?_
      refine z_get hx hb ht hown hK hP ziX10 rfl 0 (by decide) 11 (by decide) hw_2_104 rfl (v := .ref (q 72)) rfl dX10_paste_18 ?_
      refine lv_iload_n hx hb dX10_paste_21 rfl (lv_at hl 1 rfl) ?_
      obtain ⟨n_3, hn_3, rfl⟩ := z_ex (x := pa0) (N := 4) (zR_w f0_1 (a' := 0) (b' := 3) (by decide)).1 (Int.lt_of_le_of_lt (zR_w f0_1 (a' := 0) (b' := 3) (by decide)).2 (by decide))
      rcases (show n_3 = 0 ∨ n_3 = 1 ∨ n_3 = 2 ∨ n_3 = 3 by omega) with rfl | rfl | rfl | rfl
      · refine va_aldq hx hb hK hP 72 52 (zw_at (by decide) rfl) rfl (vp_in_nI (by decide) (by decide)) dX10_paste_22 ?_
        refine W.eq (g2 := F0 m 23 ls (.ref (q 73) :: [])) rfl ?_
        refine lv_astore (lv' := [(6, .ref (q 73)), (0, .ref (q 0)), (1, .int (nI 0)), (2, .int (pa1)), (3, .int (pa2)), (4, .int (pa3)), (5, .int (pa4))]) hx hb dX10_paste_23 hl (by decide) rfl (fun ls hl => ?_)
        refine lv_aload_n hx hb dX10_paste_25 rfl (lv_at hl 1 rfl) ?_
        refine z_get hx hb ht hown hK hP ziX10 rfl 0 (by decide) 11 (by decide) hw_2_104 rfl (v := .ref (q 72)) rfl dX10_paste_26 ?_
        refine lv_iload_n hx hb dX10_paste_29 rfl (lv_at hl 4 rfl) ?_
        obtain ⟨n_4, hn_4, rfl⟩ := z_ex (x := pa2) (N := 4) (zR_w f0_2 (a' := 0) (b' := 3) (by decide)).1 (Int.lt_of_le_of_lt (zR_w f0_2 (a' := 0) (b' := 3) (by decide)).2 (by decide))
        rcases (show n_4 = 0 ∨ n_4 = 1 ∨ n_4 = 2 ∨ n_4 = 3 by omega) with rfl | rfl | rfl | rfl
        · refine va_aldq hx hb hK hP 72 52 (zw_at (by decide) rfl) rfl (vp_in_nI (by decide) (by decide)) dX10_paste_30 ?_
          refine W.eq (g2 := F0 m 31 ls (.ref (q 73) :: [])) rfl ?_
          refine lv_astore (lv' := [(7, .ref (q 73)), (6, .ref (q 73)), (0, .ref (q 0)), (1, .int (nI 0)), (2, .int (pa1)), (3, .int (nI 0)), (4, .int (pa3)), (5, .int (pa4))]) hx hb dX10_paste_31 hl (by decide) rfl (fun ls hl => ?_)
          refine lv_aload hx hb dX10_paste_33 (lv_at hl 1 rfl) ?_
          refine z_callVi (k := 73) (As := []) (rest := []) hx hb hml hown ht (xk_X6_isThere l D q cA F _ _ _ hI ) hw_5_63 hmX6_isThere ⟨rfl, rfl⟩ (na := 0) rfl (by decide +kernel) (by decide) (by decide) rfl rfl hK hP hD hS hA hl.1 rfl (Nat.le_of_ble_eq_true rfl) ⟨Nat.zero_le _, Nat.zero_le _⟩ dX10_paste_35 (fun r_5 I_5 R_5 J_5 H locs hp_5 hP hD hS _ _ => ?_)
          rcases hp_5 with ⟨rfl, hu_5, nn_5⟩ | ⟨rfl, hu_5, nn_5⟩
          · cases hu_5
            have f_6 : zR 0 60 (I 73 1) := x_there (xI hI 73 1) nn_5
            refine lv_if_eq (tgt := 49) hx hb dX10_paste_38 (by decide) (fun c_0 => absurd c_0 (zD_ne zk_1 zk_z (by decide))) (fun _ => ?_)
            refine lv_aload hx hb dX10_paste_41 (lv_at hl 0 rfl) ?_
            refine z_callVi (k := 73) (As := []) (rest := []) hx hb hml hown ht (xk_X6_isThere l D q cA F _ _ _ hI ) hw_5_63 hmX6_isThere ⟨rfl, rfl⟩ (na := 0) rfl (by decide +kernel) (by decide) (by decide) rfl rfl hK hP hD hS hA hl.1 rfl (Nat.le_of_ble_eq_true rfl) ⟨Nat.zero_le _, Nat.zero_le _⟩ dX10_paste_43 (fun r_7 I_7 R_7 J_7 H locs hp_7 hP hD hS _ _ => ?_)
            rcases hp_7 with ⟨rfl, hu_7, nn_7⟩ | ⟨rfl, hu_7, nn_7⟩
            · cases hu_7
              have f_8 : zR 0 60 (I 73 1) := x_there (xI hI 73 1) nn_7
              refine lv_if_ne (tgt := 52) hx hb dX10_paste_46 (by decide) (fun _ => ?_) (fun c_0 => absurd c_0 (zD_ne zk_1 zk_z (by decide)))
              refine lv_aload hx hb dX10_paste_52 (lv_at hl 1 rfl) ?_
              refine z_get hx hb ht hown hK hP ziX6 rfl 73 (by decide) 0 (by decide) hw_2_78 rfl (v := .int (I 73 0)) rfl dX10_paste_54 ?_
              refine lv_aload hx hb dX10_paste_57 (lv_at hl 0 rfl) ?_
              refine z_get hx hb ht hown hK hP ziX6 rfl 73 (by decide) 0 (by decide) hw_2_78 rfl (v := .int (I 73 0)) rfl dX10_paste_59 ?_
              refine lv_icmp_eq (tgt := 68) hx hb dX10_paste_62 (by decide) (fun c_9 => ?_) (fun c_9 => ?_)
              · have t_c_9 := z_eqT c_9
                refine lv_aload hx hb dX10_paste_68 (lv_at hl 1 rfl) ?_
                refine lv_iload_n hx hb dX10_paste_70 rfl (lv_at hl 4 rfl) ?_
                refine lv_iload hx hb dX10_paste_71 (lv_at hl 7 rfl) ?_
                refine z_callVi (k := 73) (As := [.int (pa1), .int (pa4)]) (rest := []) hx hb hml hown ht (xk_X6_spans l D q cA F _ _ _ hI (pa1) (pa4)) hw_5_177 hmX6_spans ⟨rfl, rfl⟩ (na := 2) rfl (by decide +kernel) (by decide) (by decide) rfl rfl hK hP hD hS hA hl.1 rfl (Nat.le_of_ble_eq_true rfl) ⟨Nat.zero_le _, Nat.zero_le _⟩ dX10_paste_73 (fun r_10 I_10 R_10 J_10 H locs hp_10 hP hD hS _ _ => ?_)
                rcases hp_10 with ⟨rfl, hu_10, nn_10⟩ | ⟨rfl, hu_10, nn_10⟩
                · cases hu_10
                  refine lv_if_eq (tgt := 91) hx hb dX10_paste_76 (by decide) (fun c_0 => absurd c_0 (zD_ne zk_1 zk_z (by decide))) (fun _ => ?_)
                  refine lv_aload hx hb dX10_paste_79 (lv_at hl 0 rfl) ?_
                  refine lv_iload hx hb dX10_paste_81 (lv_at hl 6 rfl) ?_
                  refine lv_iload hx hb dX10_paste_83 (lv_at hl 7 rfl) ?_
                  refine z_callVi (k := 73) (As := [.int (pa3), .int (pa4)]) (rest := []) hx hb hml hown ht (xk_X6_spans l D q cA F _ _ _ hI (pa3) (pa4)) hw_5_177 hmX6_spans ⟨rfl, rfl⟩ (na := 2) rfl (by decide +kernel) (by decide) (by decide) rfl rfl hK hP hD hS hA hl.1 rfl (Nat.le_of_ble_eq_true rfl) ⟨Nat.zero_le _, Nat.zero_le _⟩ dX10_paste_85 (fun r_11 I_11 R_11 J_11 H locs hp_11 hP hD hS _ _ => ?_)
                  rcases hp_11 with ⟨rfl, hu_11, nn_11⟩ | ⟨rfl, hu_11, nn_11⟩
                  · cases hu_11
                    refine lv_if_ne (tgt := 94) hx hb dX10_paste_88 (by decide) (fun _ => ?_) (fun c_0 => absurd c_0 (zD_ne zk_1 zk_z (by decide)))
                    refine lv_aload hx hb dX10_paste_94 (lv_at hl 1 rfl) ?_
                    refine z_get hx hb ht hown hK hP ziX6 rfl 73 (by decide) 2 (by decide) hw_2_84 rfl (v := .ref (q 74)) rfl dX10_paste_96 ?_
                    refine lv_iload_n hx hb dX10_paste_99 rfl (lv_at hl 4 rfl) ?_
                    refine lv_aload hx hb dX10_paste_100 (lv_at hl 0 rfl) ?_
                    refine z_get hx hb ht hown hK hP ziX6 rfl 73 (by decide) 2 (by decide) hw_2_84 rfl (v := .ref (q 74)) rfl dX10_paste_102 ?_
                    refine lv_iload hx hb dX10_paste_105 (lv_at hl 6 rfl) ?_
                    refine lv_iload hx hb dX10_paste_107 (lv_at hl 7 rfl) ?_
                    refine z_copyl hx hb (hml.trans hl.1.symm) ht hown hw_5_181 ⟨hw_3_44, hw_3_43, hw_1_18⟩ hK hP hD hS 74 74 (by decide) (by decide) 53 53 rfl (fun _ => rfl) rfl rfl (x_nn nn_10.1) (x_nn nn_11.1) (x_nn nn_10.2.1) (x_cp nn_10 (xI hI 73 1).2) (x_cp nn_11 (xI hI 73 1).2) (by decide) (by decide +kernel) dX10_paste_109 (fun g_12 H locs eg_12 hP hD hS => ?_)
                    have hI_13 := xInv_J (J2 := (zr J 74 g_12)) hI
                    refine lv_iconst (v := nI 0) hx hb dX10_paste_112 (by decide +kernel) ?_
                    exact z_iret (v := nI 0) hx hb hr hlocks hP hD hS dX10_paste_113 (Or.inr (Or.inr (Or.inr (Or.inr ⟨(by obtain ⟨_, _⟩ := zk_0; obtain ⟨_, _⟩ := zk_0; omega), (show (F 73 1).toInt ≠ -1 ∧ (F 73 1).toInt ≠ -1 from (by have e0 : (I 73 1).toInt = (F 73 1).toInt := congrArg Int32.toInt (xFr hI 73 1 rfl); have e1 : (I 73 1).toInt = (F 73 1).toInt := congrArg Int32.toInt (xFr hI 73 1 rfl); have e2 : (I 73 0).toInt = (F 73 0).toInt := congrArg Int32.toInt (xFr hI 73 0 rfl); have e3 : (I 73 0).toInt = (F 73 0).toInt := congrArg Int32.toInt (xFr hI 73 0 rfl); have _ := nn_7; have _ := nn_7; omega)), (show (F 73 0).toInt = (F 73 0).toInt from (by have e0 : (I 73 1).toInt = (F 73 1).toInt := congrArg Int32.toInt (xFr hI 73 1 rfl); have e1 : (I 73 1).toInt = (F 73 1).toInt := congrArg Int32.toInt (xFr hI 73 1 rfl); have e2 : (I 73 0).toInt = (F 73 0).toInt := congrArg Int32.toInt (xFr hI 73 0 rfl); have e3 : (I 73 0).toInt = (F 73 0).toInt := congrArg Int32.toInt (xFr hI 73 0 rfl); have _ := t_c_9; omega)), (show 0 ≤ pa1.toInt ∧ 0 ≤ pa3.toInt ∧ 0 ≤ pa4.toInt ∧ pa1.toInt + pa4.toInt ≤ (F 73 1).toInt ∧ pa3.toInt + pa4.toInt ≤ (F 73 1).toInt from (by have e0 : (I 73 1).toInt = (F 73 1).toInt := congrArg Int32.toInt (xFr hI 73 1 rfl); have e1 : (I 73 1).toInt = (F 73 1).toInt := congrArg Int32.toInt (xFr hI 73 1 rfl); have e2 : (I 73 0).toInt = (F 73 0).toInt := congrArg Int32.toInt (xFr hI 73 0 rfl); have e3 : (I 73 0).toInt = (F 73 0).toInt := congrArg Int32.toInt (xFr hI 73 0 rfl); have _ := nn_10; have _ := nn_11; omega)), rfl, hI_13⟩))))
                  · cases hu_11
                    refine lv_if_ne (tgt := 94) hx hb dX10_paste_88 (by decide) (fun c_0 => absurd (zD_eq zk_0 zk_z) c_0) (fun _ => ?_)
                    refine lv_bipush (v := (-7)) hx hb dX10_paste_91 (by decide +kernel) ?_
                    exact z_iret (v := (-7)) hx hb hr hlocks hP hD hS dX10_paste_93 (Or.inr (Or.inr (Or.inr (Or.inl ⟨(by obtain ⟨_, _⟩ := zk_0; obtain ⟨_, _⟩ := zk_0; omega), (show (F 73 1).toInt ≠ -1 ∧ (F 73 1).toInt ≠ -1 from (by have e0 : (I 73 1).toInt = (F 73 1).toInt := congrArg Int32.toInt (xFr hI 73 1 rfl); have e1 : (I 73 1).toInt = (F 73 1).toInt := congrArg Int32.toInt (xFr hI 73 1 rfl); have e2 : (I 73 0).toInt = (F 73 0).toInt := congrArg Int32.toInt (xFr hI 73 0 rfl); have e3 : (I 73 0).toInt = (F 73 0).toInt := congrArg Int32.toInt (xFr hI 73 0 rfl); have _ := nn_7; have _ := nn_7; omega)), (show (F 73 0).toInt = (F 73 0).toInt from (by have e0 : (I 73 1).toInt = (F 73 1).toInt := congrArg Int32.toInt (xFr hI 73 1 rfl); have e1 : (I 73 1).toInt = (F 73 1).toInt := congrArg Int32.toInt (xFr hI 73 1 rfl); have e2 : (I 73 0).toInt = (F 73 0).toInt := congrArg Int32.toInt (xFr hI 73 0 rfl); have e3 : (I 73 0).toInt = (F 73 0).toInt := congrArg Int32.toInt (xFr hI 73 0 rfl); have _ := t_c_9; omega)), (show ¬ (0 ≤ pa1.toInt ∧ 0 ≤ pa3.toInt ∧ 0 ≤ pa4.toInt ∧ pa1.toInt + pa4.toInt ≤ (F 73 1).toInt ∧ pa3.toInt + pa4.toInt ≤ (F 73 1).toInt) from (by have e0 : (I 73 1).toInt = (F 73 1).toInt := congrArg Int32.toInt (xFr hI 73 1 rfl); have e1 : (I 73 1).toInt = (F 73 1).toInt := congrArg Int32.toInt (xFr hI 73 1 rfl); have e2 : (I 73 0).toInt = (F 73 0).toInt := congrArg Int32.toInt (xFr hI 73 0 rfl); have e3 : (I 73 0).toInt = (F 73 0).toInt := congrArg Int32.toInt (xFr hI 73 0 rfl); have _ := nn_10; have _ := nn_11; omega)), rfl, hI⟩))))
                · cases hu_10
                  refine lv_if_eq (tgt := 91) hx hb dX10_paste_76 (by decide) (fun _ => ?_) (fun c_0 => absurd (zD_eq zk_0 zk_z) c_0)
                  refine lv_bipush (v := (-7)) hx hb dX10_paste_91 (by decide +kernel) ?_
                  exact z_iret (v := (-7)) hx hb hr hlocks hP hD hS dX10_paste_93 (Or.inr (Or.inr (Or.inr (Or.inl ⟨(by obtain ⟨_, _⟩ := zk_0; obtain ⟨_, _⟩ := zk_0; omega), (show (F 73 1).toInt ≠ -1 ∧ (F 73 1).toInt ≠ -1 from (by have e0 : (I 73 1).toInt = (F 73 1).toInt := congrArg Int32.toInt (xFr hI 73 1 rfl); have e1 : (I 73 1).toInt = (F 73 1).toInt := congrArg Int32.toInt (xFr hI 73 1 rfl); have e2 : (I 73 0).toInt = (F 73 0).toInt := congrArg Int32.toInt (xFr hI 73 0 rfl); have e3 : (I 73 0).toInt = (F 73 0).toInt := congrArg Int32.toInt (xFr hI 73 0 rfl); have _ := nn_7; have _ := nn_7; omega)), (show (F 73 0).toInt = (F 73 0).toInt from (by have e0 : (I 73 1).toInt = (F 73 1).toInt := congrArg Int32.toInt (xFr hI 73 1 rfl); have e1 : (I 73 1).toInt = (F 73 1).toInt := congrArg Int32.toInt (xFr hI 73 1 rfl); have e2 : (I 73 0).toInt = (F 73 0).toInt := congrArg Int32.toInt (xFr hI 73 0 rfl); have e3 : (I 73 0).toInt = (F 73 0).toInt := congrArg Int32.toInt (xFr hI 73 0 rfl); have _ := t_c_9; omega)), (show ¬ (0 ≤ pa1.toInt ∧ 0 ≤ pa3.toInt ∧ 0 ≤ pa4.toInt ∧ pa1.toInt + pa4.toInt ≤ (F 73 1).toInt ∧ pa3.toInt + pa4.toInt ≤ (F 73 1).toInt) from (by have e0 : (I 73 1).toInt = (F 73 1).toInt := congrArg Int32.toInt (xFr hI 73 1 rfl); have e1 : (I 73 1).toInt = (F 73 1).toInt := congrArg Int32.toInt (xFr hI 73 1 rfl); have e2 : (I 73 0).toInt = (F 73 0).toInt := congrArg Int32.toInt (xFr hI 73 0 rfl); have e3 : (I 73 0).toInt = (F 73 0).toInt := congrArg Int32.toInt (xFr hI 73 0 rfl); have _ := nn_10; omega)), rfl, hI⟩))))
              · have t_c_9 := z_eqF c_9
                exact absurd rfl t_c_9
            · cases hu_7
              refine lv_if_ne (tgt := 52) hx hb dX10_paste_46 (by decide) (fun c_0 => absurd (zD_eq zk_0 zk_z) c_0) (fun _ => ?_)
              refine lv_bipush (v := (-6)) hx hb dX10_paste_49 (by decide +kernel) ?_
              exact z_iret (v := (-6)) hx hb hr hlocks hP hD hS dX10_paste_51 (Or.inr (Or.inl ⟨(by obtain ⟨_, _⟩ := zk_0; obtain ⟨_, _⟩ := zk_0; omega), (show (F 73 1).toInt = -1 ∨ (F 73 1).toInt = -1 from (by have e0 : (I 73 1).toInt = (F 73 1).toInt := congrArg Int32.toInt (xFr hI 73 1 rfl); have e1 : (I 73 1).toInt = (F 73 1).toInt := congrArg Int32.toInt (xFr hI 73 1 rfl); have e2 : (I 73 0).toInt = (F 73 0).toInt := congrArg Int32.toInt (xFr hI 73 0 rfl); have e3 : (I 73 0).toInt = (F 73 0).toInt := congrArg Int32.toInt (xFr hI 73 0 rfl); have _ := nn_7; have _ := nn_7; omega)), rfl, hI⟩))
          · cases hu_5
            refine lv_if_eq (tgt := 49) hx hb dX10_paste_38 (by decide) (fun _ => ?_) (fun c_0 => absurd (zD_eq zk_0 zk_z) c_0)
            refine lv_bipush (v := (-6)) hx hb dX10_paste_49 (by decide +kernel) ?_
            exact z_iret (v := (-6)) hx hb hr hlocks hP hD hS dX10_paste_51 (Or.inr (Or.inl ⟨(by obtain ⟨_, _⟩ := zk_0; obtain ⟨_, _⟩ := zk_0; omega), (show (F 73 1).toInt = -1 ∨ (F 73 1).toInt = -1 from (by have e0 : (I 73 1).toInt = (F 73 1).toInt := congrArg Int32.toInt (xFr hI 73 1 rfl); have e1 : (I 73 1).toInt = (F 73 1).toInt := congrArg Int32.toInt (xFr hI 73 1 rfl); have e2 : (I 73 0).toInt = (F 73 0).toInt := congrArg Int32.toInt (xFr hI 73 0 rfl); have e3 : (I 73 0).toInt = (F 73 0).toInt := congrArg Int32.toInt (xFr hI 73 0 rfl); have _ := nn_5; have _ := nn_5; omega)), rfl, hI⟩))
        · refine va_aldq hx hb hK hP 72 52 (zw_at (by decide) rfl) rfl (vp_in_nI (by decide) (by decide)) dX10_paste_30 ?_
          refine W.eq (g2 := F0 m 31 ls (.ref (q 75) :: [])) rfl ?_
          refine lv_astore (lv' := [(7, .ref (q 75)), (6, .ref (q 73)), (0, .ref (q 0)), (1, .int (nI 0)), (2, .int (pa1)), (3, .int (nI 1)), (4, .int (pa3)), (5, .int (pa4))]) hx hb dX10_paste_31 hl (by decide) rfl (fun ls hl => ?_)
          refine lv_aload hx hb dX10_paste_33 (lv_at hl 1 rfl) ?_
          refine z_callVi (k := 73) (As := []) (rest := []) hx hb hml hown ht (xk_X6_isThere l D q cA F _ _ _ hI ) hw_5_63 hmX6_isThere ⟨rfl, rfl⟩ (na := 0) rfl (by decide +kernel) (by decide) (by decide) rfl rfl hK hP hD hS hA hl.1 rfl (Nat.le_of_ble_eq_true rfl) ⟨Nat.zero_le _, Nat.zero_le _⟩ dX10_paste_35 (fun r_14 I_14 R_14 J_14 H locs hp_14 hP hD hS _ _ => ?_)
          rcases hp_14 with ⟨rfl, hu_14, nn_14⟩ | ⟨rfl, hu_14, nn_14⟩
          · cases hu_14
            have f_15 : zR 0 60 (I 73 1) := x_there (xI hI 73 1) nn_14
            refine lv_if_eq (tgt := 49) hx hb dX10_paste_38 (by decide) (fun c_0 => absurd c_0 (zD_ne zk_1 zk_z (by decide))) (fun _ => ?_)
            refine lv_aload hx hb dX10_paste_41 (lv_at hl 0 rfl) ?_
            refine z_callVi (k := 75) (As := []) (rest := []) hx hb hml hown ht (xk_X6_isThere_1 l D q cA F _ _ _ hI ) hw_5_63 hmX6_isThere ⟨rfl, rfl⟩ (na := 0) rfl (by decide +kernel) (by decide) (by decide) rfl rfl hK hP hD hS hA hl.1 rfl (Nat.le_of_ble_eq_true rfl) ⟨Nat.zero_le _, Nat.zero_le _⟩ dX10_paste_43 (fun r_16 I_16 R_16 J_16 H locs hp_16 hP hD hS _ _ => ?_)
            rcases hp_16 with ⟨rfl, hu_16, nn_16⟩ | ⟨rfl, hu_16, nn_16⟩
            · cases hu_16
              have f_17 : zR 0 60 (I 75 1) := x_there (xI hI 75 1) nn_16
              refine lv_if_ne (tgt := 52) hx hb dX10_paste_46 (by decide) (fun _ => ?_) (fun c_0 => absurd c_0 (zD_ne zk_1 zk_z (by decide)))
              refine lv_aload hx hb dX10_paste_52 (lv_at hl 1 rfl) ?_
              refine z_get hx hb ht hown hK hP ziX6 rfl 73 (by decide) 0 (by decide) hw_2_78 rfl (v := .int (I 73 0)) rfl dX10_paste_54 ?_
              refine lv_aload hx hb dX10_paste_57 (lv_at hl 0 rfl) ?_
              refine z_get hx hb ht hown hK hP ziX6 rfl 75 (by decide) 0 (by decide) hw_2_78 rfl (v := .int (I 75 0)) rfl dX10_paste_59 ?_
              refine lv_icmp_eq (tgt := 68) hx hb dX10_paste_62 (by decide) (fun c_18 => ?_) (fun c_18 => ?_)
              · have t_c_18 := z_eqT c_18
                refine lv_aload hx hb dX10_paste_68 (lv_at hl 1 rfl) ?_
                refine lv_iload_n hx hb dX10_paste_70 rfl (lv_at hl 4 rfl) ?_
                refine lv_iload hx hb dX10_paste_71 (lv_at hl 7 rfl) ?_
                refine z_callVi (k := 73) (As := [.int (pa1), .int (pa4)]) (rest := []) hx hb hml hown ht (xk_X6_spans l D q cA F _ _ _ hI (pa1) (pa4)) hw_5_177 hmX6_spans ⟨rfl, rfl⟩ (na := 2) rfl (by decide +kernel) (by decide) (by decide) rfl rfl hK hP hD hS hA hl.1 rfl (Nat.le_of_ble_eq_true rfl) ⟨Nat.zero_le _, Nat.zero_le _⟩ dX10_paste_73 (fun r_19 I_19 R_19 J_19 H locs hp_19 hP hD hS _ _ => ?_)
                rcases hp_19 with ⟨rfl, hu_19, nn_19⟩ | ⟨rfl, hu_19, nn_19⟩
                · cases hu_19
                  refine lv_if_eq (tgt := 91) hx hb dX10_paste_76 (by decide) (fun c_0 => absurd c_0 (zD_ne zk_1 zk_z (by decide))) (fun _ => ?_)
                  refine lv_aload hx hb dX10_paste_79 (lv_at hl 0 rfl) ?_
                  refine lv_iload hx hb dX10_paste_81 (lv_at hl 6 rfl) ?_
                  refine lv_iload hx hb dX10_paste_83 (lv_at hl 7 rfl) ?_
                  refine z_callVi (k := 75) (As := [.int (pa3), .int (pa4)]) (rest := []) hx hb hml hown ht (xk_X6_spans_1 l D q cA F _ _ _ hI (pa3) (pa4)) hw_5_177 hmX6_spans ⟨rfl, rfl⟩ (na := 2) rfl (by decide +kernel) (by decide) (by decide) rfl rfl hK hP hD hS hA hl.1 rfl (Nat.le_of_ble_eq_true rfl) ⟨Nat.zero_le _, Nat.zero_le _⟩ dX10_paste_85 (fun r_20 I_20 R_20 J_20 H locs hp_20 hP hD hS _ _ => ?_)
                  rcases hp_20 with ⟨rfl, hu_20, nn_20⟩ | ⟨rfl, hu_20, nn_20⟩
                  · cases hu_20
                    refine lv_if_ne (tgt := 94) hx hb dX10_paste_88 (by decide) (fun _ => ?_) (fun c_0 => absurd c_0 (zD_ne zk_1 zk_z (by decide)))
                    refine lv_aload hx hb dX10_paste_94 (lv_at hl 1 rfl) ?_
                    refine z_get hx hb ht hown hK hP ziX6 rfl 73 (by decide) 2 (by decide) hw_2_84 rfl (v := .ref (q 74)) rfl dX10_paste_96 ?_
                    refine lv_iload_n hx hb dX10_paste_99 rfl (lv_at hl 4 rfl) ?_
                    refine lv_aload hx hb dX10_paste_100 (lv_at hl 0 rfl) ?_
                    refine z_get hx hb ht hown hK hP ziX6 rfl 75 (by decide) 2 (by decide) hw_2_84 rfl (v := .ref (q 76)) rfl dX10_paste_102 ?_
                    refine lv_iload hx hb dX10_paste_105 (lv_at hl 6 rfl) ?_
                    refine lv_iload hx hb dX10_paste_107 (lv_at hl 7 rfl) ?_
                    refine z_copyl hx hb (hml.trans hl.1.symm) ht hown hw_5_181 ⟨hw_3_44, hw_3_43, hw_1_18⟩ hK hP hD hS 74 76 (by decide) (by decide) 53 54 rfl (fun _ => rfl) rfl rfl (x_nn nn_19.1) (x_nn nn_20.1) (x_nn nn_19.2.1) (x_cp nn_19 (xI hI 73 1).2) (x_cp nn_20 (xI hI 75 1).2) (by decide) (by decide +kernel) dX10_paste_109 (fun g_21 H locs eg_21 hP hD hS => ?_)
                    have hI_22 := xInv_J (J2 := (zr J 76 g_21)) hI
                    refine lv_iconst (v := nI 0) hx hb dX10_paste_112 (by decide +kernel) ?_
                    exact z_iret (v := nI 0) hx hb hr hlocks hP hD hS dX10_paste_113 (Or.inr (Or.inr (Or.inr (Or.inr ⟨(by obtain ⟨_, _⟩ := zk_0; obtain ⟨_, _⟩ := zk_1; omega), (show (F 73 1).toInt ≠ -1 ∧ (F 75 1).toInt ≠ -1 from (by have e0 : (I 73 1).toInt = (F 73 1).toInt := congrArg Int32.toInt (xFr hI 73 1 rfl); have e1 : (I 75 1).toInt = (F 75 1).toInt := congrArg Int32.toInt (xFr hI 75 1 rfl); have e2 : (I 73 0).toInt = (F 73 0).toInt := congrArg Int32.toInt (xFr hI 73 0 rfl); have e3 : (I 75 0).toInt = (F 75 0).toInt := congrArg Int32.toInt (xFr hI 75 0 rfl); have _ := nn_14; have _ := nn_16; omega)), (show (F 73 0).toInt = (F 75 0).toInt from (by have e0 : (I 73 1).toInt = (F 73 1).toInt := congrArg Int32.toInt (xFr hI 73 1 rfl); have e1 : (I 75 1).toInt = (F 75 1).toInt := congrArg Int32.toInt (xFr hI 75 1 rfl); have e2 : (I 73 0).toInt = (F 73 0).toInt := congrArg Int32.toInt (xFr hI 73 0 rfl); have e3 : (I 75 0).toInt = (F 75 0).toInt := congrArg Int32.toInt (xFr hI 75 0 rfl); have _ := t_c_18; omega)), (show 0 ≤ pa1.toInt ∧ 0 ≤ pa3.toInt ∧ 0 ≤ pa4.toInt ∧ pa1.toInt + pa4.toInt ≤ (F 73 1).toInt ∧ pa3.toInt + pa4.toInt ≤ (F 75 1).toInt from (by have e0 : (I 73 1).toInt = (F 73 1).toInt := congrArg Int32.toInt (xFr hI 73 1 rfl); have e1 : (I 75 1).toInt = (F 75 1).toInt := congrArg Int32.toInt (xFr hI 75 1 rfl); have e2 : (I 73 0).toInt = (F 73 0).toInt := congrArg Int32.toInt (xFr hI 73 0 rfl); have e3 : (I 75 0).toInt = (F 75 0).toInt := congrArg Int32.toInt (xFr hI 75 0 rfl); have _ := nn_19; have _ := nn_20; omega)), rfl, hI_22⟩))))
                  · cases hu_20
                    refine lv_if_ne (tgt := 94) hx hb dX10_paste_88 (by decide) (fun c_0 => absurd (zD_eq zk_0 zk_z) c_0) (fun _ => ?_)
                    refine lv_bipush (v := (-7)) hx hb dX10_paste_91 (by decide +kernel) ?_
                    exact z_iret (v := (-7)) hx hb hr hlocks hP hD hS dX10_paste_93 (Or.inr (Or.inr (Or.inr (Or.inl ⟨(by obtain ⟨_, _⟩ := zk_0; obtain ⟨_, _⟩ := zk_1; omega), (show (F 73 1).toInt ≠ -1 ∧ (F 75 1).toInt ≠ -1 from (by have e0 : (I 73 1).toInt = (F 73 1).toInt := congrArg Int32.toInt (xFr hI 73 1 rfl); have e1 : (I 75 1).toInt = (F 75 1).toInt := congrArg Int32.toInt (xFr hI 75 1 rfl); have e2 : (I 73 0).toInt = (F 73 0).toInt := congrArg Int32.toInt (xFr hI 73 0 rfl); have e3 : (I 75 0).toInt = (F 75 0).toInt := congrArg Int32.toInt (xFr hI 75 0 rfl); have _ := nn_14; have _ := nn_16; omega)), (show (F 73 0).toInt = (F 75 0).toInt from (by have e0 : (I 73 1).toInt = (F 73 1).toInt := congrArg Int32.toInt (xFr hI 73 1 rfl); have e1 : (I 75 1).toInt = (F 75 1).toInt := congrArg Int32.toInt (xFr hI 75 1 rfl); have e2 : (I 73 0).toInt = (F 73 0).toInt := congrArg Int32.toInt (xFr hI 73 0 rfl); have e3 : (I 75 0).toInt = (F 75 0).toInt := congrArg Int32.toInt (xFr hI 75 0 rfl); have _ := t_c_18; omega)), (show ¬ (0 ≤ pa1.toInt ∧ 0 ≤ pa3.toInt ∧ 0 ≤ pa4.toInt ∧ pa1.toInt + pa4.toInt ≤ (F 73 1).toInt ∧ pa3.toInt + pa4.toInt ≤ (F 75 1).toInt) from (by have e0 : (I 73 1).toInt = (F 73 1).toInt := congrArg Int32.toInt (xFr hI 73 1 rfl); have e1 : (I 75 1).toInt = (F 75 1).toInt := congrArg Int32.toInt (xFr hI 75 1 rfl); have e2 : (I 73 0).toInt = (F 73 0).toInt := congrArg Int32.toInt (xFr hI 73 0 rfl); have e3 : (I 75 0).toInt = (F 75 0).toInt := congrArg Int32.toInt (xFr hI 75 0 rfl); have _ := nn_19; have _ := nn_20; omega)), rfl, hI⟩))))
                · cases hu_19
                  refine lv_if_eq (tgt := 91) hx hb dX10_paste_76 (by decide) (fun _ => ?_) (fun c_0 => absurd (zD_eq zk_0 zk_z) c_0)
                  refine lv_bipush (v := (-7)) hx hb dX10_paste_91 (by decide +kernel) ?_
                  exact z_iret (v := (-7)) hx hb hr hlocks hP hD hS dX10_paste_93 (Or.inr (Or.inr (Or.inr (Or.inl ⟨(by obtain ⟨_, _⟩ := zk_0; obtain ⟨_, _⟩ := zk_1; omega), (show (F 73 1).toInt ≠ -1 ∧ (F 75 1).toInt ≠ -1 from (by have e0 : (I 73 1).toInt = (F 73 1).toInt := congrArg Int32.toInt (xFr hI 73 1 rfl); have e1 : (I 75 1).toInt = (F 75 1).toInt := congrArg Int32.toInt (xFr hI 75 1 rfl); have e2 : (I 73 0).toInt = (F 73 0).toInt := congrArg Int32.toInt (xFr hI 73 0 rfl); have e3 : (I 75 0).toInt = (F 75 0).toInt := congrArg Int32.toInt (xFr hI 75 0 rfl); have _ := nn_14; have _ := nn_16; omega)), (show (F 73 0).toInt = (F 75 0).toInt from (by have e0 : (I 73 1).toInt = (F 73 1).toInt := congrArg Int32.toInt (xFr hI 73 1 rfl); have e1 : (I 75 1).toInt = (F 75 1).toInt := congrArg Int32.toInt (xFr hI 75 1 rfl); have e2 : (I 73 0).toInt = (F 73 0).toInt := congrArg Int32.toInt (xFr hI 73 0 rfl); have e3 : (I 75 0).toInt = (F 75 0).toInt := congrArg Int32.toInt (xFr hI 75 0 rfl); have _ := t_c_18; omega)), (show ¬ (0 ≤ pa1.toInt ∧ 0 ≤ pa3.toInt ∧ 0 ≤ pa4.toInt ∧ pa1.toInt + pa4.toInt ≤ (F 73 1).toInt ∧ pa3.toInt + pa4.toInt ≤ (F 75 1).toInt) from (by have e0 : (I 73 1).toInt = (F 73 1).toInt := congrArg Int32.toInt (xFr hI 73 1 rfl); have e1 : (I 75 1).toInt = (F 75 1).toInt := congrArg Int32.toInt (xFr hI 75 1 rfl); have e2 : (I 73 0).toInt = (F 73 0).toInt := congrArg Int32.toInt (xFr hI 73 0 rfl); have e3 : (I 75 0).toInt = (F 75 0).toInt := congrArg Int32.toInt (xFr hI 75 0 rfl); have _ := nn_19; omega)), rfl, hI⟩))))
              · have t_c_18 := z_eqF c_18
                refine lv_bipush (v := (-8)) hx hb dX10_paste_65 (by decide +kernel) ?_
                exact z_iret (v := (-8)) hx hb hr hlocks hP hD hS dX10_paste_67 (Or.inr (Or.inr (Or.inl ⟨(by obtain ⟨_, _⟩ := zk_0; obtain ⟨_, _⟩ := zk_1; omega), (show (F 73 1).toInt ≠ -1 ∧ (F 75 1).toInt ≠ -1 from (by have e0 : (I 73 1).toInt = (F 73 1).toInt := congrArg Int32.toInt (xFr hI 73 1 rfl); have e1 : (I 75 1).toInt = (F 75 1).toInt := congrArg Int32.toInt (xFr hI 75 1 rfl); have e2 : (I 73 0).toInt = (F 73 0).toInt := congrArg Int32.toInt (xFr hI 73 0 rfl); have e3 : (I 75 0).toInt = (F 75 0).toInt := congrArg Int32.toInt (xFr hI 75 0 rfl); have _ := nn_14; have _ := nn_16; omega)), (show (F 73 0).toInt ≠ (F 75 0).toInt from (by have e0 : (I 73 1).toInt = (F 73 1).toInt := congrArg Int32.toInt (xFr hI 73 1 rfl); have e1 : (I 75 1).toInt = (F 75 1).toInt := congrArg Int32.toInt (xFr hI 75 1 rfl); have e2 : (I 73 0).toInt = (F 73 0).toInt := congrArg Int32.toInt (xFr hI 73 0 rfl); have e3 : (I 75 0).toInt = (F 75 0).toInt := congrArg Int32.toInt (xFr hI 75 0 rfl); have _ := t_c_18; omega)), rfl, hI⟩)))
            · cases hu_16
              refine lv_if_ne (tgt := 52) hx hb dX10_paste_46 (by decide) (fun c_0 => absurd (zD_eq zk_0 zk_z) c_0) (fun _ => ?_)
              refine lv_bipush (v := (-6)) hx hb dX10_paste_49 (by decide +kernel) ?_
              exact z_iret (v := (-6)) hx hb hr hlocks hP hD hS dX10_paste_51 (Or.inr (Or.inl ⟨(by obtain ⟨_, _⟩ := zk_0; obtain ⟨_, _⟩ := zk_1; omega), (show (F 73 1).toInt = -1 ∨ (F 75 1).toInt = -1 from (by have e0 : (I 73 1).toInt = (F 73 1).toInt := congrArg Int32.toInt (xFr hI 73 1 rfl); have e1 : (I 75 1).toInt = (F 75 1).toInt := congrArg Int32.toInt (xFr hI 75 1 rfl); have e2 : (I 73 0).toInt = (F 73 0).toInt := congrArg Int32.toInt (xFr hI 73 0 rfl); have e3 : (I 75 0).toInt = (F 75 0).toInt := congrArg Int32.toInt (xFr hI 75 0 rfl); have _ := nn_14; have _ := nn_16; omega)), rfl, hI⟩))
          · cases hu_14
            refine lv_if_eq (tgt := 49) hx hb dX10_paste_38 (by decide) (fun _ => ?_) (fun c_0 => absurd (zD_eq zk_0 zk_z) c_0)
            refine lv_bipush (v := (-6)) hx hb dX10_paste_49 (by decide +kernel) ?_
            exact z_iret (v := (-6)) hx hb hr hlocks hP hD hS dX10_paste_51 (Or.inr (Or.inl ⟨(by obtain ⟨_, _⟩ := zk_0; obtain ⟨_, _⟩ := zk_1; omega), (show (F 73 1).toInt = -1 ∨ (F 75 1).toInt = -1 from (by have e0 : (I 73 1).toInt = (F 73 1).toInt := congrArg Int32.toInt (xFr hI 73 1 rfl); have e1 : (I 75 1).toInt = (F 75 1).toInt := congrArg Int32.toInt (xFr hI 75 1 rfl); have e2 : (I 73 0).toInt = (F 73 0).toInt := congrArg Int32.toInt (xFr hI 73 0 rfl); have e3 : (I 75 0).toInt = (F 75 0).toInt := congrArg Int32.toInt (xFr hI 75 0 rfl); have _ := nn_14; omega)), rfl, hI⟩))
        · refine va_aldq hx hb hK hP 72 52 (zw_at (by decide) rfl) rfl (vp_in_nI (by decide) (by decide)) dX10_paste_30 ?_
          refine W.eq (g2 := F0 m 31 ls (.ref (q 77) :: [])) rfl ?_
          refine lv_astore (lv' := [(7, .ref (q 77)), (6, .ref (q 73)), (0, .ref (q 0)), (1, .int (nI 0)), (2, .int (pa1)), (3, .int (nI 2)), (4, .int (pa3)), (5, .int (pa4))]) hx hb dX10_paste_31 hl (by decide) rfl (fun ls hl => ?_)
          refine lv_aload hx hb dX10_paste_33 (lv_at hl 1 rfl) ?_
          refine z_callVi (k := 73) (As := []) (rest := []) hx hb hml hown ht (xk_X6_isThere l D q cA F _ _ _ hI ) hw_5_63 hmX6_isThere ⟨rfl, rfl⟩ (na := 0) rfl (by decide +kernel) (by decide) (by decide) rfl rfl hK hP hD hS hA hl.1 rfl (Nat.le_of_ble_eq_true rfl) ⟨Nat.zero_le _, Nat.zero_le _⟩ dX10_paste_35 (fun r_23 I_23 R_23 J_23 H locs hp_23 hP hD hS _ _ => ?_)
          rcases hp_23 with ⟨rfl, hu_23, nn_23⟩ | ⟨rfl, hu_23, nn_23⟩
          · cases hu_23
            have f_24 : zR 0 60 (I 73 1) := x_there (xI hI 73 1) nn_23
            refine lv_if_eq (tgt := 49) hx hb dX10_paste_38 (by decide) (fun c_0 => absurd c_0 (zD_ne zk_1 zk_z (by decide))) (fun _ => ?_)
            refine lv_aload hx hb dX10_paste_41 (lv_at hl 0 rfl) ?_
            refine z_callVi (k := 77) (As := []) (rest := []) hx hb hml hown ht (xk_X6_isThere_2 l D q cA F _ _ _ hI ) hw_5_63 hmX6_isThere ⟨rfl, rfl⟩ (na := 0) rfl (by decide +kernel) (by decide) (by decide) rfl rfl hK hP hD hS hA hl.1 rfl (Nat.le_of_ble_eq_true rfl) ⟨Nat.zero_le _, Nat.zero_le _⟩ dX10_paste_43 (fun r_25 I_25 R_25 J_25 H locs hp_25 hP hD hS _ _ => ?_)
            rcases hp_25 with ⟨rfl, hu_25, nn_25⟩ | ⟨rfl, hu_25, nn_25⟩
            · cases hu_25
              have f_26 : zR 0 60 (I 77 1) := x_there (xI hI 77 1) nn_25
              refine lv_if_ne (tgt := 52) hx hb dX10_paste_46 (by decide) (fun _ => ?_) (fun c_0 => absurd c_0 (zD_ne zk_1 zk_z (by decide)))
              refine lv_aload hx hb dX10_paste_52 (lv_at hl 1 rfl) ?_
              refine z_get hx hb ht hown hK hP ziX6 rfl 73 (by decide) 0 (by decide) hw_2_78 rfl (v := .int (I 73 0)) rfl dX10_paste_54 ?_
              refine lv_aload hx hb dX10_paste_57 (lv_at hl 0 rfl) ?_
              refine z_get hx hb ht hown hK hP ziX6 rfl 77 (by decide) 0 (by decide) hw_2_78 rfl (v := .int (I 77 0)) rfl dX10_paste_59 ?_
              refine lv_icmp_eq (tgt := 68) hx hb dX10_paste_62 (by decide) (fun c_27 => ?_) (fun c_27 => ?_)
              · have t_c_27 := z_eqT c_27
                refine lv_aload hx hb dX10_paste_68 (lv_at hl 1 rfl) ?_
                refine lv_iload_n hx hb dX10_paste_70 rfl (lv_at hl 4 rfl) ?_
                refine lv_iload hx hb dX10_paste_71 (lv_at hl 7 rfl) ?_
                refine z_callVi (k := 73) (As := [.int (pa1), .int (pa4)]) (rest := []) hx hb hml hown ht (xk_X6_spans l D q cA F _ _ _ hI (pa1) (pa4)) hw_5_177 hmX6_spans ⟨rfl, rfl⟩ (na := 2) rfl (by decide +kernel) (by decide) (by decide) rfl rfl hK hP hD hS hA hl.1 rfl (Nat.le_of_ble_eq_true rfl) ⟨Nat.zero_le _, Nat.zero_le _⟩ dX10_paste_73 (fun r_28 I_28 R_28 J_28 H locs hp_28 hP hD hS _ _ => ?_)
                rcases hp_28 with ⟨rfl, hu_28, nn_28⟩ | ⟨rfl, hu_28, nn_28⟩
                · cases hu_28
                  refine lv_if_eq (tgt := 91) hx hb dX10_paste_76 (by decide) (fun c_0 => absurd c_0 (zD_ne zk_1 zk_z (by decide))) (fun _ => ?_)
                  refine lv_aload hx hb dX10_paste_79 (lv_at hl 0 rfl) ?_
                  refine lv_iload hx hb dX10_paste_81 (lv_at hl 6 rfl) ?_
                  refine lv_iload hx hb dX10_paste_83 (lv_at hl 7 rfl) ?_
                  refine z_callVi (k := 77) (As := [.int (pa3), .int (pa4)]) (rest := []) hx hb hml hown ht (xk_X6_spans_2 l D q cA F _ _ _ hI (pa3) (pa4)) hw_5_177 hmX6_spans ⟨rfl, rfl⟩ (na := 2) rfl (by decide +kernel) (by decide) (by decide) rfl rfl hK hP hD hS hA hl.1 rfl (Nat.le_of_ble_eq_true rfl) ⟨Nat.zero_le _, Nat.zero_le _⟩ dX10_paste_85 (fun r_29 I_29 R_29 J_29 H locs hp_29 hP hD hS _ _ => ?_)
                  rcases hp_29 with ⟨rfl, hu_29, nn_29⟩ | ⟨rfl, hu_29, nn_29⟩
                  · cases hu_29
                    refine lv_if_ne (tgt := 94) hx hb dX10_paste_88 (by decide) (fun _ => ?_) (fun c_0 => absurd c_0 (zD_ne zk_1 zk_z (by decide)))
                    refine lv_aload hx hb dX10_paste_94 (lv_at hl 1 rfl) ?_
                    refine z_get hx hb ht hown hK hP ziX6 rfl 73 (by decide) 2 (by decide) hw_2_84 rfl (v := .ref (q 74)) rfl dX10_paste_96 ?_
                    refine lv_iload_n hx hb dX10_paste_99 rfl (lv_at hl 4 rfl) ?_
                    refine lv_aload hx hb dX10_paste_100 (lv_at hl 0 rfl) ?_
                    refine z_get hx hb ht hown hK hP ziX6 rfl 77 (by decide) 2 (by decide) hw_2_84 rfl (v := .ref (q 78)) rfl dX10_paste_102 ?_
                    refine lv_iload hx hb dX10_paste_105 (lv_at hl 6 rfl) ?_
                    refine lv_iload hx hb dX10_paste_107 (lv_at hl 7 rfl) ?_
                    refine z_copyl hx hb (hml.trans hl.1.symm) ht hown hw_5_181 ⟨hw_3_44, hw_3_43, hw_1_18⟩ hK hP hD hS 74 78 (by decide) (by decide) 53 55 rfl (fun _ => rfl) rfl rfl (x_nn nn_28.1) (x_nn nn_29.1) (x_nn nn_28.2.1) (x_cp nn_28 (xI hI 73 1).2) (x_cp nn_29 (xI hI 77 1).2) (by decide) (by decide +kernel) dX10_paste_109 (fun g_30 H locs eg_30 hP hD hS => ?_)
                    have hI_31 := xInv_J (J2 := (zr J 78 g_30)) hI
                    refine lv_iconst (v := nI 0) hx hb dX10_paste_112 (by decide +kernel) ?_
                    exact z_iret (v := nI 0) hx hb hr hlocks hP hD hS dX10_paste_113 (Or.inr (Or.inr (Or.inr (Or.inr ⟨(by obtain ⟨_, _⟩ := zk_0; obtain ⟨_, _⟩ := zk_2; omega), (show (F 73 1).toInt ≠ -1 ∧ (F 77 1).toInt ≠ -1 from (by have e0 : (I 73 1).toInt = (F 73 1).toInt := congrArg Int32.toInt (xFr hI 73 1 rfl); have e1 : (I 77 1).toInt = (F 77 1).toInt := congrArg Int32.toInt (xFr hI 77 1 rfl); have e2 : (I 73 0).toInt = (F 73 0).toInt := congrArg Int32.toInt (xFr hI 73 0 rfl); have e3 : (I 77 0).toInt = (F 77 0).toInt := congrArg Int32.toInt (xFr hI 77 0 rfl); have _ := nn_23; have _ := nn_25; omega)), (show (F 73 0).toInt = (F 77 0).toInt from (by have e0 : (I 73 1).toInt = (F 73 1).toInt := congrArg Int32.toInt (xFr hI 73 1 rfl); have e1 : (I 77 1).toInt = (F 77 1).toInt := congrArg Int32.toInt (xFr hI 77 1 rfl); have e2 : (I 73 0).toInt = (F 73 0).toInt := congrArg Int32.toInt (xFr hI 73 0 rfl); have e3 : (I 77 0).toInt = (F 77 0).toInt := congrArg Int32.toInt (xFr hI 77 0 rfl); have _ := t_c_27; omega)), (show 0 ≤ pa1.toInt ∧ 0 ≤ pa3.toInt ∧ 0 ≤ pa4.toInt ∧ pa1.toInt + pa4.toInt ≤ (F 73 1).toInt ∧ pa3.toInt + pa4.toInt ≤ (F 77 1).toInt from (by have e0 : (I 73 1).toInt = (F 73 1).toInt := congrArg Int32.toInt (xFr hI 73 1 rfl); have e1 : (I 77 1).toInt = (F 77 1).toInt := congrArg Int32.toInt (xFr hI 77 1 rfl); have e2 : (I 73 0).toInt = (F 73 0).toInt := congrArg Int32.toInt (xFr hI 73 0 rfl); have e3 : (I 77 0).toInt = (F 77 0).toInt := congrArg Int32.toInt (xFr hI 77 0 rfl); have _ := nn_28; have _ := nn_29; omega)), rfl, hI_31⟩))))
                  · cases hu_29
                    refine lv_if_ne (tgt := 94) hx hb dX10_paste_88 (by decide) (fun c_0 => absurd (zD_eq zk_0 zk_z) c_0) (fun _ => ?_)
                    refine lv_bipush (v := (-7)) hx hb dX10_paste_91 (by decide +kernel) ?_
                    exact z_iret (v := (-7)) hx hb hr hlocks hP hD hS dX10_paste_93 (Or.inr (Or.inr (Or.inr (Or.inl ⟨(by obtain ⟨_, _⟩ := zk_0; obtain ⟨_, _⟩ := zk_2; omega), (show (F 73 1).toInt ≠ -1 ∧ (F 77 1).toInt ≠ -1 from (by have e0 : (I 73 1).toInt = (F 73 1).toInt := congrArg Int32.toInt (xFr hI 73 1 rfl); have e1 : (I 77 1).toInt = (F 77 1).toInt := congrArg Int32.toInt (xFr hI 77 1 rfl); have e2 : (I 73 0).toInt = (F 73 0).toInt := congrArg Int32.toInt (xFr hI 73 0 rfl); have e3 : (I 77 0).toInt = (F 77 0).toInt := congrArg Int32.toInt (xFr hI 77 0 rfl); have _ := nn_23; have _ := nn_25; omega)), (show (F 73 0).toInt = (F 77 0).toInt from (by have e0 : (I 73 1).toInt = (F 73 1).toInt := congrArg Int32.toInt (xFr hI 73 1 rfl); have e1 : (I 77 1).toInt = (F 77 1).toInt := congrArg Int32.toInt (xFr hI 77 1 rfl); have e2 : (I 73 0).toInt = (F 73 0).toInt := congrArg Int32.toInt (xFr hI 73 0 rfl); have e3 : (I 77 0).toInt = (F 77 0).toInt := congrArg Int32.toInt (xFr hI 77 0 rfl); have _ := t_c_27; omega)), (show ¬ (0 ≤ pa1.toInt ∧ 0 ≤ pa3.toInt ∧ 0 ≤ pa4.toInt ∧ pa1.toInt + pa4.toInt ≤ (F 73 1).toInt ∧ pa3.toInt + pa4.toInt ≤ (F 77 1).toInt) from (by have e0 : (I 73 1).toInt = (F 73 1).toInt := congrArg Int32.toInt (xFr hI 73 1 rfl); have e1 : (I 77 1).toInt = (F 77 1).toInt := congrArg Int32.toInt (xFr hI 77 1 rfl); have e2 : (I 73 0).toInt = (F 73 0).toInt := congrArg Int32.toInt (xFr hI 73 0 rfl); have e3 : (I 77 0).toInt = (F 77 0).toInt := congrArg Int32.toInt (xFr hI 77 0 rfl); have _ := nn_28; have _ := nn_29; omega)), rfl, hI⟩))))
                · cases hu_28
                  refine lv_if_eq (tgt := 91) hx hb dX10_paste_76 (by decide) (fun _ => ?_) (fun c_0 => absurd (zD_eq zk_0 zk_z) c_0)
                  refine lv_bipush (v := (-7)) hx hb dX10_paste_91 (by decide +kernel) ?_
                  exact z_iret (v := (-7)) hx hb hr hlocks hP hD hS dX10_paste_93 (Or.inr (Or.inr (Or.inr (Or.inl ⟨(by obtain ⟨_, _⟩ := zk_0; obtain ⟨_, _⟩ := zk_2; omega), (show (F 73 1).toInt ≠ -1 ∧ (F 77 1).toInt ≠ -1 from (by have e0 : (I 73 1).toInt = (F 73 1).toInt := congrArg Int32.toInt (xFr hI 73 1 rfl); have e1 : (I 77 1).toInt = (F 77 1).toInt := congrArg Int32.toInt (xFr hI 77 1 rfl); have e2 : (I 73 0).toInt = (F 73 0).toInt := congrArg Int32.toInt (xFr hI 73 0 rfl); have e3 : (I 77 0).toInt = (F 77 0).toInt := congrArg Int32.toInt (xFr hI 77 0 rfl); have _ := nn_23; have _ := nn_25; omega)), (show (F 73 0).toInt = (F 77 0).toInt from (by have e0 : (I 73 1).toInt = (F 73 1).toInt := congrArg Int32.toInt (xFr hI 73 1 rfl); have e1 : (I 77 1).toInt = (F 77 1).toInt := congrArg Int32.toInt (xFr hI 77 1 rfl); have e2 : (I 73 0).toInt = (F 73 0).toInt := congrArg Int32.toInt (xFr hI 73 0 rfl); have e3 : (I 77 0).toInt = (F 77 0).toInt := congrArg Int32.toInt (xFr hI 77 0 rfl); have _ := t_c_27; omega)), (show ¬ (0 ≤ pa1.toInt ∧ 0 ≤ pa3.toInt ∧ 0 ≤ pa4.toInt ∧ pa1.toInt + pa4.toInt ≤ (F 73 1).toInt ∧ pa3.toInt + pa4.toInt ≤ (F 77 1).toInt) from (by have e0 : (I 73 1).toInt = (F 73 1).toInt := congrArg Int32.toInt (xFr hI 73 1 rfl); have e1 : (I 77 1).toInt = (F 77 1).toInt := congrArg Int32.toInt (xFr hI 77 1 rfl); have e2 : (I 73 0).toInt = (F 73 0).toInt := congrArg Int32.toInt (xFr hI 73 0 rfl); have e3 : (I 77 0).toInt = (F 77 0).toInt := congrArg Int32.toInt (xFr hI 77 0 rfl); have _ := nn_28; omega)), rfl, hI⟩))))
              · have t_c_27 := z_eqF c_27
                refine lv_bipush (v := (-8)) hx hb dX10_paste_65 (by decide +kernel) ?_
                exact z_iret (v := (-8)) hx hb hr hlocks hP hD hS dX10_paste_67 (Or.inr (Or.inr (Or.inl ⟨(by obtain ⟨_, _⟩ := zk_0; obtain ⟨_, _⟩ := zk_2; omega), (show (F 73 1).toInt ≠ -1 ∧ (F 77 1).toInt ≠ -1 from (by have e0 : (I 73 1).toInt = (F 73 1).toInt := congrArg Int32.toInt (xFr hI 73 1 rfl); have e1 : (I 77 1).toInt = (F 77 1).toInt := congrArg Int32.toInt (xFr hI 77 1 rfl); have e2 : (I 73 0).toInt = (F 73 0).toInt := congrArg Int32.toInt (xFr hI 73 0 rfl); have e3 : (I 77 0).toInt = (F 77 0).toInt := congrArg Int32.toInt (xFr hI 77 0 rfl); have _ := nn_23; have _ := nn_25; omega)), (show (F 73 0).toInt ≠ (F 77 0).toInt from (by have e0 : (I 73 1).toInt = (F 73 1).toInt := congrArg Int32.toInt (xFr hI 73 1 rfl); have e1 : (I 77 1).toInt = (F 77 1).toInt := congrArg Int32.toInt (xFr hI 77 1 rfl); have e2 : (I 73 0).toInt = (F 73 0).toInt := congrArg Int32.toInt (xFr hI 73 0 rfl); have e3 : (I 77 0).toInt = (F 77 0).toInt := congrArg Int32.toInt (xFr hI 77 0 rfl); have _ := t_c_27; omega)), rfl, hI⟩)))
            · cases hu_25
              refine lv_if_ne (tgt := 52) hx hb dX10_paste_46 (by decide) (fun c_0 => absurd (zD_eq zk_0 zk_z) c_0) (fun _ => ?_)
              refine lv_bipush (v := (-6)) hx hb dX10_paste_49 (by decide +kernel) ?_
              exact z_iret (v := (-6)) hx hb hr hlocks hP hD hS dX10_paste_51 (Or.inr (Or.inl ⟨(by obtain ⟨_, _⟩ := zk_0; obtain ⟨_, _⟩ := zk_2; omega), (show (F 73 1).toInt = -1 ∨ (F 77 1).toInt = -1 from (by have e0 : (I 73 1).toInt = (F 73 1).toInt := congrArg Int32.toInt (xFr hI 73 1 rfl); have e1 : (I 77 1).toInt = (F 77 1).toInt := congrArg Int32.toInt (xFr hI 77 1 rfl); have e2 : (I 73 0).toInt = (F 73 0).toInt := congrArg Int32.toInt (xFr hI 73 0 rfl); have e3 : (I 77 0).toInt = (F 77 0).toInt := congrArg Int32.toInt (xFr hI 77 0 rfl); have _ := nn_23; have _ := nn_25; omega)), rfl, hI⟩))
          · cases hu_23
            refine lv_if_eq (tgt := 49) hx hb dX10_paste_38 (by decide) (fun _ => ?_) (fun c_0 => absurd (zD_eq zk_0 zk_z) c_0)
            refine lv_bipush (v := (-6)) hx hb dX10_paste_49 (by decide +kernel) ?_
            exact z_iret (v := (-6)) hx hb hr hlocks hP hD hS dX10_paste_51 (Or.inr (Or.inl ⟨(by obtain ⟨_, _⟩ := zk_0; obtain ⟨_, _⟩ := zk_2; omega), (show (F 73 1).toInt = -1 ∨ (F 77 1).toInt = -1 from (by have e0 : (I 73 1).toInt = (F 73 1).toInt := congrArg Int32.toInt (xFr hI 73 1 rfl); have e1 : (I 77 1).toInt = (F 77 1).toInt := congrArg Int32.toInt (xFr hI 77 1 rfl); have e2 : (I 73 0).toInt = (F 73 0).toInt := congrArg Int32.toInt (xFr hI 73 0 rfl); have e3 : (I 77 0).toInt = (F 77 0).toInt := congrArg Int32.toInt (xFr hI 77 0 rfl); have _ := nn_23; omega)), rfl, hI⟩))
        · refine va_aldq hx hb hK hP 72 52 (zw_at (by decide) rfl) rfl (vp_in_nI (by decide) (by decide)) dX10_paste_30 ?_
          refine W.eq (g2 := F0 m 31 ls (.ref (q 79) :: [])) rfl ?_
          refine lv_astore (lv' := [(7, .ref (q 79)), (6, .ref (q 73)), (0, .ref (q 0)), (1, .int (nI 0)), (2, .int (pa1)), (3, .int (nI 3)), (4, .int (pa3)), (5, .int (pa4))]) hx hb dX10_paste_31 hl (by decide) rfl (fun ls hl => ?_)
          refine lv_aload hx hb dX10_paste_33 (lv_at hl 1 rfl) ?_
          refine z_callVi (k := 73) (As := []) (rest := []) hx hb hml hown ht (xk_X6_isThere l D q cA F _ _ _ hI ) hw_5_63 hmX6_isThere ⟨rfl, rfl⟩ (na := 0) rfl (by decide +kernel) (by decide) (by decide) rfl rfl hK hP hD hS hA hl.1 rfl (Nat.le_of_ble_eq_true rfl) ⟨Nat.zero_le _, Nat.zero_le _⟩ dX10_paste_35 (fun r_32 I_32 R_32 J_32 H locs hp_32 hP hD hS _ _ => ?_)
          rcases hp_32 with ⟨rfl, hu_32, nn_32⟩ | ⟨rfl, hu_32, nn_32⟩
          · cases hu_32
            have f_33 : zR 0 60 (I 73 1) := x_there (xI hI 73 1) nn_32
            refine lv_if_eq (tgt := 49) hx hb dX10_paste_38 (by decide) (fun c_0 => absurd c_0 (zD_ne zk_1 zk_z (by decide))) (fun _ => ?_)
            refine lv_aload hx hb dX10_paste_41 (lv_at hl 0 rfl) ?_
            refine z_callVi (k := 79) (As := []) (rest := []) hx hb hml hown ht (xk_X6_isThere_3 l D q cA F _ _ _ hI ) hw_5_63 hmX6_isThere ⟨rfl, rfl⟩ (na := 0) rfl (by decide +kernel) (by decide) (by decide) rfl rfl hK hP hD hS hA hl.1 rfl (Nat.le_of_ble_eq_true rfl) ⟨Nat.zero_le _, Nat.zero_le _⟩ dX10_paste_43 (fun r_34 I_34 R_34 J_34 H locs hp_34 hP hD hS _ _ => ?_)
            rcases hp_34 with ⟨rfl, hu_34, nn_34⟩ | ⟨rfl, hu_34, nn_34⟩
            · cases hu_34
              have f_35 : zR 0 60 (I 79 1) := x_there (xI hI 79 1) nn_34
              refine lv_if_ne (tgt := 52) hx hb dX10_paste_46 (by decide) (fun _ => ?_) (fun c_0 => absurd c_0 (zD_ne zk_1 zk_z (by decide)))
              refine lv_aload hx hb dX10_paste_52 (lv_at hl 1 rfl) ?_
              refine z_get hx hb ht hown hK hP ziX6 rfl 73 (by decide) 0 (by decide) hw_2_78 rfl (v := .int (I 73 0)) rfl dX10_paste_54 ?_
              refine lv_aload hx hb dX10_paste_57 (lv_at hl 0 rfl) ?_
              refine z_get hx hb ht hown hK hP ziX6 rfl 79 (by decide) 0 (by decide) hw_2_78 rfl (v := .int (I 79 0)) rfl dX10_paste_59 ?_
              refine lv_icmp_eq (tgt := 68) hx hb dX10_paste_62 (by decide) (fun c_36 => ?_) (fun c_36 => ?_)
              · have t_c_36 := z_eqT c_36
                refine lv_aload hx hb dX10_paste_68 (lv_at hl 1 rfl) ?_
                refine lv_iload_n hx hb dX10_paste_70 rfl (lv_at hl 4 rfl) ?_
                refine lv_iload hx hb dX10_paste_71 (lv_at hl 7 rfl) ?_
                refine z_callVi (k := 73) (As := [.int (pa1), .int (pa4)]) (rest := []) hx hb hml hown ht (xk_X6_spans l D q cA F _ _ _ hI (pa1) (pa4)) hw_5_177 hmX6_spans ⟨rfl, rfl⟩ (na := 2) rfl (by decide +kernel) (by decide) (by decide) rfl rfl hK hP hD hS hA hl.1 rfl (Nat.le_of_ble_eq_true rfl) ⟨Nat.zero_le _, Nat.zero_le _⟩ dX10_paste_73 (fun r_37 I_37 R_37 J_37 H locs hp_37 hP hD hS _ _ => ?_)
                rcases hp_37 with ⟨rfl, hu_37, nn_37⟩ | ⟨rfl, hu_37, nn_37⟩
                · cases hu_37
                  refine lv_if_eq (tgt := 91) hx hb dX10_paste_76 (by decide) (fun c_0 => absurd c_0 (zD_ne zk_1 zk_z (by decide))) (fun _ => ?_)
                  refine lv_aload hx hb dX10_paste_79 (lv_at hl 0 rfl) ?_
                  refine lv_iload hx hb dX10_paste_81 (lv_at hl 6 rfl) ?_
                  refine lv_iload hx hb dX10_paste_83 (lv_at hl 7 rfl) ?_
                  refine z_callVi (k := 79) (As := [.int (pa3), .int (pa4)]) (rest := []) hx hb hml hown ht (xk_X6_spans_3 l D q cA F _ _ _ hI (pa3) (pa4)) hw_5_177 hmX6_spans ⟨rfl, rfl⟩ (na := 2) rfl (by decide +kernel) (by decide) (by decide) rfl rfl hK hP hD hS hA hl.1 rfl (Nat.le_of_ble_eq_true rfl) ⟨Nat.zero_le _, Nat.zero_le _⟩ dX10_paste_85 (fun r_38 I_38 R_38 J_38 H locs hp_38 hP hD hS _ _ => ?_)
                  rcases hp_38 with ⟨rfl, hu_38, nn_38⟩ | ⟨rfl, hu_38, nn_38⟩
                  · cases hu_38
                    refine lv_if_ne (tgt := 94) hx hb dX10_paste_88 (by decide) (fun _ => ?_) (fun c_0 => absurd c_0 (zD_ne zk_1 zk_z (by decide)))
                    refine lv_aload hx hb dX10_paste_94 (lv_at hl 1 rfl) ?_
                    refine z_get hx hb ht hown hK hP ziX6 rfl 73 (by decide) 2 (by decide) hw_2_84 rfl (v := .ref (q 74)) rfl dX10_paste_96 ?_
                    refine lv_iload_n hx hb dX10_paste_99 rfl (lv_at hl 4 rfl) ?_
                    refine lv_aload hx hb dX10_paste_100 (lv_at hl 0 rfl) ?_
                    refine z_get hx hb ht hown hK hP ziX6 rfl 79 (by decide) 2 (by decide) hw_2_84 rfl (v := .ref (q 80)) rfl dX10_paste_102 ?_
                    refine lv_iload hx hb dX10_paste_105 (lv_at hl 6 rfl) ?_
                    refine lv_iload hx hb dX10_paste_107 (lv_at hl 7 rfl) ?_
                    refine z_copyl hx hb (hml.trans hl.1.symm) ht hown hw_5_181 ⟨hw_3_44, hw_3_43, hw_1_18⟩ hK hP hD hS 74 80 (by decide) (by decide) 53 56 rfl (fun _ => rfl) rfl rfl (x_nn nn_37.1) (x_nn nn_38.1) (x_nn nn_37.2.1) (x_cp nn_37 (xI hI 73 1).2) (x_cp nn_38 (xI hI 79 1).2) (by decide) (by decide +kernel) dX10_paste_109 (fun g_39 H locs eg_39 hP hD hS => ?_)
                    have hI_40 := xInv_J (J2 := (zr J 80 g_39)) hI
                    refine lv_iconst (v := nI 0) hx hb dX10_paste_112 (by decide +kernel) ?_
                    exact z_iret (v := nI 0) hx hb hr hlocks hP hD hS dX10_paste_113 (Or.inr (Or.inr (Or.inr (Or.inr ⟨(by obtain ⟨_, _⟩ := zk_0; obtain ⟨_, _⟩ := zk_3; omega), (show (F 73 1).toInt ≠ -1 ∧ (F 79 1).toInt ≠ -1 from (by have e0 : (I 73 1).toInt = (F 73 1).toInt := congrArg Int32.toInt (xFr hI 73 1 rfl); have e1 : (I 79 1).toInt = (F 79 1).toInt := congrArg Int32.toInt (xFr hI 79 1 rfl); have e2 : (I 73 0).toInt = (F 73 0).toInt := congrArg Int32.toInt (xFr hI 73 0 rfl); have e3 : (I 79 0).toInt = (F 79 0).toInt := congrArg Int32.toInt (xFr hI 79 0 rfl); have _ := nn_32; have _ := nn_34; omega)), (show (F 73 0).toInt = (F 79 0).toInt from (by have e0 : (I 73 1).toInt = (F 73 1).toInt := congrArg Int32.toInt (xFr hI 73 1 rfl); have e1 : (I 79 1).toInt = (F 79 1).toInt := congrArg Int32.toInt (xFr hI 79 1 rfl); have e2 : (I 73 0).toInt = (F 73 0).toInt := congrArg Int32.toInt (xFr hI 73 0 rfl); have e3 : (I 79 0).toInt = (F 79 0).toInt := congrArg Int32.toInt (xFr hI 79 0 rfl); have _ := t_c_36; omega)), (show 0 ≤ pa1.toInt ∧ 0 ≤ pa3.toInt ∧ 0 ≤ pa4.toInt ∧ pa1.toInt + pa4.toInt ≤ (F 73 1).toInt ∧ pa3.toInt + pa4.toInt ≤ (F 79 1).toInt from (by have e0 : (I 73 1).toInt = (F 73 1).toInt := congrArg Int32.toInt (xFr hI 73 1 rfl); have e1 : (I 79 1).toInt = (F 79 1).toInt := congrArg Int32.toInt (xFr hI 79 1 rfl); have e2 : (I 73 0).toInt = (F 73 0).toInt := congrArg Int32.toInt (xFr hI 73 0 rfl); have e3 : (I 79 0).toInt = (F 79 0).toInt := congrArg Int32.toInt (xFr hI 79 0 rfl); have _ := nn_37; have _ := nn_38; omega)), rfl, hI_40⟩))))
                  · cases hu_38
                    refine lv_if_ne (tgt := 94) hx hb dX10_paste_88 (by decide) (fun c_0 => absurd (zD_eq zk_0 zk_z) c_0) (fun _ => ?_)
                    refine lv_bipush (v := (-7)) hx hb dX10_paste_91 (by decide +kernel) ?_
                    exact z_iret (v := (-7)) hx hb hr hlocks hP hD hS dX10_paste_93 (Or.inr (Or.inr (Or.inr (Or.inl ⟨(by obtain ⟨_, _⟩ := zk_0; obtain ⟨_, _⟩ := zk_3; omega), (show (F 73 1).toInt ≠ -1 ∧ (F 79 1).toInt ≠ -1 from (by have e0 : (I 73 1).toInt = (F 73 1).toInt := congrArg Int32.toInt (xFr hI 73 1 rfl); have e1 : (I 79 1).toInt = (F 79 1).toInt := congrArg Int32.toInt (xFr hI 79 1 rfl); have e2 : (I 73 0).toInt = (F 73 0).toInt := congrArg Int32.toInt (xFr hI 73 0 rfl); have e3 : (I 79 0).toInt = (F 79 0).toInt := congrArg Int32.toInt (xFr hI 79 0 rfl); have _ := nn_32; have _ := nn_34; omega)), (show (F 73 0).toInt = (F 79 0).toInt from (by have e0 : (I 73 1).toInt = (F 73 1).toInt := congrArg Int32.toInt (xFr hI 73 1 rfl); have e1 : (I 79 1).toInt = (F 79 1).toInt := congrArg Int32.toInt (xFr hI 79 1 rfl); have e2 : (I 73 0).toInt = (F 73 0).toInt := congrArg Int32.toInt (xFr hI 73 0 rfl); have e3 : (I 79 0).toInt = (F 79 0).toInt := congrArg Int32.toInt (xFr hI 79 0 rfl); have _ := t_c_36; omega)), (show ¬ (0 ≤ pa1.toInt ∧ 0 ≤ pa3.toInt ∧ 0 ≤ pa4.toInt ∧ pa1.toInt + pa4.toInt ≤ (F 73 1).toInt ∧ pa3.toInt + pa4.toInt ≤ (F 79 1).toInt) from (by have e0 : (I 73 1).toInt = (F 73 1).toInt := congrArg Int32.toInt (xFr hI 73 1 rfl); have e1 : (I 79 1).toInt = (F 79 1).toInt := congrArg Int32.toInt (xFr hI 79 1 rfl); have e2 : (I 73 0).toInt = (F 73 0).toInt := congrArg Int32.toInt (xFr hI 73 0 rfl); have e3 : (I 79 0).toInt = (F 79 0).toInt := congrArg Int32.toInt (xFr hI 79 0 rfl); have _ := nn_37; have _ := nn_38; omega)), rfl, hI⟩))))
                · cases hu_37
                  refine lv_if_eq (tgt := 91) hx hb dX10_paste_76 (by decide) (fun _ => ?_) (fun c_0 => absurd (zD_eq zk_0 zk_z) c_0)
                  refine lv_bipush (v := (-7)) hx hb dX10_paste_91 (by decide +kernel) ?_
                  exact z_iret (v := (-7)) hx hb hr hlocks hP hD hS dX10_paste_93 (Or.inr (Or.inr (Or.inr (Or.inl ⟨(by obtain ⟨_, _⟩ := zk_0; obtain ⟨_, _⟩ := zk_3; omega), (show (F 73 1).toInt ≠ -1 ∧ (F 79 1).toInt ≠ -1 from (by have e0 : (I 73 1).toInt = (F 73 1).toInt := congrArg Int32.toInt (xFr hI 73 1 rfl); have e1 : (I 79 1).toInt = (F 79 1).toInt := congrArg Int32.toInt (xFr hI 79 1 rfl); have e2 : (I 73 0).toInt = (F 73 0).toInt := congrArg Int32.toInt (xFr hI 73 0 rfl); have e3 : (I 79 0).toInt = (F 79 0).toInt := congrArg Int32.toInt (xFr hI 79 0 rfl); have _ := nn_32; have _ := nn_34; omega)), (show (F 73 0).toInt = (F 79 0).toInt from (by have e0 : (I 73 1).toInt = (F 73 1).toInt := congrArg Int32.toInt (xFr hI 73 1 rfl); have e1 : (I 79 1).toInt = (F 79 1).toInt := congrArg Int32.toInt (xFr hI 79 1 rfl); have e2 : (I 73 0).toInt = (F 73 0).toInt := congrArg Int32.toInt (xFr hI 73 0 rfl); have e3 : (I 79 0).toInt = (F 79 0).toInt := congrArg Int32.toInt (xFr hI 79 0 rfl); have _ := t_c_36; omega)), (show ¬ (0 ≤ pa1.toInt ∧ 0 ≤ pa3.toInt ∧ 0 ≤ pa4.toInt ∧ pa1.toInt + pa4.toInt ≤ (F 73 1).toInt ∧ pa3.toInt + pa4.toInt ≤ (F 79 1).toInt) from (by have e0 : (I 73 1).toInt = (F 73 1).toInt := congrArg Int32.toInt (xFr hI 73 1 rfl); have e1 : (I 79 1).toInt = (F 79 1).toInt := congrArg Int32.toInt (xFr hI 79 1 rfl); have e2 : (I 73 0).toInt = (F 73 0).toInt := congrArg Int32.toInt (xFr hI 73 0 rfl); have e3 : (I 79 0).toInt = (F 79 0).toInt := congrArg Int32.toInt (xFr hI 79 0 rfl); have _ := nn_37; omega)), rfl, hI⟩))))
              · have t_c_36 := z_eqF c_36
                refine lv_bipush (v := (-8)) hx hb dX10_paste_65 (by decide +kernel) ?_
                exact z_iret (v := (-8)) hx hb hr hlocks hP hD hS dX10_paste_67 (Or.inr (Or.inr (Or.inl ⟨(by obtain ⟨_, _⟩ := zk_0; obtain ⟨_, _⟩ := zk_3; omega), (show (F 73 1).toInt ≠ -1 ∧ (F 79 1).toInt ≠ -1 from (by have e0 : (I 73 1).toInt = (F 73 1).toInt := congrArg Int32.toInt (xFr hI 73 1 rfl); have e1 : (I 79 1).toInt = (F 79 1).toInt := congrArg Int32.toInt (xFr hI 79 1 rfl); have e2 : (I 73 0).toInt = (F 73 0).toInt := congrArg Int32.toInt (xFr hI 73 0 rfl); have e3 : (I 79 0).toInt = (F 79 0).toInt := congrArg Int32.toInt (xFr hI 79 0 rfl); have _ := nn_32; have _ := nn_34; omega)), (show (F 73 0).toInt ≠ (F 79 0).toInt from (by have e0 : (I 73 1).toInt = (F 73 1).toInt := congrArg Int32.toInt (xFr hI 73 1 rfl); have e1 : (I 79 1).toInt = (F 79 1).toInt := congrArg Int32.toInt (xFr hI 79 1 rfl); have e2 : (I 73 0).toInt = (F 73 0).toInt := congrArg Int32.toInt (xFr hI 73 0 rfl); have e3 : (I 79 0).toInt = (F 79 0).toInt := congrArg Int32.toInt (xFr hI 79 0 rfl); have _ := t_c_36; omega)), rfl, hI⟩)))
            · cases hu_34
              refine lv_if_ne (tgt := 52) hx hb dX10_paste_46 (by decide) (fun c_0 => absurd (zD_eq zk_0 zk_z) c_0) (fun _ => ?_)
              refine lv_bipush (v := (-6)) hx hb dX10_paste_49 (by decide +kernel) ?_
              exact z_iret (v := (-6)) hx hb hr hlocks hP hD hS dX10_paste_51 (Or.inr (Or.inl ⟨(by obtain ⟨_, _⟩ := zk_0; obtain ⟨_, _⟩ := zk_3; omega), (show (F 73 1).toInt = -1 ∨ (F 79 1).toInt = -1 from (by have e0 : (I 73 1).toInt = (F 73 1).toInt := congrArg Int32.toInt (xFr hI 73 1 rfl); have e1 : (I 79 1).toInt = (F 79 1).toInt := congrArg Int32.toInt (xFr hI 79 1 rfl); have e2 : (I 73 0).toInt = (F 73 0).toInt := congrArg Int32.toInt (xFr hI 73 0 rfl); have e3 : (I 79 0).toInt = (F 79 0).toInt := congrArg Int32.toInt (xFr hI 79 0 rfl); have _ := nn_32; have _ := nn_34; omega)), rfl, hI⟩))
          · cases hu_32
            refine lv_if_eq (tgt := 49) hx hb dX10_paste_38 (by decide) (fun _ => ?_) (fun c_0 => absurd (zD_eq zk_0 zk_z) c_0)
            refine lv_bipush (v := (-6)) hx hb dX10_paste_49 (by decide +kernel) ?_
            exact z_iret (v := (-6)) hx hb hr hlocks hP hD hS dX10_paste_51 (Or.inr (Or.inl ⟨(by obtain ⟨_, _⟩ := zk_0; obtain ⟨_, _⟩ := zk_3; omega), (show (F 73 1).toInt = -1 ∨ (F 79 1).toInt = -1 from (by have e0 : (I 73 1).toInt = (F 73 1).toInt := congrArg Int32.toInt (xFr hI 73 1 rfl); have e1 : (I 79 1).toInt = (F 79 1).toInt := congrArg Int32.toInt (xFr hI 79 1 rfl); have e2 : (I 73 0).toInt = (F 73 0).toInt := congrArg Int32.toInt (xFr hI 73 0 rfl); have e3 : (I 79 0).toInt = (F 79 0).toInt := congrArg Int32.toInt (xFr hI 79 0 rfl); have _ := nn_32; omega)), rfl, hI⟩))
      · refine va_aldq hx hb hK hP 72 52 (zw_at (by decide) rfl) rfl (vp_in_nI (by decide) (by decide)) dX10_paste_22 ?_
        refine W.eq (g2 := F0 m 23 ls (.ref (q 75) :: [])) rfl ?_
        refine lv_astore (lv' := [(6, .ref (q 75)), (0, .ref (q 0)), (1, .int (nI 1)), (2, .int (pa1)), (3, .int (pa2)), (4, .int (pa3)), (5, .int (pa4))]) hx hb dX10_paste_23 hl (by decide) rfl (fun ls hl => ?_)
        refine lv_aload_n hx hb dX10_paste_25 rfl (lv_at hl 1 rfl) ?_
        refine z_get hx hb ht hown hK hP ziX10 rfl 0 (by decide) 11 (by decide) hw_2_104 rfl (v := .ref (q 72)) rfl dX10_paste_26 ?_
        refine lv_iload_n hx hb dX10_paste_29 rfl (lv_at hl 4 rfl) ?_
        obtain ⟨n_41, hn_41, rfl⟩ := z_ex (x := pa2) (N := 4) (zR_w f0_2 (a' := 0) (b' := 3) (by decide)).1 (Int.lt_of_le_of_lt (zR_w f0_2 (a' := 0) (b' := 3) (by decide)).2 (by decide))
        rcases (show n_41 = 0 ∨ n_41 = 1 ∨ n_41 = 2 ∨ n_41 = 3 by omega) with rfl | rfl | rfl | rfl
        · refine va_aldq hx hb hK hP 72 52 (zw_at (by decide) rfl) rfl (vp_in_nI (by decide) (by decide)) dX10_paste_30 ?_
          refine W.eq (g2 := F0 m 31 ls (.ref (q 73) :: [])) rfl ?_
          refine lv_astore (lv' := [(7, .ref (q 73)), (6, .ref (q 75)), (0, .ref (q 0)), (1, .int (nI 1)), (2, .int (pa1)), (3, .int (nI 0)), (4, .int (pa3)), (5, .int (pa4))]) hx hb dX10_paste_31 hl (by decide) rfl (fun ls hl => ?_)
          refine lv_aload hx hb dX10_paste_33 (lv_at hl 1 rfl) ?_
          refine z_callVi (k := 75) (As := []) (rest := []) hx hb hml hown ht (xk_X6_isThere_1 l D q cA F _ _ _ hI ) hw_5_63 hmX6_isThere ⟨rfl, rfl⟩ (na := 0) rfl (by decide +kernel) (by decide) (by decide) rfl rfl hK hP hD hS hA hl.1 rfl (Nat.le_of_ble_eq_true rfl) ⟨Nat.zero_le _, Nat.zero_le _⟩ dX10_paste_35 (fun r_42 I_42 R_42 J_42 H locs hp_42 hP hD hS _ _ => ?_)
          rcases hp_42 with ⟨rfl, hu_42, nn_42⟩ | ⟨rfl, hu_42, nn_42⟩
          · cases hu_42
            have f_43 : zR 0 60 (I 75 1) := x_there (xI hI 75 1) nn_42
            refine lv_if_eq (tgt := 49) hx hb dX10_paste_38 (by decide) (fun c_0 => absurd c_0 (zD_ne zk_1 zk_z (by decide))) (fun _ => ?_)
            refine lv_aload hx hb dX10_paste_41 (lv_at hl 0 rfl) ?_
            refine z_callVi (k := 73) (As := []) (rest := []) hx hb hml hown ht (xk_X6_isThere l D q cA F _ _ _ hI ) hw_5_63 hmX6_isThere ⟨rfl, rfl⟩ (na := 0) rfl (by decide +kernel) (by decide) (by decide) rfl rfl hK hP hD hS hA hl.1 rfl (Nat.le_of_ble_eq_true rfl) ⟨Nat.zero_le _, Nat.zero_le _⟩ dX10_paste_43 (fun r_44 I_44 R_44 J_44 H locs hp_44 hP hD hS _ _ => ?_)
            rcases hp_44 with ⟨rfl, hu_44, nn_44⟩ | ⟨rfl, hu_44, nn_44⟩
            · cases hu_44
              have f_45 : zR 0 60 (I 73 1) := x_there (xI hI 73 1) nn_44
              refine lv_if_ne (tgt := 52) hx hb dX10_paste_46 (by decide) (fun _ => ?_) (fun c_0 => absurd c_0 (zD_ne zk_1 zk_z (by decide)))
              refine lv_aload hx hb dX10_paste_52 (lv_at hl 1 rfl) ?_
              refine z_get hx hb ht hown hK hP ziX6 rfl 75 (by decide) 0 (by decide) hw_2_78 rfl (v := .int (I 75 0)) rfl dX10_paste_54 ?_
              refine lv_aload hx hb dX10_paste_57 (lv_at hl 0 rfl) ?_
              refine z_get hx hb ht hown hK hP ziX6 rfl 73 (by decide) 0 (by decide) hw_2_78 rfl (v := .int (I 73 0)) rfl dX10_paste_59 ?_
              refine lv_icmp_eq (tgt := 68) hx hb dX10_paste_62 (by decide) (fun c_46 => ?_) (fun c_46 => ?_)
              · have t_c_46 := z_eqT c_46
                refine lv_aload hx hb dX10_paste_68 (lv_at hl 1 rfl) ?_
                refine lv_iload_n hx hb dX10_paste_70 rfl (lv_at hl 4 rfl) ?_
                refine lv_iload hx hb dX10_paste_71 (lv_at hl 7 rfl) ?_
                refine z_callVi (k := 75) (As := [.int (pa1), .int (pa4)]) (rest := []) hx hb hml hown ht (xk_X6_spans_1 l D q cA F _ _ _ hI (pa1) (pa4)) hw_5_177 hmX6_spans ⟨rfl, rfl⟩ (na := 2) rfl (by decide +kernel) (by decide) (by decide) rfl rfl hK hP hD hS hA hl.1 rfl (Nat.le_of_ble_eq_true rfl) ⟨Nat.zero_le _, Nat.zero_le _⟩ dX10_paste_73 (fun r_47 I_47 R_47 J_47 H locs hp_47 hP hD hS _ _ => ?_)
                rcases hp_47 with ⟨rfl, hu_47, nn_47⟩ | ⟨rfl, hu_47, nn_47⟩
                · cases hu_47
                  refine lv_if_eq (tgt := 91) hx hb dX10_paste_76 (by decide) (fun c_0 => absurd c_0 (zD_ne zk_1 zk_z (by decide))) (fun _ => ?_)
                  refine lv_aload hx hb dX10_paste_79 (lv_at hl 0 rfl) ?_
                  refine lv_iload hx hb dX10_paste_81 (lv_at hl 6 rfl) ?_
                  refine lv_iload hx hb dX10_paste_83 (lv_at hl 7 rfl) ?_
                  refine z_callVi (k := 73) (As := [.int (pa3), .int (pa4)]) (rest := []) hx hb hml hown ht (xk_X6_spans l D q cA F _ _ _ hI (pa3) (pa4)) hw_5_177 hmX6_spans ⟨rfl, rfl⟩ (na := 2) rfl (by decide +kernel) (by decide) (by decide) rfl rfl hK hP hD hS hA hl.1 rfl (Nat.le_of_ble_eq_true rfl) ⟨Nat.zero_le _, Nat.zero_le _⟩ dX10_paste_85 (fun r_48 I_48 R_48 J_48 H locs hp_48 hP hD hS _ _ => ?_)
                  rcases hp_48 with ⟨rfl, hu_48, nn_48⟩ | ⟨rfl, hu_48, nn_48⟩
                  · cases hu_48
                    refine lv_if_ne (tgt := 94) hx hb dX10_paste_88 (by decide) (fun _ => ?_) (fun c_0 => absurd c_0 (zD_ne zk_1 zk_z (by decide)))
                    refine lv_aload hx hb dX10_paste_94 (lv_at hl 1 rfl) ?_
                    refine z_get hx hb ht hown hK hP ziX6 rfl 75 (by decide) 2 (by decide) hw_2_84 rfl (v := .ref (q 76)) rfl dX10_paste_96 ?_
                    refine lv_iload_n hx hb dX10_paste_99 rfl (lv_at hl 4 rfl) ?_
                    refine lv_aload hx hb dX10_paste_100 (lv_at hl 0 rfl) ?_
                    refine z_get hx hb ht hown hK hP ziX6 rfl 73 (by decide) 2 (by decide) hw_2_84 rfl (v := .ref (q 74)) rfl dX10_paste_102 ?_
                    refine lv_iload hx hb dX10_paste_105 (lv_at hl 6 rfl) ?_
                    refine lv_iload hx hb dX10_paste_107 (lv_at hl 7 rfl) ?_
                    refine z_copyl hx hb (hml.trans hl.1.symm) ht hown hw_5_181 ⟨hw_3_44, hw_3_43, hw_1_18⟩ hK hP hD hS 76 74 (by decide) (by decide) 54 53 rfl (fun _ => rfl) rfl rfl (x_nn nn_47.1) (x_nn nn_48.1) (x_nn nn_47.2.1) (x_cp nn_47 (xI hI 75 1).2) (x_cp nn_48 (xI hI 73 1).2) (by decide) (by decide +kernel) dX10_paste_109 (fun g_49 H locs eg_49 hP hD hS => ?_)
                    have hI_50 := xInv_J (J2 := (zr J 74 g_49)) hI
                    refine lv_iconst (v := nI 0) hx hb dX10_paste_112 (by decide +kernel) ?_
                    exact z_iret (v := nI 0) hx hb hr hlocks hP hD hS dX10_paste_113 (Or.inr (Or.inr (Or.inr (Or.inr ⟨(by obtain ⟨_, _⟩ := zk_1; obtain ⟨_, _⟩ := zk_0; omega), (show (F 75 1).toInt ≠ -1 ∧ (F 73 1).toInt ≠ -1 from (by have e0 : (I 75 1).toInt = (F 75 1).toInt := congrArg Int32.toInt (xFr hI 75 1 rfl); have e1 : (I 73 1).toInt = (F 73 1).toInt := congrArg Int32.toInt (xFr hI 73 1 rfl); have e2 : (I 75 0).toInt = (F 75 0).toInt := congrArg Int32.toInt (xFr hI 75 0 rfl); have e3 : (I 73 0).toInt = (F 73 0).toInt := congrArg Int32.toInt (xFr hI 73 0 rfl); have _ := nn_42; have _ := nn_44; omega)), (show (F 75 0).toInt = (F 73 0).toInt from (by have e0 : (I 75 1).toInt = (F 75 1).toInt := congrArg Int32.toInt (xFr hI 75 1 rfl); have e1 : (I 73 1).toInt = (F 73 1).toInt := congrArg Int32.toInt (xFr hI 73 1 rfl); have e2 : (I 75 0).toInt = (F 75 0).toInt := congrArg Int32.toInt (xFr hI 75 0 rfl); have e3 : (I 73 0).toInt = (F 73 0).toInt := congrArg Int32.toInt (xFr hI 73 0 rfl); have _ := t_c_46; omega)), (show 0 ≤ pa1.toInt ∧ 0 ≤ pa3.toInt ∧ 0 ≤ pa4.toInt ∧ pa1.toInt + pa4.toInt ≤ (F 75 1).toInt ∧ pa3.toInt + pa4.toInt ≤ (F 73 1).toInt from (by have e0 : (I 75 1).toInt = (F 75 1).toInt := congrArg Int32.toInt (xFr hI 75 1 rfl); have e1 : (I 73 1).toInt = (F 73 1).toInt := congrArg Int32.toInt (xFr hI 73 1 rfl); have e2 : (I 75 0).toInt = (F 75 0).toInt := congrArg Int32.toInt (xFr hI 75 0 rfl); have e3 : (I 73 0).toInt = (F 73 0).toInt := congrArg Int32.toInt (xFr hI 73 0 rfl); have _ := nn_47; have _ := nn_48; omega)), rfl, hI_50⟩))))
                  · cases hu_48
                    refine lv_if_ne (tgt := 94) hx hb dX10_paste_88 (by decide) (fun c_0 => absurd (zD_eq zk_0 zk_z) c_0) (fun _ => ?_)
                    refine lv_bipush (v := (-7)) hx hb dX10_paste_91 (by decide +kernel) ?_
                    exact z_iret (v := (-7)) hx hb hr hlocks hP hD hS dX10_paste_93 (Or.inr (Or.inr (Or.inr (Or.inl ⟨(by obtain ⟨_, _⟩ := zk_1; obtain ⟨_, _⟩ := zk_0; omega), (show (F 75 1).toInt ≠ -1 ∧ (F 73 1).toInt ≠ -1 from (by have e0 : (I 75 1).toInt = (F 75 1).toInt := congrArg Int32.toInt (xFr hI 75 1 rfl); have e1 : (I 73 1).toInt = (F 73 1).toInt := congrArg Int32.toInt (xFr hI 73 1 rfl); have e2 : (I 75 0).toInt = (F 75 0).toInt := congrArg Int32.toInt (xFr hI 75 0 rfl); have e3 : (I 73 0).toInt = (F 73 0).toInt := congrArg Int32.toInt (xFr hI 73 0 rfl); have _ := nn_42; have _ := nn_44; omega)), (show (F 75 0).toInt = (F 73 0).toInt from (by have e0 : (I 75 1).toInt = (F 75 1).toInt := congrArg Int32.toInt (xFr hI 75 1 rfl); have e1 : (I 73 1).toInt = (F 73 1).toInt := congrArg Int32.toInt (xFr hI 73 1 rfl); have e2 : (I 75 0).toInt = (F 75 0).toInt := congrArg Int32.toInt (xFr hI 75 0 rfl); have e3 : (I 73 0).toInt = (F 73 0).toInt := congrArg Int32.toInt (xFr hI 73 0 rfl); have _ := t_c_46; omega)), (show ¬ (0 ≤ pa1.toInt ∧ 0 ≤ pa3.toInt ∧ 0 ≤ pa4.toInt ∧ pa1.toInt + pa4.toInt ≤ (F 75 1).toInt ∧ pa3.toInt + pa4.toInt ≤ (F 73 1).toInt) from (by have e0 : (I 75 1).toInt = (F 75 1).toInt := congrArg Int32.toInt (xFr hI 75 1 rfl); have e1 : (I 73 1).toInt = (F 73 1).toInt := congrArg Int32.toInt (xFr hI 73 1 rfl); have e2 : (I 75 0).toInt = (F 75 0).toInt := congrArg Int32.toInt (xFr hI 75 0 rfl); have e3 : (I 73 0).toInt = (F 73 0).toInt := congrArg Int32.toInt (xFr hI 73 0 rfl); have _ := nn_47; have _ := nn_48; omega)), rfl, hI⟩))))
                · cases hu_47
                  refine lv_if_eq (tgt := 91) hx hb dX10_paste_76 (by decide) (fun _ => ?_) (fun c_0 => absurd (zD_eq zk_0 zk_z) c_0)
                  refine lv_bipush (v := (-7)) hx hb dX10_paste_91 (by decide +kernel) ?_
                  exact z_iret (v := (-7)) hx hb hr hlocks hP hD hS dX10_paste_93 (Or.inr (Or.inr (Or.inr (Or.inl ⟨(by obtain ⟨_, _⟩ := zk_1; obtain ⟨_, _⟩ := zk_0; omega), (show (F 75 1).toInt ≠ -1 ∧ (F 73 1).toInt ≠ -1 from (by have e0 : (I 75 1).toInt = (F 75 1).toInt := congrArg Int32.toInt (xFr hI 75 1 rfl); have e1 : (I 73 1).toInt = (F 73 1).toInt := congrArg Int32.toInt (xFr hI 73 1 rfl); have e2 : (I 75 0).toInt = (F 75 0).toInt := congrArg Int32.toInt (xFr hI 75 0 rfl); have e3 : (I 73 0).toInt = (F 73 0).toInt := congrArg Int32.toInt (xFr hI 73 0 rfl); have _ := nn_42; have _ := nn_44; omega)), (show (F 75 0).toInt = (F 73 0).toInt from (by have e0 : (I 75 1).toInt = (F 75 1).toInt := congrArg Int32.toInt (xFr hI 75 1 rfl); have e1 : (I 73 1).toInt = (F 73 1).toInt := congrArg Int32.toInt (xFr hI 73 1 rfl); have e2 : (I 75 0).toInt = (F 75 0).toInt := congrArg Int32.toInt (xFr hI 75 0 rfl); have e3 : (I 73 0).toInt = (F 73 0).toInt := congrArg Int32.toInt (xFr hI 73 0 rfl); have _ := t_c_46; omega)), (show ¬ (0 ≤ pa1.toInt ∧ 0 ≤ pa3.toInt ∧ 0 ≤ pa4.toInt ∧ pa1.toInt + pa4.toInt ≤ (F 75 1).toInt ∧ pa3.toInt + pa4.toInt ≤ (F 73 1).toInt) from (by have e0 : (I 75 1).toInt = (F 75 1).toInt := congrArg Int32.toInt (xFr hI 75 1 rfl); have e1 : (I 73 1).toInt = (F 73 1).toInt := congrArg Int32.toInt (xFr hI 73 1 rfl); have e2 : (I 75 0).toInt = (F 75 0).toInt := congrArg Int32.toInt (xFr hI 75 0 rfl); have e3 : (I 73 0).toInt = (F 73 0).toInt := congrArg Int32.toInt (xFr hI 73 0 rfl); have _ := nn_47; omega)), rfl, hI⟩))))
              · have t_c_46 := z_eqF c_46
                refine lv_bipush (v := (-8)) hx hb dX10_paste_65 (by decide +kernel) ?_
                exact z_iret (v := (-8)) hx hb hr hlocks hP hD hS dX10_paste_67 (Or.inr (Or.inr (Or.inl ⟨(by obtain ⟨_, _⟩ := zk_1; obtain ⟨_, _⟩ := zk_0; omega), (show (F 75 1).toInt ≠ -1 ∧ (F 73 1).toInt ≠ -1 from (by have e0 : (I 75 1).toInt = (F 75 1).toInt := congrArg Int32.toInt (xFr hI 75 1 rfl); have e1 : (I 73 1).toInt = (F 73 1).toInt := congrArg Int32.toInt (xFr hI 73 1 rfl); have e2 : (I 75 0).toInt = (F 75 0).toInt := congrArg Int32.toInt (xFr hI 75 0 rfl); have e3 : (I 73 0).toInt = (F 73 0).toInt := congrArg Int32.toInt (xFr hI 73 0 rfl); have _ := nn_42; have _ := nn_44; omega)), (show (F 75 0).toInt ≠ (F 73 0).toInt from (by have e0 : (I 75 1).toInt = (F 75 1).toInt := congrArg Int32.toInt (xFr hI 75 1 rfl); have e1 : (I 73 1).toInt = (F 73 1).toInt := congrArg Int32.toInt (xFr hI 73 1 rfl); have e2 : (I 75 0).toInt = (F 75 0).toInt := congrArg Int32.toInt (xFr hI 75 0 rfl); have e3 : (I 73 0).toInt = (F 73 0).toInt := congrArg Int32.toInt (xFr hI 73 0 rfl); have _ := t_c_46; omega)), rfl, hI⟩)))
            · cases hu_44
              refine lv_if_ne (tgt := 52) hx hb dX10_paste_46 (by decide) (fun c_0 => absurd (zD_eq zk_0 zk_z) c_0) (fun _ => ?_)
              refine lv_bipush (v := (-6)) hx hb dX10_paste_49 (by decide +kernel) ?_
              exact z_iret (v := (-6)) hx hb hr hlocks hP hD hS dX10_paste_51 (Or.inr (Or.inl ⟨(by obtain ⟨_, _⟩ := zk_1; obtain ⟨_, _⟩ := zk_0; omega), (show (F 75 1).toInt = -1 ∨ (F 73 1).toInt = -1 from (by have e0 : (I 75 1).toInt = (F 75 1).toInt := congrArg Int32.toInt (xFr hI 75 1 rfl); have e1 : (I 73 1).toInt = (F 73 1).toInt := congrArg Int32.toInt (xFr hI 73 1 rfl); have e2 : (I 75 0).toInt = (F 75 0).toInt := congrArg Int32.toInt (xFr hI 75 0 rfl); have e3 : (I 73 0).toInt = (F 73 0).toInt := congrArg Int32.toInt (xFr hI 73 0 rfl); have _ := nn_42; have _ := nn_44; omega)), rfl, hI⟩))
          · cases hu_42
            refine lv_if_eq (tgt := 49) hx hb dX10_paste_38 (by decide) (fun _ => ?_) (fun c_0 => absurd (zD_eq zk_0 zk_z) c_0)
            refine lv_bipush (v := (-6)) hx hb dX10_paste_49 (by decide +kernel) ?_
            exact z_iret (v := (-6)) hx hb hr hlocks hP hD hS dX10_paste_51 (Or.inr (Or.inl ⟨(by obtain ⟨_, _⟩ := zk_1; obtain ⟨_, _⟩ := zk_0; omega), (show (F 75 1).toInt = -1 ∨ (F 73 1).toInt = -1 from (by have e0 : (I 75 1).toInt = (F 75 1).toInt := congrArg Int32.toInt (xFr hI 75 1 rfl); have e1 : (I 73 1).toInt = (F 73 1).toInt := congrArg Int32.toInt (xFr hI 73 1 rfl); have e2 : (I 75 0).toInt = (F 75 0).toInt := congrArg Int32.toInt (xFr hI 75 0 rfl); have e3 : (I 73 0).toInt = (F 73 0).toInt := congrArg Int32.toInt (xFr hI 73 0 rfl); have _ := nn_42; omega)), rfl, hI⟩))
        · refine va_aldq hx hb hK hP 72 52 (zw_at (by decide) rfl) rfl (vp_in_nI (by decide) (by decide)) dX10_paste_30 ?_
          refine W.eq (g2 := F0 m 31 ls (.ref (q 75) :: [])) rfl ?_
          refine lv_astore (lv' := [(7, .ref (q 75)), (6, .ref (q 75)), (0, .ref (q 0)), (1, .int (nI 1)), (2, .int (pa1)), (3, .int (nI 1)), (4, .int (pa3)), (5, .int (pa4))]) hx hb dX10_paste_31 hl (by decide) rfl (fun ls hl => ?_)
          refine lv_aload hx hb dX10_paste_33 (lv_at hl 1 rfl) ?_
          refine z_callVi (k := 75) (As := []) (rest := []) hx hb hml hown ht (xk_X6_isThere_1 l D q cA F _ _ _ hI ) hw_5_63 hmX6_isThere ⟨rfl, rfl⟩ (na := 0) rfl (by decide +kernel) (by decide) (by decide) rfl rfl hK hP hD hS hA hl.1 rfl (Nat.le_of_ble_eq_true rfl) ⟨Nat.zero_le _, Nat.zero_le _⟩ dX10_paste_35 (fun r_51 I_51 R_51 J_51 H locs hp_51 hP hD hS _ _ => ?_)
          rcases hp_51 with ⟨rfl, hu_51, nn_51⟩ | ⟨rfl, hu_51, nn_51⟩
          · cases hu_51
            have f_52 : zR 0 60 (I 75 1) := x_there (xI hI 75 1) nn_51
            refine lv_if_eq (tgt := 49) hx hb dX10_paste_38 (by decide) (fun c_0 => absurd c_0 (zD_ne zk_1 zk_z (by decide))) (fun _ => ?_)
            refine lv_aload hx hb dX10_paste_41 (lv_at hl 0 rfl) ?_
            refine z_callVi (k := 75) (As := []) (rest := []) hx hb hml hown ht (xk_X6_isThere_1 l D q cA F _ _ _ hI ) hw_5_63 hmX6_isThere ⟨rfl, rfl⟩ (na := 0) rfl (by decide +kernel) (by decide) (by decide) rfl rfl hK hP hD hS hA hl.1 rfl (Nat.le_of_ble_eq_true rfl) ⟨Nat.zero_le _, Nat.zero_le _⟩ dX10_paste_43 (fun r_53 I_53 R_53 J_53 H locs hp_53 hP hD hS _ _ => ?_)
            rcases hp_53 with ⟨rfl, hu_53, nn_53⟩ | ⟨rfl, hu_53, nn_53⟩
            · cases hu_53
              have f_54 : zR 0 60 (I 75 1) := x_there (xI hI 75 1) nn_53
              refine lv_if_ne (tgt := 52) hx hb dX10_paste_46 (by decide) (fun _ => ?_) (fun c_0 => absurd c_0 (zD_ne zk_1 zk_z (by decide)))
              refine lv_aload hx hb dX10_paste_52 (lv_at hl 1 rfl) ?_
              refine z_get hx hb ht hown hK hP ziX6 rfl 75 (by decide) 0 (by decide) hw_2_78 rfl (v := .int (I 75 0)) rfl dX10_paste_54 ?_
              refine lv_aload hx hb dX10_paste_57 (lv_at hl 0 rfl) ?_
              refine z_get hx hb ht hown hK hP ziX6 rfl 75 (by decide) 0 (by decide) hw_2_78 rfl (v := .int (I 75 0)) rfl dX10_paste_59 ?_
              refine lv_icmp_eq (tgt := 68) hx hb dX10_paste_62 (by decide) (fun c_55 => ?_) (fun c_55 => ?_)
              · have t_c_55 := z_eqT c_55
                refine lv_aload hx hb dX10_paste_68 (lv_at hl 1 rfl) ?_
                refine lv_iload_n hx hb dX10_paste_70 rfl (lv_at hl 4 rfl) ?_
                refine lv_iload hx hb dX10_paste_71 (lv_at hl 7 rfl) ?_
                refine z_callVi (k := 75) (As := [.int (pa1), .int (pa4)]) (rest := []) hx hb hml hown ht (xk_X6_spans_1 l D q cA F _ _ _ hI (pa1) (pa4)) hw_5_177 hmX6_spans ⟨rfl, rfl⟩ (na := 2) rfl (by decide +kernel) (by decide) (by decide) rfl rfl hK hP hD hS hA hl.1 rfl (Nat.le_of_ble_eq_true rfl) ⟨Nat.zero_le _, Nat.zero_le _⟩ dX10_paste_73 (fun r_56 I_56 R_56 J_56 H locs hp_56 hP hD hS _ _ => ?_)
                rcases hp_56 with ⟨rfl, hu_56, nn_56⟩ | ⟨rfl, hu_56, nn_56⟩
                · cases hu_56
                  refine lv_if_eq (tgt := 91) hx hb dX10_paste_76 (by decide) (fun c_0 => absurd c_0 (zD_ne zk_1 zk_z (by decide))) (fun _ => ?_)
                  refine lv_aload hx hb dX10_paste_79 (lv_at hl 0 rfl) ?_
                  refine lv_iload hx hb dX10_paste_81 (lv_at hl 6 rfl) ?_
                  refine lv_iload hx hb dX10_paste_83 (lv_at hl 7 rfl) ?_
                  refine z_callVi (k := 75) (As := [.int (pa3), .int (pa4)]) (rest := []) hx hb hml hown ht (xk_X6_spans_1 l D q cA F _ _ _ hI (pa3) (pa4)) hw_5_177 hmX6_spans ⟨rfl, rfl⟩ (na := 2) rfl (by decide +kernel) (by decide) (by decide) rfl rfl hK hP hD hS hA hl.1 rfl (Nat.le_of_ble_eq_true rfl) ⟨Nat.zero_le _, Nat.zero_le _⟩ dX10_paste_85 (fun r_57 I_57 R_57 J_57 H locs hp_57 hP hD hS _ _ => ?_)
                  rcases hp_57 with ⟨rfl, hu_57, nn_57⟩ | ⟨rfl, hu_57, nn_57⟩
                  · cases hu_57
                    refine lv_if_ne (tgt := 94) hx hb dX10_paste_88 (by decide) (fun _ => ?_) (fun c_0 => absurd c_0 (zD_ne zk_1 zk_z (by decide)))
                    refine lv_aload hx hb dX10_paste_94 (lv_at hl 1 rfl) ?_
                    refine z_get hx hb ht hown hK hP ziX6 rfl 75 (by decide) 2 (by decide) hw_2_84 rfl (v := .ref (q 76)) rfl dX10_paste_96 ?_
                    refine lv_iload_n hx hb dX10_paste_99 rfl (lv_at hl 4 rfl) ?_
                    refine lv_aload hx hb dX10_paste_100 (lv_at hl 0 rfl) ?_
                    refine z_get hx hb ht hown hK hP ziX6 rfl 75 (by decide) 2 (by decide) hw_2_84 rfl (v := .ref (q 76)) rfl dX10_paste_102 ?_
                    refine lv_iload hx hb dX10_paste_105 (lv_at hl 6 rfl) ?_
                    refine lv_iload hx hb dX10_paste_107 (lv_at hl 7 rfl) ?_
                    refine z_copyl hx hb (hml.trans hl.1.symm) ht hown hw_5_181 ⟨hw_3_44, hw_3_43, hw_1_18⟩ hK hP hD hS 76 76 (by decide) (by decide) 54 54 rfl (fun _ => rfl) rfl rfl (x_nn nn_56.1) (x_nn nn_57.1) (x_nn nn_56.2.1) (x_cp nn_56 (xI hI 75 1).2) (x_cp nn_57 (xI hI 75 1).2) (by decide) (by decide +kernel) dX10_paste_109 (fun g_58 H locs eg_58 hP hD hS => ?_)
                    have hI_59 := xInv_J (J2 := (zr J 76 g_58)) hI
                    refine lv_iconst (v := nI 0) hx hb dX10_paste_112 (by decide +kernel) ?_
                    exact z_iret (v := nI 0) hx hb hr hlocks hP hD hS dX10_paste_113 (Or.inr (Or.inr (Or.inr (Or.inr ⟨(by obtain ⟨_, _⟩ := zk_1; obtain ⟨_, _⟩ := zk_1; omega), (show (F 75 1).toInt ≠ -1 ∧ (F 75 1).toInt ≠ -1 from (by have e0 : (I 75 1).toInt = (F 75 1).toInt := congrArg Int32.toInt (xFr hI 75 1 rfl); have e1 : (I 75 1).toInt = (F 75 1).toInt := congrArg Int32.toInt (xFr hI 75 1 rfl); have e2 : (I 75 0).toInt = (F 75 0).toInt := congrArg Int32.toInt (xFr hI 75 0 rfl); have e3 : (I 75 0).toInt = (F 75 0).toInt := congrArg Int32.toInt (xFr hI 75 0 rfl); have _ := nn_53; have _ := nn_53; omega)), (show (F 75 0).toInt = (F 75 0).toInt from (by have e0 : (I 75 1).toInt = (F 75 1).toInt := congrArg Int32.toInt (xFr hI 75 1 rfl); have e1 : (I 75 1).toInt = (F 75 1).toInt := congrArg Int32.toInt (xFr hI 75 1 rfl); have e2 : (I 75 0).toInt = (F 75 0).toInt := congrArg Int32.toInt (xFr hI 75 0 rfl); have e3 : (I 75 0).toInt = (F 75 0).toInt := congrArg Int32.toInt (xFr hI 75 0 rfl); have _ := t_c_55; omega)), (show 0 ≤ pa1.toInt ∧ 0 ≤ pa3.toInt ∧ 0 ≤ pa4.toInt ∧ pa1.toInt + pa4.toInt ≤ (F 75 1).toInt ∧ pa3.toInt + pa4.toInt ≤ (F 75 1).toInt from (by have e0 : (I 75 1).toInt = (F 75 1).toInt := congrArg Int32.toInt (xFr hI 75 1 rfl); have e1 : (I 75 1).toInt = (F 75 1).toInt := congrArg Int32.toInt (xFr hI 75 1 rfl); have e2 : (I 75 0).toInt = (F 75 0).toInt := congrArg Int32.toInt (xFr hI 75 0 rfl); have e3 : (I 75 0).toInt = (F 75 0).toInt := congrArg Int32.toInt (xFr hI 75 0 rfl); have _ := nn_56; have _ := nn_57; omega)), rfl, hI_59⟩))))
                  · cases hu_57
                    refine lv_if_ne (tgt := 94) hx hb dX10_paste_88 (by decide) (fun c_0 => absurd (zD_eq zk_0 zk_z) c_0) (fun _ => ?_)
                    refine lv_bipush (v := (-7)) hx hb dX10_paste_91 (by decide +kernel) ?_
                    exact z_iret (v := (-7)) hx hb hr hlocks hP hD hS dX10_paste_93 (Or.inr (Or.inr (Or.inr (Or.inl ⟨(by obtain ⟨_, _⟩ := zk_1; obtain ⟨_, _⟩ := zk_1; omega), (show (F 75 1).toInt ≠ -1 ∧ (F 75 1).toInt ≠ -1 from (by have e0 : (I 75 1).toInt = (F 75 1).toInt := congrArg Int32.toInt (xFr hI 75 1 rfl); have e1 : (I 75 1).toInt = (F 75 1).toInt := congrArg Int32.toInt (xFr hI 75 1 rfl); have e2 : (I 75 0).toInt = (F 75 0).toInt := congrArg Int32.toInt (xFr hI 75 0 rfl); have e3 : (I 75 0).toInt = (F 75 0).toInt := congrArg Int32.toInt (xFr hI 75 0 rfl); have _ := nn_53; have _ := nn_53; omega)), (show (F 75 0).toInt = (F 75 0).toInt from (by have e0 : (I 75 1).toInt = (F 75 1).toInt := congrArg Int32.toInt (xFr hI 75 1 rfl); have e1 : (I 75 1).toInt = (F 75 1).toInt := congrArg Int32.toInt (xFr hI 75 1 rfl); have e2 : (I 75 0).toInt = (F 75 0).toInt := congrArg Int32.toInt (xFr hI 75 0 rfl); have e3 : (I 75 0).toInt = (F 75 0).toInt := congrArg Int32.toInt (xFr hI 75 0 rfl); have _ := t_c_55; omega)), (show ¬ (0 ≤ pa1.toInt ∧ 0 ≤ pa3.toInt ∧ 0 ≤ pa4.toInt ∧ pa1.toInt + pa4.toInt ≤ (F 75 1).toInt ∧ pa3.toInt + pa4.toInt ≤ (F 75 1).toInt) from (by have e0 : (I 75 1).toInt = (F 75 1).toInt := congrArg Int32.toInt (xFr hI 75 1 rfl); have e1 : (I 75 1).toInt = (F 75 1).toInt := congrArg Int32.toInt (xFr hI 75 1 rfl); have e2 : (I 75 0).toInt = (F 75 0).toInt := congrArg Int32.toInt (xFr hI 75 0 rfl); have e3 : (I 75 0).toInt = (F 75 0).toInt := congrArg Int32.toInt (xFr hI 75 0 rfl); have _ := nn_56; have _ := nn_57; omega)), rfl, hI⟩))))
                · cases hu_56
                  refine lv_if_eq (tgt := 91) hx hb dX10_paste_76 (by decide) (fun _ => ?_) (fun c_0 => absurd (zD_eq zk_0 zk_z) c_0)
                  refine lv_bipush (v := (-7)) hx hb dX10_paste_91 (by decide +kernel) ?_
                  exact z_iret (v := (-7)) hx hb hr hlocks hP hD hS dX10_paste_93 (Or.inr (Or.inr (Or.inr (Or.inl ⟨(by obtain ⟨_, _⟩ := zk_1; obtain ⟨_, _⟩ := zk_1; omega), (show (F 75 1).toInt ≠ -1 ∧ (F 75 1).toInt ≠ -1 from (by have e0 : (I 75 1).toInt = (F 75 1).toInt := congrArg Int32.toInt (xFr hI 75 1 rfl); have e1 : (I 75 1).toInt = (F 75 1).toInt := congrArg Int32.toInt (xFr hI 75 1 rfl); have e2 : (I 75 0).toInt = (F 75 0).toInt := congrArg Int32.toInt (xFr hI 75 0 rfl); have e3 : (I 75 0).toInt = (F 75 0).toInt := congrArg Int32.toInt (xFr hI 75 0 rfl); have _ := nn_53; have _ := nn_53; omega)), (show (F 75 0).toInt = (F 75 0).toInt from (by have e0 : (I 75 1).toInt = (F 75 1).toInt := congrArg Int32.toInt (xFr hI 75 1 rfl); have e1 : (I 75 1).toInt = (F 75 1).toInt := congrArg Int32.toInt (xFr hI 75 1 rfl); have e2 : (I 75 0).toInt = (F 75 0).toInt := congrArg Int32.toInt (xFr hI 75 0 rfl); have e3 : (I 75 0).toInt = (F 75 0).toInt := congrArg Int32.toInt (xFr hI 75 0 rfl); have _ := t_c_55; omega)), (show ¬ (0 ≤ pa1.toInt ∧ 0 ≤ pa3.toInt ∧ 0 ≤ pa4.toInt ∧ pa1.toInt + pa4.toInt ≤ (F 75 1).toInt ∧ pa3.toInt + pa4.toInt ≤ (F 75 1).toInt) from (by have e0 : (I 75 1).toInt = (F 75 1).toInt := congrArg Int32.toInt (xFr hI 75 1 rfl); have e1 : (I 75 1).toInt = (F 75 1).toInt := congrArg Int32.toInt (xFr hI 75 1 rfl); have e2 : (I 75 0).toInt = (F 75 0).toInt := congrArg Int32.toInt (xFr hI 75 0 rfl); have e3 : (I 75 0).toInt = (F 75 0).toInt := congrArg Int32.toInt (xFr hI 75 0 rfl); have _ := nn_56; omega)), rfl, hI⟩))))
              · have t_c_55 := z_eqF c_55
                exact absurd rfl t_c_55
            · cases hu_53
              refine lv_if_ne (tgt := 52) hx hb dX10_paste_46 (by decide) (fun c_0 => absurd (zD_eq zk_0 zk_z) c_0) (fun _ => ?_)
              refine lv_bipush (v := (-6)) hx hb dX10_paste_49 (by decide +kernel) ?_
              exact z_iret (v := (-6)) hx hb hr hlocks hP hD hS dX10_paste_51 (Or.inr (Or.inl ⟨(by obtain ⟨_, _⟩ := zk_1; obtain ⟨_, _⟩ := zk_1; omega), (show (F 75 1).toInt = -1 ∨ (F 75 1).toInt = -1 from (by have e0 : (I 75 1).toInt = (F 75 1).toInt := congrArg Int32.toInt (xFr hI 75 1 rfl); have e1 : (I 75 1).toInt = (F 75 1).toInt := congrArg Int32.toInt (xFr hI 75 1 rfl); have e2 : (I 75 0).toInt = (F 75 0).toInt := congrArg Int32.toInt (xFr hI 75 0 rfl); have e3 : (I 75 0).toInt = (F 75 0).toInt := congrArg Int32.toInt (xFr hI 75 0 rfl); have _ := nn_53; have _ := nn_53; omega)), rfl, hI⟩))
          · cases hu_51
            refine lv_if_eq (tgt := 49) hx hb dX10_paste_38 (by decide) (fun _ => ?_) (fun c_0 => absurd (zD_eq zk_0 zk_z) c_0)
            refine lv_bipush (v := (-6)) hx hb dX10_paste_49 (by decide +kernel) ?_
            exact z_iret (v := (-6)) hx hb hr hlocks hP hD hS dX10_paste_51 (Or.inr (Or.inl ⟨(by obtain ⟨_, _⟩ := zk_1; obtain ⟨_, _⟩ := zk_1; omega), (show (F 75 1).toInt = -1 ∨ (F 75 1).toInt = -1 from (by have e0 : (I 75 1).toInt = (F 75 1).toInt := congrArg Int32.toInt (xFr hI 75 1 rfl); have e1 : (I 75 1).toInt = (F 75 1).toInt := congrArg Int32.toInt (xFr hI 75 1 rfl); have e2 : (I 75 0).toInt = (F 75 0).toInt := congrArg Int32.toInt (xFr hI 75 0 rfl); have e3 : (I 75 0).toInt = (F 75 0).toInt := congrArg Int32.toInt (xFr hI 75 0 rfl); have _ := nn_51; have _ := nn_51; omega)), rfl, hI⟩))
        · refine va_aldq hx hb hK hP 72 52 (zw_at (by decide) rfl) rfl (vp_in_nI (by decide) (by decide)) dX10_paste_30 ?_
          refine W.eq (g2 := F0 m 31 ls (.ref (q 77) :: [])) rfl ?_
          refine lv_astore (lv' := [(7, .ref (q 77)), (6, .ref (q 75)), (0, .ref (q 0)), (1, .int (nI 1)), (2, .int (pa1)), (3, .int (nI 2)), (4, .int (pa3)), (5, .int (pa4))]) hx hb dX10_paste_31 hl (by decide) rfl (fun ls hl => ?_)
          refine lv_aload hx hb dX10_paste_33 (lv_at hl 1 rfl) ?_
          refine z_callVi (k := 75) (As := []) (rest := []) hx hb hml hown ht (xk_X6_isThere_1 l D q cA F _ _ _ hI ) hw_5_63 hmX6_isThere ⟨rfl, rfl⟩ (na := 0) rfl (by decide +kernel) (by decide) (by decide) rfl rfl hK hP hD hS hA hl.1 rfl (Nat.le_of_ble_eq_true rfl) ⟨Nat.zero_le _, Nat.zero_le _⟩ dX10_paste_35 (fun r_60 I_60 R_60 J_60 H locs hp_60 hP hD hS _ _ => ?_)
          rcases hp_60 with ⟨rfl, hu_60, nn_60⟩ | ⟨rfl, hu_60, nn_60⟩
          · cases hu_60
            have f_61 : zR 0 60 (I 75 1) := x_there (xI hI 75 1) nn_60
            refine lv_if_eq (tgt := 49) hx hb dX10_paste_38 (by decide) (fun c_0 => absurd c_0 (zD_ne zk_1 zk_z (by decide))) (fun _ => ?_)
            refine lv_aload hx hb dX10_paste_41 (lv_at hl 0 rfl) ?_
            refine z_callVi (k := 77) (As := []) (rest := []) hx hb hml hown ht (xk_X6_isThere_2 l D q cA F _ _ _ hI ) hw_5_63 hmX6_isThere ⟨rfl, rfl⟩ (na := 0) rfl (by decide +kernel) (by decide) (by decide) rfl rfl hK hP hD hS hA hl.1 rfl (Nat.le_of_ble_eq_true rfl) ⟨Nat.zero_le _, Nat.zero_le _⟩ dX10_paste_43 (fun r_62 I_62 R_62 J_62 H locs hp_62 hP hD hS _ _ => ?_)
            rcases hp_62 with ⟨rfl, hu_62, nn_62⟩ | ⟨rfl, hu_62, nn_62⟩
            · cases hu_62
              have f_63 : zR 0 60 (I 77 1) := x_there (xI hI 77 1) nn_62
              refine lv_if_ne (tgt := 52) hx hb dX10_paste_46 (by decide) (fun _ => ?_) (fun c_0 => absurd c_0 (zD_ne zk_1 zk_z (by decide)))
              refine lv_aload hx hb dX10_paste_52 (lv_at hl 1 rfl) ?_
              refine z_get hx hb ht hown hK hP ziX6 rfl 75 (by decide) 0 (by decide) hw_2_78 rfl (v := .int (I 75 0)) rfl dX10_paste_54 ?_
              refine lv_aload hx hb dX10_paste_57 (lv_at hl 0 rfl) ?_
              refine z_get hx hb ht hown hK hP ziX6 rfl 77 (by decide) 0 (by decide) hw_2_78 rfl (v := .int (I 77 0)) rfl dX10_paste_59 ?_
              refine lv_icmp_eq (tgt := 68) hx hb dX10_paste_62 (by decide) (fun c_64 => ?_) (fun c_64 => ?_)
              · have t_c_64 := z_eqT c_64
                refine lv_aload hx hb dX10_paste_68 (lv_at hl 1 rfl) ?_
                refine lv_iload_n hx hb dX10_paste_70 rfl (lv_at hl 4 rfl) ?_
                refine lv_iload hx hb dX10_paste_71 (lv_at hl 7 rfl) ?_
                refine z_callVi (k := 75) (As := [.int (pa1), .int (pa4)]) (rest := []) hx hb hml hown ht (xk_X6_spans_1 l D q cA F _ _ _ hI (pa1) (pa4)) hw_5_177 hmX6_spans ⟨rfl, rfl⟩ (na := 2) rfl (by decide +kernel) (by decide) (by decide) rfl rfl hK hP hD hS hA hl.1 rfl (Nat.le_of_ble_eq_true rfl) ⟨Nat.zero_le _, Nat.zero_le _⟩ dX10_paste_73 (fun r_65 I_65 R_65 J_65 H locs hp_65 hP hD hS _ _ => ?_)
                rcases hp_65 with ⟨rfl, hu_65, nn_65⟩ | ⟨rfl, hu_65, nn_65⟩
                · cases hu_65
                  refine lv_if_eq (tgt := 91) hx hb dX10_paste_76 (by decide) (fun c_0 => absurd c_0 (zD_ne zk_1 zk_z (by decide))) (fun _ => ?_)
                  refine lv_aload hx hb dX10_paste_79 (lv_at hl 0 rfl) ?_
                  refine lv_iload hx hb dX10_paste_81 (lv_at hl 6 rfl) ?_
                  refine lv_iload hx hb dX10_paste_83 (lv_at hl 7 rfl) ?_
                  refine z_callVi (k := 77) (As := [.int (pa3), .int (pa4)]) (rest := []) hx hb hml hown ht (xk_X6_spans_2 l D q cA F _ _ _ hI (pa3) (pa4)) hw_5_177 hmX6_spans ⟨rfl, rfl⟩ (na := 2) rfl (by decide +kernel) (by decide) (by decide) rfl rfl hK hP hD hS hA hl.1 rfl (Nat.le_of_ble_eq_true rfl) ⟨Nat.zero_le _, Nat.zero_le _⟩ dX10_paste_85 (fun r_66 I_66 R_66 J_66 H locs hp_66 hP hD hS _ _ => ?_)
                  rcases hp_66 with ⟨rfl, hu_66, nn_66⟩ | ⟨rfl, hu_66, nn_66⟩
                  · cases hu_66
                    refine lv_if_ne (tgt := 94) hx hb dX10_paste_88 (by decide) (fun _ => ?_) (fun c_0 => absurd c_0 (zD_ne zk_1 zk_z (by decide)))
                    refine lv_aload hx hb dX10_paste_94 (lv_at hl 1 rfl) ?_
                    refine z_get hx hb ht hown hK hP ziX6 rfl 75 (by decide) 2 (by decide) hw_2_84 rfl (v := .ref (q 76)) rfl dX10_paste_96 ?_
                    refine lv_iload_n hx hb dX10_paste_99 rfl (lv_at hl 4 rfl) ?_
                    refine lv_aload hx hb dX10_paste_100 (lv_at hl 0 rfl) ?_
                    refine z_get hx hb ht hown hK hP ziX6 rfl 77 (by decide) 2 (by decide) hw_2_84 rfl (v := .ref (q 78)) rfl dX10_paste_102 ?_
                    refine lv_iload hx hb dX10_paste_105 (lv_at hl 6 rfl) ?_
                    refine lv_iload hx hb dX10_paste_107 (lv_at hl 7 rfl) ?_
                    refine z_copyl hx hb (hml.trans hl.1.symm) ht hown hw_5_181 ⟨hw_3_44, hw_3_43, hw_1_18⟩ hK hP hD hS 76 78 (by decide) (by decide) 54 55 rfl (fun _ => rfl) rfl rfl (x_nn nn_65.1) (x_nn nn_66.1) (x_nn nn_65.2.1) (x_cp nn_65 (xI hI 75 1).2) (x_cp nn_66 (xI hI 77 1).2) (by decide) (by decide +kernel) dX10_paste_109 (fun g_67 H locs eg_67 hP hD hS => ?_)
                    have hI_68 := xInv_J (J2 := (zr J 78 g_67)) hI
                    refine lv_iconst (v := nI 0) hx hb dX10_paste_112 (by decide +kernel) ?_
                    exact z_iret (v := nI 0) hx hb hr hlocks hP hD hS dX10_paste_113 (Or.inr (Or.inr (Or.inr (Or.inr ⟨(by obtain ⟨_, _⟩ := zk_1; obtain ⟨_, _⟩ := zk_2; omega), (show (F 75 1).toInt ≠ -1 ∧ (F 77 1).toInt ≠ -1 from (by have e0 : (I 75 1).toInt = (F 75 1).toInt := congrArg Int32.toInt (xFr hI 75 1 rfl); have e1 : (I 77 1).toInt = (F 77 1).toInt := congrArg Int32.toInt (xFr hI 77 1 rfl); have e2 : (I 75 0).toInt = (F 75 0).toInt := congrArg Int32.toInt (xFr hI 75 0 rfl); have e3 : (I 77 0).toInt = (F 77 0).toInt := congrArg Int32.toInt (xFr hI 77 0 rfl); have _ := nn_60; have _ := nn_62; omega)), (show (F 75 0).toInt = (F 77 0).toInt from (by have e0 : (I 75 1).toInt = (F 75 1).toInt := congrArg Int32.toInt (xFr hI 75 1 rfl); have e1 : (I 77 1).toInt = (F 77 1).toInt := congrArg Int32.toInt (xFr hI 77 1 rfl); have e2 : (I 75 0).toInt = (F 75 0).toInt := congrArg Int32.toInt (xFr hI 75 0 rfl); have e3 : (I 77 0).toInt = (F 77 0).toInt := congrArg Int32.toInt (xFr hI 77 0 rfl); have _ := t_c_64; omega)), (show 0 ≤ pa1.toInt ∧ 0 ≤ pa3.toInt ∧ 0 ≤ pa4.toInt ∧ pa1.toInt + pa4.toInt ≤ (F 75 1).toInt ∧ pa3.toInt + pa4.toInt ≤ (F 77 1).toInt from (by have e0 : (I 75 1).toInt = (F 75 1).toInt := congrArg Int32.toInt (xFr hI 75 1 rfl); have e1 : (I 77 1).toInt = (F 77 1).toInt := congrArg Int32.toInt (xFr hI 77 1 rfl); have e2 : (I 75 0).toInt = (F 75 0).toInt := congrArg Int32.toInt (xFr hI 75 0 rfl); have e3 : (I 77 0).toInt = (F 77 0).toInt := congrArg Int32.toInt (xFr hI 77 0 rfl); have _ := nn_65; have _ := nn_66; omega)), rfl, hI_68⟩))))
                  · cases hu_66
                    refine lv_if_ne (tgt := 94) hx hb dX10_paste_88 (by decide) (fun c_0 => absurd (zD_eq zk_0 zk_z) c_0) (fun _ => ?_)
                    refine lv_bipush (v := (-7)) hx hb dX10_paste_91 (by decide +kernel) ?_
                    exact z_iret (v := (-7)) hx hb hr hlocks hP hD hS dX10_paste_93 (Or.inr (Or.inr (Or.inr (Or.inl ⟨(by obtain ⟨_, _⟩ := zk_1; obtain ⟨_, _⟩ := zk_2; omega), (show (F 75 1).toInt ≠ -1 ∧ (F 77 1).toInt ≠ -1 from (by have e0 : (I 75 1).toInt = (F 75 1).toInt := congrArg Int32.toInt (xFr hI 75 1 rfl); have e1 : (I 77 1).toInt = (F 77 1).toInt := congrArg Int32.toInt (xFr hI 77 1 rfl); have e2 : (I 75 0).toInt = (F 75 0).toInt := congrArg Int32.toInt (xFr hI 75 0 rfl); have e3 : (I 77 0).toInt = (F 77 0).toInt := congrArg Int32.toInt (xFr hI 77 0 rfl); have _ := nn_60; have _ := nn_62; omega)), (show (F 75 0).toInt = (F 77 0).toInt from (by have e0 : (I 75 1).toInt = (F 75 1).toInt := congrArg Int32.toInt (xFr hI 75 1 rfl); have e1 : (I 77 1).toInt = (F 77 1).toInt := congrArg Int32.toInt (xFr hI 77 1 rfl); have e2 : (I 75 0).toInt = (F 75 0).toInt := congrArg Int32.toInt (xFr hI 75 0 rfl); have e3 : (I 77 0).toInt = (F 77 0).toInt := congrArg Int32.toInt (xFr hI 77 0 rfl); have _ := t_c_64; omega)), (show ¬ (0 ≤ pa1.toInt ∧ 0 ≤ pa3.toInt ∧ 0 ≤ pa4.toInt ∧ pa1.toInt + pa4.toInt ≤ (F 75 1).toInt ∧ pa3.toInt + pa4.toInt ≤ (F 77 1).toInt) from (by have e0 : (I 75 1).toInt = (F 75 1).toInt := congrArg Int32.toInt (xFr hI 75 1 rfl); have e1 : (I 77 1).toInt = (F 77 1).toInt := congrArg Int32.toInt (xFr hI 77 1 rfl); have e2 : (I 75 0).toInt = (F 75 0).toInt := congrArg Int32.toInt (xFr hI 75 0 rfl); have e3 : (I 77 0).toInt = (F 77 0).toInt := congrArg Int32.toInt (xFr hI 77 0 rfl); have _ := nn_65; have _ := nn_66; omega)), rfl, hI⟩))))
                · cases hu_65
                  refine lv_if_eq (tgt := 91) hx hb dX10_paste_76 (by decide) (fun _ => ?_) (fun c_0 => absurd (zD_eq zk_0 zk_z) c_0)
                  refine lv_bipush (v := (-7)) hx hb dX10_paste_91 (by decide +kernel) ?_
                  exact z_iret (v := (-7)) hx hb hr hlocks hP hD hS dX10_paste_93 (Or.inr (Or.inr (Or.inr (Or.inl ⟨(by obtain ⟨_, _⟩ := zk_1; obtain ⟨_, _⟩ := zk_2; omega), (show (F 75 1).toInt ≠ -1 ∧ (F 77 1).toInt ≠ -1 from (by have e0 : (I 75 1).toInt = (F 75 1).toInt := congrArg Int32.toInt (xFr hI 75 1 rfl); have e1 : (I 77 1).toInt = (F 77 1).toInt := congrArg Int32.toInt (xFr hI 77 1 rfl); have e2 : (I 75 0).toInt = (F 75 0).toInt := congrArg Int32.toInt (xFr hI 75 0 rfl); have e3 : (I 77 0).toInt = (F 77 0).toInt := congrArg Int32.toInt (xFr hI 77 0 rfl); have _ := nn_60; have _ := nn_62; omega)), (show (F 75 0).toInt = (F 77 0).toInt from (by have e0 : (I 75 1).toInt = (F 75 1).toInt := congrArg Int32.toInt (xFr hI 75 1 rfl); have e1 : (I 77 1).toInt = (F 77 1).toInt := congrArg Int32.toInt (xFr hI 77 1 rfl); have e2 : (I 75 0).toInt = (F 75 0).toInt := congrArg Int32.toInt (xFr hI 75 0 rfl); have e3 : (I 77 0).toInt = (F 77 0).toInt := congrArg Int32.toInt (xFr hI 77 0 rfl); have _ := t_c_64; omega)), (show ¬ (0 ≤ pa1.toInt ∧ 0 ≤ pa3.toInt ∧ 0 ≤ pa4.toInt ∧ pa1.toInt + pa4.toInt ≤ (F 75 1).toInt ∧ pa3.toInt + pa4.toInt ≤ (F 77 1).toInt) from (by have e0 : (I 75 1).toInt = (F 75 1).toInt := congrArg Int32.toInt (xFr hI 75 1 rfl); have e1 : (I 77 1).toInt = (F 77 1).toInt := congrArg Int32.toInt (xFr hI 77 1 rfl); have e2 : (I 75 0).toInt = (F 75 0).toInt := congrArg Int32.toInt (xFr hI 75 0 rfl); have e3 : (I 77 0).toInt = (F 77 0).toInt := congrArg Int32.toInt (xFr hI 77 0 rfl); have _ := nn_65; omega)), rfl, hI⟩))))
              · have t_c_64 := z_eqF c_64
                refine lv_bipush (v := (-8)) hx hb dX10_paste_65 (by decide +kernel) ?_
                exact z_iret (v := (-8)) hx hb hr hlocks hP hD hS dX10_paste_67 (Or.inr (Or.inr (Or.inl ⟨(by obtain ⟨_, _⟩ := zk_1; obtain ⟨_, _⟩ := zk_2; omega), (show (F 75 1).toInt ≠ -1 ∧ (F 77 1).toInt ≠ -1 from (by have e0 : (I 75 1).toInt = (F 75 1).toInt := congrArg Int32.toInt (xFr hI 75 1 rfl); have e1 : (I 77 1).toInt = (F 77 1).toInt := congrArg Int32.toInt (xFr hI 77 1 rfl); have e2 : (I 75 0).toInt = (F 75 0).toInt := congrArg Int32.toInt (xFr hI 75 0 rfl); have e3 : (I 77 0).toInt = (F 77 0).toInt := congrArg Int32.toInt (xFr hI 77 0 rfl); have _ := nn_60; have _ := nn_62; omega)), (show (F 75 0).toInt ≠ (F 77 0).toInt from (by have e0 : (I 75 1).toInt = (F 75 1).toInt := congrArg Int32.toInt (xFr hI 75 1 rfl); have e1 : (I 77 1).toInt = (F 77 1).toInt := congrArg Int32.toInt (xFr hI 77 1 rfl); have e2 : (I 75 0).toInt = (F 75 0).toInt := congrArg Int32.toInt (xFr hI 75 0 rfl); have e3 : (I 77 0).toInt = (F 77 0).toInt := congrArg Int32.toInt (xFr hI 77 0 rfl); have _ := t_c_64; omega)), rfl, hI⟩)))
            · cases hu_62
              refine lv_if_ne (tgt := 52) hx hb dX10_paste_46 (by decide) (fun c_0 => absurd (zD_eq zk_0 zk_z) c_0) (fun _ => ?_)
              refine lv_bipush (v := (-6)) hx hb dX10_paste_49 (by decide +kernel) ?_
              exact z_iret (v := (-6)) hx hb hr hlocks hP hD hS dX10_paste_51 (Or.inr (Or.inl ⟨(by obtain ⟨_, _⟩ := zk_1; obtain ⟨_, _⟩ := zk_2; omega), (show (F 75 1).toInt = -1 ∨ (F 77 1).toInt = -1 from (by have e0 : (I 75 1).toInt = (F 75 1).toInt := congrArg Int32.toInt (xFr hI 75 1 rfl); have e1 : (I 77 1).toInt = (F 77 1).toInt := congrArg Int32.toInt (xFr hI 77 1 rfl); have e2 : (I 75 0).toInt = (F 75 0).toInt := congrArg Int32.toInt (xFr hI 75 0 rfl); have e3 : (I 77 0).toInt = (F 77 0).toInt := congrArg Int32.toInt (xFr hI 77 0 rfl); have _ := nn_60; have _ := nn_62; omega)), rfl, hI⟩))
          · cases hu_60
            refine lv_if_eq (tgt := 49) hx hb dX10_paste_38 (by decide) (fun _ => ?_) (fun c_0 => absurd (zD_eq zk_0 zk_z) c_0)
            refine lv_bipush (v := (-6)) hx hb dX10_paste_49 (by decide +kernel) ?_
            exact z_iret (v := (-6)) hx hb hr hlocks hP hD hS dX10_paste_51 (Or.inr (Or.inl ⟨(by obtain ⟨_, _⟩ := zk_1; obtain ⟨_, _⟩ := zk_2; omega), (show (F 75 1).toInt = -1 ∨ (F 77 1).toInt = -1 from (by have e0 : (I 75 1).toInt = (F 75 1).toInt := congrArg Int32.toInt (xFr hI 75 1 rfl); have e1 : (I 77 1).toInt = (F 77 1).toInt := congrArg Int32.toInt (xFr hI 77 1 rfl); have e2 : (I 75 0).toInt = (F 75 0).toInt := congrArg Int32.toInt (xFr hI 75 0 rfl); have e3 : (I 77 0).toInt = (F 77 0).toInt := congrArg Int32.toInt (xFr hI 77 0 rfl); have _ := nn_60; omega)), rfl, hI⟩))
        · refine va_aldq hx hb hK hP 72 52 (zw_at (by decide) rfl) rfl (vp_in_nI (by decide) (by decide)) dX10_paste_30 ?_
          refine W.eq (g2 := F0 m 31 ls (.ref (q 79) :: [])) rfl ?_
          refine lv_astore (lv' := [(7, .ref (q 79)), (6, .ref (q 75)), (0, .ref (q 0)), (1, .int (nI 1)), (2, .int (pa1)), (3, .int (nI 3)), (4, .int (pa3)), (5, .int (pa4))]) hx hb dX10_paste_31 hl (by decide) rfl (fun ls hl => ?_)
          refine lv_aload hx hb dX10_paste_33 (lv_at hl 1 rfl) ?_
          refine z_callVi (k := 75) (As := []) (rest := []) hx hb hml hown ht (xk_X6_isThere_1 l D q cA F _ _ _ hI ) hw_5_63 hmX6_isThere ⟨rfl, rfl⟩ (na := 0) rfl (by decide +kernel) (by decide) (by decide) rfl rfl hK hP hD hS hA hl.1 rfl (Nat.le_of_ble_eq_true rfl) ⟨Nat.zero_le _, Nat.zero_le _⟩ dX10_paste_35 (fun r_69 I_69 R_69 J_69 H locs hp_69 hP hD hS _ _ => ?_)
          rcases hp_69 with ⟨rfl, hu_69, nn_69⟩ | ⟨rfl, hu_69, nn_69⟩
          · cases hu_69
            have f_70 : zR 0 60 (I 75 1) := x_there (xI hI 75 1) nn_69
            refine lv_if_eq (tgt := 49) hx hb dX10_paste_38 (by decide) (fun c_0 => absurd c_0 (zD_ne zk_1 zk_z (by decide))) (fun _ => ?_)
            refine lv_aload hx hb dX10_paste_41 (lv_at hl 0 rfl) ?_
            refine z_callVi (k := 79) (As := []) (rest := []) hx hb hml hown ht (xk_X6_isThere_3 l D q cA F _ _ _ hI ) hw_5_63 hmX6_isThere ⟨rfl, rfl⟩ (na := 0) rfl (by decide +kernel) (by decide) (by decide) rfl rfl hK hP hD hS hA hl.1 rfl (Nat.le_of_ble_eq_true rfl) ⟨Nat.zero_le _, Nat.zero_le _⟩ dX10_paste_43 (fun r_71 I_71 R_71 J_71 H locs hp_71 hP hD hS _ _ => ?_)
            rcases hp_71 with ⟨rfl, hu_71, nn_71⟩ | ⟨rfl, hu_71, nn_71⟩
            · cases hu_71
              have f_72 : zR 0 60 (I 79 1) := x_there (xI hI 79 1) nn_71
              refine lv_if_ne (tgt := 52) hx hb dX10_paste_46 (by decide) (fun _ => ?_) (fun c_0 => absurd c_0 (zD_ne zk_1 zk_z (by decide)))
              refine lv_aload hx hb dX10_paste_52 (lv_at hl 1 rfl) ?_
              refine z_get hx hb ht hown hK hP ziX6 rfl 75 (by decide) 0 (by decide) hw_2_78 rfl (v := .int (I 75 0)) rfl dX10_paste_54 ?_
              refine lv_aload hx hb dX10_paste_57 (lv_at hl 0 rfl) ?_
              refine z_get hx hb ht hown hK hP ziX6 rfl 79 (by decide) 0 (by decide) hw_2_78 rfl (v := .int (I 79 0)) rfl dX10_paste_59 ?_
              refine lv_icmp_eq (tgt := 68) hx hb dX10_paste_62 (by decide) (fun c_73 => ?_) (fun c_73 => ?_)
              · have t_c_73 := z_eqT c_73
                refine lv_aload hx hb dX10_paste_68 (lv_at hl 1 rfl) ?_
                refine lv_iload_n hx hb dX10_paste_70 rfl (lv_at hl 4 rfl) ?_
                refine lv_iload hx hb dX10_paste_71 (lv_at hl 7 rfl) ?_
                refine z_callVi (k := 75) (As := [.int (pa1), .int (pa4)]) (rest := []) hx hb hml hown ht (xk_X6_spans_1 l D q cA F _ _ _ hI (pa1) (pa4)) hw_5_177 hmX6_spans ⟨rfl, rfl⟩ (na := 2) rfl (by decide +kernel) (by decide) (by decide) rfl rfl hK hP hD hS hA hl.1 rfl (Nat.le_of_ble_eq_true rfl) ⟨Nat.zero_le _, Nat.zero_le _⟩ dX10_paste_73 (fun r_74 I_74 R_74 J_74 H locs hp_74 hP hD hS _ _ => ?_)
                rcases hp_74 with ⟨rfl, hu_74, nn_74⟩ | ⟨rfl, hu_74, nn_74⟩
                · cases hu_74
                  refine lv_if_eq (tgt := 91) hx hb dX10_paste_76 (by decide) (fun c_0 => absurd c_0 (zD_ne zk_1 zk_z (by decide))) (fun _ => ?_)
                  refine lv_aload hx hb dX10_paste_79 (lv_at hl 0 rfl) ?_
                  refine lv_iload hx hb dX10_paste_81 (lv_at hl 6 rfl) ?_
                  refine lv_iload hx hb dX10_paste_83 (lv_at hl 7 rfl) ?_
                  refine z_callVi (k := 79) (As := [.int (pa3), .int (pa4)]) (rest := []) hx hb hml hown ht (xk_X6_spans_3 l D q cA F _ _ _ hI (pa3) (pa4)) hw_5_177 hmX6_spans ⟨rfl, rfl⟩ (na := 2) rfl (by decide +kernel) (by decide) (by decide) rfl rfl hK hP hD hS hA hl.1 rfl (Nat.le_of_ble_eq_true rfl) ⟨Nat.zero_le _, Nat.zero_le _⟩ dX10_paste_85 (fun r_75 I_75 R_75 J_75 H locs hp_75 hP hD hS _ _ => ?_)
                  rcases hp_75 with ⟨rfl, hu_75, nn_75⟩ | ⟨rfl, hu_75, nn_75⟩
                  · cases hu_75
                    refine lv_if_ne (tgt := 94) hx hb dX10_paste_88 (by decide) (fun _ => ?_) (fun c_0 => absurd c_0 (zD_ne zk_1 zk_z (by decide)))
                    refine lv_aload hx hb dX10_paste_94 (lv_at hl 1 rfl) ?_
                    refine z_get hx hb ht hown hK hP ziX6 rfl 75 (by decide) 2 (by decide) hw_2_84 rfl (v := .ref (q 76)) rfl dX10_paste_96 ?_
                    refine lv_iload_n hx hb dX10_paste_99 rfl (lv_at hl 4 rfl) ?_
                    refine lv_aload hx hb dX10_paste_100 (lv_at hl 0 rfl) ?_
                    refine z_get hx hb ht hown hK hP ziX6 rfl 79 (by decide) 2 (by decide) hw_2_84 rfl (v := .ref (q 80)) rfl dX10_paste_102 ?_
                    refine lv_iload hx hb dX10_paste_105 (lv_at hl 6 rfl) ?_
                    refine lv_iload hx hb dX10_paste_107 (lv_at hl 7 rfl) ?_
                    refine z_copyl hx hb (hml.trans hl.1.symm) ht hown hw_5_181 ⟨hw_3_44, hw_3_43, hw_1_18⟩ hK hP hD hS 76 80 (by decide) (by decide) 54 56 rfl (fun _ => rfl) rfl rfl (x_nn nn_74.1) (x_nn nn_75.1) (x_nn nn_74.2.1) (x_cp nn_74 (xI hI 75 1).2) (x_cp nn_75 (xI hI 79 1).2) (by decide) (by decide +kernel) dX10_paste_109 (fun g_76 H locs eg_76 hP hD hS => ?_)
                    have hI_77 := xInv_J (J2 := (zr J 80 g_76)) hI
                    refine lv_iconst (v := nI 0) hx hb dX10_paste_112 (by decide +kernel) ?_
                    exact z_iret (v := nI 0) hx hb hr hlocks hP hD hS dX10_paste_113 (Or.inr (Or.inr (Or.inr (Or.inr ⟨(by obtain ⟨_, _⟩ := zk_1; obtain ⟨_, _⟩ := zk_3; omega), (show (F 75 1).toInt ≠ -1 ∧ (F 79 1).toInt ≠ -1 from (by have e0 : (I 75 1).toInt = (F 75 1).toInt := congrArg Int32.toInt (xFr hI 75 1 rfl); have e1 : (I 79 1).toInt = (F 79 1).toInt := congrArg Int32.toInt (xFr hI 79 1 rfl); have e2 : (I 75 0).toInt = (F 75 0).toInt := congrArg Int32.toInt (xFr hI 75 0 rfl); have e3 : (I 79 0).toInt = (F 79 0).toInt := congrArg Int32.toInt (xFr hI 79 0 rfl); have _ := nn_69; have _ := nn_71; omega)), (show (F 75 0).toInt = (F 79 0).toInt from (by have e0 : (I 75 1).toInt = (F 75 1).toInt := congrArg Int32.toInt (xFr hI 75 1 rfl); have e1 : (I 79 1).toInt = (F 79 1).toInt := congrArg Int32.toInt (xFr hI 79 1 rfl); have e2 : (I 75 0).toInt = (F 75 0).toInt := congrArg Int32.toInt (xFr hI 75 0 rfl); have e3 : (I 79 0).toInt = (F 79 0).toInt := congrArg Int32.toInt (xFr hI 79 0 rfl); have _ := t_c_73; omega)), (show 0 ≤ pa1.toInt ∧ 0 ≤ pa3.toInt ∧ 0 ≤ pa4.toInt ∧ pa1.toInt + pa4.toInt ≤ (F 75 1).toInt ∧ pa3.toInt + pa4.toInt ≤ (F 79 1).toInt from (by have e0 : (I 75 1).toInt = (F 75 1).toInt := congrArg Int32.toInt (xFr hI 75 1 rfl); have e1 : (I 79 1).toInt = (F 79 1).toInt := congrArg Int32.toInt (xFr hI 79 1 rfl); have e2 : (I 75 0).toInt = (F 75 0).toInt := congrArg Int32.toInt (xFr hI 75 0 rfl); have e3 : (I 79 0).toInt = (F 79 0).toInt := congrArg Int32.toInt (xFr hI 79 0 rfl); have _ := nn_74; have _ := nn_75; omega)), rfl, hI_77⟩))))
                  · cases hu_75
                    refine lv_if_ne (tgt := 94) hx hb dX10_paste_88 (by decide) (fun c_0 => absurd (zD_eq zk_0 zk_z) c_0) (fun _ => ?_)
                    refine lv_bipush (v := (-7)) hx hb dX10_paste_91 (by decide +kernel) ?_
                    exact z_iret (v := (-7)) hx hb hr hlocks hP hD hS dX10_paste_93 (Or.inr (Or.inr (Or.inr (Or.inl ⟨(by obtain ⟨_, _⟩ := zk_1; obtain ⟨_, _⟩ := zk_3; omega), (show (F 75 1).toInt ≠ -1 ∧ (F 79 1).toInt ≠ -1 from (by have e0 : (I 75 1).toInt = (F 75 1).toInt := congrArg Int32.toInt (xFr hI 75 1 rfl); have e1 : (I 79 1).toInt = (F 79 1).toInt := congrArg Int32.toInt (xFr hI 79 1 rfl); have e2 : (I 75 0).toInt = (F 75 0).toInt := congrArg Int32.toInt (xFr hI 75 0 rfl); have e3 : (I 79 0).toInt = (F 79 0).toInt := congrArg Int32.toInt (xFr hI 79 0 rfl); have _ := nn_69; have _ := nn_71; omega)), (show (F 75 0).toInt = (F 79 0).toInt from (by have e0 : (I 75 1).toInt = (F 75 1).toInt := congrArg Int32.toInt (xFr hI 75 1 rfl); have e1 : (I 79 1).toInt = (F 79 1).toInt := congrArg Int32.toInt (xFr hI 79 1 rfl); have e2 : (I 75 0).toInt = (F 75 0).toInt := congrArg Int32.toInt (xFr hI 75 0 rfl); have e3 : (I 79 0).toInt = (F 79 0).toInt := congrArg Int32.toInt (xFr hI 79 0 rfl); have _ := t_c_73; omega)), (show ¬ (0 ≤ pa1.toInt ∧ 0 ≤ pa3.toInt ∧ 0 ≤ pa4.toInt ∧ pa1.toInt + pa4.toInt ≤ (F 75 1).toInt ∧ pa3.toInt + pa4.toInt ≤ (F 79 1).toInt) from (by have e0 : (I 75 1).toInt = (F 75 1).toInt := congrArg Int32.toInt (xFr hI 75 1 rfl); have e1 : (I 79 1).toInt = (F 79 1).toInt := congrArg Int32.toInt (xFr hI 79 1 rfl); have e2 : (I 75 0).toInt = (F 75 0).toInt := congrArg Int32.toInt (xFr hI 75 0 rfl); have e3 : (I 79 0).toInt = (F 79 0).toInt := congrArg Int32.toInt (xFr hI 79 0 rfl); have _ := nn_74; have _ := nn_75; omega)), rfl, hI⟩))))
                · cases hu_74
                  refine lv_if_eq (tgt := 91) hx hb dX10_paste_76 (by decide) (fun _ => ?_) (fun c_0 => absurd (zD_eq zk_0 zk_z) c_0)
                  refine lv_bipush (v := (-7)) hx hb dX10_paste_91 (by decide +kernel) ?_
                  exact z_iret (v := (-7)) hx hb hr hlocks hP hD hS dX10_paste_93 (Or.inr (Or.inr (Or.inr (Or.inl ⟨(by obtain ⟨_, _⟩ := zk_1; obtain ⟨_, _⟩ := zk_3; omega), (show (F 75 1).toInt ≠ -1 ∧ (F 79 1).toInt ≠ -1 from (by have e0 : (I 75 1).toInt = (F 75 1).toInt := congrArg Int32.toInt (xFr hI 75 1 rfl); have e1 : (I 79 1).toInt = (F 79 1).toInt := congrArg Int32.toInt (xFr hI 79 1 rfl); have e2 : (I 75 0).toInt = (F 75 0).toInt := congrArg Int32.toInt (xFr hI 75 0 rfl); have e3 : (I 79 0).toInt = (F 79 0).toInt := congrArg Int32.toInt (xFr hI 79 0 rfl); have _ := nn_69; have _ := nn_71; omega)), (show (F 75 0).toInt = (F 79 0).toInt from (by have e0 : (I 75 1).toInt = (F 75 1).toInt := congrArg Int32.toInt (xFr hI 75 1 rfl); have e1 : (I 79 1).toInt = (F 79 1).toInt := congrArg Int32.toInt (xFr hI 79 1 rfl); have e2 : (I 75 0).toInt = (F 75 0).toInt := congrArg Int32.toInt (xFr hI 75 0 rfl); have e3 : (I 79 0).toInt = (F 79 0).toInt := congrArg Int32.toInt (xFr hI 79 0 rfl); have _ := t_c_73; omega)), (show ¬ (0 ≤ pa1.toInt ∧ 0 ≤ pa3.toInt ∧ 0 ≤ pa4.toInt ∧ pa1.toInt + pa4.toInt ≤ (F 75 1).toInt ∧ pa3.toInt + pa4.toInt ≤ (F 79 1).toInt) from (by have e0 : (I 75 1).toInt = (F 75 1).toInt := congrArg Int32.toInt (xFr hI 75 1 rfl); have e1 : (I 79 1).toInt = (F 79 1).toInt := congrArg Int32.toInt (xFr hI 79 1 rfl); have e2 : (I 75 0).toInt = (F 75 0).toInt := congrArg Int32.toInt (xFr hI 75 0 rfl); have e3 : (I 79 0).toInt = (F 79 0).toInt := congrArg Int32.toInt (xFr hI 79 0 rfl); have _ := nn_74; omega)), rfl, hI⟩))))
              · have t_c_73 := z_eqF c_73
                refine lv_bipush (v := (-8)) hx hb dX10_paste_65 (by decide +kernel) ?_
                exact z_iret (v := (-8)) hx hb hr hlocks hP hD hS dX10_paste_67 (Or.inr (Or.inr (Or.inl ⟨(by obtain ⟨_, _⟩ := zk_1; obtain ⟨_, _⟩ := zk_3; omega), (show (F 75 1).toInt ≠ -1 ∧ (F 79 1).toInt ≠ -1 from (by have e0 : (I 75 1).toInt = (F 75 1).toInt := congrArg Int32.toInt (xFr hI 75 1 rfl); have e1 : (I 79 1).toInt = (F 79 1).toInt := congrArg Int32.toInt (xFr hI 79 1 rfl); have e2 : (I 75 0).toInt = (F 75 0).toInt := congrArg Int32.toInt (xFr hI 75 0 rfl); have e3 : (I 79 0).toInt = (F 79 0).toInt := congrArg Int32.toInt (xFr hI 79 0 rfl); have _ := nn_69; have _ := nn_71; omega)), (show (F 75 0).toInt ≠ (F 79 0).toInt from (by have e0 : (I 75 1).toInt = (F 75 1).toInt := congrArg Int32.toInt (xFr hI 75 1 rfl); have e1 : (I 79 1).toInt = (F 79 1).toInt := congrArg Int32.toInt (xFr hI 79 1 rfl); have e2 : (I 75 0).toInt = (F 75 0).toInt := congrArg Int32.toInt (xFr hI 75 0 rfl); have e3 : (I 79 0).toInt = (F 79 0).toInt := congrArg Int32.toInt (xFr hI 79 0 rfl); have _ := t_c_73; omega)), rfl, hI⟩)))
            · cases hu_71
              refine lv_if_ne (tgt := 52) hx hb dX10_paste_46 (by decide) (fun c_0 => absurd (zD_eq zk_0 zk_z) c_0) (fun _ => ?_)
              refine lv_bipush (v := (-6)) hx hb dX10_paste_49 (by decide +kernel) ?_
              exact z_iret (v := (-6)) hx hb hr hlocks hP hD hS dX10_paste_51 (Or.inr (Or.inl ⟨(by obtain ⟨_, _⟩ := zk_1; obtain ⟨_, _⟩ := zk_3; omega), (show (F 75 1).toInt = -1 ∨ (F 79 1).toInt = -1 from (by have e0 : (I 75 1).toInt = (F 75 1).toInt := congrArg Int32.toInt (xFr hI 75 1 rfl); have e1 : (I 79 1).toInt = (F 79 1).toInt := congrArg Int32.toInt (xFr hI 79 1 rfl); have e2 : (I 75 0).toInt = (F 75 0).toInt := congrArg Int32.toInt (xFr hI 75 0 rfl); have e3 : (I 79 0).toInt = (F 79 0).toInt := congrArg Int32.toInt (xFr hI 79 0 rfl); have _ := nn_69; have _ := nn_71; omega)), rfl, hI⟩))
          · cases hu_69
            refine lv_if_eq (tgt := 49) hx hb dX10_paste_38 (by decide) (fun _ => ?_) (fun c_0 => absurd (zD_eq zk_0 zk_z) c_0)
            refine lv_bipush (v := (-6)) hx hb dX10_paste_49 (by decide +kernel) ?_
            exact z_iret (v := (-6)) hx hb hr hlocks hP hD hS dX10_paste_51 (Or.inr (Or.inl ⟨(by obtain ⟨_, _⟩ := zk_1; obtain ⟨_, _⟩ := zk_3; omega), (show (F 75 1).toInt = -1 ∨ (F 79 1).toInt = -1 from (by have e0 : (I 75 1).toInt = (F 75 1).toInt := congrArg Int32.toInt (xFr hI 75 1 rfl); have e1 : (I 79 1).toInt = (F 79 1).toInt := congrArg Int32.toInt (xFr hI 79 1 rfl); have e2 : (I 75 0).toInt = (F 75 0).toInt := congrArg Int32.toInt (xFr hI 75 0 rfl); have e3 : (I 79 0).toInt = (F 79 0).toInt := congrArg Int32.toInt (xFr hI 79 0 rfl); have _ := nn_69; omega)), rfl, hI⟩))
      · refine va_aldq hx hb hK hP 72 52 (zw_at (by decide) rfl) rfl (vp_in_nI (by decide) (by decide)) dX10_paste_22 ?_
        refine W.eq (g2 := F0 m 23 ls (.ref (q 77) :: [])) rfl ?_
        refine lv_astore (lv' := [(6, .ref (q 77)), (0, .ref (q 0)), (1, .int (nI 2)), (2, .int (pa1)), (3, .int (pa2)), (4, .int (pa3)), (5, .int (pa4))]) hx hb dX10_paste_23 hl (by decide) rfl (fun ls hl => ?_)
        refine lv_aload_n hx hb dX10_paste_25 rfl (lv_at hl 1 rfl) ?_
        refine z_get hx hb ht hown hK hP ziX10 rfl 0 (by decide) 11 (by decide) hw_2_104 rfl (v := .ref (q 72)) rfl dX10_paste_26 ?_
        refine lv_iload_n hx hb dX10_paste_29 rfl (lv_at hl 4 rfl) ?_
        obtain ⟨n_78, hn_78, rfl⟩ := z_ex (x := pa2) (N := 4) (zR_w f0_2 (a' := 0) (b' := 3) (by decide)).1 (Int.lt_of_le_of_lt (zR_w f0_2 (a' := 0) (b' := 3) (by decide)).2 (by decide))
        rcases (show n_78 = 0 ∨ n_78 = 1 ∨ n_78 = 2 ∨ n_78 = 3 by omega) with rfl | rfl | rfl | rfl
        · refine va_aldq hx hb hK hP 72 52 (zw_at (by decide) rfl) rfl (vp_in_nI (by decide) (by decide)) dX10_paste_30 ?_
          refine W.eq (g2 := F0 m 31 ls (.ref (q 73) :: [])) rfl ?_
          refine lv_astore (lv' := [(7, .ref (q 73)), (6, .ref (q 77)), (0, .ref (q 0)), (1, .int (nI 2)), (2, .int (pa1)), (3, .int (nI 0)), (4, .int (pa3)), (5, .int (pa4))]) hx hb dX10_paste_31 hl (by decide) rfl (fun ls hl => ?_)
          refine lv_aload hx hb dX10_paste_33 (lv_at hl 1 rfl) ?_
          refine z_callVi (k := 77) (As := []) (rest := []) hx hb hml hown ht (xk_X6_isThere_2 l D q cA F _ _ _ hI ) hw_5_63 hmX6_isThere ⟨rfl, rfl⟩ (na := 0) rfl (by decide +kernel) (by decide) (by decide) rfl rfl hK hP hD hS hA hl.1 rfl (Nat.le_of_ble_eq_true rfl) ⟨Nat.zero_le _, Nat.zero_le _⟩ dX10_paste_35 (fun r_79 I_79 R_79 J_79 H locs hp_79 hP hD hS _ _ => ?_)
          rcases hp_79 with ⟨rfl, hu_79, nn_79⟩ | ⟨rfl, hu_79, nn_79⟩
          · cases hu_79
            have f_80 : zR 0 60 (I 77 1) := x_there (xI hI 77 1) nn_79
            refine lv_if_eq (tgt := 49) hx hb dX10_paste_38 (by decide) (fun c_0 => absurd c_0 (zD_ne zk_1 zk_z (by decide))) (fun _ => ?_)
            refine lv_aload hx hb dX10_paste_41 (lv_at hl 0 rfl) ?_
            refine z_callVi (k := 73) (As := []) (rest := []) hx hb hml hown ht (xk_X6_isThere l D q cA F _ _ _ hI ) hw_5_63 hmX6_isThere ⟨rfl, rfl⟩ (na := 0) rfl (by decide +kernel) (by decide) (by decide) rfl rfl hK hP hD hS hA hl.1 rfl (Nat.le_of_ble_eq_true rfl) ⟨Nat.zero_le _, Nat.zero_le _⟩ dX10_paste_43 (fun r_81 I_81 R_81 J_81 H locs hp_81 hP hD hS _ _ => ?_)
            rcases hp_81 with ⟨rfl, hu_81, nn_81⟩ | ⟨rfl, hu_81, nn_81⟩
            · cases hu_81
              have f_82 : zR 0 60 (I 73 1) := x_there (xI hI 73 1) nn_81
              refine lv_if_ne (tgt := 52) hx hb dX10_paste_46 (by decide) (fun _ => ?_) (fun c_0 => absurd c_0 (zD_ne zk_1 zk_z (by decide)))
              refine lv_aload hx hb dX10_paste_52 (lv_at hl 1 rfl) ?_
              refine z_get hx hb ht hown hK hP ziX6 rfl 77 (by decide) 0 (by decide) hw_2_78 rfl (v := .int (I 77 0)) rfl dX10_paste_54 ?_
              refine lv_aload hx hb dX10_paste_57 (lv_at hl 0 rfl) ?_
              refine z_get hx hb ht hown hK hP ziX6 rfl 73 (by decide) 0 (by decide) hw_2_78 rfl (v := .int (I 73 0)) rfl dX10_paste_59 ?_
              refine lv_icmp_eq (tgt := 68) hx hb dX10_paste_62 (by decide) (fun c_83 => ?_) (fun c_83 => ?_)
              · have t_c_83 := z_eqT c_83
                refine lv_aload hx hb dX10_paste_68 (lv_at hl 1 rfl) ?_
                refine lv_iload_n hx hb dX10_paste_70 rfl (lv_at hl 4 rfl) ?_
                refine lv_iload hx hb dX10_paste_71 (lv_at hl 7 rfl) ?_
                refine z_callVi (k := 77) (As := [.int (pa1), .int (pa4)]) (rest := []) hx hb hml hown ht (xk_X6_spans_2 l D q cA F _ _ _ hI (pa1) (pa4)) hw_5_177 hmX6_spans ⟨rfl, rfl⟩ (na := 2) rfl (by decide +kernel) (by decide) (by decide) rfl rfl hK hP hD hS hA hl.1 rfl (Nat.le_of_ble_eq_true rfl) ⟨Nat.zero_le _, Nat.zero_le _⟩ dX10_paste_73 (fun r_84 I_84 R_84 J_84 H locs hp_84 hP hD hS _ _ => ?_)
                rcases hp_84 with ⟨rfl, hu_84, nn_84⟩ | ⟨rfl, hu_84, nn_84⟩
                · cases hu_84
                  refine lv_if_eq (tgt := 91) hx hb dX10_paste_76 (by decide) (fun c_0 => absurd c_0 (zD_ne zk_1 zk_z (by decide))) (fun _ => ?_)
                  refine lv_aload hx hb dX10_paste_79 (lv_at hl 0 rfl) ?_
                  refine lv_iload hx hb dX10_paste_81 (lv_at hl 6 rfl) ?_
                  refine lv_iload hx hb dX10_paste_83 (lv_at hl 7 rfl) ?_
                  refine z_callVi (k := 73) (As := [.int (pa3), .int (pa4)]) (rest := []) hx hb hml hown ht (xk_X6_spans l D q cA F _ _ _ hI (pa3) (pa4)) hw_5_177 hmX6_spans ⟨rfl, rfl⟩ (na := 2) rfl (by decide +kernel) (by decide) (by decide) rfl rfl hK hP hD hS hA hl.1 rfl (Nat.le_of_ble_eq_true rfl) ⟨Nat.zero_le _, Nat.zero_le _⟩ dX10_paste_85 (fun r_85 I_85 R_85 J_85 H locs hp_85 hP hD hS _ _ => ?_)
                  rcases hp_85 with ⟨rfl, hu_85, nn_85⟩ | ⟨rfl, hu_85, nn_85⟩
                  · cases hu_85
                    refine lv_if_ne (tgt := 94) hx hb dX10_paste_88 (by decide) (fun _ => ?_) (fun c_0 => absurd c_0 (zD_ne zk_1 zk_z (by decide)))
                    refine lv_aload hx hb dX10_paste_94 (lv_at hl 1 rfl) ?_
                    refine z_get hx hb ht hown hK hP ziX6 rfl 77 (by decide) 2 (by decide) hw_2_84 rfl (v := .ref (q 78)) rfl dX10_paste_96 ?_
                    refine lv_iload_n hx hb dX10_paste_99 rfl (lv_at hl 4 rfl) ?_
                    refine lv_aload hx hb dX10_paste_100 (lv_at hl 0 rfl) ?_
                    refine z_get hx hb ht hown hK hP ziX6 rfl 73 (by decide) 2 (by decide) hw_2_84 rfl (v := .ref (q 74)) rfl dX10_paste_102 ?_
                    refine lv_iload hx hb dX10_paste_105 (lv_at hl 6 rfl) ?_
                    refine lv_iload hx hb dX10_paste_107 (lv_at hl 7 rfl) ?_
                    refine z_copyl hx hb (hml.trans hl.1.symm) ht hown hw_5_181 ⟨hw_3_44, hw_3_43, hw_1_18⟩ hK hP hD hS 78 74 (by decide) (by decide) 55 53 rfl (fun _ => rfl) rfl rfl (x_nn nn_84.1) (x_nn nn_85.1) (x_nn nn_84.2.1) (x_cp nn_84 (xI hI 77 1).2) (x_cp nn_85 (xI hI 73 1).2) (by decide) (by decide +kernel) dX10_paste_109 (fun g_86 H locs eg_86 hP hD hS => ?_)
                    have hI_87 := xInv_J (J2 := (zr J 74 g_86)) hI
                    refine lv_iconst (v := nI 0) hx hb dX10_paste_112 (by decide +kernel) ?_
                    exact z_iret (v := nI 0) hx hb hr hlocks hP hD hS dX10_paste_113 (Or.inr (Or.inr (Or.inr (Or.inr ⟨(by obtain ⟨_, _⟩ := zk_2; obtain ⟨_, _⟩ := zk_0; omega), (show (F 77 1).toInt ≠ -1 ∧ (F 73 1).toInt ≠ -1 from (by have e0 : (I 77 1).toInt = (F 77 1).toInt := congrArg Int32.toInt (xFr hI 77 1 rfl); have e1 : (I 73 1).toInt = (F 73 1).toInt := congrArg Int32.toInt (xFr hI 73 1 rfl); have e2 : (I 77 0).toInt = (F 77 0).toInt := congrArg Int32.toInt (xFr hI 77 0 rfl); have e3 : (I 73 0).toInt = (F 73 0).toInt := congrArg Int32.toInt (xFr hI 73 0 rfl); have _ := nn_79; have _ := nn_81; omega)), (show (F 77 0).toInt = (F 73 0).toInt from (by have e0 : (I 77 1).toInt = (F 77 1).toInt := congrArg Int32.toInt (xFr hI 77 1 rfl); have e1 : (I 73 1).toInt = (F 73 1).toInt := congrArg Int32.toInt (xFr hI 73 1 rfl); have e2 : (I 77 0).toInt = (F 77 0).toInt := congrArg Int32.toInt (xFr hI 77 0 rfl); have e3 : (I 73 0).toInt = (F 73 0).toInt := congrArg Int32.toInt (xFr hI 73 0 rfl); have _ := t_c_83; omega)), (show 0 ≤ pa1.toInt ∧ 0 ≤ pa3.toInt ∧ 0 ≤ pa4.toInt ∧ pa1.toInt + pa4.toInt ≤ (F 77 1).toInt ∧ pa3.toInt + pa4.toInt ≤ (F 73 1).toInt from (by have e0 : (I 77 1).toInt = (F 77 1).toInt := congrArg Int32.toInt (xFr hI 77 1 rfl); have e1 : (I 73 1).toInt = (F 73 1).toInt := congrArg Int32.toInt (xFr hI 73 1 rfl); have e2 : (I 77 0).toInt = (F 77 0).toInt := congrArg Int32.toInt (xFr hI 77 0 rfl); have e3 : (I 73 0).toInt = (F 73 0).toInt := congrArg Int32.toInt (xFr hI 73 0 rfl); have _ := nn_84; have _ := nn_85; omega)), rfl, hI_87⟩))))
                  · cases hu_85
                    refine lv_if_ne (tgt := 94) hx hb dX10_paste_88 (by decide) (fun c_0 => absurd (zD_eq zk_0 zk_z) c_0) (fun _ => ?_)
                    refine lv_bipush (v := (-7)) hx hb dX10_paste_91 (by decide +kernel) ?_
                    exact z_iret (v := (-7)) hx hb hr hlocks hP hD hS dX10_paste_93 (Or.inr (Or.inr (Or.inr (Or.inl ⟨(by obtain ⟨_, _⟩ := zk_2; obtain ⟨_, _⟩ := zk_0; omega), (show (F 77 1).toInt ≠ -1 ∧ (F 73 1).toInt ≠ -1 from (by have e0 : (I 77 1).toInt = (F 77 1).toInt := congrArg Int32.toInt (xFr hI 77 1 rfl); have e1 : (I 73 1).toInt = (F 73 1).toInt := congrArg Int32.toInt (xFr hI 73 1 rfl); have e2 : (I 77 0).toInt = (F 77 0).toInt := congrArg Int32.toInt (xFr hI 77 0 rfl); have e3 : (I 73 0).toInt = (F 73 0).toInt := congrArg Int32.toInt (xFr hI 73 0 rfl); have _ := nn_79; have _ := nn_81; omega)), (show (F 77 0).toInt = (F 73 0).toInt from (by have e0 : (I 77 1).toInt = (F 77 1).toInt := congrArg Int32.toInt (xFr hI 77 1 rfl); have e1 : (I 73 1).toInt = (F 73 1).toInt := congrArg Int32.toInt (xFr hI 73 1 rfl); have e2 : (I 77 0).toInt = (F 77 0).toInt := congrArg Int32.toInt (xFr hI 77 0 rfl); have e3 : (I 73 0).toInt = (F 73 0).toInt := congrArg Int32.toInt (xFr hI 73 0 rfl); have _ := t_c_83; omega)), (show ¬ (0 ≤ pa1.toInt ∧ 0 ≤ pa3.toInt ∧ 0 ≤ pa4.toInt ∧ pa1.toInt + pa4.toInt ≤ (F 77 1).toInt ∧ pa3.toInt + pa4.toInt ≤ (F 73 1).toInt) from (by have e0 : (I 77 1).toInt = (F 77 1).toInt := congrArg Int32.toInt (xFr hI 77 1 rfl); have e1 : (I 73 1).toInt = (F 73 1).toInt := congrArg Int32.toInt (xFr hI 73 1 rfl); have e2 : (I 77 0).toInt = (F 77 0).toInt := congrArg Int32.toInt (xFr hI 77 0 rfl); have e3 : (I 73 0).toInt = (F 73 0).toInt := congrArg Int32.toInt (xFr hI 73 0 rfl); have _ := nn_84; have _ := nn_85; omega)), rfl, hI⟩))))
                · cases hu_84
                  refine lv_if_eq (tgt := 91) hx hb dX10_paste_76 (by decide) (fun _ => ?_) (fun c_0 => absurd (zD_eq zk_0 zk_z) c_0)
                  refine lv_bipush (v := (-7)) hx hb dX10_paste_91 (by decide +kernel) ?_
                  exact z_iret (v := (-7)) hx hb hr hlocks hP hD hS dX10_paste_93 (Or.inr (Or.inr (Or.inr (Or.inl ⟨(by obtain ⟨_, _⟩ := zk_2; obtain ⟨_, _⟩ := zk_0; omega), (show (F 77 1).toInt ≠ -1 ∧ (F 73 1).toInt ≠ -1 from (by have e0 : (I 77 1).toInt = (F 77 1).toInt := congrArg Int32.toInt (xFr hI 77 1 rfl); have e1 : (I 73 1).toInt = (F 73 1).toInt := congrArg Int32.toInt (xFr hI 73 1 rfl); have e2 : (I 77 0).toInt = (F 77 0).toInt := congrArg Int32.toInt (xFr hI 77 0 rfl); have e3 : (I 73 0).toInt = (F 73 0).toInt := congrArg Int32.toInt (xFr hI 73 0 rfl); have _ := nn_79; have _ := nn_81; omega)), (show (F 77 0).toInt = (F 73 0).toInt from (by have e0 : (I 77 1).toInt = (F 77 1).toInt := congrArg Int32.toInt (xFr hI 77 1 rfl); have e1 : (I 73 1).toInt = (F 73 1).toInt := congrArg Int32.toInt (xFr hI 73 1 rfl); have e2 : (I 77 0).toInt = (F 77 0).toInt := congrArg Int32.toInt (xFr hI 77 0 rfl); have e3 : (I 73 0).toInt = (F 73 0).toInt := congrArg Int32.toInt (xFr hI 73 0 rfl); have _ := t_c_83; omega)), (show ¬ (0 ≤ pa1.toInt ∧ 0 ≤ pa3.toInt ∧ 0 ≤ pa4.toInt ∧ pa1.toInt + pa4.toInt ≤ (F 77 1).toInt ∧ pa3.toInt + pa4.toInt ≤ (F 73 1).toInt) from (by have e0 : (I 77 1).toInt = (F 77 1).toInt := congrArg Int32.toInt (xFr hI 77 1 rfl); have e1 : (I 73 1).toInt = (F 73 1).toInt := congrArg Int32.toInt (xFr hI 73 1 rfl); have e2 : (I 77 0).toInt = (F 77 0).toInt := congrArg Int32.toInt (xFr hI 77 0 rfl); have e3 : (I 73 0).toInt = (F 73 0).toInt := congrArg Int32.toInt (xFr hI 73 0 rfl); have _ := nn_84; omega)), rfl, hI⟩))))
              · have t_c_83 := z_eqF c_83
                refine lv_bipush (v := (-8)) hx hb dX10_paste_65 (by decide +kernel) ?_
                exact z_iret (v := (-8)) hx hb hr hlocks hP hD hS dX10_paste_67 (Or.inr (Or.inr (Or.inl ⟨(by obtain ⟨_, _⟩ := zk_2; obtain ⟨_, _⟩ := zk_0; omega), (show (F 77 1).toInt ≠ -1 ∧ (F 73 1).toInt ≠ -1 from (by have e0 : (I 77 1).toInt = (F 77 1).toInt := congrArg Int32.toInt (xFr hI 77 1 rfl); have e1 : (I 73 1).toInt = (F 73 1).toInt := congrArg Int32.toInt (xFr hI 73 1 rfl); have e2 : (I 77 0).toInt = (F 77 0).toInt := congrArg Int32.toInt (xFr hI 77 0 rfl); have e3 : (I 73 0).toInt = (F 73 0).toInt := congrArg Int32.toInt (xFr hI 73 0 rfl); have _ := nn_79; have _ := nn_81; omega)), (show (F 77 0).toInt ≠ (F 73 0).toInt from (by have e0 : (I 77 1).toInt = (F 77 1).toInt := congrArg Int32.toInt (xFr hI 77 1 rfl); have e1 : (I 73 1).toInt = (F 73 1).toInt := congrArg Int32.toInt (xFr hI 73 1 rfl); have e2 : (I 77 0).toInt = (F 77 0).toInt := congrArg Int32.toInt (xFr hI 77 0 rfl); have e3 : (I 73 0).toInt = (F 73 0).toInt := congrArg Int32.toInt (xFr hI 73 0 rfl); have _ := t_c_83; omega)), rfl, hI⟩)))
            · cases hu_81
              refine lv_if_ne (tgt := 52) hx hb dX10_paste_46 (by decide) (fun c_0 => absurd (zD_eq zk_0 zk_z) c_0) (fun _ => ?_)
              refine lv_bipush (v := (-6)) hx hb dX10_paste_49 (by decide +kernel) ?_
              exact z_iret (v := (-6)) hx hb hr hlocks hP hD hS dX10_paste_51 (Or.inr (Or.inl ⟨(by obtain ⟨_, _⟩ := zk_2; obtain ⟨_, _⟩ := zk_0; omega), (show (F 77 1).toInt = -1 ∨ (F 73 1).toInt = -1 from (by have e0 : (I 77 1).toInt = (F 77 1).toInt := congrArg Int32.toInt (xFr hI 77 1 rfl); have e1 : (I 73 1).toInt = (F 73 1).toInt := congrArg Int32.toInt (xFr hI 73 1 rfl); have e2 : (I 77 0).toInt = (F 77 0).toInt := congrArg Int32.toInt (xFr hI 77 0 rfl); have e3 : (I 73 0).toInt = (F 73 0).toInt := congrArg Int32.toInt (xFr hI 73 0 rfl); have _ := nn_79; have _ := nn_81; omega)), rfl, hI⟩))
          · cases hu_79
            refine lv_if_eq (tgt := 49) hx hb dX10_paste_38 (by decide) (fun _ => ?_) (fun c_0 => absurd (zD_eq zk_0 zk_z) c_0)
            refine lv_bipush (v := (-6)) hx hb dX10_paste_49 (by decide +kernel) ?_
            exact z_iret (v := (-6)) hx hb hr hlocks hP hD hS dX10_paste_51 (Or.inr (Or.inl ⟨(by obtain ⟨_, _⟩ := zk_2; obtain ⟨_, _⟩ := zk_0; omega), (show (F 77 1).toInt = -1 ∨ (F 73 1).toInt = -1 from (by have e0 : (I 77 1).toInt = (F 77 1).toInt := congrArg Int32.toInt (xFr hI 77 1 rfl); have e1 : (I 73 1).toInt = (F 73 1).toInt := congrArg Int32.toInt (xFr hI 73 1 rfl); have e2 : (I 77 0).toInt = (F 77 0).toInt := congrArg Int32.toInt (xFr hI 77 0 rfl); have e3 : (I 73 0).toInt = (F 73 0).toInt := congrArg Int32.toInt (xFr hI 73 0 rfl); have _ := nn_79; omega)), rfl, hI⟩))
        · refine va_aldq hx hb hK hP 72 52 (zw_at (by decide) rfl) rfl (vp_in_nI (by decide) (by decide)) dX10_paste_30 ?_
          refine W.eq (g2 := F0 m 31 ls (.ref (q 75) :: [])) rfl ?_
          refine lv_astore (lv' := [(7, .ref (q 75)), (6, .ref (q 77)), (0, .ref (q 0)), (1, .int (nI 2)), (2, .int (pa1)), (3, .int (nI 1)), (4, .int (pa3)), (5, .int (pa4))]) hx hb dX10_paste_31 hl (by decide) rfl (fun ls hl => ?_)
          refine lv_aload hx hb dX10_paste_33 (lv_at hl 1 rfl) ?_
          refine z_callVi (k := 77) (As := []) (rest := []) hx hb hml hown ht (xk_X6_isThere_2 l D q cA F _ _ _ hI ) hw_5_63 hmX6_isThere ⟨rfl, rfl⟩ (na := 0) rfl (by decide +kernel) (by decide) (by decide) rfl rfl hK hP hD hS hA hl.1 rfl (Nat.le_of_ble_eq_true rfl) ⟨Nat.zero_le _, Nat.zero_le _⟩ dX10_paste_35 (fun r_88 I_88 R_88 J_88 H locs hp_88 hP hD hS _ _ => ?_)
          rcases hp_88 with ⟨rfl, hu_88, nn_88⟩ | ⟨rfl, hu_88, nn_88⟩
          · cases hu_88
            have f_89 : zR 0 60 (I 77 1) := x_there (xI hI 77 1) nn_88
            refine lv_if_eq (tgt := 49) hx hb dX10_paste_38 (by decide) (fun c_0 => absurd c_0 (zD_ne zk_1 zk_z (by decide))) (fun _ => ?_)
            refine lv_aload hx hb dX10_paste_41 (lv_at hl 0 rfl) ?_
            refine z_callVi (k := 75) (As := []) (rest := []) hx hb hml hown ht (xk_X6_isThere_1 l D q cA F _ _ _ hI ) hw_5_63 hmX6_isThere ⟨rfl, rfl⟩ (na := 0) rfl (by decide +kernel) (by decide) (by decide) rfl rfl hK hP hD hS hA hl.1 rfl (Nat.le_of_ble_eq_true rfl) ⟨Nat.zero_le _, Nat.zero_le _⟩ dX10_paste_43 (fun r_90 I_90 R_90 J_90 H locs hp_90 hP hD hS _ _ => ?_)
            rcases hp_90 with ⟨rfl, hu_90, nn_90⟩ | ⟨rfl, hu_90, nn_90⟩
            · cases hu_90
              have f_91 : zR 0 60 (I 75 1) := x_there (xI hI 75 1) nn_90
              refine lv_if_ne (tgt := 52) hx hb dX10_paste_46 (by decide) (fun _ => ?_) (fun c_0 => absurd c_0 (zD_ne zk_1 zk_z (by decide)))
              refine lv_aload hx hb dX10_paste_52 (lv_at hl 1 rfl) ?_
              refine z_get hx hb ht hown hK hP ziX6 rfl 77 (by decide) 0 (by decide) hw_2_78 rfl (v := .int (I 77 0)) rfl dX10_paste_54 ?_
              refine lv_aload hx hb dX10_paste_57 (lv_at hl 0 rfl) ?_
              refine z_get hx hb ht hown hK hP ziX6 rfl 75 (by decide) 0 (by decide) hw_2_78 rfl (v := .int (I 75 0)) rfl dX10_paste_59 ?_
              refine lv_icmp_eq (tgt := 68) hx hb dX10_paste_62 (by decide) (fun c_92 => ?_) (fun c_92 => ?_)
              · have t_c_92 := z_eqT c_92
                refine lv_aload hx hb dX10_paste_68 (lv_at hl 1 rfl) ?_
                refine lv_iload_n hx hb dX10_paste_70 rfl (lv_at hl 4 rfl) ?_
                refine lv_iload hx hb dX10_paste_71 (lv_at hl 7 rfl) ?_
                refine z_callVi (k := 77) (As := [.int (pa1), .int (pa4)]) (rest := []) hx hb hml hown ht (xk_X6_spans_2 l D q cA F _ _ _ hI (pa1) (pa4)) hw_5_177 hmX6_spans ⟨rfl, rfl⟩ (na := 2) rfl (by decide +kernel) (by decide) (by decide) rfl rfl hK hP hD hS hA hl.1 rfl (Nat.le_of_ble_eq_true rfl) ⟨Nat.zero_le _, Nat.zero_le _⟩ dX10_paste_73 (fun r_93 I_93 R_93 J_93 H locs hp_93 hP hD hS _ _ => ?_)
                rcases hp_93 with ⟨rfl, hu_93, nn_93⟩ | ⟨rfl, hu_93, nn_93⟩
                · cases hu_93
                  refine lv_if_eq (tgt := 91) hx hb dX10_paste_76 (by decide) (fun c_0 => absurd c_0 (zD_ne zk_1 zk_z (by decide))) (fun _ => ?_)
                  refine lv_aload hx hb dX10_paste_79 (lv_at hl 0 rfl) ?_
                  refine lv_iload hx hb dX10_paste_81 (lv_at hl 6 rfl) ?_
                  refine lv_iload hx hb dX10_paste_83 (lv_at hl 7 rfl) ?_
                  refine z_callVi (k := 75) (As := [.int (pa3), .int (pa4)]) (rest := []) hx hb hml hown ht (xk_X6_spans_1 l D q cA F _ _ _ hI (pa3) (pa4)) hw_5_177 hmX6_spans ⟨rfl, rfl⟩ (na := 2) rfl (by decide +kernel) (by decide) (by decide) rfl rfl hK hP hD hS hA hl.1 rfl (Nat.le_of_ble_eq_true rfl) ⟨Nat.zero_le _, Nat.zero_le _⟩ dX10_paste_85 (fun r_94 I_94 R_94 J_94 H locs hp_94 hP hD hS _ _ => ?_)
                  rcases hp_94 with ⟨rfl, hu_94, nn_94⟩ | ⟨rfl, hu_94, nn_94⟩
                  · cases hu_94
                    refine lv_if_ne (tgt := 94) hx hb dX10_paste_88 (by decide) (fun _ => ?_) (fun c_0 => absurd c_0 (zD_ne zk_1 zk_z (by decide)))
                    refine lv_aload hx hb dX10_paste_94 (lv_at hl 1 rfl) ?_
                    refine z_get hx hb ht hown hK hP ziX6 rfl 77 (by decide) 2 (by decide) hw_2_84 rfl (v := .ref (q 78)) rfl dX10_paste_96 ?_
                    refine lv_iload_n hx hb dX10_paste_99 rfl (lv_at hl 4 rfl) ?_
                    refine lv_aload hx hb dX10_paste_100 (lv_at hl 0 rfl) ?_
                    refine z_get hx hb ht hown hK hP ziX6 rfl 75 (by decide) 2 (by decide) hw_2_84 rfl (v := .ref (q 76)) rfl dX10_paste_102 ?_
                    refine lv_iload hx hb dX10_paste_105 (lv_at hl 6 rfl) ?_
                    refine lv_iload hx hb dX10_paste_107 (lv_at hl 7 rfl) ?_
                    refine z_copyl hx hb (hml.trans hl.1.symm) ht hown hw_5_181 ⟨hw_3_44, hw_3_43, hw_1_18⟩ hK hP hD hS 78 76 (by decide) (by decide) 55 54 rfl (fun _ => rfl) rfl rfl (x_nn nn_93.1) (x_nn nn_94.1) (x_nn nn_93.2.1) (x_cp nn_93 (xI hI 77 1).2) (x_cp nn_94 (xI hI 75 1).2) (by decide) (by decide +kernel) dX10_paste_109 (fun g_95 H locs eg_95 hP hD hS => ?_)
                    have hI_96 := xInv_J (J2 := (zr J 76 g_95)) hI
                    refine lv_iconst (v := nI 0) hx hb dX10_paste_112 (by decide +kernel) ?_
                    exact z_iret (v := nI 0) hx hb hr hlocks hP hD hS dX10_paste_113 (Or.inr (Or.inr (Or.inr (Or.inr ⟨(by obtain ⟨_, _⟩ := zk_2; obtain ⟨_, _⟩ := zk_1; omega), (show (F 77 1).toInt ≠ -1 ∧ (F 75 1).toInt ≠ -1 from (by have e0 : (I 77 1).toInt = (F 77 1).toInt := congrArg Int32.toInt (xFr hI 77 1 rfl); have e1 : (I 75 1).toInt = (F 75 1).toInt := congrArg Int32.toInt (xFr hI 75 1 rfl); have e2 : (I 77 0).toInt = (F 77 0).toInt := congrArg Int32.toInt (xFr hI 77 0 rfl); have e3 : (I 75 0).toInt = (F 75 0).toInt := congrArg Int32.toInt (xFr hI 75 0 rfl); have _ := nn_88; have _ := nn_90; omega)), (show (F 77 0).toInt = (F 75 0).toInt from (by have e0 : (I 77 1).toInt = (F 77 1).toInt := congrArg Int32.toInt (xFr hI 77 1 rfl); have e1 : (I 75 1).toInt = (F 75 1).toInt := congrArg Int32.toInt (xFr hI 75 1 rfl); have e2 : (I 77 0).toInt = (F 77 0).toInt := congrArg Int32.toInt (xFr hI 77 0 rfl); have e3 : (I 75 0).toInt = (F 75 0).toInt := congrArg Int32.toInt (xFr hI 75 0 rfl); have _ := t_c_92; omega)), (show 0 ≤ pa1.toInt ∧ 0 ≤ pa3.toInt ∧ 0 ≤ pa4.toInt ∧ pa1.toInt + pa4.toInt ≤ (F 77 1).toInt ∧ pa3.toInt + pa4.toInt ≤ (F 75 1).toInt from (by have e0 : (I 77 1).toInt = (F 77 1).toInt := congrArg Int32.toInt (xFr hI 77 1 rfl); have e1 : (I 75 1).toInt = (F 75 1).toInt := congrArg Int32.toInt (xFr hI 75 1 rfl); have e2 : (I 77 0).toInt = (F 77 0).toInt := congrArg Int32.toInt (xFr hI 77 0 rfl); have e3 : (I 75 0).toInt = (F 75 0).toInt := congrArg Int32.toInt (xFr hI 75 0 rfl); have _ := nn_93; have _ := nn_94; omega)), rfl, hI_96⟩))))
                  · cases hu_94
                    refine lv_if_ne (tgt := 94) hx hb dX10_paste_88 (by decide) (fun c_0 => absurd (zD_eq zk_0 zk_z) c_0) (fun _ => ?_)
                    refine lv_bipush (v := (-7)) hx hb dX10_paste_91 (by decide +kernel) ?_
                    exact z_iret (v := (-7)) hx hb hr hlocks hP hD hS dX10_paste_93 (Or.inr (Or.inr (Or.inr (Or.inl ⟨(by obtain ⟨_, _⟩ := zk_2; obtain ⟨_, _⟩ := zk_1; omega), (show (F 77 1).toInt ≠ -1 ∧ (F 75 1).toInt ≠ -1 from (by have e0 : (I 77 1).toInt = (F 77 1).toInt := congrArg Int32.toInt (xFr hI 77 1 rfl); have e1 : (I 75 1).toInt = (F 75 1).toInt := congrArg Int32.toInt (xFr hI 75 1 rfl); have e2 : (I 77 0).toInt = (F 77 0).toInt := congrArg Int32.toInt (xFr hI 77 0 rfl); have e3 : (I 75 0).toInt = (F 75 0).toInt := congrArg Int32.toInt (xFr hI 75 0 rfl); have _ := nn_88; have _ := nn_90; omega)), (show (F 77 0).toInt = (F 75 0).toInt from (by have e0 : (I 77 1).toInt = (F 77 1).toInt := congrArg Int32.toInt (xFr hI 77 1 rfl); have e1 : (I 75 1).toInt = (F 75 1).toInt := congrArg Int32.toInt (xFr hI 75 1 rfl); have e2 : (I 77 0).toInt = (F 77 0).toInt := congrArg Int32.toInt (xFr hI 77 0 rfl); have e3 : (I 75 0).toInt = (F 75 0).toInt := congrArg Int32.toInt (xFr hI 75 0 rfl); have _ := t_c_92; omega)), (show ¬ (0 ≤ pa1.toInt ∧ 0 ≤ pa3.toInt ∧ 0 ≤ pa4.toInt ∧ pa1.toInt + pa4.toInt ≤ (F 77 1).toInt ∧ pa3.toInt + pa4.toInt ≤ (F 75 1).toInt) from (by have e0 : (I 77 1).toInt = (F 77 1).toInt := congrArg Int32.toInt (xFr hI 77 1 rfl); have e1 : (I 75 1).toInt = (F 75 1).toInt := congrArg Int32.toInt (xFr hI 75 1 rfl); have e2 : (I 77 0).toInt = (F 77 0).toInt := congrArg Int32.toInt (xFr hI 77 0 rfl); have e3 : (I 75 0).toInt = (F 75 0).toInt := congrArg Int32.toInt (xFr hI 75 0 rfl); have _ := nn_93; have _ := nn_94; omega)), rfl, hI⟩))))
                · cases hu_93
                  refine lv_if_eq (tgt := 91) hx hb dX10_paste_76 (by decide) (fun _ => ?_) (fun c_0 => absurd (zD_eq zk_0 zk_z) c_0)
                  refine lv_bipush (v := (-7)) hx hb dX10_paste_91 (by decide +kernel) ?_
                  exact z_iret (v := (-7)) hx hb hr hlocks hP hD hS dX10_paste_93 (Or.inr (Or.inr (Or.inr (Or.inl ⟨(by obtain ⟨_, _⟩ := zk_2; obtain ⟨_, _⟩ := zk_1; omega), (show (F 77 1).toInt ≠ -1 ∧ (F 75 1).toInt ≠ -1 from (by have e0 : (I 77 1).toInt = (F 77 1).toInt := congrArg Int32.toInt (xFr hI 77 1 rfl); have e1 : (I 75 1).toInt = (F 75 1).toInt := congrArg Int32.toInt (xFr hI 75 1 rfl); have e2 : (I 77 0).toInt = (F 77 0).toInt := congrArg Int32.toInt (xFr hI 77 0 rfl); have e3 : (I 75 0).toInt = (F 75 0).toInt := congrArg Int32.toInt (xFr hI 75 0 rfl); have _ := nn_88; have _ := nn_90; omega)), (show (F 77 0).toInt = (F 75 0).toInt from (by have e0 : (I 77 1).toInt = (F 77 1).toInt := congrArg Int32.toInt (xFr hI 77 1 rfl); have e1 : (I 75 1).toInt = (F 75 1).toInt := congrArg Int32.toInt (xFr hI 75 1 rfl); have e2 : (I 77 0).toInt = (F 77 0).toInt := congrArg Int32.toInt (xFr hI 77 0 rfl); have e3 : (I 75 0).toInt = (F 75 0).toInt := congrArg Int32.toInt (xFr hI 75 0 rfl); have _ := t_c_92; omega)), (show ¬ (0 ≤ pa1.toInt ∧ 0 ≤ pa3.toInt ∧ 0 ≤ pa4.toInt ∧ pa1.toInt + pa4.toInt ≤ (F 77 1).toInt ∧ pa3.toInt + pa4.toInt ≤ (F 75 1).toInt) from (by have e0 : (I 77 1).toInt = (F 77 1).toInt := congrArg Int32.toInt (xFr hI 77 1 rfl); have e1 : (I 75 1).toInt = (F 75 1).toInt := congrArg Int32.toInt (xFr hI 75 1 rfl); have e2 : (I 77 0).toInt = (F 77 0).toInt := congrArg Int32.toInt (xFr hI 77 0 rfl); have e3 : (I 75 0).toInt = (F 75 0).toInt := congrArg Int32.toInt (xFr hI 75 0 rfl); have _ := nn_93; omega)), rfl, hI⟩))))
              · have t_c_92 := z_eqF c_92
                refine lv_bipush (v := (-8)) hx hb dX10_paste_65 (by decide +kernel) ?_
                exact z_iret (v := (-8)) hx hb hr hlocks hP hD hS dX10_paste_67 (Or.inr (Or.inr (Or.inl ⟨(by obtain ⟨_, _⟩ := zk_2; obtain ⟨_, _⟩ := zk_1; omega), (show (F 77 1).toInt ≠ -1 ∧ (F 75 1).toInt ≠ -1 from (by have e0 : (I 77 1).toInt = (F 77 1).toInt := congrArg Int32.toInt (xFr hI 77 1 rfl); have e1 : (I 75 1).toInt = (F 75 1).toInt := congrArg Int32.toInt (xFr hI 75 1 rfl); have e2 : (I 77 0).toInt = (F 77 0).toInt := congrArg Int32.toInt (xFr hI 77 0 rfl); have e3 : (I 75 0).toInt = (F 75 0).toInt := congrArg Int32.toInt (xFr hI 75 0 rfl); have _ := nn_88; have _ := nn_90; omega)), (show (F 77 0).toInt ≠ (F 75 0).toInt from (by have e0 : (I 77 1).toInt = (F 77 1).toInt := congrArg Int32.toInt (xFr hI 77 1 rfl); have e1 : (I 75 1).toInt = (F 75 1).toInt := congrArg Int32.toInt (xFr hI 75 1 rfl); have e2 : (I 77 0).toInt = (F 77 0).toInt := congrArg Int32.toInt (xFr hI 77 0 rfl); have e3 : (I 75 0).toInt = (F 75 0).toInt := congrArg Int32.toInt (xFr hI 75 0 rfl); have _ := t_c_92; omega)), rfl, hI⟩)))
            · cases hu_90
              refine lv_if_ne (tgt := 52) hx hb dX10_paste_46 (by decide) (fun c_0 => absurd (zD_eq zk_0 zk_z) c_0) (fun _ => ?_)
              refine lv_bipush (v := (-6)) hx hb dX10_paste_49 (by decide +kernel) ?_
              exact z_iret (v := (-6)) hx hb hr hlocks hP hD hS dX10_paste_51 (Or.inr (Or.inl ⟨(by obtain ⟨_, _⟩ := zk_2; obtain ⟨_, _⟩ := zk_1; omega), (show (F 77 1).toInt = -1 ∨ (F 75 1).toInt = -1 from (by have e0 : (I 77 1).toInt = (F 77 1).toInt := congrArg Int32.toInt (xFr hI 77 1 rfl); have e1 : (I 75 1).toInt = (F 75 1).toInt := congrArg Int32.toInt (xFr hI 75 1 rfl); have e2 : (I 77 0).toInt = (F 77 0).toInt := congrArg Int32.toInt (xFr hI 77 0 rfl); have e3 : (I 75 0).toInt = (F 75 0).toInt := congrArg Int32.toInt (xFr hI 75 0 rfl); have _ := nn_88; have _ := nn_90; omega)), rfl, hI⟩))
          · cases hu_88
            refine lv_if_eq (tgt := 49) hx hb dX10_paste_38 (by decide) (fun _ => ?_) (fun c_0 => absurd (zD_eq zk_0 zk_z) c_0)
            refine lv_bipush (v := (-6)) hx hb dX10_paste_49 (by decide +kernel) ?_
            exact z_iret (v := (-6)) hx hb hr hlocks hP hD hS dX10_paste_51 (Or.inr (Or.inl ⟨(by obtain ⟨_, _⟩ := zk_2; obtain ⟨_, _⟩ := zk_1; omega), (show (F 77 1).toInt = -1 ∨ (F 75 1).toInt = -1 from (by have e0 : (I 77 1).toInt = (F 77 1).toInt := congrArg Int32.toInt (xFr hI 77 1 rfl); have e1 : (I 75 1).toInt = (F 75 1).toInt := congrArg Int32.toInt (xFr hI 75 1 rfl); have e2 : (I 77 0).toInt = (F 77 0).toInt := congrArg Int32.toInt (xFr hI 77 0 rfl); have e3 : (I 75 0).toInt = (F 75 0).toInt := congrArg Int32.toInt (xFr hI 75 0 rfl); have _ := nn_88; omega)), rfl, hI⟩))
        · refine va_aldq hx hb hK hP 72 52 (zw_at (by decide) rfl) rfl (vp_in_nI (by decide) (by decide)) dX10_paste_30 ?_
          refine W.eq (g2 := F0 m 31 ls (.ref (q 77) :: [])) rfl ?_
          refine lv_astore (lv' := [(7, .ref (q 77)), (6, .ref (q 77)), (0, .ref (q 0)), (1, .int (nI 2)), (2, .int (pa1)), (3, .int (nI 2)), (4, .int (pa3)), (5, .int (pa4))]) hx hb dX10_paste_31 hl (by decide) rfl (fun ls hl => ?_)
          refine lv_aload hx hb dX10_paste_33 (lv_at hl 1 rfl) ?_
          refine z_callVi (k := 77) (As := []) (rest := []) hx hb hml hown ht (xk_X6_isThere_2 l D q cA F _ _ _ hI ) hw_5_63 hmX6_isThere ⟨rfl, rfl⟩ (na := 0) rfl (by decide +kernel) (by decide) (by decide) rfl rfl hK hP hD hS hA hl.1 rfl (Nat.le_of_ble_eq_true rfl) ⟨Nat.zero_le _, Nat.zero_le _⟩ dX10_paste_35 (fun r_97 I_97 R_97 J_97 H locs hp_97 hP hD hS _ _ => ?_)
          rcases hp_97 with ⟨rfl, hu_97, nn_97⟩ | ⟨rfl, hu_97, nn_97⟩
          · cases hu_97
            have f_98 : zR 0 60 (I 77 1) := x_there (xI hI 77 1) nn_97
            refine lv_if_eq (tgt := 49) hx hb dX10_paste_38 (by decide) (fun c_0 => absurd c_0 (zD_ne zk_1 zk_z (by decide))) (fun _ => ?_)
            refine lv_aload hx hb dX10_paste_41 (lv_at hl 0 rfl) ?_
            refine z_callVi (k := 77) (As := []) (rest := []) hx hb hml hown ht (xk_X6_isThere_2 l D q cA F _ _ _ hI ) hw_5_63 hmX6_isThere ⟨rfl, rfl⟩ (na := 0) rfl (by decide +kernel) (by decide) (by decide) rfl rfl hK hP hD hS hA hl.1 rfl (Nat.le_of_ble_eq_true rfl) ⟨Nat.zero_le _, Nat.zero_le _⟩ dX10_paste_43 (fun r_99 I_99 R_99 J_99 H locs hp_99 hP hD hS _ _ => ?_)
            rcases hp_99 with ⟨rfl, hu_99, nn_99⟩ | ⟨rfl, hu_99, nn_99⟩
            · cases hu_99
              have f_100 : zR 0 60 (I 77 1) := x_there (xI hI 77 1) nn_99
              refine lv_if_ne (tgt := 52) hx hb dX10_paste_46 (by decide) (fun _ => ?_) (fun c_0 => absurd c_0 (zD_ne zk_1 zk_z (by decide)))
              refine lv_aload hx hb dX10_paste_52 (lv_at hl 1 rfl) ?_
              refine z_get hx hb ht hown hK hP ziX6 rfl 77 (by decide) 0 (by decide) hw_2_78 rfl (v := .int (I 77 0)) rfl dX10_paste_54 ?_
              refine lv_aload hx hb dX10_paste_57 (lv_at hl 0 rfl) ?_
              refine z_get hx hb ht hown hK hP ziX6 rfl 77 (by decide) 0 (by decide) hw_2_78 rfl (v := .int (I 77 0)) rfl dX10_paste_59 ?_
              refine lv_icmp_eq (tgt := 68) hx hb dX10_paste_62 (by decide) (fun c_101 => ?_) (fun c_101 => ?_)
              · have t_c_101 := z_eqT c_101
                refine lv_aload hx hb dX10_paste_68 (lv_at hl 1 rfl) ?_
                refine lv_iload_n hx hb dX10_paste_70 rfl (lv_at hl 4 rfl) ?_
                refine lv_iload hx hb dX10_paste_71 (lv_at hl 7 rfl) ?_
                refine z_callVi (k := 77) (As := [.int (pa1), .int (pa4)]) (rest := []) hx hb hml hown ht (xk_X6_spans_2 l D q cA F _ _ _ hI (pa1) (pa4)) hw_5_177 hmX6_spans ⟨rfl, rfl⟩ (na := 2) rfl (by decide +kernel) (by decide) (by decide) rfl rfl hK hP hD hS hA hl.1 rfl (Nat.le_of_ble_eq_true rfl) ⟨Nat.zero_le _, Nat.zero_le _⟩ dX10_paste_73 (fun r_102 I_102 R_102 J_102 H locs hp_102 hP hD hS _ _ => ?_)
                rcases hp_102 with ⟨rfl, hu_102, nn_102⟩ | ⟨rfl, hu_102, nn_102⟩
                · cases hu_102
                  refine lv_if_eq (tgt := 91) hx hb dX10_paste_76 (by decide) (fun c_0 => absurd c_0 (zD_ne zk_1 zk_z (by decide))) (fun _ => ?_)
                  refine lv_aload hx hb dX10_paste_79 (lv_at hl 0 rfl) ?_
                  refine lv_iload hx hb dX10_paste_81 (lv_at hl 6 rfl) ?_
                  refine lv_iload hx hb dX10_paste_83 (lv_at hl 7 rfl) ?_
                  refine z_callVi (k := 77) (As := [.int (pa3), .int (pa4)]) (rest := []) hx hb hml hown ht (xk_X6_spans_2 l D q cA F _ _ _ hI (pa3) (pa4)) hw_5_177 hmX6_spans ⟨rfl, rfl⟩ (na := 2) rfl (by decide +kernel) (by decide) (by decide) rfl rfl hK hP hD hS hA hl.1 rfl (Nat.le_of_ble_eq_true rfl) ⟨Nat.zero_le _, Nat.zero_le _⟩ dX10_paste_85 (fun r_103 I_103 R_103 J_103 H locs hp_103 hP hD hS _ _ => ?_)
                  rcases hp_103 with ⟨rfl, hu_103, nn_103⟩ | ⟨rfl, hu_103, nn_103⟩
                  · cases hu_103
                    refine lv_if_ne (tgt := 94) hx hb dX10_paste_88 (by decide) (fun _ => ?_) (fun c_0 => absurd c_0 (zD_ne zk_1 zk_z (by decide)))
                    refine lv_aload hx hb dX10_paste_94 (lv_at hl 1 rfl) ?_
                    refine z_get hx hb ht hown hK hP ziX6 rfl 77 (by decide) 2 (by decide) hw_2_84 rfl (v := .ref (q 78)) rfl dX10_paste_96 ?_
                    refine lv_iload_n hx hb dX10_paste_99 rfl (lv_at hl 4 rfl) ?_
                    refine lv_aload hx hb dX10_paste_100 (lv_at hl 0 rfl) ?_
                    refine z_get hx hb ht hown hK hP ziX6 rfl 77 (by decide) 2 (by decide) hw_2_84 rfl (v := .ref (q 78)) rfl dX10_paste_102 ?_
                    refine lv_iload hx hb dX10_paste_105 (lv_at hl 6 rfl) ?_
                    refine lv_iload hx hb dX10_paste_107 (lv_at hl 7 rfl) ?_
                    refine z_copyl hx hb (hml.trans hl.1.symm) ht hown hw_5_181 ⟨hw_3_44, hw_3_43, hw_1_18⟩ hK hP hD hS 78 78 (by decide) (by decide) 55 55 rfl (fun _ => rfl) rfl rfl (x_nn nn_102.1) (x_nn nn_103.1) (x_nn nn_102.2.1) (x_cp nn_102 (xI hI 77 1).2) (x_cp nn_103 (xI hI 77 1).2) (by decide) (by decide +kernel) dX10_paste_109 (fun g_104 H locs eg_104 hP hD hS => ?_)
                    have hI_105 := xInv_J (J2 := (zr J 78 g_104)) hI
                    refine lv_iconst (v := nI 0) hx hb dX10_paste_112 (by decide +kernel) ?_
                    exact z_iret (v := nI 0) hx hb hr hlocks hP hD hS dX10_paste_113 (Or.inr (Or.inr (Or.inr (Or.inr ⟨(by obtain ⟨_, _⟩ := zk_2; obtain ⟨_, _⟩ := zk_2; omega), (show (F 77 1).toInt ≠ -1 ∧ (F 77 1).toInt ≠ -1 from (by have e0 : (I 77 1).toInt = (F 77 1).toInt := congrArg Int32.toInt (xFr hI 77 1 rfl); have e1 : (I 77 1).toInt = (F 77 1).toInt := congrArg Int32.toInt (xFr hI 77 1 rfl); have e2 : (I 77 0).toInt = (F 77 0).toInt := congrArg Int32.toInt (xFr hI 77 0 rfl); have e3 : (I 77 0).toInt = (F 77 0).toInt := congrArg Int32.toInt (xFr hI 77 0 rfl); have _ := nn_99; have _ := nn_99; omega)), (show (F 77 0).toInt = (F 77 0).toInt from (by have e0 : (I 77 1).toInt = (F 77 1).toInt := congrArg Int32.toInt (xFr hI 77 1 rfl); have e1 : (I 77 1).toInt = (F 77 1).toInt := congrArg Int32.toInt (xFr hI 77 1 rfl); have e2 : (I 77 0).toInt = (F 77 0).toInt := congrArg Int32.toInt (xFr hI 77 0 rfl); have e3 : (I 77 0).toInt = (F 77 0).toInt := congrArg Int32.toInt (xFr hI 77 0 rfl); have _ := t_c_101; omega)), (show 0 ≤ pa1.toInt ∧ 0 ≤ pa3.toInt ∧ 0 ≤ pa4.toInt ∧ pa1.toInt + pa4.toInt ≤ (F 77 1).toInt ∧ pa3.toInt + pa4.toInt ≤ (F 77 1).toInt from (by have e0 : (I 77 1).toInt = (F 77 1).toInt := congrArg Int32.toInt (xFr hI 77 1 rfl); have e1 : (I 77 1).toInt = (F 77 1).toInt := congrArg Int32.toInt (xFr hI 77 1 rfl); have e2 : (I 77 0).toInt = (F 77 0).toInt := congrArg Int32.toInt (xFr hI 77 0 rfl); have e3 : (I 77 0).toInt = (F 77 0).toInt := congrArg Int32.toInt (xFr hI 77 0 rfl); have _ := nn_102; have _ := nn_103; omega)), rfl, hI_105⟩))))
                  · cases hu_103
                    refine lv_if_ne (tgt := 94) hx hb dX10_paste_88 (by decide) (fun c_0 => absurd (zD_eq zk_0 zk_z) c_0) (fun _ => ?_)
                    refine lv_bipush (v := (-7)) hx hb dX10_paste_91 (by decide +kernel) ?_
                    exact z_iret (v := (-7)) hx hb hr hlocks hP hD hS dX10_paste_93 (Or.inr (Or.inr (Or.inr (Or.inl ⟨(by obtain ⟨_, _⟩ := zk_2; obtain ⟨_, _⟩ := zk_2; omega), (show (F 77 1).toInt ≠ -1 ∧ (F 77 1).toInt ≠ -1 from (by have e0 : (I 77 1).toInt = (F 77 1).toInt := congrArg Int32.toInt (xFr hI 77 1 rfl); have e1 : (I 77 1).toInt = (F 77 1).toInt := congrArg Int32.toInt (xFr hI 77 1 rfl); have e2 : (I 77 0).toInt = (F 77 0).toInt := congrArg Int32.toInt (xFr hI 77 0 rfl); have e3 : (I 77 0).toInt = (F 77 0).toInt := congrArg Int32.toInt (xFr hI 77 0 rfl); have _ := nn_99; have _ := nn_99; omega)), (show (F 77 0).toInt = (F 77 0).toInt from (by have e0 : (I 77 1).toInt = (F 77 1).toInt := congrArg Int32.toInt (xFr hI 77 1 rfl); have e1 : (I 77 1).toInt = (F 77 1).toInt := congrArg Int32.toInt (xFr hI 77 1 rfl); have e2 : (I 77 0).toInt = (F 77 0).toInt := congrArg Int32.toInt (xFr hI 77 0 rfl); have e3 : (I 77 0).toInt = (F 77 0).toInt := congrArg Int32.toInt (xFr hI 77 0 rfl); have _ := t_c_101; omega)), (show ¬ (0 ≤ pa1.toInt ∧ 0 ≤ pa3.toInt ∧ 0 ≤ pa4.toInt ∧ pa1.toInt + pa4.toInt ≤ (F 77 1).toInt ∧ pa3.toInt + pa4.toInt ≤ (F 77 1).toInt) from (by have e0 : (I 77 1).toInt = (F 77 1).toInt := congrArg Int32.toInt (xFr hI 77 1 rfl); have e1 : (I 77 1).toInt = (F 77 1).toInt := congrArg Int32.toInt (xFr hI 77 1 rfl); have e2 : (I 77 0).toInt = (F 77 0).toInt := congrArg Int32.toInt (xFr hI 77 0 rfl); have e3 : (I 77 0).toInt = (F 77 0).toInt := congrArg Int32.toInt (xFr hI 77 0 rfl); have _ := nn_102; have _ := nn_103; omega)), rfl, hI⟩))))
                · cases hu_102
                  refine lv_if_eq (tgt := 91) hx hb dX10_paste_76 (by decide) (fun _ => ?_) (fun c_0 => absurd (zD_eq zk_0 zk_z) c_0)
                  refine lv_bipush (v := (-7)) hx hb dX10_paste_91 (by decide +kernel) ?_
                  exact z_iret (v := (-7)) hx hb hr hlocks hP hD hS dX10_paste_93 (Or.inr (Or.inr (Or.inr (Or.inl ⟨(by obtain ⟨_, _⟩ := zk_2; obtain ⟨_, _⟩ := zk_2; omega), (show (F 77 1).toInt ≠ -1 ∧ (F 77 1).toInt ≠ -1 from (by have e0 : (I 77 1).toInt = (F 77 1).toInt := congrArg Int32.toInt (xFr hI 77 1 rfl); have e1 : (I 77 1).toInt = (F 77 1).toInt := congrArg Int32.toInt (xFr hI 77 1 rfl); have e2 : (I 77 0).toInt = (F 77 0).toInt := congrArg Int32.toInt (xFr hI 77 0 rfl); have e3 : (I 77 0).toInt = (F 77 0).toInt := congrArg Int32.toInt (xFr hI 77 0 rfl); have _ := nn_99; have _ := nn_99; omega)), (show (F 77 0).toInt = (F 77 0).toInt from (by have e0 : (I 77 1).toInt = (F 77 1).toInt := congrArg Int32.toInt (xFr hI 77 1 rfl); have e1 : (I 77 1).toInt = (F 77 1).toInt := congrArg Int32.toInt (xFr hI 77 1 rfl); have e2 : (I 77 0).toInt = (F 77 0).toInt := congrArg Int32.toInt (xFr hI 77 0 rfl); have e3 : (I 77 0).toInt = (F 77 0).toInt := congrArg Int32.toInt (xFr hI 77 0 rfl); have _ := t_c_101; omega)), (show ¬ (0 ≤ pa1.toInt ∧ 0 ≤ pa3.toInt ∧ 0 ≤ pa4.toInt ∧ pa1.toInt + pa4.toInt ≤ (F 77 1).toInt ∧ pa3.toInt + pa4.toInt ≤ (F 77 1).toInt) from (by have e0 : (I 77 1).toInt = (F 77 1).toInt := congrArg Int32.toInt (xFr hI 77 1 rfl); have e1 : (I 77 1).toInt = (F 77 1).toInt := congrArg Int32.toInt (xFr hI 77 1 rfl); have e2 : (I 77 0).toInt = (F 77 0).toInt := congrArg Int32.toInt (xFr hI 77 0 rfl); have e3 : (I 77 0).toInt = (F 77 0).toInt := congrArg Int32.toInt (xFr hI 77 0 rfl); have _ := nn_102; omega)), rfl, hI⟩))))
              · have t_c_101 := z_eqF c_101
                exact absurd rfl t_c_101
            · cases hu_99
              refine lv_if_ne (tgt := 52) hx hb dX10_paste_46 (by decide) (fun c_0 => absurd (zD_eq zk_0 zk_z) c_0) (fun _ => ?_)
              refine lv_bipush (v := (-6)) hx hb dX10_paste_49 (by decide +kernel) ?_
              exact z_iret (v := (-6)) hx hb hr hlocks hP hD hS dX10_paste_51 (Or.inr (Or.inl ⟨(by obtain ⟨_, _⟩ := zk_2; obtain ⟨_, _⟩ := zk_2; omega), (show (F 77 1).toInt = -1 ∨ (F 77 1).toInt = -1 from (by have e0 : (I 77 1).toInt = (F 77 1).toInt := congrArg Int32.toInt (xFr hI 77 1 rfl); have e1 : (I 77 1).toInt = (F 77 1).toInt := congrArg Int32.toInt (xFr hI 77 1 rfl); have e2 : (I 77 0).toInt = (F 77 0).toInt := congrArg Int32.toInt (xFr hI 77 0 rfl); have e3 : (I 77 0).toInt = (F 77 0).toInt := congrArg Int32.toInt (xFr hI 77 0 rfl); have _ := nn_99; have _ := nn_99; omega)), rfl, hI⟩))
          · cases hu_97
            refine lv_if_eq (tgt := 49) hx hb dX10_paste_38 (by decide) (fun _ => ?_) (fun c_0 => absurd (zD_eq zk_0 zk_z) c_0)
            refine lv_bipush (v := (-6)) hx hb dX10_paste_49 (by decide +kernel) ?_
            exact z_iret (v := (-6)) hx hb hr hlocks hP hD hS dX10_paste_51 (Or.inr (Or.inl ⟨(by obtain ⟨_, _⟩ := zk_2; obtain ⟨_, _⟩ := zk_2; omega), (show (F 77 1).toInt = -1 ∨ (F 77 1).toInt = -1 from (by have e0 : (I 77 1).toInt = (F 77 1).toInt := congrArg Int32.toInt (xFr hI 77 1 rfl); have e1 : (I 77 1).toInt = (F 77 1).toInt := congrArg Int32.toInt (xFr hI 77 1 rfl); have e2 : (I 77 0).toInt = (F 77 0).toInt := congrArg Int32.toInt (xFr hI 77 0 rfl); have e3 : (I 77 0).toInt = (F 77 0).toInt := congrArg Int32.toInt (xFr hI 77 0 rfl); have _ := nn_97; have _ := nn_97; omega)), rfl, hI⟩))
        · refine va_aldq hx hb hK hP 72 52 (zw_at (by decide) rfl) rfl (vp_in_nI (by decide) (by decide)) dX10_paste_30 ?_
          refine W.eq (g2 := F0 m 31 ls (.ref (q 79) :: [])) rfl ?_
          refine lv_astore (lv' := [(7, .ref (q 79)), (6, .ref (q 77)), (0, .ref (q 0)), (1, .int (nI 2)), (2, .int (pa1)), (3, .int (nI 3)), (4, .int (pa3)), (5, .int (pa4))]) hx hb dX10_paste_31 hl (by decide) rfl (fun ls hl => ?_)
          refine lv_aload hx hb dX10_paste_33 (lv_at hl 1 rfl) ?_
          refine z_callVi (k := 77) (As := []) (rest := []) hx hb hml hown ht (xk_X6_isThere_2 l D q cA F _ _ _ hI ) hw_5_63 hmX6_isThere ⟨rfl, rfl⟩ (na := 0) rfl (by decide +kernel) (by decide) (by decide) rfl rfl hK hP hD hS hA hl.1 rfl (Nat.le_of_ble_eq_true rfl) ⟨Nat.zero_le _, Nat.zero_le _⟩ dX10_paste_35 (fun r_106 I_106 R_106 J_106 H locs hp_106 hP hD hS _ _ => ?_)
          rcases hp_106 with ⟨rfl, hu_106, nn_106⟩ | ⟨rfl, hu_106, nn_106⟩
          · cases hu_106
            have f_107 : zR 0 60 (I 77 1) := x_there (xI hI 77 1) nn_106
            refine lv_if_eq (tgt := 49) hx hb dX10_paste_38 (by decide) (fun c_0 => absurd c_0 (zD_ne zk_1 zk_z (by decide))) (fun _ => ?_)
            refine lv_aload hx hb dX10_paste_41 (lv_at hl 0 rfl) ?_
            refine z_callVi (k := 79) (As := []) (rest := []) hx hb hml hown ht (xk_X6_isThere_3 l D q cA F _ _ _ hI ) hw_5_63 hmX6_isThere ⟨rfl, rfl⟩ (na := 0) rfl (by decide +kernel) (by decide) (by decide) rfl rfl hK hP hD hS hA hl.1 rfl (Nat.le_of_ble_eq_true rfl) ⟨Nat.zero_le _, Nat.zero_le _⟩ dX10_paste_43 (fun r_108 I_108 R_108 J_108 H locs hp_108 hP hD hS _ _ => ?_)
            rcases hp_108 with ⟨rfl, hu_108, nn_108⟩ | ⟨rfl, hu_108, nn_108⟩
            · cases hu_108
              have f_109 : zR 0 60 (I 79 1) := x_there (xI hI 79 1) nn_108
              refine lv_if_ne (tgt := 52) hx hb dX10_paste_46 (by decide) (fun _ => ?_) (fun c_0 => absurd c_0 (zD_ne zk_1 zk_z (by decide)))
              refine lv_aload hx hb dX10_paste_52 (lv_at hl 1 rfl) ?_
              refine z_get hx hb ht hown hK hP ziX6 rfl 77 (by decide) 0 (by decide) hw_2_78 rfl (v := .int (I 77 0)) rfl dX10_paste_54 ?_
              refine lv_aload hx hb dX10_paste_57 (lv_at hl 0 rfl) ?_
              refine z_get hx hb ht hown hK hP ziX6 rfl 79 (by decide) 0 (by decide) hw_2_78 rfl (v := .int (I 79 0)) rfl dX10_paste_59 ?_
              refine lv_icmp_eq (tgt := 68) hx hb dX10_paste_62 (by decide) (fun c_110 => ?_) (fun c_110 => ?_)
              · have t_c_110 := z_eqT c_110
                refine lv_aload hx hb dX10_paste_68 (lv_at hl 1 rfl) ?_
                refine lv_iload_n hx hb dX10_paste_70 rfl (lv_at hl 4 rfl) ?_
                refine lv_iload hx hb dX10_paste_71 (lv_at hl 7 rfl) ?_
                refine z_callVi (k := 77) (As := [.int (pa1), .int (pa4)]) (rest := []) hx hb hml hown ht (xk_X6_spans_2 l D q cA F _ _ _ hI (pa1) (pa4)) hw_5_177 hmX6_spans ⟨rfl, rfl⟩ (na := 2) rfl (by decide +kernel) (by decide) (by decide) rfl rfl hK hP hD hS hA hl.1 rfl (Nat.le_of_ble_eq_true rfl) ⟨Nat.zero_le _, Nat.zero_le _⟩ dX10_paste_73 (fun r_111 I_111 R_111 J_111 H locs hp_111 hP hD hS _ _ => ?_)
                rcases hp_111 with ⟨rfl, hu_111, nn_111⟩ | ⟨rfl, hu_111, nn_111⟩
                · cases hu_111
                  refine lv_if_eq (tgt := 91) hx hb dX10_paste_76 (by decide) (fun c_0 => absurd c_0 (zD_ne zk_1 zk_z (by decide))) (fun _ => ?_)
                  refine lv_aload hx hb dX10_paste_79 (lv_at hl 0 rfl) ?_
                  refine lv_iload hx hb dX10_paste_81 (lv_at hl 6 rfl) ?_
                  refine lv_iload hx hb dX10_paste_83 (lv_at hl 7 rfl) ?_
                  refine z_callVi (k := 79) (As := [.int (pa3), .int (pa4)]) (rest := []) hx hb hml hown ht (xk_X6_spans_3 l D q cA F _ _ _ hI (pa3) (pa4)) hw_5_177 hmX6_spans ⟨rfl, rfl⟩ (na := 2) rfl (by decide +kernel) (by decide) (by decide) rfl rfl hK hP hD hS hA hl.1 rfl (Nat.le_of_ble_eq_true rfl) ⟨Nat.zero_le _, Nat.zero_le _⟩ dX10_paste_85 (fun r_112 I_112 R_112 J_112 H locs hp_112 hP hD hS _ _ => ?_)
                  rcases hp_112 with ⟨rfl, hu_112, nn_112⟩ | ⟨rfl, hu_112, nn_112⟩
                  · cases hu_112
                    refine lv_if_ne (tgt := 94) hx hb dX10_paste_88 (by decide) (fun _ => ?_) (fun c_0 => absurd c_0 (zD_ne zk_1 zk_z (by decide)))
                    refine lv_aload hx hb dX10_paste_94 (lv_at hl 1 rfl) ?_
                    refine z_get hx hb ht hown hK hP ziX6 rfl 77 (by decide) 2 (by decide) hw_2_84 rfl (v := .ref (q 78)) rfl dX10_paste_96 ?_
                    refine lv_iload_n hx hb dX10_paste_99 rfl (lv_at hl 4 rfl) ?_
                    refine lv_aload hx hb dX10_paste_100 (lv_at hl 0 rfl) ?_
                    refine z_get hx hb ht hown hK hP ziX6 rfl 79 (by decide) 2 (by decide) hw_2_84 rfl (v := .ref (q 80)) rfl dX10_paste_102 ?_
                    refine lv_iload hx hb dX10_paste_105 (lv_at hl 6 rfl) ?_
                    refine lv_iload hx hb dX10_paste_107 (lv_at hl 7 rfl) ?_
                    refine z_copyl hx hb (hml.trans hl.1.symm) ht hown hw_5_181 ⟨hw_3_44, hw_3_43, hw_1_18⟩ hK hP hD hS 78 80 (by decide) (by decide) 55 56 rfl (fun _ => rfl) rfl rfl (x_nn nn_111.1) (x_nn nn_112.1) (x_nn nn_111.2.1) (x_cp nn_111 (xI hI 77 1).2) (x_cp nn_112 (xI hI 79 1).2) (by decide) (by decide +kernel) dX10_paste_109 (fun g_113 H locs eg_113 hP hD hS => ?_)
                    have hI_114 := xInv_J (J2 := (zr J 80 g_113)) hI
                    refine lv_iconst (v := nI 0) hx hb dX10_paste_112 (by decide +kernel) ?_
                    exact z_iret (v := nI 0) hx hb hr hlocks hP hD hS dX10_paste_113 (Or.inr (Or.inr (Or.inr (Or.inr ⟨(by obtain ⟨_, _⟩ := zk_2; obtain ⟨_, _⟩ := zk_3; omega), (show (F 77 1).toInt ≠ -1 ∧ (F 79 1).toInt ≠ -1 from (by have e0 : (I 77 1).toInt = (F 77 1).toInt := congrArg Int32.toInt (xFr hI 77 1 rfl); have e1 : (I 79 1).toInt = (F 79 1).toInt := congrArg Int32.toInt (xFr hI 79 1 rfl); have e2 : (I 77 0).toInt = (F 77 0).toInt := congrArg Int32.toInt (xFr hI 77 0 rfl); have e3 : (I 79 0).toInt = (F 79 0).toInt := congrArg Int32.toInt (xFr hI 79 0 rfl); have _ := nn_106; have _ := nn_108; omega)), (show (F 77 0).toInt = (F 79 0).toInt from (by have e0 : (I 77 1).toInt = (F 77 1).toInt := congrArg Int32.toInt (xFr hI 77 1 rfl); have e1 : (I 79 1).toInt = (F 79 1).toInt := congrArg Int32.toInt (xFr hI 79 1 rfl); have e2 : (I 77 0).toInt = (F 77 0).toInt := congrArg Int32.toInt (xFr hI 77 0 rfl); have e3 : (I 79 0).toInt = (F 79 0).toInt := congrArg Int32.toInt (xFr hI 79 0 rfl); have _ := t_c_110; omega)), (show 0 ≤ pa1.toInt ∧ 0 ≤ pa3.toInt ∧ 0 ≤ pa4.toInt ∧ pa1.toInt + pa4.toInt ≤ (F 77 1).toInt ∧ pa3.toInt + pa4.toInt ≤ (F 79 1).toInt from (by have e0 : (I 77 1).toInt = (F 77 1).toInt := congrArg Int32.toInt (xFr hI 77 1 rfl); have e1 : (I 79 1).toInt = (F 79 1).toInt := congrArg Int32.toInt (xFr hI 79 1 rfl); have e2 : (I 77 0).toInt = (F 77 0).toInt := congrArg Int32.toInt (xFr hI 77 0 rfl); have e3 : (I 79 0).toInt = (F 79 0).toInt := congrArg Int32.toInt (xFr hI 79 0 rfl); have _ := nn_111; have _ := nn_112; omega)), rfl, hI_114⟩))))
                  · cases hu_112
                    refine lv_if_ne (tgt := 94) hx hb dX10_paste_88 (by decide) (fun c_0 => absurd (zD_eq zk_0 zk_z) c_0) (fun _ => ?_)
                    refine lv_bipush (v := (-7)) hx hb dX10_paste_91 (by decide +kernel) ?_
                    exact z_iret (v := (-7)) hx hb hr hlocks hP hD hS dX10_paste_93 (Or.inr (Or.inr (Or.inr (Or.inl ⟨(by obtain ⟨_, _⟩ := zk_2; obtain ⟨_, _⟩ := zk_3; omega), (show (F 77 1).toInt ≠ -1 ∧ (F 79 1).toInt ≠ -1 from (by have e0 : (I 77 1).toInt = (F 77 1).toInt := congrArg Int32.toInt (xFr hI 77 1 rfl); have e1 : (I 79 1).toInt = (F 79 1).toInt := congrArg Int32.toInt (xFr hI 79 1 rfl); have e2 : (I 77 0).toInt = (F 77 0).toInt := congrArg Int32.toInt (xFr hI 77 0 rfl); have e3 : (I 79 0).toInt = (F 79 0).toInt := congrArg Int32.toInt (xFr hI 79 0 rfl); have _ := nn_106; have _ := nn_108; omega)), (show (F 77 0).toInt = (F 79 0).toInt from (by have e0 : (I 77 1).toInt = (F 77 1).toInt := congrArg Int32.toInt (xFr hI 77 1 rfl); have e1 : (I 79 1).toInt = (F 79 1).toInt := congrArg Int32.toInt (xFr hI 79 1 rfl); have e2 : (I 77 0).toInt = (F 77 0).toInt := congrArg Int32.toInt (xFr hI 77 0 rfl); have e3 : (I 79 0).toInt = (F 79 0).toInt := congrArg Int32.toInt (xFr hI 79 0 rfl); have _ := t_c_110; omega)), (show ¬ (0 ≤ pa1.toInt ∧ 0 ≤ pa3.toInt ∧ 0 ≤ pa4.toInt ∧ pa1.toInt + pa4.toInt ≤ (F 77 1).toInt ∧ pa3.toInt + pa4.toInt ≤ (F 79 1).toInt) from (by have e0 : (I 77 1).toInt = (F 77 1).toInt := congrArg Int32.toInt (xFr hI 77 1 rfl); have e1 : (I 79 1).toInt = (F 79 1).toInt := congrArg Int32.toInt (xFr hI 79 1 rfl); have e2 : (I 77 0).toInt = (F 77 0).toInt := congrArg Int32.toInt (xFr hI 77 0 rfl); have e3 : (I 79 0).toInt = (F 79 0).toInt := congrArg Int32.toInt (xFr hI 79 0 rfl); have _ := nn_111; have _ := nn_112; omega)), rfl, hI⟩))))
                · cases hu_111
                  refine lv_if_eq (tgt := 91) hx hb dX10_paste_76 (by decide) (fun _ => ?_) (fun c_0 => absurd (zD_eq zk_0 zk_z) c_0)
                  refine lv_bipush (v := (-7)) hx hb dX10_paste_91 (by decide +kernel) ?_
                  exact z_iret (v := (-7)) hx hb hr hlocks hP hD hS dX10_paste_93 (Or.inr (Or.inr (Or.inr (Or.inl ⟨(by obtain ⟨_, _⟩ := zk_2; obtain ⟨_, _⟩ := zk_3; omega), (show (F 77 1).toInt ≠ -1 ∧ (F 79 1).toInt ≠ -1 from (by have e0 : (I 77 1).toInt = (F 77 1).toInt := congrArg Int32.toInt (xFr hI 77 1 rfl); have e1 : (I 79 1).toInt = (F 79 1).toInt := congrArg Int32.toInt (xFr hI 79 1 rfl); have e2 : (I 77 0).toInt = (F 77 0).toInt := congrArg Int32.toInt (xFr hI 77 0 rfl); have e3 : (I 79 0).toInt = (F 79 0).toInt := congrArg Int32.toInt (xFr hI 79 0 rfl); have _ := nn_106; have _ := nn_108; omega)), (show (F 77 0).toInt = (F 79 0).toInt from (by have e0 : (I 77 1).toInt = (F 77 1).toInt := congrArg Int32.toInt (xFr hI 77 1 rfl); have e1 : (I 79 1).toInt = (F 79 1).toInt := congrArg Int32.toInt (xFr hI 79 1 rfl); have e2 : (I 77 0).toInt = (F 77 0).toInt := congrArg Int32.toInt (xFr hI 77 0 rfl); have e3 : (I 79 0).toInt = (F 79 0).toInt := congrArg Int32.toInt (xFr hI 79 0 rfl); have _ := t_c_110; omega)), (show ¬ (0 ≤ pa1.toInt ∧ 0 ≤ pa3.toInt ∧ 0 ≤ pa4.toInt ∧ pa1.toInt + pa4.toInt ≤ (F 77 1).toInt ∧ pa3.toInt + pa4.toInt ≤ (F 79 1).toInt) from (by have e0 : (I 77 1).toInt = (F 77 1).toInt := congrArg Int32.toInt (xFr hI 77 1 rfl); have e1 : (I 79 1).toInt = (F 79 1).toInt := congrArg Int32.toInt (xFr hI 79 1 rfl); have e2 : (I 77 0).toInt = (F 77 0).toInt := congrArg Int32.toInt (xFr hI 77 0 rfl); have e3 : (I 79 0).toInt = (F 79 0).toInt := congrArg Int32.toInt (xFr hI 79 0 rfl); have _ := nn_111; omega)), rfl, hI⟩))))
              · have t_c_110 := z_eqF c_110
                refine lv_bipush (v := (-8)) hx hb dX10_paste_65 (by decide +kernel) ?_
                exact z_iret (v := (-8)) hx hb hr hlocks hP hD hS dX10_paste_67 (Or.inr (Or.inr (Or.inl ⟨(by obtain ⟨_, _⟩ := zk_2; obtain ⟨_, _⟩ := zk_3; omega), (show (F 77 1).toInt ≠ -1 ∧ (F 79 1).toInt ≠ -1 from (by have e0 : (I 77 1).toInt = (F 77 1).toInt := congrArg Int32.toInt (xFr hI 77 1 rfl); have e1 : (I 79 1).toInt = (F 79 1).toInt := congrArg Int32.toInt (xFr hI 79 1 rfl); have e2 : (I 77 0).toInt = (F 77 0).toInt := congrArg Int32.toInt (xFr hI 77 0 rfl); have e3 : (I 79 0).toInt = (F 79 0).toInt := congrArg Int32.toInt (xFr hI 79 0 rfl); have _ := nn_106; have _ := nn_108; omega)), (show (F 77 0).toInt ≠ (F 79 0).toInt from (by have e0 : (I 77 1).toInt = (F 77 1).toInt := congrArg Int32.toInt (xFr hI 77 1 rfl); have e1 : (I 79 1).toInt = (F 79 1).toInt := congrArg Int32.toInt (xFr hI 79 1 rfl); have e2 : (I 77 0).toInt = (F 77 0).toInt := congrArg Int32.toInt (xFr hI 77 0 rfl); have e3 : (I 79 0).toInt = (F 79 0).toInt := congrArg Int32.toInt (xFr hI 79 0 rfl); have _ := t_c_110; omega)), rfl, hI⟩)))
            · cases hu_108
              refine lv_if_ne (tgt := 52) hx hb dX10_paste_46 (by decide) (fun c_0 => absurd (zD_eq zk_0 zk_z) c_0) (fun _ => ?_)
              refine lv_bipush (v := (-6)) hx hb dX10_paste_49 (by decide +kernel) ?_
              exact z_iret (v := (-6)) hx hb hr hlocks hP hD hS dX10_paste_51 (Or.inr (Or.inl ⟨(by obtain ⟨_, _⟩ := zk_2; obtain ⟨_, _⟩ := zk_3; omega), (show (F 77 1).toInt = -1 ∨ (F 79 1).toInt = -1 from (by have e0 : (I 77 1).toInt = (F 77 1).toInt := congrArg Int32.toInt (xFr hI 77 1 rfl); have e1 : (I 79 1).toInt = (F 79 1).toInt := congrArg Int32.toInt (xFr hI 79 1 rfl); have e2 : (I 77 0).toInt = (F 77 0).toInt := congrArg Int32.toInt (xFr hI 77 0 rfl); have e3 : (I 79 0).toInt = (F 79 0).toInt := congrArg Int32.toInt (xFr hI 79 0 rfl); have _ := nn_106; have _ := nn_108; omega)), rfl, hI⟩))
          · cases hu_106
            refine lv_if_eq (tgt := 49) hx hb dX10_paste_38 (by decide) (fun _ => ?_) (fun c_0 => absurd (zD_eq zk_0 zk_z) c_0)
            refine lv_bipush (v := (-6)) hx hb dX10_paste_49 (by decide +kernel) ?_
            exact z_iret (v := (-6)) hx hb hr hlocks hP hD hS dX10_paste_51 (Or.inr (Or.inl ⟨(by obtain ⟨_, _⟩ := zk_2; obtain ⟨_, _⟩ := zk_3; omega), (show (F 77 1).toInt = -1 ∨ (F 79 1).toInt = -1 from (by have e0 : (I 77 1).toInt = (F 77 1).toInt := congrArg Int32.toInt (xFr hI 77 1 rfl); have e1 : (I 79 1).toInt = (F 79 1).toInt := congrArg Int32.toInt (xFr hI 79 1 rfl); have e2 : (I 77 0).toInt = (F 77 0).toInt := congrArg Int32.toInt (xFr hI 77 0 rfl); have e3 : (I 79 0).toInt = (F 79 0).toInt := congrArg Int32.toInt (xFr hI 79 0 rfl); have _ := nn_106; omega)), rfl, hI⟩))
      · refine va_aldq hx hb hK hP 72 52 (zw_at (by decide) rfl) rfl (vp_in_nI (by decide) (by decide)) dX10_paste_22 ?_
        refine W.eq (g2 := F0 m 23 ls (.ref (q 79) :: [])) rfl ?_
        refine lv_astore (lv' := [(6, .ref (q 79)), (0, .ref (q 0)), (1, .int (nI 3)), (2, .int (pa1)), (3, .int (pa2)), (4, .int (pa3)), (5, .int (pa4))]) hx hb dX10_paste_23 hl (by decide) rfl (fun ls hl => ?_)
        refine lv_aload_n hx hb dX10_paste_25 rfl (lv_at hl 1 rfl) ?_
        refine z_get hx hb ht hown hK hP ziX10 rfl 0 (by decide) 11 (by decide) hw_2_104 rfl (v := .ref (q 72)) rfl dX10_paste_26 ?_
        refine lv_iload_n hx hb dX10_paste_29 rfl (lv_at hl 4 rfl) ?_
        obtain ⟨n_115, hn_115, rfl⟩ := z_ex (x := pa2) (N := 4) (zR_w f0_2 (a' := 0) (b' := 3) (by decide)).1 (Int.lt_of_le_of_lt (zR_w f0_2 (a' := 0) (b' := 3) (by decide)).2 (by decide))
        rcases (show n_115 = 0 ∨ n_115 = 1 ∨ n_115 = 2 ∨ n_115 = 3 by omega) with rfl | rfl | rfl | rfl
        · refine va_aldq hx hb hK hP 72 52 (zw_at (by decide) rfl) rfl (vp_in_nI (by decide) (by decide)) dX10_paste_30 ?_
          refine W.eq (g2 := F0 m 31 ls (.ref (q 73) :: [])) rfl ?_
          refine lv_astore (lv' := [(7, .ref (q 73)), (6, .ref (q 79)), (0, .ref (q 0)), (1, .int (nI 3)), (2, .int (pa1)), (3, .int (nI 0)), (4, .int (pa3)), (5, .int (pa4))]) hx hb dX10_paste_31 hl (by decide) rfl (fun ls hl => ?_)
          refine lv_aload hx hb dX10_paste_33 (lv_at hl 1 rfl) ?_
          refine z_callVi (k := 79) (As := []) (rest := []) hx hb hml hown ht (xk_X6_isThere_3 l D q cA F _ _ _ hI ) hw_5_63 hmX6_isThere ⟨rfl, rfl⟩ (na := 0) rfl (by decide +kernel) (by decide) (by decide) rfl rfl hK hP hD hS hA hl.1 rfl (Nat.le_of_ble_eq_true rfl) ⟨Nat.zero_le _, Nat.zero_le _⟩ dX10_paste_35 (fun r_116 I_116 R_116 J_116 H locs hp_116 hP hD hS _ _ => ?_)
          rcases hp_116 with ⟨rfl, hu_116, nn_116⟩ | ⟨rfl, hu_116, nn_116⟩
          · cases hu_116
            have f_117 : zR 0 60 (I 79 1) := x_there (xI hI 79 1) nn_116
            refine lv_if_eq (tgt := 49) hx hb dX10_paste_38 (by decide) (fun c_0 => absurd c_0 (zD_ne zk_1 zk_z (by decide))) (fun _ => ?_)
            refine lv_aload hx hb dX10_paste_41 (lv_at hl 0 rfl) ?_
            refine z_callVi (k := 73) (As := []) (rest := []) hx hb hml hown ht (xk_X6_isThere l D q cA F _ _ _ hI ) hw_5_63 hmX6_isThere ⟨rfl, rfl⟩ (na := 0) rfl (by decide +kernel) (by decide) (by decide) rfl rfl hK hP hD hS hA hl.1 rfl (Nat.le_of_ble_eq_true rfl) ⟨Nat.zero_le _, Nat.zero_le _⟩ dX10_paste_43 (fun r_118 I_118 R_118 J_118 H locs hp_118 hP hD hS _ _ => ?_)
            rcases hp_118 with ⟨rfl, hu_118, nn_118⟩ | ⟨rfl, hu_118, nn_118⟩
            · cases hu_118
              have f_119 : zR 0 60 (I 73 1) := x_there (xI hI 73 1) nn_118
              refine lv_if_ne (tgt := 52) hx hb dX10_paste_46 (by decide) (fun _ => ?_) (fun c_0 => absurd c_0 (zD_ne zk_1 zk_z (by decide)))
              refine lv_aload hx hb dX10_paste_52 (lv_at hl 1 rfl) ?_
              refine z_get hx hb ht hown hK hP ziX6 rfl 79 (by decide) 0 (by decide) hw_2_78 rfl (v := .int (I 79 0)) rfl dX10_paste_54 ?_
              refine lv_aload hx hb dX10_paste_57 (lv_at hl 0 rfl) ?_
              refine z_get hx hb ht hown hK hP ziX6 rfl 73 (by decide) 0 (by decide) hw_2_78 rfl (v := .int (I 73 0)) rfl dX10_paste_59 ?_
              refine lv_icmp_eq (tgt := 68) hx hb dX10_paste_62 (by decide) (fun c_120 => ?_) (fun c_120 => ?_)
              · have t_c_120 := z_eqT c_120
                refine lv_aload hx hb dX10_paste_68 (lv_at hl 1 rfl) ?_
                refine lv_iload_n hx hb dX10_paste_70 rfl (lv_at hl 4 rfl) ?_
                refine lv_iload hx hb dX10_paste_71 (lv_at hl 7 rfl) ?_
                refine z_callVi (k := 79) (As := [.int (pa1), .int (pa4)]) (rest := []) hx hb hml hown ht (xk_X6_spans_3 l D q cA F _ _ _ hI (pa1) (pa4)) hw_5_177 hmX6_spans ⟨rfl, rfl⟩ (na := 2) rfl (by decide +kernel) (by decide) (by decide) rfl rfl hK hP hD hS hA hl.1 rfl (Nat.le_of_ble_eq_true rfl) ⟨Nat.zero_le _, Nat.zero_le _⟩ dX10_paste_73 (fun r_121 I_121 R_121 J_121 H locs hp_121 hP hD hS _ _ => ?_)
                rcases hp_121 with ⟨rfl, hu_121, nn_121⟩ | ⟨rfl, hu_121, nn_121⟩
                · cases hu_121
                  refine lv_if_eq (tgt := 91) hx hb dX10_paste_76 (by decide) (fun c_0 => absurd c_0 (zD_ne zk_1 zk_z (by decide))) (fun _ => ?_)
                  refine lv_aload hx hb dX10_paste_79 (lv_at hl 0 rfl) ?_
                  refine lv_iload hx hb dX10_paste_81 (lv_at hl 6 rfl) ?_
                  refine lv_iload hx hb dX10_paste_83 (lv_at hl 7 rfl) ?_
                  refine z_callVi (k := 73) (As := [.int (pa3), .int (pa4)]) (rest := []) hx hb hml hown ht (xk_X6_spans l D q cA F _ _ _ hI (pa3) (pa4)) hw_5_177 hmX6_spans ⟨rfl, rfl⟩ (na := 2) rfl (by decide +kernel) (by decide) (by decide) rfl rfl hK hP hD hS hA hl.1 rfl (Nat.le_of_ble_eq_true rfl) ⟨Nat.zero_le _, Nat.zero_le _⟩ dX10_paste_85 (fun r_122 I_122 R_122 J_122 H locs hp_122 hP hD hS _ _ => ?_)
                  rcases hp_122 with ⟨rfl, hu_122, nn_122⟩ | ⟨rfl, hu_122, nn_122⟩
                  · cases hu_122
                    refine lv_if_ne (tgt := 94) hx hb dX10_paste_88 (by decide) (fun _ => ?_) (fun c_0 => absurd c_0 (zD_ne zk_1 zk_z (by decide)))
                    refine lv_aload hx hb dX10_paste_94 (lv_at hl 1 rfl) ?_
                    refine z_get hx hb ht hown hK hP ziX6 rfl 79 (by decide) 2 (by decide) hw_2_84 rfl (v := .ref (q 80)) rfl dX10_paste_96 ?_
                    refine lv_iload_n hx hb dX10_paste_99 rfl (lv_at hl 4 rfl) ?_
                    refine lv_aload hx hb dX10_paste_100 (lv_at hl 0 rfl) ?_
                    refine z_get hx hb ht hown hK hP ziX6 rfl 73 (by decide) 2 (by decide) hw_2_84 rfl (v := .ref (q 74)) rfl dX10_paste_102 ?_
                    refine lv_iload hx hb dX10_paste_105 (lv_at hl 6 rfl) ?_
                    refine lv_iload hx hb dX10_paste_107 (lv_at hl 7 rfl) ?_
                    refine z_copyl hx hb (hml.trans hl.1.symm) ht hown hw_5_181 ⟨hw_3_44, hw_3_43, hw_1_18⟩ hK hP hD hS 80 74 (by decide) (by decide) 56 53 rfl (fun _ => rfl) rfl rfl (x_nn nn_121.1) (x_nn nn_122.1) (x_nn nn_121.2.1) (x_cp nn_121 (xI hI 79 1).2) (x_cp nn_122 (xI hI 73 1).2) (by decide) (by decide +kernel) dX10_paste_109 (fun g_123 H locs eg_123 hP hD hS => ?_)
                    have hI_124 := xInv_J (J2 := (zr J 74 g_123)) hI
                    refine lv_iconst (v := nI 0) hx hb dX10_paste_112 (by decide +kernel) ?_
                    exact z_iret (v := nI 0) hx hb hr hlocks hP hD hS dX10_paste_113 (Or.inr (Or.inr (Or.inr (Or.inr ⟨(by obtain ⟨_, _⟩ := zk_3; obtain ⟨_, _⟩ := zk_0; omega), (show (F 79 1).toInt ≠ -1 ∧ (F 73 1).toInt ≠ -1 from (by have e0 : (I 79 1).toInt = (F 79 1).toInt := congrArg Int32.toInt (xFr hI 79 1 rfl); have e1 : (I 73 1).toInt = (F 73 1).toInt := congrArg Int32.toInt (xFr hI 73 1 rfl); have e2 : (I 79 0).toInt = (F 79 0).toInt := congrArg Int32.toInt (xFr hI 79 0 rfl); have e3 : (I 73 0).toInt = (F 73 0).toInt := congrArg Int32.toInt (xFr hI 73 0 rfl); have _ := nn_116; have _ := nn_118; omega)), (show (F 79 0).toInt = (F 73 0).toInt from (by have e0 : (I 79 1).toInt = (F 79 1).toInt := congrArg Int32.toInt (xFr hI 79 1 rfl); have e1 : (I 73 1).toInt = (F 73 1).toInt := congrArg Int32.toInt (xFr hI 73 1 rfl); have e2 : (I 79 0).toInt = (F 79 0).toInt := congrArg Int32.toInt (xFr hI 79 0 rfl); have e3 : (I 73 0).toInt = (F 73 0).toInt := congrArg Int32.toInt (xFr hI 73 0 rfl); have _ := t_c_120; omega)), (show 0 ≤ pa1.toInt ∧ 0 ≤ pa3.toInt ∧ 0 ≤ pa4.toInt ∧ pa1.toInt + pa4.toInt ≤ (F 79 1).toInt ∧ pa3.toInt + pa4.toInt ≤ (F 73 1).toInt from (by have e0 : (I 79 1).toInt = (F 79 1).toInt := congrArg Int32.toInt (xFr hI 79 1 rfl); have e1 : (I 73 1).toInt = (F 73 1).toInt := congrArg Int32.toInt (xFr hI 73 1 rfl); have e2 : (I 79 0).toInt = (F 79 0).toInt := congrArg Int32.toInt (xFr hI 79 0 rfl); have e3 : (I 73 0).toInt = (F 73 0).toInt := congrArg Int32.toInt (xFr hI 73 0 rfl); have _ := nn_121; have _ := nn_122; omega)), rfl, hI_124⟩))))
                  · cases hu_122
                    refine lv_if_ne (tgt := 94) hx hb dX10_paste_88 (by decide) (fun c_0 => absurd (zD_eq zk_0 zk_z) c_0) (fun _ => ?_)
                    refine lv_bipush (v := (-7)) hx hb dX10_paste_91 (by decide +kernel) ?_
                    exact z_iret (v := (-7)) hx hb hr hlocks hP hD hS dX10_paste_93 (Or.inr (Or.inr (Or.inr (Or.inl ⟨(by obtain ⟨_, _⟩ := zk_3; obtain ⟨_, _⟩ := zk_0; omega), (show (F 79 1).toInt ≠ -1 ∧ (F 73 1).toInt ≠ -1 from (by have e0 : (I 79 1).toInt = (F 79 1).toInt := congrArg Int32.toInt (xFr hI 79 1 rfl); have e1 : (I 73 1).toInt = (F 73 1).toInt := congrArg Int32.toInt (xFr hI 73 1 rfl); have e2 : (I 79 0).toInt = (F 79 0).toInt := congrArg Int32.toInt (xFr hI 79 0 rfl); have e3 : (I 73 0).toInt = (F 73 0).toInt := congrArg Int32.toInt (xFr hI 73 0 rfl); have _ := nn_116; have _ := nn_118; omega)), (show (F 79 0).toInt = (F 73 0).toInt from (by have e0 : (I 79 1).toInt = (F 79 1).toInt := congrArg Int32.toInt (xFr hI 79 1 rfl); have e1 : (I 73 1).toInt = (F 73 1).toInt := congrArg Int32.toInt (xFr hI 73 1 rfl); have e2 : (I 79 0).toInt = (F 79 0).toInt := congrArg Int32.toInt (xFr hI 79 0 rfl); have e3 : (I 73 0).toInt = (F 73 0).toInt := congrArg Int32.toInt (xFr hI 73 0 rfl); have _ := t_c_120; omega)), (show ¬ (0 ≤ pa1.toInt ∧ 0 ≤ pa3.toInt ∧ 0 ≤ pa4.toInt ∧ pa1.toInt + pa4.toInt ≤ (F 79 1).toInt ∧ pa3.toInt + pa4.toInt ≤ (F 73 1).toInt) from (by have e0 : (I 79 1).toInt = (F 79 1).toInt := congrArg Int32.toInt (xFr hI 79 1 rfl); have e1 : (I 73 1).toInt = (F 73 1).toInt := congrArg Int32.toInt (xFr hI 73 1 rfl); have e2 : (I 79 0).toInt = (F 79 0).toInt := congrArg Int32.toInt (xFr hI 79 0 rfl); have e3 : (I 73 0).toInt = (F 73 0).toInt := congrArg Int32.toInt (xFr hI 73 0 rfl); have _ := nn_121; have _ := nn_122; omega)), rfl, hI⟩))))
                · cases hu_121
                  refine lv_if_eq (tgt := 91) hx hb dX10_paste_76 (by decide) (fun _ => ?_) (fun c_0 => absurd (zD_eq zk_0 zk_z) c_0)
                  refine lv_bipush (v := (-7)) hx hb dX10_paste_91 (by decide +kernel) ?_
                  exact z_iret (v := (-7)) hx hb hr hlocks hP hD hS dX10_paste_93 (Or.inr (Or.inr (Or.inr (Or.inl ⟨(by obtain ⟨_, _⟩ := zk_3; obtain ⟨_, _⟩ := zk_0; omega), (show (F 79 1).toInt ≠ -1 ∧ (F 73 1).toInt ≠ -1 from (by have e0 : (I 79 1).toInt = (F 79 1).toInt := congrArg Int32.toInt (xFr hI 79 1 rfl); have e1 : (I 73 1).toInt = (F 73 1).toInt := congrArg Int32.toInt (xFr hI 73 1 rfl); have e2 : (I 79 0).toInt = (F 79 0).toInt := congrArg Int32.toInt (xFr hI 79 0 rfl); have e3 : (I 73 0).toInt = (F 73 0).toInt := congrArg Int32.toInt (xFr hI 73 0 rfl); have _ := nn_116; have _ := nn_118; omega)), (show (F 79 0).toInt = (F 73 0).toInt from (by have e0 : (I 79 1).toInt = (F 79 1).toInt := congrArg Int32.toInt (xFr hI 79 1 rfl); have e1 : (I 73 1).toInt = (F 73 1).toInt := congrArg Int32.toInt (xFr hI 73 1 rfl); have e2 : (I 79 0).toInt = (F 79 0).toInt := congrArg Int32.toInt (xFr hI 79 0 rfl); have e3 : (I 73 0).toInt = (F 73 0).toInt := congrArg Int32.toInt (xFr hI 73 0 rfl); have _ := t_c_120; omega)), (show ¬ (0 ≤ pa1.toInt ∧ 0 ≤ pa3.toInt ∧ 0 ≤ pa4.toInt ∧ pa1.toInt + pa4.toInt ≤ (F 79 1).toInt ∧ pa3.toInt + pa4.toInt ≤ (F 73 1).toInt) from (by have e0 : (I 79 1).toInt = (F 79 1).toInt := congrArg Int32.toInt (xFr hI 79 1 rfl); have e1 : (I 73 1).toInt = (F 73 1).toInt := congrArg Int32.toInt (xFr hI 73 1 rfl); have e2 : (I 79 0).toInt = (F 79 0).toInt := congrArg Int32.toInt (xFr hI 79 0 rfl); have e3 : (I 73 0).toInt = (F 73 0).toInt := congrArg Int32.toInt (xFr hI 73 0 rfl); have _ := nn_121; omega)), rfl, hI⟩))))
              · have t_c_120 := z_eqF c_120
                refine lv_bipush (v := (-8)) hx hb dX10_paste_65 (by decide +kernel) ?_
                exact z_iret (v := (-8)) hx hb hr hlocks hP hD hS dX10_paste_67 (Or.inr (Or.inr (Or.inl ⟨(by obtain ⟨_, _⟩ := zk_3; obtain ⟨_, _⟩ := zk_0; omega), (show (F 79 1).toInt ≠ -1 ∧ (F 73 1).toInt ≠ -1 from (by have e0 : (I 79 1).toInt = (F 79 1).toInt := congrArg Int32.toInt (xFr hI 79 1 rfl); have e1 : (I 73 1).toInt = (F 73 1).toInt := congrArg Int32.toInt (xFr hI 73 1 rfl); have e2 : (I 79 0).toInt = (F 79 0).toInt := congrArg Int32.toInt (xFr hI 79 0 rfl); have e3 : (I 73 0).toInt = (F 73 0).toInt := congrArg Int32.toInt (xFr hI 73 0 rfl); have _ := nn_116; have _ := nn_118; omega)), (show (F 79 0).toInt ≠ (F 73 0).toInt from (by have e0 : (I 79 1).toInt = (F 79 1).toInt := congrArg Int32.toInt (xFr hI 79 1 rfl); have e1 : (I 73 1).toInt = (F 73 1).toInt := congrArg Int32.toInt (xFr hI 73 1 rfl); have e2 : (I 79 0).toInt = (F 79 0).toInt := congrArg Int32.toInt (xFr hI 79 0 rfl); have e3 : (I 73 0).toInt = (F 73 0).toInt := congrArg Int32.toInt (xFr hI 73 0 rfl); have _ := t_c_120; omega)), rfl, hI⟩)))
            · cases hu_118
              refine lv_if_ne (tgt := 52) hx hb dX10_paste_46 (by decide) (fun c_0 => absurd (zD_eq zk_0 zk_z) c_0) (fun _ => ?_)
              refine lv_bipush (v := (-6)) hx hb dX10_paste_49 (by decide +kernel) ?_
              exact z_iret (v := (-6)) hx hb hr hlocks hP hD hS dX10_paste_51 (Or.inr (Or.inl ⟨(by obtain ⟨_, _⟩ := zk_3; obtain ⟨_, _⟩ := zk_0; omega), (show (F 79 1).toInt = -1 ∨ (F 73 1).toInt = -1 from (by have e0 : (I 79 1).toInt = (F 79 1).toInt := congrArg Int32.toInt (xFr hI 79 1 rfl); have e1 : (I 73 1).toInt = (F 73 1).toInt := congrArg Int32.toInt (xFr hI 73 1 rfl); have e2 : (I 79 0).toInt = (F 79 0).toInt := congrArg Int32.toInt (xFr hI 79 0 rfl); have e3 : (I 73 0).toInt = (F 73 0).toInt := congrArg Int32.toInt (xFr hI 73 0 rfl); have _ := nn_116; have _ := nn_118; omega)), rfl, hI⟩))
          · cases hu_116
            refine lv_if_eq (tgt := 49) hx hb dX10_paste_38 (by decide) (fun _ => ?_) (fun c_0 => absurd (zD_eq zk_0 zk_z) c_0)
            refine lv_bipush (v := (-6)) hx hb dX10_paste_49 (by decide +kernel) ?_
            exact z_iret (v := (-6)) hx hb hr hlocks hP hD hS dX10_paste_51 (Or.inr (Or.inl ⟨(by obtain ⟨_, _⟩ := zk_3; obtain ⟨_, _⟩ := zk_0; omega), (show (F 79 1).toInt = -1 ∨ (F 73 1).toInt = -1 from (by have e0 : (I 79 1).toInt = (F 79 1).toInt := congrArg Int32.toInt (xFr hI 79 1 rfl); have e1 : (I 73 1).toInt = (F 73 1).toInt := congrArg Int32.toInt (xFr hI 73 1 rfl); have e2 : (I 79 0).toInt = (F 79 0).toInt := congrArg Int32.toInt (xFr hI 79 0 rfl); have e3 : (I 73 0).toInt = (F 73 0).toInt := congrArg Int32.toInt (xFr hI 73 0 rfl); have _ := nn_116; omega)), rfl, hI⟩))
        · refine va_aldq hx hb hK hP 72 52 (zw_at (by decide) rfl) rfl (vp_in_nI (by decide) (by decide)) dX10_paste_30 ?_
          refine W.eq (g2 := F0 m 31 ls (.ref (q 75) :: [])) rfl ?_
          refine lv_astore (lv' := [(7, .ref (q 75)), (6, .ref (q 79)), (0, .ref (q 0)), (1, .int (nI 3)), (2, .int (pa1)), (3, .int (nI 1)), (4, .int (pa3)), (5, .int (pa4))]) hx hb dX10_paste_31 hl (by decide) rfl (fun ls hl => ?_)
          refine lv_aload hx hb dX10_paste_33 (lv_at hl 1 rfl) ?_
          refine z_callVi (k := 79) (As := []) (rest := []) hx hb hml hown ht (xk_X6_isThere_3 l D q cA F _ _ _ hI ) hw_5_63 hmX6_isThere ⟨rfl, rfl⟩ (na := 0) rfl (by decide +kernel) (by decide) (by decide) rfl rfl hK hP hD hS hA hl.1 rfl (Nat.le_of_ble_eq_true rfl) ⟨Nat.zero_le _, Nat.zero_le _⟩ dX10_paste_35 (fun r_125 I_125 R_125 J_125 H locs hp_125 hP hD hS _ _ => ?_)
          rcases hp_125 with ⟨rfl, hu_125, nn_125⟩ | ⟨rfl, hu_125, nn_125⟩
          · cases hu_125
            have f_126 : zR 0 60 (I 79 1) := x_there (xI hI 79 1) nn_125
            refine lv_if_eq (tgt := 49) hx hb dX10_paste_38 (by decide) (fun c_0 => absurd c_0 (zD_ne zk_1 zk_z (by decide))) (fun _ => ?_)
            refine lv_aload hx hb dX10_paste_41 (lv_at hl 0 rfl) ?_
            refine z_callVi (k := 75) (As := []) (rest := []) hx hb hml hown ht (xk_X6_isThere_1 l D q cA F _ _ _ hI ) hw_5_63 hmX6_isThere ⟨rfl, rfl⟩ (na := 0) rfl (by decide +kernel) (by decide) (by decide) rfl rfl hK hP hD hS hA hl.1 rfl (Nat.le_of_ble_eq_true rfl) ⟨Nat.zero_le _, Nat.zero_le _⟩ dX10_paste_43 (fun r_127 I_127 R_127 J_127 H locs hp_127 hP hD hS _ _ => ?_)
            rcases hp_127 with ⟨rfl, hu_127, nn_127⟩ | ⟨rfl, hu_127, nn_127⟩
            · cases hu_127
              have f_128 : zR 0 60 (I 75 1) := x_there (xI hI 75 1) nn_127
              refine lv_if_ne (tgt := 52) hx hb dX10_paste_46 (by decide) (fun _ => ?_) (fun c_0 => absurd c_0 (zD_ne zk_1 zk_z (by decide)))
              refine lv_aload hx hb dX10_paste_52 (lv_at hl 1 rfl) ?_
              refine z_get hx hb ht hown hK hP ziX6 rfl 79 (by decide) 0 (by decide) hw_2_78 rfl (v := .int (I 79 0)) rfl dX10_paste_54 ?_
              refine lv_aload hx hb dX10_paste_57 (lv_at hl 0 rfl) ?_
              refine z_get hx hb ht hown hK hP ziX6 rfl 75 (by decide) 0 (by decide) hw_2_78 rfl (v := .int (I 75 0)) rfl dX10_paste_59 ?_
              refine lv_icmp_eq (tgt := 68) hx hb dX10_paste_62 (by decide) (fun c_129 => ?_) (fun c_129 => ?_)
              · have t_c_129 := z_eqT c_129
                refine lv_aload hx hb dX10_paste_68 (lv_at hl 1 rfl) ?_
                refine lv_iload_n hx hb dX10_paste_70 rfl (lv_at hl 4 rfl) ?_
                refine lv_iload hx hb dX10_paste_71 (lv_at hl 7 rfl) ?_
                refine z_callVi (k := 79) (As := [.int (pa1), .int (pa4)]) (rest := []) hx hb hml hown ht (xk_X6_spans_3 l D q cA F _ _ _ hI (pa1) (pa4)) hw_5_177 hmX6_spans ⟨rfl, rfl⟩ (na := 2) rfl (by decide +kernel) (by decide) (by decide) rfl rfl hK hP hD hS hA hl.1 rfl (Nat.le_of_ble_eq_true rfl) ⟨Nat.zero_le _, Nat.zero_le _⟩ dX10_paste_73 (fun r_130 I_130 R_130 J_130 H locs hp_130 hP hD hS _ _ => ?_)
                rcases hp_130 with ⟨rfl, hu_130, nn_130⟩ | ⟨rfl, hu_130, nn_130⟩
                · cases hu_130
                  refine lv_if_eq (tgt := 91) hx hb dX10_paste_76 (by decide) (fun c_0 => absurd c_0 (zD_ne zk_1 zk_z (by decide))) (fun _ => ?_)
                  refine lv_aload hx hb dX10_paste_79 (lv_at hl 0 rfl) ?_
                  refine lv_iload hx hb dX10_paste_81 (lv_at hl 6 rfl) ?_
                  refine lv_iload hx hb dX10_paste_83 (lv_at hl 7 rfl) ?_
                  refine z_callVi (k := 75) (As := [.int (pa3), .int (pa4)]) (rest := []) hx hb hml hown ht (xk_X6_spans_1 l D q cA F _ _ _ hI (pa3) (pa4)) hw_5_177 hmX6_spans ⟨rfl, rfl⟩ (na := 2) rfl (by decide +kernel) (by decide) (by decide) rfl rfl hK hP hD hS hA hl.1 rfl (Nat.le_of_ble_eq_true rfl) ⟨Nat.zero_le _, Nat.zero_le _⟩ dX10_paste_85 (fun r_131 I_131 R_131 J_131 H locs hp_131 hP hD hS _ _ => ?_)
                  rcases hp_131 with ⟨rfl, hu_131, nn_131⟩ | ⟨rfl, hu_131, nn_131⟩
                  · cases hu_131
                    refine lv_if_ne (tgt := 94) hx hb dX10_paste_88 (by decide) (fun _ => ?_) (fun c_0 => absurd c_0 (zD_ne zk_1 zk_z (by decide)))
                    refine lv_aload hx hb dX10_paste_94 (lv_at hl 1 rfl) ?_
                    refine z_get hx hb ht hown hK hP ziX6 rfl 79 (by decide) 2 (by decide) hw_2_84 rfl (v := .ref (q 80)) rfl dX10_paste_96 ?_
                    refine lv_iload_n hx hb dX10_paste_99 rfl (lv_at hl 4 rfl) ?_
                    refine lv_aload hx hb dX10_paste_100 (lv_at hl 0 rfl) ?_
                    refine z_get hx hb ht hown hK hP ziX6 rfl 75 (by decide) 2 (by decide) hw_2_84 rfl (v := .ref (q 76)) rfl dX10_paste_102 ?_
                    refine lv_iload hx hb dX10_paste_105 (lv_at hl 6 rfl) ?_
                    refine lv_iload hx hb dX10_paste_107 (lv_at hl 7 rfl) ?_
                    refine z_copyl hx hb (hml.trans hl.1.symm) ht hown hw_5_181 ⟨hw_3_44, hw_3_43, hw_1_18⟩ hK hP hD hS 80 76 (by decide) (by decide) 56 54 rfl (fun _ => rfl) rfl rfl (x_nn nn_130.1) (x_nn nn_131.1) (x_nn nn_130.2.1) (x_cp nn_130 (xI hI 79 1).2) (x_cp nn_131 (xI hI 75 1).2) (by decide) (by decide +kernel) dX10_paste_109 (fun g_132 H locs eg_132 hP hD hS => ?_)
                    have hI_133 := xInv_J (J2 := (zr J 76 g_132)) hI
                    refine lv_iconst (v := nI 0) hx hb dX10_paste_112 (by decide +kernel) ?_
                    exact z_iret (v := nI 0) hx hb hr hlocks hP hD hS dX10_paste_113 (Or.inr (Or.inr (Or.inr (Or.inr ⟨(by obtain ⟨_, _⟩ := zk_3; obtain ⟨_, _⟩ := zk_1; omega), (show (F 79 1).toInt ≠ -1 ∧ (F 75 1).toInt ≠ -1 from (by have e0 : (I 79 1).toInt = (F 79 1).toInt := congrArg Int32.toInt (xFr hI 79 1 rfl); have e1 : (I 75 1).toInt = (F 75 1).toInt := congrArg Int32.toInt (xFr hI 75 1 rfl); have e2 : (I 79 0).toInt = (F 79 0).toInt := congrArg Int32.toInt (xFr hI 79 0 rfl); have e3 : (I 75 0).toInt = (F 75 0).toInt := congrArg Int32.toInt (xFr hI 75 0 rfl); have _ := nn_125; have _ := nn_127; omega)), (show (F 79 0).toInt = (F 75 0).toInt from (by have e0 : (I 79 1).toInt = (F 79 1).toInt := congrArg Int32.toInt (xFr hI 79 1 rfl); have e1 : (I 75 1).toInt = (F 75 1).toInt := congrArg Int32.toInt (xFr hI 75 1 rfl); have e2 : (I 79 0).toInt = (F 79 0).toInt := congrArg Int32.toInt (xFr hI 79 0 rfl); have e3 : (I 75 0).toInt = (F 75 0).toInt := congrArg Int32.toInt (xFr hI 75 0 rfl); have _ := t_c_129; omega)), (show 0 ≤ pa1.toInt ∧ 0 ≤ pa3.toInt ∧ 0 ≤ pa4.toInt ∧ pa1.toInt + pa4.toInt ≤ (F 79 1).toInt ∧ pa3.toInt + pa4.toInt ≤ (F 75 1).toInt from (by have e0 : (I 79 1).toInt = (F 79 1).toInt := congrArg Int32.toInt (xFr hI 79 1 rfl); have e1 : (I 75 1).toInt = (F 75 1).toInt := congrArg Int32.toInt (xFr hI 75 1 rfl); have e2 : (I 79 0).toInt = (F 79 0).toInt := congrArg Int32.toInt (xFr hI 79 0 rfl); have e3 : (I 75 0).toInt = (F 75 0).toInt := congrArg Int32.toInt (xFr hI 75 0 rfl); have _ := nn_130; have _ := nn_131; omega)), rfl, hI_133⟩))))
                  · cases hu_131
                    refine lv_if_ne (tgt := 94) hx hb dX10_paste_88 (by decide) (fun c_0 => absurd (zD_eq zk_0 zk_z) c_0) (fun _ => ?_)
                    refine lv_bipush (v := (-7)) hx hb dX10_paste_91 (by decide +kernel) ?_
                    exact z_iret (v := (-7)) hx hb hr hlocks hP hD hS dX10_paste_93 (Or.inr (Or.inr (Or.inr (Or.inl ⟨(by obtain ⟨_, _⟩ := zk_3; obtain ⟨_, _⟩ := zk_1; omega), (show (F 79 1).toInt ≠ -1 ∧ (F 75 1).toInt ≠ -1 from (by have e0 : (I 79 1).toInt = (F 79 1).toInt := congrArg Int32.toInt (xFr hI 79 1 rfl); have e1 : (I 75 1).toInt = (F 75 1).toInt := congrArg Int32.toInt (xFr hI 75 1 rfl); have e2 : (I 79 0).toInt = (F 79 0).toInt := congrArg Int32.toInt (xFr hI 79 0 rfl); have e3 : (I 75 0).toInt = (F 75 0).toInt := congrArg Int32.toInt (xFr hI 75 0 rfl); have _ := nn_125; have _ := nn_127; omega)), (show (F 79 0).toInt = (F 75 0).toInt from (by have e0 : (I 79 1).toInt = (F 79 1).toInt := congrArg Int32.toInt (xFr hI 79 1 rfl); have e1 : (I 75 1).toInt = (F 75 1).toInt := congrArg Int32.toInt (xFr hI 75 1 rfl); have e2 : (I 79 0).toInt = (F 79 0).toInt := congrArg Int32.toInt (xFr hI 79 0 rfl); have e3 : (I 75 0).toInt = (F 75 0).toInt := congrArg Int32.toInt (xFr hI 75 0 rfl); have _ := t_c_129; omega)), (show ¬ (0 ≤ pa1.toInt ∧ 0 ≤ pa3.toInt ∧ 0 ≤ pa4.toInt ∧ pa1.toInt + pa4.toInt ≤ (F 79 1).toInt ∧ pa3.toInt + pa4.toInt ≤ (F 75 1).toInt) from (by have e0 : (I 79 1).toInt = (F 79 1).toInt := congrArg Int32.toInt (xFr hI 79 1 rfl); have e1 : (I 75 1).toInt = (F 75 1).toInt := congrArg Int32.toInt (xFr hI 75 1 rfl); have e2 : (I 79 0).toInt = (F 79 0).toInt := congrArg Int32.toInt (xFr hI 79 0 rfl); have e3 : (I 75 0).toInt = (F 75 0).toInt := congrArg Int32.toInt (xFr hI 75 0 rfl); have _ := nn_130; have _ := nn_131; omega)), rfl, hI⟩))))
                · cases hu_130
                  refine lv_if_eq (tgt := 91) hx hb dX10_paste_76 (by decide) (fun _ => ?_) (fun c_0 => absurd (zD_eq zk_0 zk_z) c_0)
                  refine lv_bipush (v := (-7)) hx hb dX10_paste_91 (by decide +kernel) ?_
                  exact z_iret (v := (-7)) hx hb hr hlocks hP hD hS dX10_paste_93 (Or.inr (Or.inr (Or.inr (Or.inl ⟨(by obtain ⟨_, _⟩ := zk_3; obtain ⟨_, _⟩ := zk_1; omega), (show (F 79 1).toInt ≠ -1 ∧ (F 75 1).toInt ≠ -1 from (by have e0 : (I 79 1).toInt = (F 79 1).toInt := congrArg Int32.toInt (xFr hI 79 1 rfl); have e1 : (I 75 1).toInt = (F 75 1).toInt := congrArg Int32.toInt (xFr hI 75 1 rfl); have e2 : (I 79 0).toInt = (F 79 0).toInt := congrArg Int32.toInt (xFr hI 79 0 rfl); have e3 : (I 75 0).toInt = (F 75 0).toInt := congrArg Int32.toInt (xFr hI 75 0 rfl); have _ := nn_125; have _ := nn_127; omega)), (show (F 79 0).toInt = (F 75 0).toInt from (by have e0 : (I 79 1).toInt = (F 79 1).toInt := congrArg Int32.toInt (xFr hI 79 1 rfl); have e1 : (I 75 1).toInt = (F 75 1).toInt := congrArg Int32.toInt (xFr hI 75 1 rfl); have e2 : (I 79 0).toInt = (F 79 0).toInt := congrArg Int32.toInt (xFr hI 79 0 rfl); have e3 : (I 75 0).toInt = (F 75 0).toInt := congrArg Int32.toInt (xFr hI 75 0 rfl); have _ := t_c_129; omega)), (show ¬ (0 ≤ pa1.toInt ∧ 0 ≤ pa3.toInt ∧ 0 ≤ pa4.toInt ∧ pa1.toInt + pa4.toInt ≤ (F 79 1).toInt ∧ pa3.toInt + pa4.toInt ≤ (F 75 1).toInt) from (by have e0 : (I 79 1).toInt = (F 79 1).toInt := congrArg Int32.toInt (xFr hI 79 1 rfl); have e1 : (I 75 1).toInt = (F 75 1).toInt := congrArg Int32.toInt (xFr hI 75 1 rfl); have e2 : (I 79 0).toInt = (F 79 0).toInt := congrArg Int32.toInt (xFr hI 79 0 rfl); have e3 : (I 75 0).toInt = (F 75 0).toInt := congrArg Int32.toInt (xFr hI 75 0 rfl); have _ := nn_130; omega)), rfl, hI⟩))))
              · have t_c_129 := z_eqF c_129
                refine lv_bipush (v := (-8)) hx hb dX10_paste_65 (by decide +kernel) ?_
                exact z_iret (v := (-8)) hx hb hr hlocks hP hD hS dX10_paste_67 (Or.inr (Or.inr (Or.inl ⟨(by obtain ⟨_, _⟩ := zk_3; obtain ⟨_, _⟩ := zk_1; omega), (show (F 79 1).toInt ≠ -1 ∧ (F 75 1).toInt ≠ -1 from (by have e0 : (I 79 1).toInt = (F 79 1).toInt := congrArg Int32.toInt (xFr hI 79 1 rfl); have e1 : (I 75 1).toInt = (F 75 1).toInt := congrArg Int32.toInt (xFr hI 75 1 rfl); have e2 : (I 79 0).toInt = (F 79 0).toInt := congrArg Int32.toInt (xFr hI 79 0 rfl); have e3 : (I 75 0).toInt = (F 75 0).toInt := congrArg Int32.toInt (xFr hI 75 0 rfl); have _ := nn_125; have _ := nn_127; omega)), (show (F 79 0).toInt ≠ (F 75 0).toInt from (by have e0 : (I 79 1).toInt = (F 79 1).toInt := congrArg Int32.toInt (xFr hI 79 1 rfl); have e1 : (I 75 1).toInt = (F 75 1).toInt := congrArg Int32.toInt (xFr hI 75 1 rfl); have e2 : (I 79 0).toInt = (F 79 0).toInt := congrArg Int32.toInt (xFr hI 79 0 rfl); have e3 : (I 75 0).toInt = (F 75 0).toInt := congrArg Int32.toInt (xFr hI 75 0 rfl); have _ := t_c_129; omega)), rfl, hI⟩)))
            · cases hu_127
              refine lv_if_ne (tgt := 52) hx hb dX10_paste_46 (by decide) (fun c_0 => absurd (zD_eq zk_0 zk_z) c_0) (fun _ => ?_)
              refine lv_bipush (v := (-6)) hx hb dX10_paste_49 (by decide +kernel) ?_
              exact z_iret (v := (-6)) hx hb hr hlocks hP hD hS dX10_paste_51 (Or.inr (Or.inl ⟨(by obtain ⟨_, _⟩ := zk_3; obtain ⟨_, _⟩ := zk_1; omega), (show (F 79 1).toInt = -1 ∨ (F 75 1).toInt = -1 from (by have e0 : (I 79 1).toInt = (F 79 1).toInt := congrArg Int32.toInt (xFr hI 79 1 rfl); have e1 : (I 75 1).toInt = (F 75 1).toInt := congrArg Int32.toInt (xFr hI 75 1 rfl); have e2 : (I 79 0).toInt = (F 79 0).toInt := congrArg Int32.toInt (xFr hI 79 0 rfl); have e3 : (I 75 0).toInt = (F 75 0).toInt := congrArg Int32.toInt (xFr hI 75 0 rfl); have _ := nn_125; have _ := nn_127; omega)), rfl, hI⟩))
          · cases hu_125
            refine lv_if_eq (tgt := 49) hx hb dX10_paste_38 (by decide) (fun _ => ?_) (fun c_0 => absurd (zD_eq zk_0 zk_z) c_0)
            refine lv_bipush (v := (-6)) hx hb dX10_paste_49 (by decide +kernel) ?_
            exact z_iret (v := (-6)) hx hb hr hlocks hP hD hS dX10_paste_51 (Or.inr (Or.inl ⟨(by obtain ⟨_, _⟩ := zk_3; obtain ⟨_, _⟩ := zk_1; omega), (show (F 79 1).toInt = -1 ∨ (F 75 1).toInt = -1 from (by have e0 : (I 79 1).toInt = (F 79 1).toInt := congrArg Int32.toInt (xFr hI 79 1 rfl); have e1 : (I 75 1).toInt = (F 75 1).toInt := congrArg Int32.toInt (xFr hI 75 1 rfl); have e2 : (I 79 0).toInt = (F 79 0).toInt := congrArg Int32.toInt (xFr hI 79 0 rfl); have e3 : (I 75 0).toInt = (F 75 0).toInt := congrArg Int32.toInt (xFr hI 75 0 rfl); have _ := nn_125; omega)), rfl, hI⟩))
        · refine va_aldq hx hb hK hP 72 52 (zw_at (by decide) rfl) rfl (vp_in_nI (by decide) (by decide)) dX10_paste_30 ?_
          refine W.eq (g2 := F0 m 31 ls (.ref (q 77) :: [])) rfl ?_
          refine lv_astore (lv' := [(7, .ref (q 77)), (6, .ref (q 79)), (0, .ref (q 0)), (1, .int (nI 3)), (2, .int (pa1)), (3, .int (nI 2)), (4, .int (pa3)), (5, .int (pa4))]) hx hb dX10_paste_31 hl (by decide) rfl (fun ls hl => ?_)
          refine lv_aload hx hb dX10_paste_33 (lv_at hl 1 rfl) ?_
          refine z_callVi (k := 79) (As := []) (rest := []) hx hb hml hown ht (xk_X6_isThere_3 l D q cA F _ _ _ hI ) hw_5_63 hmX6_isThere ⟨rfl, rfl⟩ (na := 0) rfl (by decide +kernel) (by decide) (by decide) rfl rfl hK hP hD hS hA hl.1 rfl (Nat.le_of_ble_eq_true rfl) ⟨Nat.zero_le _, Nat.zero_le _⟩ dX10_paste_35 (fun r_134 I_134 R_134 J_134 H locs hp_134 hP hD hS _ _ => ?_)
          rcases hp_134 with ⟨rfl, hu_134, nn_134⟩ | ⟨rfl, hu_134, nn_134⟩
          · cases hu_134
            have f_135 : zR 0 60 (I 79 1) := x_there (xI hI 79 1) nn_134
            refine lv_if_eq (tgt := 49) hx hb dX10_paste_38 (by decide) (fun c_0 => absurd c_0 (zD_ne zk_1 zk_z (by decide))) (fun _ => ?_)
            refine lv_aload hx hb dX10_paste_41 (lv_at hl 0 rfl) ?_
            refine z_callVi (k := 77) (As := []) (rest := []) hx hb hml hown ht (xk_X6_isThere_2 l D q cA F _ _ _ hI ) hw_5_63 hmX6_isThere ⟨rfl, rfl⟩ (na := 0) rfl (by decide +kernel) (by decide) (by decide) rfl rfl hK hP hD hS hA hl.1 rfl (Nat.le_of_ble_eq_true rfl) ⟨Nat.zero_le _, Nat.zero_le _⟩ dX10_paste_43 (fun r_136 I_136 R_136 J_136 H locs hp_136 hP hD hS _ _ => ?_)
            rcases hp_136 with ⟨rfl, hu_136, nn_136⟩ | ⟨rfl, hu_136, nn_136⟩
            · cases hu_136
              have f_137 : zR 0 60 (I 77 1) := x_there (xI hI 77 1) nn_136
              refine lv_if_ne (tgt := 52) hx hb dX10_paste_46 (by decide) (fun _ => ?_) (fun c_0 => absurd c_0 (zD_ne zk_1 zk_z (by decide)))
              refine lv_aload hx hb dX10_paste_52 (lv_at hl 1 rfl) ?_
              refine z_get hx hb ht hown hK hP ziX6 rfl 79 (by decide) 0 (by decide) hw_2_78 rfl (v := .int (I 79 0)) rfl dX10_paste_54 ?_
              refine lv_aload hx hb dX10_paste_57 (lv_at hl 0 rfl) ?_
              refine z_get hx hb ht hown hK hP ziX6 rfl 77 (by decide) 0 (by decide) hw_2_78 rfl (v := .int (I 77 0)) rfl dX10_paste_59 ?_
              refine lv_icmp_eq (tgt := 68) hx hb dX10_paste_62 (by decide) (fun c_138 => ?_) (fun c_138 => ?_)
              · have t_c_138 := z_eqT c_138
                refine lv_aload hx hb dX10_paste_68 (lv_at hl 1 rfl) ?_
                refine lv_iload_n hx hb dX10_paste_70 rfl (lv_at hl 4 rfl) ?_
                refine lv_iload hx hb dX10_paste_71 (lv_at hl 7 rfl) ?_
                refine z_callVi (k := 79) (As := [.int (pa1), .int (pa4)]) (rest := []) hx hb hml hown ht (xk_X6_spans_3 l D q cA F _ _ _ hI (pa1) (pa4)) hw_5_177 hmX6_spans ⟨rfl, rfl⟩ (na := 2) rfl (by decide +kernel) (by decide) (by decide) rfl rfl hK hP hD hS hA hl.1 rfl (Nat.le_of_ble_eq_true rfl) ⟨Nat.zero_le _, Nat.zero_le _⟩ dX10_paste_73 (fun r_139 I_139 R_139 J_139 H locs hp_139 hP hD hS _ _ => ?_)
                rcases hp_139 with ⟨rfl, hu_139, nn_139⟩ | ⟨rfl, hu_139, nn_139⟩
                · cases hu_139
                  refine lv_if_eq (tgt := 91) hx hb dX10_paste_76 (by decide) (fun c_0 => absurd c_0 (zD_ne zk_1 zk_z (by decide))) (fun _ => ?_)
                  refine lv_aload hx hb dX10_paste_79 (lv_at hl 0 rfl) ?_
                  refine lv_iload hx hb dX10_paste_81 (lv_at hl 6 rfl) ?_
                  refine lv_iload hx hb dX10_paste_83 (lv_at hl 7 rfl) ?_
                  refine z_callVi (k := 77) (As := [.int (pa3), .int (pa4)]) (rest := []) hx hb hml hown ht (xk_X6_spans_2 l D q cA F _ _ _ hI (pa3) (pa4)) hw_5_177 hmX6_spans ⟨rfl, rfl⟩ (na := 2) rfl (by decide +kernel) (by decide) (by decide) rfl rfl hK hP hD hS hA hl.1 rfl (Nat.le_of_ble_eq_true rfl) ⟨Nat.zero_le _, Nat.zero_le _⟩ dX10_paste_85 (fun r_140 I_140 R_140 J_140 H locs hp_140 hP hD hS _ _ => ?_)
                  rcases hp_140 with ⟨rfl, hu_140, nn_140⟩ | ⟨rfl, hu_140, nn_140⟩
                  · cases hu_140
                    refine lv_if_ne (tgt := 94) hx hb dX10_paste_88 (by decide) (fun _ => ?_) (fun c_0 => absurd c_0 (zD_ne zk_1 zk_z (by decide)))
                    refine lv_aload hx hb dX10_paste_94 (lv_at hl 1 rfl) ?_
                    refine z_get hx hb ht hown hK hP ziX6 rfl 79 (by decide) 2 (by decide) hw_2_84 rfl (v := .ref (q 80)) rfl dX10_paste_96 ?_
                    refine lv_iload_n hx hb dX10_paste_99 rfl (lv_at hl 4 rfl) ?_
                    refine lv_aload hx hb dX10_paste_100 (lv_at hl 0 rfl) ?_
                    refine z_get hx hb ht hown hK hP ziX6 rfl 77 (by decide) 2 (by decide) hw_2_84 rfl (v := .ref (q 78)) rfl dX10_paste_102 ?_
                    refine lv_iload hx hb dX10_paste_105 (lv_at hl 6 rfl) ?_
                    refine lv_iload hx hb dX10_paste_107 (lv_at hl 7 rfl) ?_
                    refine z_copyl hx hb (hml.trans hl.1.symm) ht hown hw_5_181 ⟨hw_3_44, hw_3_43, hw_1_18⟩ hK hP hD hS 80 78 (by decide) (by decide) 56 55 rfl (fun _ => rfl) rfl rfl (x_nn nn_139.1) (x_nn nn_140.1) (x_nn nn_139.2.1) (x_cp nn_139 (xI hI 79 1).2) (x_cp nn_140 (xI hI 77 1).2) (by decide) (by decide +kernel) dX10_paste_109 (fun g_141 H locs eg_141 hP hD hS => ?_)
                    have hI_142 := xInv_J (J2 := (zr J 78 g_141)) hI
                    refine lv_iconst (v := nI 0) hx hb dX10_paste_112 (by decide +kernel) ?_
                    exact z_iret (v := nI 0) hx hb hr hlocks hP hD hS dX10_paste_113 (Or.inr (Or.inr (Or.inr (Or.inr ⟨(by obtain ⟨_, _⟩ := zk_3; obtain ⟨_, _⟩ := zk_2; omega), (show (F 79 1).toInt ≠ -1 ∧ (F 77 1).toInt ≠ -1 from (by have e0 : (I 79 1).toInt = (F 79 1).toInt := congrArg Int32.toInt (xFr hI 79 1 rfl); have e1 : (I 77 1).toInt = (F 77 1).toInt := congrArg Int32.toInt (xFr hI 77 1 rfl); have e2 : (I 79 0).toInt = (F 79 0).toInt := congrArg Int32.toInt (xFr hI 79 0 rfl); have e3 : (I 77 0).toInt = (F 77 0).toInt := congrArg Int32.toInt (xFr hI 77 0 rfl); have _ := nn_134; have _ := nn_136; omega)), (show (F 79 0).toInt = (F 77 0).toInt from (by have e0 : (I 79 1).toInt = (F 79 1).toInt := congrArg Int32.toInt (xFr hI 79 1 rfl); have e1 : (I 77 1).toInt = (F 77 1).toInt := congrArg Int32.toInt (xFr hI 77 1 rfl); have e2 : (I 79 0).toInt = (F 79 0).toInt := congrArg Int32.toInt (xFr hI 79 0 rfl); have e3 : (I 77 0).toInt = (F 77 0).toInt := congrArg Int32.toInt (xFr hI 77 0 rfl); have _ := t_c_138; omega)), (show 0 ≤ pa1.toInt ∧ 0 ≤ pa3.toInt ∧ 0 ≤ pa4.toInt ∧ pa1.toInt + pa4.toInt ≤ (F 79 1).toInt ∧ pa3.toInt + pa4.toInt ≤ (F 77 1).toInt from (by have e0 : (I 79 1).toInt = (F 79 1).toInt := congrArg Int32.toInt (xFr hI 79 1 rfl); have e1 : (I 77 1).toInt = (F 77 1).toInt := congrArg Int32.toInt (xFr hI 77 1 rfl); have e2 : (I 79 0).toInt = (F 79 0).toInt := congrArg Int32.toInt (xFr hI 79 0 rfl); have e3 : (I 77 0).toInt = (F 77 0).toInt := congrArg Int32.toInt (xFr hI 77 0 rfl); have _ := nn_139; have _ := nn_140; omega)), rfl, hI_142⟩))))
                  · cases hu_140
                    refine lv_if_ne (tgt := 94) hx hb dX10_paste_88 (by decide) (fun c_0 => absurd (zD_eq zk_0 zk_z) c_0) (fun _ => ?_)
                    refine lv_bipush (v := (-7)) hx hb dX10_paste_91 (by decide +kernel) ?_
                    exact z_iret (v := (-7)) hx hb hr hlocks hP hD hS dX10_paste_93 (Or.inr (Or.inr (Or.inr (Or.inl ⟨(by obtain ⟨_, _⟩ := zk_3; obtain ⟨_, _⟩ := zk_2; omega), (show (F 79 1).toInt ≠ -1 ∧ (F 77 1).toInt ≠ -1 from (by have e0 : (I 79 1).toInt = (F 79 1).toInt := congrArg Int32.toInt (xFr hI 79 1 rfl); have e1 : (I 77 1).toInt = (F 77 1).toInt := congrArg Int32.toInt (xFr hI 77 1 rfl); have e2 : (I 79 0).toInt = (F 79 0).toInt := congrArg Int32.toInt (xFr hI 79 0 rfl); have e3 : (I 77 0).toInt = (F 77 0).toInt := congrArg Int32.toInt (xFr hI 77 0 rfl); have _ := nn_134; have _ := nn_136; omega)), (show (F 79 0).toInt = (F 77 0).toInt from (by have e0 : (I 79 1).toInt = (F 79 1).toInt := congrArg Int32.toInt (xFr hI 79 1 rfl); have e1 : (I 77 1).toInt = (F 77 1).toInt := congrArg Int32.toInt (xFr hI 77 1 rfl); have e2 : (I 79 0).toInt = (F 79 0).toInt := congrArg Int32.toInt (xFr hI 79 0 rfl); have e3 : (I 77 0).toInt = (F 77 0).toInt := congrArg Int32.toInt (xFr hI 77 0 rfl); have _ := t_c_138; omega)), (show ¬ (0 ≤ pa1.toInt ∧ 0 ≤ pa3.toInt ∧ 0 ≤ pa4.toInt ∧ pa1.toInt + pa4.toInt ≤ (F 79 1).toInt ∧ pa3.toInt + pa4.toInt ≤ (F 77 1).toInt) from (by have e0 : (I 79 1).toInt = (F 79 1).toInt := congrArg Int32.toInt (xFr hI 79 1 rfl); have e1 : (I 77 1).toInt = (F 77 1).toInt := congrArg Int32.toInt (xFr hI 77 1 rfl); have e2 : (I 79 0).toInt = (F 79 0).toInt := congrArg Int32.toInt (xFr hI 79 0 rfl); have e3 : (I 77 0).toInt = (F 77 0).toInt := congrArg Int32.toInt (xFr hI 77 0 rfl); have _ := nn_139; have _ := nn_140; omega)), rfl, hI⟩))))
                · cases hu_139
                  refine lv_if_eq (tgt := 91) hx hb dX10_paste_76 (by decide) (fun _ => ?_) (fun c_0 => absurd (zD_eq zk_0 zk_z) c_0)
                  refine lv_bipush (v := (-7)) hx hb dX10_paste_91 (by decide +kernel) ?_
                  exact z_iret (v := (-7)) hx hb hr hlocks hP hD hS dX10_paste_93 (Or.inr (Or.inr (Or.inr (Or.inl ⟨(by obtain ⟨_, _⟩ := zk_3; obtain ⟨_, _⟩ := zk_2; omega), (show (F 79 1).toInt ≠ -1 ∧ (F 77 1).toInt ≠ -1 from (by have e0 : (I 79 1).toInt = (F 79 1).toInt := congrArg Int32.toInt (xFr hI 79 1 rfl); have e1 : (I 77 1).toInt = (F 77 1).toInt := congrArg Int32.toInt (xFr hI 77 1 rfl); have e2 : (I 79 0).toInt = (F 79 0).toInt := congrArg Int32.toInt (xFr hI 79 0 rfl); have e3 : (I 77 0).toInt = (F 77 0).toInt := congrArg Int32.toInt (xFr hI 77 0 rfl); have _ := nn_134; have _ := nn_136; omega)), (show (F 79 0).toInt = (F 77 0).toInt from (by have e0 : (I 79 1).toInt = (F 79 1).toInt := congrArg Int32.toInt (xFr hI 79 1 rfl); have e1 : (I 77 1).toInt = (F 77 1).toInt := congrArg Int32.toInt (xFr hI 77 1 rfl); have e2 : (I 79 0).toInt = (F 79 0).toInt := congrArg Int32.toInt (xFr hI 79 0 rfl); have e3 : (I 77 0).toInt = (F 77 0).toInt := congrArg Int32.toInt (xFr hI 77 0 rfl); have _ := t_c_138; omega)), (show ¬ (0 ≤ pa1.toInt ∧ 0 ≤ pa3.toInt ∧ 0 ≤ pa4.toInt ∧ pa1.toInt + pa4.toInt ≤ (F 79 1).toInt ∧ pa3.toInt + pa4.toInt ≤ (F 77 1).toInt) from (by have e0 : (I 79 1).toInt = (F 79 1).toInt := congrArg Int32.toInt (xFr hI 79 1 rfl); have e1 : (I 77 1).toInt = (F 77 1).toInt := congrArg Int32.toInt (xFr hI 77 1 rfl); have e2 : (I 79 0).toInt = (F 79 0).toInt := congrArg Int32.toInt (xFr hI 79 0 rfl); have e3 : (I 77 0).toInt = (F 77 0).toInt := congrArg Int32.toInt (xFr hI 77 0 rfl); have _ := nn_139; omega)), rfl, hI⟩))))
              · have t_c_138 := z_eqF c_138
                refine lv_bipush (v := (-8)) hx hb dX10_paste_65 (by decide +kernel) ?_
                exact z_iret (v := (-8)) hx hb hr hlocks hP hD hS dX10_paste_67 (Or.inr (Or.inr (Or.inl ⟨(by obtain ⟨_, _⟩ := zk_3; obtain ⟨_, _⟩ := zk_2; omega), (show (F 79 1).toInt ≠ -1 ∧ (F 77 1).toInt ≠ -1 from (by have e0 : (I 79 1).toInt = (F 79 1).toInt := congrArg Int32.toInt (xFr hI 79 1 rfl); have e1 : (I 77 1).toInt = (F 77 1).toInt := congrArg Int32.toInt (xFr hI 77 1 rfl); have e2 : (I 79 0).toInt = (F 79 0).toInt := congrArg Int32.toInt (xFr hI 79 0 rfl); have e3 : (I 77 0).toInt = (F 77 0).toInt := congrArg Int32.toInt (xFr hI 77 0 rfl); have _ := nn_134; have _ := nn_136; omega)), (show (F 79 0).toInt ≠ (F 77 0).toInt from (by have e0 : (I 79 1).toInt = (F 79 1).toInt := congrArg Int32.toInt (xFr hI 79 1 rfl); have e1 : (I 77 1).toInt = (F 77 1).toInt := congrArg Int32.toInt (xFr hI 77 1 rfl); have e2 : (I 79 0).toInt = (F 79 0).toInt := congrArg Int32.toInt (xFr hI 79 0 rfl); have e3 : (I 77 0).toInt = (F 77 0).toInt := congrArg Int32.toInt (xFr hI 77 0 rfl); have _ := t_c_138; omega)), rfl, hI⟩)))
            · cases hu_136
              refine lv_if_ne (tgt := 52) hx hb dX10_paste_46 (by decide) (fun c_0 => absurd (zD_eq zk_0 zk_z) c_0) (fun _ => ?_)
              refine lv_bipush (v := (-6)) hx hb dX10_paste_49 (by decide +kernel) ?_
              exact z_iret (v := (-6)) hx hb hr hlocks hP hD hS dX10_paste_51 (Or.inr (Or.inl ⟨(by obtain ⟨_, _⟩ := zk_3; obtain ⟨_, _⟩ := zk_2; omega), (show (F 79 1).toInt = -1 ∨ (F 77 1).toInt = -1 from (by have e0 : (I 79 1).toInt = (F 79 1).toInt := congrArg Int32.toInt (xFr hI 79 1 rfl); have e1 : (I 77 1).toInt = (F 77 1).toInt := congrArg Int32.toInt (xFr hI 77 1 rfl); have e2 : (I 79 0).toInt = (F 79 0).toInt := congrArg Int32.toInt (xFr hI 79 0 rfl); have e3 : (I 77 0).toInt = (F 77 0).toInt := congrArg Int32.toInt (xFr hI 77 0 rfl); have _ := nn_134; have _ := nn_136; omega)), rfl, hI⟩))
          · cases hu_134
            refine lv_if_eq (tgt := 49) hx hb dX10_paste_38 (by decide) (fun _ => ?_) (fun c_0 => absurd (zD_eq zk_0 zk_z) c_0)
            refine lv_bipush (v := (-6)) hx hb dX10_paste_49 (by decide +kernel) ?_
            exact z_iret (v := (-6)) hx hb hr hlocks hP hD hS dX10_paste_51 (Or.inr (Or.inl ⟨(by obtain ⟨_, _⟩ := zk_3; obtain ⟨_, _⟩ := zk_2; omega), (show (F 79 1).toInt = -1 ∨ (F 77 1).toInt = -1 from (by have e0 : (I 79 1).toInt = (F 79 1).toInt := congrArg Int32.toInt (xFr hI 79 1 rfl); have e1 : (I 77 1).toInt = (F 77 1).toInt := congrArg Int32.toInt (xFr hI 77 1 rfl); have e2 : (I 79 0).toInt = (F 79 0).toInt := congrArg Int32.toInt (xFr hI 79 0 rfl); have e3 : (I 77 0).toInt = (F 77 0).toInt := congrArg Int32.toInt (xFr hI 77 0 rfl); have _ := nn_134; omega)), rfl, hI⟩))
        · refine va_aldq hx hb hK hP 72 52 (zw_at (by decide) rfl) rfl (vp_in_nI (by decide) (by decide)) dX10_paste_30 ?_
          refine W.eq (g2 := F0 m 31 ls (.ref (q 79) :: [])) rfl ?_
          refine lv_astore (lv' := [(7, .ref (q 79)), (6, .ref (q 79)), (0, .ref (q 0)), (1, .int (nI 3)), (2, .int (pa1)), (3, .int (nI 3)), (4, .int (pa3)), (5, .int (pa4))]) hx hb dX10_paste_31 hl (by decide) rfl (fun ls hl => ?_)
          refine lv_aload hx hb dX10_paste_33 (lv_at hl 1 rfl) ?_
          refine z_callVi (k := 79) (As := []) (rest := []) hx hb hml hown ht (xk_X6_isThere_3 l D q cA F _ _ _ hI ) hw_5_63 hmX6_isThere ⟨rfl, rfl⟩ (na := 0) rfl (by decide +kernel) (by decide) (by decide) rfl rfl hK hP hD hS hA hl.1 rfl (Nat.le_of_ble_eq_true rfl) ⟨Nat.zero_le _, Nat.zero_le _⟩ dX10_paste_35 (fun r_143 I_143 R_143 J_143 H locs hp_143 hP hD hS _ _ => ?_)
          rcases hp_143 with ⟨rfl, hu_143, nn_143⟩ | ⟨rfl, hu_143, nn_143⟩
          · cases hu_143
            have f_144 : zR 0 60 (I 79 1) := x_there (xI hI 79 1) nn_143
            refine lv_if_eq (tgt := 49) hx hb dX10_paste_38 (by decide) (fun c_0 => absurd c_0 (zD_ne zk_1 zk_z (by decide))) (fun _ => ?_)
            refine lv_aload hx hb dX10_paste_41 (lv_at hl 0 rfl) ?_
            refine z_callVi (k := 79) (As := []) (rest := []) hx hb hml hown ht (xk_X6_isThere_3 l D q cA F _ _ _ hI ) hw_5_63 hmX6_isThere ⟨rfl, rfl⟩ (na := 0) rfl (by decide +kernel) (by decide) (by decide) rfl rfl hK hP hD hS hA hl.1 rfl (Nat.le_of_ble_eq_true rfl) ⟨Nat.zero_le _, Nat.zero_le _⟩ dX10_paste_43 (fun r_145 I_145 R_145 J_145 H locs hp_145 hP hD hS _ _ => ?_)
            rcases hp_145 with ⟨rfl, hu_145, nn_145⟩ | ⟨rfl, hu_145, nn_145⟩
            · cases hu_145
              have f_146 : zR 0 60 (I 79 1) := x_there (xI hI 79 1) nn_145
              refine lv_if_ne (tgt := 52) hx hb dX10_paste_46 (by decide) (fun _ => ?_) (fun c_0 => absurd c_0 (zD_ne zk_1 zk_z (by decide)))
              refine lv_aload hx hb dX10_paste_52 (lv_at hl 1 rfl) ?_
              refine z_get hx hb ht hown hK hP ziX6 rfl 79 (by decide) 0 (by decide) hw_2_78 rfl (v := .int (I 79 0)) rfl dX10_paste_54 ?_
              refine lv_aload hx hb dX10_paste_57 (lv_at hl 0 rfl) ?_
              refine z_get hx hb ht hown hK hP ziX6 rfl 79 (by decide) 0 (by decide) hw_2_78 rfl (v := .int (I 79 0)) rfl dX10_paste_59 ?_
              refine lv_icmp_eq (tgt := 68) hx hb dX10_paste_62 (by decide) (fun c_147 => ?_) (fun c_147 => ?_)
              · have t_c_147 := z_eqT c_147
                refine lv_aload hx hb dX10_paste_68 (lv_at hl 1 rfl) ?_
                refine lv_iload_n hx hb dX10_paste_70 rfl (lv_at hl 4 rfl) ?_
                refine lv_iload hx hb dX10_paste_71 (lv_at hl 7 rfl) ?_
                refine z_callVi (k := 79) (As := [.int (pa1), .int (pa4)]) (rest := []) hx hb hml hown ht (xk_X6_spans_3 l D q cA F _ _ _ hI (pa1) (pa4)) hw_5_177 hmX6_spans ⟨rfl, rfl⟩ (na := 2) rfl (by decide +kernel) (by decide) (by decide) rfl rfl hK hP hD hS hA hl.1 rfl (Nat.le_of_ble_eq_true rfl) ⟨Nat.zero_le _, Nat.zero_le _⟩ dX10_paste_73 (fun r_148 I_148 R_148 J_148 H locs hp_148 hP hD hS _ _ => ?_)
                rcases hp_148 with ⟨rfl, hu_148, nn_148⟩ | ⟨rfl, hu_148, nn_148⟩
                · cases hu_148
                  refine lv_if_eq (tgt := 91) hx hb dX10_paste_76 (by decide) (fun c_0 => absurd c_0 (zD_ne zk_1 zk_z (by decide))) (fun _ => ?_)
                  refine lv_aload hx hb dX10_paste_79 (lv_at hl 0 rfl) ?_
                  refine lv_iload hx hb dX10_paste_81 (lv_at hl 6 rfl) ?_
                  refine lv_iload hx hb dX10_paste_83 (lv_at hl 7 rfl) ?_
                  refine z_callVi (k := 79) (As := [.int (pa3), .int (pa4)]) (rest := []) hx hb hml hown ht (xk_X6_spans_3 l D q cA F _ _ _ hI (pa3) (pa4)) hw_5_177 hmX6_spans ⟨rfl, rfl⟩ (na := 2) rfl (by decide +kernel) (by decide) (by decide) rfl rfl hK hP hD hS hA hl.1 rfl (Nat.le_of_ble_eq_true rfl) ⟨Nat.zero_le _, Nat.zero_le _⟩ dX10_paste_85 (fun r_149 I_149 R_149 J_149 H locs hp_149 hP hD hS _ _ => ?_)
                  rcases hp_149 with ⟨rfl, hu_149, nn_149⟩ | ⟨rfl, hu_149, nn_149⟩
                  · cases hu_149
                    refine lv_if_ne (tgt := 94) hx hb dX10_paste_88 (by decide) (fun _ => ?_) (fun c_0 => absurd c_0 (zD_ne zk_1 zk_z (by decide)))
                    refine lv_aload hx hb dX10_paste_94 (lv_at hl 1 rfl) ?_
                    refine z_get hx hb ht hown hK hP ziX6 rfl 79 (by decide) 2 (by decide) hw_2_84 rfl (v := .ref (q 80)) rfl dX10_paste_96 ?_
                    refine lv_iload_n hx hb dX10_paste_99 rfl (lv_at hl 4 rfl) ?_
                    refine lv_aload hx hb dX10_paste_100 (lv_at hl 0 rfl) ?_
                    refine z_get hx hb ht hown hK hP ziX6 rfl 79 (by decide) 2 (by decide) hw_2_84 rfl (v := .ref (q 80)) rfl dX10_paste_102 ?_
                    refine lv_iload hx hb dX10_paste_105 (lv_at hl 6 rfl) ?_
                    refine lv_iload hx hb dX10_paste_107 (lv_at hl 7 rfl) ?_
                    refine z_copyl hx hb (hml.trans hl.1.symm) ht hown hw_5_181 ⟨hw_3_44, hw_3_43, hw_1_18⟩ hK hP hD hS 80 80 (by decide) (by decide) 56 56 rfl (fun _ => rfl) rfl rfl (x_nn nn_148.1) (x_nn nn_149.1) (x_nn nn_148.2.1) (x_cp nn_148 (xI hI 79 1).2) (x_cp nn_149 (xI hI 79 1).2) (by decide) (by decide +kernel) dX10_paste_109 (fun g_150 H locs eg_150 hP hD hS => ?_)
                    have hI_151 := xInv_J (J2 := (zr J 80 g_150)) hI
                    refine lv_iconst (v := nI 0) hx hb dX10_paste_112 (by decide +kernel) ?_
                    exact z_iret (v := nI 0) hx hb hr hlocks hP hD hS dX10_paste_113 (Or.inr (Or.inr (Or.inr (Or.inr ⟨(by obtain ⟨_, _⟩ := zk_3; obtain ⟨_, _⟩ := zk_3; omega), (show (F 79 1).toInt ≠ -1 ∧ (F 79 1).toInt ≠ -1 from (by have e0 : (I 79 1).toInt = (F 79 1).toInt := congrArg Int32.toInt (xFr hI 79 1 rfl); have e1 : (I 79 1).toInt = (F 79 1).toInt := congrArg Int32.toInt (xFr hI 79 1 rfl); have e2 : (I 79 0).toInt = (F 79 0).toInt := congrArg Int32.toInt (xFr hI 79 0 rfl); have e3 : (I 79 0).toInt = (F 79 0).toInt := congrArg Int32.toInt (xFr hI 79 0 rfl); have _ := nn_145; have _ := nn_145; omega)), (show (F 79 0).toInt = (F 79 0).toInt from (by have e0 : (I 79 1).toInt = (F 79 1).toInt := congrArg Int32.toInt (xFr hI 79 1 rfl); have e1 : (I 79 1).toInt = (F 79 1).toInt := congrArg Int32.toInt (xFr hI 79 1 rfl); have e2 : (I 79 0).toInt = (F 79 0).toInt := congrArg Int32.toInt (xFr hI 79 0 rfl); have e3 : (I 79 0).toInt = (F 79 0).toInt := congrArg Int32.toInt (xFr hI 79 0 rfl); have _ := t_c_147; omega)), (show 0 ≤ pa1.toInt ∧ 0 ≤ pa3.toInt ∧ 0 ≤ pa4.toInt ∧ pa1.toInt + pa4.toInt ≤ (F 79 1).toInt ∧ pa3.toInt + pa4.toInt ≤ (F 79 1).toInt from (by have e0 : (I 79 1).toInt = (F 79 1).toInt := congrArg Int32.toInt (xFr hI 79 1 rfl); have e1 : (I 79 1).toInt = (F 79 1).toInt := congrArg Int32.toInt (xFr hI 79 1 rfl); have e2 : (I 79 0).toInt = (F 79 0).toInt := congrArg Int32.toInt (xFr hI 79 0 rfl); have e3 : (I 79 0).toInt = (F 79 0).toInt := congrArg Int32.toInt (xFr hI 79 0 rfl); have _ := nn_148; have _ := nn_149; omega)), rfl, hI_151⟩))))
                  · cases hu_149
                    refine lv_if_ne (tgt := 94) hx hb dX10_paste_88 (by decide) (fun c_0 => absurd (zD_eq zk_0 zk_z) c_0) (fun _ => ?_)
                    refine lv_bipush (v := (-7)) hx hb dX10_paste_91 (by decide +kernel) ?_
                    exact z_iret (v := (-7)) hx hb hr hlocks hP hD hS dX10_paste_93 (Or.inr (Or.inr (Or.inr (Or.inl ⟨(by obtain ⟨_, _⟩ := zk_3; obtain ⟨_, _⟩ := zk_3; omega), (show (F 79 1).toInt ≠ -1 ∧ (F 79 1).toInt ≠ -1 from (by have e0 : (I 79 1).toInt = (F 79 1).toInt := congrArg Int32.toInt (xFr hI 79 1 rfl); have e1 : (I 79 1).toInt = (F 79 1).toInt := congrArg Int32.toInt (xFr hI 79 1 rfl); have e2 : (I 79 0).toInt = (F 79 0).toInt := congrArg Int32.toInt (xFr hI 79 0 rfl); have e3 : (I 79 0).toInt = (F 79 0).toInt := congrArg Int32.toInt (xFr hI 79 0 rfl); have _ := nn_145; have _ := nn_145; omega)), (show (F 79 0).toInt = (F 79 0).toInt from (by have e0 : (I 79 1).toInt = (F 79 1).toInt := congrArg Int32.toInt (xFr hI 79 1 rfl); have e1 : (I 79 1).toInt = (F 79 1).toInt := congrArg Int32.toInt (xFr hI 79 1 rfl); have e2 : (I 79 0).toInt = (F 79 0).toInt := congrArg Int32.toInt (xFr hI 79 0 rfl); have e3 : (I 79 0).toInt = (F 79 0).toInt := congrArg Int32.toInt (xFr hI 79 0 rfl); have _ := t_c_147; omega)), (show ¬ (0 ≤ pa1.toInt ∧ 0 ≤ pa3.toInt ∧ 0 ≤ pa4.toInt ∧ pa1.toInt + pa4.toInt ≤ (F 79 1).toInt ∧ pa3.toInt + pa4.toInt ≤ (F 79 1).toInt) from (by have e0 : (I 79 1).toInt = (F 79 1).toInt := congrArg Int32.toInt (xFr hI 79 1 rfl); have e1 : (I 79 1).toInt = (F 79 1).toInt := congrArg Int32.toInt (xFr hI 79 1 rfl); have e2 : (I 79 0).toInt = (F 79 0).toInt := congrArg Int32.toInt (xFr hI 79 0 rfl); have e3 : (I 79 0).toInt = (F 79 0).toInt := congrArg Int32.toInt (xFr hI 79 0 rfl); have _ := nn_148; have _ := nn_149; omega)), rfl, hI⟩))))
                · cases hu_148
                  refine lv_if_eq (tgt := 91) hx hb dX10_paste_76 (by decide) (fun _ => ?_) (fun c_0 => absurd (zD_eq zk_0 zk_z) c_0)
                  refine lv_bipush (v := (-7)) hx hb dX10_paste_91 (by decide +kernel) ?_
                  exact z_iret (v := (-7)) hx hb hr hlocks hP hD hS dX10_paste_93 (Or.inr (Or.inr (Or.inr (Or.inl ⟨(by obtain ⟨_, _⟩ := zk_3; obtain ⟨_, _⟩ := zk_3; omega), (show (F 79 1).toInt ≠ -1 ∧ (F 79 1).toInt ≠ -1 from (by have e0 : (I 79 1).toInt = (F 79 1).toInt := congrArg Int32.toInt (xFr hI 79 1 rfl); have e1 : (I 79 1).toInt = (F 79 1).toInt := congrArg Int32.toInt (xFr hI 79 1 rfl); have e2 : (I 79 0).toInt = (F 79 0).toInt := congrArg Int32.toInt (xFr hI 79 0 rfl); have e3 : (I 79 0).toInt = (F 79 0).toInt := congrArg Int32.toInt (xFr hI 79 0 rfl); have _ := nn_145; have _ := nn_145; omega)), (show (F 79 0).toInt = (F 79 0).toInt from (by have e0 : (I 79 1).toInt = (F 79 1).toInt := congrArg Int32.toInt (xFr hI 79 1 rfl); have e1 : (I 79 1).toInt = (F 79 1).toInt := congrArg Int32.toInt (xFr hI 79 1 rfl); have e2 : (I 79 0).toInt = (F 79 0).toInt := congrArg Int32.toInt (xFr hI 79 0 rfl); have e3 : (I 79 0).toInt = (F 79 0).toInt := congrArg Int32.toInt (xFr hI 79 0 rfl); have _ := t_c_147; omega)), (show ¬ (0 ≤ pa1.toInt ∧ 0 ≤ pa3.toInt ∧ 0 ≤ pa4.toInt ∧ pa1.toInt + pa4.toInt ≤ (F 79 1).toInt ∧ pa3.toInt + pa4.toInt ≤ (F 79 1).toInt) from (by have e0 : (I 79 1).toInt = (F 79 1).toInt := congrArg Int32.toInt (xFr hI 79 1 rfl); have e1 : (I 79 1).toInt = (F 79 1).toInt := congrArg Int32.toInt (xFr hI 79 1 rfl); have e2 : (I 79 0).toInt = (F 79 0).toInt := congrArg Int32.toInt (xFr hI 79 0 rfl); have e3 : (I 79 0).toInt = (F 79 0).toInt := congrArg Int32.toInt (xFr hI 79 0 rfl); have _ := nn_148; omega)), rfl, hI⟩))))
              · have t_c_147 := z_eqF c_147
                exact absurd rfl t_c_147
            · cases hu_145
              refine lv_if_ne (tgt := 52) hx hb dX10_paste_46 (by decide) (fun c_0 => absurd (zD_eq zk_0 zk_z) c_0) (fun _ => ?_)
              refine lv_bipush (v := (-6)) hx hb dX10_paste_49 (by decide +kernel) ?_
              exact z_iret (v := (-6)) hx hb hr hlocks hP hD hS dX10_paste_51 (Or.inr (Or.inl ⟨(by obtain ⟨_, _⟩ := zk_3; obtain ⟨_, _⟩ := zk_3; omega), (show (F 79 1).toInt = -1 ∨ (F 79 1).toInt = -1 from (by have e0 : (I 79 1).toInt = (F 79 1).toInt := congrArg Int32.toInt (xFr hI 79 1 rfl); have e1 : (I 79 1).toInt = (F 79 1).toInt := congrArg Int32.toInt (xFr hI 79 1 rfl); have e2 : (I 79 0).toInt = (F 79 0).toInt := congrArg Int32.toInt (xFr hI 79 0 rfl); have e3 : (I 79 0).toInt = (F 79 0).toInt := congrArg Int32.toInt (xFr hI 79 0 rfl); have _ := nn_145; have _ := nn_145; omega)), rfl, hI⟩))
          · cases hu_143
            refine lv_if_eq (tgt := 49) hx hb dX10_paste_38 (by decide) (fun _ => ?_) (fun c_0 => absurd (zD_eq zk_0 zk_z) c_0)
            refine lv_bipush (v := (-6)) hx hb dX10_paste_49 (by decide +kernel) ?_
            exact z_iret (v := (-6)) hx hb hr hlocks hP hD hS dX10_paste_51 (Or.inr (Or.inl ⟨(by obtain ⟨_, _⟩ := zk_3; obtain ⟨_, _⟩ := zk_3; omega), (show (F 79 1).toInt = -1 ∨ (F 79 1).toInt = -1 from (by have e0 : (I 79 1).toInt = (F 79 1).toInt := congrArg Int32.toInt (xFr hI 79 1 rfl); have e1 : (I 79 1).toInt = (F 79 1).toInt := congrArg Int32.toInt (xFr hI 79 1 rfl); have e2 : (I 79 0).toInt = (F 79 0).toInt := congrArg Int32.toInt (xFr hI 79 0 rfl); have e3 : (I 79 0).toInt = (F 79 0).toInt := congrArg Int32.toInt (xFr hI 79 0 rfl); have _ := nn_143; have _ := nn_143; omega)), rfl, hI⟩))
    · cases hu_2
      refine lv_if_ne (tgt := 17) hx hb dX10_paste_11 (by decide) (fun c_0 => absurd (zD_eq zk_0 zk_z) c_0) (fun _ => ?_)
      refine lv_bipush (v := (-2)) hx hb dX10_paste_14 (by decide +kernel) ?_
      exact z_iret (v := (-2)) hx hb hr hlocks hP hD hS dX10_paste_16 (Or.inl ⟨(by obtain ⟨_, _⟩ := f0_1; obtain ⟨_, _⟩ := (zR_any (pa2)); have _ := nn_2; omega), rfl, hI⟩)
  · cases hu_1
    refine lv_if_eq (tgt := 14) hx hb dX10_paste_4 (by decide) (fun _ => ?_) (fun c_0 => absurd (zD_eq zk_0 zk_z) c_0)
    refine lv_bipush (v := (-2)) hx hb dX10_paste_14 (by decide +kernel) ?_
    exact z_iret (v := (-2)) hx hb hr hlocks hP hD hS dX10_paste_16 (Or.inl ⟨(by obtain ⟨_, _⟩ := (zR_any (pa0)); obtain ⟨_, _⟩ := (zR_any (pa2)); have _ := nn_1; omega), rfl, hI⟩)
