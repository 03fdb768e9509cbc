set_option maxHeartbeats 4000000 in
set_option maxRecDepth 100000 in
theorem xk_X7_isWord_7 (l : Launch) (D : va_G) (q : Nat → Nat) (cA : Nat → ClassId) (ad av : Nat → Nat) (t9 : Nat) (F : Nat → Nat → Int32) (I R : Nat → Nat → Int32) (J : Nat → Nat → Int64) (hI : xInv F (I, R, J))  : zNi (zSS zXRs 81 q ad av t9) l D vwCl (zXtys cA) 81 q (zXd q cA) yX7_isWord cX7_isWord 3 (some .boolean) ({ frames := 4, cells := 0, slots := 0, locals := 85 } : Room) [.ref (q 1), .ref (ad 0)] (I, R, J) (fun r u => (r = nI 1 ∧ u = (I, R, J)) ∨ (r = nI 0 ∧ u = (I, R, J))) := by
  intro sz
  refine z_bodyN (by decide +kernel) (Nat.le_of_ble_eq_true rfl) (fun p e s m below meth c ls hx hb hml hr ht hown hlocks hsz hK hP hD hS hN hl => ?_)
  have hA : ∀ a, s.heap.size ≤ a → zA 81 q sz a := fun a h => Or.inr (hsz ▸ h)
  have hl : lv_has ls 3 [(0, .ref (q 1)), (1, .ref (ad 0))] := hl
  have hZ : zSz zXRs 81 q ad av t9 sz s := hsz ▸ hN
  refine lv_aload_n hx hb dX7_isWord_0 rfl (lv_at hl 0 rfl) ?_
  refine z_get hx hb ht hown hK hP ziX7 rfl 1 (by decide) 4 (by decide) hw_1_42 rfl (v := .int (I 1 4)) rfl dX7_isWord_1 ?_
  refine lv_iconst (v := nI 1) hx hb dX7_isWord_4 (by decide +kernel) ?_
  refine lv_icmp_ne (tgt := 24) hx hb dX7_isWord_5 (by decide) (fun c_1 => ?_) (fun c_1 => ?_)
  · have t_c_1 := z_eqF c_1
    refine lv_iconst (v := nI 0) hx hb dX7_isWord_24 (by decide +kernel) ?_
    exact z_zret (v := nI 0) hx hb hr hlocks hP hD hS (by decide +kernel) dX7_isWord_25 (Or.inr ⟨rfl, rfl⟩)
  · have t_c_1 := z_eqT c_1
    have f_2 : zR 1 1 (I 1 4) := zR_eqx t_c_1 zk_1
    refine lv_aload_n hx hb dX7_isWord_8 rfl (lv_at hl 0 rfl) ?_
    refine z_get hx hb ht hown hK hP ziX7 rfl 1 (by decide) 6 (by decide) hw_1_44 rfl (v := .int (I 1 6)) rfl dX7_isWord_9 ?_
    have f_3 : zR 0 800 (I 1 6) := xI hI 1 6
    refine lv_aload_n hx hb dX7_isWord_12 rfl (lv_at hl 0 rfl) ?_
    refine z_get hx hb ht hown hK hP ziX7 rfl 1 (by decide) 5 (by decide) hw_1_43 rfl (v := .int (I 1 5)) rfl dX7_isWord_13 ?_
    have f_4 : zR 0 800 (I 1 5) := xI hI 1 5
    refine lv_isub hx hb dX7_isWord_16 ?_
    refine lv_topi (fun v_5 ev_5 => ?_)
    have hv_5 : zR (-800) 800 v_5 := ev_5 ▸ zR_sub f_3 f_4 (by decide)
    refine lv_aload_n hx hb dX7_isWord_17 rfl (lv_at hl 1 rfl) ?_
    refine z_cNXi (As := []) (rest := [.int (v_5)]) hx hb hml hown ht (xk_J0_length_8abf5_7 l D q cA ad av t9 F _ _ _ hI ) hw_2_187 hmJ0_length_8abf5 ⟨rfl, rfl⟩ (na := 0) rfl (by decide +kernel) (by decide) (vk_recv hZ.1 (by decide) hS) hK hP hD hS hA (zSS_c (Rs := zXRs) (t9 := t9) (fun _ _ _ => zXRs_c)) (zSS_w (Rs := zXRs) (t9 := t9) (fun _ _ _ => zXRs_w) hN hsz hS) hl.1 rfl (Nat.le_of_ble_eq_true rfl) ⟨Nat.zero_le _, Nat.zero_le _⟩ dX7_isWord_18 (fun r_6 I_6 R_6 J_6 H locs hp_6 hP hD hS _ _ => ?_)
    obtain ⟨rfl, hu_6⟩ := hp_6
    cases hu_6
    refine lv_icmp_eq (tgt := 26) hx hb dX7_isWord_21 (by decide) (fun c_7 => ?_) (fun c_7 => ?_)
    · have t_c_7 := z_eqT c_7
      have f_8 : zR 4 4 (v_5) := zR_eqx t_c_7 zk_4
      have f_9 : zR 0 796 (I 1 5) := z_start f_3 f_4 ev_5 f_8 (by decide)
      refine lv_iconst (v := nI 0) hx hb dX7_isWord_26 (by decide +kernel) ?_
      refine lv_istore_n (lv' := [(2, .int (nI 0)), (0, .ref (q 1)), (1, .ref (ad 0))]) hx hb dX7_isWord_27 rfl hl (by decide) rfl (fun ls hl => ?_)
      have loop_43 : ∀ N : Nat, ∀ x_42 : Int32, zR 0 4 x_42 → (2147483648 - (x_42).toInt).toNat < N → ∀ (H : Heap) (locs : List Loc), va_P D vwCl (zw 81 q (zXd q cA) I R J) H → va_D (zA 81 q sz) (zw 81 q (zXd q cA) I R J) → va_S (zA 81 q sz) s.heap H locs → ∀ ls : Array Slot, lv_has ls 3 [(0, .ref (q 1)), (1, .ref (ad 0)), (2, .int (x_42))] → W p l e ({ frames := 4, cells := 0, slots := 0, locals := 85 } : Room) s m ([.ref (q 1), .ref (ad 0)] : List Value).toArray below meth c H locs 0 0 (MQ below (va_Qi (fun r u => (r = nI 1 ∧ u = (I, R, J)) ∨ (r = nI 0 ∧ u = (I, R, J))) (zB D vwCl 81 q (zXd q cA) sz) (zA 81 q sz)) ([.ref (q 1), .ref (ad 0)] : List Value).toArray s 0 0 (zA 81 q sz)) (F0 m 28 ls []) := by
        intro N
        induction N with
        | zero => intro x_42 hx_42 hN; exact absurd hN (Nat.not_lt_zero _)
        | succ N ih_45 =>
          intro x_42 hx_42 hN_44 H locs hP hD hS ls hl
          refine lv_iload_n hx hb dX7_isWord_28 rfl (lv_at hl 2 rfl) ?_
          refine lv_aload_n hx hb dX7_isWord_29 rfl (lv_at hl 1 rfl) ?_
          refine z_cNXi (As := []) (rest := [.int (x_42)]) hx hb hml hown ht (xk_J0_length_8abf5_7 l D q cA ad av t9 F _ _ _ hI ) hw_2_187 hmJ0_length_8abf5 ⟨rfl, rfl⟩ (na := 0) rfl (by decide +kernel) (by decide) (vk_recv hZ.1 (by decide) hS) hK hP hD hS hA (zSS_c (Rs := zXRs) (t9 := t9) (fun _ _ _ => zXRs_c)) (zSS_w (Rs := zXRs) (t9 := t9) (fun _ _ _ => zXRs_w) hN hsz hS) hl.1 rfl (Nat.le_of_ble_eq_true rfl) ⟨Nat.zero_le _, Nat.zero_le _⟩ dX7_isWord_30 (fun r_46 I_46 R_46 J_46 H locs hp_46 hP hD hS _ _ => ?_)
          obtain ⟨rfl, hu_46⟩ := hp_46
          cases hu_46
          refine lv_icmp_ge (tgt := 63) hx hb dX7_isWord_33 (by decide) (fun c_47 => ?_) (fun c_47 => ?_)
          · have t_c_47 := z_leT c_47
            have f_48 : zR 4 4 (x_42) := zR_ley t_c_47 zk_4 hx_42 (by decide)
            refine lv_iconst (v := nI 1) hx hb dX7_isWord_63 (by decide +kernel) ?_
            exact z_zret (v := nI 1) hx hb hr hlocks hP hD hS (by decide +kernel) dX7_isWord_64 (Or.inl ⟨rfl, rfl⟩)
          · have t_c_47 := z_leF c_47
            have f_49 : zR 0 3 (x_42) := zR_ltx t_c_47 hx_42 zk_4 (by decide)
            refine lv_aload_n hx hb dX7_isWord_36 rfl (lv_at hl 0 rfl) ?_
            refine z_get hx hb ht hown hK hP ziX7 rfl 1 (by decide) 0 (by decide) hw_1_35 rfl (v := .ref (q 2)) rfl dX7_isWord_37 ?_
            refine lv_aload_n hx hb dX7_isWord_40 rfl (lv_at hl 0 rfl) ?_
            refine z_get hx hb ht hown hK hP ziX7 rfl 1 (by decide) 5 (by decide) hw_1_43 rfl (v := .int (I 1 5)) rfl dX7_isWord_41 ?_
            refine lv_iload_n hx hb dX7_isWord_44 rfl (lv_at hl 2 rfl) ?_
            refine lv_iadd hx hb dX7_isWord_45 ?_
            refine z_rng (a := 0) (b := 799) (zR_add f_9 f_49 (by decide)) (fun v_50 hv_50 => ?_)
            refine z_bald hx hb hK hP 2 (by decide) 0 rfl rfl (zR_vin hv_50 (by decide)) dX7_isWord_46 ?_
            refine z_eqi (y := R 2 (v_50).toNatClampNeg) rfl ?_
            refine lv_aload_n hx hb dX7_isWord_47 rfl (lv_at hl 1 rfl) ?_
            refine lv_iload_n hx hb dX7_isWord_48 rfl (lv_at hl 2 rfl) ?_
            refine z_cNXi (As := [.int (x_42)]) (rest := [.int (R 2 (v_50).toNatClampNeg)]) hx hb hml hown ht (xk_J0_charAt_5068e_14 l D q cA ad av t9 F _ _ _ hI (x_42) f_49) hw_2_197 hmJ0_charAt_5068e ⟨rfl, rfl⟩ (na := 1) rfl (by decide +kernel) (by decide) (vk_recv hZ.1 (by decide) hS) hK hP hD hS hA (zSS_c (Rs := zXRs) (t9 := t9) (fun _ _ _ => zXRs_c)) (zSS_w (Rs := zXRs) (t9 := t9) (fun _ _ _ => zXRs_w) hN hsz hS) hl.1 rfl (Nat.le_of_ble_eq_true rfl) ⟨Nat.zero_le _, Nat.zero_le _⟩ dX7_isWord_49 (fun r_51 I_51 R_51 J_51 H locs hp_51 hP hD hS _ _ => ?_)
            obtain ⟨hr_51, hu_51⟩ := hp_51
            cases hu_51
            refine lv_icmp_eq (tgt := 57) hx hb dX7_isWord_52 (by decide) (fun c_52 => ?_) (fun c_52 => ?_)
            · have t_c_52 := z_eqT c_52
              have f_53 : zR 0 65535 (R 2 (v_50).toNatClampNeg) := zR_eqx t_c_52 hr_51
              obtain ⟨v_54, ev_54⟩ : ∃ y : Int32, y = x_42 + nI 1 := ⟨_, rfl⟩
              have hv_54 : zR 1 4 v_54 := ev_54 ▸ zR_add f_49 zk_1 (by decide)
              have mv_54 : v_54.toInt = (x_42).toInt + 1 := by rw [ev_54, zR_addE f_49 zk_1 (by decide)]; rfl
              refine lv_iinc (v := v_54) (lv' := [(2, .int (v_54)), (0, .ref (q 1)), (1, .ref (ad 0))]) hx hb dX7_isWord_57 hl (k := 2) rfl (ev_54 ▸ rfl) (by decide) rfl (fun ls hl => ?_)
              refine lv_goto (tgt := 28) hx hb dX7_isWord_60 (by decide) ?_
              exact ih_45 (v_54) (zR_w hv_54 (by decide)) (z2_up mv_54 (by decide) hN_44) _ _ hP hD hS _ (lv_sub hl [1, 2, 0] rfl)
            · have t_c_52 := z_eqF c_52
              refine lv_iconst (v := nI 0) hx hb dX7_isWord_55 (by decide +kernel) ?_
              exact z_zret (v := nI 0) hx hb hr hlocks hP hD hS (by decide +kernel) dX7_isWord_56 (Or.inr ⟨rfl, rfl⟩)
      exact loop_43 _ (nI 0) (zR_w zk_0 (by decide)) (Nat.lt_succ_self _) _ _ hP hD hS _ (lv_sub hl [1, 2, 0] rfl)
    · have t_c_7 := z_eqF c_7
      refine lv_iconst (v := nI 0) hx hb dX7_isWord_24 (by decide +kernel) ?_
      exact z_zret (v := nI 0) hx hb hr hlocks hP hD hS (by decide +kernel) dX7_isWord_25 (Or.inr ⟨rfl, rfl⟩)
set_option maxHeartbeats 4000000 in
set_option maxRecDepth 100000 in
theorem xk_J0_coder_7d493_8 (l : Launch) (D : va_G) (q : Nat → Nat) (cA : Nat → ClassId) (ad av : Nat → Nat) (t9 : Nat) (F : Nat → Nat → Int32) (I R : Nat → Nat → Int32) (J : Nat → Nat → Int64) (hI : xInv F (I, R, J))  : zNi (zSS zXRs 81 q ad av t9) l D vwCl (zXtys cA) 81 q (zXd q cA) yJ0_coder_7d493 cJ0_coder_7d493 1 (some .byte) ({ frames := 0, cells := 0, slots := 0, locals := 0 } : Room) [.ref (ad 1)] (I, R, J) (fun r u => r = nI 0 ∧ u = (I, R, J)) := by
  intro sz
  refine z_bodyN (by decide +kernel) (Nat.le_of_ble_eq_true rfl) (fun p e s m below meth c ls hx hb hml hr ht hown hlocks hsz hK hP hD hS hN hl => ?_)
  have hA : ∀ a, s.heap.size ≤ a → zA 81 q sz a := fun a h => Or.inr (hsz ▸ h)
  have hl : lv_has ls 1 [(0, .ref (ad 1))] := hl
  have hZ : zSz zXRs 81 q ad av t9 sz s := hsz ▸ hN
  refine va_gets hx hb hZ.2.1 hS hown (ht _ hw_2_195) (fun _ h => h) dJ0_coder_7d493_0 ?_
  refine z_eqi (y := nI 1) rfl ?_
  refine lv_if_eq (tgt := 13) hx hb dJ0_coder_7d493_3 (by decide) (fun c_0 => absurd c_0 (zD_ne zk_1 zk_z (by decide))) (fun _ => ?_)
  refine lv_aload_n hx hb dJ0_coder_7d493_6 rfl (lv_at hl 0 rfl) ?_
  refine vk_getf hx hb (hZ.1.1 1 (by decide)).2.1 hS hown (ht _ hw_8_165) (fun _ h => h) dJ0_coder_7d493_7 ?_
  refine z_eqi (y := nI 0) rfl ?_
  refine lv_goto (tgt := 14) hx hb dJ0_coder_7d493_10 (by decide) ?_
  exact z_zret (v := nI 0) hx hb hr hlocks hP hD hS (by decide +kernel) dJ0_coder_7d493_14 ⟨rfl, rfl⟩
set_option maxHeartbeats 4000000 in
set_option maxRecDepth 100000 in
theorem xk_J0_length_8abf5_8 (l : Launch) (D : va_G) (q : Nat → Nat) (cA : Nat → ClassId) (ad av : Nat → Nat) (t9 : Nat) (F : Nat → Nat → Int32) (I R : Nat → Nat → Int32) (J : Nat → Nat → Int64) (hI : xInv F (I, R, J))  : zNi (zSS zXRs 81 q ad av t9) l D vwCl (zXtys cA) 81 q (zXd q cA) yJ0_length_8abf5 cJ0_length_8abf5 1 (some .int) ({ frames := 1, cells := 0, slots := 0, locals := 20 } : Room) [.ref (ad 1)] (I, R, J) (fun r u => r = nI 4 ∧ u = (I, R, J)) := by
  intro sz
  refine z_bodyN (by decide +kernel) (Nat.le_of_ble_eq_true rfl) (fun p e s m below meth c ls hx hb hml hr ht hown hlocks hsz hK hP hD hS hN hl => ?_)
  have hA : ∀ a, s.heap.size ≤ a → zA 81 q sz a := fun a h => Or.inr (hsz ▸ h)
  have hl : lv_has ls 1 [(0, .ref (ad 1))] := hl
  have hZ : zSz zXRs 81 q ad av t9 sz s := hsz ▸ hN
  refine lv_aload_n hx hb dJ0_length_8abf5_0 rfl (lv_at hl 0 rfl) ?_
  refine vk_getf hx hb (hZ.1.1 1 (by decide)).2.2.1 hS hown (ht _ hw_8_164) (fun _ h => h) dJ0_length_8abf5_1 ?_
  refine va_tlen hx hb (hZ.1.1 1 (by decide)).2.2.2 hS (v := nI 4) rfl dJ0_length_8abf5_4 ?_
  refine lv_aload_n hx hb dJ0_length_8abf5_5 rfl (lv_at hl 0 rfl) ?_
  refine z_cNXi (As := []) (rest := [.int (nI 4)]) hx hb hml hown ht (xk_J0_coder_7d493_8 l D q cA ad av t9 F _ _ _ hI ) hw_2_191 hmJ0_coder_7d493 ⟨rfl, rfl⟩ (na := 0) rfl (by decide +kernel) (by decide) (vk_recv hZ.1 (by decide) hS) hK hP hD hS hA (zSS_c (Rs := zXRs) (t9 := t9) (fun _ _ _ => zXRs_c)) (zSS_w (Rs := zXRs) (t9 := t9) (fun _ _ _ => zXRs_w) hN hsz hS) hl.1 rfl (Nat.le_of_ble_eq_true rfl) ⟨Nat.zero_le _, Nat.zero_le _⟩ dJ0_length_8abf5_6 (fun r_1 I_1 R_1 J_1 H locs hp_1 hP hD hS _ _ => ?_)
  obtain ⟨rfl, hu_1⟩ := hp_1
  cases hu_1
  refine lv_ishr hx hb dJ0_length_8abf5_9 ?_
  refine z_eqi (y := nI 4) (by decide +kernel) ?_
  exact z_iret (v := nI 4) hx hb hr hlocks hP hD hS dJ0_length_8abf5_10 ⟨rfl, rfl⟩
set_option maxHeartbeats 4000000 in
set_option maxRecDepth 100000 in
theorem xk_J0_isLatin1_aae02_8 (l : Launch) (D : va_G) (q : Nat → Nat) (cA : Nat → ClassId) (ad av : Nat → Nat) (t9 : Nat) (F : Nat → Nat → Int32) (I R : Nat → Nat → Int32) (J : Nat → Nat → Int64) (hI : xInv F (I, R, J))  : zNi (zSS zXRs 81 q ad av t9) l D vwCl (zXtys cA) 81 q (zXd q cA) yJ0_isLatin1_aae02 cJ0_isLatin1_aae02 1 (some .boolean) ({ frames := 0, cells := 0, slots := 0, locals := 0 } : Room) [.ref (ad 1)] (I, R, J) (fun r u => (r = nI 1 ∧ u = (I, R, J))) := by
  intro sz
  refine z_bodyN (by decide +kernel) (Nat.le_of_ble_eq_true rfl) (fun p e s m below meth c ls hx hb hml hr ht hown hlocks hsz hK hP hD hS hN hl => ?_)
  have hA : ∀ a, s.heap.size ≤ a → zA 81 q sz a := fun a h => Or.inr (hsz ▸ h)
  have hl : lv_has ls 1 [(0, .ref (ad 1))] := hl
  have hZ : zSz zXRs 81 q ad av t9 sz s := hsz ▸ hN
  refine va_gets hx hb hZ.2.1 hS hown (ht _ hw_2_195) (fun _ h => h) dJ0_isLatin1_aae02_0 ?_
  refine z_eqi (y := nI 1) rfl ?_
  refine lv_if_eq (tgt := 17) hx hb dJ0_isLatin1_aae02_3 (by decide) (fun c_0 => absurd c_0 (zD_ne zk_1 zk_z (by decide))) (fun _ => ?_)
  refine lv_aload_n hx hb dJ0_isLatin1_aae02_6 rfl (lv_at hl 0 rfl) ?_
  refine vk_getf hx hb (hZ.1.1 1 (by decide)).2.1 hS hown (ht _ hw_8_165) (fun _ h => h) dJ0_isLatin1_aae02_7 ?_
  refine z_eqi (y := nI 0) rfl ?_
  refine lv_if_ne (tgt := 17) hx hb dJ0_isLatin1_aae02_10 (by decide) (fun c_0 => absurd (zD_eq zk_0 zk_z) c_0) (fun _ => ?_)
  refine lv_iconst (v := nI 1) hx hb dJ0_isLatin1_aae02_13 (by decide +kernel) ?_
  refine lv_goto (tgt := 18) hx hb dJ0_isLatin1_aae02_14 (by decide) ?_
  exact z_zret (v := nI 1) hx hb hr hlocks hP hD hS (by decide +kernel) dJ0_isLatin1_aae02_18 ⟨rfl, rfl⟩
set_option maxHeartbeats 4000000 in
set_option maxRecDepth 100000 in
theorem xk_J1_charAt_3b067_16 (l : Launch) (D : va_G) (q : Nat → Nat) (cA : Nat → ClassId) (ad av : Nat → Nat) (t9 : Nat) (F : Nat → Nat → Int32) (I R : Nat → Nat → Int32) (J : Nat → Nat → Int64) (hI : xInv F (I, R, J)) (pa1 : Int32) (hpa1 : zR 0 3 pa1) : zNi (zSS zXRs 81 q ad av t9) l D vwCl (zXtys cA) 81 q (zXd q cA) yJ1_charAt_3b067 cJ1_charAt_3b067 2 (some .char) ({ frames := 2, cells := 0, slots := 0, locals := 43 } : Room) [.ref (av 1), .int (pa1)] (I, R, J) (fun r u => zR 0 65535 r ∧ u = (I, R, J)) := by
  intro sz
  refine z_bodyN (by decide +kernel) (Nat.le_of_ble_eq_true rfl) (fun p e s m below meth c ls hx hb hml hr ht hown hlocks hsz hK hP hD hS hN hl => ?_)
  have hA : ∀ a, s.heap.size ≤ a → zA 81 q sz a := fun a h => Or.inr (hsz ▸ h)
  have hl : lv_has ls 2 [(0, .ref (av 1)), (1, .int (pa1))] := hl
  have hZ : zSz zXRs 81 q ad av t9 sz s := hsz ▸ hN
  refine lv_iload_n hx hb dJ1_charAt_3b067_0 rfl (lv_at hl 1 rfl) ?_
  refine lv_aload_n hx hb dJ1_charAt_3b067_1 rfl (lv_at hl 0 rfl) ?_
  refine va_tlen hx hb (hZ.1.1 1 (by decide)).2.2.2 hS (v := nI 4) rfl dJ1_charAt_3b067_2 ?_
  refine z_cNSv (As := [.int (pa1), .int (nI 4)]) (rest := []) hx hb hml hown ht (xk_J0_checkIndex_df160_6 l D q cA ad av t9 F _ _ _ hI (pa1) hpa1) hw_2_208 hmJ0_checkIndex_df160 ⟨rfl, rfl⟩ (na := 2) rfl (by decide +kernel) (by decide) hK hP hD hS hA (zSS_c (Rs := zXRs) (t9 := t9) (fun _ _ _ => zXRs_c)) (zSS_w (Rs := zXRs) (t9 := t9) (fun _ _ _ => zXRs_w) hN hsz hS) hl.1 rfl (Nat.le_of_ble_eq_true rfl) ⟨Nat.zero_le _, Nat.zero_le _⟩ dJ1_charAt_3b067_3 (fun I_1 R_1 J_1 H locs hp_1 hP hD hS _ _ => ?_)
  cases hp_1
  refine lv_aload_n hx hb dJ1_charAt_3b067_6 rfl (lv_at hl 0 rfl) ?_
  refine lv_iload_n hx hb dJ1_charAt_3b067_7 rfl (lv_at hl 1 rfl) ?_
  refine va_tb hx hb (hZ.1.1 1 (by decide)).2.2.2 hS (zR_vin hpa1 (by decide)) rfl dJ1_charAt_3b067_8 ?_
  refine z_any (fun v_2 => ?_)
  refine lv_sipush (v := nI 255) hx hb dJ1_charAt_3b067_9 (by decide +kernel) ?_
  refine lv_iand hx hb dJ1_charAt_3b067_12 ?_
  refine z_rng (a := 0) (b := 255) (zR_andr zk_255 (by decide)) (fun v_3 hv_3 => ?_)
  refine lv_i2c hx hb dJ1_charAt_3b067_13 rfl ?_
  refine z_rng (a := 0) (b := 65535) (zR_i2c _) (fun v_4 hv_4 => ?_)
  exact z_zret (v := v_4) hx hb hr hlocks hP hD hS (zR_char hv_4) dJ1_charAt_3b067_14 ⟨hv_4, rfl⟩
set_option maxHeartbeats 4000000 in
set_option maxRecDepth 100000 in
theorem xk_J0_charAt_5068e_16 (l : Launch) (D : va_G) (q : Nat → Nat) (cA : Nat → ClassId) (ad av : Nat → Nat) (t9 : Nat) (F : Nat → Nat → Int32) (I R : Nat → Nat → Int32) (J : Nat → Nat → Int64) (hI : xInv F (I, R, J)) (pa0 : Int32) (hpa0 : zR 0 3 pa0) : zNi (zSS zXRs 81 q ad av t9) l D vwCl (zXtys cA) 81 q (zXd q cA) yJ0_charAt_5068e cJ0_charAt_5068e 2 (some .char) ({ frames := 3, cells := 0, slots := 0, locals := 64 } : Room) [.ref (ad 1), .int (pa0)] (I, R, J) (fun r u => zR 0 65535 r ∧ u = (I, R, J)) := by
  intro sz
  refine z_bodyN (by decide +kernel) (Nat.le_of_ble_eq_true rfl) (fun p e s m below meth c ls hx hb hml hr ht hown hlocks hsz hK hP hD hS hN hl => ?_)
  have hA : ∀ a, s.heap.size ≤ a → zA 81 q sz a := fun a h => Or.inr (hsz ▸ h)
  have hl : lv_has ls 2 [(0, .ref (ad 1)), (1, .int (pa0))] := hl
  have hZ : zSz zXRs 81 q ad av t9 sz s := hsz ▸ hN
  refine lv_aload_n hx hb dJ0_charAt_5068e_0 rfl (lv_at hl 0 rfl) ?_
  refine z_cNXi (As := []) (rest := []) hx hb hml hown ht (xk_J0_isLatin1_aae02_8 l D q cA ad av t9 F _ _ _ hI ) hw_2_201 hmJ0_isLatin1_aae02 ⟨rfl, rfl⟩ (na := 0) rfl (by decide +kernel) (by decide) (vk_recv hZ.1 (by decide) hS) hK hP hD hS hA (zSS_c (Rs := zXRs) (t9 := t9) (fun _ _ _ => zXRs_c)) (zSS_w (Rs := zXRs) (t9 := t9) (fun _ _ _ => zXRs_w) hN hsz hS) hl.1 rfl (Nat.le_of_ble_eq_true rfl) ⟨Nat.zero_le _, Nat.zero_le _⟩ dJ0_charAt_5068e_1 (fun r_1 I_1 R_1 J_1 H locs hp_1 hP hD hS _ _ => ?_)
  obtain ⟨rfl, hu_1⟩ := hp_1
  cases hu_1
  refine lv_if_eq (tgt := 16) hx hb dJ0_charAt_5068e_4 (by decide) (fun c_0 => absurd c_0 (zD_ne zk_1 zk_z (by decide))) (fun _ => ?_)
  refine lv_aload_n hx hb dJ0_charAt_5068e_7 rfl (lv_at hl 0 rfl) ?_
  refine vk_getf hx hb (hZ.1.1 1 (by decide)).2.2.1 hS hown (ht _ hw_8_164) (fun _ h => h) dJ0_charAt_5068e_8 ?_
  refine lv_iload_n hx hb dJ0_charAt_5068e_11 rfl (lv_at hl 1 rfl) ?_
  refine z_cNSi (As := [.ref (av 1), .int (pa0)]) (rest := []) hx hb hml hown ht (xk_J1_charAt_3b067_16 l D q cA ad av t9 F _ _ _ hI (pa0) hpa0) hw_2_205 hmJ1_charAt_3b067 ⟨rfl, rfl⟩ (na := 2) rfl (by decide +kernel) (by decide) hK hP hD hS hA (zSS_c (Rs := zXRs) (t9 := t9) (fun _ _ _ => zXRs_c)) (zSS_w (Rs := zXRs) (t9 := t9) (fun _ _ _ => zXRs_w) hN hsz hS) hl.1 rfl (Nat.le_of_ble_eq_true rfl) ⟨Nat.zero_le _, Nat.zero_le _⟩ dJ0_charAt_5068e_12 (fun r_2 I_2 R_2 J_2 H locs hp_2 hP hD hS _ _ => ?_)
  obtain ⟨hr_2, hu_2⟩ := hp_2
  cases hu_2
  exact z_zret (v := r_2) hx hb hr hlocks hP hD hS (zR_char hr_2) dJ0_charAt_5068e_15 ⟨hr_2, rfl⟩
set_option maxHeartbeats 4000000 in
set_option maxRecDepth 100000 in
theorem xk_X7_isWord_8 (l : Launch) (D : va_G) (q : Nat → Nat) (cA : Nat → ClassId) (ad av : Nat → Nat) (t9 : Nat) (F : Nat → Nat → Int32) (I R : Nat → Nat → Int32) (J : Nat → Nat → Int64) (hI : xInv F (I, R, J))  : zNi (zSS zXRs 81 q ad av t9) l D vwCl (zXtys cA) 81 q (zXd q cA) yX7_isWord cX7_isWord 3 (some .boolean) ({ frames := 4, cells := 0, slots := 0, locals := 85 } : Room) [.ref (q 1), .ref (ad 1)] (I, R, J) (fun r u => (r = nI 1 ∧ u = (I, R, J)) ∨ (r = nI 0 ∧ u = (I, R, J))) := by
  intro sz
  refine z_bodyN (by decide +kernel) (Nat.le_of_ble_eq_true rfl) (fun p e s m below meth c ls hx hb hml hr ht hown hlocks hsz hK hP hD hS hN hl => ?_)
  have hA : ∀ a, s.heap.size ≤ a → zA 81 q sz a := fun a h => Or.inr (hsz ▸ h)
  have hl : lv_has ls 3 [(0, .ref (q 1)), (1, .ref (ad 1))] := hl
  have hZ : zSz zXRs 81 q ad av t9 sz s := hsz ▸ hN
  refine lv_aload_n hx hb dX7_isWord_0 rfl (lv_at hl 0 rfl) ?_
  refine z_get hx hb ht hown hK hP ziX7 rfl 1 (by decide) 4 (by decide) hw_1_42 rfl (v := .int (I 1 4)) rfl dX7_isWord_1 ?_
  refine lv_iconst (v := nI 1) hx hb dX7_isWord_4 (by decide +kernel) ?_
  refine lv_icmp_ne (tgt := 24) hx hb dX7_isWord_5 (by decide) (fun c_1 => ?_) (fun c_1 => ?_)
  · have t_c_1 := z_eqF c_1
    refine lv_iconst (v := nI 0) hx hb dX7_isWord_24 (by decide +kernel) ?_
    exact z_zret (v := nI 0) hx hb hr hlocks hP hD hS (by decide +kernel) dX7_isWord_25 (Or.inr ⟨rfl, rfl⟩)
  · have t_c_1 := z_eqT c_1
    have f_2 : zR 1 1 (I 1 4) := zR_eqx t_c_1 zk_1
    refine lv_aload_n hx hb dX7_isWord_8 rfl (lv_at hl 0 rfl) ?_
    refine z_get hx hb ht hown hK hP ziX7 rfl 1 (by decide) 6 (by decide) hw_1_44 rfl (v := .int (I 1 6)) rfl dX7_isWord_9 ?_
    have f_3 : zR 0 800 (I 1 6) := xI hI 1 6
    refine lv_aload_n hx hb dX7_isWord_12 rfl (lv_at hl 0 rfl) ?_
    refine z_get hx hb ht hown hK hP ziX7 rfl 1 (by decide) 5 (by decide) hw_1_43 rfl (v := .int (I 1 5)) rfl dX7_isWord_13 ?_
    have f_4 : zR 0 800 (I 1 5) := xI hI 1 5
    refine lv_isub hx hb dX7_isWord_16 ?_
    refine lv_topi (fun v_5 ev_5 => ?_)
    have hv_5 : zR (-800) 800 v_5 := ev_5 ▸ zR_sub f_3 f_4 (by decide)
    refine lv_aload_n hx hb dX7_isWord_17 rfl (lv_at hl 1 rfl) ?_
    refine z_cNXi (As := []) (rest := [.int (v_5)]) hx hb hml hown ht (xk_J0_length_8abf5_8 l D q cA ad av t9 F _ _ _ hI ) hw_2_187 hmJ0_length_8abf5 ⟨rfl, rfl⟩ (na := 0) rfl (by decide +kernel) (by decide) (vk_recv hZ.1 (by decide) hS) hK hP hD hS hA (zSS_c (Rs := zXRs) (t9 := t9) (fun _ _ _ => zXRs_c)) (zSS_w (Rs := zXRs) (t9 := t9) (fun _ _ _ => zXRs_w) hN hsz hS) hl.1 rfl (Nat.le_of_ble_eq_true rfl) ⟨Nat.zero_le _, Nat.zero_le _⟩ dX7_isWord_18 (fun r_6 I_6 R_6 J_6 H locs hp_6 hP hD hS _ _ => ?_)
    obtain ⟨rfl, hu_6⟩ := hp_6
    cases hu_6
    refine lv_icmp_eq (tgt := 26) hx hb dX7_isWord_21 (by decide) (fun c_7 => ?_) (fun c_7 => ?_)
    · have t_c_7 := z_eqT c_7
      have f_8 : zR 4 4 (v_5) := zR_eqx t_c_7 zk_4
      have f_9 : zR 0 796 (I 1 5) := z_start f_3 f_4 ev_5 f_8 (by decide)
      refine lv_iconst (v := nI 0) hx hb dX7_isWord_26 (by decide +kernel) ?_
      refine lv_istore_n (lv' := [(2, .int (nI 0)), (0, .ref (q 1)), (1, .ref (ad 1))]) hx hb dX7_isWord_27 rfl hl (by decide) rfl (fun ls hl => ?_)
      have loop_43 : ∀ N : Nat, ∀ x_42 : Int32, zR 0 4 x_42 → (2147483648 - (x_42).toInt).toNat < N → ∀ (H : Heap) (locs : List Loc), va_P D vwCl (zw 81 q (zXd q cA) I R J) H → va_D (zA 81 q sz) (zw 81 q (zXd q cA) I R J) → va_S (zA 81 q sz) s.heap H locs → ∀ ls : Array Slot, lv_has ls 3 [(0, .ref (q 1)), (1, .ref (ad 1)), (2, .int (x_42))] → W p l e ({ frames := 4, cells := 0, slots := 0, locals := 85 } : Room) s m ([.ref (q 1), .ref (ad 1)] : List Value).toArray below meth c H locs 0 0 (MQ below (va_Qi (fun r u => (r = nI 1 ∧ u = (I, R, J)) ∨ (r = nI 0 ∧ u = (I, R, J))) (zB D vwCl 81 q (zXd q cA) sz) (zA 81 q sz)) ([.ref (q 1), .ref (ad 1)] : List Value).toArray s 0 0 (zA 81 q sz)) (F0 m 28 ls []) := by
        intro N
        induction N with
        | zero => intro x_42 hx_42 hN; exact absurd hN (Nat.not_lt_zero _)
        | succ N ih_45 =>
          intro x_42 hx_42 hN_44 H locs hP hD hS ls hl
          refine lv_iload_n hx hb dX7_isWord_28 rfl (lv_at hl 2 rfl) ?_
          refine lv_aload_n hx hb dX7_isWord_29 rfl (lv_at hl 1 rfl) ?_
          refine z_cNXi (As := []) (rest := [.int (x_42)]) hx hb hml hown ht (xk_J0_length_8abf5_8 l D q cA ad av t9 F _ _ _ hI ) hw_2_187 hmJ0_length_8abf5 ⟨rfl, rfl⟩ (na := 0) rfl (by decide +kernel) (by decide) (vk_recv hZ.1 (by decide) hS) hK hP hD hS hA (zSS_c (Rs := zXRs) (t9 := t9) (fun _ _ _ => zXRs_c)) (zSS_w (Rs := zXRs) (t9 := t9) (fun _ _ _ => zXRs_w) hN hsz hS) hl.1 rfl (Nat.le_of_ble_eq_true rfl) ⟨Nat.zero_le _, Nat.zero_le _⟩ dX7_isWord_30 (fun r_46 I_46 R_46 J_46 H locs hp_46 hP hD hS _ _ => ?_)
          obtain ⟨rfl, hu_46⟩ := hp_46
          cases hu_46
          refine lv_icmp_ge (tgt := 63) hx hb dX7_isWord_33 (by decide) (fun c_47 => ?_) (fun c_47 => ?_)
          · have t_c_47 := z_leT c_47
            have f_48 : zR 4 4 (x_42) := zR_ley t_c_47 zk_4 hx_42 (by decide)
            refine lv_iconst (v := nI 1) hx hb dX7_isWord_63 (by decide +kernel) ?_
            exact z_zret (v := nI 1) hx hb hr hlocks hP hD hS (by decide +kernel) dX7_isWord_64 (Or.inl ⟨rfl, rfl⟩)
          · have t_c_47 := z_leF c_47
            have f_49 : zR 0 3 (x_42) := zR_ltx t_c_47 hx_42 zk_4 (by decide)
            refine lv_aload_n hx hb dX7_isWord_36 rfl (lv_at hl 0 rfl) ?_
            refine z_get hx hb ht hown hK hP ziX7 rfl 1 (by decide) 0 (by decide) hw_1_35 rfl (v := .ref (q 2)) rfl dX7_isWord_37 ?_
            refine lv_aload_n hx hb dX7_isWord_40 rfl (lv_at hl 0 rfl) ?_
            refine z_get hx hb ht hown hK hP ziX7 rfl 1 (by decide) 5 (by decide) hw_1_43 rfl (v := .int (I 1 5)) rfl dX7_isWord_41 ?_
            refine lv_iload_n hx hb dX7_isWord_44 rfl (lv_at hl 2 rfl) ?_
            refine lv_iadd hx hb dX7_isWord_45 ?_
            refine z_rng (a := 0) (b := 799) (zR_add f_9 f_49 (by decide)) (fun v_50 hv_50 => ?_)
            refine z_bald hx hb hK hP 2 (by decide) 0 rfl rfl (zR_vin hv_50 (by decide)) dX7_isWord_46 ?_
            refine z_eqi (y := R 2 (v_50).toNatClampNeg) rfl ?_
            refine lv_aload_n hx hb dX7_isWord_47 rfl (lv_at hl 1 rfl) ?_
            refine lv_iload_n hx hb dX7_isWord_48 rfl (lv_at hl 2 rfl) ?_
            refine z_cNXi (As := [.int (x_42)]) (rest := [.int (R 2 (v_50).toNatClampNeg)]) hx hb hml hown ht (xk_J0_charAt_5068e_16 l D q cA ad av t9 F _ _ _ hI (x_42) f_49) hw_2_197 hmJ0_charAt_5068e ⟨rfl, rfl⟩ (na := 1) rfl (by decide +kernel) (by decide) (vk_recv hZ.1 (by decide) hS) hK hP hD hS hA (zSS_c (Rs := zXRs) (t9 := t9) (fun _ _ _ => zXRs_c)) (zSS_w (Rs := zXRs) (t9 := t9) (fun _ _ _ => zXRs_w) hN hsz hS) hl.1 rfl (Nat.le_of_ble_eq_true rfl) ⟨Nat.zero_le _, Nat.zero_le _⟩ dX7_isWord_49 (fun r_51 I_51 R_51 J_51 H locs hp_51 hP hD hS _ _ => ?_)
            obtain ⟨hr_51, hu_51⟩ := hp_51
            cases hu_51
            refine lv_icmp_eq (tgt := 57) hx hb dX7_isWord_52 (by decide) (fun c_52 => ?_) (fun c_52 => ?_)
            · have t_c_52 := z_eqT c_52
              have f_53 : zR 0 65535 (R 2 (v_50).toNatClampNeg) := zR_eqx t_c_52 hr_51
              obtain ⟨v_54, ev_54⟩ : ∃ y : Int32, y = x_42 + nI 1 := ⟨_, rfl⟩
              have hv_54 : zR 1 4 v_54 := ev_54 ▸ zR_add f_49 zk_1 (by decide)
              have mv_54 : v_54.toInt = (x_42).toInt + 1 := by rw [ev_54, zR_addE f_49 zk_1 (by decide)]; rfl
              refine lv_iinc (v := v_54) (lv' := [(2, .int (v_54)), (0, .ref (q 1)), (1, .ref (ad 1))]) hx hb dX7_isWord_57 hl (k := 2) rfl (ev_54 ▸ rfl) (by decide) rfl (fun ls hl => ?_)
              refine lv_goto (tgt := 28) hx hb dX7_isWord_60 (by decide) ?_
              exact ih_45 (v_54) (zR_w hv_54 (by decide)) (z2_up mv_54 (by decide) hN_44) _ _ hP hD hS _ (lv_sub hl [1, 2, 0] rfl)
            · have t_c_52 := z_eqF c_52
              refine lv_iconst (v := nI 0) hx hb dX7_isWord_55 (by decide +kernel) ?_
              exact z_zret (v := nI 0) hx hb hr hlocks hP hD hS (by decide +kernel) dX7_isWord_56 (Or.inr ⟨rfl, rfl⟩)
      exact loop_43 _ (nI 0) (zR_w zk_0 (by decide)) (Nat.lt_succ_self _) _ _ hP hD hS _ (lv_sub hl [1, 2, 0] rfl)
    · have t_c_7 := z_eqF c_7
      refine lv_iconst (v := nI 0) hx hb dX7_isWord_24 (by decide +kernel) ?_
      exact z_zret (v := nI 0) hx hb hr hlocks hP hD hS (by decide +kernel) dX7_isWord_25 (Or.inr ⟨rfl, rfl⟩)
set_option maxHeartbeats 4000000 in
set_option maxRecDepth 100000 in
theorem xk_X7_number_5 (l : Launch) (D : va_G) (q : Nat → Nat) (cA : Nat → ClassId) (F : Nat → Nat → Int32) (I R : Nat → Nat → Int32) (J : Nat → Nat → Int64) (hI : xInv F (I, R, J))  : zMi l D vwCl (zXtys cA) 81 q (zXd q cA) yX7_number cX7_number 4 (some .int) ({ frames := 2, cells := 0, slots := 0, locals := 40 } : Room) [.ref (q 1), .int (nI 0), .int (nI 50)] (I, R, J) (fun r u => zR 0 50 r ∧ (xInv F u ∧ (∀ k, k ≠ 1 → u.1 k = I k) ∧ u.2 = (R, J))) := by
  intro sz
  refine z_body (by decide +kernel) (Nat.le_of_ble_eq_true rfl) (fun p e s m below meth c ls hx hb hml hr ht hown hlocks hsz hK hP hD hS hl => ?_)
  have hA : ∀ a, s.heap.size ≤ a → zA 81 q sz a := fun a h => Or.inr (hsz ▸ h)
  have hl : lv_has ls 4 [(0, .ref (q 1)), (1, .int (nI 0)), (2, .int (nI 50))] := hl
  refine lv_aload_n hx hb dX7_number_0 rfl (lv_at hl 0 rfl) ?_
  refine z_get hx hb ht hown hK hP ziX7 rfl 1 (by decide) 4 (by decide) hw_1_42 rfl (v := .int (I 1 4)) rfl dX7_number_1 ?_
  refine lv_iconst (v := nI 2) hx hb dX7_number_4 (by decide +kernel) ?_
  refine lv_icmp_eq (tgt := 15) hx hb dX7_number_5 (by decide) (fun c_1 => ?_) (fun c_1 => ?_)
  · have t_c_1 := z_eqT c_1
    have f_2 : zR 2 2 (I 1 4) := zR_eqx t_c_1 zk_2
    refine lv_aload_n hx hb dX7_number_15 rfl (lv_at hl 0 rfl) ?_
    refine z_callVi (k := 1) (As := []) (rest := []) hx hb hml hown ht (xk_X7_told l D q cA F _ _ _ hI ) hw_3_8 hmX7_told ⟨rfl, rfl⟩ (na := 0) rfl (by decide +kernel) (by decide) (by decide) rfl rfl hK hP hD hS hA hl.1 rfl (Nat.le_of_ble_eq_true rfl) ⟨Nat.zero_le _, Nat.zero_le _⟩ dX7_number_16 (fun r_3 I_3 R_3 J_3 H locs hp_3 hP hD hS _ _ => ?_)
    cases hp_3
    refine lv_istore_n (lv' := [(3, .int (r_3)), (0, .ref (q 1)), (1, .int (nI 0)), (2, .int (nI 50))]) hx hb dX7_number_19 rfl hl (by decide) rfl (fun ls hl => ?_)
    refine lv_iload_n hx hb dX7_number_20 rfl (lv_at hl 0 rfl) ?_
    refine lv_iload_n hx hb dX7_number_21 rfl (lv_at hl 2 rfl) ?_
    refine lv_icmp_lt (tgt := 30) hx hb dX7_number_22 (by decide) (fun c_4 => ?_) (fun c_4 => ?_)
    · have t_c_4 := z_ltT c_4
      have f_5 : zR (-2147483648) (-1) (r_3) := zR_ltx t_c_4 (zR_any (r_3)) zk_0 (by decide)
      refine lv_aload_n hx hb dX7_number_30 rfl (lv_at hl 1 rfl) ?_
      refine lv_iconst (v := nI 2) hx hb dX7_number_31 (by decide +kernel) ?_
      refine z_callVv (k := 1) (As := [.int (nI 2)]) (rest := []) hx hb hml hown ht (xk_X7_refuse_1 l D q cA F _ _ _ hI (nI 2) (zR_w zk_2 (by decide))) hw_2_239 hmX7_refuse ⟨rfl, rfl⟩ (na := 1) rfl (by decide +kernel) (by decide) (by decide) rfl rfl hK hP hD hS hA hl.1 rfl (Nat.le_of_ble_eq_true rfl) ⟨Nat.zero_le _, Nat.zero_le _⟩ dX7_number_32 (fun I_6 R_6 J_6 H locs hp_6 hP hD hS _ _ => ?_)
      obtain ⟨hv_6, hk_6, hj_6⟩ := hp_6
      dsimp only at hj_6 hk_6
      cases hj_6
      have hf_7 : ∀ k, k ≠ 1 → I_6 k = I k := fun k h => (hk_6 k h).trans ((fun (_ : Nat) _ => rfl) k h)
      refine lv_iconst (v := nI 0) hx hb dX7_number_35 (by decide +kernel) ?_
      exact z_iret (v := nI 0) hx hb hr hlocks hP hD hS dX7_number_36 ⟨(zR_w zk_0 (by decide)), ⟨hv_6, hf_7, rfl⟩⟩
    · have t_c_4 := z_ltF c_4
      have f_8 : zR 0 2147483647 (r_3) := zR_ley t_c_4 zk_0 (zR_any (r_3)) (by decide)
      refine lv_iload_n hx hb dX7_number_25 rfl (lv_at hl 0 rfl) ?_
      refine lv_iload_n hx hb dX7_number_26 rfl (lv_at hl 3 rfl) ?_
      refine lv_icmp_le (tgt := 37) hx hb dX7_number_27 (by decide) (fun c_9 => ?_) (fun c_9 => ?_)
      · have t_c_9 := z_leT c_9
        have f_10 : zR 0 50 (r_3) := zR_lex t_c_9 f_8 zk_50 (by decide)
        refine lv_aload_n hx hb dX7_number_37 rfl (lv_at hl 1 rfl) ?_
        refine z_callVv (k := 1) (As := []) (rest := []) hx hb hml hown ht (xk_X7_step l D q cA F _ _ _ hI ) hw_2_161 hmX7_step ⟨rfl, rfl⟩ (na := 0) rfl (by decide +kernel) (by decide) (by decide) rfl rfl hK hP hD hS hA hl.1 rfl (Nat.le_of_ble_eq_true rfl) ⟨Nat.zero_le _, Nat.zero_le _⟩ dX7_number_38 (fun I_11 R_11 J_11 H locs hp_11 hP hD hS _ _ => ?_)
        obtain ⟨hv_11, hk_11, hj_11⟩ := hp_11
        dsimp only at hj_11 hk_11
        cases hj_11
        have hf_12 : ∀ k, k ≠ 1 → I_11 k = I k := fun k h => (hk_11 k h).trans ((fun (_ : Nat) _ => rfl) k h)
        refine lv_iload_n hx hb dX7_number_41 rfl (lv_at hl 0 rfl) ?_
        exact z_iret (v := r_3) hx hb hr hlocks hP hD hS dX7_number_42 ⟨f_10, ⟨hv_11, hf_12, rfl⟩⟩
      · have t_c_9 := z_leF c_9
        have f_13 : zR 51 2147483647 (r_3) := zR_lty t_c_9 zk_50 f_8 (by decide)
        refine lv_aload_n hx hb dX7_number_30 rfl (lv_at hl 1 rfl) ?_
        refine lv_iconst (v := nI 2) hx hb dX7_number_31 (by decide +kernel) ?_
        refine z_callVv (k := 1) (As := [.int (nI 2)]) (rest := []) hx hb hml hown ht (xk_X7_refuse_1 l D q cA F _ _ _ hI (nI 2) (zR_w zk_2 (by decide))) hw_2_239 hmX7_refuse ⟨rfl, rfl⟩ (na := 1) rfl (by decide +kernel) (by decide) (by decide) rfl rfl hK hP hD hS hA hl.1 rfl (Nat.le_of_ble_eq_true rfl) ⟨Nat.zero_le _, Nat.zero_le _⟩ dX7_number_32 (fun I_14 R_14 J_14 H locs hp_14 hP hD hS _ _ => ?_)
        obtain ⟨hv_14, hk_14, hj_14⟩ := hp_14
        dsimp only at hj_14 hk_14
        cases hj_14
        have hf_15 : ∀ k, k ≠ 1 → I_14 k = I k := fun k h => (hk_14 k h).trans ((fun (_ : Nat) _ => rfl) k h)
        refine lv_iconst (v := nI 0) hx hb dX7_number_35 (by decide +kernel) ?_
        exact z_iret (v := nI 0) hx hb hr hlocks hP hD hS dX7_number_36 ⟨(zR_w zk_0 (by decide)), ⟨hv_14, hf_15, rfl⟩⟩
  · have t_c_1 := z_eqF c_1
    refine lv_aload_n hx hb dX7_number_8 rfl (lv_at hl 0 rfl) ?_
    refine lv_iconst (v := nI 1) hx hb dX7_number_9 (by decide +kernel) ?_
    refine z_callVv (k := 1) (As := [.int (nI 1)]) (rest := []) hx hb hml hown ht (xk_X7_refuse l D q cA F _ _ _ hI (nI 1) (zR_w zk_1 (by decide))) hw_2_239 hmX7_refuse ⟨rfl, rfl⟩ (na := 1) rfl (by decide +kernel) (by decide) (by decide) rfl rfl hK hP hD hS hA hl.1 rfl (Nat.le_of_ble_eq_true rfl) ⟨Nat.zero_le _, Nat.zero_le _⟩ dX7_number_10 (fun I_16 R_16 J_16 H locs hp_16 hP hD hS _ _ => ?_)
    obtain ⟨hv_16, hk_16, hj_16⟩ := hp_16
    dsimp only at hj_16 hk_16
    cases hj_16
    have hf_17 : ∀ k, k ≠ 1 → I_16 k = I k := fun k h => (hk_16 k h).trans ((fun (_ : Nat) _ => rfl) k h)
    refine lv_iconst (v := nI 0) hx hb dX7_number_13 (by decide +kernel) ?_
    exact z_iret (v := nI 0) hx hb hr hlocks hP hD hS dX7_number_14 ⟨(zR_w zk_0 (by decide)), ⟨hv_16, hf_17, rfl⟩⟩
set_option maxHeartbeats 4000000 in
set_option maxRecDepth 100000 in
theorem xk_J0_coder_7d493_9 (l : Launch) (D : va_G) (q : Nat → Nat) (cA : Nat → ClassId) (ad av : Nat → Nat) (t9 : Nat) (F : Nat → Nat → Int32) (I R : Nat → Nat → Int32) (J : Nat → Nat → Int64) (hI : xInv F (I, R, J))  : zNi (zSS zXRs 81 q ad av t9) l D vwCl (zXtys cA) 81 q (zXd q cA) yJ0_coder_7d493 cJ0_coder_7d493 1 (some .byte) ({ frames := 0, cells := 0, slots := 0, locals := 0 } : Room) [.ref (ad 2)] (I, R, J) (fun r u => r = nI 0 ∧ u = (I, R, J)) := by
  intro sz
  refine z_bodyN (by decide +kernel) (Nat.le_of_ble_eq_true rfl) (fun p e s m below meth c ls hx hb hml hr ht hown hlocks hsz hK hP hD hS hN hl => ?_)
  have hA : ∀ a, s.heap.size ≤ a → zA 81 q sz a := fun a h => Or.inr (hsz ▸ h)
  have hl : lv_has ls 1 [(0, .ref (ad 2))] := hl
  have hZ : zSz zXRs 81 q ad av t9 sz s := hsz ▸ hN
  refine va_gets hx hb hZ.2.1 hS hown (ht _ hw_2_195) (fun _ h => h) dJ0_coder_7d493_0 ?_
  refine z_eqi (y := nI 1) rfl ?_
  refine lv_if_eq (tgt := 13) hx hb dJ0_coder_7d493_3 (by decide) (fun c_0 => absurd c_0 (zD_ne zk_1 zk_z (by decide))) (fun _ => ?_)
  refine lv_aload_n hx hb dJ0_coder_7d493_6 rfl (lv_at hl 0 rfl) ?_
  refine vk_getf hx hb (hZ.1.1 2 (by decide)).2.1 hS hown (ht _ hw_8_165) (fun _ h => h) dJ0_coder_7d493_7 ?_
  refine z_eqi (y := nI 0) rfl ?_
  refine lv_goto (tgt := 14) hx hb dJ0_coder_7d493_10 (by decide) ?_
  exact z_zret (v := nI 0) hx hb hr hlocks hP hD hS (by decide +kernel) dJ0_coder_7d493_14 ⟨rfl, rfl⟩
set_option maxHeartbeats 4000000 in
set_option maxRecDepth 100000 in
theorem xk_J0_length_8abf5_9 (l : Launch) (D : va_G) (q : Nat → Nat) (cA : Nat → ClassId) (ad av : Nat → Nat) (t9 : Nat) (F : Nat → Nat → Int32) (I R : Nat → Nat → Int32) (J : Nat → Nat → Int64) (hI : xInv F (I, R, J))  : zNi (zSS zXRs 81 q ad av t9) l D vwCl (zXtys cA) 81 q (zXd q cA) yJ0_length_8abf5 cJ0_length_8abf5 1 (some .int) ({ frames := 1, cells := 0, slots := 0, locals := 20 } : Room) [.ref (ad 2)] (I, R, J) (fun r u => r = nI 5 ∧ u = (I, R, J)) := by
  intro sz
  refine z_bodyN (by decide +kernel) (Nat.le_of_ble_eq_true rfl) (fun p e s m below meth c ls hx hb hml hr ht hown hlocks hsz hK hP hD hS hN hl => ?_)
  have hA : ∀ a, s.heap.size ≤ a → zA 81 q sz a := fun a h => Or.inr (hsz ▸ h)
  have hl : lv_has ls 1 [(0, .ref (ad 2))] := hl
  have hZ : zSz zXRs 81 q ad av t9 sz s := hsz ▸ hN
  refine lv_aload_n hx hb dJ0_length_8abf5_0 rfl (lv_at hl 0 rfl) ?_
  refine vk_getf hx hb (hZ.1.1 2 (by decide)).2.2.1 hS hown (ht _ hw_8_164) (fun _ h => h) dJ0_length_8abf5_1 ?_
  refine va_tlen hx hb (hZ.1.1 2 (by decide)).2.2.2 hS (v := nI 5) rfl dJ0_length_8abf5_4 ?_
  refine lv_aload_n hx hb dJ0_length_8abf5_5 rfl (lv_at hl 0 rfl) ?_
  refine z_cNXi (As := []) (rest := [.int (nI 5)]) hx hb hml hown ht (xk_J0_coder_7d493_9 l D q cA ad av t9 F _ _ _ hI ) hw_2_191 hmJ0_coder_7d493 ⟨rfl, rfl⟩ (na := 0) rfl (by decide +kernel) (by decide) (vk_recv hZ.1 (by decide) hS) hK hP hD hS hA (zSS_c (Rs := zXRs) (t9 := t9) (fun _ _ _ => zXRs_c)) (zSS_w (Rs := zXRs) (t9 := t9) (fun _ _ _ => zXRs_w) hN hsz hS) hl.1 rfl (Nat.le_of_ble_eq_true rfl) ⟨Nat.zero_le _, Nat.zero_le _⟩ dJ0_length_8abf5_6 (fun r_1 I_1 R_1 J_1 H locs hp_1 hP hD hS _ _ => ?_)
  obtain ⟨rfl, hu_1⟩ := hp_1
  cases hu_1
  refine lv_ishr hx hb dJ0_length_8abf5_9 ?_
  refine z_eqi (y := nI 5) (by decide +kernel) ?_
  exact z_iret (v := nI 5) hx hb hr hlocks hP hD hS dJ0_length_8abf5_10 ⟨rfl, rfl⟩
set_option maxHeartbeats 4000000 in
set_option maxRecDepth 100000 in
theorem xk_J0_isLatin1_aae02_9 (l : Launch) (D : va_G) (q : Nat → Nat) (cA : Nat → ClassId) (ad av : Nat → Nat) (t9 : Nat) (F : Nat → Nat → Int32) (I R : Nat → Nat → Int32) (J : Nat → Nat → Int64) (hI : xInv F (I, R, J))  : zNi (zSS zXRs 81 q ad av t9) l D vwCl (zXtys cA) 81 q (zXd q cA) yJ0_isLatin1_aae02 cJ0_isLatin1_aae02 1 (some .boolean) ({ frames := 0, cells := 0, slots := 0, locals := 0 } : Room) [.ref (ad 2)] (I, R, J) (fun r u => (r = nI 1 ∧ u = (I, R, J))) := by
  intro sz
  refine z_bodyN (by decide +kernel) (Nat.le_of_ble_eq_true rfl) (fun p e s m below meth c ls hx hb hml hr ht hown hlocks hsz hK hP hD hS hN hl => ?_)
  have hA : ∀ a, s.heap.size ≤ a → zA 81 q sz a := fun a h => Or.inr (hsz ▸ h)
  have hl : lv_has ls 1 [(0, .ref (ad 2))] := hl
  have hZ : zSz zXRs 81 q ad av t9 sz s := hsz ▸ hN
  refine va_gets hx hb hZ.2.1 hS hown (ht _ hw_2_195) (fun _ h => h) dJ0_isLatin1_aae02_0 ?_
  refine z_eqi (y := nI 1) rfl ?_
  refine lv_if_eq (tgt := 17) hx hb dJ0_isLatin1_aae02_3 (by decide) (fun c_0 => absurd c_0 (zD_ne zk_1 zk_z (by decide))) (fun _ => ?_)
  refine lv_aload_n hx hb dJ0_isLatin1_aae02_6 rfl (lv_at hl 0 rfl) ?_
  refine vk_getf hx hb (hZ.1.1 2 (by decide)).2.1 hS hown (ht _ hw_8_165) (fun _ h => h) dJ0_isLatin1_aae02_7 ?_
  refine z_eqi (y := nI 0) rfl ?_
  refine lv_if_ne (tgt := 17) hx hb dJ0_isLatin1_aae02_10 (by decide) (fun c_0 => absurd (zD_eq zk_0 zk_z) c_0) (fun _ => ?_)
  refine lv_iconst (v := nI 1) hx hb dJ0_isLatin1_aae02_13 (by decide +kernel) ?_
  refine lv_goto (tgt := 18) hx hb dJ0_isLatin1_aae02_14 (by decide) ?_
  exact z_zret (v := nI 1) hx hb hr hlocks hP hD hS (by decide +kernel) dJ0_isLatin1_aae02_18 ⟨rfl, rfl⟩
set_option maxHeartbeats 4000000 in
set_option maxRecDepth 100000 in
theorem xk_J1_charAt_3b067_18 (l : Launch) (D : va_G) (q : Nat → Nat) (cA : Nat → ClassId) (ad av : Nat → Nat) (t9 : Nat) (F : Nat → Nat → Int32) (I R : Nat → Nat → Int32) (J : Nat → Nat → Int64) (hI : xInv F (I, R, J)) (pa1 : Int32) (hpa1 : zR 0 4 pa1) : zNi (zSS zXRs 81 q ad av t9) l D vwCl (zXtys cA) 81 q (zXd q cA) yJ1_charAt_3b067 cJ1_charAt_3b067 2 (some .char) ({ frames := 2, cells := 0, slots := 0, locals := 43 } : Room) [.ref (av 2), .int (pa1)] (I, R, J) (fun r u => zR 0 65535 r ∧ u = (I, R, J)) := by
  intro sz
  refine z_bodyN (by decide +kernel) (Nat.le_of_ble_eq_true rfl) (fun p e s m below meth c ls hx hb hml hr ht hown hlocks hsz hK hP hD hS hN hl => ?_)
  have hA : ∀ a, s.heap.size ≤ a → zA 81 q sz a := fun a h => Or.inr (hsz ▸ h)
  have hl : lv_has ls 2 [(0, .ref (av 2)), (1, .int (pa1))] := hl
  have hZ : zSz zXRs 81 q ad av t9 sz s := hsz ▸ hN
  refine lv_iload_n hx hb dJ1_charAt_3b067_0 rfl (lv_at hl 1 rfl) ?_
  refine lv_aload_n hx hb dJ1_charAt_3b067_1 rfl (lv_at hl 0 rfl) ?_
  refine va_tlen hx hb (hZ.1.1 2 (by decide)).2.2.2 hS (v := nI 5) rfl dJ1_charAt_3b067_2 ?_
  refine z_cNSv (As := [.int (pa1), .int (nI 5)]) (rest := []) hx hb hml hown ht (xk_J0_checkIndex_df160_1 l D q cA ad av t9 F _ _ _ hI (pa1) hpa1) hw_2_208 hmJ0_checkIndex_df160 ⟨rfl, rfl⟩ (na := 2) rfl (by decide +kernel) (by decide) hK hP hD hS hA (zSS_c (Rs := zXRs) (t9 := t9) (fun _ _ _ => zXRs_c)) (zSS_w (Rs := zXRs) (t9 := t9) (fun _ _ _ => zXRs_w) hN hsz hS) hl.1 rfl (Nat.le_of_ble_eq_true rfl) ⟨Nat.zero_le _, Nat.zero_le _⟩ dJ1_charAt_3b067_3 (fun I_1 R_1 J_1 H locs hp_1 hP hD hS _ _ => ?_)
  cases hp_1
  refine lv_aload_n hx hb dJ1_charAt_3b067_6 rfl (lv_at hl 0 rfl) ?_
  refine lv_iload_n hx hb dJ1_charAt_3b067_7 rfl (lv_at hl 1 rfl) ?_
  refine va_tb hx hb (hZ.1.1 2 (by decide)).2.2.2 hS (zR_vin hpa1 (by decide)) rfl dJ1_charAt_3b067_8 ?_
  refine z_any (fun v_2 => ?_)
  refine lv_sipush (v := nI 255) hx hb dJ1_charAt_3b067_9 (by decide +kernel) ?_
  refine lv_iand hx hb dJ1_charAt_3b067_12 ?_
  refine z_rng (a := 0) (b := 255) (zR_andr zk_255 (by decide)) (fun v_3 hv_3 => ?_)
  refine lv_i2c hx hb dJ1_charAt_3b067_13 rfl ?_
  refine z_rng (a := 0) (b := 65535) (zR_i2c _) (fun v_4 hv_4 => ?_)
  exact z_zret (v := v_4) hx hb hr hlocks hP hD hS (zR_char hv_4) dJ1_charAt_3b067_14 ⟨hv_4, rfl⟩
set_option maxHeartbeats 4000000 in
set_option maxRecDepth 100000 in
theorem xk_J0_charAt_5068e_18 (l : Launch) (D : va_G) (q : Nat → Nat) (cA : Nat → ClassId) (ad av : Nat → Nat) (t9 : Nat) (F : Nat → Nat → Int32) (I R : Nat → Nat → Int32) (J : Nat → Nat → Int64) (hI : xInv F (I, R, J)) (pa0 : Int32) (hpa0 : zR 0 4 pa0) : zNi (zSS zXRs 81 q ad av t9) l D vwCl (zXtys cA) 81 q (zXd q cA) yJ0_charAt_5068e cJ0_charAt_5068e 2 (some .char) ({ frames := 3, cells := 0, slots := 0, locals := 64 } : Room) [.ref (ad 2), .int (pa0)] (I, R, J) (fun r u => zR 0 65535 r ∧ u = (I, R, J)) := by
  intro sz
  refine z_bodyN (by decide +kernel) (Nat.le_of_ble_eq_true rfl) (fun p e s m below meth c ls hx hb hml hr ht hown hlocks hsz hK hP hD hS hN hl => ?_)
  have hA : ∀ a, s.heap.size ≤ a → zA 81 q sz a := fun a h => Or.inr (hsz ▸ h)
  have hl : lv_has ls 2 [(0, .ref (ad 2)), (1, .int (pa0))] := hl
  have hZ : zSz zXRs 81 q ad av t9 sz s := hsz ▸ hN
  refine lv_aload_n hx hb dJ0_charAt_5068e_0 rfl (lv_at hl 0 rfl) ?_
  refine z_cNXi (As := []) (rest := []) hx hb hml hown ht (xk_J0_isLatin1_aae02_9 l D q cA ad av t9 F _ _ _ hI ) hw_2_201 hmJ0_isLatin1_aae02 ⟨rfl, rfl⟩ (na := 0) rfl (by decide +kernel) (by decide) (vk_recv hZ.1 (by decide) hS) hK hP hD hS hA (zSS_c (Rs := zXRs) (t9 := t9) (fun _ _ _ => zXRs_c)) (zSS_w (Rs := zXRs) (t9 := t9) (fun _ _ _ => zXRs_w) hN hsz hS) hl.1 rfl (Nat.le_of_ble_eq_true rfl) ⟨Nat.zero_le _, Nat.zero_le _⟩ dJ0_charAt_5068e_1 (fun r_1 I_1 R_1 J_1 H locs hp_1 hP hD hS _ _ => ?_)
  obtain ⟨rfl, hu_1⟩ := hp_1
  cases hu_1
  refine lv_if_eq (tgt := 16) hx hb dJ0_charAt_5068e_4 (by decide) (fun c_0 => absurd c_0 (zD_ne zk_1 zk_z (by decide))) (fun _ => ?_)
  refine lv_aload_n hx hb dJ0_charAt_5068e_7 rfl (lv_at hl 0 rfl) ?_
  refine vk_getf hx hb (hZ.1.1 2 (by decide)).2.2.1 hS hown (ht _ hw_8_164) (fun _ h => h) dJ0_charAt_5068e_8 ?_
  refine lv_iload_n hx hb dJ0_charAt_5068e_11 rfl (lv_at hl 1 rfl) ?_
  refine z_cNSi (As := [.ref (av 2), .int (pa0)]) (rest := []) hx hb hml hown ht (xk_J1_charAt_3b067_18 l D q cA ad av t9 F _ _ _ hI (pa0) hpa0) hw_2_205 hmJ1_charAt_3b067 ⟨rfl, rfl⟩ (na := 2) rfl (by decide +kernel) (by decide) hK hP hD hS hA (zSS_c (Rs := zXRs) (t9 := t9) (fun _ _ _ => zXRs_c)) (zSS_w (Rs := zXRs) (t9 := t9) (fun _ _ _ => zXRs_w) hN hsz hS) hl.1 rfl (Nat.le_of_ble_eq_true rfl) ⟨Nat.zero_le _, Nat.zero_le _⟩ dJ0_charAt_5068e_12 (fun r_2 I_2 R_2 J_2 H locs hp_2 hP hD hS _ _ => ?_)
  obtain ⟨hr_2, hu_2⟩ := hp_2
  cases hu_2
  exact z_zret (v := r_2) hx hb hr hlocks hP hD hS (zR_char hr_2) dJ0_charAt_5068e_15 ⟨hr_2, rfl⟩
set_option maxHeartbeats 4000000 in
set_option maxRecDepth 100000 in
theorem xk_X7_isWord_9 (l : Launch) (D : va_G) (q : Nat → Nat) (cA : Nat → ClassId) (ad av : Nat → Nat) (t9 : Nat) (F : Nat → Nat → Int32) (I R : Nat → Nat → Int32) (J : Nat → Nat → Int64) (hI : xInv F (I, R, J))  : zNi (zSS zXRs 81 q ad av t9) l D vwCl (zXtys cA) 81 q (zXd q cA) yX7_isWord cX7_isWord 3 (some .boolean) ({ frames := 4, cells := 0, slots := 0, locals := 85 } : Room) [.ref (q 1), .ref (ad 2)] (I, R, J) (fun r u => (r = nI 1 ∧ u = (I, R, J)) ∨ (r = nI 0 ∧ u = (I, R, J))) := by
  intro sz
  refine z_bodyN (by decide +kernel) (Nat.le_of_ble_eq_true rfl) (fun p e s m below meth c ls hx hb hml hr ht hown hlocks hsz hK hP hD hS hN hl => ?_)
  have hA : ∀ a, s.heap.size ≤ a → zA 81 q sz a := fun a h => Or.inr (hsz ▸ h)
  have hl : lv_has ls 3 [(0, .ref (q 1)), (1, .ref (ad 2))] := hl
  have hZ : zSz zXRs 81 q ad av t9 sz s := hsz ▸ hN
  refine lv_aload_n hx hb dX7_isWord_0 rfl (lv_at hl 0 rfl) ?_
  refine z_get hx hb ht hown hK hP ziX7 rfl 1 (by decide) 4 (by decide) hw_1_42 rfl (v := .int (I 1 4)) rfl dX7_isWord_1 ?_
  refine lv_iconst (v := nI 1) hx hb dX7_isWord_4 (by decide +kernel) ?_
  refine lv_icmp_ne (tgt := 24) hx hb dX7_isWord_5 (by decide) (fun c_1 => ?_) (fun c_1 => ?_)
  · have t_c_1 := z_eqF c_1
    refine lv_iconst (v := nI 0) hx hb dX7_isWord_24 (by decide +kernel) ?_
    exact z_zret (v := nI 0) hx hb hr hlocks hP hD hS (by decide +kernel) dX7_isWord_25 (Or.inr ⟨rfl, rfl⟩)
  · have t_c_1 := z_eqT c_1
    have f_2 : zR 1 1 (I 1 4) := zR_eqx t_c_1 zk_1
    refine lv_aload_n hx hb dX7_isWord_8 rfl (lv_at hl 0 rfl) ?_
    refine z_get hx hb ht hown hK hP ziX7 rfl 1 (by decide) 6 (by decide) hw_1_44 rfl (v := .int (I 1 6)) rfl dX7_isWord_9 ?_
    have f_3 : zR 0 800 (I 1 6) := xI hI 1 6
    refine lv_aload_n hx hb dX7_isWord_12 rfl (lv_at hl 0 rfl) ?_
    refine z_get hx hb ht hown hK hP ziX7 rfl 1 (by decide) 5 (by decide) hw_1_43 rfl (v := .int (I 1 5)) rfl dX7_isWord_13 ?_
    have f_4 : zR 0 800 (I 1 5) := xI hI 1 5
    refine lv_isub hx hb dX7_isWord_16 ?_
    refine lv_topi (fun v_5 ev_5 => ?_)
    have hv_5 : zR (-800) 800 v_5 := ev_5 ▸ zR_sub f_3 f_4 (by decide)
    refine lv_aload_n hx hb dX7_isWord_17 rfl (lv_at hl 1 rfl) ?_
    refine z_cNXi (As := []) (rest := [.int (v_5)]) hx hb hml hown ht (xk_J0_length_8abf5_9 l D q cA ad av t9 F _ _ _ hI ) hw_2_187 hmJ0_length_8abf5 ⟨rfl, rfl⟩ (na := 0) rfl (by decide +kernel) (by decide) (vk_recv hZ.1 (by decide) hS) hK hP hD hS hA (zSS_c (Rs := zXRs) (t9 := t9) (fun _ _ _ => zXRs_c)) (zSS_w (Rs := zXRs) (t9 := t9) (fun _ _ _ => zXRs_w) hN hsz hS) hl.1 rfl (Nat.le_of_ble_eq_true rfl) ⟨Nat.zero_le _, Nat.zero_le _⟩ dX7_isWord_18 (fun r_6 I_6 R_6 J_6 H locs hp_6 hP hD hS _ _ => ?_)
    obtain ⟨rfl, hu_6⟩ := hp_6
    cases hu_6
    refine lv_icmp_eq (tgt := 26) hx hb dX7_isWord_21 (by decide) (fun c_7 => ?_) (fun c_7 => ?_)
    · have t_c_7 := z_eqT c_7
      have f_8 : zR 5 5 (v_5) := zR_eqx t_c_7 zk_5
      have f_9 : zR 0 795 (I 1 5) := z_start f_3 f_4 ev_5 f_8 (by decide)
      refine lv_iconst (v := nI 0) hx hb dX7_isWord_26 (by decide +kernel) ?_
      refine lv_istore_n (lv' := [(2, .int (nI 0)), (0, .ref (q 1)), (1, .ref (ad 2))]) hx hb dX7_isWord_27 rfl hl (by decide) rfl (fun ls hl => ?_)
      have loop_43 : ∀ N : Nat, ∀ x_42 : Int32, zR 0 5 x_42 → (2147483648 - (x_42).toInt).toNat < N → ∀ (H : Heap) (locs : List Loc), va_P D vwCl (zw 81 q (zXd q cA) I R J) H → va_D (zA 81 q sz) (zw 81 q (zXd q cA) I R J) → va_S (zA 81 q sz) s.heap H locs → ∀ ls : Array Slot, lv_has ls 3 [(0, .ref (q 1)), (1, .ref (ad 2)), (2, .int (x_42))] → W p l e ({ frames := 4, cells := 0, slots := 0, locals := 85 } : Room) s m ([.ref (q 1), .ref (ad 2)] : List Value).toArray below meth c H locs 0 0 (MQ below (va_Qi (fun r u => (r = nI 1 ∧ u = (I, R, J)) ∨ (r = nI 0 ∧ u = (I, R, J))) (zB D vwCl 81 q (zXd q cA) sz) (zA 81 q sz)) ([.ref (q 1), .ref (ad 2)] : List Value).toArray s 0 0 (zA 81 q sz)) (F0 m 28 ls []) := by
        intro N
        induction N with
        | zero => intro x_42 hx_42 hN; exact absurd hN (Nat.not_lt_zero _)
        | succ N ih_45 =>
          intro x_42 hx_42 hN_44 H locs hP hD hS ls hl
          refine lv_iload_n hx hb dX7_isWord_28 rfl (lv_at hl 2 rfl) ?_
          refine lv_aload_n hx hb dX7_isWord_29 rfl (lv_at hl 1 rfl) ?_
          refine z_cNXi (As := []) (rest := [.int (x_42)]) hx hb hml hown ht (xk_J0_length_8abf5_9 l D q cA ad av t9 F _ _ _ hI ) hw_2_187 hmJ0_length_8abf5 ⟨rfl, rfl⟩ (na := 0) rfl (by decide +kernel) (by decide) (vk_recv hZ.1 (by decide) hS) hK hP hD hS hA (zSS_c (Rs := zXRs) (t9 := t9) (fun _ _ _ => zXRs_c)) (zSS_w (Rs := zXRs) (t9 := t9) (fun _ _ _ => zXRs_w) hN hsz hS) hl.1 rfl (Nat.le_of_ble_eq_true rfl) ⟨Nat.zero_le _, Nat.zero_le _⟩ dX7_isWord_30 (fun r_46 I_46 R_46 J_46 H locs hp_46 hP hD hS _ _ => ?_)
          obtain ⟨rfl, hu_46⟩ := hp_46
          cases hu_46
          refine lv_icmp_ge (tgt := 63) hx hb dX7_isWord_33 (by decide) (fun c_47 => ?_) (fun c_47 => ?_)
          · have t_c_47 := z_leT c_47
            have f_48 : zR 5 5 (x_42) := zR_ley t_c_47 zk_5 hx_42 (by decide)
            refine lv_iconst (v := nI 1) hx hb dX7_isWord_63 (by decide +kernel) ?_
            exact z_zret (v := nI 1) hx hb hr hlocks hP hD hS (by decide +kernel) dX7_isWord_64 (Or.inl ⟨rfl, rfl⟩)
          · have t_c_47 := z_leF c_47
            have f_49 : zR 0 4 (x_42) := zR_ltx t_c_47 hx_42 zk_5 (by decide)
            refine lv_aload_n hx hb dX7_isWord_36 rfl (lv_at hl 0 rfl) ?_
            refine z_get hx hb ht hown hK hP ziX7 rfl 1 (by decide) 0 (by decide) hw_1_35 rfl (v := .ref (q 2)) rfl dX7_isWord_37 ?_
            refine lv_aload_n hx hb dX7_isWord_40 rfl (lv_at hl 0 rfl) ?_
            refine z_get hx hb ht hown hK hP ziX7 rfl 1 (by decide) 5 (by decide) hw_1_43 rfl (v := .int (I 1 5)) rfl dX7_isWord_41 ?_
            refine lv_iload_n hx hb dX7_isWord_44 rfl (lv_at hl 2 rfl) ?_
            refine lv_iadd hx hb dX7_isWord_45 ?_
            refine z_rng (a := 0) (b := 799) (zR_add f_9 f_49 (by decide)) (fun v_50 hv_50 => ?_)
            refine z_bald hx hb hK hP 2 (by decide) 0 rfl rfl (zR_vin hv_50 (by decide)) dX7_isWord_46 ?_
            refine z_eqi (y := R 2 (v_50).toNatClampNeg) rfl ?_
            refine lv_aload_n hx hb dX7_isWord_47 rfl (lv_at hl 1 rfl) ?_
            refine lv_iload_n hx hb dX7_isWord_48 rfl (lv_at hl 2 rfl) ?_
            refine z_cNXi (As := [.int (x_42)]) (rest := [.int (R 2 (v_50).toNatClampNeg)]) hx hb hml hown ht (xk_J0_charAt_5068e_18 l D q cA ad av t9 F _ _ _ hI (x_42) f_49) hw_2_197 hmJ0_charAt_5068e ⟨rfl, rfl⟩ (na := 1) rfl (by decide +kernel) (by decide) (vk_recv hZ.1 (by decide) hS) hK hP hD hS hA (zSS_c (Rs := zXRs) (t9 := t9) (fun _ _ _ => zXRs_c)) (zSS_w (Rs := zXRs) (t9 := t9) (fun _ _ _ => zXRs_w) hN hsz hS) hl.1 rfl (Nat.le_of_ble_eq_true rfl) ⟨Nat.zero_le _, Nat.zero_le _⟩ dX7_isWord_49 (fun r_51 I_51 R_51 J_51 H locs hp_51 hP hD hS _ _ => ?_)
            obtain ⟨hr_51, hu_51⟩ := hp_51
            cases hu_51
            refine lv_icmp_eq (tgt := 57) hx hb dX7_isWord_52 (by decide) (fun c_52 => ?_) (fun c_52 => ?_)
            · have t_c_52 := z_eqT c_52
              have f_53 : zR 0 65535 (R 2 (v_50).toNatClampNeg) := zR_eqx t_c_52 hr_51
              obtain ⟨v_54, ev_54⟩ : ∃ y : Int32, y = x_42 + nI 1 := ⟨_, rfl⟩
              have hv_54 : zR 1 5 v_54 := ev_54 ▸ zR_add f_49 zk_1 (by decide)
              have mv_54 : v_54.toInt = (x_42).toInt + 1 := by rw [ev_54, zR_addE f_49 zk_1 (by decide)]; rfl
              refine lv_iinc (v := v_54) (lv' := [(2, .int (v_54)), (0, .ref (q 1)), (1, .ref (ad 2))]) hx hb dX7_isWord_57 hl (k := 2) rfl (ev_54 ▸ rfl) (by decide) rfl (fun ls hl => ?_)
              refine lv_goto (tgt := 28) hx hb dX7_isWord_60 (by decide) ?_
              exact ih_45 (v_54) (zR_w hv_54 (by decide)) (z2_up mv_54 (by decide) hN_44) _ _ hP hD hS _ (lv_sub hl [1, 2, 0] rfl)
            · have t_c_52 := z_eqF c_52
              refine lv_iconst (v := nI 0) hx hb dX7_isWord_55 (by decide +kernel) ?_
              exact z_zret (v := nI 0) hx hb hr hlocks hP hD hS (by decide +kernel) dX7_isWord_56 (Or.inr ⟨rfl, rfl⟩)
      exact loop_43 _ (nI 0) (zR_w zk_0 (by decide)) (Nat.lt_succ_self _) _ _ hP hD hS _ (lv_sub hl [1, 2, 0] rfl)
    · have t_c_7 := z_eqF c_7
      refine lv_iconst (v := nI 0) hx hb dX7_isWord_24 (by decide +kernel) ?_
      exact z_zret (v := nI 0) hx hb hr hlocks hP hD hS (by decide +kernel) dX7_isWord_25 (Or.inr ⟨rfl, rfl⟩)
set_option maxHeartbeats 4000000 in
set_option maxRecDepth 100000 in
theorem xk_X7_number_6 (l : Launch) (D : va_G) (q : Nat → Nat) (cA : Nat → ClassId) (F : Nat → Nat → Int32) (I R : Nat → Nat → Int32) (J : Nat → Nat → Int64) (hI : xInv F (I, R, J))  : zMi l D vwCl (zXtys cA) 81 q (zXd q cA) yX7_number cX7_number 4 (some .int) ({ frames := 2, cells := 0, slots := 0, locals := 40 } : Room) [.ref (q 1), .int (nI 1), .int (nI 6)] (I, R, J) (fun r u => zR 0 6 r ∧ (xInv F u ∧ (∀ k, k ≠ 1 → u.1 k = I k) ∧ u.2 = (R, J))) := by
  intro sz
  refine z_body (by decide +kernel) (Nat.le_of_ble_eq_true rfl) (fun p e s m below meth c ls hx hb hml hr ht hown hlocks hsz hK hP hD hS hl => ?_)
  have hA : ∀ a, s.heap.size ≤ a → zA 81 q sz a := fun a h => Or.inr (hsz ▸ h)
  have hl : lv_has ls 4 [(0, .ref (q 1)), (1, .int (nI 1)), (2, .int (nI 6))] := hl
  refine lv_aload_n hx hb dX7_number_0 rfl (lv_at hl 0 rfl) ?_
  refine z_get hx hb ht hown hK hP ziX7 rfl 1 (by decide) 4 (by decide) hw_1_42 rfl (v := .int (I 1 4)) rfl dX7_number_1 ?_
  refine lv_iconst (v := nI 2) hx hb dX7_number_4 (by decide +kernel) ?_
  refine lv_icmp_eq (tgt := 15) hx hb dX7_number_5 (by decide) (fun c_1 => ?_) (fun c_1 => ?_)
  · have t_c_1 := z_eqT c_1
    have f_2 : zR 2 2 (I 1 4) := zR_eqx t_c_1 zk_2
    refine lv_aload_n hx hb dX7_number_15 rfl (lv_at hl 0 rfl) ?_
    refine z_callVi (k := 1) (As := []) (rest := []) hx hb hml hown ht (xk_X7_told l D q cA F _ _ _ hI ) hw_3_8 hmX7_told ⟨rfl, rfl⟩ (na := 0) rfl (by decide +kernel) (by decide) (by decide) rfl rfl hK hP hD hS hA hl.1 rfl (Nat.le_of_ble_eq_true rfl) ⟨Nat.zero_le _, Nat.zero_le _⟩ dX7_number_16 (fun r_3 I_3 R_3 J_3 H locs hp_3 hP hD hS _ _ => ?_)
    cases hp_3
    refine lv_istore_n (lv' := [(3, .int (r_3)), (0, .ref (q 1)), (1, .int (nI 1)), (2, .int (nI 6))]) hx hb dX7_number_19 rfl hl (by decide) rfl (fun ls hl => ?_)
    refine lv_iload_n hx hb dX7_number_20 rfl (lv_at hl 0 rfl) ?_
    refine lv_iload_n hx hb dX7_number_21 rfl (lv_at hl 2 rfl) ?_
    refine lv_icmp_lt (tgt := 30) hx hb dX7_number_22 (by decide) (fun c_4 => ?_) (fun c_4 => ?_)
    · have t_c_4 := z_ltT c_4
      have f_5 : zR (-2147483648) 0 (r_3) := zR_ltx t_c_4 (zR_any (r_3)) zk_1 (by decide)
      refine lv_aload_n hx hb dX7_number_30 rfl (lv_at hl 1 rfl) ?_
      refine lv_iconst (v := nI 2) hx hb dX7_number_31 (by decide +kernel) ?_
      refine z_callVv (k := 1) (As := [.int (nI 2)]) (rest := []) hx hb hml hown ht (xk_X7_refuse_1 l D q cA F _ _ _ hI (nI 2) (zR_w zk_2 (by decide))) hw_2_239 hmX7_refuse ⟨rfl, rfl⟩ (na := 1) rfl (by decide +kernel) (by decide) (by decide) rfl rfl hK hP hD hS hA hl.1 rfl (Nat.le_of_ble_eq_true rfl) ⟨Nat.zero_le _, Nat.zero_le _⟩ dX7_number_32 (fun I_6 R_6 J_6 H locs hp_6 hP hD hS _ _ => ?_)
      obtain ⟨hv_6, hk_6, hj_6⟩ := hp_6
      dsimp only at hj_6 hk_6
      cases hj_6
      have hf_7 : ∀ k, k ≠ 1 → I_6 k = I k := fun k h => (hk_6 k h).trans ((fun (_ : Nat) _ => rfl) k h)
      refine lv_iconst (v := nI 0) hx hb dX7_number_35 (by decide +kernel) ?_
      exact z_iret (v := nI 0) hx hb hr hlocks hP hD hS dX7_number_36 ⟨(zR_w zk_0 (by decide)), ⟨hv_6, hf_7, rfl⟩⟩
    · have t_c_4 := z_ltF c_4
      have f_8 : zR 1 2147483647 (r_3) := zR_ley t_c_4 zk_1 (zR_any (r_3)) (by decide)
      refine lv_iload_n hx hb dX7_number_25 rfl (lv_at hl 0 rfl) ?_
      refine lv_iload_n hx hb dX7_number_26 rfl (lv_at hl 3 rfl) ?_
      refine lv_icmp_le (tgt := 37) hx hb dX7_number_27 (by decide) (fun c_9 => ?_) (fun c_9 => ?_)
      · have t_c_9 := z_leT c_9
        have f_10 : zR 1 6 (r_3) := zR_lex t_c_9 f_8 zk_6 (by decide)
        refine lv_aload_n hx hb dX7_number_37 rfl (lv_at hl 1 rfl) ?_
        refine z_callVv (k := 1) (As := []) (rest := []) hx hb hml hown ht (xk_X7_step l D q cA F _ _ _ hI ) hw_2_161 hmX7_step ⟨rfl, rfl⟩ (na := 0) rfl (by decide +kernel) (by decide) (by decide) rfl rfl hK hP hD hS hA hl.1 rfl (Nat.le_of_ble_eq_true rfl) ⟨Nat.zero_le _, Nat.zero_le _⟩ dX7_number_38 (fun I_11 R_11 J_11 H locs hp_11 hP hD hS _ _ => ?_)
        obtain ⟨hv_11, hk_11, hj_11⟩ := hp_11
        dsimp only at hj_11 hk_11
        cases hj_11
        have hf_12 : ∀ k, k ≠ 1 → I_11 k = I k := fun k h => (hk_11 k h).trans ((fun (_ : Nat) _ => rfl) k h)
        refine lv_iload_n hx hb dX7_number_41 rfl (lv_at hl 0 rfl) ?_
        exact z_iret (v := r_3) hx hb hr hlocks hP hD hS dX7_number_42 ⟨(zR_w f_10 (by decide)), ⟨hv_11, hf_12, rfl⟩⟩
      · have t_c_9 := z_leF c_9
        have f_13 : zR 7 2147483647 (r_3) := zR_lty t_c_9 zk_6 f_8 (by decide)
        refine lv_aload_n hx hb dX7_number_30 rfl (lv_at hl 1 rfl) ?_
        refine lv_iconst (v := nI 2) hx hb dX7_number_31 (by decide +kernel) ?_
        refine z_callVv (k := 1) (As := [.int (nI 2)]) (rest := []) hx hb hml hown ht (xk_X7_refuse_1 l D q cA F _ _ _ hI (nI 2) (zR_w zk_2 (by decide))) hw_2_239 hmX7_refuse ⟨rfl, rfl⟩ (na := 1) rfl (by decide +kernel) (by decide) (by decide) rfl rfl hK hP hD hS hA hl.1 rfl (Nat.le_of_ble_eq_true rfl) ⟨Nat.zero_le _, Nat.zero_le _⟩ dX7_number_32 (fun I_14 R_14 J_14 H locs hp_14 hP hD hS _ _ => ?_)
        obtain ⟨hv_14, hk_14, hj_14⟩ := hp_14
        dsimp only at hj_14 hk_14
        cases hj_14
        have hf_15 : ∀ k, k ≠ 1 → I_14 k = I k := fun k h => (hk_14 k h).trans ((fun (_ : Nat) _ => rfl) k h)
        refine lv_iconst (v := nI 0) hx hb dX7_number_35 (by decide +kernel) ?_
        exact z_iret (v := nI 0) hx hb hr hlocks hP hD hS dX7_number_36 ⟨(zR_w zk_0 (by decide)), ⟨hv_14, hf_15, rfl⟩⟩
  · have t_c_1 := z_eqF c_1
    refine lv_aload_n hx hb dX7_number_8 rfl (lv_at hl 0 rfl) ?_
    refine lv_iconst (v := nI 1) hx hb dX7_number_9 (by decide +kernel) ?_
    refine z_callVv (k := 1) (As := [.int (nI 1)]) (rest := []) hx hb hml hown ht (xk_X7_refuse l D q cA F _ _ _ hI (nI 1) (zR_w zk_1 (by decide))) hw_2_239 hmX7_refuse ⟨rfl, rfl⟩ (na := 1) rfl (by decide +kernel) (by decide) (by decide) rfl rfl hK hP hD hS hA hl.1 rfl (Nat.le_of_ble_eq_true rfl) ⟨Nat.zero_le _, Nat.zero_le _⟩ dX7_number_10 (fun I_16 R_16 J_16 H locs hp_16 hP hD hS _ _ => ?_)
    obtain ⟨hv_16, hk_16, hj_16⟩ := hp_16
    dsimp only at hj_16 hk_16
    cases hj_16
    have hf_17 : ∀ k, k ≠ 1 → I_16 k = I k := fun k h => (hk_16 k h).trans ((fun (_ : Nat) _ => rfl) k h)
    refine lv_iconst (v := nI 0) hx hb dX7_number_13 (by decide +kernel) ?_
    exact z_iret (v := nI 0) hx hb hr hlocks hP hD hS dX7_number_14 ⟨(zR_w zk_0 (by decide)), ⟨hv_16, hf_17, rfl⟩⟩
set_option maxHeartbeats 4000000 in
set_option maxRecDepth 100000 in
theorem xk_J0_coder_7d493_10 (l : Launch) (D : va_G) (q : Nat → Nat) (cA : Nat → ClassId) (ad av : Nat → Nat) (t9 : Nat) (F : Nat → Nat → Int32) (I R : Nat → Nat → Int32) (J : Nat → Nat → Int64) (hI : xInv F (I, R, J))  : zNi (zSS zXRs 81 q ad av t9) l D vwCl (zXtys cA) 81 q (zXd q cA) yJ0_coder_7d493 cJ0_coder_7d493 1 (some .byte) ({ frames := 0, cells := 0, slots := 0, locals := 0 } : Room) [.ref (ad 3)] (I, R, J) (fun r u => r = nI 0 ∧ u = (I, R, J)) := by
  intro sz
  refine z_bodyN (by decide +kernel) (Nat.le_of_ble_eq_true rfl) (fun p e s m below meth c ls hx hb hml hr ht hown hlocks hsz hK hP hD hS hN hl => ?_)
  have hA : ∀ a, s.heap.size ≤ a → zA 81 q sz a := fun a h => Or.inr (hsz ▸ h)
  have hl : lv_has ls 1 [(0, .ref (ad 3))] := hl
  have hZ : zSz zXRs 81 q ad av t9 sz s := hsz ▸ hN
  refine va_gets hx hb hZ.2.1 hS hown (ht _ hw_2_195) (fun _ h => h) dJ0_coder_7d493_0 ?_
  refine z_eqi (y := nI 1) rfl ?_
  refine lv_if_eq (tgt := 13) hx hb dJ0_coder_7d493_3 (by decide) (fun c_0 => absurd c_0 (zD_ne zk_1 zk_z (by decide))) (fun _ => ?_)
  refine lv_aload_n hx hb dJ0_coder_7d493_6 rfl (lv_at hl 0 rfl) ?_
  refine vk_getf hx hb (hZ.1.1 3 (by decide)).2.1 hS hown (ht _ hw_8_165) (fun _ h => h) dJ0_coder_7d493_7 ?_
  refine z_eqi (y := nI 0) rfl ?_
  refine lv_goto (tgt := 14) hx hb dJ0_coder_7d493_10 (by decide) ?_
  exact z_zret (v := nI 0) hx hb hr hlocks hP hD hS (by decide +kernel) dJ0_coder_7d493_14 ⟨rfl, rfl⟩
set_option maxHeartbeats 4000000 in
set_option maxRecDepth 100000 in
theorem xk_J0_length_8abf5_10 (l : Launch) (D : va_G) (q : Nat → Nat) (cA : Nat → ClassId) (ad av : Nat → Nat) (t9 : Nat) (F : Nat → Nat → Int32) (I R : Nat → Nat → Int32) (J : Nat → Nat → Int64) (hI : xInv F (I, R, J))  : zNi (zSS zXRs 81 q ad av t9) l D vwCl (zXtys cA) 81 q (zXd q cA) yJ0_length_8abf5 cJ0_length_8abf5 1 (some .int) ({ frames := 1, cells := 0, slots := 0, locals := 20 } : Room) [.ref (ad 3)] (I, R, J) (fun r u => r = nI 4 ∧ u = (I, R, J)) := by
  intro sz
  refine z_bodyN (by decide +kernel) (Nat.le_of_ble_eq_true rfl) (fun p e s m below meth c ls hx hb hml hr ht hown hlocks hsz hK hP hD hS hN hl => ?_)
  have hA : ∀ a, s.heap.size ≤ a → zA 81 q sz a := fun a h => Or.inr (hsz ▸ h)
  have hl : lv_has ls 1 [(0, .ref (ad 3))] := hl
  have hZ : zSz zXRs 81 q ad av t9 sz s := hsz ▸ hN
  refine lv_aload_n hx hb dJ0_length_8abf5_0 rfl (lv_at hl 0 rfl) ?_
  refine vk_getf hx hb (hZ.1.1 3 (by decide)).2.2.1 hS hown (ht _ hw_8_164) (fun _ h => h) dJ0_length_8abf5_1 ?_
  refine va_tlen hx hb (hZ.1.1 3 (by decide)).2.2.2 hS (v := nI 4) rfl dJ0_length_8abf5_4 ?_
  refine lv_aload_n hx hb dJ0_length_8abf5_5 rfl (lv_at hl 0 rfl) ?_
  refine z_cNXi (As := []) (rest := [.int (nI 4)]) hx hb hml hown ht (xk_J0_coder_7d493_10 l D q cA ad av t9 F _ _ _ hI ) hw_2_191 hmJ0_coder_7d493 ⟨rfl, rfl⟩ (na := 0) rfl (by decide +kernel) (by decide) (vk_recv hZ.1 (by decide) hS) hK hP hD hS hA (zSS_c (Rs := zXRs) (t9 := t9) (fun _ _ _ => zXRs_c)) (zSS_w (Rs := zXRs) (t9 := t9) (fun _ _ _ => zXRs_w) hN hsz hS) hl.1 rfl (Nat.le_of_ble_eq_true rfl) ⟨Nat.zero_le _, Nat.zero_le _⟩ dJ0_length_8abf5_6 (fun r_1 I_1 R_1 J_1 H locs hp_1 hP hD hS _ _ => ?_)
  obtain ⟨rfl, hu_1⟩ := hp_1
  cases hu_1
  refine lv_ishr hx hb dJ0_length_8abf5_9 ?_
  refine z_eqi (y := nI 4) (by decide +kernel) ?_
  exact z_iret (v := nI 4) hx hb hr hlocks hP hD hS dJ0_length_8abf5_10 ⟨rfl, rfl⟩
set_option maxHeartbeats 4000000 in
set_option maxRecDepth 100000 in
theorem xk_J0_isLatin1_aae02_10 (l : Launch) (D : va_G) (q : Nat → Nat) (cA : Nat → ClassId) (ad av : Nat → Nat) (t9 : Nat) (F : Nat → Nat → Int32) (I R : Nat → Nat → Int32) (J : Nat → Nat → Int64) (hI : xInv F (I, R, J))  : zNi (zSS zXRs 81 q ad av t9) l D vwCl (zXtys cA) 81 q (zXd q cA) yJ0_isLatin1_aae02 cJ0_isLatin1_aae02 1 (some .boolean) ({ frames := 0, cells := 0, slots := 0, locals := 0 } : Room) [.ref (ad 3)] (I, R, J) (fun r u => (r = nI 1 ∧ u = (I, R, J))) := by
  intro sz
  refine z_bodyN (by decide +kernel) (Nat.le_of_ble_eq_true rfl) (fun p e s m below meth c ls hx hb hml hr ht hown hlocks hsz hK hP hD hS hN hl => ?_)
  have hA : ∀ a, s.heap.size ≤ a → zA 81 q sz a := fun a h => Or.inr (hsz ▸ h)
  have hl : lv_has ls 1 [(0, .ref (ad 3))] := hl
  have hZ : zSz zXRs 81 q ad av t9 sz s := hsz ▸ hN
  refine va_gets hx hb hZ.2.1 hS hown (ht _ hw_2_195) (fun _ h => h) dJ0_isLatin1_aae02_0 ?_
  refine z_eqi (y := nI 1) rfl ?_
  refine lv_if_eq (tgt := 17) hx hb dJ0_isLatin1_aae02_3 (by decide) (fun c_0 => absurd c_0 (zD_ne zk_1 zk_z (by decide))) (fun _ => ?_)
  refine lv_aload_n hx hb dJ0_isLatin1_aae02_6 rfl (lv_at hl 0 rfl) ?_
  refine vk_getf hx hb (hZ.1.1 3 (by decide)).2.1 hS hown (ht _ hw_8_165) (fun _ h => h) dJ0_isLatin1_aae02_7 ?_
  refine z_eqi (y := nI 0) rfl ?_
  refine lv_if_ne (tgt := 17) hx hb dJ0_isLatin1_aae02_10 (by decide) (fun c_0 => absurd (zD_eq zk_0 zk_z) c_0) (fun _ => ?_)
  refine lv_iconst (v := nI 1) hx hb dJ0_isLatin1_aae02_13 (by decide +kernel) ?_
  refine lv_goto (tgt := 18) hx hb dJ0_isLatin1_aae02_14 (by decide) ?_
  exact z_zret (v := nI 1) hx hb hr hlocks hP hD hS (by decide +kernel) dJ0_isLatin1_aae02_18 ⟨rfl, rfl⟩
set_option maxHeartbeats 4000000 in
set_option maxRecDepth 100000 in
theorem xk_J1_charAt_3b067_20 (l : Launch) (D : va_G) (q : Nat → Nat) (cA : Nat → ClassId) (ad av : Nat → Nat) (t9 : Nat) (F : Nat → Nat → Int32) (I R : Nat → Nat → Int32) (J : Nat → Nat → Int64) (hI : xInv F (I, R, J)) (pa1 : Int32) (hpa1 : zR 0 3 pa1) : zNi (zSS zXRs 81 q ad av t9) l D vwCl (zXtys cA) 81 q (zXd q cA) yJ1_charAt_3b067 cJ1_charAt_3b067 2 (some .char) ({ frames := 2, cells := 0, slots := 0, locals := 43 } : Room) [.ref (av 3), .int (pa1)] (I, R, J) (fun r u => zR 0 65535 r ∧ u = (I, R, J)) := by
  intro sz
  refine z_bodyN (by decide +kernel) (Nat.le_of_ble_eq_true rfl) (fun p e s m below meth c ls hx hb hml hr ht hown hlocks hsz hK hP hD hS hN hl => ?_)
  have hA : ∀ a, s.heap.size ≤ a → zA 81 q sz a := fun a h => Or.inr (hsz ▸ h)
  have hl : lv_has ls 2 [(0, .ref (av 3)), (1, .int (pa1))] := hl
  have hZ : zSz zXRs 81 q ad av t9 sz s := hsz ▸ hN
  refine lv_iload_n hx hb dJ1_charAt_3b067_0 rfl (lv_at hl 1 rfl) ?_
  refine lv_aload_n hx hb dJ1_charAt_3b067_1 rfl (lv_at hl 0 rfl) ?_
  refine va_tlen hx hb (hZ.1.1 3 (by decide)).2.2.2 hS (v := nI 4) rfl dJ1_charAt_3b067_2 ?_
  refine z_cNSv (As := [.int (pa1), .int (nI 4)]) (rest := []) hx hb hml hown ht (xk_J0_checkIndex_df160_6 l D q cA ad av t9 F _ _ _ hI (pa1) hpa1) hw_2_208 hmJ0_checkIndex_df160 ⟨rfl, rfl⟩ (na := 2) rfl (by decide +kernel) (by decide) hK hP hD hS hA (zSS_c (Rs := zXRs) (t9 := t9) (fun _ _ _ => zXRs_c)) (zSS_w (Rs := zXRs) (t9 := t9) (fun _ _ _ => zXRs_w) hN hsz hS) hl.1 rfl (Nat.le_of_ble_eq_true rfl) ⟨Nat.zero_le _, Nat.zero_le _⟩ dJ1_charAt_3b067_3 (fun I_1 R_1 J_1 H locs hp_1 hP hD hS _ _ => ?_)
  cases hp_1
  refine lv_aload_n hx hb dJ1_charAt_3b067_6 rfl (lv_at hl 0 rfl) ?_
  refine lv_iload_n hx hb dJ1_charAt_3b067_7 rfl (lv_at hl 1 rfl) ?_
  refine va_tb hx hb (hZ.1.1 3 (by decide)).2.2.2 hS (zR_vin hpa1 (by decide)) rfl dJ1_charAt_3b067_8 ?_
  refine z_any (fun v_2 => ?_)
  refine lv_sipush (v := nI 255) hx hb dJ1_charAt_3b067_9 (by decide +kernel) ?_
  refine lv_iand hx hb dJ1_charAt_3b067_12 ?_
  refine z_rng (a := 0) (b := 255) (zR_andr zk_255 (by decide)) (fun v_3 hv_3 => ?_)
  refine lv_i2c hx hb dJ1_charAt_3b067_13 rfl ?_
  refine z_rng (a := 0) (b := 65535) (zR_i2c _) (fun v_4 hv_4 => ?_)
  exact z_zret (v := v_4) hx hb hr hlocks hP hD hS (zR_char hv_4) dJ1_charAt_3b067_14 ⟨hv_4, rfl⟩
set_option maxHeartbeats 4000000 in
set_option maxRecDepth 100000 in
theorem xk_J0_charAt_5068e_20 (l : Launch) (D : va_G) (q : Nat → Nat) (cA : Nat → ClassId) (ad av : Nat → Nat) (t9 : Nat) (F : Nat → Nat → Int32) (I R : Nat → Nat → Int32) (J : Nat → Nat → Int64) (hI : xInv F (I, R, J)) (pa0 : Int32) (hpa0 : zR 0 3 pa0) : zNi (zSS zXRs 81 q ad av t9) l D vwCl (zXtys cA) 81 q (zXd q cA) yJ0_charAt_5068e cJ0_charAt_5068e 2 (some .char) ({ frames := 3, cells := 0, slots := 0, locals := 64 } : Room) [.ref (ad 3), .int (pa0)] (I, R, J) (fun r u => zR 0 65535 r ∧ u = (I, R, J)) := by
  intro sz
  refine z_bodyN (by decide +kernel) (Nat.le_of_ble_eq_true rfl) (fun p e s m below meth c ls hx hb hml hr ht hown hlocks hsz hK hP hD hS hN hl => ?_)
  have hA : ∀ a, s.heap.size ≤ a → zA 81 q sz a := fun a h => Or.inr (hsz ▸ h)
  have hl : lv_has ls 2 [(0, .ref (ad 3)), (1, .int (pa0))] := hl
  have hZ : zSz zXRs 81 q ad av t9 sz s := hsz ▸ hN
  refine lv_aload_n hx hb dJ0_charAt_5068e_0 rfl (lv_at hl 0 rfl) ?_
  refine z_cNXi (As := []) (rest := []) hx hb hml hown ht (xk_J0_isLatin1_aae02_10 l D q cA ad av t9 F _ _ _ hI ) hw_2_201 hmJ0_isLatin1_aae02 ⟨rfl, rfl⟩ (na := 0) rfl (by decide +kernel) (by decide) (vk_recv hZ.1 (by decide) hS) hK hP hD hS hA (zSS_c (Rs := zXRs) (t9 := t9) (fun _ _ _ => zXRs_c)) (zSS_w (Rs := zXRs) (t9 := t9) (fun _ _ _ => zXRs_w) hN hsz hS) hl.1 rfl (Nat.le_of_ble_eq_true rfl) ⟨Nat.zero_le _, Nat.zero_le _⟩ dJ0_charAt_5068e_1 (fun r_1 I_1 R_1 J_1 H locs hp_1 hP hD hS _ _ => ?_)
  obtain ⟨rfl, hu_1⟩ := hp_1
  cases hu_1
  refine lv_if_eq (tgt := 16) hx hb dJ0_charAt_5068e_4 (by decide) (fun c_0 => absurd c_0 (zD_ne zk_1 zk_z (by decide))) (fun _ => ?_)
  refine lv_aload_n hx hb dJ0_charAt_5068e_7 rfl (lv_at hl 0 rfl) ?_
  refine vk_getf hx hb (hZ.1.1 3 (by decide)).2.2.1 hS hown (ht _ hw_8_164) (fun _ h => h) dJ0_charAt_5068e_8 ?_
  refine lv_iload_n hx hb dJ0_charAt_5068e_11 rfl (lv_at hl 1 rfl) ?_
  refine z_cNSi (As := [.ref (av 3), .int (pa0)]) (rest := []) hx hb hml hown ht (xk_J1_charAt_3b067_20 l D q cA ad av t9 F _ _ _ hI (pa0) hpa0) hw_2_205 hmJ1_charAt_3b067 ⟨rfl, rfl⟩ (na := 2) rfl (by decide +kernel) (by decide) hK hP hD hS hA (zSS_c (Rs := zXRs) (t9 := t9) (fun _ _ _ => zXRs_c)) (zSS_w (Rs := zXRs) (t9 := t9) (fun _ _ _ => zXRs_w) hN hsz hS) hl.1 rfl (Nat.le_of_ble_eq_true rfl) ⟨Nat.zero_le _, Nat.zero_le _⟩ dJ0_charAt_5068e_12 (fun r_2 I_2 R_2 J_2 H locs hp_2 hP hD hS _ _ => ?_)
  obtain ⟨hr_2, hu_2⟩ := hp_2
  cases hu_2
  exact z_zret (v := r_2) hx hb hr hlocks hP hD hS (zR_char hr_2) dJ0_charAt_5068e_15 ⟨hr_2, rfl⟩
set_option maxHeartbeats 4000000 in
set_option maxRecDepth 100000 in
theorem xk_X7_isWord_10 (l : Launch) (D : va_G) (q : Nat → Nat) (cA : Nat → ClassId) (ad av : Nat → Nat) (t9 : Nat) (F : Nat → Nat → Int32) (I R : Nat → Nat → Int32) (J : Nat → Nat → Int64) (hI : xInv F (I, R, J))  : zNi (zSS zXRs 81 q ad av t9) l D vwCl (zXtys cA) 81 q (zXd q cA) yX7_isWord cX7_isWord 3 (some .boolean) ({ frames := 4, cells := 0, slots := 0, locals := 85 } : Room) [.ref (q 1), .ref (ad 3)] (I, R, J) (fun r u => (r = nI 1 ∧ u = (I, R, J)) ∨ (r = nI 0 ∧ u = (I, R, J))) := by
  intro sz
  refine z_bodyN (by decide +kernel) (Nat.le_of_ble_eq_true rfl) (fun p e s m below meth c ls hx hb hml hr ht hown hlocks hsz hK hP hD hS hN hl => ?_)
  have hA : ∀ a, s.heap.size ≤ a → zA 81 q sz a := fun a h => Or.inr (hsz ▸ h)
  have hl : lv_has ls 3 [(0, .ref (q 1)), (1, .ref (ad 3))] := hl
  have hZ : zSz zXRs 81 q ad av t9 sz s := hsz ▸ hN
  refine lv_aload_n hx hb dX7_isWord_0 rfl (lv_at hl 0 rfl) ?_
  refine z_get hx hb ht hown hK hP ziX7 rfl 1 (by decide) 4 (by decide) hw_1_42 rfl (v := .int (I 1 4)) rfl dX7_isWord_1 ?_
  refine lv_iconst (v := nI 1) hx hb dX7_isWord_4 (by decide +kernel) ?_
  refine lv_icmp_ne (tgt := 24) hx hb dX7_isWord_5 (by decide) (fun c_1 => ?_) (fun c_1 => ?_)
  · have t_c_1 := z_eqF c_1
    refine lv_iconst (v := nI 0) hx hb dX7_isWord_24 (by decide +kernel) ?_
    exact z_zret (v := nI 0) hx hb hr hlocks hP hD hS (by decide +kernel) dX7_isWord_25 (Or.inr ⟨rfl, rfl⟩)
  · have t_c_1 := z_eqT c_1
    have f_2 : zR 1 1 (I 1 4) := zR_eqx t_c_1 zk_1
    refine lv_aload_n hx hb dX7_isWord_8 rfl (lv_at hl 0 rfl) ?_
    refine z_get hx hb ht hown hK hP ziX7 rfl 1 (by decide) 6 (by decide) hw_1_44 rfl (v := .int (I 1 6)) rfl dX7_isWord_9 ?_
    have f_3 : zR 0 800 (I 1 6) := xI hI 1 6
    refine lv_aload_n hx hb dX7_isWord_12 rfl (lv_at hl 0 rfl) ?_
    refine z_get hx hb ht hown hK hP ziX7 rfl 1 (by decide) 5 (by decide) hw_1_43 rfl (v := .int (I 1 5)) rfl dX7_isWord_13 ?_
    have f_4 : zR 0 800 (I 1 5) := xI hI 1 5
    refine lv_isub hx hb dX7_isWord_16 ?_
    refine lv_topi (fun v_5 ev_5 => ?_)
    have hv_5 : zR (-800) 800 v_5 := ev_5 ▸ zR_sub f_3 f_4 (by decide)
    refine lv_aload_n hx hb dX7_isWord_17 rfl (lv_at hl 1 rfl) ?_
    refine z_cNXi (As := []) (rest := [.int (v_5)]) hx hb hml hown ht (xk_J0_length_8abf5_10 l D q cA ad av t9 F _ _ _ hI ) hw_2_187 hmJ0_length_8abf5 ⟨rfl, rfl⟩ (na := 0) rfl (by decide +kernel) (by decide) (vk_recv hZ.1 (by decide) hS) hK hP hD hS hA (zSS_c (Rs := zXRs) (t9 := t9) (fun _ _ _ => zXRs_c)) (zSS_w (Rs := zXRs) (t9 := t9) (fun _ _ _ => zXRs_w) hN hsz hS) hl.1 rfl (Nat.le_of_ble_eq_true rfl) ⟨Nat.zero_le _, Nat.zero_le _⟩ dX7_isWord_18 (fun r_6 I_6 R_6 J_6 H locs hp_6 hP hD hS _ _ => ?_)
    obtain ⟨rfl, hu_6⟩ := hp_6
    cases hu_6
    refine lv_icmp_eq (tgt := 26) hx hb dX7_isWord_21 (by decide) (fun c_7 => ?_) (fun c_7 => ?_)
    · have t_c_7 := z_eqT c_7
      have f_8 : zR 4 4 (v_5) := zR_eqx t_c_7 zk_4
      have f_9 : zR 0 796 (I 1 5) := z_start f_3 f_4 ev_5 f_8 (by decide)
      refine lv_iconst (v := nI 0) hx hb dX7_isWord_26 (by decide +kernel) ?_
      refine lv_istore_n (lv' := [(2, .int (nI 0)), (0, .ref (q 1)), (1, .ref (ad 3))]) hx hb dX7_isWord_27 rfl hl (by decide) rfl (fun ls hl => ?_)
      have loop_43 : ∀ N : Nat, ∀ x_42 : Int32, zR 0 4 x_42 → (2147483648 - (x_42).toInt).toNat < N → ∀ (H : Heap) (locs : List Loc), va_P D vwCl (zw 81 q (zXd q cA) I R J) H → va_D (zA 81 q sz) (zw 81 q (zXd q cA) I R J) → va_S (zA 81 q sz) s.heap H locs → ∀ ls : Array Slot, lv_has ls 3 [(0, .ref (q 1)), (1, .ref (ad 3)), (2, .int (x_42))] → W p l e ({ frames := 4, cells := 0, slots := 0, locals := 85 } : Room) s m ([.ref (q 1), .ref (ad 3)] : List Value).toArray below meth c H locs 0 0 (MQ below (va_Qi (fun r u => (r = nI 1 ∧ u = (I, R, J)) ∨ (r = nI 0 ∧ u = (I, R, J))) (zB D vwCl 81 q (zXd q cA) sz) (zA 81 q sz)) ([.ref (q 1), .ref (ad 3)] : List Value).toArray s 0 0 (zA 81 q sz)) (F0 m 28 ls []) := by
        intro N
        induction N with
        | zero => intro x_42 hx_42 hN; exact absurd hN (Nat.not_lt_zero _)
        | succ N ih_45 =>
          intro x_42 hx_42 hN_44 H locs hP hD hS ls hl
          refine lv_iload_n hx hb dX7_isWord_28 rfl (lv_at hl 2 rfl) ?_
          refine lv_aload_n hx hb dX7_isWord_29 rfl (lv_at hl 1 rfl) ?_
          refine z_cNXi (As := []) (rest := [.int (x_42)]) hx hb hml hown ht (xk_J0_length_8abf5_10 l D q cA ad av t9 F _ _ _ hI ) hw_2_187 hmJ0_length_8abf5 ⟨rfl, rfl⟩ (na := 0) rfl (by decide +kernel) (by decide) (vk_recv hZ.1 (by decide) hS) hK hP hD hS hA (zSS_c (Rs := zXRs) (t9 := t9) (fun _ _ _ => zXRs_c)) (zSS_w (Rs := zXRs) (t9 := t9) (fun _ _ _ => zXRs_w) hN hsz hS) hl.1 rfl (Nat.le_of_ble_eq_true rfl) ⟨Nat.zero_le _, Nat.zero_le _⟩ dX7_isWord_30 (fun r_46 I_46 R_46 J_46 H locs hp_46 hP hD hS _ _ => ?_)
          obtain ⟨rfl, hu_46⟩ := hp_46
          cases hu_46
          refine lv_icmp_ge (tgt := 63) hx hb dX7_isWord_33 (by decide) (fun c_47 => ?_) (fun c_47 => ?_)
          · have t_c_47 := z_leT c_47
            have f_48 : zR 4 4 (x_42) := zR_ley t_c_47 zk_4 hx_42 (by decide)
            refine lv_iconst (v := nI 1) hx hb dX7_isWord_63 (by decide +kernel) ?_
            exact z_zret (v := nI 1) hx hb hr hlocks hP hD hS (by decide +kernel) dX7_isWord_64 (Or.inl ⟨rfl, rfl⟩)
          · have t_c_47 := z_leF c_47
            have f_49 : zR 0 3 (x_42) := zR_ltx t_c_47 hx_42 zk_4 (by decide)
            refine lv_aload_n hx hb dX7_isWord_36 rfl (lv_at hl 0 rfl) ?_
            refine z_get hx hb ht hown hK hP ziX7 rfl 1 (by decide) 0 (by decide) hw_1_35 rfl (v := .ref (q 2)) rfl dX7_isWord_37 ?_
            refine lv_aload_n hx hb dX7_isWord_40 rfl (lv_at hl 0 rfl) ?_
            refine z_get hx hb ht hown hK hP ziX7 rfl 1 (by decide) 5 (by decide) hw_1_43 rfl (v := .int (I 1 5)) rfl dX7_isWord_41 ?_
            refine lv_iload_n hx hb dX7_isWord_44 rfl (lv_at hl 2 rfl) ?_
            refine lv_iadd hx hb dX7_isWord_45 ?_
            refine z_rng (a := 0) (b := 799) (zR_add f_9 f_49 (by decide)) (fun v_50 hv_50 => ?_)
            refine z_bald hx hb hK hP 2 (by decide) 0 rfl rfl (zR_vin hv_50 (by decide)) dX7_isWord_46 ?_
            refine z_eqi (y := R 2 (v_50).toNatClampNeg) rfl ?_
            refine lv_aload_n hx hb dX7_isWord_47 rfl (lv_at hl 1 rfl) ?_
            refine lv_iload_n hx hb dX7_isWord_48 rfl (lv_at hl 2 rfl) ?_
            refine z_cNXi (As := [.int (x_42)]) (rest := [.int (R 2 (v_50).toNatClampNeg)]) hx hb hml hown ht (xk_J0_charAt_5068e_20 l D q cA ad av t9 F _ _ _ hI (x_42) f_49) hw_2_197 hmJ0_charAt_5068e ⟨rfl, rfl⟩ (na := 1) rfl (by decide +kernel) (by decide) (vk_recv hZ.1 (by decide) hS) hK hP hD hS hA (zSS_c (Rs := zXRs) (t9 := t9) (fun _ _ _ => zXRs_c)) (zSS_w (Rs := zXRs) (t9 := t9) (fun _ _ _ => zXRs_w) hN hsz hS) hl.1 rfl (Nat.le_of_ble_eq_true rfl) ⟨Nat.zero_le _, Nat.zero_le _⟩ dX7_isWord_49 (fun r_51 I_51 R_51 J_51 H locs hp_51 hP hD hS _ _ => ?_)
            obtain ⟨hr_51, hu_51⟩ := hp_51
            cases hu_51
            refine lv_icmp_eq (tgt := 57) hx hb dX7_isWord_52 (by decide) (fun c_52 => ?_) (fun c_52 => ?_)
            · have t_c_52 := z_eqT c_52
              have f_53 : zR 0 65535 (R 2 (v_50).toNatClampNeg) := zR_eqx t_c_52 hr_51
              obtain ⟨v_54, ev_54⟩ : ∃ y : Int32, y = x_42 + nI 1 := ⟨_, rfl⟩
              have hv_54 : zR 1 4 v_54 := ev_54 ▸ zR_add f_49 zk_1 (by decide)
              have mv_54 : v_54.toInt = (x_42).toInt + 1 := by rw [ev_54, zR_addE f_49 zk_1 (by decide)]; rfl
              refine lv_iinc (v := v_54) (lv' := [(2, .int (v_54)), (0, .ref (q 1)), (1, .ref (ad 3))]) hx hb dX7_isWord_57 hl (k := 2) rfl (ev_54 ▸ rfl) (by decide) rfl (fun ls hl => ?_)
              refine lv_goto (tgt := 28) hx hb dX7_isWord_60 (by decide) ?_
              exact ih_45 (v_54) (zR_w hv_54 (by decide)) (z2_up mv_54 (by decide) hN_44) _ _ hP hD hS _ (lv_sub hl [1, 2, 0] rfl)
            · have t_c_52 := z_eqF c_52
              refine lv_iconst (v := nI 0) hx hb dX7_isWord_55 (by decide +kernel) ?_
              exact z_zret (v := nI 0) hx hb hr hlocks hP hD hS (by decide +kernel) dX7_isWord_56 (Or.inr ⟨rfl, rfl⟩)
      exact loop_43 _ (nI 0) (zR_w zk_0 (by decide)) (Nat.lt_succ_self _) _ _ hP hD hS _ (lv_sub hl [1, 2, 0] rfl)
    · have t_c_7 := z_eqF c_7
      refine lv_iconst (v := nI 0) hx hb dX7_isWord_24 (by decide +kernel) ?_
      exact z_zret (v := nI 0) hx hb hr hlocks hP hD hS (by decide +kernel) dX7_isWord_25 (Or.inr ⟨rfl, rfl⟩)
set_option maxHeartbeats 4000000 in
set_option maxRecDepth 100000 in
theorem xk_X7_number_7 (l : Launch) (D : va_G) (q : Nat → Nat) (cA : Nat → ClassId) (F : Nat → Nat → Int32) (I R : Nat → Nat → Int32) (J : Nat → Nat → Int64) (hI : xInv F (I, R, J))  : zMi l D vwCl (zXtys cA) 81 q (zXd q cA) yX7_number cX7_number 4 (some .int) ({ frames := 2, cells := 0, slots := 0, locals := 40 } : Room) [.ref (q 1), .int (nI 0), .int (nI 100)] (I, R, J) (fun r u => zR 0 100 r ∧ (xInv F u ∧ (∀ k, k ≠ 1 → u.1 k = I k) ∧ u.2 = (R, J))) := by
  intro sz
  refine z_body (by decide +kernel) (Nat.le_of_ble_eq_true rfl) (fun p e s m below meth c ls hx hb hml hr ht hown hlocks hsz hK hP hD hS hl => ?_)
  have hA : ∀ a, s.heap.size ≤ a → zA 81 q sz a := fun a h => Or.inr (hsz ▸ h)
  have hl : lv_has ls 4 [(0, .ref (q 1)), (1, .int (nI 0)), (2, .int (nI 100))] := hl
  refine lv_aload_n hx hb dX7_number_0 rfl (lv_at hl 0 rfl) ?_
  refine z_get hx hb ht hown hK hP ziX7 rfl 1 (by decide) 4 (by decide) hw_1_42 rfl (v := .int (I 1 4)) rfl dX7_number_1 ?_
  refine lv_iconst (v := nI 2) hx hb dX7_number_4 (by decide +kernel) ?_
  refine lv_icmp_eq (tgt := 15) hx hb dX7_number_5 (by decide) (fun c_1 => ?_) (fun c_1 => ?_)
  · have t_c_1 := z_eqT c_1
    have f_2 : zR 2 2 (I 1 4) := zR_eqx t_c_1 zk_2
    refine lv_aload_n hx hb dX7_number_15 rfl (lv_at hl 0 rfl) ?_
    refine z_callVi (k := 1) (As := []) (rest := []) hx hb hml hown ht (xk_X7_told l D q cA F _ _ _ hI ) hw_3_8 hmX7_told ⟨rfl, rfl⟩ (na := 0) rfl (by decide +kernel) (by decide) (by decide) rfl rfl hK hP hD hS hA hl.1 rfl (Nat.le_of_ble_eq_true rfl) ⟨Nat.zero_le _, Nat.zero_le _⟩ dX7_number_16 (fun r_3 I_3 R_3 J_3 H locs hp_3 hP hD hS _ _ => ?_)
    cases hp_3
    refine lv_istore_n (lv' := [(3, .int (r_3)), (0, .ref (q 1)), (1, .int (nI 0)), (2, .int (nI 100))]) hx hb dX7_number_19 rfl hl (by decide) rfl (fun ls hl => ?_)
    refine lv_iload_n hx hb dX7_number_20 rfl (lv_at hl 0 rfl) ?_
    refine lv_iload_n hx hb dX7_number_21 rfl (lv_at hl 2 rfl) ?_
    refine lv_icmp_lt (tgt := 30) hx hb dX7_number_22 (by decide) (fun c_4 => ?_) (fun c_4 => ?_)
    · have t_c_4 := z_ltT c_4
      have f_5 : zR (-2147483648) (-1) (r_3) := zR_ltx t_c_4 (zR_any (r_3)) zk_0 (by decide)
      refine lv_aload_n hx hb dX7_number_30 rfl (lv_at hl 1 rfl) ?_
      refine lv_iconst (v := nI 2) hx hb dX7_number_31 (by decide +kernel) ?_
      refine z_callVv (k := 1) (As := [.int (nI 2)]) (rest := []) hx hb hml hown ht (xk_X7_refuse_1 l D q cA F _ _ _ hI (nI 2) (zR_w zk_2 (by decide))) hw_2_239 hmX7_refuse ⟨rfl, rfl⟩ (na := 1) rfl (by decide +kernel) (by decide) (by decide) rfl rfl hK hP hD hS hA hl.1 rfl (Nat.le_of_ble_eq_true rfl) ⟨Nat.zero_le _, Nat.zero_le _⟩ dX7_number_32 (fun I_6 R_6 J_6 H locs hp_6 hP hD hS _ _ => ?_)
      obtain ⟨hv_6, hk_6, hj_6⟩ := hp_6
      dsimp only at hj_6 hk_6
      cases hj_6
      have hf_7 : ∀ k, k ≠ 1 → I_6 k = I k := fun k h => (hk_6 k h).trans ((fun (_ : Nat) _ => rfl) k h)
      refine lv_iconst (v := nI 0) hx hb dX7_number_35 (by decide +kernel) ?_
      exact z_iret (v := nI 0) hx hb hr hlocks hP hD hS dX7_number_36 ⟨(zR_w zk_0 (by decide)), ⟨hv_6, hf_7, rfl⟩⟩
    · have t_c_4 := z_ltF c_4
      have f_8 : zR 0 2147483647 (r_3) := zR_ley t_c_4 zk_0 (zR_any (r_3)) (by decide)
      refine lv_iload_n hx hb dX7_number_25 rfl (lv_at hl 0 rfl) ?_
      refine lv_iload_n hx hb dX7_number_26 rfl (lv_at hl 3 rfl) ?_
      refine lv_icmp_le (tgt := 37) hx hb dX7_number_27 (by decide) (fun c_9 => ?_) (fun c_9 => ?_)
      · have t_c_9 := z_leT c_9
        have f_10 : zR 0 100 (r_3) := zR_lex t_c_9 f_8 zk_100 (by decide)
        refine lv_aload_n hx hb dX7_number_37 rfl (lv_at hl 1 rfl) ?_
        refine z_callVv (k := 1) (As := []) (rest := []) hx hb hml hown ht (xk_X7_step l D q cA F _ _ _ hI ) hw_2_161 hmX7_step ⟨rfl, rfl⟩ (na := 0) rfl (by decide +kernel) (by decide) (by decide) rfl rfl hK hP hD hS hA hl.1 rfl (Nat.le_of_ble_eq_true rfl) ⟨Nat.zero_le _, Nat.zero_le _⟩ dX7_number_38 (fun I_11 R_11 J_11 H locs hp_11 hP hD hS _ _ => ?_)
        obtain ⟨hv_11, hk_11, hj_11⟩ := hp_11
        dsimp only at hj_11 hk_11
        cases hj_11
        have hf_12 : ∀ k, k ≠ 1 → I_11 k = I k := fun k h => (hk_11 k h).trans ((fun (_ : Nat) _ => rfl) k h)
        refine lv_iload_n hx hb dX7_number_41 rfl (lv_at hl 0 rfl) ?_
        exact z_iret (v := r_3) hx hb hr hlocks hP hD hS dX7_number_42 ⟨f_10, ⟨hv_11, hf_12, rfl⟩⟩
      · have t_c_9 := z_leF c_9
        have f_13 : zR 101 2147483647 (r_3) := zR_lty t_c_9 zk_100 f_8 (by decide)
        refine lv_aload_n hx hb dX7_number_30 rfl (lv_at hl 1 rfl) ?_
        refine lv_iconst (v := nI 2) hx hb dX7_number_31 (by decide +kernel) ?_
        refine z_callVv (k := 1) (As := [.int (nI 2)]) (rest := []) hx hb hml hown ht (xk_X7_refuse_1 l D q cA F _ _ _ hI (nI 2) (zR_w zk_2 (by decide))) hw_2_239 hmX7_refuse ⟨rfl, rfl⟩ (na := 1) rfl (by decide +kernel) (by decide) (by decide) rfl rfl hK hP hD hS hA hl.1 rfl (Nat.le_of_ble_eq_true rfl) ⟨Nat.zero_le _, Nat.zero_le _⟩ dX7_number_32 (fun I_14 R_14 J_14 H locs hp_14 hP hD hS _ _ => ?_)
        obtain ⟨hv_14, hk_14, hj_14⟩ := hp_14
        dsimp only at hj_14 hk_14
        cases hj_14
        have hf_15 : ∀ k, k ≠ 1 → I_14 k = I k := fun k h => (hk_14 k h).trans ((fun (_ : Nat) _ => rfl) k h)
        refine lv_iconst (v := nI 0) hx hb dX7_number_35 (by decide +kernel) ?_
        exact z_iret (v := nI 0) hx hb hr hlocks hP hD hS dX7_number_36 ⟨(zR_w zk_0 (by decide)), ⟨hv_14, hf_15, rfl⟩⟩
  · have t_c_1 := z_eqF c_1
    refine lv_aload_n hx hb dX7_number_8 rfl (lv_at hl 0 rfl) ?_
    refine lv_iconst (v := nI 1) hx hb dX7_number_9 (by decide +kernel) ?_
    refine z_callVv (k := 1) (As := [.int (nI 1)]) (rest := []) hx hb hml hown ht (xk_X7_refuse l D q cA F _ _ _ hI (nI 1) (zR_w zk_1 (by decide))) hw_2_239 hmX7_refuse ⟨rfl, rfl⟩ (na := 1) rfl (by decide +kernel) (by decide) (by decide) rfl rfl hK hP hD hS hA hl.1 rfl (Nat.le_of_ble_eq_true rfl) ⟨Nat.zero_le _, Nat.zero_le _⟩ dX7_number_10 (fun I_16 R_16 J_16 H locs hp_16 hP hD hS _ _ => ?_)
    obtain ⟨hv_16, hk_16, hj_16⟩ := hp_16
    dsimp only at hj_16 hk_16
    cases hj_16
    have hf_17 : ∀ k, k ≠ 1 → I_16 k = I k := fun k h => (hk_16 k h).trans ((fun (_ : Nat) _ => rfl) k h)
    refine lv_iconst (v := nI 0) hx hb dX7_number_13 (by decide +kernel) ?_
    exact z_iret (v := nI 0) hx hb hr hlocks hP hD hS dX7_number_14 ⟨(zR_w zk_0 (by decide)), ⟨hv_16, hf_17, rfl⟩⟩
set_option maxHeartbeats 4000000 in
set_option maxRecDepth 100000 in
theorem xk_X7_readHead (l : Launch) (D : va_G) (q : Nat → Nat) (cA : Nat → ClassId) (ad av : Nat → Nat) (t9 : Nat) (F : Nat → Nat → Int32) (I R : Nat → Nat → Int32) (J : Nat → Nat → Int64) (hI : xInv F (I, R, J))  : zNv (zSS zXRs 81 q ad av t9) l D vwCl (zXtys cA) 81 q (zXd q cA) yX7_readHead cX7_readHead 2 none ({ frames := 5, cells := 0, slots := 0, locals := 107 } : Room) [.ref (q 1), .ref (q 8)] (I, R, J) (fun u => xInv F u) := by
  intro sz
  refine z_bodyN (by decide +kernel) (Nat.le_of_ble_eq_true rfl) (fun p e s m below meth c ls hx hb hml hr ht hown hlocks hsz hK hP hD hS hN hl => ?_)
  have hA : ∀ a, s.heap.size ≤ a → zA 81 q sz a := fun a h => Or.inr (hsz ▸ h)
  have hl : lv_has ls 2 [(0, .ref (q 1)), (1, .ref (q 8))] := hl
  have hZ : zSz zXRs 81 q ad av t9 sz s := hsz ▸ hN
  refine lv_aload_n hx hb dX7_readHead_0 rfl (lv_at hl 0 rfl) ?_
  refine lv_aload_n hx hb dX7_readHead_1 rfl (lv_at hl 0 rfl) ?_
  refine va_ldcS hx hb hown (hZ.2.2.2.1) dX7_readHead_2 ?_
  refine z_cNVi (k := 1) (As := [.ref (ad 0)]) (rest := [.ref (q 1)]) hx hb hml hown ht (xk_X7_isWord_7 l D q cA ad av t9 F _ _ _ hI ) hw_2_183 hmX7_isWord ⟨rfl, rfl⟩ (na := 1) rfl (by decide +kernel) (by decide) (by decide) rfl rfl hK hP hD hS hA (zSS_c (Rs := zXRs) (t9 := t9) (fun _ _ _ => zXRs_c)) (zSS_w (Rs := zXRs) (t9 := t9) (fun _ _ _ => zXRs_w) hN hsz hS) hl.1 rfl (Nat.le_of_ble_eq_true rfl) ⟨Nat.zero_le _, Nat.zero_le _⟩ dX7_readHead_4 (fun r_1 I_1 R_1 J_1 H locs hp_1 hP hD hS _ _ => ?_)
  have hq_1 : zR 0 1 r_1 ∧ (I_1, R_1, J_1) = (I, R, J) := hp_1.elim (fun h => ⟨h.1 ▸ zR_w zk_1 (by decide), h.2⟩) (fun h => ⟨h.1 ▸ zR_w zk_0 (by decide), h.2⟩)
  obtain ⟨hr_1, hu_1⟩ := hq_1
  cases hu_1
  refine z_callVv (k := 1) (As := [.int (r_1)]) (rest := []) hx hb hml hown ht (xk_X7_expect l D q cA F _ _ _ hI (r_1) hr_1) hw_2_235 hmX7_expect ⟨rfl, rfl⟩ (na := 1) rfl (by decide +kernel) (by decide) (by decide) rfl rfl hK hP hD hS hA hl.1 rfl (Nat.le_of_ble_eq_true rfl) ⟨Nat.zero_le _, Nat.zero_le _⟩ dX7_readHead_7 (fun I_2 R_2 J_2 H locs hp_2 hP hD hS _ _ => ?_)
  obtain ⟨hv_2, hk_2, hj_2⟩ := hp_2
  dsimp only at hj_2 hk_2
  cases hj_2
  refine lv_aload_n hx hb dX7_readHead_10 rfl (lv_at hl 0 rfl) ?_
  refine lv_aload_n hx hb dX7_readHead_11 rfl (lv_at hl 0 rfl) ?_
  refine va_ldcS hx hb hown (hZ.2.2.2.2.1) dX7_readHead_12 ?_
  refine z_cNVi (k := 1) (As := [.ref (ad 1)]) (rest := [.ref (q 1)]) hx hb hml hown ht (xk_X7_isWord_8 l D q cA ad av t9 F _ _ _ hv_2 ) hw_2_183 hmX7_isWord ⟨rfl, rfl⟩ (na := 1) rfl (by decide +kernel) (by decide) (by decide) rfl rfl hK hP hD hS hA (zSS_c (Rs := zXRs) (t9 := t9) (fun _ _ _ => zXRs_c)) (zSS_w (Rs := zXRs) (t9 := t9) (fun _ _ _ => zXRs_w) hN hsz hS) hl.1 rfl (Nat.le_of_ble_eq_true rfl) ⟨Nat.zero_le _, Nat.zero_le _⟩ dX7_readHead_14 (fun r_3 I_3 R_3 J_3 H locs hp_3 hP hD hS _ _ => ?_)
  have hq_3 : zR 0 1 r_3 ∧ (I_3, R_3, J_3) = (I_2, R, J) := hp_3.elim (fun h => ⟨h.1 ▸ zR_w zk_1 (by decide), h.2⟩) (fun h => ⟨h.1 ▸ zR_w zk_0 (by decide), h.2⟩)
  obtain ⟨hr_3, hu_3⟩ := hq_3
  cases hu_3
  refine z_callVv (k := 1) (As := [.int (r_3)]) (rest := []) hx hb hml hown ht (xk_X7_expect l D q cA F _ _ _ hv_2 (r_3) hr_3) hw_2_235 hmX7_expect ⟨rfl, rfl⟩ (na := 1) rfl (by decide +kernel) (by decide) (by decide) rfl rfl hK hP hD hS hA hl.1 rfl (Nat.le_of_ble_eq_true rfl) ⟨Nat.zero_le _, Nat.zero_le _⟩ dX7_readHead_17 (fun I_4 R_4 J_4 H locs hp_4 hP hD hS _ _ => ?_)
  obtain ⟨hv_4, hk_4, hj_4⟩ := hp_4
  dsimp only at hj_4 hk_4
  cases hj_4
  refine lv_aload_n hx hb dX7_readHead_20 rfl (lv_at hl 1 rfl) ?_
  refine lv_aload_n hx hb dX7_readHead_21 rfl (lv_at hl 0 rfl) ?_
  refine lv_iconst (v := nI 0) hx hb dX7_readHead_22 (by decide +kernel) ?_
  refine lv_bipush (v := nI 50) hx hb dX7_readHead_23 (by decide +kernel) ?_
  refine z_callVi (k := 1) (As := [.int (nI 0), .int (nI 50)]) (rest := [.ref (q 8)]) hx hb hml hown ht (xk_X7_number_5 l D q cA F _ _ _ hv_4 ) hw_3_4 hmX7_number ⟨rfl, rfl⟩ (na := 2) rfl (by decide +kernel) (by decide) (by decide) rfl rfl hK hP hD hS hA hl.1 rfl (Nat.le_of_ble_eq_true rfl) ⟨Nat.zero_le _, Nat.zero_le _⟩ dX7_readHead_25 (fun r_5 I_5 R_5 J_5 H locs hp_5 hP hD hS _ _ => ?_)
  obtain ⟨hr_5, hu_5⟩ := hp_5
  obtain ⟨hv_5, hk_5, hj_5⟩ := hu_5
  dsimp only at hj_5 hk_5
  cases hj_5
  refine z_putI hx hb ht hown hK hP hD hS ziX2 tyX2 tyX2_ok nmX2 rfl 8 (by decide) 1 (by decide) hw_1_71 rfl (v := r_5) rfl rfl rfl (Nat.le_of_ble_eq_true rfl) rfl dX7_readHead_28 (fun H locs hP hD hS => ?_)
  have hI_6 := xInv_I hv_5 8 1 (r_5) (zR_any (r_5)) rfl
  refine lv_aload_n hx hb dX7_readHead_31 rfl (lv_at hl 0 rfl) ?_
  refine lv_aload_n hx hb dX7_readHead_32 rfl (lv_at hl 0 rfl) ?_
  refine va_ldcS hx hb hown (hZ.2.2.2.2.2.1) dX7_readHead_33 ?_
  refine z_cNVi (k := 1) (As := [.ref (ad 2)]) (rest := [.ref (q 1)]) hx hb hml hown ht (xk_X7_isWord_9 l D q cA ad av t9 F _ _ _ hI_6 ) hw_2_183 hmX7_isWord ⟨rfl, rfl⟩ (na := 1) rfl (by decide +kernel) (by decide) (by decide) rfl rfl hK hP hD hS hA (zSS_c (Rs := zXRs) (t9 := t9) (fun _ _ _ => zXRs_c)) (zSS_w (Rs := zXRs) (t9 := t9) (fun _ _ _ => zXRs_w) hN hsz hS) hl.1 rfl (Nat.le_of_ble_eq_true rfl) ⟨Nat.zero_le _, Nat.zero_le _⟩ dX7_readHead_35 (fun r_7 I_7 R_7 J_7 H locs hp_7 hP hD hS _ _ => ?_)
  have hq_7 : zR 0 1 r_7 ∧ (I_7, R_7, J_7) = ((zp I_5 8 1 (r_5)), R, J) := hp_7.elim (fun h => ⟨h.1 ▸ zR_w zk_1 (by decide), h.2⟩) (fun h => ⟨h.1 ▸ zR_w zk_0 (by decide), h.2⟩)
  obtain ⟨hr_7, hu_7⟩ := hq_7
  cases hu_7
  refine z_callVv (k := 1) (As := [.int (r_7)]) (rest := []) hx hb hml hown ht (xk_X7_expect l D q cA F _ _ _ hI_6 (r_7) hr_7) hw_2_235 hmX7_expect ⟨rfl, rfl⟩ (na := 1) rfl (by decide +kernel) (by decide) (by decide) rfl rfl hK hP hD hS hA hl.1 rfl (Nat.le_of_ble_eq_true rfl) ⟨Nat.zero_le _, Nat.zero_le _⟩ dX7_readHead_38 (fun I_8 R_8 J_8 H locs hp_8 hP hD hS _ _ => ?_)
  obtain ⟨hv_8, hk_8, hj_8⟩ := hp_8
  dsimp only at hj_8 hk_8
  cases hj_8
  refine lv_aload_n hx hb dX7_readHead_41 rfl (lv_at hl 1 rfl) ?_
  refine lv_aload_n hx hb dX7_readHead_42 rfl (lv_at hl 0 rfl) ?_
  refine lv_iconst (v := nI 1) hx hb dX7_readHead_43 (by decide +kernel) ?_
  refine lv_bipush (v := nI 6) hx hb dX7_readHead_44 (by decide +kernel) ?_
  refine z_callVi (k := 1) (As := [.int (nI 1), .int (nI 6)]) (rest := [.ref (q 8)]) hx hb hml hown ht (xk_X7_number_6 l D q cA F _ _ _ hv_8 ) hw_3_4 hmX7_number ⟨rfl, rfl⟩ (na := 2) rfl (by decide +kernel) (by decide) (by decide) rfl rfl hK hP hD hS hA hl.1 rfl (Nat.le_of_ble_eq_true rfl) ⟨Nat.zero_le _, Nat.zero_le _⟩ dX7_readHead_46 (fun r_9 I_9 R_9 J_9 H locs hp_9 hP hD hS _ _ => ?_)
  obtain ⟨hr_9, hu_9⟩ := hp_9
  obtain ⟨hv_9, hk_9, hj_9⟩ := hu_9
  dsimp only at hj_9 hk_9
  cases hj_9
  refine z_putI hx hb ht hown hK hP hD hS ziX2 tyX2 tyX2_ok nmX2 rfl 8 (by decide) 2 (by decide) hw_1_75 rfl (v := r_9) rfl rfl rfl (Nat.le_of_ble_eq_true rfl) rfl dX7_readHead_49 (fun H locs hP hD hS => ?_)
  have hI_10 := xInv_I hv_9 8 2 (r_9) (zR_any (r_9)) rfl
  refine lv_aload_n hx hb dX7_readHead_52 rfl (lv_at hl 0 rfl) ?_
  refine lv_aload_n hx hb dX7_readHead_53 rfl (lv_at hl 0 rfl) ?_
  refine va_ldcS hx hb hown (hZ.2.2.2.2.2.2.1) dX7_readHead_54 ?_
  refine z_cNVi (k := 1) (As := [.ref (ad 3)]) (rest := [.ref (q 1)]) hx hb hml hown ht (xk_X7_isWord_10 l D q cA ad av t9 F _ _ _ hI_10 ) hw_2_183 hmX7_isWord ⟨rfl, rfl⟩ (na := 1) rfl (by decide +kernel) (by decide) (by decide) rfl rfl hK hP hD hS hA (zSS_c (Rs := zXRs) (t9 := t9) (fun _ _ _ => zXRs_c)) (zSS_w (Rs := zXRs) (t9 := t9) (fun _ _ _ => zXRs_w) hN hsz hS) hl.1 rfl (Nat.le_of_ble_eq_true rfl) ⟨Nat.zero_le _, Nat.zero_le _⟩ dX7_readHead_56 (fun r_11 I_11 R_11 J_11 H locs hp_11 hP hD hS _ _ => ?_)
  have hq_11 : zR 0 1 r_11 ∧ (I_11, R_11, J_11) = ((zp I_9 8 2 (r_9)), R, J) := hp_11.elim (fun h => ⟨h.1 ▸ zR_w zk_1 (by decide), h.2⟩) (fun h => ⟨h.1 ▸ zR_w zk_0 (by decide), h.2⟩)
  obtain ⟨hr_11, hu_11⟩ := hq_11
  cases hu_11
  refine z_callVv (k := 1) (As := [.int (r_11)]) (rest := []) hx hb hml hown ht (xk_X7_expect l D q cA F _ _ _ hI_10 (r_11) hr_11) hw_2_235 hmX7_expect ⟨rfl, rfl⟩ (na := 1) rfl (by decide +kernel) (by decide) (by decide) rfl rfl hK hP hD hS hA hl.1 rfl (Nat.le_of_ble_eq_true rfl) ⟨Nat.zero_le _, Nat.zero_le _⟩ dX7_readHead_59 (fun I_12 R_12 J_12 H locs hp_12 hP hD hS _ _ => ?_)
  obtain ⟨hv_12, hk_12, hj_12⟩ := hp_12
  dsimp only at hj_12 hk_12
  cases hj_12
  refine lv_aload_n hx hb dX7_readHead_62 rfl (lv_at hl 1 rfl) ?_
  refine lv_aload_n hx hb dX7_readHead_63 rfl (lv_at hl 0 rfl) ?_
  refine lv_iconst (v := nI 0) hx hb dX7_readHead_64 (by decide +kernel) ?_
  refine lv_bipush (v := nI 100) hx hb dX7_readHead_65 (by decide +kernel) ?_
  refine z_callVi (k := 1) (As := [.int (nI 0), .int (nI 100)]) (rest := [.ref (q 8)]) hx hb hml hown ht (xk_X7_number_7 l D q cA F _ _ _ hv_12 ) hw_3_4 hmX7_number ⟨rfl, rfl⟩ (na := 2) rfl (by decide +kernel) (by decide) (by decide) rfl rfl hK hP hD hS hA hl.1 rfl (Nat.le_of_ble_eq_true rfl) ⟨Nat.zero_le _, Nat.zero_le _⟩ dX7_readHead_67 (fun r_13 I_13 R_13 J_13 H locs hp_13 hP hD hS _ _ => ?_)
  obtain ⟨hr_13, hu_13⟩ := hp_13
  obtain ⟨hv_13, hk_13, hj_13⟩ := hu_13
  dsimp only at hj_13 hk_13
  cases hj_13
  refine z_putI hx hb ht hown hK hP hD hS ziX2 tyX2 tyX2_ok nmX2 rfl 8 (by decide) 3 (by decide) hw_1_79 rfl (v := r_13) rfl rfl rfl (Nat.le_of_ble_eq_true rfl) rfl dX7_readHead_70 (fun H locs hP hD hS => ?_)
  have hI_14 := xInv_I hv_13 8 3 (r_13) (zR_any (r_13)) rfl
  exact z_vret hx hb hr hlocks hP hD hS dX7_readHead_73 hI_14
set_option maxHeartbeats 4000000 in
set_option maxRecDepth 100000 in
theorem xk_X7_readLine (l : Launch) (D : va_G) (q : Nat → Nat) (cA : Nat → ClassId) (ad av : Nat → Nat) (t9 : Nat) (F : Nat → Nat → Int32) (I R : Nat → Nat → Int32) (J : Nat → Nat → Int64) (hI : xInv F (I, R, J))  : zNv (zSS zXRs 81 q ad av t9) l D vwCl (zXtys cA) 81 q (zXd q cA) yX7_readLine cX7_readLine 2 none ({ frames := 6, cells := 0, slots := 0, locals := 129 } : Room) [.ref (q 1), .ref (q 8)] (I, R, J) (fun u => xInv F u) := by
  intro sz
  refine z_bodyN (by decide +kernel) (Nat.le_of_ble_eq_true rfl) (fun p e s m below meth c ls hx hb hml hr ht hown hlocks hsz hK hP hD hS hN hl => ?_)
  have hA : ∀ a, s.heap.size ≤ a → zA 81 q sz a := fun a h => Or.inr (hsz ▸ h)
  have hl : lv_has ls 2 [(0, .ref (q 1)), (1, .ref (q 8))] := hl
  have hZ : zSz zXRs 81 q ad av t9 sz s := hsz ▸ hN
  refine lv_aload_n hx hb dX7_readLine_0 rfl (lv_at hl 1 rfl) ?_
  refine z_get hx hb ht hown hK hP ziX2 rfl 8 (by decide) 0 (by decide) hw_1_69 rfl (v := .int (I 8 0)) rfl dX7_readLine_1 ?_
  have t_12 : ∀ I_11 : Nat → Nat → Int32, ∀ R_11 : Nat → Nat → Int32, ∀ J_11 : Nat → Nat → Int64, xInv F (I_11, R_11, J_11) → ∀ (H : Heap) (locs : List Loc), va_P D vwCl (zw 81 q (zXd q cA) I_11 R_11 J_11) H → va_D (zA 81 q sz) (zw 81 q (zXd q cA) I_11 R_11 J_11) → va_S (zA 81 q sz) s.heap H locs → ∀ ls : Array Slot, lv_has ls 2 [(0, .ref (q 1)), (1, .ref (q 8))] → W p l e ({ frames := 6, cells := 0, slots := 0, locals := 129 } : Room) s m ([.ref (q 1), .ref (q 8)] : List Value).toArray below meth c H locs 0 0 (MQ below (va_Qv (fun u => xInv F u) (zB D vwCl 81 q (zXd q cA) sz) (zA 81 q sz)) ([.ref (q 1), .ref (q 8)] : List Value).toArray s 0 0 (zA 81 q sz)) (F0 m 71 ls []) := by
    intro I_11 R_11 J_11 hI_11 H locs hP hD hS ls hl
    refine lv_aload_n hx hb dX7_readLine_71 rfl (lv_at hl 0 rfl) ?_
    refine lv_aload_n hx hb dX7_readLine_72 rfl (lv_at hl 0 rfl) ?_
    refine z_get hx hb ht hown hK hP ziX7 rfl 1 (by decide) 4 (by decide) hw_1_42 rfl (v := .int (I_11 1 4)) rfl dX7_readLine_73 ?_
    refine lv_iconst (v := nI 3) hx hb dX7_readLine_76 (by decide +kernel) ?_
    have t_16 : ∀ x_15 : Int32, zR 0 1 x_15 → ∀ (H : Heap) (locs : List Loc), va_P D vwCl (zw 81 q (zXd q cA) I_11 R_11 J_11) H → va_D (zA 81 q sz) (zw 81 q (zXd q cA) I_11 R_11 J_11) → va_S (zA 81 q sz) s.heap H locs → ∀ ls : Array Slot, lv_has ls 2 [(0, .ref (q 1)), (1, .ref (q 8))] → W p l e ({ frames := 6, cells := 0, slots := 0, locals := 129 } : Room) s m ([.ref (q 1), .ref (q 8)] : List Value).toArray below meth c H locs 0 0 (MQ below (va_Qv (fun u => xInv F u) (zB D vwCl 81 q (zXd q cA) sz) (zA 81 q sz)) ([.ref (q 1), .ref (q 8)] : List Value).toArray s 0 0 (zA 81 q sz)) (F0 m 85 ls [.int (x_15), .ref (q 1)]) := by
      intro x_15 hx_15 H locs hP hD hS ls hl
      refine z_callVv (k := 1) (As := [.int (x_15)]) (rest := []) hx hb hml hown ht (xk_X7_expect l D q cA F _ _ _ hI_11 (x_15) hx_15) hw_2_235 hmX7_expect ⟨rfl, rfl⟩ (na := 1) rfl (by decide +kernel) (by decide) (by decide) rfl rfl hK hP hD hS hA hl.1 rfl (Nat.le_of_ble_eq_true rfl) ⟨Nat.zero_le _, Nat.zero_le _⟩ dX7_readLine_85 (fun I_17 R_17 J_17 H locs hp_17 hP hD hS _ _ => ?_)
      obtain ⟨hv_17, hk_17, hj_17⟩ := hp_17
      dsimp only at hj_17 hk_17
      cases hj_17
      refine lv_aload_n hx hb dX7_readLine_88 rfl (lv_at hl 1 rfl) ?_
      refine lv_dup hx hb dX7_readLine_89 rfl ?_
      refine z_get hx hb ht hown hK hP ziX2 rfl 8 (by decide) 0 (by decide) hw_1_69 rfl (v := .int (I_17 8 0)) rfl dX7_readLine_90 ?_
      refine z_eqi (y := I_11 8 0) (congrFun (hk_17 8 (by decide)) 0) ?_
      refine lv_iconst (v := nI 1) hx hb dX7_readLine_93 (by decide +kernel) ?_
      refine lv_iadd hx hb dX7_readLine_94 ?_
      refine z_any (fun v_18 => ?_)
      refine z_putI hx hb ht hown hK hP hD hS ziX2 tyX2 tyX2_ok nmX2 rfl 8 (by decide) 0 (by decide) hw_1_69 rfl (v := v_18) rfl rfl rfl (Nat.le_of_ble_eq_true rfl) rfl dX7_readLine_95 (fun H locs hP hD hS => ?_)
      have hI_19 := xInv_I hv_17 8 0 (v_18) (zR_any (v_18)) rfl
      exact z_vret hx hb hr hlocks hP hD hS dX7_readLine_98 hI_19
    refine lv_icmp_ne (tgt := 84) hx hb dX7_readLine_77 (by decide) (fun c_13 => ?_) (fun c_13 => ?_)
    · have t_c_13 := z_eqF c_13
      refine lv_iconst (v := nI 0) hx hb dX7_readLine_84 (by decide +kernel) ?_
      exact t_16 (nI 0) (zR_w zk_0 (by decide)) _ _ hP hD hS _ (lv_sub hl [0, 1] rfl)
    · have t_c_13 := z_eqT c_13
      have f_20 : zR 3 3 (I_11 1 4) := zR_eqx t_c_13 zk_3
      refine lv_iconst (v := nI 1) hx hb dX7_readLine_80 (by decide +kernel) ?_
      refine lv_goto (tgt := 85) hx hb dX7_readLine_81 (by decide) ?_
      exact t_16 (nI 1) (zR_w zk_1 (by decide)) _ _ hP hD hS _ (lv_sub hl [0, 1] rfl)
  refine lv_if_ne (tgt := 15) hx hb dX7_readLine_4 (by decide) (fun c_1 => ?_) (fun c_1 => ?_)
  · have t_c_1 := z_eqF c_1
    refine lv_aload_n hx hb dX7_readLine_15 rfl (lv_at hl 0 rfl) ?_
    refine va_ldcS hx hb hown (hZ.2.2.2.2.2.2.2.1) dX7_readLine_16 ?_
    refine z_cNVi (k := 1) (As := [.ref (ad 4)]) (rest := []) hx hb hml hown ht (xk_X7_isWord l D q cA ad av t9 F _ _ _ hI ) hw_2_183 hmX7_isWord ⟨rfl, rfl⟩ (na := 1) rfl (by decide +kernel) (by decide) (by decide) rfl rfl hK hP hD hS hA (zSS_c (Rs := zXRs) (t9 := t9) (fun _ _ _ => zXRs_c)) (zSS_w (Rs := zXRs) (t9 := t9) (fun _ _ _ => zXRs_w) hN hsz hS) hl.1 rfl (Nat.le_of_ble_eq_true rfl) ⟨Nat.zero_le _, Nat.zero_le _⟩ dX7_readLine_18 (fun r_21 I_21 R_21 J_21 H locs hp_21 hP hD hS _ _ => ?_)
    rcases hp_21 with ⟨rfl, hu_21⟩ | ⟨rfl, hu_21⟩
    · cases hu_21
      refine lv_if_eq (tgt := 32) hx hb dX7_readLine_21 (by decide) (fun c_0 => absurd c_0 (zD_ne zk_1 zk_z (by decide))) (fun _ => ?_)
      refine lv_aload_n hx hb dX7_readLine_24 rfl (lv_at hl 0 rfl) ?_
      refine lv_aload_n hx hb dX7_readLine_25 rfl (lv_at hl 1 rfl) ?_
      refine z_cNVv (k := 1) (As := [.ref (q 8)]) (rest := []) hx hb hml hown ht (xk_X7_readHouse l D q cA ad av t9 F _ _ _ hI ) hw_3_16 hmX7_readHouse ⟨rfl, rfl⟩ (na := 1) rfl (by decide +kernel) (by decide) (by decide) rfl rfl hK hP hD hS hA (zSS_c (Rs := zXRs) (t9 := t9) (fun _ _ _ => zXRs_c)) (zSS_w (Rs := zXRs) (t9 := t9) (fun _ _ _ => zXRs_w) hN hsz hS) hl.1 rfl (Nat.le_of_ble_eq_true rfl) ⟨Nat.zero_le _, Nat.zero_le _⟩ dX7_readLine_26 (fun I_22 R_22 J_22 H locs hp_22 hP hD hS _ _ => ?_)
      refine lv_goto (tgt := 71) hx hb dX7_readLine_29 (by decide) ?_
      exact t_12 _ _ _ hp_22 _ _ hP hD hS _ (lv_sub hl [0, 1] rfl)
    · cases hu_21
      refine lv_if_eq (tgt := 32) hx hb dX7_readLine_21 (by decide) (fun _ => ?_) (fun c_0 => absurd (zD_eq zk_0 zk_z) c_0)
      refine lv_aload_n hx hb dX7_readLine_32 rfl (lv_at hl 0 rfl) ?_
      refine va_ldcS hx hb hown (hZ.2.2.2.2.2.2.2.2.2.2.1) dX7_readLine_33 ?_
      refine z_cNVi (k := 1) (As := [.ref (ad 7)]) (rest := []) hx hb hml hown ht (xk_X7_isWord_3 l D q cA ad av t9 F _ _ _ hI ) hw_2_183 hmX7_isWord ⟨rfl, rfl⟩ (na := 1) rfl (by decide +kernel) (by decide) (by decide) rfl rfl hK hP hD hS hA (zSS_c (Rs := zXRs) (t9 := t9) (fun _ _ _ => zXRs_c)) (zSS_w (Rs := zXRs) (t9 := t9) (fun _ _ _ => zXRs_w) hN hsz hS) hl.1 rfl (Nat.le_of_ble_eq_true rfl) ⟨Nat.zero_le _, Nat.zero_le _⟩ dX7_readLine_35 (fun r_23 I_23 R_23 J_23 H locs hp_23 hP hD hS _ _ => ?_)
      rcases hp_23 with ⟨rfl, hu_23⟩ | ⟨rfl, hu_23⟩
      · cases hu_23
        refine lv_if_eq (tgt := 49) hx hb dX7_readLine_38 (by decide) (fun c_0 => absurd c_0 (zD_ne zk_1 zk_z (by decide))) (fun _ => ?_)
        refine lv_aload_n hx hb dX7_readLine_41 rfl (lv_at hl 0 rfl) ?_
        refine lv_aload_n hx hb dX7_readLine_42 rfl (lv_at hl 1 rfl) ?_
        refine z_cNVv (k := 1) (As := [.ref (q 8)]) (rest := []) hx hb hml hown ht (xk_X7_readThing l D q cA ad av t9 F _ _ _ hI ) hw_3_23 hmX7_readThing ⟨rfl, rfl⟩ (na := 1) rfl (by decide +kernel) (by decide) (by decide) rfl rfl hK hP hD hS hA (zSS_c (Rs := zXRs) (t9 := t9) (fun _ _ _ => zXRs_c)) (zSS_w (Rs := zXRs) (t9 := t9) (fun _ _ _ => zXRs_w) hN hsz hS) hl.1 rfl (Nat.le_of_ble_eq_true rfl) ⟨Nat.zero_le _, Nat.zero_le _⟩ dX7_readLine_43 (fun I_24 R_24 J_24 H locs hp_24 hP hD hS _ _ => ?_)
        refine lv_goto (tgt := 71) hx hb dX7_readLine_46 (by decide) ?_
        exact t_12 _ _ _ hp_24 _ _ hP hD hS _ (lv_sub hl [0, 1] rfl)
      · cases hu_23
        refine lv_if_eq (tgt := 49) hx hb dX7_readLine_38 (by decide) (fun _ => ?_) (fun c_0 => absurd (zD_eq zk_0 zk_z) c_0)
        refine lv_aload_n hx hb dX7_readLine_49 rfl (lv_at hl 0 rfl) ?_
        refine va_ldcS hx hb hown (hZ.2.2.2.2.2.2.2.2.2.2.2.2.2) dX7_readLine_50 ?_
        refine z_cNVi (k := 1) (As := [.ref (ad 10)]) (rest := []) hx hb hml hown ht (xk_X7_isWord_6 l D q cA ad av t9 F _ _ _ hI ) hw_2_183 hmX7_isWord ⟨rfl, rfl⟩ (na := 1) rfl (by decide +kernel) (by decide) (by decide) rfl rfl hK hP hD hS hA (zSS_c (Rs := zXRs) (t9 := t9) (fun _ _ _ => zXRs_c)) (zSS_w (Rs := zXRs) (t9 := t9) (fun _ _ _ => zXRs_w) hN hsz hS) hl.1 rfl (Nat.le_of_ble_eq_true rfl) ⟨Nat.zero_le _, Nat.zero_le _⟩ dX7_readLine_52 (fun r_25 I_25 R_25 J_25 H locs hp_25 hP hD hS _ _ => ?_)
        rcases hp_25 with ⟨rfl, hu_25⟩ | ⟨rfl, hu_25⟩
        · cases hu_25
          refine lv_if_eq (tgt := 66) hx hb dX7_readLine_55 (by decide) (fun c_0 => absurd c_0 (zD_ne zk_1 zk_z (by decide))) (fun _ => ?_)
          refine lv_aload_n hx hb dX7_readLine_58 rfl (lv_at hl 0 rfl) ?_
          refine lv_aload_n hx hb dX7_readLine_59 rfl (lv_at hl 1 rfl) ?_
          refine z_callVv (k := 1) (As := [.ref (q 8)]) (rest := []) hx hb hml hown ht (xk_X7_readWant l D q cA F _ _ _ hI ) hw_3_30 hmX7_readWant ⟨rfl, rfl⟩ (na := 1) rfl (by decide +kernel) (by decide) (by decide) rfl rfl hK hP hD hS hA hl.1 rfl (Nat.le_of_ble_eq_true rfl) ⟨Nat.zero_le _, Nat.zero_le _⟩ dX7_readLine_60 (fun I_26 R_26 J_26 H locs hp_26 hP hD hS _ _ => ?_)
          refine lv_goto (tgt := 71) hx hb dX7_readLine_63 (by decide) ?_
          exact t_12 _ _ _ hp_26 _ _ hP hD hS _ (lv_sub hl [0, 1] rfl)
        · cases hu_25
          refine lv_if_eq (tgt := 66) hx hb dX7_readLine_55 (by decide) (fun _ => ?_) (fun c_0 => absurd (zD_eq zk_0 zk_z) c_0)
          refine lv_aload_n hx hb dX7_readLine_66 rfl (lv_at hl 0 rfl) ?_
          refine lv_iconst (v := nI 1) hx hb dX7_readLine_67 (by decide +kernel) ?_
          refine z_callVv (k := 1) (As := [.int (nI 1)]) (rest := []) hx hb hml hown ht (xk_X7_refuse l D q cA F _ _ _ hI (nI 1) (zR_w zk_1 (by decide))) hw_2_239 hmX7_refuse ⟨rfl, rfl⟩ (na := 1) rfl (by decide +kernel) (by decide) (by decide) rfl rfl hK hP hD hS hA hl.1 rfl (Nat.le_of_ble_eq_true rfl) ⟨Nat.zero_le _, Nat.zero_le _⟩ dX7_readLine_68 (fun I_27 R_27 J_27 H locs hp_27 hP hD hS _ _ => ?_)
          obtain ⟨hv_27, hk_27, hj_27⟩ := hp_27
          dsimp only at hj_27 hk_27
          cases hj_27
          exact t_12 _ _ _ hv_27 _ _ hP hD hS _ (lv_sub hl [0, 1] rfl)
  · have t_c_1 := z_eqT c_1
    have f_28 : zR 0 0 (I 8 0) := zR_eqx t_c_1 zk_z
    refine lv_aload_n hx hb dX7_readLine_7 rfl (lv_at hl 0 rfl) ?_
    refine lv_aload_n hx hb dX7_readLine_8 rfl (lv_at hl 1 rfl) ?_
    refine z_cNVv (k := 1) (As := [.ref (q 8)]) (rest := []) hx hb hml hown ht (xk_X7_readHead l D q cA ad av t9 F _ _ _ hI ) hw_2_178 hmX7_readHead ⟨rfl, rfl⟩ (na := 1) rfl (by decide +kernel) (by decide) (by decide) rfl rfl hK hP hD hS hA (zSS_c (Rs := zXRs) (t9 := t9) (fun _ _ _ => zXRs_c)) (zSS_w (Rs := zXRs) (t9 := t9) (fun _ _ _ => zXRs_w) hN hsz hS) hl.1 rfl (Nat.le_of_ble_eq_true rfl) ⟨Nat.zero_le _, Nat.zero_le _⟩ dX7_readLine_9 (fun I_29 R_29 J_29 H locs hp_29 hP hD hS _ _ => ?_)
    refine lv_goto (tgt := 71) hx hb dX7_readLine_12 (by decide) ?_
    exact t_12 _ _ _ hp_29 _ _ hP hD hS _ (lv_sub hl [0, 1] rfl)
set_option maxHeartbeats 4000000 in
set_option maxRecDepth 100000 in
theorem xk_X7_read (l : Launch) (D : va_G) (q : Nat → Nat) (cA : Nat → ClassId) (ad av : Nat → Nat) (t9 : Nat) (F : Nat → Nat → Int32) (I R : Nat → Nat → Int32) (J : Nat → Nat → Int64) (hI : xInv F (I, R, J))  : zNi (zSS zXRs 81 q ad av t9) l D vwCl (zXtys cA) 81 q (zXd q cA) yX7_read cX7_read 3 (some .boolean) ({ frames := 7, cells := 0, slots := 0, locals := 150 } : Room) [.ref (q 1), .ref (q 8)] (I, R, J) (fun r u => (r = nI 1 ∧ xInv F u) ∨ (r = nI 0 ∧ xInv F u)) := by
  intro sz
  refine z_bodyN (by decide +kernel) (Nat.le_of_ble_eq_true rfl) (fun p e s m below meth c ls hx hb hml hr ht hown hlocks hsz hK hP hD hS hN hl => ?_)
  have hA : ∀ a, s.heap.size ≤ a → zA 81 q sz a := fun a h => Or.inr (hsz ▸ h)
  have hl : lv_has ls 3 [(0, .ref (q 1)), (1, .ref (q 8))] := hl
  have hZ : zSz zXRs 81 q ad av t9 sz s := hsz ▸ hN
  refine lv_aload_n hx hb dX7_read_0 rfl (lv_at hl 1 rfl) ?_
  refine z_callVv (k := 8) (As := []) (rest := []) hx hb hml hown ht (xk_X2_clear l D q cA F _ _ _ hI ) hw_2_154 hmX2_clear ⟨rfl, rfl⟩ (na := 0) rfl (by decide +kernel) (by decide) (by decide) rfl rfl hK hP hD hS hA hl.1 rfl (Nat.le_of_ble_eq_true rfl) ⟨Nat.zero_le _, Nat.zero_le _⟩ dX7_read_1 (fun I_1 R_1 J_1 H locs hp_1 hP hD hS _ _ => ?_)
  refine lv_aload_n hx hb dX7_read_4 rfl (lv_at hl 0 rfl) ?_
  refine lv_iconst (v := nI 0) hx hb dX7_read_5 (by decide +kernel) ?_
  refine z_putI hx hb ht hown hK hP hD hS ziX7 tyX7 tyX7_ok nmX7 rfl 1 (by decide) 2 (by decide) hw_1_38 rfl (v := nI 0) rfl rfl rfl (Nat.le_of_ble_eq_true rfl) rfl dX7_read_6 (fun H locs hP hD hS => ?_)
  have hI_2 := xInv_I hp_1 1 2 (nI 0) (zR_any (nI 0)) rfl
  refine lv_aload_n hx hb dX7_read_9 rfl (lv_at hl 0 rfl) ?_
  refine lv_iconst (v := (-1)) hx hb dX7_read_10 (by decide +kernel) ?_
  refine z_putI hx hb ht hown hK hP hD hS ziX7 tyX7 tyX7_ok nmX7 rfl 1 (by decide) 3 (by decide) hw_1_40 rfl (v := (-1)) rfl rfl rfl (Nat.le_of_ble_eq_true rfl) rfl dX7_read_11 (fun H locs hP hD hS => ?_)
  have hI_3 := xInv_I hI_2 1 3 ((-1)) (zR_any ((-1))) rfl
  refine lv_aload_n hx hb dX7_read_14 rfl (lv_at hl 0 rfl) ?_
  refine lv_iconst (v := nI 0) hx hb dX7_read_15 (by decide +kernel) ?_
  refine z_putI hx hb ht hown hK hP hD hS ziX7 tyX7 tyX7_ok nmX7 rfl 1 (by decide) 6 (by decide) hw_1_44 rfl (v := nI 0) rfl rfl rfl (Nat.le_of_ble_eq_true rfl) rfl dX7_read_16 (fun H locs hP hD hS => ?_)
  have hI_4 := xInv_I hI_3 1 6 (nI 0) (zR_w zk_0 (by decide)) rfl
  refine lv_aload_n hx hb dX7_read_19 rfl (lv_at hl 0 rfl) ?_
  refine z_callVv (k := 1) (As := []) (rest := []) hx hb hml hown ht (xk_X7_step l D q cA F _ _ _ hI_4 ) hw_2_161 hmX7_step ⟨rfl, rfl⟩ (na := 0) rfl (by decide +kernel) (by decide) (by decide) rfl rfl hK hP hD hS hA hl.1 rfl (Nat.le_of_ble_eq_true rfl) ⟨Nat.zero_le _, Nat.zero_le _⟩ dX7_read_20 (fun I_5 R_5 J_5 H locs hp_5 hP hD hS _ _ => ?_)
  obtain ⟨hv_5, hk_5, hj_5⟩ := hp_5
  dsimp only at hj_5 hk_5
  cases hj_5
  refine lv_iconst (v := nI 0) hx hb dX7_read_23 (by decide +kernel) ?_
  refine lv_istore_n (lv' := [(2, .int (nI 0)), (0, .ref (q 1)), (1, .ref (q 8))]) hx hb dX7_read_24 rfl hl (by decide) rfl (fun ls hl => ?_)
  have t_43 : ∀ x_41 : Int32, zR 0 800 x_41 → ∀ I_42 : Nat → Nat → Int32, ∀ R_42 : Nat → Nat → Int32, ∀ J_42 : Nat → Nat → Int64, xInv F (I_42, R_42, J_42) → ∀ (H : Heap) (locs : List Loc), va_P D vwCl (zw 81 q (zXd q cA) I_42 R_42 J_42) H → va_D (zA 81 q sz) (zw 81 q (zXd q cA) I_42 R_42 J_42) → va_S (zA 81 q sz) s.heap H locs → ∀ ls : Array Slot, lv_has ls 3 [(0, .ref (q 1)), (1, .ref (q 8)), (2, .int (x_41))] → W p l e ({ frames := 7, cells := 0, slots := 0, locals := 150 } : Room) s m ([.ref (q 1), .ref (q 8)] : List Value).toArray below meth c H locs 0 0 (MQ below (va_Qi (fun r u => (r = nI 1 ∧ xInv F u) ∨ (r = nI 0 ∧ xInv F u)) (zB D vwCl 81 q (zXd q cA) sz) (zA 81 q sz)) ([.ref (q 1), .ref (q 8)] : List Value).toArray s 0 0 (zA 81 q sz)) (F0 m 57 ls []) := by
    intro x_41 hx_41 I_42 R_42 J_42 hI_42 H locs hP hD hS ls hl
    refine lv_aload_n hx hb dX7_read_57 rfl (lv_at hl 0 rfl) ?_
    refine z_get hx hb ht hown hK hP ziX7 rfl 1 (by decide) 2 (by decide) hw_1_38 rfl (v := .int (I_42 1 2)) rfl dX7_read_58 ?_
    refine lv_if_ne (tgt := 68) hx hb dX7_read_61 (by decide) (fun c_44 => ?_) (fun c_44 => ?_)
    · have t_c_44 := z_eqF c_44
      refine lv_iconst (v := nI 0) hx hb dX7_read_68 (by decide +kernel) ?_
      exact z_zret (v := nI 0) hx hb hr hlocks hP hD hS (by decide +kernel) dX7_read_69 (Or.inr ⟨rfl, hI_42⟩)
    · have t_c_44 := z_eqT c_44
      have f_45 : zR 0 0 (I_42 1 2) := zR_eqx t_c_44 zk_z
      refine lv_iconst (v := nI 1) hx hb dX7_read_64 (by decide +kernel) ?_
      refine lv_goto (tgt := 69) hx hb dX7_read_65 (by decide) ?_
      exact z_zret (v := nI 1) hx hb hr hlocks hP hD hS (by decide +kernel) dX7_read_69 (Or.inl ⟨rfl, hI_42⟩)
  have loop_48 : ∀ N : Nat, ∀ x_46 : Int32, zR 0 800 x_46 → ∀ I_47 : Nat → Nat → Int32, ∀ R_47 : Nat → Nat → Int32, ∀ J_47 : Nat → Nat → Int64, xInv F (I_47, R_47, J_47) → (2147483648 - (x_46).toInt).toNat < N → ∀ (H : Heap) (locs : List Loc), va_P D vwCl (zw 81 q (zXd q cA) I_47 R_47 J_47) H → va_D (zA 81 q sz) (zw 81 q (zXd q cA) I_47 R_47 J_47) → va_S (zA 81 q sz) s.heap H locs → ∀ ls : Array Slot, lv_has ls 3 [(0, .ref (q 1)), (1, .ref (q 8)), (2, .int (x_46))] → W p l e ({ frames := 7, cells := 0, slots := 0, locals := 150 } : Room) s m ([.ref (q 1), .ref (q 8)] : List Value).toArray below meth c H locs 0 0 (MQ below (va_Qi (fun r u => (r = nI 1 ∧ xInv F u) ∨ (r = nI 0 ∧ xInv F u)) (zB D vwCl 81 q (zXd q cA) sz) (zA 81 q sz)) ([.ref (q 1), .ref (q 8)] : List Value).toArray s 0 0 (zA 81 q sz)) (F0 m 25 ls []) := by
    intro N
    induction N with
    | zero => intro x_46 hx_46 I_47 R_47 J_47 hI_47 hN; exact absurd hN (Nat.not_lt_zero _)
    | succ N ih_50 =>
      intro x_46 hx_46 I_47 R_47 J_47 hI_47 hN_49 H locs hP hD hS ls hl
      refine lv_iload_n hx hb dX7_read_25 rfl (lv_at hl 2 rfl) ?_
      refine lv_sipush (v := nI 800) hx hb dX7_read_26 (by decide +kernel) ?_
      refine lv_icmp_ge (tgt := 57) hx hb dX7_read_29 (by decide) (fun c_51 => ?_) (fun c_51 => ?_)
      · have t_c_51 := z_leT c_51
        have f_52 : zR 800 800 (x_46) := zR_ley t_c_51 zk_800 hx_46 (by decide)
        exact t_43 (x_46) (zR_w f_52 (by decide)) _ _ _ hI_47 _ _ hP hD hS _ (lv_sub hl [0, 1, 2] rfl)
      · have t_c_51 := z_leF c_51
        have f_53 : zR 0 799 (x_46) := zR_ltx t_c_51 hx_46 zk_800 (by decide)
        refine lv_aload_n hx hb dX7_read_32 rfl (lv_at hl 0 rfl) ?_
        refine z_get hx hb ht hown hK hP ziX7 rfl 1 (by decide) 4 (by decide) hw_1_42 rfl (v := .int (I_47 1 4)) rfl dX7_read_33 ?_
        refine lv_if_eq (tgt := 57) hx hb dX7_read_36 (by decide) (fun c_54 => ?_) (fun c_54 => ?_)
        · have t_c_54 := z_eqT c_54
          have f_55 : zR 0 0 (I_47 1 4) := zR_eqx t_c_54 zk_z
          exact t_43 (x_46) (zR_w f_53 (by decide)) _ _ _ hI_47 _ _ hP hD hS _ (lv_sub hl [0, 1, 2] rfl)
        · have t_c_54 := z_eqF c_54
          refine lv_aload_n hx hb dX7_read_39 rfl (lv_at hl 0 rfl) ?_
          refine z_get hx hb ht hown hK hP ziX7 rfl 1 (by decide) 2 (by decide) hw_1_38 rfl (v := .int (I_47 1 2)) rfl dX7_read_40 ?_
          refine lv_if_ne (tgt := 57) hx hb dX7_read_43 (by decide) (fun c_56 => ?_) (fun c_56 => ?_)
          · have t_c_56 := z_eqF c_56
            exact t_43 (x_46) (zR_w f_53 (by decide)) _ _ _ hI_47 _ _ hP hD hS _ (lv_sub hl [0, 1, 2] rfl)
          · have t_c_56 := z_eqT c_56
            have f_57 : zR 0 0 (I_47 1 2) := zR_eqx t_c_56 zk_z
            refine lv_aload_n hx hb dX7_read_46 rfl (lv_at hl 0 rfl) ?_
            refine lv_aload_n hx hb dX7_read_47 rfl (lv_at hl 1 rfl) ?_
            refine z_cNVv (k := 1) (As := [.ref (q 8)]) (rest := []) hx hb hml hown ht (xk_X7_readLine l D q cA ad av t9 F _ _ _ hI_47 ) hw_2_174 hmX7_readLine ⟨rfl, rfl⟩ (na := 1) rfl (by decide +kernel) (by decide) (by decide) rfl rfl hK hP hD hS hA (zSS_c (Rs := zXRs) (t9 := t9) (fun _ _ _ => zXRs_c)) (zSS_w (Rs := zXRs) (t9 := t9) (fun _ _ _ => zXRs_w) hN hsz hS) hl.1 rfl (Nat.le_of_ble_eq_true rfl) ⟨Nat.zero_le _, Nat.zero_le _⟩ dX7_read_48 (fun I_58 R_58 J_58 H locs hp_58 hP hD hS _ _ => ?_)
            obtain ⟨v_59, ev_59⟩ : ∃ y : Int32, y = x_46 + nI 1 := ⟨_, rfl⟩
            have hv_59 : zR 1 800 v_59 := ev_59 ▸ zR_add f_53 zk_1 (by decide)
            have mv_59 : v_59.toInt = (x_46).toInt + 1 := by rw [ev_59, zR_addE f_53 zk_1 (by decide)]; rfl
            refine lv_iinc (v := v_59) (lv' := [(2, .int (v_59)), (0, .ref (q 1)), (1, .ref (q 8))]) hx hb dX7_read_51 hl (k := 2) rfl (ev_59 ▸ rfl) (by decide) rfl (fun ls hl => ?_)
            refine lv_goto (tgt := 25) hx hb dX7_read_54 (by decide) ?_
            exact ih_50 (v_59) (zR_w hv_59 (by decide)) _ _ _ hp_58 (z2_up mv_59 (by decide) hN_49) _ _ hP hD hS _ (lv_sub hl [1, 2, 0] rfl)
  exact loop_48 _ (nI 0) (zR_w zk_0 (by decide)) _ _ _ hv_5 (Nat.lt_succ_self _) _ _ hP hD hS _ (lv_sub hl [1, 2, 0] rfl)
set_option maxHeartbeats 4000000 in
set_option maxRecDepth 100000 in
theorem xk_X2_copyFrom (l : Launch) (D : va_G) (q : Nat → Nat) (cA : Nat → ClassId) (F : Nat → Nat → Int32) (I R : Nat → Nat → Int32) (J : Nat → Nat → Int64) (hI : xInv F (I, R, J))  : zMv l D vwCl (zXtys cA) 81 q (zXd q cA) yX2_copyFrom cX2_copyFrom 2 none ({ frames := 1, cells := 0, slots := 0, locals := 64 } : Room) [.ref (q 3), .ref (q 8)] (I, R, J) (fun u => xInv F u) := by
  intro sz
  refine z_body (by decide +kernel) (Nat.le_of_ble_eq_true rfl) (fun p e s m below meth c ls hx hb hml hr ht hown hlocks hsz hK hP hD hS hl => ?_)
  have hA : ∀ a, s.heap.size ≤ a → zA 81 q sz a := fun a h => Or.inr (hsz ▸ h)
  have hl : lv_has ls 2 [(0, .ref (q 3)), (1, .ref (q 8))] := hl
  refine lv_aload_n hx hb dX2_copyFrom_0 rfl (lv_at hl 0 rfl) ?_
  refine lv_aload_n hx hb dX2_copyFrom_1 rfl (lv_at hl 1 rfl) ?_
  refine z_get hx hb ht hown hK hP ziX2 rfl 8 (by decide) 0 (by decide) hw_1_67 rfl (v := .int (I 8 0)) rfl dX2_copyFrom_2 ?_
  refine z_putI hx hb ht hown hK hP hD hS ziX2 tyX2 tyX2_ok nmX2 rfl 3 (by decide) 0 (by decide) hw_1_67 rfl (v := I 8 0) rfl rfl rfl (Nat.le_of_ble_eq_true rfl) rfl dX2_copyFrom_5 (fun H locs hP hD hS => ?_)
  have hI_1 := xInv_I hI 3 0 (I 8 0) (zR_any (I 8 0)) rfl
  refine lv_aload_n hx hb dX2_copyFrom_8 rfl (lv_at hl 0 rfl) ?_
  refine lv_aload_n hx hb dX2_copyFrom_9 rfl (lv_at hl 1 rfl) ?_
  refine z_get hx hb ht hown hK hP ziX2 rfl 8 (by decide) 1 (by decide) hw_1_70 rfl (v := .int (I 8 1)) rfl dX2_copyFrom_10 ?_
  refine z_putI hx hb ht hown hK hP hD hS ziX2 tyX2 tyX2_ok nmX2 rfl 3 (by decide) 1 (by decide) hw_1_70 rfl (v := I 8 1) rfl rfl rfl (Nat.le_of_ble_eq_true rfl) rfl dX2_copyFrom_13 (fun H locs hP hD hS => ?_)
  have hI_2 := xInv_I hI_1 3 1 (I 8 1) (zR_any (I 8 1)) rfl
  refine lv_aload_n hx hb dX2_copyFrom_16 rfl (lv_at hl 0 rfl) ?_
  refine lv_aload_n hx hb dX2_copyFrom_17 rfl (lv_at hl 1 rfl) ?_
  refine z_get hx hb ht hown hK hP ziX2 rfl 8 (by decide) 2 (by decide) hw_1_74 rfl (v := .int (I 8 2)) rfl dX2_copyFrom_18 ?_
  refine z_putI hx hb ht hown hK hP hD hS ziX2 tyX2 tyX2_ok nmX2 rfl 3 (by decide) 2 (by decide) hw_1_74 rfl (v := I 8 2) rfl rfl rfl (Nat.le_of_ble_eq_true rfl) rfl dX2_copyFrom_21 (fun H locs hP hD hS => ?_)
  have hI_3 := xInv_I hI_2 3 2 (I 8 2) (zR_any (I 8 2)) rfl
  refine lv_aload_n hx hb dX2_copyFrom_24 rfl (lv_at hl 0 rfl) ?_
  refine lv_aload_n hx hb dX2_copyFrom_25 rfl (lv_at hl 1 rfl) ?_
  refine z_get hx hb ht hown hK hP ziX2 rfl 8 (by decide) 3 (by decide) hw_1_78 rfl (v := .int (I 8 3)) rfl dX2_copyFrom_26 ?_
  refine z_putI hx hb ht hown hK hP hD hS ziX2 tyX2 tyX2_ok nmX2 rfl 3 (by decide) 3 (by decide) hw_1_78 rfl (v := I 8 3) rfl rfl rfl (Nat.le_of_ble_eq_true rfl) rfl dX2_copyFrom_29 (fun H locs hP hD hS => ?_)
  have hI_4 := xInv_I hI_3 3 3 (I 8 3) (zR_any (I 8 3)) rfl
  refine lv_aload_n hx hb dX2_copyFrom_32 rfl (lv_at hl 0 rfl) ?_
  refine lv_aload_n hx hb dX2_copyFrom_33 rfl (lv_at hl 1 rfl) ?_
  refine z_get hx hb ht hown hK hP ziX2 rfl 8 (by decide) 4 (by decide) hw_1_81 rfl (v := .int (I 8 4)) rfl dX2_copyFrom_34 ?_
  have f_5 : zR 0 5 (I 8 4) := xI hI 8 4
  refine z_putI hx hb ht hown hK hP hD hS ziX2 tyX2 tyX2_ok nmX2 rfl 3 (by decide) 4 (by decide) hw_1_81 rfl (v := I 8 4) rfl rfl rfl (Nat.le_of_ble_eq_true rfl) rfl dX2_copyFrom_37 (fun H locs hP hD hS => ?_)
  have hI_6 := xInv_I hI_4 3 4 (I 8 4) f_5 rfl
  refine lv_aload_n hx hb dX2_copyFrom_40 rfl (lv_at hl 0 rfl) ?_
  refine lv_aload_n hx hb dX2_copyFrom_41 rfl (lv_at hl 1 rfl) ?_
  refine z_get hx hb ht hown hK hP ziX2 rfl 8 (by decide) 5 (by decide) hw_1_87 rfl (v := .int (I 8 5)) rfl dX2_copyFrom_42 ?_
  have f_7 : zR 0 6 (I 8 5) := xI hI 8 5
  refine z_putI hx hb ht hown hK hP hD hS ziX2 tyX2 tyX2_ok nmX2 rfl 3 (by decide) 5 (by decide) hw_1_87 rfl (v := I 8 5) rfl rfl rfl (Nat.le_of_ble_eq_true rfl) rfl dX2_copyFrom_45 (fun H locs hP hD hS => ?_)
  have hI_8 := xInv_I hI_6 3 5 (I 8 5) f_7 rfl
  refine lv_aload_n hx hb dX2_copyFrom_48 rfl (lv_at hl 0 rfl) ?_
  refine lv_aload_n hx hb dX2_copyFrom_49 rfl (lv_at hl 1 rfl) ?_
  refine z_get hx hb ht hown hK hP ziX2 rfl 8 (by decide) 6 (by decide) hw_1_95 rfl (v := .int (I 8 6)) rfl dX2_copyFrom_50 ?_
  refine z_putI hx hb ht hown hK hP hD hS ziX2 tyX2 tyX2_ok nmX2 rfl 3 (by decide) 6 (by decide) hw_1_95 rfl (v := I 8 6) rfl rfl rfl (Nat.le_of_ble_eq_true rfl) rfl dX2_copyFrom_53 (fun H locs hP hD hS => ?_)
  have hI_9 := xInv_I hI_8 3 6 (I 8 6) (zR_any (I 8 6)) rfl
  refine lv_aload_n hx hb dX2_copyFrom_56 rfl (lv_at hl 1 rfl) ?_
  refine z_get hx hb ht hown hK hP ziX2 rfl 8 (by decide) 7 (by decide) hw_1_97 rfl (v := .ref (q 9)) rfl dX2_copyFrom_57 ?_
  refine lv_iconst (v := nI 0) hx hb dX2_copyFrom_60 (by decide +kernel) ?_
  refine lv_aload_n hx hb dX2_copyFrom_61 rfl (lv_at hl 0 rfl) ?_
  refine z_get hx hb ht hown hK hP ziX2 rfl 3 (by decide) 7 (by decide) hw_1_97 rfl (v := .ref (q 4)) rfl dX2_copyFrom_62 ?_
  refine lv_iconst (v := nI 0) hx hb dX2_copyFrom_65 (by decide +kernel) ?_
  refine lv_iconst (v := nI 5) hx hb dX2_copyFrom_66 (by decide +kernel) ?_
  refine z_copyi hx hb (hml.trans hl.1.symm) ht hown hw_3_42 ⟨hw_3_44, hw_3_43, hw_1_18⟩ hK hP hD hS 9 4 (by decide) (by decide) 5 1 rfl (fun _ => rfl) rfl rfl (by decide +kernel) (by decide +kernel) (by decide +kernel) (by decide +kernel) (by decide +kernel) (by decide) (by decide +kernel) dX2_copyFrom_67 (fun g_10 H locs eg_10 hP hD hS => ?_)
  have hI_11 := xInv_cp hI_9 9 4 eg_10 (by decide) (by decide) rfl
  refine lv_aload_n hx hb dX2_copyFrom_70 rfl (lv_at hl 1 rfl) ?_
  refine z_get hx hb ht hown hK hP ziX2 rfl 8 (by decide) 8 (by decide) hw_1_100 rfl (v := .ref (q 10)) rfl dX2_copyFrom_71 ?_
  refine lv_iconst (v := nI 0) hx hb dX2_copyFrom_74 (by decide +kernel) ?_
  refine lv_aload_n hx hb dX2_copyFrom_75 rfl (lv_at hl 0 rfl) ?_
  refine z_get hx hb ht hown hK hP ziX2 rfl 3 (by decide) 8 (by decide) hw_1_100 rfl (v := .ref (q 5)) rfl dX2_copyFrom_76 ?_
  refine lv_iconst (v := nI 0) hx hb dX2_copyFrom_79 (by decide +kernel) ?_
  refine lv_bipush (v := nI 6) hx hb dX2_copyFrom_80 (by decide +kernel) ?_
  refine z_copyi hx hb (hml.trans hl.1.symm) ht hown hw_3_42 ⟨hw_3_44, hw_3_43, hw_1_18⟩ hK hP hD hS 10 5 (by decide) (by decide) 6 2 rfl (fun _ => rfl) rfl rfl (by decide +kernel) (by decide +kernel) (by decide +kernel) (by decide +kernel) (by decide +kernel) (by decide) (by decide +kernel) dX2_copyFrom_82 (fun g_12 H locs eg_12 hP hD hS => ?_)
  have hI_13 := xInv_cp hI_11 10 5 eg_12 (by decide) (by decide) rfl
  refine lv_aload_n hx hb dX2_copyFrom_85 rfl (lv_at hl 1 rfl) ?_
  refine z_get hx hb ht hown hK hP ziX2 rfl 8 (by decide) 9 (by decide) hw_1_104 rfl (v := .ref (q 11)) rfl dX2_copyFrom_86 ?_
  refine lv_iconst (v := nI 0) hx hb dX2_copyFrom_89 (by decide +kernel) ?_
  refine lv_aload_n hx hb dX2_copyFrom_90 rfl (lv_at hl 0 rfl) ?_
  refine z_get hx hb ht hown hK hP ziX2 rfl 3 (by decide) 9 (by decide) hw_1_104 rfl (v := .ref (q 6)) rfl dX2_copyFrom_91 ?_
  refine lv_iconst (v := nI 0) hx hb dX2_copyFrom_94 (by decide +kernel) ?_
  refine lv_bipush (v := nI 6) hx hb dX2_copyFrom_95 (by decide +kernel) ?_
  refine z_copyi hx hb (hml.trans hl.1.symm) ht hown hw_3_42 ⟨hw_3_44, hw_3_43, hw_1_18⟩ hK hP hD hS 11 6 (by decide) (by decide) 7 3 rfl (fun _ => rfl) rfl rfl (by decide +kernel) (by decide +kernel) (by decide +kernel) (by decide +kernel) (by decide +kernel) (by decide) (by decide +kernel) dX2_copyFrom_97 (fun g_14 H locs eg_14 hP hD hS => ?_)
  have hI_15 := xInv_cp hI_13 11 6 eg_14 (by decide) (by decide) rfl
  refine lv_aload_n hx hb dX2_copyFrom_100 rfl (lv_at hl 1 rfl) ?_
  refine z_get hx hb ht hown hK hP ziX2 rfl 8 (by decide) 10 (by decide) hw_1_109 rfl (v := .ref (q 12)) rfl dX2_copyFrom_101 ?_
  refine lv_iconst (v := nI 0) hx hb dX2_copyFrom_104 (by decide +kernel) ?_
  refine lv_aload_n hx hb dX2_copyFrom_105 rfl (lv_at hl 0 rfl) ?_
  refine z_get hx hb ht hown hK hP ziX2 rfl 3 (by decide) 10 (by decide) hw_1_109 rfl (v := .ref (q 7)) rfl dX2_copyFrom_106 ?_
  refine lv_iconst (v := nI 0) hx hb dX2_copyFrom_109 (by decide +kernel) ?_
  refine lv_bipush (v := nI 30) hx hb dX2_copyFrom_110 (by decide +kernel) ?_
  refine z_copyi hx hb (hml.trans hl.1.symm) ht hown hw_3_42 ⟨hw_3_44, hw_3_43, hw_1_18⟩ hK hP hD hS 12 7 (by decide) (by decide) 8 4 rfl (fun _ => rfl) rfl rfl (by decide +kernel) (by decide +kernel) (by decide +kernel) (by decide +kernel) (by decide +kernel) (by decide) (by decide +kernel) dX2_copyFrom_112 (fun g_16 H locs eg_16 hP hD hS => ?_)
  have hI_17 := xInv_cp hI_15 12 7 eg_16 (by decide) (by decide) rfl
  exact z_vret hx hb hr hlocks hP hD hS dX2_copyFrom_115 hI_17
set_option maxHeartbeats 4000000 in
set_option maxRecDepth 100000 in
theorem xk_J7_fill_53178_1 (l : Launch) (D : va_G) (q : Nat → Nat) (cA : Nat → ClassId) (F : Nat → Nat → Int32) (I R : Nat → Nat → Int32) (J : Nat → Nat → Int64) (hI : xInv F (I, R, J)) (pa1 : Int32) (hpa1 : zR 0 1 pa1) : zMv l D vwCl (zXtys cA) 81 q (zXd q cA) yJ7_fill_53178 cJ7_fill_53178 4 none ({ frames := 0, cells := 0, slots := 0, locals := 0 } : Room) [.ref (q 18), .int (pa1)] (I, R, J) (fun u => xInv F u) := by
  intro sz
  refine z_body (by decide +kernel) (Nat.le_of_ble_eq_true rfl) (fun p e s m below meth c ls hx hb hml hr ht hown hlocks hsz hK hP hD hS hl => ?_)
  have hA : ∀ a, s.heap.size ≤ a → zA 81 q sz a := fun a h => Or.inr (hsz ▸ h)
  have hl : lv_has ls 4 [(0, .ref (q 18)), (1, .int (pa1))] := hl
  refine lv_iconst (v := nI 0) hx hb dJ7_fill_53178_0 (by decide +kernel) ?_
  refine lv_istore_n (lv' := [(2, .int (nI 0)), (0, .ref (q 18)), (1, .int (pa1))]) hx hb dJ7_fill_53178_1 rfl hl (by decide) rfl (fun ls hl => ?_)
  refine lv_aload_n hx hb dJ7_fill_53178_2 rfl (lv_at hl 1 rfl) ?_
  refine z_alen hx hb hK hP 18 (by decide) 12 rfl rfl dJ7_fill_53178_3 ?_
  refine lv_istore_n (lv' := [(3, .int (nI 6)), (2, .int (nI 0)), (0, .ref (q 18)), (1, .int (pa1))]) hx hb dJ7_fill_53178_4 rfl hl (by decide) rfl (fun ls hl => ?_)
  have loop_22 : ∀ N : Nat, ∀ x_20 : Int32, zR 0 6 x_20 → ∀ R_21 : Nat → Nat → Int32, xInv F (I, R_21, J) → (2147483648 - (x_20).toInt).toNat < N → ∀ (H : Heap) (locs : List Loc), va_P D vwCl (zw 81 q (zXd q cA) I R_21 J) H → va_D (zA 81 q sz) (zw 81 q (zXd q cA) I R_21 J) → va_S (zA 81 q sz) s.heap H locs → ∀ ls : Array Slot, lv_has ls 4 [(0, .ref (q 18)), (1, .int (pa1)), (2, .int (x_20)), (3, .int (nI 6))] → W p l e ({ frames := 0, cells := 0, slots := 0, locals := 0 } : Room) s m ([.ref (q 18), .int (pa1)] : List Value).toArray below meth c H locs 0 0 (MQ below (va_Qv (fun u => xInv F u) (zB D vwCl 81 q (zXd q cA) sz) (zA 81 q sz)) ([.ref (q 18), .int (pa1)] : List Value).toArray s 0 0 (zA 81 q sz)) (F0 m 5 ls []) := by
    intro N
    induction N with
    | zero => intro x_20 hx_20 R_21 hI_21 hN; exact absurd hN (Nat.not_lt_zero _)
    | succ N ih_24 =>
      intro x_20 hx_20 R_21 hI_21 hN_23 H locs hP hD hS ls hl
      refine lv_iload_n hx hb dJ7_fill_53178_5 rfl (lv_at hl 2 rfl) ?_
      refine lv_iload_n hx hb dJ7_fill_53178_6 rfl (lv_at hl 3 rfl) ?_
      refine lv_icmp_ge (tgt := 20) hx hb dJ7_fill_53178_7 (by decide) (fun c_25 => ?_) (fun c_25 => ?_)
      · have t_c_25 := z_leT c_25
        have f_26 : zR 6 6 (x_20) := zR_ley t_c_25 zk_6 hx_20 (by decide)
        exact z_vret hx hb hr hlocks hP hD hS dJ7_fill_53178_20 hI_21
      · have t_c_25 := z_leF c_25
        have f_27 : zR 0 5 (x_20) := zR_ltx t_c_25 hx_20 zk_6 (by decide)
        refine lv_aload_n hx hb dJ7_fill_53178_10 rfl (lv_at hl 0 rfl) ?_
        refine lv_iload_n hx hb dJ7_fill_53178_11 rfl (lv_at hl 2 rfl) ?_
        refine lv_iload_n hx hb dJ7_fill_53178_12 rfl (lv_at hl 1 rfl) ?_
        refine z_iast hx hb hK hP hD hS 18 (by decide) 12 (fun _ => rfl) rfl (zR_vin f_27 (by decide)) dJ7_fill_53178_13 (fun H locs hP hD hS => ?_)
        have hI_28 := xInv_R hI_21 18 (x_20).toNatClampNeg (pa1) (show zR 0 48 (pa1) from zR_w hpa1 (by decide)) rfl
        obtain ⟨v_29, ev_29⟩ : ∃ y : Int32, y = x_20 + nI 1 := ⟨_, rfl⟩
        have hv_29 : zR 1 6 v_29 := ev_29 ▸ zR_add f_27 zk_1 (by decide)
        have mv_29 : v_29.toInt = (x_20).toInt + 1 := by rw [ev_29, zR_addE f_27 zk_1 (by decide)]; rfl
        refine lv_iinc (v := v_29) (lv' := [(2, .int (v_29)), (0, .ref (q 18)), (1, .int (pa1)), (3, .int (nI 6))]) hx hb dJ7_fill_53178_14 hl (k := 2) rfl (ev_29 ▸ rfl) (by decide) rfl (fun ls hl => ?_)
        refine lv_goto (tgt := 5) hx hb dJ7_fill_53178_17 (by decide) ?_
        exact ih_24 (v_29) (zR_w hv_29 (by decide)) _ hI_28 (z2_up mv_29 (by decide) hN_23) _ _ hP hD hS _ (lv_sub hl [1, 2, 0, 3] rfl)
  exact loop_22 _ (nI 0) (zR_w zk_0 (by decide)) _ hI (Nat.lt_succ_self _) _ _ hP hD hS _ (lv_sub hl [2, 3, 1, 0] rfl)
set_option maxHeartbeats 4000000 in
set_option maxRecDepth 100000 in
theorem xk_X9_begin (l : Launch) (D : va_G) (q : Nat → Nat) (cA : Nat → ClassId) (F : Nat → Nat → Int32) (I R : Nat → Nat → Int32) (J : Nat → Nat → Int64) (hI : xInv F (I, R, J))  : zMv l D vwCl (zXtys cA) 81 q (zXd q cA) yX9_begin cX9_begin 2 none ({ frames := 1, cells := 0, slots := 0, locals := 64 } : Room) [.ref (q 15)] (I, R, J) (fun u => xInv F u) := by
  intro sz
  refine z_body (by decide +kernel) (Nat.le_of_ble_eq_true rfl) (fun p e s m below meth c ls hx hb hml hr ht hown hlocks hsz hK hP hD hS hl => ?_)
  have hA : ∀ a, s.heap.size ≤ a → zA 81 q sz a := fun a h => Or.inr (hsz ▸ h)
  have hl : lv_has ls 2 [(0, .ref (q 15))] := hl
  refine lv_aload_n hx hb dX9_begin_0 rfl (lv_at hl 0 rfl) ?_
  refine lv_iconst (v := nI 0) hx hb dX9_begin_1 (by decide +kernel) ?_
  refine z_putI hx hb ht hown hK hP hD hS ziX9 tyX9 tyX9_ok nmX9 rfl 15 (by decide) 1 (by decide) hw_1_157 rfl (v := nI 0) rfl rfl rfl (Nat.le_of_ble_eq_true rfl) rfl dX9_begin_2 (fun H locs hP hD hS => ?_)
  have hI_1 := xInv_I hI 15 1 (nI 0) (zR_any (nI 0)) rfl
  refine lv_aload_n hx hb dX9_begin_5 rfl (lv_at hl 0 rfl) ?_
  refine lv_iconst (v := nI 0) hx hb dX9_begin_6 (by decide +kernel) ?_
  refine z_putI hx hb ht hown hK hP hD hS ziX9 tyX9 tyX9_ok nmX9 rfl 15 (by decide) 2 (by decide) hw_1_159 rfl (v := nI 0) rfl rfl rfl (Nat.le_of_ble_eq_true rfl) rfl dX9_begin_7 (fun H locs hP hD hS => ?_)
  have hI_2 := xInv_I hI_1 15 2 (nI 0) (zR_w zk_0 (by decide)) rfl
  refine lv_aload_n hx hb dX9_begin_10 rfl (lv_at hl 0 rfl) ?_
  refine lv_aload_n hx hb dX9_begin_11 rfl (lv_at hl 0 rfl) ?_
  refine z_get hx hb ht hown hK hP ziX9 rfl 15 (by decide) 0 (by decide) hw_1_154 rfl (v := .ref (q 3)) rfl dX9_begin_12 ?_
  refine z_get hx hb ht hown hK hP ziX2 rfl 3 (by decide) 6 (by decide) hw_1_94 rfl (v := .int (I 3 6)) rfl dX9_begin_15 ?_
  refine z_putI hx hb ht hown hK hP hD hS ziX9 tyX9 tyX9_ok nmX9 rfl 15 (by decide) 3 (by decide) hw_1_163 rfl (v := I 3 6) rfl rfl rfl (Nat.le_of_ble_eq_true rfl) rfl dX9_begin_18 (fun H locs hP hD hS => ?_)
  have hI_3 := xInv_I hI_2 15 3 (I 3 6) (zR_any (I 3 6)) rfl
  refine lv_aload_n hx hb dX9_begin_21 rfl (lv_at hl 0 rfl) ?_
  refine z_get hx hb ht hown hK hP ziX9 rfl 15 (by decide) 0 (by decide) hw_1_154 rfl (v := .ref (q 3)) rfl dX9_begin_22 ?_
  refine z_get hx hb ht hown hK hP ziX2 rfl 3 (by decide) 7 (by decide) hw_1_98 rfl (v := .ref (q 4)) rfl dX9_begin_25 ?_
  refine lv_iconst (v := nI 0) hx hb dX9_begin_28 (by decide +kernel) ?_
  refine lv_aload_n hx hb dX9_begin_29 rfl (lv_at hl 0 rfl) ?_
  refine z_get hx hb ht hown hK hP ziX9 rfl 15 (by decide) 4 (by decide) hw_1_164 rfl (v := .ref (q 16)) rfl dX9_begin_30 ?_
  refine lv_iconst (v := nI 0) hx hb dX9_begin_33 (by decide +kernel) ?_
  refine lv_iconst (v := nI 5) hx hb dX9_begin_34 (by decide +kernel) ?_
  refine z_copyi hx hb (hml.trans hl.1.symm) ht hown hw_3_49 ⟨hw_3_44, hw_3_43, hw_1_18⟩ hK hP hD hS 4 16 (by decide) (by decide) 1 10 rfl (fun _ => rfl) rfl rfl (by decide +kernel) (by decide +kernel) (by decide +kernel) (by decide +kernel) (by decide +kernel) (by decide) (by decide +kernel) dX9_begin_35 (fun g_4 H locs eg_4 hP hD hS => ?_)
  have hI_5 := xInv_cp hI_3 4 16 eg_4 (by decide) (by decide) rfl
  refine lv_aload_n hx hb dX9_begin_38 rfl (lv_at hl 0 rfl) ?_
  refine z_get hx hb ht hown hK hP ziX9 rfl 15 (by decide) 0 (by decide) hw_1_154 rfl (v := .ref (q 3)) rfl dX9_begin_39 ?_
  refine z_get hx hb ht hown hK hP ziX2 rfl 3 (by decide) 8 (by decide) hw_1_101 rfl (v := .ref (q 5)) rfl dX9_begin_42 ?_
  refine lv_iconst (v := nI 0) hx hb dX9_begin_45 (by decide +kernel) ?_
  refine lv_aload_n hx hb dX9_begin_46 rfl (lv_at hl 0 rfl) ?_
  refine z_get hx hb ht hown hK hP ziX9 rfl 15 (by decide) 5 (by decide) hw_1_166 rfl (v := .ref (q 17)) rfl dX9_begin_47 ?_
  refine lv_iconst (v := nI 0) hx hb dX9_begin_50 (by decide +kernel) ?_
  refine lv_bipush (v := nI 6) hx hb dX9_begin_51 (by decide +kernel) ?_
  refine z_copyi hx hb (hml.trans hl.1.symm) ht hown hw_3_49 ⟨hw_3_44, hw_3_43, hw_1_18⟩ hK hP hD hS 5 17 (by decide) (by decide) 2 11 rfl (fun _ => rfl) rfl rfl (by decide +kernel) (by decide +kernel) (by decide +kernel) (by decide +kernel) (by decide +kernel) (by decide) (by decide +kernel) dX9_begin_53 (fun g_6 H locs eg_6 hP hD hS => ?_)
  have hI_7 := xInv_cp hI_5 5 17 eg_6 (by decide) (by decide) rfl
  refine lv_aload_n hx hb dX9_begin_56 rfl (lv_at hl 0 rfl) ?_
  refine z_get hx hb ht hown hK hP ziX9 rfl 15 (by decide) 6 (by decide) hw_1_169 rfl (v := .ref (q 18)) rfl dX9_begin_57 ?_
  refine lv_iconst (v := nI 0) hx hb dX9_begin_60 (by decide +kernel) ?_
  refine z_callSv (As := [.ref (q 18), .int (nI 0)]) (rest := []) hx hb hml hown ht (xk_J7_fill_53178_1 l D q cA F _ _ _ hI_7 (nI 0) (zR_w zk_0 (by decide))) hw_3_50 hmJ7_fill_53178 ⟨rfl, rfl⟩ (na := 2) rfl (by decide +kernel) (by decide) hK hP hD hS hA hl.1 rfl (Nat.le_of_ble_eq_true rfl) ⟨Nat.zero_le _, Nat.zero_le _⟩ dX9_begin_61 (fun I_8 R_8 J_8 H locs hp_8 hP hD hS _ _ => ?_)
  refine lv_iconst (v := nI 0) hx hb dX9_begin_64 (by decide +kernel) ?_
  refine lv_istore_n (lv' := [(1, .int (nI 0)), (0, .ref (q 15))]) hx hb dX9_begin_65 rfl hl (by decide) rfl (fun ls hl => ?_)
  have loop_37 : ∀ N : Nat, ∀ x_35 : Int32, zR 0 6 x_35 → ∀ R_36 : Nat → Nat → Int32, xInv F (I_8, R_36, J_8) → (2147483648 - (x_35).toInt).toNat < N → ∀ (H : Heap) (locs : List Loc), va_P D vwCl (zw 81 q (zXd q cA) I_8 R_36 J_8) H → va_D (zA 81 q sz) (zw 81 q (zXd q cA) I_8 R_36 J_8) → va_S (zA 81 q sz) s.heap H locs → ∀ ls : Array Slot, lv_has ls 2 [(0, .ref (q 15)), (1, .int (x_35))] → W p l e ({ frames := 1, cells := 0, slots := 0, locals := 64 } : Room) s m ([.ref (q 15)] : List Value).toArray below meth c H locs 0 0 (MQ below (va_Qv (fun u => xInv F u) (zB D vwCl 81 q (zXd q cA) sz) (zA 81 q sz)) ([.ref (q 15)] : List Value).toArray s 0 0 (zA 81 q sz)) (F0 m 66 ls []) := by
    intro N
    induction N with
    | zero => intro x_35 hx_35 R_36 hI_36 hN; exact absurd hN (Nat.not_lt_zero _)
    | succ N ih_39 =>
      intro x_35 hx_35 R_36 hI_36 hN_38 H locs hP hD hS ls hl
      refine lv_iload_n hx hb dX9_begin_66 rfl (lv_at hl 1 rfl) ?_
      refine lv_bipush (v := nI 6) hx hb dX9_begin_67 (by decide +kernel) ?_
      refine lv_icmp_ge (tgt := 96) hx hb dX9_begin_69 (by decide) (fun c_40 => ?_) (fun c_40 => ?_)
      · have t_c_40 := z_leT c_40
        have f_41 : zR 6 6 (x_35) := zR_ley t_c_40 zk_6 hx_35 (by decide)
        exact z_vret hx hb hr hlocks hP hD hS dX9_begin_96 hI_36
      · have t_c_40 := z_leF c_40
        have f_42 : zR 0 5 (x_35) := zR_ltx t_c_40 hx_35 zk_6 (by decide)
        refine lv_aload_n hx hb dX9_begin_72 rfl (lv_at hl 0 rfl) ?_
        refine z_get hx hb ht hown hK hP ziX9 rfl 15 (by decide) 12 (by decide) hw_1_187 rfl (v := .ref (q 24)) rfl dX9_begin_73 ?_
        refine lv_iload_n hx hb dX9_begin_76 rfl (lv_at hl 1 rfl) ?_
        refine lv_bipush (v := nI 49) hx hb dX9_begin_77 (by decide +kernel) ?_
        refine lv_imul hx hb dX9_begin_79 ?_
        refine z_rng (a := 0) (b := 245) (zR_mul f_42 zk_49 (by decide)) (fun v_43 hv_43 => ?_)
        refine lv_aload_n hx hb dX9_begin_80 rfl (lv_at hl 0 rfl) ?_
        refine z_get hx hb ht hown hK hP ziX9 rfl 15 (by decide) 0 (by decide) hw_1_154 rfl (v := .ref (q 3)) rfl dX9_begin_81 ?_
        refine z_get hx hb ht hown hK hP ziX2 rfl 3 (by decide) 8 (by decide) hw_1_101 rfl (v := .ref (q 5)) rfl dX9_begin_84 ?_
        refine lv_iload_n hx hb dX9_begin_87 rfl (lv_at hl 1 rfl) ?_
        refine z_iald hx hb hK hP 5 (by decide) 2 rfl rfl (zR_vin f_42 (by decide)) dX9_begin_88 ?_
        refine z_eqi (y := R_36 5 (x_35).toNatClampNeg) rfl ?_
        have f_44 : zR 0 4 (R_36 5 (x_35).toNatClampNeg) := xR hI_36 5 (x_35).toNatClampNeg
        refine z_iast hx hb hK hP hD hS 24 (by decide) 18 (fun _ => rfl) rfl (zR_vin hv_43 (by decide)) dX9_begin_89 (fun H locs hP hD hS => ?_)
        have hI_45 := xInv_R hI_36 24 (v_43).toNatClampNeg (R_36 5 (x_35).toNatClampNeg) (zR_any _) rfl
        obtain ⟨v_46, ev_46⟩ : ∃ y : Int32, y = x_35 + nI 1 := ⟨_, rfl⟩
        have hv_46 : zR 1 6 v_46 := ev_46 ▸ zR_add f_42 zk_1 (by decide)
        have mv_46 : v_46.toInt = (x_35).toInt + 1 := by rw [ev_46, zR_addE f_42 zk_1 (by decide)]; rfl
        refine lv_iinc (v := v_46) (lv' := [(1, .int (v_46)), (0, .ref (q 15))]) hx hb dX9_begin_90 hl (k := 1) rfl (ev_46 ▸ rfl) (by decide) rfl (fun ls hl => ?_)
        refine lv_goto (tgt := 66) hx hb dX9_begin_93 (by decide) ?_
        exact ih_39 (v_46) (zR_w hv_46 (by decide)) _ hI_45 (z2_up mv_46 (by decide) hN_38) _ _ hP hD hS _ (lv_sub hl [1, 0] rfl)
  exact loop_37 _ (nI 0) (zR_w zk_0 (by decide)) _ hp_8 (Nat.lt_succ_self _) _ _ hP hD hS _ (lv_sub hl [1, 0] rfl)
set_option maxHeartbeats 4000000 in
set_option maxRecDepth 100000 in
theorem xk_X10_city (l : Launch) (D : va_G) (q : Nat → Nat) (cA : Nat → ClassId) (ad av : Nat → Nat) (t9 : Nat) (F : Nat → Nat → Int32) (I R : Nat → Nat → Int32) (J : Nat → Nat → Int64) (hI : xInv F (I, R, J))  : zNi (zSS zXRs 81 q ad av t9) l D vwCl (zXtys cA) 81 q (zXd q cA) yX10_city cX10_city 1 (some .int) ({ frames := 8, cells := 0, slots := 0, locals := 172 } : Room) [.ref (q 0)] (I, R, J) (fun _ u => xInv F u) := by
  intro sz
  refine z_bodyN (by decide +kernel) (Nat.le_of_ble_eq_true rfl) (fun p e s m below meth c ls hx hb hml hr ht hown hlocks hsz hK hP hD hS hN hl => ?_)
  have hA : ∀ a, s.heap.size ≤ a → zA 81 q sz a := fun a h => Or.inr (hsz ▸ h)
  have hl : lv_has ls 1 [(0, .ref (q 0))] := hl
  have hZ : zSz zXRs 81 q ad av t9 sz s := hsz ▸ hN
  refine lv_aload_n hx hb dX10_city_0 rfl (lv_at hl 0 rfl) ?_
  refine z_get hx hb ht hown hK hP ziX10 rfl 0 (by decide) 0 (by decide) hw_2_93 rfl (v := .ref (q 1)) rfl dX10_city_1 ?_
  refine lv_aload_n hx hb dX10_city_4 rfl (lv_at hl 0 rfl) ?_
  refine z_get hx hb ht hown hK hP ziX10 rfl 0 (by decide) 2 (by decide) hw_2_95 rfl (v := .ref (q 8)) rfl dX10_city_5 ?_
  refine z_cNVi (k := 1) (As := [.ref (q 8)]) (rest := []) hx hb hml hown ht (xk_X7_read l D q cA ad av t9 F _ _ _ hI ) hw_2_150 hmX7_read ⟨rfl, rfl⟩ (na := 1) rfl (by decide +kernel) (by decide) (by decide) rfl rfl hK hP hD hS hA (zSS_c (Rs := zXRs) (t9 := t9) (fun _ _ _ => zXRs_c)) (zSS_w (Rs := zXRs) (t9 := t9) (fun _ _ _ => zXRs_w) hN hsz hS) hl.1 rfl (Nat.le_of_ble_eq_true rfl) ⟨Nat.zero_le _, Nat.zero_le _⟩ dX10_city_8 (fun r_1 I_1 R_1 J_1 H locs hp_1 hP hD hS _ _ => ?_)
  rcases hp_1 with ⟨rfl, hu_1⟩ | ⟨rfl, hu_1⟩
  · refine lv_if_ne (tgt := 17) hx hb dX10_city_11 (by decide) (fun _ => ?_) (fun c_0 => absurd c_0 (zD_ne zk_1 zk_z (by decide)))
    refine lv_aload_n hx hb dX10_city_17 rfl (lv_at hl 0 rfl) ?_
    refine z_get hx hb ht hown hK hP ziX10 rfl 0 (by decide) 0 (by decide) hw_2_93 rfl (v := .ref (q 1)) rfl dX10_city_18 ?_
    refine lv_iconst (v := nI 0) hx hb dX10_city_21 (by decide +kernel) ?_
    refine z_putI hx hb ht hown hK hP hD hS ziX7 tyX7 tyX7_ok nmX7 rfl 1 (by decide) 1 (by decide) hw_1_37 rfl (v := nI 0) rfl rfl rfl (Nat.le_of_ble_eq_true rfl) rfl dX10_city_22 (fun H locs hP hD hS => ?_)
    have hI_2 := xInv_I hu_1 1 1 (nI 0) (zR_w zk_0 (by decide)) rfl
    refine lv_aload_n hx hb dX10_city_25 rfl (lv_at hl 0 rfl) ?_
    refine z_get hx hb ht hown hK hP ziX10 rfl 0 (by decide) 1 (by decide) hw_2_94 rfl (v := .ref (q 3)) rfl dX10_city_26 ?_
    refine lv_aload_n hx hb dX10_city_29 rfl (lv_at hl 0 rfl) ?_
    refine z_get hx hb ht hown hK hP ziX10 rfl 0 (by decide) 2 (by decide) hw_2_95 rfl (v := .ref (q 8)) rfl dX10_city_30 ?_
    refine z_callVv (k := 3) (As := [.ref (q 8)]) (rest := []) hx hb hml hown ht (xk_X2_copyFrom l D q cA F _ _ _ hI_2 ) hw_3_38 hmX2_copyFrom ⟨rfl, rfl⟩ (na := 1) rfl (by decide +kernel) (by decide) (by decide) rfl rfl hK hP hD hS hA hl.1 rfl (Nat.le_of_ble_eq_true rfl) ⟨Nat.zero_le _, Nat.zero_le _⟩ dX10_city_33 (fun I_3 R_3 J_3 H locs hp_3 hP hD hS _ _ => ?_)
    refine lv_aload_n hx hb dX10_city_36 rfl (lv_at hl 0 rfl) ?_
    refine z_get hx hb ht hown hK hP ziX10 rfl 0 (by decide) 3 (by decide) hw_2_96 rfl (v := .ref (q 13)) rfl dX10_city_37 ?_
    refine lv_iconst (v := nI 0) hx hb dX10_city_40 (by decide +kernel) ?_
    refine z_putI hx hb ht hown hK hP hD hS ziX0 tyX0 tyX0_ok nmX0 rfl 13 (by decide) 0 (by decide) hw_1_141 rfl (v := nI 0) rfl rfl rfl (Nat.le_of_ble_eq_true rfl) rfl dX10_city_41 (fun H locs hP hD hS => ?_)
    have hI_4 := xInv_I hp_3 13 0 (nI 0) (zR_w zk_0 (by decide)) rfl
    refine lv_aload_n hx hb dX10_city_44 rfl (lv_at hl 0 rfl) ?_
    refine z_get hx hb ht hown hK hP ziX10 rfl 0 (by decide) 4 (by decide) hw_2_97 rfl (v := .ref (q 15)) rfl dX10_city_45 ?_
    refine z_callVv (k := 15) (As := []) (rest := []) hx hb hml hown ht (xk_X9_begin l D q cA F _ _ _ hI_4 ) hw_3_45 hmX9_begin ⟨rfl, rfl⟩ (na := 0) rfl (by decide +kernel) (by decide) (by decide) rfl rfl hK hP hD hS hA hl.1 rfl (Nat.le_of_ble_eq_true rfl) ⟨Nat.zero_le _, Nat.zero_le _⟩ dX10_city_48 (fun I_5 R_5 J_5 H locs hp_5 hP hD hS _ _ => ?_)
    refine lv_aload_n hx hb dX10_city_51 rfl (lv_at hl 0 rfl) ?_
    refine z_get hx hb ht hown hK hP ziX10 rfl 0 (by decide) 1 (by decide) hw_2_94 rfl (v := .ref (q 3)) rfl dX10_city_52 ?_
    refine z_get hx hb ht hown hK hP ziX2 rfl 3 (by decide) 0 (by decide) hw_1_68 rfl (v := .int (I_5 3 0)) rfl dX10_city_55 ?_
    exact z_iret (v := I_5 3 0) hx hb hr hlocks hP hD hS dX10_city_58 hp_5
  · refine lv_if_ne (tgt := 17) hx hb dX10_city_11 (by decide) (fun c_0 => absurd (zD_eq zk_0 zk_z) c_0) (fun _ => ?_)
    refine lv_bipush (v := (-4)) hx hb dX10_city_14 (by decide +kernel) ?_
    exact z_iret (v := (-4)) hx hb hr hlocks hP hD hS dX10_city_16 hu_1
set_option maxHeartbeats 4000000 in
set_option maxRecDepth 100000 in
theorem xk_X10_fault (l : Launch) (D : va_G) (q : Nat → Nat) (cA : Nat → ClassId) (F : Nat → Nat → Int32) (I R : Nat → Nat → Int32) (J : Nat → Nat → Int64) (hI : xInv F (I, R, J)) (pa0 : Int32) : zMi l D vwCl (zXtys cA) 81 q (zXd q cA) yX10_fault cX10_fault 2 (some .int) ({ frames := 0, cells := 0, slots := 0, locals := 0 } : Room) [.ref (q 0), .int (pa0)] (I, R, J) (fun _ u => u = (I, R, J)) := by
  intro sz
  refine z_body (by decide +kernel) (Nat.le_of_ble_eq_true rfl) (fun p e s m below meth c ls hx hb hml hr ht hown hlocks hsz hK hP hD hS hl => ?_)
  have hA : ∀ a, s.heap.size ≤ a → zA 81 q sz a := fun a h => Or.inr (hsz ▸ h)
  have hl : lv_has ls 2 [(0, .ref (q 0)), (1, .int (pa0))] := hl
  refine lv_iload_n hx hb dX10_fault_0 rfl (lv_at hl 1 rfl) ?_
  refine lv_if_ne (tgt := 12) hx hb dX10_fault_1 (by decide) (fun c_1 => ?_) (fun c_1 => ?_)
  · have t_c_1 := z_eqF c_1
    refine lv_iload_n hx hb dX10_fault_12 rfl (lv_at hl 1 rfl) ?_
    refine lv_iconst (v := nI 1) hx hb dX10_fault_13 (by decide +kernel) ?_
    refine lv_icmp_ne (tgt := 27) hx hb dX10_fault_14 (by decide) (fun c_2 => ?_) (fun c_2 => ?_)
    · have t_c_2 := z_eqF c_2
      refine lv_iconst (v := (-1)) hx hb dX10_fault_27 (by decide +kernel) ?_
      exact z_iret (v := (-1)) hx hb hr hlocks hP hD hS dX10_fault_28 rfl
    · have t_c_2 := z_eqT c_2
      have f_3 : zR 1 1 (pa0) := zR_eqx t_c_2 zk_1
      refine lv_aload_n hx hb dX10_fault_17 rfl (lv_at hl 0 rfl) ?_
      refine z_get hx hb ht hown hK hP ziX10 rfl 0 (by decide) 0 (by decide) hw_2_93 rfl (v := .ref (q 1)) rfl dX10_fault_18 ?_
      refine z_get hx hb ht hown hK hP ziX7 rfl 1 (by decide) 3 (by decide) hw_1_41 rfl (v := .int (I 1 3)) rfl dX10_fault_21 ?_
      refine lv_goto (tgt := 28) hx hb dX10_fault_24 (by decide) ?_
      exact z_iret (v := I 1 3) hx hb hr hlocks hP hD hS dX10_fault_28 rfl
  · have t_c_1 := z_eqT c_1
    have f_4 : zR 0 0 (pa0) := zR_eqx t_c_1 zk_z
    refine lv_aload_n hx hb dX10_fault_4 rfl (lv_at hl 0 rfl) ?_
    refine z_get hx hb ht hown hK hP ziX10 rfl 0 (by decide) 0 (by decide) hw_2_93 rfl (v := .ref (q 1)) rfl dX10_fault_5 ?_
    refine z_get hx hb ht hown hK hP ziX7 rfl 1 (by decide) 2 (by decide) hw_1_39 rfl (v := .int (I 1 2)) rfl dX10_fault_8 ?_
    exact z_iret (v := I 1 2) hx hb hr hlocks hP hD hS dX10_fault_11 rfl
set_option maxHeartbeats 4000000 in
set_option maxRecDepth 100000 in
theorem xk_X10_isHouse (l : Launch) (D : va_G) (q : Nat → Nat) (cA : Nat → ClassId) (F : Nat → Nat → Int32) (I R : Nat → Nat → Int32) (J : Nat → Nat → Int64) (hI : xInv F (I, R, J)) (pa0 : Int32) : zMi l D vwCl (zXtys cA) 81 q (zXd q cA) yX10_isHouse cX10_isHouse 2 (some .boolean) ({ frames := 0, cells := 0, slots := 0, locals := 0 } : Room) [.ref (q 0), .int (pa0)] (I, R, J) (fun r u => (r = nI 1 ∧ u = (I, R, J) ∧ zR 0 4 pa0) ∨ (r = nI 0 ∧ u = (I, R, J))) := by
  intro sz
  refine z_body (by decide +kernel) (Nat.le_of_ble_eq_true rfl) (fun p e s m below meth c ls hx hb hml hr ht hown hlocks hsz hK hP hD hS hl => ?_)
  have hA : ∀ a, s.heap.size ≤ a → zA 81 q sz a := fun a h => Or.inr (hsz ▸ h)
  have hl : lv_has ls 2 [(0, .ref (q 0)), (1, .int (pa0))] := hl
  refine lv_iload_n hx hb dX10_isHouse_0 rfl (lv_at hl 1 rfl) ?_
  refine lv_if_lt (tgt := 19) hx hb dX10_isHouse_1 (by decide) (fun c_1 => ?_) (fun c_1 => ?_)
  · have t_c_1 := z_ltT c_1
    have f_2 : zR (-2147483648) (-1) (pa0) := zR_ltx t_c_1 (zR_any (pa0)) zk_z (by decide)
    refine lv_iconst (v := nI 0) hx hb dX10_isHouse_19 (by decide +kernel) ?_
    exact z_zret (v := nI 0) hx hb hr hlocks hP hD hS (by decide +kernel) dX10_isHouse_20 (Or.inr ⟨rfl, rfl⟩)
  · have t_c_1 := z_ltF c_1
    have f_3 : zR 0 2147483647 (pa0) := zR_ley t_c_1 zk_z (zR_any (pa0)) (by decide)
    refine lv_iload_n hx hb dX10_isHouse_4 rfl (lv_at hl 1 rfl) ?_
    refine lv_aload_n hx hb dX10_isHouse_5 rfl (lv_at hl 0 rfl) ?_
    refine z_get hx hb ht hown hK hP ziX10 rfl 0 (by decide) 1 (by decide) hw_2_94 rfl (v := .ref (q 3)) rfl dX10_isHouse_6 ?_
    refine z_get hx hb ht hown hK hP ziX2 rfl 3 (by decide) 4 (by decide) hw_1_85 rfl (v := .int (I 3 4)) rfl dX10_isHouse_9 ?_
    have f_4 : zR 0 5 (I 3 4) := xI hI 3 4
    refine lv_icmp_ge (tgt := 19) hx hb dX10_isHouse_12 (by decide) (fun c_5 => ?_) (fun c_5 => ?_)
    · have t_c_5 := z_leT c_5
      refine lv_iconst (v := nI 0) hx hb dX10_isHouse_19 (by decide +kernel) ?_
      exact z_zret (v := nI 0) hx hb hr hlocks hP hD hS (by decide +kernel) dX10_isHouse_20 (Or.inr ⟨rfl, rfl⟩)
    · have t_c_5 := z_leF c_5
      have f_6 : zR 0 4 (pa0) := zR_ltx t_c_5 f_3 f_4 (by decide)
      have f_7 : zR 1 5 (I 3 4) := zR_lty t_c_5 f_3 f_4 (by decide)
      refine lv_iconst (v := nI 1) hx hb dX10_isHouse_15 (by decide +kernel) ?_
      refine lv_goto (tgt := 20) hx hb dX10_isHouse_16 (by decide) ?_
      exact z_zret (v := nI 1) hx hb hr hlocks hP hD hS (by decide +kernel) dX10_isHouse_20 (Or.inl ⟨rfl, rfl, f_6⟩)
set_option maxHeartbeats 4000000 in
set_option maxRecDepth 100000 in
theorem xk_X9_isLocked (l : Launch) (D : va_G) (q : Nat → Nat) (cA : Nat → ClassId) (F : Nat → Nat → Int32) (I R : Nat → Nat → Int32) (J : Nat → Nat → Int64) (hI : xInv F (I, R, J)) (pa0 : Int32) (hpa0 : zR 0 4 pa0) : zMi l D vwCl (zXtys cA) 81 q (zXd q cA) yX9_isLocked cX9_isLocked 2 (some .boolean) ({ frames := 0, cells := 0, slots := 0, locals := 0 } : Room) [.ref (q 15), .int (pa0)] (I, R, J) (fun r u => (r = nI 1 ∧ u = (I, R, J)) ∨ (r = nI 0 ∧ u = (I, R, J))) := by
  intro sz
  refine z_body (by decide +kernel) (Nat.le_of_ble_eq_true rfl) (fun p e s m below meth c ls hx hb hml hr ht hown hlocks hsz hK hP hD hS hl => ?_)
  have hA : ∀ a, s.heap.size ≤ a → zA 81 q sz a := fun a h => Or.inr (hsz ▸ h)
  have hl : lv_has ls 2 [(0, .ref (q 15)), (1, .int (pa0))] := hl
  refine lv_aload_n hx hb dX9_isLocked_0 rfl (lv_at hl 0 rfl) ?_
  refine z_get hx hb ht hown hK hP ziX9 rfl 15 (by decide) 3 (by decide) hw_1_163 rfl (v := .int (I 15 3)) rfl dX9_isLocked_1 ?_
  refine lv_iload_n hx hb dX9_isLocked_4 rfl (lv_at hl 1 rfl) ?_
  refine lv_ishr hx hb dX9_isLocked_5 ?_
  refine z_any (fun v_1 => ?_)
  refine lv_iconst (v := nI 1) hx hb dX9_isLocked_6 (by decide +kernel) ?_
  refine lv_iand hx hb dX9_isLocked_7 ?_
  refine z_rng (a := 0) (b := 1) (zR_andr zk_1 (by decide)) (fun v_2 hv_2 => ?_)
  refine lv_if_eq (tgt := 15) hx hb dX9_isLocked_8 (by decide) (fun c_3 => ?_) (fun c_3 => ?_)
  · have t_c_3 := z_eqT c_3
    have f_4 : zR 0 0 (v_2) := zR_eqx t_c_3 zk_z
    refine lv_iconst (v := nI 0) hx hb dX9_isLocked_15 (by decide +kernel) ?_
    exact z_zret (v := nI 0) hx hb hr hlocks hP hD hS (by decide +kernel) dX9_isLocked_16 (Or.inr ⟨rfl, rfl⟩)
  · have t_c_3 := z_eqF c_3
    have f_5 : zR 1 1 (v_2) := zR_nex t_c_3 hv_2 zk_z (by decide)
    refine lv_iconst (v := nI 1) hx hb dX9_isLocked_11 (by decide +kernel) ?_
    refine lv_goto (tgt := 16) hx hb dX9_isLocked_12 (by decide) ?_
    exact z_zret (v := nI 1) hx hb hr hlocks hP hD hS (by decide +kernel) dX9_isLocked_16 (Or.inl ⟨rfl, rfl⟩)
set_option maxHeartbeats 4000000 in
set_option maxRecDepth 100000 in
theorem xk_X9_thingsIn (l : Launch) (D : va_G) (q : Nat → Nat) (cA : Nat → ClassId) (F : Nat → Nat → Int32) (I R : Nat → Nat → Int32) (J : Nat → Nat → Int64) (hI : xInv F (I, R, J)) (pa0 : Int32) (hpa0 : zR 0 4 pa0) : zMi l D vwCl (zXtys cA) 81 q (zXd q cA) yX9_thingsIn cX9_thingsIn 4 (some .int) ({ frames := 0, cells := 0, slots := 0, locals := 0 } : Room) [.ref (q 15), .int (pa0)] (I, R, J) (fun r u => zR 0 63 r ∧ u = (I, R, J)) := by
  intro sz
  refine z_body (by decide +kernel) (Nat.le_of_ble_eq_true rfl) (fun p e s m below meth c ls hx hb hml hr ht hown hlocks hsz hK hP hD hS hl => ?_)
  have hA : ∀ a, s.heap.size ≤ a → zA 81 q sz a := fun a h => Or.inr (hsz ▸ h)
  have hl : lv_has ls 4 [(0, .ref (q 15)), (1, .int (pa0))] := hl
  refine lv_iconst (v := nI 0) hx hb dX9_thingsIn_0 (by decide +kernel) ?_
  refine lv_istore_n (lv' := [(2, .int (nI 0)), (0, .ref (q 15)), (1, .int (pa0))]) hx hb dX9_thingsIn_1 rfl hl (by decide) rfl (fun ls hl => ?_)
  refine lv_iconst (v := nI 0) hx hb dX9_thingsIn_2 (by decide +kernel) ?_
  refine lv_istore_n (lv' := [(3, .int (nI 0)), (2, .int (nI 0)), (0, .ref (q 15)), (1, .int (pa0))]) hx hb dX9_thingsIn_3 rfl hl (by decide) rfl (fun ls hl => ?_)
  have loop_59 : ∀ N : Nat, ∀ x_57 : Int32, zR 0 63 x_57 → ∀ x_58 : Int32, zR 0 6 x_58 → (2147483648 - (x_58).toInt).toNat < N → ∀ (H : Heap) (locs : List Loc), va_P D vwCl (zw 81 q (zXd q cA) I R J) H → va_D (zA 81 q sz) (zw 81 q (zXd q cA) I R J) → va_S (zA 81 q sz) s.heap H locs → ∀ ls : Array Slot, lv_has ls 4 [(0, .ref (q 15)), (1, .int (pa0)), (2, .int (x_57)), (3, .int (x_58))] → W p l e ({ frames := 0, cells := 0, slots := 0, locals := 0 } : Room) s m ([.ref (q 15), .int (pa0)] : List Value).toArray below meth c H locs 0 0 (MQ below (va_Qi (fun r u => zR 0 63 r ∧ u = (I, R, J)) (zB D vwCl 81 q (zXd q cA) sz) (zA 81 q sz)) ([.ref (q 15), .int (pa0)] : List Value).toArray s 0 0 (zA 81 q sz)) (F0 m 4 ls []) := by
    intro N
    induction N with
    | zero => intro x_57 hx_57 x_58 hx_58 hN; exact absurd hN (Nat.not_lt_zero _)
    | succ N ih_61 =>
      intro x_57 hx_57 x_58 hx_58 hN_60 H locs hP hD hS ls hl
      refine lv_iload_n hx hb dX9_thingsIn_4 rfl (lv_at hl 3 rfl) ?_
      refine lv_aload_n hx hb dX9_thingsIn_5 rfl (lv_at hl 0 rfl) ?_
      refine z_get hx hb ht hown hK hP ziX9 rfl 15 (by decide) 0 (by decide) hw_1_154 rfl (v := .ref (q 3)) rfl dX9_thingsIn_6 ?_
      refine z_get hx hb ht hown hK hP ziX2 rfl 3 (by decide) 5 (by decide) hw_1_92 rfl (v := .int (I 3 5)) rfl dX9_thingsIn_9 ?_
      have f_62 : zR 0 6 (I 3 5) := xI hI 3 5
      refine lv_icmp_ge (tgt := 41) hx hb dX9_thingsIn_12 (by decide) (fun c_63 => ?_) (fun c_63 => ?_)
      · have t_c_63 := z_leT c_63
        refine lv_iload_n hx hb dX9_thingsIn_41 rfl (lv_at hl 2 rfl) ?_
        exact z_iret (v := x_57) hx hb hr hlocks hP hD hS dX9_thingsIn_42 ⟨hx_57, rfl⟩
      · have t_c_63 := z_leF c_63
        have f_64 : zR 0 5 (x_58) := zR_ltx t_c_63 hx_58 f_62 (by decide)
        have f_65 : zR 1 6 (I 3 5) := zR_lty t_c_63 hx_58 f_62 (by decide)
        refine lv_iload_n hx hb dX9_thingsIn_15 rfl (lv_at hl 2 rfl) ?_
        refine lv_aload_n hx hb dX9_thingsIn_16 rfl (lv_at hl 0 rfl) ?_
        refine z_get hx hb ht hown hK hP ziX9 rfl 15 (by decide) 5 (by decide) hw_1_166 rfl (v := .ref (q 17)) rfl dX9_thingsIn_17 ?_
        refine lv_iload_n hx hb dX9_thingsIn_20 rfl (lv_at hl 3 rfl) ?_
        refine z_iald hx hb hK hP 17 (by decide) 11 rfl rfl (zR_vin f_64 (by decide)) dX9_thingsIn_21 ?_
        refine z_eqi (y := R 17 (x_58).toNatClampNeg) rfl ?_
        have f_66 : zR 0 4 (R 17 (x_58).toNatClampNeg) := xR hI 17 (x_58).toNatClampNeg
        refine lv_iload_n hx hb dX9_thingsIn_22 rfl (lv_at hl 1 rfl) ?_
        have t_70 : ∀ x_69 : Int32, zR 0 32 x_69 → ∀ (H : Heap) (locs : List Loc), va_P D vwCl (zw 81 q (zXd q cA) I R J) H → va_D (zA 81 q sz) (zw 81 q (zXd q cA) I R J) → va_S (zA 81 q sz) s.heap H locs → ∀ ls : Array Slot, lv_has ls 4 [(0, .ref (q 15)), (1, .int (pa0)), (2, .int (x_57)), (3, .int (x_58))] → W p l e ({ frames := 0, cells := 0, slots := 0, locals := 0 } : Room) s m ([.ref (q 15), .int (pa0)] : List Value).toArray below meth c H locs 0 0 (MQ below (va_Qi (fun r u => zR 0 63 r ∧ u = (I, R, J)) (zB D vwCl 81 q (zXd q cA) sz) (zA 81 q sz)) ([.ref (q 15), .int (pa0)] : List Value).toArray s 0 0 (zA 81 q sz)) (F0 m 33 ls [.int (x_69), .int (x_57)]) := by
          intro x_69 hx_69 H locs hP hD hS ls hl
          refine lv_ior hx hb dX9_thingsIn_33 ?_
          refine z_rng (a := 0) (b := 63) (zR_or 6 hx_57 hx_69 (by decide)) (fun v_71 hv_71 => ?_)
          refine lv_istore_n (lv' := [(2, .int (v_71)), (0, .ref (q 15)), (1, .int (pa0)), (3, .int (x_58))]) hx hb dX9_thingsIn_34 rfl hl (by decide) rfl (fun ls hl => ?_)
          obtain ⟨v_72, ev_72⟩ : ∃ y : Int32, y = x_58 + nI 1 := ⟨_, rfl⟩
          have hv_72 : zR 1 6 v_72 := ev_72 ▸ zR_add f_64 zk_1 (by decide)
          have mv_72 : v_72.toInt = (x_58).toInt + 1 := by rw [ev_72, zR_addE f_64 zk_1 (by decide)]; rfl
          refine lv_iinc (v := v_72) (lv' := [(3, .int (v_72)), (2, .int (v_71)), (0, .ref (q 15)), (1, .int (pa0))]) hx hb dX9_thingsIn_35 hl (k := 3) rfl (ev_72 ▸ rfl) (by decide) rfl (fun ls hl => ?_)
          refine lv_goto (tgt := 4) hx hb dX9_thingsIn_38 (by decide) ?_
          exact ih_61 (v_71) hv_71 (v_72) (zR_w hv_72 (by decide)) (z2_up mv_72 (by decide) hN_60) _ _ hP hD hS _ (lv_sub hl [2, 3, 1, 0] rfl)
        refine lv_icmp_ne (tgt := 32) hx hb dX9_thingsIn_23 (by decide) (fun c_67 => ?_) (fun c_67 => ?_)
        · have t_c_67 := z_eqF c_67
          refine lv_iconst (v := nI 0) hx hb dX9_thingsIn_32 (by decide +kernel) ?_
          exact t_70 (nI 0) (zR_w zk_0 (by decide)) _ _ hP hD hS _ (lv_sub hl [0, 1, 2, 3] rfl)
        · have t_c_67 := z_eqT c_67
          refine lv_iconst (v := nI 1) hx hb dX9_thingsIn_26 (by decide +kernel) ?_
          refine lv_iload_n hx hb dX9_thingsIn_27 rfl (lv_at hl 3 rfl) ?_
          refine lv_ishl hx hb dX9_thingsIn_28 ?_
          refine z_rng (a := 1) (b := 32) (zR_shl1 5 f_64 (by decide)) (fun v_73 hv_73 => ?_)
          refine lv_goto (tgt := 33) hx hb dX9_thingsIn_29 (by decide) ?_
          exact t_70 (v_73) (zR_w hv_73 (by decide)) _ _ hP hD hS _ (lv_sub hl [0, 1, 2, 3] rfl)
  exact loop_59 _ (nI 0) (zR_w zk_0 (by decide)) (nI 0) (zR_w zk_0 (by decide)) (Nat.lt_succ_self _) _ _ hP hD hS _ (lv_sub hl [2, 3, 1, 0] rfl)
set_option maxHeartbeats 4000000 in
set_option maxRecDepth 100000 in
theorem xk_X9_isOpen_1 (l : Launch) (D : va_G) (q : Nat → Nat) (cA : Nat → ClassId) (F : Nat → Nat → Int32) (I R : Nat → Nat → Int32) (J : Nat → Nat → Int64) (hI : xInv F (I, R, J)) (pa0 : Int32) (hpa0 : zR 0 23 pa0) : zMi l D vwCl (zXtys cA) 81 q (zXd q cA) yX9_isOpen cX9_isOpen 2 (some .boolean) ({ frames := 0, cells := 0, slots := 0, locals := 0 } : Room) [.ref (q 15), .int (pa0)] (I, R, J) (fun r u => (r = nI 1 ∧ u = (I, R, J)) ∨ (r = nI 0 ∧ u = (I, R, J))) := by
  intro sz
  refine z_body (by decide +kernel) (Nat.le_of_ble_eq_true rfl) (fun p e s m below meth c ls hx hb hml hr ht hown hlocks hsz hK hP hD hS hl => ?_)
  have hA : ∀ a, s.heap.size ≤ a → zA 81 q sz a := fun a h => Or.inr (hsz ▸ h)
  have hl : lv_has ls 2 [(0, .ref (q 15)), (1, .int (pa0))] := hl
  refine lv_aload_n hx hb dX9_isOpen_0 rfl (lv_at hl 0 rfl) ?_
  refine z_get hx hb ht hown hK hP ziX9 rfl 15 (by decide) 11 (by decide) hw_1_185 rfl (v := .ref (q 23)) rfl dX9_isOpen_1 ?_
  refine lv_iload_n hx hb dX9_isOpen_4 rfl (lv_at hl 1 rfl) ?_
  refine z_iald hx hb hK hP 23 (by decide) 17 rfl rfl (zR_vin hpa0 (by decide)) dX9_isOpen_5 ?_
  refine z_eqi (y := R 23 (pa0).toNatClampNeg) rfl ?_
  refine lv_if_ne (tgt := 13) hx hb dX9_isOpen_6 (by decide) (fun c_1 => ?_) (fun c_1 => ?_)
  · have t_c_1 := z_eqF c_1
    refine lv_iconst (v := nI 0) hx hb dX9_isOpen_13 (by decide +kernel) ?_
    exact z_zret (v := nI 0) hx hb hr hlocks hP hD hS (by decide +kernel) dX9_isOpen_14 (Or.inr ⟨rfl, rfl⟩)
  · have t_c_1 := z_eqT c_1
    have f_2 : zR 0 0 (R 23 (pa0).toNatClampNeg) := zR_eqx t_c_1 zk_z
    refine lv_iconst (v := nI 1) hx hb dX9_isOpen_9 (by decide +kernel) ?_
    refine lv_goto (tgt := 14) hx hb dX9_isOpen_10 (by decide) ?_
    exact z_zret (v := nI 1) hx hb hr hlocks hP hD hS (by decide +kernel) dX9_isOpen_14 (Or.inl ⟨rfl, rfl⟩)
set_option maxHeartbeats 4000000 in
set_option maxRecDepth 100000 in
theorem xk_X9_heldBy (l : Launch) (D : va_G) (q : Nat → Nat) (cA : Nat → ClassId) (F : Nat → Nat → Int32) (I R : Nat → Nat → Int32) (J : Nat → Nat → Int64) (hI : xInv F (I, R, J)) (pa0 : Int32) (hpa0 : zR 0 4 pa0) : zMi l D vwCl (zXtys cA) 81 q (zXd q cA) yX9_heldBy cX9_heldBy 4 (some .int) ({ frames := 1, cells := 0, slots := 0, locals := 21 } : Room) [.ref (q 15), .int (pa0)] (I, R, J) (fun r u => zR 0 16777215 r ∧ u = (I, R, J)) := by
  intro sz
  refine z_body (by decide +kernel) (Nat.le_of_ble_eq_true rfl) (fun p e s m below meth c ls hx hb hml hr ht hown hlocks hsz hK hP hD hS hl => ?_)
  have hA : ∀ a, s.heap.size ≤ a → zA 81 q sz a := fun a h => Or.inr (hsz ▸ h)
  have hl : lv_has ls 4 [(0, .ref (q 15)), (1, .int (pa0))] := hl
  refine lv_iconst (v := nI 0) hx hb dX9_heldBy_0 (by decide +kernel) ?_
  refine lv_istore_n (lv' := [(2, .int (nI 0)), (0, .ref (q 15)), (1, .int (pa0))]) hx hb dX9_heldBy_1 rfl hl (by decide) rfl (fun ls hl => ?_)
  refine lv_iconst (v := nI 0) hx hb dX9_heldBy_2 (by decide +kernel) ?_
  refine lv_istore_n (lv' := [(3, .int (nI 0)), (2, .int (nI 0)), (0, .ref (q 15)), (1, .int (pa0))]) hx hb dX9_heldBy_3 rfl hl (by decide) rfl (fun ls hl => ?_)
  have loop_64 : ∀ N : Nat, ∀ x_62 : Int32, zR 0 16777215 x_62 → ∀ x_63 : Int32, zR 0 24 x_63 → (2147483648 - (x_63).toInt).toNat < N → ∀ (H : Heap) (locs : List Loc), va_P D vwCl (zw 81 q (zXd q cA) I R J) H → va_D (zA 81 q sz) (zw 81 q (zXd q cA) I R J) → va_S (zA 81 q sz) s.heap H locs → ∀ ls : Array Slot, lv_has ls 4 [(0, .ref (q 15)), (1, .int (pa0)), (2, .int (x_62)), (3, .int (x_63))] → W p l e ({ frames := 1, cells := 0, slots := 0, locals := 21 } : Room) s m ([.ref (q 15), .int (pa0)] : List Value).toArray below meth c H locs 0 0 (MQ below (va_Qi (fun r u => zR 0 16777215 r ∧ u = (I, R, J)) (zB D vwCl 81 q (zXd q cA) sz) (zA 81 q sz)) ([.ref (q 15), .int (pa0)] : List Value).toArray s 0 0 (zA 81 q sz)) (F0 m 4 ls []) := by
    intro N
    induction N with
    | zero => intro x_62 hx_62 x_63 hx_63 hN; exact absurd hN (Nat.not_lt_zero _)
    | succ N ih_66 =>
      intro x_62 hx_62 x_63 hx_63 hN_65 H locs hP hD hS ls hl
      refine lv_iload_n hx hb dX9_heldBy_4 rfl (lv_at hl 3 rfl) ?_
      refine lv_aload_n hx hb dX9_heldBy_5 rfl (lv_at hl 0 rfl) ?_
      refine z_get hx hb ht hown hK hP ziX9 rfl 15 (by decide) 2 (by decide) hw_1_159 rfl (v := .int (I 15 2)) rfl dX9_heldBy_6 ?_
      have f_67 : zR 0 24 (I 15 2) := xI hI 15 2
      refine lv_icmp_ge (tgt := 46) hx hb dX9_heldBy_9 (by decide) (fun c_68 => ?_) (fun c_68 => ?_)
      · have t_c_68 := z_leT c_68
        refine lv_iload_n hx hb dX9_heldBy_46 rfl (lv_at hl 2 rfl) ?_
        exact z_iret (v := x_62) hx hb hr hlocks hP hD hS dX9_heldBy_47 ⟨hx_62, rfl⟩
      · have t_c_68 := z_leF c_68
        have f_69 : zR 0 23 (x_63) := zR_ltx t_c_68 hx_63 f_67 (by decide)
        have f_70 : zR 1 24 (I 15 2) := zR_lty t_c_68 hx_63 f_67 (by decide)
        refine lv_iload_n hx hb dX9_heldBy_12 rfl (lv_at hl 2 rfl) ?_
        refine lv_aload_n hx hb dX9_heldBy_13 rfl (lv_at hl 0 rfl) ?_
        refine lv_iload_n hx hb dX9_heldBy_14 rfl (lv_at hl 3 rfl) ?_
        have t_76 : ∀ x_75 : Int32, zR 0 8388608 x_75 → ∀ (H : Heap) (locs : List Loc), va_P D vwCl (zw 81 q (zXd q cA) I R J) H → va_D (zA 81 q sz) (zw 81 q (zXd q cA) I R J) → va_S (zA 81 q sz) s.heap H locs → ∀ ls : Array Slot, lv_has ls 4 [(0, .ref (q 15)), (1, .int (pa0)), (2, .int (x_62)), (3, .int (x_63))] → W p l e ({ frames := 1, cells := 0, slots := 0, locals := 21 } : Room) s m ([.ref (q 15), .int (pa0)] : List Value).toArray below meth c H locs 0 0 (MQ below (va_Qi (fun r u => zR 0 16777215 r ∧ u = (I, R, J)) (zB D vwCl 81 q (zXd q cA) sz) (zA 81 q sz)) ([.ref (q 15), .int (pa0)] : List Value).toArray s 0 0 (zA 81 q sz)) (F0 m 38 ls [.int (x_75), .int (x_62)]) := by
          intro x_75 hx_75 H locs hP hD hS ls hl
          refine lv_ior hx hb dX9_heldBy_38 ?_
          refine z_rng (a := 0) (b := 16777215) (zR_or 24 hx_62 hx_75 (by decide)) (fun v_77 hv_77 => ?_)
          refine lv_istore_n (lv' := [(2, .int (v_77)), (0, .ref (q 15)), (1, .int (pa0)), (3, .int (x_63))]) hx hb dX9_heldBy_39 rfl hl (by decide) rfl (fun ls hl => ?_)
          obtain ⟨v_78, ev_78⟩ : ∃ y : Int32, y = x_63 + nI 1 := ⟨_, rfl⟩
          have hv_78 : zR 1 24 v_78 := ev_78 ▸ zR_add f_69 zk_1 (by decide)
          have mv_78 : v_78.toInt = (x_63).toInt + 1 := by rw [ev_78, zR_addE f_69 zk_1 (by decide)]; rfl
          refine lv_iinc (v := v_78) (lv' := [(3, .int (v_78)), (2, .int (v_77)), (0, .ref (q 15)), (1, .int (pa0))]) hx hb dX9_heldBy_40 hl (k := 3) rfl (ev_78 ▸ rfl) (by decide) rfl (fun ls hl => ?_)
          refine lv_goto (tgt := 4) hx hb dX9_heldBy_43 (by decide) ?_
          exact ih_66 (v_77) hv_77 (v_78) (zR_w hv_78 (by decide)) (z2_up mv_78 (by decide) hN_65) _ _ hP hD hS _ (lv_sub hl [2, 3, 1, 0] rfl)
        refine z_callVi (k := 15) (As := [.int (x_63)]) (rest := [.int (x_62)]) hx hb hml hown ht (xk_X9_isOpen_1 l D q cA F _ _ _ hI (x_63) f_69) hw_3_75 hmX9_isOpen ⟨rfl, rfl⟩ (na := 1) rfl (by decide +kernel) (by decide) (by decide) rfl rfl hK hP hD hS hA hl.1 rfl (Nat.le_of_ble_eq_true rfl) ⟨Nat.zero_le _, Nat.zero_le _⟩ dX9_heldBy_15 (fun r_71 I_71 R_71 J_71 H locs hp_71 hP hD hS _ _ => ?_)
        rcases hp_71 with ⟨rfl, hu_71⟩ | ⟨rfl, hu_71⟩
        · cases hu_71
          refine lv_if_eq (tgt := 37) hx hb dX9_heldBy_18 (by decide) (fun c_0 => absurd c_0 (zD_ne zk_1 zk_z (by decide))) (fun _ => ?_)
          refine lv_aload_n hx hb dX9_heldBy_21 rfl (lv_at hl 0 rfl) ?_
          refine z_get hx hb ht hown hK hP ziX9 rfl 15 (by decide) 9 (by decide) hw_1_179 rfl (v := .ref (q 21)) rfl dX9_heldBy_22 ?_
          refine lv_iload_n hx hb dX9_heldBy_25 rfl (lv_at hl 3 rfl) ?_
          refine z_iald hx hb hK hP 21 (by decide) 15 rfl rfl (zR_vin f_69 (by decide)) dX9_heldBy_26 ?_
          refine z_eqi (y := R 21 (x_63).toNatClampNeg) rfl ?_
          have f_79 : zR 0 4 (R 21 (x_63).toNatClampNeg) := xR hI 21 (x_63).toNatClampNeg
          refine lv_iload_n hx hb dX9_heldBy_27 rfl (lv_at hl 1 rfl) ?_
          refine lv_icmp_ne (tgt := 37) hx hb dX9_heldBy_28 (by decide) (fun c_80 => ?_) (fun c_80 => ?_)
          · have t_c_80 := z_eqF c_80
            refine lv_iconst (v := nI 0) hx hb dX9_heldBy_37 (by decide +kernel) ?_
            exact t_76 (nI 0) (zR_w zk_0 (by decide)) _ _ hP hD hS _ (lv_sub hl [0, 1, 2, 3] rfl)
          · have t_c_80 := z_eqT c_80
            refine lv_iconst (v := nI 1) hx hb dX9_heldBy_31 (by decide +kernel) ?_
            refine lv_iload_n hx hb dX9_heldBy_32 rfl (lv_at hl 3 rfl) ?_
            refine lv_ishl hx hb dX9_heldBy_33 ?_
            refine z_rng (a := 1) (b := 8388608) (zR_shl1 23 f_69 (by decide)) (fun v_81 hv_81 => ?_)
            refine lv_goto (tgt := 38) hx hb dX9_heldBy_34 (by decide) ?_
            exact t_76 (v_81) (zR_w hv_81 (by decide)) _ _ hP hD hS _ (lv_sub hl [0, 1, 2, 3] rfl)
        · cases hu_71
          refine lv_if_eq (tgt := 37) hx hb dX9_heldBy_18 (by decide) (fun _ => ?_) (fun c_0 => absurd (zD_eq zk_0 zk_z) c_0)
          refine lv_iconst (v := nI 0) hx hb dX9_heldBy_37 (by decide +kernel) ?_
          exact t_76 (nI 0) (zR_w zk_0 (by decide)) _ _ hP hD hS _ (lv_sub hl [0, 1, 2, 3] rfl)
  exact loop_64 _ (nI 0) (zR_w zk_0 (by decide)) (nI 0) (zR_w zk_0 (by decide)) (Nat.lt_succ_self _) _ _ hP hD hS _ (lv_sub hl [2, 3, 1, 0] rfl)
set_option maxHeartbeats 4000000 in
set_option maxRecDepth 100000 in
theorem xk_X9_owedBy (l : Launch) (D : va_G) (q : Nat → Nat) (cA : Nat → ClassId) (F : Nat → Nat → Int32) (I R : Nat → Nat → Int32) (J : Nat → Nat → Int64) (hI : xInv F (I, R, J)) (pa0 : Int32) (hpa0 : zR 0 4 pa0) : zMi l D vwCl (zXtys cA) 81 q (zXd q cA) yX9_owedBy cX9_owedBy 4 (some .int) ({ frames := 1, cells := 0, slots := 0, locals := 21 } : Room) [.ref (q 15), .int (pa0)] (I, R, J) (fun r u => zR 0 16777215 r ∧ u = (I, R, J)) := by
  intro sz
  refine z_body (by decide +kernel) (Nat.le_of_ble_eq_true rfl) (fun p e s m below meth c ls hx hb hml hr ht hown hlocks hsz hK hP hD hS hl => ?_)
  have hA : ∀ a, s.heap.size ≤ a → zA 81 q sz a := fun a h => Or.inr (hsz ▸ h)
  have hl : lv_has ls 4 [(0, .ref (q 15)), (1, .int (pa0))] := hl
  refine lv_iconst (v := nI 0) hx hb dX9_owedBy_0 (by decide +kernel) ?_
  refine lv_istore_n (lv' := [(2, .int (nI 0)), (0, .ref (q 15)), (1, .int (pa0))]) hx hb dX9_owedBy_1 rfl hl (by decide) rfl (fun ls hl => ?_)
  refine lv_iconst (v := nI 0) hx hb dX9_owedBy_2 (by decide +kernel) ?_
  refine lv_istore_n (lv' := [(3, .int (nI 0)), (2, .int (nI 0)), (0, .ref (q 15)), (1, .int (pa0))]) hx hb dX9_owedBy_3 rfl hl (by decide) rfl (fun ls hl => ?_)
  have loop_64 : ∀ N : Nat, ∀ x_62 : Int32, zR 0 16777215 x_62 → ∀ x_63 : Int32, zR 0 24 x_63 → (2147483648 - (x_63).toInt).toNat < N → ∀ (H : Heap) (locs : List Loc), va_P D vwCl (zw 81 q (zXd q cA) I R J) H → va_D (zA 81 q sz) (zw 81 q (zXd q cA) I R J) → va_S (zA 81 q sz) s.heap H locs → ∀ ls : Array Slot, lv_has ls 4 [(0, .ref (q 15)), (1, .int (pa0)), (2, .int (x_62)), (3, .int (x_63))] → W p l e ({ frames := 1, cells := 0, slots := 0, locals := 21 } : Room) s m ([.ref (q 15), .int (pa0)] : List Value).toArray below meth c H locs 0 0 (MQ below (va_Qi (fun r u => zR 0 16777215 r ∧ u = (I, R, J)) (zB D vwCl 81 q (zXd q cA) sz) (zA 81 q sz)) ([.ref (q 15), .int (pa0)] : List Value).toArray s 0 0 (zA 81 q sz)) (F0 m 4 ls []) := by
    intro N
    induction N with
    | zero => intro x_62 hx_62 x_63 hx_63 hN; exact absurd hN (Nat.not_lt_zero _)
    | succ N ih_66 =>
      intro x_62 hx_62 x_63 hx_63 hN_65 H locs hP hD hS ls hl
      refine lv_iload_n hx hb dX9_owedBy_4 rfl (lv_at hl 3 rfl) ?_
      refine lv_aload_n hx hb dX9_owedBy_5 rfl (lv_at hl 0 rfl) ?_
      refine z_get hx hb ht hown hK hP ziX9 rfl 15 (by decide) 2 (by decide) hw_1_159 rfl (v := .int (I 15 2)) rfl dX9_owedBy_6 ?_
      have f_67 : zR 0 24 (I 15 2) := xI hI 15 2
      refine lv_icmp_ge (tgt := 46) hx hb dX9_owedBy_9 (by decide) (fun c_68 => ?_) (fun c_68 => ?_)
      · have t_c_68 := z_leT c_68
        refine lv_iload_n hx hb dX9_owedBy_46 rfl (lv_at hl 2 rfl) ?_
        exact z_iret (v := x_62) hx hb hr hlocks hP hD hS dX9_owedBy_47 ⟨hx_62, rfl⟩
      · have t_c_68 := z_leF c_68
        have f_69 : zR 0 23 (x_63) := zR_ltx t_c_68 hx_63 f_67 (by decide)
        have f_70 : zR 1 24 (I 15 2) := zR_lty t_c_68 hx_63 f_67 (by decide)
        refine lv_iload_n hx hb dX9_owedBy_12 rfl (lv_at hl 2 rfl) ?_
        refine lv_aload_n hx hb dX9_owedBy_13 rfl (lv_at hl 0 rfl) ?_
        refine lv_iload_n hx hb dX9_owedBy_14 rfl (lv_at hl 3 rfl) ?_
        have t_76 : ∀ x_75 : Int32, zR 0 8388608 x_75 → ∀ (H : Heap) (locs : List Loc), va_P D vwCl (zw 81 q (zXd q cA) I R J) H → va_D (zA 81 q sz) (zw 81 q (zXd q cA) I R J) → va_S (zA 81 q sz) s.heap H locs → ∀ ls : Array Slot, lv_has ls 4 [(0, .ref (q 15)), (1, .int (pa0)), (2, .int (x_62)), (3, .int (x_63))] → W p l e ({ frames := 1, cells := 0, slots := 0, locals := 21 } : Room) s m ([.ref (q 15), .int (pa0)] : List Value).toArray below meth c H locs 0 0 (MQ below (va_Qi (fun r u => zR 0 16777215 r ∧ u = (I, R, J)) (zB D vwCl 81 q (zXd q cA) sz) (zA 81 q sz)) ([.ref (q 15), .int (pa0)] : List Value).toArray s 0 0 (zA 81 q sz)) (F0 m 38 ls [.int (x_75), .int (x_62)]) := by
          intro x_75 hx_75 H locs hP hD hS ls hl
          refine lv_ior hx hb dX9_owedBy_38 ?_
          refine z_rng (a := 0) (b := 16777215) (zR_or 24 hx_62 hx_75 (by decide)) (fun v_77 hv_77 => ?_)
          refine lv_istore_n (lv' := [(2, .int (v_77)), (0, .ref (q 15)), (1, .int (pa0)), (3, .int (x_63))]) hx hb dX9_owedBy_39 rfl hl (by decide) rfl (fun ls hl => ?_)
          obtain ⟨v_78, ev_78⟩ : ∃ y : Int32, y = x_63 + nI 1 := ⟨_, rfl⟩
          have hv_78 : zR 1 24 v_78 := ev_78 ▸ zR_add f_69 zk_1 (by decide)
          have mv_78 : v_78.toInt = (x_63).toInt + 1 := by rw [ev_78, zR_addE f_69 zk_1 (by decide)]; rfl
          refine lv_iinc (v := v_78) (lv' := [(3, .int (v_78)), (2, .int (v_77)), (0, .ref (q 15)), (1, .int (pa0))]) hx hb dX9_owedBy_40 hl (k := 3) rfl (ev_78 ▸ rfl) (by decide) rfl (fun ls hl => ?_)
          refine lv_goto (tgt := 4) hx hb dX9_owedBy_43 (by decide) ?_
          exact ih_66 (v_77) hv_77 (v_78) (zR_w hv_78 (by decide)) (z2_up mv_78 (by decide) hN_65) _ _ hP hD hS _ (lv_sub hl [2, 3, 1, 0] rfl)
        refine z_callVi (k := 15) (As := [.int (x_63)]) (rest := [.int (x_62)]) hx hb hml hown ht (xk_X9_isOpen_1 l D q cA F _ _ _ hI (x_63) f_69) hw_3_75 hmX9_isOpen ⟨rfl, rfl⟩ (na := 1) rfl (by decide +kernel) (by decide) (by decide) rfl rfl hK hP hD hS hA hl.1 rfl (Nat.le_of_ble_eq_true rfl) ⟨Nat.zero_le _, Nat.zero_le _⟩ dX9_owedBy_15 (fun r_71 I_71 R_71 J_71 H locs hp_71 hP hD hS _ _ => ?_)
        rcases hp_71 with ⟨rfl, hu_71⟩ | ⟨rfl, hu_71⟩
        · cases hu_71
          refine lv_if_eq (tgt := 37) hx hb dX9_owedBy_18 (by decide) (fun c_0 => absurd c_0 (zD_ne zk_1 zk_z (by decide))) (fun _ => ?_)
          refine lv_aload_n hx hb dX9_owedBy_21 rfl (lv_at hl 0 rfl) ?_
          refine z_get hx hb ht hown hK hP ziX9 rfl 15 (by decide) 7 (by decide) hw_1_171 rfl (v := .ref (q 19)) rfl dX9_owedBy_22 ?_
          refine lv_iload_n hx hb dX9_owedBy_25 rfl (lv_at hl 3 rfl) ?_
          refine z_iald hx hb hK hP 19 (by decide) 13 rfl rfl (zR_vin f_69 (by decide)) dX9_owedBy_26 ?_
          refine z_eqi (y := R 19 (x_63).toNatClampNeg) rfl ?_
          have f_79 : zR 0 4 (R 19 (x_63).toNatClampNeg) := xR hI 19 (x_63).toNatClampNeg
          refine lv_iload_n hx hb dX9_owedBy_27 rfl (lv_at hl 1 rfl) ?_
          refine lv_icmp_ne (tgt := 37) hx hb dX9_owedBy_28 (by decide) (fun c_80 => ?_) (fun c_80 => ?_)
          · have t_c_80 := z_eqF c_80
            refine lv_iconst (v := nI 0) hx hb dX9_owedBy_37 (by decide +kernel) ?_
            exact t_76 (nI 0) (zR_w zk_0 (by decide)) _ _ hP hD hS _ (lv_sub hl [0, 1, 2, 3] rfl)
          · have t_c_80 := z_eqT c_80
            refine lv_iconst (v := nI 1) hx hb dX9_owedBy_31 (by decide +kernel) ?_
            refine lv_iload_n hx hb dX9_owedBy_32 rfl (lv_at hl 3 rfl) ?_
            refine lv_ishl hx hb dX9_owedBy_33 ?_
            refine z_rng (a := 1) (b := 8388608) (zR_shl1 23 f_69 (by decide)) (fun v_81 hv_81 => ?_)
            refine lv_goto (tgt := 38) hx hb dX9_owedBy_34 (by decide) ?_
            exact t_76 (v_81) (zR_w hv_81 (by decide)) _ _ hP hD hS _ (lv_sub hl [0, 1, 2, 3] rfl)
        · cases hu_71
          refine lv_if_eq (tgt := 37) hx hb dX9_owedBy_18 (by decide) (fun _ => ?_) (fun c_0 => absurd (zD_eq zk_0 zk_z) c_0)
          refine lv_iconst (v := nI 0) hx hb dX9_owedBy_37 (by decide +kernel) ?_
          exact t_76 (nI 0) (zR_w zk_0 (by decide)) _ _ hP hD hS _ (lv_sub hl [0, 1, 2, 3] rfl)
  exact loop_64 _ (nI 0) (zR_w zk_0 (by decide)) (nI 0) (zR_w zk_0 (by decide)) (Nat.lt_succ_self _) _ _ hP hD hS _ (lv_sub hl [2, 3, 1, 0] rfl)
set_option maxHeartbeats 4000000 in
set_option maxRecDepth 100000 in
theorem xk_X10_house (l : Launch) (D : va_G) (q : Nat → Nat) (cA : Nat → ClassId) (F : Nat → Nat → Int32) (I R : Nat → Nat → Int32) (J : Nat → Nat → Int64) (hI : xInv F (I, R, J)) (pa0 : Int32) (pa1 : Int32) : zMi l D vwCl (zXtys cA) 81 q (zXd q cA) yX10_house cX10_house 3 (some .int) ({ frames := 2, cells := 0, slots := 0, locals := 44 } : Room) [.ref (q 0), .int (pa0), .int (pa1)] (I, R, J) (fun _ u => u = (I, R, J)) := by
  intro sz
  refine z_body (by decide +kernel) (Nat.le_of_ble_eq_true rfl) (fun p e s m below meth c ls hx hb hml hr ht hown hlocks hsz hK hP hD hS hl => ?_)
  have hA : ∀ a, s.heap.size ≤ a → zA 81 q sz a := fun a h => Or.inr (hsz ▸ h)
  have hl : lv_has ls 3 [(0, .ref (q 0)), (1, .int (pa0)), (2, .int (pa1))] := hl
  refine lv_aload_n hx hb dX10_house_0 rfl (lv_at hl 0 rfl) ?_
  refine lv_iload_n hx hb dX10_house_1 rfl (lv_at hl 1 rfl) ?_
  refine z_callVi (k := 0) (As := [.int (pa0)]) (rest := []) hx hb hml hown ht (xk_X10_isHouse l D q cA F _ _ _ hI (pa0)) hw_3_59 hmX10_isHouse ⟨rfl, rfl⟩ (na := 1) rfl (by decide +kernel) (by decide) (by decide) rfl rfl hK hP hD hS hA hl.1 rfl (Nat.le_of_ble_eq_true rfl) ⟨Nat.zero_le _, Nat.zero_le _⟩ dX10_house_2 (fun r_1 I_1 R_1 J_1 H locs hp_1 hP hD hS _ _ => ?_)
  rcases hp_1 with ⟨rfl, hu_1, f0_1⟩ | ⟨rfl, hu_1⟩
  · cases hu_1
    refine lv_if_ne (tgt := 11) hx hb dX10_house_5 (by decide) (fun _ => ?_) (fun c_0 => absurd c_0 (zD_ne zk_1 zk_z (by decide)))
    refine lv_iload_n hx hb dX10_house_11 rfl (lv_at hl 2 rfl) ?_
    rcases (show ((pa1).toInt < 0 ∨ 4 < (pa1).toInt) ∨ (pa1).toInt = 0 ∨ (pa1).toInt = 1 ∨ (pa1).toInt = 2 ∨ (pa1).toInt = 3 ∨ (pa1).toInt = 4 by omega) with c_2 | k_3 | k_3 | k_3 | k_3 | k_3
    · refine lv_tableOut (tgt := 102) hx hb dX10_house_12 c_2 (by decide) ?_
      refine lv_bipush (v := (-2)) hx hb dX10_house_102 (by decide +kernel) ?_
      exact z_iret (v := (-2)) hx hb hr hlocks hP hD hS dX10_house_104 rfl
    · refine lv_tableIn (off := 36) (tgt := 48) hx hb dX10_house_12 (by omega) (by omega) (by rw [k_3]; decide +kernel) (by decide) ?_
      refine lv_aload_n hx hb dX10_house_48 rfl (lv_at hl 0 rfl) ?_
      refine z_get hx hb ht hown hK hP ziX10 rfl 0 (by decide) 4 (by decide) hw_2_97 rfl (v := .ref (q 15)) rfl dX10_house_49 ?_
      refine z_get hx hb ht hown hK hP ziX9 rfl 15 (by decide) 4 (by decide) hw_1_165 rfl (v := .ref (q 16)) rfl dX10_house_52 ?_
      refine lv_iload_n hx hb dX10_house_55 rfl (lv_at hl 1 rfl) ?_
      refine z_iald hx hb hK hP 16 (by decide) 10 rfl rfl (zR_vin f0_1 (by decide)) dX10_house_56 ?_
      refine z_eqi (y := R 16 (pa0).toNatClampNeg) rfl ?_
      exact z_iret (v := R 16 (pa0).toNatClampNeg) hx hb hr hlocks hP hD hS dX10_house_57 rfl
    · refine lv_tableIn (off := 46) (tgt := 58) hx hb dX10_house_12 (by omega) (by omega) (by rw [k_3]; decide +kernel) (by decide) ?_
      refine lv_aload_n hx hb dX10_house_58 rfl (lv_at hl 0 rfl) ?_
      refine z_get hx hb ht hown hK hP ziX10 rfl 0 (by decide) 4 (by decide) hw_2_97 rfl (v := .ref (q 15)) rfl dX10_house_59 ?_
      refine lv_iload_n hx hb dX10_house_62 rfl (lv_at hl 1 rfl) ?_
      refine z_callVi (k := 15) (As := [.int (pa0)]) (rest := []) hx hb hml hown ht (xk_X9_isLocked l D q cA F _ _ _ hI (pa0) f0_1) hw_3_63 hmX9_isLocked ⟨rfl, rfl⟩ (na := 1) rfl (by decide +kernel) (by decide) (by decide) rfl rfl hK hP hD hS hA hl.1 rfl (Nat.le_of_ble_eq_true rfl) ⟨Nat.zero_le _, Nat.zero_le _⟩ dX10_house_63 (fun r_4 I_4 R_4 J_4 H locs hp_4 hP hD hS _ _ => ?_)
      rcases hp_4 with ⟨rfl, hu_4⟩ | ⟨rfl, hu_4⟩
      · cases hu_4
        refine lv_if_eq (tgt := 73) hx hb dX10_house_66 (by decide) (fun c_0 => absurd c_0 (zD_ne zk_1 zk_z (by decide))) (fun _ => ?_)
        refine lv_iconst (v := nI 1) hx hb dX10_house_69 (by decide +kernel) ?_
        refine lv_goto (tgt := 74) hx hb dX10_house_70 (by decide) ?_
        exact z_iret (v := nI 1) hx hb hr hlocks hP hD hS dX10_house_74 rfl
      · cases hu_4
        refine lv_if_eq (tgt := 73) hx hb dX10_house_66 (by decide) (fun _ => ?_) (fun c_0 => absurd (zD_eq zk_0 zk_z) c_0)
        refine lv_iconst (v := nI 0) hx hb dX10_house_73 (by decide +kernel) ?_
        exact z_iret (v := nI 0) hx hb hr hlocks hP hD hS dX10_house_74 rfl
    · refine lv_tableIn (off := 63) (tgt := 75) hx hb dX10_house_12 (by omega) (by omega) (by rw [k_3]; decide +kernel) (by decide) ?_
      refine lv_aload_n hx hb dX10_house_75 rfl (lv_at hl 0 rfl) ?_
      refine z_get hx hb ht hown hK hP ziX10 rfl 0 (by decide) 4 (by decide) hw_2_97 rfl (v := .ref (q 15)) rfl dX10_house_76 ?_
      refine lv_iload_n hx hb dX10_house_79 rfl (lv_at hl 1 rfl) ?_
      refine z_callVi (k := 15) (As := [.int (pa0)]) (rest := []) hx hb hml hown ht (xk_X9_thingsIn l D q cA F _ _ _ hI (pa0) f0_1) hw_3_67 hmX9_thingsIn ⟨rfl, rfl⟩ (na := 1) rfl (by decide +kernel) (by decide) (by decide) rfl rfl hK hP hD hS hA hl.1 rfl (Nat.le_of_ble_eq_true rfl) ⟨Nat.zero_le _, Nat.zero_le _⟩ dX10_house_80 (fun r_5 I_5 R_5 J_5 H locs hp_5 hP hD hS _ _ => ?_)
      obtain ⟨hr_5, hu_5⟩ := hp_5
      cases hu_5
      exact z_iret (v := r_5) hx hb hr hlocks hP hD hS dX10_house_83 rfl
    · refine lv_tableIn (off := 72) (tgt := 84) hx hb dX10_house_12 (by omega) (by omega) (by rw [k_3]; decide +kernel) (by decide) ?_
      refine lv_aload_n hx hb dX10_house_84 rfl (lv_at hl 0 rfl) ?_
      refine z_get hx hb ht hown hK hP ziX10 rfl 0 (by decide) 4 (by decide) hw_2_97 rfl (v := .ref (q 15)) rfl dX10_house_85 ?_
      refine lv_iload_n hx hb dX10_house_88 rfl (lv_at hl 1 rfl) ?_
      refine z_callVi (k := 15) (As := [.int (pa0)]) (rest := []) hx hb hml hown ht (xk_X9_heldBy l D q cA F _ _ _ hI (pa0) f0_1) hw_3_71 hmX9_heldBy ⟨rfl, rfl⟩ (na := 1) rfl (by decide +kernel) (by decide) (by decide) rfl rfl hK hP hD hS hA hl.1 rfl (Nat.le_of_ble_eq_true rfl) ⟨Nat.zero_le _, Nat.zero_le _⟩ dX10_house_89 (fun r_6 I_6 R_6 J_6 H locs hp_6 hP hD hS _ _ => ?_)
      obtain ⟨hr_6, hu_6⟩ := hp_6
      cases hu_6
      exact z_iret (v := r_6) hx hb hr hlocks hP hD hS dX10_house_92 rfl
    · refine lv_tableIn (off := 81) (tgt := 93) hx hb dX10_house_12 (by omega) (by omega) (by rw [k_3]; decide +kernel) (by decide) ?_
      refine lv_aload_n hx hb dX10_house_93 rfl (lv_at hl 0 rfl) ?_
      refine z_get hx hb ht hown hK hP ziX10 rfl 0 (by decide) 4 (by decide) hw_2_97 rfl (v := .ref (q 15)) rfl dX10_house_94 ?_
      refine lv_iload_n hx hb dX10_house_97 rfl (lv_at hl 1 rfl) ?_
      refine z_callVi (k := 15) (As := [.int (pa0)]) (rest := []) hx hb hml hown ht (xk_X9_owedBy l D q cA F _ _ _ hI (pa0) f0_1) hw_3_79 hmX9_owedBy ⟨rfl, rfl⟩ (na := 1) rfl (by decide +kernel) (by decide) (by decide) rfl rfl hK hP hD hS hA hl.1 rfl (Nat.le_of_ble_eq_true rfl) ⟨Nat.zero_le _, Nat.zero_le _⟩ dX10_house_98 (fun r_7 I_7 R_7 J_7 H locs hp_7 hP hD hS _ _ => ?_)
      obtain ⟨hr_7, hu_7⟩ := hp_7
      cases hu_7
      exact z_iret (v := r_7) hx hb hr hlocks hP hD hS dX10_house_101 rfl
  · cases hu_1
    refine lv_if_ne (tgt := 11) hx hb dX10_house_5 (by decide) (fun c_0 => absurd (zD_eq zk_0 zk_z) c_0) (fun _ => ?_)
    refine lv_bipush (v := (-2)) hx hb dX10_house_8 (by decide +kernel) ?_
    exact z_iret (v := (-2)) hx hb hr hlocks hP hD hS dX10_house_10 rfl
set_option maxHeartbeats 4000000 in
set_option maxRecDepth 100000 in
theorem xk_X10_isThing (l : Launch) (D : va_G) (q : Nat → Nat) (cA : Nat → ClassId) (F : Nat → Nat → Int32) (I R : Nat → Nat → Int32) (J : Nat → Nat → Int64) (hI : xInv F (I, R, J)) (pa0 : Int32) : zMi l D vwCl (zXtys cA) 81 q (zXd q cA) yX10_isThing cX10_isThing 2 (some .boolean) ({ frames := 0, cells := 0, slots := 0, locals := 0 } : Room) [.ref (q 0), .int (pa0)] (I, R, J) (fun r u => (r = nI 1 ∧ u = (I, R, J) ∧ zR 0 5 pa0) ∨ (r = nI 0 ∧ u = (I, R, J))) := by
  intro sz
  refine z_body (by decide +kernel) (Nat.le_of_ble_eq_true rfl) (fun p e s m below meth c ls hx hb hml hr ht hown hlocks hsz hK hP hD hS hl => ?_)
  have hA : ∀ a, s.heap.size ≤ a → zA 81 q sz a := fun a h => Or.inr (hsz ▸ h)
  have hl : lv_has ls 2 [(0, .ref (q 0)), (1, .int (pa0))] := hl
  refine lv_iload_n hx hb dX10_isThing_0 rfl (lv_at hl 1 rfl) ?_
  refine lv_if_lt (tgt := 19) hx hb dX10_isThing_1 (by decide) (fun c_1 => ?_) (fun c_1 => ?_)
  · have t_c_1 := z_ltT c_1
    have f_2 : zR (-2147483648) (-1) (pa0) := zR_ltx t_c_1 (zR_any (pa0)) zk_z (by decide)
    refine lv_iconst (v := nI 0) hx hb dX10_isThing_19 (by decide +kernel) ?_
    exact z_zret (v := nI 0) hx hb hr hlocks hP hD hS (by decide +kernel) dX10_isThing_20 (Or.inr ⟨rfl, rfl⟩)
  · have t_c_1 := z_ltF c_1
    have f_3 : zR 0 2147483647 (pa0) := zR_ley t_c_1 zk_z (zR_any (pa0)) (by decide)
    refine lv_iload_n hx hb dX10_isThing_4 rfl (lv_at hl 1 rfl) ?_
    refine lv_aload_n hx hb dX10_isThing_5 rfl (lv_at hl 0 rfl) ?_
    refine z_get hx hb ht hown hK hP ziX10 rfl 0 (by decide) 1 (by decide) hw_2_94 rfl (v := .ref (q 3)) rfl dX10_isThing_6 ?_
    refine z_get hx hb ht hown hK hP ziX2 rfl 3 (by decide) 5 (by decide) hw_1_93 rfl (v := .int (I 3 5)) rfl dX10_isThing_9 ?_
    have f_4 : zR 0 6 (I 3 5) := xI hI 3 5
    refine lv_icmp_ge (tgt := 19) hx hb dX10_isThing_12 (by decide) (fun c_5 => ?_) (fun c_5 => ?_)
    · have t_c_5 := z_leT c_5
      refine lv_iconst (v := nI 0) hx hb dX10_isThing_19 (by decide +kernel) ?_
      exact z_zret (v := nI 0) hx hb hr hlocks hP hD hS (by decide +kernel) dX10_isThing_20 (Or.inr ⟨rfl, rfl⟩)
    · have t_c_5 := z_leF c_5
      have f_6 : zR 0 5 (pa0) := zR_ltx t_c_5 f_3 f_4 (by decide)
      have f_7 : zR 1 6 (I 3 5) := zR_lty t_c_5 f_3 f_4 (by decide)
      refine lv_iconst (v := nI 1) hx hb dX10_isThing_15 (by decide +kernel) ?_
      refine lv_goto (tgt := 20) hx hb dX10_isThing_16 (by decide) ?_
      exact z_zret (v := nI 1) hx hb hr hlocks hP hD hS (by decide +kernel) dX10_isThing_20 (Or.inl ⟨rfl, rfl, f_6⟩)
set_option maxHeartbeats 4000000 in
set_option maxRecDepth 100000 in
theorem xk_X10_thing (l : Launch) (D : va_G) (q : Nat → Nat) (cA : Nat → ClassId) (F : Nat → Nat → Int32) (I R : Nat → Nat → Int32) (J : Nat → Nat → Int64) (hI : xInv F (I, R, J)) (pa0 : Int32) (pa1 : Int32) : zMi l D vwCl (zXtys cA) 81 q (zXd q cA) yX10_thing cX10_thing 3 (some .int) ({ frames := 1, cells := 0, slots := 0, locals := 21 } : Room) [.ref (q 0), .int (pa0), .int (pa1)] (I, R, J) (fun _ u => u = (I, R, J)) := by
  intro sz
  refine z_body (by decide +kernel) (Nat.le_of_ble_eq_true rfl) (fun p e s m below meth c ls hx hb hml hr ht hown hlocks hsz hK hP hD hS hl => ?_)
  have hA : ∀ a, s.heap.size ≤ a → zA 81 q sz a := fun a h => Or.inr (hsz ▸ h)
  have hl : lv_has ls 3 [(0, .ref (q 0)), (1, .int (pa0)), (2, .int (pa1))] := hl
  refine lv_aload_n hx hb dX10_thing_0 rfl (lv_at hl 0 rfl) ?_
  refine lv_iload_n hx hb dX10_thing_1 rfl (lv_at hl 1 rfl) ?_
  refine z_callVi (k := 0) (As := [.int (pa0)]) (rest := []) hx hb hml hown ht (xk_X10_isThing l D q cA F _ _ _ hI (pa0)) hw_3_87 hmX10_isThing ⟨rfl, rfl⟩ (na := 1) rfl (by decide +kernel) (by decide) (by decide) rfl rfl hK hP hD hS hA hl.1 rfl (Nat.le_of_ble_eq_true rfl) ⟨Nat.zero_le _, Nat.zero_le _⟩ dX10_thing_2 (fun r_1 I_1 R_1 J_1 H locs hp_1 hP hD hS _ _ => ?_)
  rcases hp_1 with ⟨rfl, hu_1, f0_1⟩ | ⟨rfl, hu_1⟩
  · cases hu_1
    refine lv_if_ne (tgt := 11) hx hb dX10_thing_5 (by decide) (fun _ => ?_) (fun c_0 => absurd c_0 (zD_ne zk_1 zk_z (by decide)))
    refine lv_iload_n hx hb dX10_thing_11 rfl (lv_at hl 2 rfl) ?_
    rcases (show ((pa1).toInt < 0 ∨ 2 < (pa1).toInt) ∨ (pa1).toInt = 0 ∨ (pa1).toInt = 1 ∨ (pa1).toInt = 2 by omega) with c_2 | k_3 | k_3 | k_3
    · refine lv_tableOut (tgt := 70) hx hb dX10_thing_12 c_2 (by decide) ?_
      refine lv_bipush (v := (-2)) hx hb dX10_thing_70 (by decide +kernel) ?_
      exact z_iret (v := (-2)) hx hb hr hlocks hP hD hS dX10_thing_72 rfl
    · refine lv_tableIn (off := 28) (tgt := 40) hx hb dX10_thing_12 (by omega) (by omega) (by rw [k_3]; decide +kernel) (by decide) ?_
      refine lv_aload_n hx hb dX10_thing_40 rfl (lv_at hl 0 rfl) ?_
      refine z_get hx hb ht hown hK hP ziX10 rfl 0 (by decide) 1 (by decide) hw_2_94 rfl (v := .ref (q 3)) rfl dX10_thing_41 ?_
      refine z_get hx hb ht hown hK hP ziX2 rfl 3 (by decide) 9 (by decide) hw_1_106 rfl (v := .ref (q 6)) rfl dX10_thing_44 ?_
      refine lv_iload_n hx hb dX10_thing_47 rfl (lv_at hl 1 rfl) ?_
      refine z_iald hx hb hK hP 6 (by decide) 3 rfl rfl (zR_vin f0_1 (by decide)) dX10_thing_48 ?_
      refine z_eqi (y := R 6 (pa0).toNatClampNeg) rfl ?_
      exact z_iret (v := R 6 (pa0).toNatClampNeg) hx hb hr hlocks hP hD hS dX10_thing_49 rfl
    · refine lv_tableIn (off := 38) (tgt := 50) hx hb dX10_thing_12 (by omega) (by omega) (by rw [k_3]; decide +kernel) (by decide) ?_
      refine lv_aload_n hx hb dX10_thing_50 rfl (lv_at hl 0 rfl) ?_
      refine z_get hx hb ht hown hK hP ziX10 rfl 0 (by decide) 4 (by decide) hw_2_97 rfl (v := .ref (q 15)) rfl dX10_thing_51 ?_
      refine z_get hx hb ht hown hK hP ziX9 rfl 15 (by decide) 5 (by decide) hw_1_168 rfl (v := .ref (q 17)) rfl dX10_thing_54 ?_
      refine lv_iload_n hx hb dX10_thing_57 rfl (lv_at hl 1 rfl) ?_
      refine z_iald hx hb hK hP 17 (by decide) 11 rfl rfl (zR_vin f0_1 (by decide)) dX10_thing_58 ?_
      refine z_eqi (y := R 17 (pa0).toNatClampNeg) rfl ?_
      have f_4 : zR 0 4 (R 17 (pa0).toNatClampNeg) := xR hI 17 (pa0).toNatClampNeg
      exact z_iret (v := R 17 (pa0).toNatClampNeg) hx hb hr hlocks hP hD hS dX10_thing_59 rfl
    · refine lv_tableIn (off := 48) (tgt := 60) hx hb dX10_thing_12 (by omega) (by omega) (by rw [k_3]; decide +kernel) (by decide) ?_
      refine lv_aload_n hx hb dX10_thing_60 rfl (lv_at hl 0 rfl) ?_
      refine z_get hx hb ht hown hK hP ziX10 rfl 0 (by decide) 1 (by decide) hw_2_94 rfl (v := .ref (q 3)) rfl dX10_thing_61 ?_
      refine z_get hx hb ht hown hK hP ziX2 rfl 3 (by decide) 8 (by decide) hw_1_102 rfl (v := .ref (q 5)) rfl dX10_thing_64 ?_
      refine lv_iload_n hx hb dX10_thing_67 rfl (lv_at hl 1 rfl) ?_
      refine z_iald hx hb hK hP 5 (by decide) 2 rfl rfl (zR_vin f0_1 (by decide)) dX10_thing_68 ?_
      refine z_eqi (y := R 5 (pa0).toNatClampNeg) rfl ?_
      have f_5 : zR 0 4 (R 5 (pa0).toNatClampNeg) := xR hI 5 (pa0).toNatClampNeg
      exact z_iret (v := R 5 (pa0).toNatClampNeg) hx hb hr hlocks hP hD hS dX10_thing_69 rfl
  · cases hu_1
    refine lv_if_ne (tgt := 11) hx hb dX10_thing_5 (by decide) (fun c_0 => absurd (zD_eq zk_0 zk_z) c_0) (fun _ => ?_)
    refine lv_bipush (v := (-2)) hx hb dX10_thing_8 (by decide +kernel) ?_
    exact z_iret (v := (-2)) hx hb hr hlocks hP hD hS dX10_thing_10 rfl
set_option maxHeartbeats 4000000 in
set_option maxRecDepth 100000 in
theorem xk_X2_moreTo (l : Launch) (D : va_G) (q : Nat → Nat) (cA : Nat → ClassId) (F : Nat → Nat → Int32) (I R : Nat → Nat → Int32) (J : Nat → Nat → Int64) (hI : xInv F (I, R, J)) (pa0 : Int32) (hpa0 : zR 0 4 pa0) (pa1 : Int32) (hpa1 : zR 0 5 pa1) : zMi l D vwCl (zXtys cA) 81 q (zXd q cA) yX2_moreTo cX2_moreTo 3 (some .int) ({ frames := 0, cells := 0, slots := 0, locals := 0 } : Room) [.ref (q 3), .int (pa0), .int (pa1)] (I, R, J) (fun _ u => u = (I, R, J)) := by
  intro sz
  refine z_body (by decide +kernel) (Nat.le_of_ble_eq_true rfl) (fun p e s m below meth c ls hx hb hml hr ht hown hlocks hsz hK hP hD hS hl => ?_)
  have hA : ∀ a, s.heap.size ≤ a → zA 81 q sz a := fun a h => Or.inr (hsz ▸ h)
  have hl : lv_has ls 3 [(0, .ref (q 3)), (1, .int (pa0)), (2, .int (pa1))] := hl
  refine lv_aload_n hx hb dX2_moreTo_0 rfl (lv_at hl 0 rfl) ?_
  refine z_get hx hb ht hown hK hP ziX2 rfl 3 (by decide) 10 (by decide) hw_1_109 rfl (v := .ref (q 7)) rfl dX2_moreTo_1 ?_
  refine lv_iload_n hx hb dX2_moreTo_4 rfl (lv_at hl 1 rfl) ?_
  refine lv_bipush (v := nI 6) hx hb dX2_moreTo_5 (by decide +kernel) ?_
  refine lv_imul hx hb dX2_moreTo_7 ?_
  refine z_rng (a := 0) (b := 24) (zR_mul hpa0 zk_6 (by decide)) (fun v_1 hv_1 => ?_)
  refine lv_iload_n hx hb dX2_moreTo_8 rfl (lv_at hl 2 rfl) ?_
  refine lv_iadd hx hb dX2_moreTo_9 ?_
  refine z_rng (a := 0) (b := 29) (zR_add hv_1 hpa1 (by decide)) (fun v_2 hv_2 => ?_)
  refine z_iald hx hb hK hP 7 (by decide) 4 rfl rfl (zR_vin hv_2 (by decide)) dX2_moreTo_10 ?_
  refine z_eqi (y := R 7 (v_2).toNatClampNeg) rfl ?_
  exact z_iret (v := R 7 (v_2).toNatClampNeg) hx hb hr hlocks hP hD hS dX2_moreTo_11 rfl
set_option maxHeartbeats 4000000 in
set_option maxRecDepth 100000 in
theorem xk_X2_valueTo (l : Launch) (D : va_G) (q : Nat → Nat) (cA : Nat → ClassId) (F : Nat → Nat → Int32) (I R : Nat → Nat → Int32) (J : Nat → Nat → Int64) (hI : xInv F (I, R, J)) (pa0 : Int32) (hpa0 : zR 0 4 pa0) (pa1 : Int32) (hpa1 : zR 0 5 pa1) : zMi l D vwCl (zXtys cA) 81 q (zXd q cA) yX2_valueTo cX2_valueTo 3 (some .int) ({ frames := 1, cells := 0, slots := 0, locals := 22 } : Room) [.ref (q 3), .int (pa0), .int (pa1)] (I, R, J) (fun _ u => u = (I, R, J)) := by
  intro sz
  refine z_body (by decide +kernel) (Nat.le_of_ble_eq_true rfl) (fun p e s m below meth c ls hx hb hml hr ht hown hlocks hsz hK hP hD hS hl => ?_)
  have hA : ∀ a, s.heap.size ≤ a → zA 81 q sz a := fun a h => Or.inr (hsz ▸ h)
  have hl : lv_has ls 3 [(0, .ref (q 3)), (1, .int (pa0)), (2, .int (pa1))] := hl
  refine lv_aload_n hx hb dX2_valueTo_0 rfl (lv_at hl 0 rfl) ?_
  refine z_get hx hb ht hown hK hP ziX2 rfl 3 (by decide) 9 (by decide) hw_1_104 rfl (v := .ref (q 6)) rfl dX2_valueTo_1 ?_
  refine lv_iload_n hx hb dX2_valueTo_4 rfl (lv_at hl 2 rfl) ?_
  refine z_iald hx hb hK hP 6 (by decide) 3 rfl rfl (zR_vin hpa1 (by decide)) dX2_valueTo_5 ?_
  refine z_eqi (y := R 6 (pa1).toNatClampNeg) rfl ?_
  refine lv_aload_n hx hb dX2_valueTo_6 rfl (lv_at hl 0 rfl) ?_
  refine lv_iload_n hx hb dX2_valueTo_7 rfl (lv_at hl 1 rfl) ?_
  refine lv_iload_n hx hb dX2_valueTo_8 rfl (lv_at hl 2 rfl) ?_
  refine z_callVi (k := 3) (As := [.int (pa0), .int (pa1)]) (rest := [.int (R 6 (pa1).toNatClampNeg)]) hx hb hml hown ht (xk_X2_moreTo l D q cA F _ _ _ hI (pa0) hpa0 (pa1) hpa1) hw_3_99 hmX2_moreTo ⟨rfl, rfl⟩ (na := 2) rfl (by decide +kernel) (by decide) (by decide) rfl rfl hK hP hD hS hA hl.1 rfl (Nat.le_of_ble_eq_true rfl) ⟨Nat.zero_le _, Nat.zero_le _⟩ dX2_valueTo_9 (fun r_1 I_1 R_1 J_1 H locs hp_1 hP hD hS _ _ => ?_)
  cases hp_1
  refine lv_iadd hx hb dX2_valueTo_12 ?_
  refine z_any (fun v_2 => ?_)
  exact z_iret (v := v_2) hx hb hr hlocks hP hD hS dX2_valueTo_13 rfl
set_option maxHeartbeats 4000000 in
set_option maxRecDepth 100000 in
theorem xk_X10_value (l : Launch) (D : va_G) (q : Nat → Nat) (cA : Nat → ClassId) (F : Nat → Nat → Int32) (I R : Nat → Nat → Int32) (J : Nat → Nat → Int64) (hI : xInv F (I, R, J)) (pa0 : Int32) (pa1 : Int32) : zMi l D vwCl (zXtys cA) 81 q (zXd q cA) yX10_value cX10_value 3 (some .int) ({ frames := 2, cells := 0, slots := 0, locals := 44 } : Room) [.ref (q 0), .int (pa0), .int (pa1)] (I, R, J) (fun _ u => u = (I, R, J)) := by
  intro sz
  refine z_body (by decide +kernel) (Nat.le_of_ble_eq_true rfl) (fun p e s m below meth c ls hx hb hml hr ht hown hlocks hsz hK hP hD hS hl => ?_)
  have hA : ∀ a, s.heap.size ≤ a → zA 81 q sz a := fun a h => Or.inr (hsz ▸ h)
  have hl : lv_has ls 3 [(0, .ref (q 0)), (1, .int (pa0)), (2, .int (pa1))] := hl
  refine lv_aload_n hx hb dX10_value_0 rfl (lv_at hl 0 rfl) ?_
  refine lv_iload_n hx hb dX10_value_1 rfl (lv_at hl 1 rfl) ?_
  refine z_callVi (k := 0) (As := [.int (pa0)]) (rest := []) hx hb hml hown ht (xk_X10_isHouse l D q cA F _ _ _ hI (pa0)) hw_3_59 hmX10_isHouse ⟨rfl, rfl⟩ (na := 1) rfl (by decide +kernel) (by decide) (by decide) rfl rfl hK hP hD hS hA hl.1 rfl (Nat.le_of_ble_eq_true rfl) ⟨Nat.zero_le _, Nat.zero_le _⟩ dX10_value_2 (fun r_1 I_1 R_1 J_1 H locs hp_1 hP hD hS _ _ => ?_)
  rcases hp_1 with ⟨rfl, hu_1, f0_1⟩ | ⟨rfl, hu_1⟩
  · cases hu_1
    refine lv_if_eq (tgt := 28) hx hb dX10_value_5 (by decide) (fun c_0 => absurd c_0 (zD_ne zk_1 zk_z (by decide))) (fun _ => ?_)
    refine lv_aload_n hx hb dX10_value_8 rfl (lv_at hl 0 rfl) ?_
    refine lv_iload_n hx hb dX10_value_9 rfl (lv_at hl 2 rfl) ?_
    refine z_callVi (k := 0) (As := [.int (pa1)]) (rest := []) hx hb hml hown ht (xk_X10_isThing l D q cA F _ _ _ hI (pa1)) hw_3_87 hmX10_isThing ⟨rfl, rfl⟩ (na := 1) rfl (by decide +kernel) (by decide) (by decide) rfl rfl hK hP hD hS hA hl.1 rfl (Nat.le_of_ble_eq_true rfl) ⟨Nat.zero_le _, Nat.zero_le _⟩ dX10_value_10 (fun r_2 I_2 R_2 J_2 H locs hp_2 hP hD hS _ _ => ?_)
    rcases hp_2 with ⟨rfl, hu_2, f0_2⟩ | ⟨rfl, hu_2⟩
    · cases hu_2
      refine lv_if_eq (tgt := 28) hx hb dX10_value_13 (by decide) (fun c_0 => absurd c_0 (zD_ne zk_1 zk_z (by decide))) (fun _ => ?_)
      refine lv_aload_n hx hb dX10_value_16 rfl (lv_at hl 0 rfl) ?_
      refine z_get hx hb ht hown hK hP ziX10 rfl 0 (by decide) 1 (by decide) hw_2_94 rfl (v := .ref (q 3)) rfl dX10_value_17 ?_
      refine lv_iload_n hx hb dX10_value_20 rfl (lv_at hl 1 rfl) ?_
      refine lv_iload_n hx hb dX10_value_21 rfl (lv_at hl 2 rfl) ?_
      refine z_callVi (k := 3) (As := [.int (pa0), .int (pa1)]) (rest := []) hx hb hml hown ht (xk_X2_valueTo l D q cA F _ _ _ hI (pa0) f0_1 (pa1) f0_2) hw_3_95 hmX2_valueTo ⟨rfl, rfl⟩ (na := 2) rfl (by decide +kernel) (by decide) (by decide) rfl rfl hK hP hD hS hA hl.1 rfl (Nat.le_of_ble_eq_true rfl) ⟨Nat.zero_le _, Nat.zero_le _⟩ dX10_value_22 (fun r_3 I_3 R_3 J_3 H locs hp_3 hP hD hS _ _ => ?_)
      cases hp_3
      refine lv_goto (tgt := 30) hx hb dX10_value_25 (by decide) ?_
      exact z_iret (v := r_3) hx hb hr hlocks hP hD hS dX10_value_30 rfl
    · cases hu_2
      refine lv_if_eq (tgt := 28) hx hb dX10_value_13 (by decide) (fun _ => ?_) (fun c_0 => absurd (zD_eq zk_0 zk_z) c_0)
      refine lv_bipush (v := (-2)) hx hb dX10_value_28 (by decide +kernel) ?_
      exact z_iret (v := (-2)) hx hb hr hlocks hP hD hS dX10_value_30 rfl
  · cases hu_1
    refine lv_if_eq (tgt := 28) hx hb dX10_value_5 (by decide) (fun _ => ?_) (fun c_0 => absurd (zD_eq zk_0 zk_z) c_0)
    refine lv_bipush (v := (-2)) hx hb dX10_value_28 (by decide +kernel) ?_
    exact z_iret (v := (-2)) hx hb hr hlocks hP hD hS dX10_value_30 rfl
set_option maxHeartbeats 4000000 in
set_option maxRecDepth 100000 in
theorem xk_X10_isPaper (l : Launch) (D : va_G) (q : Nat → Nat) (cA : Nat → ClassId) (F : Nat → Nat → Int32) (I R : Nat → Nat → Int32) (J : Nat → Nat → Int64) (hI : xInv F (I, R, J)) (pa0 : Int32) : zMi l D vwCl (zXtys cA) 81 q (zXd q cA) yX10_isPaper cX10_isPaper 2 (some .boolean) ({ frames := 0, cells := 0, slots := 0, locals := 0 } : Room) [.ref (q 0), .int (pa0)] (I, R, J) (fun r u => (r = nI 1 ∧ u = (I, R, J) ∧ zR 0 23 pa0) ∨ (r = nI 0 ∧ u = (I, R, J))) := by
  intro sz
  refine z_body (by decide +kernel) (Nat.le_of_ble_eq_true rfl) (fun p e s m below meth c ls hx hb hml hr ht hown hlocks hsz hK hP hD hS hl => ?_)
  have hA : ∀ a, s.heap.size ≤ a → zA 81 q sz a := fun a h => Or.inr (hsz ▸ h)
  have hl : lv_has ls 2 [(0, .ref (q 0)), (1, .int (pa0))] := hl
  refine lv_iload_n hx hb dX10_isPaper_0 rfl (lv_at hl 1 rfl) ?_
  refine lv_if_lt (tgt := 19) hx hb dX10_isPaper_1 (by decide) (fun c_1 => ?_) (fun c_1 => ?_)
  · have t_c_1 := z_ltT c_1
    have f_2 : zR (-2147483648) (-1) (pa0) := zR_ltx t_c_1 (zR_any (pa0)) zk_z (by decide)
    refine lv_iconst (v := nI 0) hx hb dX10_isPaper_19 (by decide +kernel) ?_
    exact z_zret (v := nI 0) hx hb hr hlocks hP hD hS (by decide +kernel) dX10_isPaper_20 (Or.inr ⟨rfl, rfl⟩)
  · have t_c_1 := z_ltF c_1
    have f_3 : zR 0 2147483647 (pa0) := zR_ley t_c_1 zk_z (zR_any (pa0)) (by decide)
    refine lv_iload_n hx hb dX10_isPaper_4 rfl (lv_at hl 1 rfl) ?_
    refine lv_aload_n hx hb dX10_isPaper_5 rfl (lv_at hl 0 rfl) ?_
    refine z_get hx hb ht hown hK hP ziX10 rfl 0 (by decide) 4 (by decide) hw_2_97 rfl (v := .ref (q 15)) rfl dX10_isPaper_6 ?_
    refine z_get hx hb ht hown hK hP ziX9 rfl 15 (by decide) 2 (by decide) hw_1_162 rfl (v := .int (I 15 2)) rfl dX10_isPaper_9 ?_
    have f_4 : zR 0 24 (I 15 2) := xI hI 15 2
    refine lv_icmp_ge (tgt := 19) hx hb dX10_isPaper_12 (by decide) (fun c_5 => ?_) (fun c_5 => ?_)
    · have t_c_5 := z_leT c_5
      refine lv_iconst (v := nI 0) hx hb dX10_isPaper_19 (by decide +kernel) ?_
      exact z_zret (v := nI 0) hx hb hr hlocks hP hD hS (by decide +kernel) dX10_isPaper_20 (Or.inr ⟨rfl, rfl⟩)
    · have t_c_5 := z_leF c_5
      have f_6 : zR 0 23 (pa0) := zR_ltx t_c_5 f_3 f_4 (by decide)
      have f_7 : zR 1 24 (I 15 2) := zR_lty t_c_5 f_3 f_4 (by decide)
      refine lv_iconst (v := nI 1) hx hb dX10_isPaper_15 (by decide +kernel) ?_
      refine lv_goto (tgt := 20) hx hb dX10_isPaper_16 (by decide) ?_
      exact z_zret (v := nI 1) hx hb hr hlocks hP hD hS (by decide +kernel) dX10_isPaper_20 (Or.inl ⟨rfl, rfl, f_6⟩)
set_option maxHeartbeats 4000000 in
set_option maxRecDepth 100000 in
theorem xk_X10_paper (l : Launch) (D : va_G) (q : Nat → Nat) (cA : Nat → ClassId) (F : Nat → Nat → Int32) (I R : Nat → Nat → Int32) (J : Nat → Nat → Int64) (hI : xInv F (I, R, J)) (pa0 : Int32) (pa1 : Int32) : zMi l D vwCl (zXtys cA) 81 q (zXd q cA) yX10_paper cX10_paper 3 (some .int) ({ frames := 1, cells := 0, slots := 0, locals := 21 } : Room) [.ref (q 0), .int (pa0), .int (pa1)] (I, R, J) (fun _ u => u = (I, R, J)) := by
  intro sz
  refine z_body (by decide +kernel) (Nat.le_of_ble_eq_true rfl) (fun p e s m below meth c ls hx hb hml hr ht hown hlocks hsz hK hP hD hS hl => ?_)
  have hA : ∀ a, s.heap.size ≤ a → zA 81 q sz a := fun a h => Or.inr (hsz ▸ h)
  have hl : lv_has ls 3 [(0, .ref (q 0)), (1, .int (pa0)), (2, .int (pa1))] := hl
  refine lv_aload_n hx hb dX10_paper_0 rfl (lv_at hl 0 rfl) ?_
  refine lv_iload_n hx hb dX10_paper_1 rfl (lv_at hl 1 rfl) ?_
  refine z_callVi (k := 0) (As := [.int (pa0)]) (rest := []) hx hb hml hown ht (xk_X10_isPaper l D q cA F _ _ _ hI (pa0)) hw_3_107 hmX10_isPaper ⟨rfl, rfl⟩ (na := 1) rfl (by decide +kernel) (by decide) (by decide) rfl rfl hK hP hD hS hA hl.1 rfl (Nat.le_of_ble_eq_true rfl) ⟨Nat.zero_le _, Nat.zero_le _⟩ dX10_paper_2 (fun r_1 I_1 R_1 J_1 H locs hp_1 hP hD hS _ _ => ?_)
  rcases hp_1 with ⟨rfl, hu_1, f0_1⟩ | ⟨rfl, hu_1⟩
  · cases hu_1
    refine lv_if_ne (tgt := 11) hx hb dX10_paper_5 (by decide) (fun _ => ?_) (fun c_0 => absurd c_0 (zD_ne zk_1 zk_z (by decide)))
    refine lv_iload_n hx hb dX10_paper_11 rfl (lv_at hl 2 rfl) ?_
    rcases (show ((pa1).toInt < 0 ∨ 4 < (pa1).toInt) ∨ (pa1).toInt = 0 ∨ (pa1).toInt = 1 ∨ (pa1).toInt = 2 ∨ (pa1).toInt = 3 ∨ (pa1).toInt = 4 by omega) with c_2 | k_3 | k_3 | k_3 | k_3 | k_3
    · refine lv_tableOut (tgt := 98) hx hb dX10_paper_12 c_2 (by decide) ?_
      refine lv_bipush (v := (-2)) hx hb dX10_paper_98 (by decide +kernel) ?_
      exact z_iret (v := (-2)) hx hb hr hlocks hP hD hS dX10_paper_100 rfl
    · refine lv_tableIn (off := 36) (tgt := 48) hx hb dX10_paper_12 (by omega) (by omega) (by rw [k_3]; decide +kernel) (by decide) ?_
      refine lv_aload_n hx hb dX10_paper_48 rfl (lv_at hl 0 rfl) ?_
      refine z_get hx hb ht hown hK hP ziX10 rfl 0 (by decide) 4 (by decide) hw_2_97 rfl (v := .ref (q 15)) rfl dX10_paper_49 ?_
      refine z_get hx hb ht hown hK hP ziX9 rfl 15 (by decide) 7 (by decide) hw_1_174 rfl (v := .ref (q 19)) rfl dX10_paper_52 ?_
      refine lv_iload_n hx hb dX10_paper_55 rfl (lv_at hl 1 rfl) ?_
      refine z_iald hx hb hK hP 19 (by decide) 13 rfl rfl (zR_vin f0_1 (by decide)) dX10_paper_56 ?_
      refine z_eqi (y := R 19 (pa0).toNatClampNeg) rfl ?_
      have f_4 : zR 0 4 (R 19 (pa0).toNatClampNeg) := xR hI 19 (pa0).toNatClampNeg
      exact z_iret (v := R 19 (pa0).toNatClampNeg) hx hb hr hlocks hP hD hS dX10_paper_57 rfl
    · refine lv_tableIn (off := 46) (tgt := 58) hx hb dX10_paper_12 (by omega) (by omega) (by rw [k_3]; decide +kernel) (by decide) ?_
      refine lv_aload_n hx hb dX10_paper_58 rfl (lv_at hl 0 rfl) ?_
      refine z_get hx hb ht hown hK hP ziX10 rfl 0 (by decide) 4 (by decide) hw_2_97 rfl (v := .ref (q 15)) rfl dX10_paper_59 ?_
      refine z_get hx hb ht hown hK hP ziX9 rfl 15 (by decide) 8 (by decide) hw_1_178 rfl (v := .ref (q 20)) rfl dX10_paper_62 ?_
      refine lv_iload_n hx hb dX10_paper_65 rfl (lv_at hl 1 rfl) ?_
      refine z_iald hx hb hK hP 20 (by decide) 14 rfl rfl (zR_vin f0_1 (by decide)) dX10_paper_66 ?_
      refine z_eqi (y := R 20 (pa0).toNatClampNeg) rfl ?_
      have f_5 : zR 0 5 (R 20 (pa0).toNatClampNeg) := xR hI 20 (pa0).toNatClampNeg
      exact z_iret (v := R 20 (pa0).toNatClampNeg) hx hb hr hlocks hP hD hS dX10_paper_67 rfl
    · refine lv_tableIn (off := 56) (tgt := 68) hx hb dX10_paper_12 (by omega) (by omega) (by rw [k_3]; decide +kernel) (by decide) ?_
      refine lv_aload_n hx hb dX10_paper_68 rfl (lv_at hl 0 rfl) ?_
      refine z_get hx hb ht hown hK hP ziX10 rfl 0 (by decide) 4 (by decide) hw_2_97 rfl (v := .ref (q 15)) rfl dX10_paper_69 ?_
      refine z_get hx hb ht hown hK hP ziX9 rfl 15 (by decide) 9 (by decide) hw_1_181 rfl (v := .ref (q 21)) rfl dX10_paper_72 ?_
      refine lv_iload_n hx hb dX10_paper_75 rfl (lv_at hl 1 rfl) ?_
      refine z_iald hx hb hK hP 21 (by decide) 15 rfl rfl (zR_vin f0_1 (by decide)) dX10_paper_76 ?_
      refine z_eqi (y := R 21 (pa0).toNatClampNeg) rfl ?_
      have f_6 : zR 0 4 (R 21 (pa0).toNatClampNeg) := xR hI 21 (pa0).toNatClampNeg
      exact z_iret (v := R 21 (pa0).toNatClampNeg) hx hb hr hlocks hP hD hS dX10_paper_77 rfl
    · refine lv_tableIn (off := 66) (tgt := 78) hx hb dX10_paper_12 (by omega) (by omega) (by rw [k_3]; decide +kernel) (by decide) ?_
      refine lv_aload_n hx hb dX10_paper_78 rfl (lv_at hl 0 rfl) ?_
      refine z_get hx hb ht hown hK hP ziX10 rfl 0 (by decide) 4 (by decide) hw_2_97 rfl (v := .ref (q 15)) rfl dX10_paper_79 ?_
      refine z_get hx hb ht hown hK hP ziX9 rfl 15 (by decide) 10 (by decide) hw_1_184 rfl (v := .ref (q 22)) rfl dX10_paper_82 ?_
      refine lv_iload_n hx hb dX10_paper_85 rfl (lv_at hl 1 rfl) ?_
      refine z_iald hx hb hK hP 22 (by decide) 16 rfl rfl (zR_vin f0_1 (by decide)) dX10_paper_86 ?_
      refine z_eqi (y := R 22 (pa0).toNatClampNeg) rfl ?_
      exact z_iret (v := R 22 (pa0).toNatClampNeg) hx hb hr hlocks hP hD hS dX10_paper_87 rfl
    · refine lv_tableIn (off := 76) (tgt := 88) hx hb dX10_paper_12 (by omega) (by omega) (by rw [k_3]; decide +kernel) (by decide) ?_
      refine lv_aload_n hx hb dX10_paper_88 rfl (lv_at hl 0 rfl) ?_
      refine z_get hx hb ht hown hK hP ziX10 rfl 0 (by decide) 4 (by decide) hw_2_97 rfl (v := .ref (q 15)) rfl dX10_paper_89 ?_
      refine z_get hx hb ht hown hK hP ziX9 rfl 15 (by decide) 11 (by decide) hw_1_186 rfl (v := .ref (q 23)) rfl dX10_paper_92 ?_
      refine lv_iload_n hx hb dX10_paper_95 rfl (lv_at hl 1 rfl) ?_
      refine z_iald hx hb hK hP 23 (by decide) 17 rfl rfl (zR_vin f0_1 (by decide)) dX10_paper_96 ?_
      refine z_eqi (y := R 23 (pa0).toNatClampNeg) rfl ?_
      exact z_iret (v := R 23 (pa0).toNatClampNeg) hx hb hr hlocks hP hD hS dX10_paper_97 rfl
  · cases hu_1
    refine lv_if_ne (tgt := 11) hx hb dX10_paper_5 (by decide) (fun c_0 => absurd (zD_eq zk_0 zk_z) c_0) (fun _ => ?_)
    refine lv_bipush (v := (-2)) hx hb dX10_paper_8 (by decide +kernel) ?_
    exact z_iret (v := (-2)) hx hb hr hlocks hP hD hS dX10_paper_10 rfl
set_option maxHeartbeats 4000000 in
set_option maxRecDepth 100000 in
theorem xk_X9_worthOf (l : Launch) (D : va_G) (q : Nat → Nat) (cA : Nat → ClassId) (F : Nat → Nat → Int32) (I R : Nat → Nat → Int32) (J : Nat → Nat → Int64) (hI : xInv F (I, R, J)) (pa0 : Int32) (hpa0 : zR 0 23 pa0) : zMi l D vwCl (zXtys cA) 81 q (zXd q cA) yX9_worthOf cX9_worthOf 2 (some .int) ({ frames := 0, cells := 0, slots := 0, locals := 0 } : Room) [.ref (q 15), .int (pa0)] (I, R, J) (fun _ u => u = (I, R, J)) := by
  intro sz
  refine z_body (by decide +kernel) (Nat.le_of_ble_eq_true rfl) (fun p e s m below meth c ls hx hb hml hr ht hown hlocks hsz hK hP hD hS hl => ?_)
  have hA : ∀ a, s.heap.size ≤ a → zA 81 q sz a := fun a h => Or.inr (hsz ▸ h)
  have hl : lv_has ls 2 [(0, .ref (q 15)), (1, .int (pa0))] := hl
  refine lv_aload_n hx hb dX9_worthOf_0 rfl (lv_at hl 0 rfl) ?_
  refine z_get hx hb ht hown hK hP ziX9 rfl 15 (by decide) 0 (by decide) hw_1_154 rfl (v := .ref (q 3)) rfl dX9_worthOf_1 ?_
  refine z_get hx hb ht hown hK hP ziX2 rfl 3 (by decide) 9 (by decide) hw_1_108 rfl (v := .ref (q 6)) rfl dX9_worthOf_4 ?_
  refine lv_aload_n hx hb dX9_worthOf_7 rfl (lv_at hl 0 rfl) ?_
  refine z_get hx hb ht hown hK hP ziX9 rfl 15 (by decide) 8 (by decide) hw_1_175 rfl (v := .ref (q 20)) rfl dX9_worthOf_8 ?_
  refine lv_iload_n hx hb dX9_worthOf_11 rfl (lv_at hl 1 rfl) ?_
  refine z_iald hx hb hK hP 20 (by decide) 14 rfl rfl (zR_vin hpa0 (by decide)) dX9_worthOf_12 ?_
  refine z_eqi (y := R 20 (pa0).toNatClampNeg) rfl ?_
  have f_1 : zR 0 5 (R 20 (pa0).toNatClampNeg) := xR hI 20 (pa0).toNatClampNeg
  refine z_iald hx hb hK hP 6 (by decide) 3 rfl rfl (zR_vin f_1 (by decide)) dX9_worthOf_13 ?_
  refine z_eqi (y := R 6 (R 20 (pa0).toNatClampNeg).toNatClampNeg) rfl ?_
  exact z_iret (v := R 6 (R 20 (pa0).toNatClampNeg).toNatClampNeg) hx hb hr hlocks hP hD hS dX9_worthOf_14 rfl
set_option maxHeartbeats 4000000 in
set_option maxRecDepth 100000 in
theorem xk_X9_priceOf (l : Launch) (D : va_G) (q : Nat → Nat) (cA : Nat → ClassId) (F : Nat → Nat → Int32) (I R : Nat → Nat → Int32) (J : Nat → Nat → Int64) (hI : xInv F (I, R, J)) (pa0 : Int32) (hpa0 : zR 0 23 pa0) : zMi l D vwCl (zXtys cA) 81 q (zXd q cA) yX9_priceOf cX9_priceOf 4 (some .int) ({ frames := 1, cells := 0, slots := 0, locals := 21 } : Room) [.ref (q 15), .int (pa0)] (I, R, J) (fun _ u => u = (I, R, J)) := by
  intro sz
  refine z_body (by decide +kernel) (Nat.le_of_ble_eq_true rfl) (fun p e s m below meth c ls hx hb hml hr ht hown hlocks hsz hK hP hD hS hl => ?_)
  have hA : ∀ a, s.heap.size ≤ a → zA 81 q sz a := fun a h => Or.inr (hsz ▸ h)
  have hl : lv_has ls 4 [(0, .ref (q 15)), (1, .int (pa0))] := hl
  refine lv_aload_n hx hb dX9_priceOf_0 rfl (lv_at hl 0 rfl) ?_
  refine lv_iload_n hx hb dX9_priceOf_1 rfl (lv_at hl 1 rfl) ?_
  refine z_callVi (k := 15) (As := [.int (pa0)]) (rest := []) hx hb hml hown ht (xk_X9_worthOf l D q cA F _ _ _ hI (pa0) hpa0) hw_3_120 hmX9_worthOf ⟨rfl, rfl⟩ (na := 1) rfl (by decide +kernel) (by decide) (by decide) rfl rfl hK hP hD hS hA hl.1 rfl (Nat.le_of_ble_eq_true rfl) ⟨Nat.zero_le _, Nat.zero_le _⟩ dX9_priceOf_2 (fun r_1 I_1 R_1 J_1 H locs hp_1 hP hD hS _ _ => ?_)
  cases hp_1
  refine lv_istore_n (lv' := [(2, .int (r_1)), (0, .ref (q 15)), (1, .int (pa0))]) hx hb dX9_priceOf_5 rfl hl (by decide) rfl (fun ls hl => ?_)
  refine lv_aload_n hx hb dX9_priceOf_6 rfl (lv_at hl 1 rfl) ?_
  refine z_get hx hb ht hown hK hP ziX9 rfl 15 (by decide) 1 (by decide) hw_1_157 rfl (v := .int (I 15 1)) rfl dX9_priceOf_7 ?_
  refine lv_istore_n (lv' := [(3, .int (I 15 1)), (2, .int (r_1)), (0, .ref (q 15)), (1, .int (pa0))]) hx hb dX9_priceOf_10 rfl hl (by decide) rfl (fun ls hl => ?_)
  have loop_20 : ∀ N : Nat, ∀ x_18 : Int32, ∀ x_19 : Int32, (2147483648 - (x_19).toInt).toNat < N → ∀ (H : Heap) (locs : List Loc), va_P D vwCl (zw 81 q (zXd q cA) I R J) H → va_D (zA 81 q sz) (zw 81 q (zXd q cA) I R J) → va_S (zA 81 q sz) s.heap H locs → ∀ ls : Array Slot, lv_has ls 4 [(0, .ref (q 15)), (1, .int (pa0)), (2, .int (x_18)), (3, .int (x_19))] → W p l e ({ frames := 1, cells := 0, slots := 0, locals := 21 } : Room) s m ([.ref (q 15), .int (pa0)] : List Value).toArray below meth c H locs 0 0 (MQ below (va_Qi (fun _ u => u = (I, R, J)) (zB D vwCl 81 q (zXd q cA) sz) (zA 81 q sz)) ([.ref (q 15), .int (pa0)] : List Value).toArray s 0 0 (zA 81 q sz)) (F0 m 11 ls []) := by
    intro N
    induction N with
    | zero => intro x_18 x_19 hN; exact absurd hN (Nat.not_lt_zero _)
    | succ N ih_22 =>
      intro x_18 x_19 hN_21 H locs hP hD hS ls hl
      refine lv_iload_n hx hb dX9_priceOf_11 rfl (lv_at hl 3 rfl) ?_
      refine lv_aload_n hx hb dX9_priceOf_12 rfl (lv_at hl 0 rfl) ?_
      refine z_get hx hb ht hown hK hP ziX9 rfl 15 (by decide) 10 (by decide) hw_1_182 rfl (v := .ref (q 22)) rfl dX9_priceOf_13 ?_
      refine lv_iload_n hx hb dX9_priceOf_16 rfl (lv_at hl 1 rfl) ?_
      refine z_iald hx hb hK hP 22 (by decide) 16 rfl rfl (zR_vin hpa0 (by decide)) dX9_priceOf_17 ?_
      refine z_eqi (y := R 22 (pa0).toNatClampNeg) rfl ?_
      refine lv_icmp_ge (tgt := 43) hx hb dX9_priceOf_18 (by decide) (fun c_23 => ?_) (fun c_23 => ?_)
      · have t_c_23 := z_leT c_23
        refine lv_iload_n hx hb dX9_priceOf_43 rfl (lv_at hl 2 rfl) ?_
        exact z_iret (v := x_18) hx hb hr hlocks hP hD hS dX9_priceOf_44 rfl
      · have t_c_23 := z_leF c_23
        have f_24 : zR (-2147483648) 2147483646 (x_19) := zR_ltx t_c_23 (zR_any (x_19)) (zR_any (R 22 (pa0).toNatClampNeg)) (by decide)
        have f_25 : zR (-2147483647) 2147483647 (R 22 (pa0).toNatClampNeg) := zR_lty t_c_23 (zR_any (x_19)) (zR_any (R 22 (pa0).toNatClampNeg)) (by decide)
        refine lv_iload_n hx hb dX9_priceOf_21 rfl (lv_at hl 2 rfl) ?_
        refine lv_bipush (v := nI 100) hx hb dX9_priceOf_22 (by decide +kernel) ?_
        refine lv_aload_n hx hb dX9_priceOf_24 rfl (lv_at hl 0 rfl) ?_
        refine z_get hx hb ht hown hK hP ziX9 rfl 15 (by decide) 0 (by decide) hw_1_154 rfl (v := .ref (q 3)) rfl dX9_priceOf_25 ?_
        refine z_get hx hb ht hown hK hP ziX2 rfl 3 (by decide) 1 (by decide) hw_1_72 rfl (v := .int (I 3 1)) rfl dX9_priceOf_28 ?_
        refine lv_isub hx hb dX9_priceOf_31 ?_
        refine z_any (fun v_26 => ?_)
        refine lv_imul hx hb dX9_priceOf_32 ?_
        refine z_any (fun v_27 => ?_)
        refine lv_bipush (v := nI 100) hx hb dX9_priceOf_33 (by decide +kernel) ?_
        refine lv_idiv hx hb dX9_priceOf_35 (by decide +kernel) ?_
        refine z_any (fun v_28 => ?_)
        refine lv_istore_n (lv' := [(2, .int (v_28)), (0, .ref (q 15)), (1, .int (pa0)), (3, .int (x_19))]) hx hb dX9_priceOf_36 rfl hl (by decide) rfl (fun ls hl => ?_)
        obtain ⟨v_29, ev_29⟩ : ∃ y : Int32, y = x_19 + nI 1 := ⟨_, rfl⟩
        have hv_29 : zR (-2147483647) 2147483647 v_29 := ev_29 ▸ zR_add f_24 zk_1 (by decide)
        have mv_29 : v_29.toInt = (x_19).toInt + 1 := by rw [ev_29, zR_addE f_24 zk_1 (by decide)]; rfl
        refine lv_iinc (v := v_29) (lv' := [(3, .int (v_29)), (2, .int (v_28)), (0, .ref (q 15)), (1, .int (pa0))]) hx hb dX9_priceOf_37 hl (k := 3) rfl (ev_29 ▸ rfl) (by decide) rfl (fun ls hl => ?_)
        refine lv_goto (tgt := 11) hx hb dX9_priceOf_40 (by decide) ?_
        exact ih_22 (v_28) (v_29) (z2_up mv_29 (by decide) hN_21) _ _ hP hD hS _ (lv_sub hl [2, 3, 1, 0] rfl)
  exact loop_20 _ (r_1) (I 15 1) (Nat.lt_succ_self _) _ _ hP hD hS _ (lv_sub hl [2, 3, 1, 0] rfl)
set_option maxHeartbeats 4000000 in
set_option maxRecDepth 100000 in
theorem xk_X10_price (l : Launch) (D : va_G) (q : Nat → Nat) (cA : Nat → ClassId) (F : Nat → Nat → Int32) (I R : Nat → Nat → Int32) (J : Nat → Nat → Int64) (hI : xInv F (I, R, J)) (pa0 : Int32) : zMi l D vwCl (zXtys cA) 81 q (zXd q cA) yX10_price cX10_price 2 (some .int) ({ frames := 2, cells := 0, slots := 0, locals := 44 } : Room) [.ref (q 0), .int (pa0)] (I, R, J) (fun _ u => u = (I, R, J)) := by
  intro sz
  refine z_body (by decide +kernel) (Nat.le_of_ble_eq_true rfl) (fun p e s m below meth c ls hx hb hml hr ht hown hlocks hsz hK hP hD hS hl => ?_)
  have hA : ∀ a, s.heap.size ≤ a → zA 81 q sz a := fun a h => Or.inr (hsz ▸ h)
  have hl : lv_has ls 2 [(0, .ref (q 0)), (1, .int (pa0))] := hl
  refine lv_aload_n hx hb dX10_price_0 rfl (lv_at hl 0 rfl) ?_
  refine lv_iload_n hx hb dX10_price_1 rfl (lv_at hl 1 rfl) ?_
  refine z_callVi (k := 0) (As := [.int (pa0)]) (rest := []) hx hb hml hown ht (xk_X10_isPaper l D q cA F _ _ _ hI (pa0)) hw_3_107 hmX10_isPaper ⟨rfl, rfl⟩ (na := 1) rfl (by decide +kernel) (by decide) (by decide) rfl rfl hK hP hD hS hA hl.1 rfl (Nat.le_of_ble_eq_true rfl) ⟨Nat.zero_le _, Nat.zero_le _⟩ dX10_price_2 (fun r_1 I_1 R_1 J_1 H locs hp_1 hP hD hS _ _ => ?_)
  rcases hp_1 with ⟨rfl, hu_1, f0_1⟩ | ⟨rfl, hu_1⟩
  · cases hu_1
    refine lv_if_ne (tgt := 11) hx hb dX10_price_5 (by decide) (fun _ => ?_) (fun c_0 => absurd c_0 (zD_ne zk_1 zk_z (by decide)))
    refine lv_aload_n hx hb dX10_price_11 rfl (lv_at hl 0 rfl) ?_
    refine z_get hx hb ht hown hK hP ziX10 rfl 0 (by decide) 4 (by decide) hw_2_97 rfl (v := .ref (q 15)) rfl dX10_price_12 ?_
    refine lv_iload_n hx hb dX10_price_15 rfl (lv_at hl 1 rfl) ?_
    refine z_callVi (k := 15) (As := [.int (pa0)]) (rest := []) hx hb hml hown ht (xk_X9_isOpen_1 l D q cA F _ _ _ hI (pa0) f0_1) hw_3_115 hmX9_isOpen ⟨rfl, rfl⟩ (na := 1) rfl (by decide +kernel) (by decide) (by decide) rfl rfl hK hP hD hS hA hl.1 rfl (Nat.le_of_ble_eq_true rfl) ⟨Nat.zero_le _, Nat.zero_le _⟩ dX10_price_16 (fun r_2 I_2 R_2 J_2 H locs hp_2 hP hD hS _ _ => ?_)
    rcases hp_2 with ⟨rfl, hu_2⟩ | ⟨rfl, hu_2⟩
    · cases hu_2
      refine lv_if_eq (tgt := 33) hx hb dX10_price_19 (by decide) (fun c_0 => absurd c_0 (zD_ne zk_1 zk_z (by decide))) (fun _ => ?_)
      refine lv_aload_n hx hb dX10_price_22 rfl (lv_at hl 0 rfl) ?_
      refine z_get hx hb ht hown hK hP ziX10 rfl 0 (by decide) 4 (by decide) hw_2_97 rfl (v := .ref (q 15)) rfl dX10_price_23 ?_
      refine lv_iload_n hx hb dX10_price_26 rfl (lv_at hl 1 rfl) ?_
      refine z_callVi (k := 15) (As := [.int (pa0)]) (rest := []) hx hb hml hown ht (xk_X9_priceOf l D q cA F _ _ _ hI (pa0) f0_1) hw_3_116 hmX9_priceOf ⟨rfl, rfl⟩ (na := 1) rfl (by decide +kernel) (by decide) (by decide) rfl rfl hK hP hD hS hA hl.1 rfl (Nat.le_of_ble_eq_true rfl) ⟨Nat.zero_le _, Nat.zero_le _⟩ dX10_price_27 (fun r_3 I_3 R_3 J_3 H locs hp_3 hP hD hS _ _ => ?_)
      cases hp_3
      refine lv_goto (tgt := 34) hx hb dX10_price_30 (by decide) ?_
      exact z_iret (v := r_3) hx hb hr hlocks hP hD hS dX10_price_34 rfl
    · cases hu_2
      refine lv_if_eq (tgt := 33) hx hb dX10_price_19 (by decide) (fun _ => ?_) (fun c_0 => absurd (zD_eq zk_0 zk_z) c_0)
      refine lv_iconst (v := (-1)) hx hb dX10_price_33 (by decide +kernel) ?_
      exact z_iret (v := (-1)) hx hb hr hlocks hP hD hS dX10_price_34 rfl
  · cases hu_1
    refine lv_if_ne (tgt := 11) hx hb dX10_price_5 (by decide) (fun c_0 => absurd (zD_eq zk_0 zk_z) c_0) (fun _ => ?_)
    refine lv_bipush (v := (-2)) hx hb dX10_price_8 (by decide +kernel) ?_
    exact z_iret (v := (-2)) hx hb hr hlocks hP hD hS dX10_price_10 rfl
set_option maxHeartbeats 4000000 in
set_option maxRecDepth 100000 in
theorem xk_X9_worthOfAll (l : Launch) (D : va_G) (q : Nat → Nat) (cA : Nat → ClassId) (F : Nat → Nat → Int32) (I R : Nat → Nat → Int32) (J : Nat → Nat → Int64) (hI : xInv F (I, R, J)) (pa0 : Int32) : zMi l D vwCl (zXtys cA) 81 q (zXd q cA) yX9_worthOfAll cX9_worthOfAll 4 (some .int) ({ frames := 1, cells := 0, slots := 0, locals := 21 } : Room) [.ref (q 15), .int (pa0)] (I, R, J) (fun _ u => u = (I, R, J)) := by
  intro sz
  refine z_body (by decide +kernel) (Nat.le_of_ble_eq_true rfl) (fun p e s m below meth c ls hx hb hml hr ht hown hlocks hsz hK hP hD hS hl => ?_)
  have hA : ∀ a, s.heap.size ≤ a → zA 81 q sz a := fun a h => Or.inr (hsz ▸ h)
  have hl : lv_has ls 4 [(0, .ref (q 15)), (1, .int (pa0))] := hl
  refine lv_iconst (v := nI 0) hx hb dX9_worthOfAll_0 (by decide +kernel) ?_
  refine lv_istore_n (lv' := [(2, .int (nI 0)), (0, .ref (q 15)), (1, .int (pa0))]) hx hb dX9_worthOfAll_1 rfl hl (by decide) rfl (fun ls hl => ?_)
  refine lv_iconst (v := nI 0) hx hb dX9_worthOfAll_2 (by decide +kernel) ?_
  refine lv_istore_n (lv' := [(3, .int (nI 0)), (2, .int (nI 0)), (0, .ref (q 15)), (1, .int (pa0))]) hx hb dX9_worthOfAll_3 rfl hl (by decide) rfl (fun ls hl => ?_)
  have loop_60 : ∀ N : Nat, ∀ x_58 : Int32, ∀ x_59 : Int32, zR 0 24 x_59 → (2147483648 - (x_59).toInt).toNat < N → ∀ (H : Heap) (locs : List Loc), va_P D vwCl (zw 81 q (zXd q cA) I R J) H → va_D (zA 81 q sz) (zw 81 q (zXd q cA) I R J) → va_S (zA 81 q sz) s.heap H locs → ∀ ls : Array Slot, lv_has ls 4 [(0, .ref (q 15)), (1, .int (pa0)), (2, .int (x_58)), (3, .int (x_59))] → W p l e ({ frames := 1, cells := 0, slots := 0, locals := 21 } : Room) s m ([.ref (q 15), .int (pa0)] : List Value).toArray below meth c H locs 0 0 (MQ below (va_Qi (fun _ u => u = (I, R, J)) (zB D vwCl 81 q (zXd q cA) sz) (zA 81 q sz)) ([.ref (q 15), .int (pa0)] : List Value).toArray s 0 0 (zA 81 q sz)) (F0 m 4 ls []) := by
    intro N
    induction N with
    | zero => intro x_58 x_59 hx_59 hN; exact absurd hN (Nat.not_lt_zero _)
    | succ N ih_62 =>
      intro x_58 x_59 hx_59 hN_61 H locs hP hD hS ls hl
      refine lv_iload_n hx hb dX9_worthOfAll_4 rfl (lv_at hl 3 rfl) ?_
      refine lv_aload_n hx hb dX9_worthOfAll_5 rfl (lv_at hl 0 rfl) ?_
      refine z_get hx hb ht hown hK hP ziX9 rfl 15 (by decide) 2 (by decide) hw_1_159 rfl (v := .int (I 15 2)) rfl dX9_worthOfAll_6 ?_
      have f_63 : zR 0 24 (I 15 2) := xI hI 15 2
      refine lv_icmp_ge (tgt := 38) hx hb dX9_worthOfAll_9 (by decide) (fun c_64 => ?_) (fun c_64 => ?_)
      · have t_c_64 := z_leT c_64
        refine lv_iload_n hx hb dX9_worthOfAll_38 rfl (lv_at hl 2 rfl) ?_
        exact z_iret (v := x_58) hx hb hr hlocks hP hD hS dX9_worthOfAll_39 rfl
      · have t_c_64 := z_leF c_64
        have f_65 : zR 0 23 (x_59) := zR_ltx t_c_64 hx_59 f_63 (by decide)
        have f_66 : zR 1 24 (I 15 2) := zR_lty t_c_64 hx_59 f_63 (by decide)
        refine lv_iload_n hx hb dX9_worthOfAll_12 rfl (lv_at hl 2 rfl) ?_
        refine lv_iload_n hx hb dX9_worthOfAll_13 rfl (lv_at hl 1 rfl) ?_
        refine lv_iload_n hx hb dX9_worthOfAll_14 rfl (lv_at hl 3 rfl) ?_
        refine lv_ishr hx hb dX9_worthOfAll_15 ?_
        refine z_any (fun v_67 => ?_)
        refine lv_iconst (v := nI 1) hx hb dX9_worthOfAll_16 (by decide +kernel) ?_
        refine lv_iand hx hb dX9_worthOfAll_17 ?_
        refine z_rng (a := 0) (b := 1) (zR_andr zk_1 (by decide)) (fun v_68 hv_68 => ?_)
        have t_74 : ∀ x_73 : Int32, ∀ (H : Heap) (locs : List Loc), va_P D vwCl (zw 81 q (zXd q cA) I R J) H → va_D (zA 81 q sz) (zw 81 q (zXd q cA) I R J) → va_S (zA 81 q sz) s.heap H locs → ∀ ls : Array Slot, lv_has ls 4 [(0, .ref (q 15)), (1, .int (pa0)), (2, .int (x_58)), (3, .int (x_59))] → W p l e ({ frames := 1, cells := 0, slots := 0, locals := 21 } : Room) s m ([.ref (q 15), .int (pa0)] : List Value).toArray below meth c H locs 0 0 (MQ below (va_Qi (fun _ u => u = (I, R, J)) (zB D vwCl 81 q (zXd q cA) sz) (zA 81 q sz)) ([.ref (q 15), .int (pa0)] : List Value).toArray s 0 0 (zA 81 q sz)) (F0 m 30 ls [.int (x_73), .int (x_58)]) := by
          intro x_73 H locs hP hD hS ls hl
          refine lv_iadd hx hb dX9_worthOfAll_30 ?_
          refine z_any (fun v_75 => ?_)
          refine lv_istore_n (lv' := [(2, .int (v_75)), (0, .ref (q 15)), (1, .int (pa0)), (3, .int (x_59))]) hx hb dX9_worthOfAll_31 rfl hl (by decide) rfl (fun ls hl => ?_)
          obtain ⟨v_76, ev_76⟩ : ∃ y : Int32, y = x_59 + nI 1 := ⟨_, rfl⟩
          have hv_76 : zR 1 24 v_76 := ev_76 ▸ zR_add f_65 zk_1 (by decide)
          have mv_76 : v_76.toInt = (x_59).toInt + 1 := by rw [ev_76, zR_addE f_65 zk_1 (by decide)]; rfl
          refine lv_iinc (v := v_76) (lv' := [(3, .int (v_76)), (2, .int (v_75)), (0, .ref (q 15)), (1, .int (pa0))]) hx hb dX9_worthOfAll_32 hl (k := 3) rfl (ev_76 ▸ rfl) (by decide) rfl (fun ls hl => ?_)
          refine lv_goto (tgt := 4) hx hb dX9_worthOfAll_35 (by decide) ?_
          exact ih_62 (v_75) (v_76) (zR_w hv_76 (by decide)) (z2_up mv_76 (by decide) hN_61) _ _ hP hD hS _ (lv_sub hl [2, 3, 1, 0] rfl)
        refine lv_if_eq (tgt := 29) hx hb dX9_worthOfAll_18 (by decide) (fun c_69 => ?_) (fun c_69 => ?_)
        · have t_c_69 := z_eqT c_69
          have f_77 : zR 0 0 (v_68) := zR_eqx t_c_69 zk_z
          refine lv_iconst (v := nI 0) hx hb dX9_worthOfAll_29 (by decide +kernel) ?_
          exact t_74 (nI 0) _ _ hP hD hS _ (lv_sub hl [0, 1, 2, 3] rfl)
        · have t_c_69 := z_eqF c_69
          have f_78 : zR 1 1 (v_68) := zR_nex t_c_69 hv_68 zk_z (by decide)
          refine lv_aload_n hx hb dX9_worthOfAll_21 rfl (lv_at hl 0 rfl) ?_
          refine lv_iload_n hx hb dX9_worthOfAll_22 rfl (lv_at hl 3 rfl) ?_
          refine z_callVi (k := 15) (As := [.int (x_59)]) (rest := [.int (x_58)]) hx hb hml hown ht (xk_X9_worthOf l D q cA F _ _ _ hI (x_59) f_65) hw_3_120 hmX9_worthOf ⟨rfl, rfl⟩ (na := 1) rfl (by decide +kernel) (by decide) (by decide) rfl rfl hK hP hD hS hA hl.1 rfl (Nat.le_of_ble_eq_true rfl) ⟨Nat.zero_le _, Nat.zero_le _⟩ dX9_worthOfAll_23 (fun r_79 I_79 R_79 J_79 H locs hp_79 hP hD hS _ _ => ?_)
          cases hp_79
          refine lv_goto (tgt := 30) hx hb dX9_worthOfAll_26 (by decide) ?_
          exact t_74 (r_79) _ _ hP hD hS _ (lv_sub hl [0, 1, 2, 3] rfl)
  exact loop_60 _ (nI 0) (nI 0) (zR_w zk_0 (by decide)) (Nat.lt_succ_self _) _ _ hP hD hS _ (lv_sub hl [2, 3, 1, 0] rfl)
set_option maxHeartbeats 4000000 in
set_option maxRecDepth 100000 in
theorem xk_X9_netOf (l : Launch) (D : va_G) (q : Nat → Nat) (cA : Nat → ClassId) (F : Nat → Nat → Int32) (I R : Nat → Nat → Int32) (J : Nat → Nat → Int64) (hI : xInv F (I, R, J)) (pa0 : Int32) (hpa0 : zR 0 4 pa0) : zMi l D vwCl (zXtys cA) 81 q (zXd q cA) yX9_netOf cX9_netOf 4 (some .int) ({ frames := 2, cells := 0, slots := 0, locals := 44 } : Room) [.ref (q 15), .int (pa0)] (I, R, J) (fun _ u => u = (I, R, J)) := by
  intro sz
  refine z_body (by decide +kernel) (Nat.le_of_ble_eq_true rfl) (fun p e s m below meth c ls hx hb hml hr ht hown hlocks hsz hK hP hD hS hl => ?_)
  have hA : ∀ a, s.heap.size ≤ a → zA 81 q sz a := fun a h => Or.inr (hsz ▸ h)
  have hl : lv_has ls 4 [(0, .ref (q 15)), (1, .int (pa0))] := hl
  refine lv_aload_n hx hb dX9_netOf_0 rfl (lv_at hl 0 rfl) ?_
  refine z_get hx hb ht hown hK hP ziX9 rfl 15 (by decide) 4 (by decide) hw_1_164 rfl (v := .ref (q 16)) rfl dX9_netOf_1 ?_
  refine lv_iload_n hx hb dX9_netOf_4 rfl (lv_at hl 1 rfl) ?_
  refine z_iald hx hb hK hP 16 (by decide) 10 rfl rfl (zR_vin hpa0 (by decide)) dX9_netOf_5 ?_
  refine z_eqi (y := R 16 (pa0).toNatClampNeg) rfl ?_
  refine lv_aload_n hx hb dX9_netOf_6 rfl (lv_at hl 0 rfl) ?_
  refine lv_aload_n hx hb dX9_netOf_7 rfl (lv_at hl 0 rfl) ?_
  refine lv_iload_n hx hb dX9_netOf_8 rfl (lv_at hl 1 rfl) ?_
  refine z_callVi (k := 15) (As := [.int (pa0)]) (rest := [.ref (q 15), .int (R 16 (pa0).toNatClampNeg)]) hx hb hml hown ht (xk_X9_heldBy l D q cA F _ _ _ hI (pa0) hpa0) hw_3_132 hmX9_heldBy ⟨rfl, rfl⟩ (na := 1) rfl (by decide +kernel) (by decide) (by decide) rfl rfl hK hP hD hS hA hl.1 rfl (Nat.le_of_ble_eq_true rfl) ⟨Nat.zero_le _, Nat.zero_le _⟩ dX9_netOf_9 (fun r_1 I_1 R_1 J_1 H locs hp_1 hP hD hS _ _ => ?_)
  obtain ⟨hr_1, hu_1⟩ := hp_1
  cases hu_1
  refine z_callVi (k := 15) (As := [.int (r_1)]) (rest := [.int (R 16 (pa0).toNatClampNeg)]) hx hb hml hown ht (xk_X9_worthOfAll l D q cA F _ _ _ hI (r_1)) hw_3_133 hmX9_worthOfAll ⟨rfl, rfl⟩ (na := 1) rfl (by decide +kernel) (by decide) (by decide) rfl rfl hK hP hD hS hA hl.1 rfl (Nat.le_of_ble_eq_true rfl) ⟨Nat.zero_le _, Nat.zero_le _⟩ dX9_netOf_12 (fun r_2 I_2 R_2 J_2 H locs hp_2 hP hD hS _ _ => ?_)
  cases hp_2
  refine lv_iadd hx hb dX9_netOf_15 ?_
  refine z_any (fun v_3 => ?_)
  refine lv_aload_n hx hb dX9_netOf_16 rfl (lv_at hl 0 rfl) ?_
  refine lv_aload_n hx hb dX9_netOf_17 rfl (lv_at hl 0 rfl) ?_
  refine lv_iload_n hx hb dX9_netOf_18 rfl (lv_at hl 1 rfl) ?_
  refine z_callVi (k := 15) (As := [.int (pa0)]) (rest := [.ref (q 15), .int (v_3)]) hx hb hml hown ht (xk_X9_owedBy l D q cA F _ _ _ hI (pa0) hpa0) hw_3_137 hmX9_owedBy ⟨rfl, rfl⟩ (na := 1) rfl (by decide +kernel) (by decide) (by decide) rfl rfl hK hP hD hS hA hl.1 rfl (Nat.le_of_ble_eq_true rfl) ⟨Nat.zero_le _, Nat.zero_le _⟩ dX9_netOf_19 (fun r_4 I_4 R_4 J_4 H locs hp_4 hP hD hS _ _ => ?_)
  obtain ⟨hr_4, hu_4⟩ := hp_4
  cases hu_4
  refine z_callVi (k := 15) (As := [.int (r_4)]) (rest := [.int (v_3)]) hx hb hml hown ht (xk_X9_worthOfAll l D q cA F _ _ _ hI (r_4)) hw_3_133 hmX9_worthOfAll ⟨rfl, rfl⟩ (na := 1) rfl (by decide +kernel) (by decide) (by decide) rfl rfl hK hP hD hS hA hl.1 rfl (Nat.le_of_ble_eq_true rfl) ⟨Nat.zero_le _, Nat.zero_le _⟩ dX9_netOf_22 (fun r_5 I_5 R_5 J_5 H locs hp_5 hP hD hS _ _ => ?_)
  cases hp_5
  refine lv_isub hx hb dX9_netOf_25 ?_
  refine z_any (fun v_6 => ?_)
  refine lv_istore_n (lv' := [(2, .int (v_6)), (0, .ref (q 15)), (1, .int (pa0))]) hx hb dX9_netOf_26 rfl hl (by decide) rfl (fun ls hl => ?_)
  refine lv_iconst (v := nI 0) hx hb dX9_netOf_27 (by decide +kernel) ?_
  refine lv_istore_n (lv' := [(3, .int (nI 0)), (2, .int (v_6)), (0, .ref (q 15)), (1, .int (pa0))]) hx hb dX9_netOf_28 rfl hl (by decide) rfl (fun ls hl => ?_)
  have loop_54 : ∀ N : Nat, ∀ x_52 : Int32, ∀ x_53 : Int32, zR 0 6 x_53 → (2147483648 - (x_53).toInt).toNat < N → ∀ (H : Heap) (locs : List Loc), va_P D vwCl (zw 81 q (zXd q cA) I R J) H → va_D (zA 81 q sz) (zw 81 q (zXd q cA) I R J) → va_S (zA 81 q sz) s.heap H locs → ∀ ls : Array Slot, lv_has ls 4 [(0, .ref (q 15)), (1, .int (pa0)), (2, .int (x_52)), (3, .int (x_53))] → W p l e ({ frames := 2, cells := 0, slots := 0, locals := 44 } : Room) s m ([.ref (q 15), .int (pa0)] : List Value).toArray below meth c H locs 0 0 (MQ below (va_Qi (fun _ u => u = (I, R, J)) (zB D vwCl 81 q (zXd q cA) sz) (zA 81 q sz)) ([.ref (q 15), .int (pa0)] : List Value).toArray s 0 0 (zA 81 q sz)) (F0 m 29 ls []) := by
    intro N
    induction N with
    | zero => intro x_52 x_53 hx_53 hN; exact absurd hN (Nat.not_lt_zero _)
    | succ N ih_56 =>
      intro x_52 x_53 hx_53 hN_55 H locs hP hD hS ls hl
      refine lv_iload_n hx hb dX9_netOf_29 rfl (lv_at hl 3 rfl) ?_
      refine lv_aload_n hx hb dX9_netOf_30 rfl (lv_at hl 0 rfl) ?_
      refine z_get hx hb ht hown hK hP ziX9 rfl 15 (by decide) 0 (by decide) hw_1_154 rfl (v := .ref (q 3)) rfl dX9_netOf_31 ?_
      refine z_get hx hb ht hown hK hP ziX2 rfl 3 (by decide) 5 (by decide) hw_1_92 rfl (v := .int (I 3 5)) rfl dX9_netOf_34 ?_
      have f_57 : zR 0 6 (I 3 5) := xI hI 3 5
      refine lv_icmp_ge (tgt := 72) hx hb dX9_netOf_37 (by decide) (fun c_58 => ?_) (fun c_58 => ?_)
      · have t_c_58 := z_leT c_58
        refine lv_iload_n hx hb dX9_netOf_72 rfl (lv_at hl 2 rfl) ?_
        exact z_iret (v := x_52) hx hb hr hlocks hP hD hS dX9_netOf_73 rfl
      · have t_c_58 := z_leF c_58
        have f_59 : zR 0 5 (x_53) := zR_ltx t_c_58 hx_53 f_57 (by decide)
        have f_60 : zR 1 6 (I 3 5) := zR_lty t_c_58 hx_53 f_57 (by decide)
        refine lv_iload_n hx hb dX9_netOf_40 rfl (lv_at hl 2 rfl) ?_
        refine lv_aload_n hx hb dX9_netOf_41 rfl (lv_at hl 0 rfl) ?_
        refine z_get hx hb ht hown hK hP ziX9 rfl 15 (by decide) 5 (by decide) hw_1_166 rfl (v := .ref (q 17)) rfl dX9_netOf_42 ?_
        refine lv_iload_n hx hb dX9_netOf_45 rfl (lv_at hl 3 rfl) ?_
        refine z_iald hx hb hK hP 17 (by decide) 11 rfl rfl (zR_vin f_59 (by decide)) dX9_netOf_46 ?_
        refine z_eqi (y := R 17 (x_53).toNatClampNeg) rfl ?_
        have f_61 : zR 0 4 (R 17 (x_53).toNatClampNeg) := xR hI 17 (x_53).toNatClampNeg
        refine lv_iload_n hx hb dX9_netOf_47 rfl (lv_at hl 1 rfl) ?_
        have t_65 : ∀ x_64 : Int32, ∀ (H : Heap) (locs : List Loc), va_P D vwCl (zw 81 q (zXd q cA) I R J) H → va_D (zA 81 q sz) (zw 81 q (zXd q cA) I R J) → va_S (zA 81 q sz) s.heap H locs → ∀ ls : Array Slot, lv_has ls 4 [(0, .ref (q 15)), (1, .int (pa0)), (2, .int (x_52)), (3, .int (x_53))] → W p l e ({ frames := 2, cells := 0, slots := 0, locals := 44 } : Room) s m ([.ref (q 15), .int (pa0)] : List Value).toArray below meth c H locs 0 0 (MQ below (va_Qi (fun _ u => u = (I, R, J)) (zB D vwCl 81 q (zXd q cA) sz) (zA 81 q sz)) ([.ref (q 15), .int (pa0)] : List Value).toArray s 0 0 (zA 81 q sz)) (F0 m 64 ls [.int (x_64), .int (x_52)]) := by
          intro x_64 H locs hP hD hS ls hl
          refine lv_iadd hx hb dX9_netOf_64 ?_
          refine z_any (fun v_66 => ?_)
          refine lv_istore_n (lv' := [(2, .int (v_66)), (0, .ref (q 15)), (1, .int (pa0)), (3, .int (x_53))]) hx hb dX9_netOf_65 rfl hl (by decide) rfl (fun ls hl => ?_)
          obtain ⟨v_67, ev_67⟩ : ∃ y : Int32, y = x_53 + nI 1 := ⟨_, rfl⟩
          have hv_67 : zR 1 6 v_67 := ev_67 ▸ zR_add f_59 zk_1 (by decide)
          have mv_67 : v_67.toInt = (x_53).toInt + 1 := by rw [ev_67, zR_addE f_59 zk_1 (by decide)]; rfl
          refine lv_iinc (v := v_67) (lv' := [(3, .int (v_67)), (2, .int (v_66)), (0, .ref (q 15)), (1, .int (pa0))]) hx hb dX9_netOf_66 hl (k := 3) rfl (ev_67 ▸ rfl) (by decide) rfl (fun ls hl => ?_)
          refine lv_goto (tgt := 29) hx hb dX9_netOf_69 (by decide) ?_
          exact ih_56 (v_66) (v_67) (zR_w hv_67 (by decide)) (z2_up mv_67 (by decide) hN_55) _ _ hP hD hS _ (lv_sub hl [2, 3, 1, 0] rfl)
        refine lv_icmp_ne (tgt := 63) hx hb dX9_netOf_48 (by decide) (fun c_62 => ?_) (fun c_62 => ?_)
        · have t_c_62 := z_eqF c_62
          refine lv_iconst (v := nI 0) hx hb dX9_netOf_63 (by decide +kernel) ?_
          exact t_65 (nI 0) _ _ hP hD hS _ (lv_sub hl [0, 1, 2, 3] rfl)
        · have t_c_62 := z_eqT c_62
          refine lv_aload_n hx hb dX9_netOf_51 rfl (lv_at hl 0 rfl) ?_
          refine z_get hx hb ht hown hK hP ziX9 rfl 15 (by decide) 0 (by decide) hw_1_154 rfl (v := .ref (q 3)) rfl dX9_netOf_52 ?_
          refine lv_iload_n hx hb dX9_netOf_55 rfl (lv_at hl 1 rfl) ?_
          refine lv_iload_n hx hb dX9_netOf_56 rfl (lv_at hl 3 rfl) ?_
          refine z_callVi (k := 3) (As := [.int (pa0), .int (x_53)]) (rest := [.int (x_52)]) hx hb hml hown ht (xk_X2_valueTo l D q cA F _ _ _ hI (pa0) hpa0 (x_53) f_59) hw_3_138 hmX2_valueTo ⟨rfl, rfl⟩ (na := 2) rfl (by decide +kernel) (by decide) (by decide) rfl rfl hK hP hD hS hA hl.1 rfl (Nat.le_of_ble_eq_true rfl) ⟨Nat.zero_le _, Nat.zero_le _⟩ dX9_netOf_57 (fun r_68 I_68 R_68 J_68 H locs hp_68 hP hD hS _ _ => ?_)
          cases hp_68
          refine lv_goto (tgt := 64) hx hb dX9_netOf_60 (by decide) ?_
          exact t_65 (r_68) _ _ hP hD hS _ (lv_sub hl [0, 1, 2, 3] rfl)
  exact loop_54 _ (v_6) (nI 0) (zR_w zk_0 (by decide)) (Nat.lt_succ_self _) _ _ hP hD hS _ (lv_sub hl [2, 3, 1, 0] rfl)
set_option maxHeartbeats 4000000 in
set_option maxRecDepth 100000 in
theorem xk_X10_net (l : Launch) (D : va_G) (q : Nat → Nat) (cA : Nat → ClassId) (F : Nat → Nat → Int32) (I R : Nat → Nat → Int32) (J : Nat → Nat → Int64) (hI : xInv F (I, R, J)) (pa0 : Int32) : zMi l D vwCl (zXtys cA) 81 q (zXd q cA) yX10_net cX10_net 2 (some .int) ({ frames := 3, cells := 0, slots := 0, locals := 67 } : Room) [.ref (q 0), .int (pa0)] (I, R, J) (fun _ u => u = (I, R, J)) := by
  intro sz
  refine z_body (by decide +kernel) (Nat.le_of_ble_eq_true rfl) (fun p e s m below meth c ls hx hb hml hr ht hown hlocks hsz hK hP hD hS hl => ?_)
  have hA : ∀ a, s.heap.size ≤ a → zA 81 q sz a := fun a h => Or.inr (hsz ▸ h)
  have hl : lv_has ls 2 [(0, .ref (q 0)), (1, .int (pa0))] := hl
  refine lv_aload_n hx hb dX10_net_0 rfl (lv_at hl 0 rfl) ?_
  refine lv_iload_n hx hb dX10_net_1 rfl (lv_at hl 1 rfl) ?_
  refine z_callVi (k := 0) (As := [.int (pa0)]) (rest := []) hx hb hml hown ht (xk_X10_isHouse l D q cA F _ _ _ hI (pa0)) hw_3_59 hmX10_isHouse ⟨rfl, rfl⟩ (na := 1) rfl (by decide +kernel) (by decide) (by decide) rfl rfl hK hP hD hS hA hl.1 rfl (Nat.le_of_ble_eq_true rfl) ⟨Nat.zero_le _, Nat.zero_le _⟩ dX10_net_2 (fun r_1 I_1 R_1 J_1 H locs hp_1 hP hD hS _ _ => ?_)
  rcases hp_1 with ⟨rfl, hu_1, f0_1⟩ | ⟨rfl, hu_1⟩
  · cases hu_1
    refine lv_if_eq (tgt := 19) hx hb dX10_net_5 (by decide) (fun c_0 => absurd c_0 (zD_ne zk_1 zk_z (by decide))) (fun _ => ?_)
    refine lv_aload_n hx hb dX10_net_8 rfl (lv_at hl 0 rfl) ?_
    refine z_get hx hb ht hown hK hP ziX10 rfl 0 (by decide) 4 (by decide) hw_2_97 rfl (v := .ref (q 15)) rfl dX10_net_9 ?_
    refine lv_iload_n hx hb dX10_net_12 rfl (lv_at hl 1 rfl) ?_
    refine z_callVi (k := 15) (As := [.int (pa0)]) (rest := []) hx hb hml hown ht (xk_X9_netOf l D q cA F _ _ _ hI (pa0) f0_1) hw_3_128 hmX9_netOf ⟨rfl, rfl⟩ (na := 1) rfl (by decide +kernel) (by decide) (by decide) rfl rfl hK hP hD hS hA hl.1 rfl (Nat.le_of_ble_eq_true rfl) ⟨Nat.zero_le _, Nat.zero_le _⟩ dX10_net_13 (fun r_2 I_2 R_2 J_2 H locs hp_2 hP hD hS _ _ => ?_)
    cases hp_2
    refine lv_goto (tgt := 21) hx hb dX10_net_16 (by decide) ?_
    exact z_iret (v := r_2) hx hb hr hlocks hP hD hS dX10_net_21 rfl
  · cases hu_1
    refine lv_if_eq (tgt := 19) hx hb dX10_net_5 (by decide) (fun _ => ?_) (fun c_0 => absurd (zD_eq zk_0 zk_z) c_0)
    refine lv_ldc (v := (-100000)) hx hb hown (ht _ hw_3_139) dX10_net_19 ?_
    exact z_iret (v := (-100000)) hx hb hr hlocks hP hD hS dX10_net_21 rfl
set_option maxHeartbeats 4000000 in
set_option maxRecDepth 100000 in
theorem xk_X10_isFull (l : Launch) (D : va_G) (q : Nat → Nat) (cA : Nat → ClassId) (F : Nat → Nat → Int32) (I R : Nat → Nat → Int32) (J : Nat → Nat → Int64) (hI : xInv F (I, R, J))  : zMi l D vwCl (zXtys cA) 81 q (zXd q cA) yX10_isFull cX10_isFull 1 (some .boolean) ({ frames := 0, cells := 0, slots := 0, locals := 0 } : Room) [.ref (q 0)] (I, R, J) (fun r u => (r = nI 1 ∧ u = (I, R, J)) ∨ (r = nI 0 ∧ u = (I, R, J))) := by
  intro sz
  refine z_body (by decide +kernel) (Nat.le_of_ble_eq_true rfl) (fun p e s m below meth c ls hx hb hml hr ht hown hlocks hsz hK hP hD hS hl => ?_)
  have hA : ∀ a, s.heap.size ≤ a → zA 81 q sz a := fun a h => Or.inr (hsz ▸ h)
  have hl : lv_has ls 1 [(0, .ref (q 0))] := hl
  refine lv_aload_n hx hb dX10_isFull_0 rfl (lv_at hl 0 rfl) ?_
  refine z_get hx hb ht hown hK hP ziX10 rfl 0 (by decide) 3 (by decide) hw_2_96 rfl (v := .ref (q 13)) rfl dX10_isFull_1 ?_
  refine z_get hx hb ht hown hK hP ziX0 rfl 13 (by decide) 0 (by decide) hw_1_141 rfl (v := .int (I 13 0)) rfl dX10_isFull_4 ?_
  have f_1 : zR 0 60 (I 13 0) := xI hI 13 0
  refine lv_bipush (v := nI 60) hx hb dX10_isFull_7 (by decide +kernel) ?_
  refine lv_icmp_lt (tgt := 16) hx hb dX10_isFull_9 (by decide) (fun c_2 => ?_) (fun c_2 => ?_)
  · have t_c_2 := z_ltT c_2
    have f_3 : zR 0 59 (I 13 0) := zR_ltx t_c_2 f_1 zk_60 (by decide)
    refine lv_iconst (v := nI 0) hx hb dX10_isFull_16 (by decide +kernel) ?_
    exact z_zret (v := nI 0) hx hb hr hlocks hP hD hS (by decide +kernel) dX10_isFull_17 (Or.inr ⟨rfl, rfl⟩)
  · have t_c_2 := z_ltF c_2
    have f_4 : zR 60 60 (I 13 0) := zR_ley t_c_2 zk_60 f_1 (by decide)
    refine lv_iconst (v := nI 1) hx hb dX10_isFull_12 (by decide +kernel) ?_
    refine lv_goto (tgt := 17) hx hb dX10_isFull_13 (by decide) ?_
    exact z_zret (v := nI 1) hx hb hr hlocks hP hD hS (by decide +kernel) dX10_isFull_17 (Or.inl ⟨rfl, rfl⟩)
set_option maxHeartbeats 4000000 in
set_option maxRecDepth 100000 in
theorem xk_X9_maySteal (l : Launch) (D : va_G) (q : Nat → Nat) (cA : Nat → ClassId) (F : Nat → Nat → Int32) (I R : Nat → Nat → Int32) (J : Nat → Nat → Int64) (hI : xInv F (I, R, J)) (pa0 : Int32) (hpa0 : zR 0 4 pa0) (pa1 : Int32) (hpa1 : zR 0 5 pa1) : zMi l D vwCl (zXtys cA) 81 q (zXd q cA) yX9_maySteal cX9_maySteal 4 (some .boolean) ({ frames := 1, cells := 0, slots := 0, locals := 21 } : Room) [.ref (q 15), .int (pa0), .int (pa1)] (I, R, J) (fun r u => (r = nI 1 ∧ u = (I, R, J)) ∨ (r = nI 0 ∧ u = (I, R, J))) := by
  intro sz
  refine z_body (by decide +kernel) (Nat.le_of_ble_eq_true rfl) (fun p e s m below meth c ls hx hb hml hr ht hown hlocks hsz hK hP hD hS hl => ?_)
  have hA : ∀ a, s.heap.size ≤ a → zA 81 q sz a := fun a h => Or.inr (hsz ▸ h)
  have hl : lv_has ls 4 [(0, .ref (q 15)), (1, .int (pa0)), (2, .int (pa1))] := hl
  refine lv_aload_n hx hb dX9_maySteal_0 rfl (lv_at hl 0 rfl) ?_
  refine z_get hx hb ht hown hK hP ziX9 rfl 15 (by decide) 5 (by decide) hw_1_166 rfl (v := .ref (q 17)) rfl dX9_maySteal_1 ?_
  refine lv_iload_n hx hb dX9_maySteal_4 rfl (lv_at hl 2 rfl) ?_
  refine z_iald hx hb hK hP 17 (by decide) 11 rfl rfl (zR_vin hpa1 (by decide)) dX9_maySteal_5 ?_
  refine z_eqi (y := R 17 (pa1).toNatClampNeg) rfl ?_
  have f_1 : zR 0 4 (R 17 (pa1).toNatClampNeg) := xR hI 17 (pa1).toNatClampNeg
  refine lv_istore_n (lv' := [(3, .int (R 17 (pa1).toNatClampNeg)), (0, .ref (q 15)), (1, .int (pa0)), (2, .int (pa1))]) hx hb dX9_maySteal_6 rfl hl (by decide) rfl (fun ls hl => ?_)
  refine lv_iload_n hx hb dX9_maySteal_7 rfl (lv_at hl 0 rfl) ?_
  refine lv_iload_n hx hb dX9_maySteal_8 rfl (lv_at hl 2 rfl) ?_
  refine lv_icmp_eq (tgt := 33) hx hb dX9_maySteal_9 (by decide) (fun c_2 => ?_) (fun c_2 => ?_)
  · have t_c_2 := z_eqT c_2
    refine lv_iconst (v := nI 0) hx hb dX9_maySteal_33 (by decide +kernel) ?_
    exact z_zret (v := nI 0) hx hb hr hlocks hP hD hS (by decide +kernel) dX9_maySteal_34 (Or.inr ⟨rfl, rfl⟩)
  · have t_c_2 := z_eqF c_2
    refine lv_aload_n hx hb dX9_maySteal_12 rfl (lv_at hl 1 rfl) ?_
    refine lv_iload_n hx hb dX9_maySteal_13 rfl (lv_at hl 0 rfl) ?_
    refine z_callVi (k := 15) (As := [.int (R 17 (pa1).toNatClampNeg)]) (rest := []) hx hb hml hown ht (xk_X9_isLocked l D q cA F _ _ _ hI (R 17 (pa1).toNatClampNeg) f_1) hw_3_152 hmX9_isLocked ⟨rfl, rfl⟩ (na := 1) rfl (by decide +kernel) (by decide) (by decide) rfl rfl hK hP hD hS hA hl.1 rfl (Nat.le_of_ble_eq_true rfl) ⟨Nat.zero_le _, Nat.zero_le _⟩ dX9_maySteal_14 (fun r_3 I_3 R_3 J_3 H locs hp_3 hP hD hS _ _ => ?_)
    rcases hp_3 with ⟨rfl, hu_3⟩ | ⟨rfl, hu_3⟩
    · cases hu_3
      refine lv_if_ne (tgt := 33) hx hb dX9_maySteal_17 (by decide) (fun _ => ?_) (fun c_0 => absurd c_0 (zD_ne zk_1 zk_z (by decide)))
      refine lv_iconst (v := nI 0) hx hb dX9_maySteal_33 (by decide +kernel) ?_
      exact z_zret (v := nI 0) hx hb hr hlocks hP hD hS (by decide +kernel) dX9_maySteal_34 (Or.inr ⟨rfl, rfl⟩)
    · cases hu_3
      refine lv_if_ne (tgt := 33) hx hb dX9_maySteal_17 (by decide) (fun c_0 => absurd (zD_eq zk_0 zk_z) c_0) (fun _ => ?_)
      refine lv_aload_n hx hb dX9_maySteal_20 rfl (lv_at hl 1 rfl) ?_
      refine z_get hx hb ht hown hK hP ziX9 rfl 15 (by decide) 2 (by decide) hw_1_159 rfl (v := .int (I 15 2)) rfl dX9_maySteal_21 ?_
      have f_4 : zR 0 24 (I 15 2) := xI hI 15 2
      refine lv_bipush (v := nI 24) hx hb dX9_maySteal_24 (by decide +kernel) ?_
      refine lv_icmp_ge (tgt := 33) hx hb dX9_maySteal_26 (by decide) (fun c_5 => ?_) (fun c_5 => ?_)
      · have t_c_5 := z_leT c_5
        have f_6 : zR 24 24 (I 15 2) := zR_ley t_c_5 zk_24 f_4 (by decide)
        refine lv_iconst (v := nI 0) hx hb dX9_maySteal_33 (by decide +kernel) ?_
        exact z_zret (v := nI 0) hx hb hr hlocks hP hD hS (by decide +kernel) dX9_maySteal_34 (Or.inr ⟨rfl, rfl⟩)
      · have t_c_5 := z_leF c_5
        have f_7 : zR 0 23 (I 15 2) := zR_ltx t_c_5 f_4 zk_24 (by decide)
        refine lv_iconst (v := nI 1) hx hb dX9_maySteal_29 (by decide +kernel) ?_
        refine lv_goto (tgt := 34) hx hb dX9_maySteal_30 (by decide) ?_
        exact z_zret (v := nI 1) hx hb hr hlocks hP hD hS (by decide +kernel) dX9_maySteal_34 (Or.inl ⟨rfl, rfl⟩)
set_option maxHeartbeats 4000000 in
set_option maxRecDepth 100000 in
theorem xk_X0_add (l : Launch) (D : va_G) (q : Nat → Nat) (cA : Nat → ClassId) (F : Nat → Nat → Int32) (I R : Nat → Nat → Int32) (J : Nat → Nat → Int64) (hI : xInv F (I, R, J)) (pa0 : Int32) (pa1 : Int32) (pa2 : Int32) (pa3 : Int32) (hrec : xRec (pa0) (pa1) (pa2)) : zMv l D vwCl (zXtys cA) 81 q (zXd q cA) yX0_add cX0_add 6 none ({ frames := 0, cells := 0, slots := 0, locals := 0 } : Room) [.ref (q 13), .int (pa0), .int (pa1), .int (pa2), .int (pa3)] (I, R, J) (fun u => xInv F u) := by
  intro sz
  refine z_body (by decide +kernel) (Nat.le_of_ble_eq_true rfl) (fun p e s m below meth c ls hx hb hml hr ht hown hlocks hsz hK hP hD hS hl => ?_)
  have hA : ∀ a, s.heap.size ≤ a → zA 81 q sz a := fun a h => Or.inr (hsz ▸ h)
  have hl : lv_has ls 6 [(0, .ref (q 13)), (1, .int (pa0)), (2, .int (pa1)), (3, .int (pa2)), (4, .int (pa3))] := hl
  refine lv_aload_n hx hb dX0_add_0 rfl (lv_at hl 0 rfl) ?_
  refine z_get hx hb ht hown hK hP ziX0 rfl 13 (by decide) 0 (by decide) hw_1_140 rfl (v := .int (I 13 0)) rfl dX0_add_1 ?_
  have f_1 : zR 0 60 (I 13 0) := xI hI 13 0
  refine lv_bipush (v := nI 60) hx hb dX0_add_4 (by decide +kernel) ?_
  refine lv_icmp_lt (tgt := 10) hx hb dX0_add_6 (by decide) (fun c_2 => ?_) (fun c_2 => ?_)
  · have t_c_2 := z_ltT c_2
    have f_3 : zR 0 59 (I 13 0) := zR_ltx t_c_2 f_1 zk_60 (by decide)
    refine lv_aload_n hx hb dX0_add_10 rfl (lv_at hl 0 rfl) ?_
    refine z_get hx hb ht hown hK hP ziX0 rfl 13 (by decide) 0 (by decide) hw_1_140 rfl (v := .int (I 13 0)) rfl dX0_add_11 ?_
    refine lv_iconst (v := nI 4) hx hb dX0_add_14 (by decide +kernel) ?_
    refine lv_imul hx hb dX0_add_15 ?_
    refine lv_topi (fun v_4 ev_4 => ?_)
    have hv_4 : zR 0 236 v_4 := ev_4 ▸ zR_mul f_3 zk_4 (by decide)
    refine lv_istore (lv' := [(5, .int (v_4)), (0, .ref (q 13)), (1, .int (pa0)), (2, .int (pa1)), (3, .int (pa2)), (4, .int (pa3))]) hx hb dX0_add_16 hl (by decide) rfl (fun ls hl => ?_)
    refine lv_aload_n hx hb dX0_add_18 rfl (lv_at hl 1 rfl) ?_
    refine z_get hx hb ht hown hK hP ziX0 rfl 13 (by decide) 1 (by decide) hw_1_142 rfl (v := .ref (q 14)) rfl dX0_add_19 ?_
    refine lv_iload hx hb dX0_add_22 (lv_at hl 0 rfl) ?_
    refine lv_iload_n hx hb dX0_add_24 rfl (lv_at hl 2 rfl) ?_
    refine z_iast hx hb hK hP hD hS 14 (by decide) 9 (fun _ => rfl) rfl (zR_vin hv_4 (by decide)) dX0_add_25 (fun H locs hP hD hS => ?_)
    refine lv_aload_n hx hb dX0_add_26 rfl (lv_at hl 1 rfl) ?_
    refine z_get hx hb ht hown hK hP ziX0 rfl 13 (by decide) 1 (by decide) hw_1_142 rfl (v := .ref (q 14)) rfl dX0_add_27 ?_
    refine lv_iload hx hb dX0_add_30 (lv_at hl 0 rfl) ?_
    refine lv_iconst (v := nI 1) hx hb dX0_add_32 (by decide +kernel) ?_
    refine lv_iadd hx hb dX0_add_33 ?_
    refine z_addc 1 237 hv_4 zk_1 (by decide) (fun v_5 hv_5 mv_5 => ?_)
    refine lv_iload_n hx hb dX0_add_34 rfl (lv_at hl 3 rfl) ?_
    refine z_iast hx hb hK hP hD hS 14 (by decide) 9 (fun _ => rfl) rfl (zR_vin hv_5 (by decide)) dX0_add_35 (fun H locs hP hD hS => ?_)
    refine lv_aload_n hx hb dX0_add_36 rfl (lv_at hl 1 rfl) ?_
    refine z_get hx hb ht hown hK hP ziX0 rfl 13 (by decide) 1 (by decide) hw_1_142 rfl (v := .ref (q 14)) rfl dX0_add_37 ?_
    refine lv_iload hx hb dX0_add_40 (lv_at hl 0 rfl) ?_
    refine lv_iconst (v := nI 2) hx hb dX0_add_42 (by decide +kernel) ?_
    refine lv_iadd hx hb dX0_add_43 ?_
    refine z_addc 2 238 hv_4 zk_2 (by decide) (fun v_6 hv_6 mv_6 => ?_)
    refine lv_iload_n hx hb dX0_add_44 rfl (lv_at hl 4 rfl) ?_
    refine z_iast hx hb hK hP hD hS 14 (by decide) 9 (fun _ => rfl) rfl (zR_vin hv_6 (by decide)) dX0_add_45 (fun H locs hP hD hS => ?_)
    refine lv_aload_n hx hb dX0_add_46 rfl (lv_at hl 1 rfl) ?_
    refine z_get hx hb ht hown hK hP ziX0 rfl 13 (by decide) 1 (by decide) hw_1_142 rfl (v := .ref (q 14)) rfl dX0_add_47 ?_
    refine lv_iload hx hb dX0_add_50 (lv_at hl 0 rfl) ?_
    refine lv_iconst (v := nI 3) hx hb dX0_add_52 (by decide +kernel) ?_
    refine lv_iadd hx hb dX0_add_53 ?_
    refine z_addc 3 239 hv_4 zk_3 (by decide) (fun v_7 hv_7 mv_7 => ?_)
    refine lv_iload hx hb dX0_add_54 (lv_at hl 5 rfl) ?_
    refine z_iast hx hb hK hP hD hS 14 (by decide) 9 (fun _ => rfl) rfl (zR_vin hv_7 (by decide)) dX0_add_56 (fun H locs hP hD hS => ?_)
    have hI_8 := xInv_add hI (d := pa3) f_3 ev_4 mv_5 mv_6 mv_7 hrec
    refine lv_aload_n hx hb dX0_add_57 rfl (lv_at hl 1 rfl) ?_
    refine lv_dup hx hb dX0_add_58 rfl ?_
    refine z_get hx hb ht hown hK hP ziX0 rfl 13 (by decide) 0 (by decide) hw_1_140 rfl (v := .int (I 13 0)) rfl dX0_add_59 ?_
    refine lv_iconst (v := nI 1) hx hb dX0_add_62 (by decide +kernel) ?_
    refine lv_iadd hx hb dX0_add_63 ?_
    refine z_addc 1 60 f_3 zk_1 (by decide) (fun v_9 hv_9 mv_9 => ?_)
    refine z_putI hx hb ht hown hK hP hD hS ziX0 tyX0 tyX0_ok nmX0 rfl 13 (by decide) 0 (by decide) hw_1_140 rfl (v := v_9) rfl rfl rfl (Nat.le_of_ble_eq_true rfl) rfl dX0_add_64 (fun H locs hP hD hS => ?_)
    have hI_10 := xInv_I hI_8 13 0 (v_9) (zR_w hv_9 (by decide)) rfl
    exact z_vret hx hb hr hlocks hP hD hS dX0_add_67 hI_10
  · have t_c_2 := z_ltF c_2
    have f_11 : zR 60 60 (I 13 0) := zR_ley t_c_2 zk_60 f_1 (by decide)
    exact z_vret hx hb hr hlocks hP hD hS dX0_add_9 hI
set_option maxHeartbeats 4000000 in
set_option maxRecDepth 100000 in
theorem xk_X9_move (l : Launch) (D : va_G) (q : Nat → Nat) (cA : Nat → ClassId) (F : Nat → Nat → Int32) (I R : Nat → Nat → Int32) (J : Nat → Nat → Int64) (hI : xInv F (I, R, J)) (pa0 : Int32) (hpa0 : zR 0 5 pa0) (pa1 : Int32) (hpa1 : zR 0 4 pa1) : zMv l D vwCl (zXtys cA) 81 q (zXd q cA) yX9_move cX9_move 3 none ({ frames := 0, cells := 0, slots := 0, locals := 0 } : Room) [.ref (q 15), .int (pa0), .int (pa1)] (I, R, J) (fun u => xInv F u) := by
  intro sz
  refine z_body (by decide +kernel) (Nat.le_of_ble_eq_true rfl) (fun p e s m below meth c ls hx hb hml hr ht hown hlocks hsz hK hP hD hS hl => ?_)
  have hA : ∀ a, s.heap.size ≤ a → zA 81 q sz a := fun a h => Or.inr (hsz ▸ h)
  have hl : lv_has ls 3 [(0, .ref (q 15)), (1, .int (pa0)), (2, .int (pa1))] := hl
  refine lv_aload_n hx hb dX9_move_0 rfl (lv_at hl 0 rfl) ?_
  refine z_get hx hb ht hown hK hP ziX9 rfl 15 (by decide) 5 (by decide) hw_1_166 rfl (v := .ref (q 17)) rfl dX9_move_1 ?_
  refine lv_iload_n hx hb dX9_move_4 rfl (lv_at hl 1 rfl) ?_
  refine z_iald hx hb hK hP 17 (by decide) 11 rfl rfl (zR_vin hpa0 (by decide)) dX9_move_5 ?_
  refine z_eqi (y := R 17 (pa0).toNatClampNeg) rfl ?_
  have f_1 : zR 0 4 (R 17 (pa0).toNatClampNeg) := xR hI 17 (pa0).toNatClampNeg
  refine lv_iload_n hx hb dX9_move_6 rfl (lv_at hl 2 rfl) ?_
  refine lv_icmp_eq (tgt := 21) hx hb dX9_move_7 (by decide) (fun c_2 => ?_) (fun c_2 => ?_)
  · have t_c_2 := z_eqT c_2
    exact z_vret hx hb hr hlocks hP hD hS dX9_move_21 hI
  · have t_c_2 := z_eqF c_2
    refine lv_aload_n hx hb dX9_move_10 rfl (lv_at hl 0 rfl) ?_
    refine z_get hx hb ht hown hK hP ziX9 rfl 15 (by decide) 6 (by decide) hw_1_169 rfl (v := .ref (q 18)) rfl dX9_move_11 ?_
    refine lv_iload_n hx hb dX9_move_14 rfl (lv_at hl 1 rfl) ?_
    refine z_iald hx hb hK hP 18 (by decide) 12 rfl rfl (zR_vin hpa0 (by decide)) dX9_move_15 ?_
    refine z_eqi (y := R 18 (pa0).toNatClampNeg) rfl ?_
    have f_3 : zR 0 48 (R 18 (pa0).toNatClampNeg) := xR hI 18 (pa0).toNatClampNeg
    refine lv_bipush (v := nI 48) hx hb dX9_move_16 (by decide +kernel) ?_
    refine lv_icmp_lt (tgt := 22) hx hb dX9_move_18 (by decide) (fun c_4 => ?_) (fun c_4 => ?_)
    · have t_c_4 := z_ltT c_4
      have f_5 : zR 0 47 (R 18 (pa0).toNatClampNeg) := zR_ltx t_c_4 f_3 zk_48 (by decide)
      refine lv_aload_n hx hb dX9_move_22 rfl (lv_at hl 0 rfl) ?_
      refine z_get hx hb ht hown hK hP ziX9 rfl 15 (by decide) 5 (by decide) hw_1_166 rfl (v := .ref (q 17)) rfl dX9_move_23 ?_
      refine lv_iload_n hx hb dX9_move_26 rfl (lv_at hl 1 rfl) ?_
      refine lv_iload_n hx hb dX9_move_27 rfl (lv_at hl 2 rfl) ?_
      refine z_iast hx hb hK hP hD hS 17 (by decide) 11 (fun _ => rfl) rfl (zR_vin hpa0 (by decide)) dX9_move_28 (fun H locs hP hD hS => ?_)
      have hI_6 := xInv_R hI 17 (pa0).toNatClampNeg (pa1) hpa1 rfl
      refine lv_aload_n hx hb dX9_move_29 rfl (lv_at hl 0 rfl) ?_
      refine z_get hx hb ht hown hK hP ziX9 rfl 15 (by decide) 6 (by decide) hw_1_169 rfl (v := .ref (q 18)) rfl dX9_move_30 ?_
      refine lv_iload_n hx hb dX9_move_33 rfl (lv_at hl 1 rfl) ?_
      refine lv_dup2_11 hx hb dX9_move_34 rfl rfl ?_
      refine z_iald hx hb hK hP 18 (by decide) 12 rfl rfl (zR_vin hpa0 (by decide)) dX9_move_35 ?_
      refine z_eqi (y := R 18 (pa0).toNatClampNeg) rfl ?_
      refine lv_iconst (v := nI 1) hx hb dX9_move_36 (by decide +kernel) ?_
      refine lv_iadd hx hb dX9_move_37 ?_
      refine z_addc 1 48 f_5 zk_1 (by decide) (fun v_7 hv_7 mv_7 => ?_)
      refine z_iast hx hb hK hP hD hS 18 (by decide) 12 (fun _ => rfl) rfl (zR_vin hpa0 (by decide)) dX9_move_38 (fun H locs hP hD hS => ?_)
      have hI_8 := xInv_R hI_6 18 (pa0).toNatClampNeg (v_7) (show zR 0 48 (v_7) from zR_w hv_7 (by decide)) rfl
      refine lv_aload_n hx hb dX9_move_39 rfl (lv_at hl 0 rfl) ?_
      refine z_get hx hb ht hown hK hP ziX9 rfl 15 (by decide) 12 (by decide) hw_1_187 rfl (v := .ref (q 24)) rfl dX9_move_40 ?_
      refine lv_iload_n hx hb dX9_move_43 rfl (lv_at hl 1 rfl) ?_
      refine lv_bipush (v := nI 49) hx hb dX9_move_44 (by decide +kernel) ?_
      refine lv_imul hx hb dX9_move_46 ?_
      refine z_rng (a := 0) (b := 245) (zR_mul hpa0 zk_49 (by decide)) (fun v_9 hv_9 => ?_)
      refine lv_aload_n hx hb dX9_move_47 rfl (lv_at hl 0 rfl) ?_
      refine z_get hx hb ht hown hK hP ziX9 rfl 15 (by decide) 6 (by decide) hw_1_169 rfl (v := .ref (q 18)) rfl dX9_move_48 ?_
      refine lv_iload_n hx hb dX9_move_51 rfl (lv_at hl 1 rfl) ?_
      refine z_iald hx hb hK hP 18 (by decide) 12 rfl rfl (zR_vin hpa0 (by decide)) dX9_move_52 ?_
      refine z_rng (a := 0) (b := 48) (xR hI_8 18 (pa0).toNatClampNeg) (fun v_10 hv_10 => ?_)
      refine lv_iadd hx hb dX9_move_53 ?_
      refine z_rng (a := 0) (b := 293) (zR_add hv_9 hv_10 (by decide)) (fun v_11 hv_11 => ?_)
      refine lv_iload_n hx hb dX9_move_54 rfl (lv_at hl 2 rfl) ?_
      refine z_iast hx hb hK hP hD hS 24 (by decide) 18 (fun _ => rfl) rfl (zR_vin hv_11 (by decide)) dX9_move_55 (fun H locs hP hD hS => ?_)
      have hI_12 := xInv_R hI_8 24 (v_11).toNatClampNeg (pa1) (zR_any _) rfl
      exact z_vret hx hb hr hlocks hP hD hS dX9_move_56 hI_12
    · have t_c_4 := z_ltF c_4
      have f_13 : zR 48 48 (R 18 (pa0).toNatClampNeg) := zR_ley t_c_4 zk_48 f_3 (by decide)
      exact z_vret hx hb hr hlocks hP hD hS dX9_move_21 hI
set_option maxHeartbeats 4000000 in
set_option maxRecDepth 100000 in
theorem xk_X9_take (l : Launch) (D : va_G) (q : Nat → Nat) (cA : Nat → ClassId) (F : Nat → Nat → Int32) (I R : Nat → Nat → Int32) (J : Nat → Nat → Int64) (hI : xInv F (I, R, J)) (pa0 : Int32) (hpa0 : zR 0 4 pa0) (pa1 : Int32) (hpa1 : zR 0 5 pa1) (pa2 : Int32) (hpa2 : zR 0 60 pa2) : zMi l D vwCl (zXtys cA) 81 q (zXd q cA) yX9_take cX9_take 5 (some .int) ({ frames := 1, cells := 0, slots := 0, locals := 22 } : Room) [.ref (q 15), .int (pa0), .int (pa1), .int (pa2)] (I, R, J) (fun r u => zR (-5) 23 r ∧ xInv F u) := by
  intro sz
  refine z_body (by decide +kernel) (Nat.le_of_ble_eq_true rfl) (fun p e s m below meth c ls hx hb hml hr ht hown hlocks hsz hK hP hD hS hl => ?_)
  have hA : ∀ a, s.heap.size ≤ a → zA 81 q sz a := fun a h => Or.inr (hsz ▸ h)
  have hl : lv_has ls 5 [(0, .ref (q 15)), (1, .int (pa0)), (2, .int (pa1)), (3, .int (pa2))] := hl
  refine lv_aload_n hx hb dX9_take_0 rfl (lv_at hl 0 rfl) ?_
  refine z_get hx hb ht hown hK hP ziX9 rfl 15 (by decide) 2 (by decide) hw_1_159 rfl (v := .int (I 15 2)) rfl dX9_take_1 ?_
  have f_1 : zR 0 24 (I 15 2) := xI hI 15 2
  refine lv_bipush (v := nI 24) hx hb dX9_take_4 (by decide +kernel) ?_
  refine lv_icmp_lt (tgt := 12) hx hb dX9_take_6 (by decide) (fun c_2 => ?_) (fun c_2 => ?_)
  · have t_c_2 := z_ltT c_2
    have f_3 : zR 0 23 (I 15 2) := zR_ltx t_c_2 f_1 zk_24 (by decide)
    refine lv_aload_n hx hb dX9_take_12 rfl (lv_at hl 0 rfl) ?_
    refine z_get hx hb ht hown hK hP ziX9 rfl 15 (by decide) 2 (by decide) hw_1_159 rfl (v := .int (I 15 2)) rfl dX9_take_13 ?_
    refine lv_istore (lv' := [(4, .int (I 15 2)), (0, .ref (q 15)), (1, .int (pa0)), (2, .int (pa1)), (3, .int (pa2))]) hx hb dX9_take_16 hl (by decide) rfl (fun ls hl => ?_)
    refine lv_aload_n hx hb dX9_take_18 rfl (lv_at hl 1 rfl) ?_
    refine z_get hx hb ht hown hK hP ziX9 rfl 15 (by decide) 7 (by decide) hw_1_171 rfl (v := .ref (q 19)) rfl dX9_take_19 ?_
    refine lv_iload hx hb dX9_take_22 (lv_at hl 0 rfl) ?_
    refine lv_iload_n hx hb dX9_take_24 rfl (lv_at hl 2 rfl) ?_
    refine z_iast hx hb hK hP hD hS 19 (by decide) 13 (fun _ => rfl) rfl (zR_vin f_3 (by decide)) dX9_take_25 (fun H locs hP hD hS => ?_)
    have hI_4 := xInv_R hI 19 (I 15 2).toNatClampNeg (pa0) hpa0 rfl
    refine lv_aload_n hx hb dX9_take_26 rfl (lv_at hl 1 rfl) ?_
    refine z_get hx hb ht hown hK hP ziX9 rfl 15 (by decide) 8 (by decide) hw_1_175 rfl (v := .ref (q 20)) rfl dX9_take_27 ?_
    refine lv_iload hx hb dX9_take_30 (lv_at hl 0 rfl) ?_
    refine lv_iload_n hx hb dX9_take_32 rfl (lv_at hl 3 rfl) ?_
    refine z_iast hx hb hK hP hD hS 20 (by decide) 14 (fun _ => rfl) rfl (zR_vin f_3 (by decide)) dX9_take_33 (fun H locs hP hD hS => ?_)
    have hI_5 := xInv_R hI_4 20 (I 15 2).toNatClampNeg (pa1) hpa1 rfl
    refine lv_aload_n hx hb dX9_take_34 rfl (lv_at hl 1 rfl) ?_
    refine z_get hx hb ht hown hK hP ziX9 rfl 15 (by decide) 9 (by decide) hw_1_179 rfl (v := .ref (q 21)) rfl dX9_take_35 ?_
    refine lv_iload hx hb dX9_take_38 (lv_at hl 0 rfl) ?_
    refine lv_aload_n hx hb dX9_take_40 rfl (lv_at hl 1 rfl) ?_
    refine z_get hx hb ht hown hK hP ziX9 rfl 15 (by decide) 5 (by decide) hw_1_166 rfl (v := .ref (q 17)) rfl dX9_take_41 ?_
    refine lv_iload_n hx hb dX9_take_44 rfl (lv_at hl 3 rfl) ?_
    refine z_iald hx hb hK hP 17 (by decide) 11 rfl rfl (zR_vin hpa1 (by decide)) dX9_take_45 ?_
    refine z_eqi (y := R 17 (pa1).toNatClampNeg) rfl ?_
    have f_6 : zR 0 4 (R 17 (pa1).toNatClampNeg) := xR hI 17 (pa1).toNatClampNeg
    refine z_iast hx hb hK hP hD hS 21 (by decide) 15 (fun _ => rfl) rfl (zR_vin f_3 (by decide)) dX9_take_46 (fun H locs hP hD hS => ?_)
    have hI_7 := xInv_R hI_5 21 (I 15 2).toNatClampNeg (R 17 (pa1).toNatClampNeg) f_6 rfl
    refine lv_aload_n hx hb dX9_take_47 rfl (lv_at hl 1 rfl) ?_
    refine z_get hx hb ht hown hK hP ziX9 rfl 15 (by decide) 10 (by decide) hw_1_182 rfl (v := .ref (q 22)) rfl dX9_take_48 ?_
    refine lv_iload hx hb dX9_take_51 (lv_at hl 0 rfl) ?_
    refine lv_iload_n hx hb dX9_take_53 rfl (lv_at hl 4 rfl) ?_
    refine z_iast hx hb hK hP hD hS 22 (by decide) 16 (fun _ => rfl) rfl (zR_vin f_3 (by decide)) dX9_take_54 (fun H locs hP hD hS => ?_)
    have hI_8 := xInv_R hI_7 22 (I 15 2).toNatClampNeg (pa2) (zR_any _) rfl
    refine lv_aload_n hx hb dX9_take_55 rfl (lv_at hl 1 rfl) ?_
    refine z_get hx hb ht hown hK hP ziX9 rfl 15 (by decide) 11 (by decide) hw_1_185 rfl (v := .ref (q 23)) rfl dX9_take_56 ?_
    refine lv_iload hx hb dX9_take_59 (lv_at hl 0 rfl) ?_
    refine lv_iconst (v := nI 0) hx hb dX9_take_61 (by decide +kernel) ?_
    refine z_iast hx hb hK hP hD hS 23 (by decide) 17 (fun _ => rfl) rfl (zR_vin f_3 (by decide)) dX9_take_62 (fun H locs hP hD hS => ?_)
    have hI_9 := xInv_R hI_8 23 (I 15 2).toNatClampNeg (nI 0) (zR_any _) rfl
    refine lv_aload_n hx hb dX9_take_63 rfl (lv_at hl 1 rfl) ?_
    refine lv_dup hx hb dX9_take_64 rfl ?_
    refine z_get hx hb ht hown hK hP ziX9 rfl 15 (by decide) 2 (by decide) hw_1_159 rfl (v := .int (I 15 2)) rfl dX9_take_65 ?_
    refine lv_iconst (v := nI 1) hx hb dX9_take_68 (by decide +kernel) ?_
    refine lv_iadd hx hb dX9_take_69 ?_
    refine z_addc 1 24 f_3 zk_1 (by decide) (fun v_10 hv_10 mv_10 => ?_)
    refine z_putI hx hb ht hown hK hP hD hS ziX9 tyX9 tyX9_ok nmX9 rfl 15 (by decide) 2 (by decide) hw_1_159 rfl (v := v_10) rfl rfl rfl (Nat.le_of_ble_eq_true rfl) rfl dX9_take_70 (fun H locs hP hD hS => ?_)
    have hI_11 := xInv_I hI_9 15 2 (v_10) (zR_w hv_10 (by decide)) rfl
    refine lv_aload_n hx hb dX9_take_73 rfl (lv_at hl 1 rfl) ?_
    refine lv_iload_n hx hb dX9_take_74 rfl (lv_at hl 3 rfl) ?_
    refine lv_iload_n hx hb dX9_take_75 rfl (lv_at hl 2 rfl) ?_
    refine z_callVv (k := 15) (As := [.int (pa1), .int (pa0)]) (rest := []) hx hb hml hown ht (xk_X9_move l D q cA F _ _ _ hI_11 (pa1) hpa1 (pa0) hpa0) hw_3_169 hmX9_move ⟨rfl, rfl⟩ (na := 2) rfl (by decide +kernel) (by decide) (by decide) rfl rfl hK hP hD hS hA hl.1 rfl (Nat.le_of_ble_eq_true rfl) ⟨Nat.zero_le _, Nat.zero_le _⟩ dX9_take_76 (fun I_12 R_12 J_12 H locs hp_12 hP hD hS _ _ => ?_)
    refine lv_iload hx hb dX9_take_79 (lv_at hl 0 rfl) ?_
    exact z_iret (v := I 15 2) hx hb hr hlocks hP hD hS dX9_take_81 ⟨(zR_w f_3 (by decide)), hp_12⟩
  · have t_c_2 := z_ltF c_2
    have f_13 : zR 24 24 (I 15 2) := zR_ley t_c_2 zk_24 f_1 (by decide)
    refine lv_bipush (v := (-5)) hx hb dX9_take_9 (by decide +kernel) ?_
    exact z_iret (v := (-5)) hx hb hr hlocks hP hD hS dX9_take_11 ⟨(zR_w zk_m5 (by decide)), hI⟩
set_option maxHeartbeats 4000000 in
set_option maxRecDepth 100000 in
theorem xk_X9_act (l : Launch) (D : va_G) (q : Nat → Nat) (cA : Nat → ClassId) (F : Nat → Nat → Int32) (I R : Nat → Nat → Int32) (J : Nat → Nat → Int64) (hI : xInv F (I, R, J)) (pa1 : Int32) (hpa1 : zR 0 4 pa1) (pa2 : Int32) (hpa2 : zR 0 5 pa2) (pa3 : Int32) (hpa3 : zR 0 60 pa3) : zMi l D vwCl (zXtys cA) 81 q (zXd q cA) yX9_act cX9_act 5 (some .int) ({ frames := 2, cells := 0, slots := 0, locals := 46 } : Room) [.ref (q 15), .int (nI 0), .int (pa1), .int (pa2), .int (pa3)] (I, R, J) (fun r u => zR (-5) 23 r ∧ xInv F u) := by
  intro sz
  refine z_body (by decide +kernel) (Nat.le_of_ble_eq_true rfl) (fun p e s m below meth c ls hx hb hml hr ht hown hlocks hsz hK hP hD hS hl => ?_)
  have hA : ∀ a, s.heap.size ≤ a → zA 81 q sz a := fun a h => Or.inr (hsz ▸ h)
  have hl : lv_has ls 5 [(0, .ref (q 15)), (1, .int (nI 0)), (2, .int (pa1)), (3, .int (pa2)), (4, .int (pa3))] := hl
  refine lv_iload_n hx hb dX9_act_0 rfl (lv_at hl 1 rfl) ?_
  refine lv_tableIn (off := 39) (tgt := 40) hx hb dX9_act_1 (by decide +kernel) (by decide +kernel) (by decide +kernel) (by decide) ?_
  refine lv_aload_n hx hb dX9_act_40 rfl (lv_at hl 0 rfl) ?_
  refine lv_iload_n hx hb dX9_act_41 rfl (lv_at hl 2 rfl) ?_
  refine lv_iload_n hx hb dX9_act_42 rfl (lv_at hl 3 rfl) ?_
  refine lv_iload hx hb dX9_act_43 (lv_at hl 4 rfl) ?_
  refine z_callVi (k := 15) (As := [.int (pa1), .int (pa2), .int (pa3)]) (rest := []) hx hb hml hown ht (xk_X9_take l D q cA F _ _ _ hI (pa1) hpa1 (pa2) hpa2 (pa3) hpa3) hw_3_165 hmX9_take ⟨rfl, rfl⟩ (na := 3) rfl (by decide +kernel) (by decide) (by decide) rfl rfl hK hP hD hS hA hl.1 rfl (Nat.le_of_ble_eq_true rfl) ⟨Nat.zero_le _, Nat.zero_le _⟩ dX9_act_45 (fun r_1 I_1 R_1 J_1 H locs hp_1 hP hD hS _ _ => ?_)
  obtain ⟨hr_1, hu_1⟩ := hp_1
  exact z_iret (v := r_1) hx hb hr hlocks hP hD hS dX9_act_48 ⟨hr_1, hu_1⟩
set_option maxHeartbeats 4000000 in
set_option maxRecDepth 100000 in
theorem xk_X10_perform (l : Launch) (D : va_G) (q : Nat → Nat) (cA : Nat → ClassId) (F : Nat → Nat → Int32) (I R : Nat → Nat → Int32) (J : Nat → Nat → Int64) (hI : xInv F (I, R, J)) (pa1 : Int32) (hpa1 : zR 0 4 pa1) (pa2 : Int32) (hpa2 : zR 0 5 pa2) (pa3 : Int32) (hpa3 : zR 0 60 pa3) : zMi l D vwCl (zXtys cA) 81 q (zXd q cA) yX10_perform cX10_perform 5 (some .int) ({ frames := 3, cells := 0, slots := 0, locals := 70 } : Room) [.ref (q 0), .int (nI 0), .int (pa1), .int (pa2), .int (pa3)] (I, R, J) (fun r u => zR (-5) 23 r ∧ xInv F u) := by
  intro sz
  refine z_body (by decide +kernel) (Nat.le_of_ble_eq_true rfl) (fun p e s m below meth c ls hx hb hml hr ht hown hlocks hsz hK hP hD hS hl => ?_)
  have hA : ∀ a, s.heap.size ≤ a → zA 81 q sz a := fun a h => Or.inr (hsz ▸ h)
  have hl : lv_has ls 5 [(0, .ref (q 0)), (1, .int (nI 0)), (2, .int (pa1)), (3, .int (pa2)), (4, .int (pa3))] := hl
  refine lv_aload_n hx hb dX10_perform_0 rfl (lv_at hl 0 rfl) ?_
  refine z_get hx hb ht hown hK hP ziX10 rfl 0 (by decide) 3 (by decide) hw_2_96 rfl (v := .ref (q 13)) rfl dX10_perform_1 ?_
  refine lv_iload_n hx hb dX10_perform_4 rfl (lv_at hl 1 rfl) ?_
  refine lv_iload_n hx hb dX10_perform_5 rfl (lv_at hl 2 rfl) ?_
  refine lv_iload_n hx hb dX10_perform_6 rfl (lv_at hl 3 rfl) ?_
  refine lv_iload hx hb dX10_perform_7 (lv_at hl 4 rfl) ?_
  refine z_callVv (k := 13) (As := [.int (nI 0), .int (pa1), .int (pa2), .int (pa3)]) (rest := []) hx hb hml hown ht (xk_X0_add l D q cA F _ _ _ hI (nI 0) (pa1) (pa2) (pa3) (xRec_0 zk_0 hpa1 hpa2)) hw_3_157 hmX0_add ⟨rfl, rfl⟩ (na := 4) rfl (by decide +kernel) (by decide) (by decide) rfl rfl hK hP hD hS hA hl.1 rfl (Nat.le_of_ble_eq_true rfl) ⟨Nat.zero_le _, Nat.zero_le _⟩ dX10_perform_9 (fun I_1 R_1 J_1 H locs hp_1 hP hD hS _ _ => ?_)
  refine lv_aload_n hx hb dX10_perform_12 rfl (lv_at hl 0 rfl) ?_
  refine z_get hx hb ht hown hK hP ziX10 rfl 0 (by decide) 4 (by decide) hw_2_97 rfl (v := .ref (q 15)) rfl dX10_perform_13 ?_
  refine lv_iload_n hx hb dX10_perform_16 rfl (lv_at hl 1 rfl) ?_
  refine lv_iload_n hx hb dX10_perform_17 rfl (lv_at hl 2 rfl) ?_
  refine lv_iload_n hx hb dX10_perform_18 rfl (lv_at hl 3 rfl) ?_
  refine lv_iload hx hb dX10_perform_19 (lv_at hl 4 rfl) ?_
  refine z_callVi (k := 15) (As := [.int (nI 0), .int (pa1), .int (pa2), .int (pa3)]) (rest := []) hx hb hml hown ht (xk_X9_act l D q cA F _ _ _ hp_1 (pa1) hpa1 (pa2) hpa2 (pa3) hpa3) hw_3_161 hmX9_act ⟨rfl, rfl⟩ (na := 4) rfl (by decide +kernel) (by decide) (by decide) rfl rfl hK hP hD hS hA hl.1 rfl (Nat.le_of_ble_eq_true rfl) ⟨Nat.zero_le _, Nat.zero_le _⟩ dX10_perform_21 (fun r_2 I_2 R_2 J_2 H locs hp_2 hP hD hS _ _ => ?_)
  obtain ⟨hr_2, hu_2⟩ := hp_2
  exact z_iret (v := r_2) hx hb hr hlocks hP hD hS dX10_perform_24 ⟨hr_2, hu_2⟩
set_option maxHeartbeats 4000000 in
set_option maxRecDepth 100000 in
theorem xk_X10_steal (l : Launch) (D : va_G) (q : Nat → Nat) (cA : Nat → ClassId) (F : Nat → Nat → Int32) (I R : Nat → Nat → Int32) (J : Nat → Nat → Int64) (hI : xInv F (I, R, J)) (pa0 : Int32) (pa1 : Int32) (pa2 : Int32) : zMi l D vwCl (zXtys cA) 81 q (zXd q cA) yX10_steal cX10_steal 4 (some .int) ({ frames := 4, cells := 0, slots := 0, locals := 94 } : Room) [.ref (q 0), .int (pa0), .int (pa1), .int (pa2)] (I, R, J) (fun r u => zR (-5) 23 r ∧ xInv F u) := by
  intro sz
  refine z_body (by decide +kernel) (Nat.le_of_ble_eq_true rfl) (fun p e s m below meth c ls hx hb hml hr ht hown hlocks hsz hK hP hD hS hl => ?_)
  have hA : ∀ a, s.heap.size ≤ a → zA 81 q sz a := fun a h => Or.inr (hsz ▸ h)
  have hl : lv_has ls 4 [(0, .ref (q 0)), (1, .int (pa0)), (2, .int (pa1)), (3, .int (pa2))] := hl
  refine lv_aload_n hx hb dX10_steal_0 rfl (lv_at hl 0 rfl) ?_
  refine lv_iload_n hx hb dX10_steal_1 rfl (lv_at hl 1 rfl) ?_
  refine z_callVi (k := 0) (As := [.int (pa0)]) (rest := []) hx hb hml hown ht (xk_X10_isHouse l D q cA F _ _ _ hI (pa0)) hw_3_59 hmX10_isHouse ⟨rfl, rfl⟩ (na := 1) rfl (by decide +kernel) (by decide) (by decide) rfl rfl hK hP hD hS hA hl.1 rfl (Nat.le_of_ble_eq_true rfl) ⟨Nat.zero_le _, Nat.zero_le _⟩ dX10_steal_2 (fun r_1 I_1 R_1 J_1 H locs hp_1 hP hD hS _ _ => ?_)
  rcases hp_1 with ⟨rfl, hu_1, f0_1⟩ | ⟨rfl, hu_1⟩
  · cases hu_1
    refine lv_if_eq (tgt := 27) hx hb dX10_steal_5 (by decide) (fun c_0 => absurd c_0 (zD_ne zk_1 zk_z (by decide))) (fun _ => ?_)
    refine lv_aload_n hx hb dX10_steal_8 rfl (lv_at hl 0 rfl) ?_
    refine lv_iload_n hx hb dX10_steal_9 rfl (lv_at hl 2 rfl) ?_
    refine z_callVi (k := 0) (As := [.int (pa1)]) (rest := []) hx hb hml hown ht (xk_X10_isThing l D q cA F _ _ _ hI (pa1)) hw_3_87 hmX10_isThing ⟨rfl, rfl⟩ (na := 1) rfl (by decide +kernel) (by decide) (by decide) rfl rfl hK hP hD hS hA hl.1 rfl (Nat.le_of_ble_eq_true rfl) ⟨Nat.zero_le _, Nat.zero_le _⟩ dX10_steal_10 (fun r_2 I_2 R_2 J_2 H locs hp_2 hP hD hS _ _ => ?_)
    rcases hp_2 with ⟨rfl, hu_2, f0_2⟩ | ⟨rfl, hu_2⟩
    · cases hu_2
      refine lv_if_eq (tgt := 27) hx hb dX10_steal_13 (by decide) (fun c_0 => absurd c_0 (zD_ne zk_1 zk_z (by decide))) (fun _ => ?_)
      refine lv_iload_n hx hb dX10_steal_16 rfl (lv_at hl 3 rfl) ?_
      refine lv_iconst (v := nI 1) hx hb dX10_steal_17 (by decide +kernel) ?_
      refine lv_icmp_lt (tgt := 27) hx hb dX10_steal_18 (by decide) (fun c_3 => ?_) (fun c_3 => ?_)
      · have t_c_3 := z_ltT c_3
        have f_4 : zR (-2147483648) 0 (pa2) := zR_ltx t_c_3 (zR_any (pa2)) zk_1 (by decide)
        refine lv_bipush (v := (-2)) hx hb dX10_steal_27 (by decide +kernel) ?_
        exact z_iret (v := (-2)) hx hb hr hlocks hP hD hS dX10_steal_29 ⟨(zR_w zk_m2 (by decide)), hI⟩
      · have t_c_3 := z_ltF c_3
        have f_5 : zR 1 2147483647 (pa2) := zR_ley t_c_3 zk_1 (zR_any (pa2)) (by decide)
        refine lv_iload_n hx hb dX10_steal_21 rfl (lv_at hl 3 rfl) ?_
        refine lv_bipush (v := nI 60) hx hb dX10_steal_22 (by decide +kernel) ?_
        refine lv_icmp_le (tgt := 30) hx hb dX10_steal_24 (by decide) (fun c_6 => ?_) (fun c_6 => ?_)
        · have t_c_6 := z_leT c_6
          have f_7 : zR 1 60 (pa2) := zR_lex t_c_6 f_5 zk_60 (by decide)
          refine lv_aload_n hx hb dX10_steal_30 rfl (lv_at hl 0 rfl) ?_
          refine z_callVi (k := 0) (As := []) (rest := []) hx hb hml hown ht (xk_X10_isFull l D q cA F _ _ _ hI ) hw_3_144 hmX10_isFull ⟨rfl, rfl⟩ (na := 0) rfl (by decide +kernel) (by decide) (by decide) rfl rfl hK hP hD hS hA hl.1 rfl (Nat.le_of_ble_eq_true rfl) ⟨Nat.zero_le _, Nat.zero_le _⟩ dX10_steal_31 (fun r_8 I_8 R_8 J_8 H locs hp_8 hP hD hS _ _ => ?_)
          rcases hp_8 with ⟨rfl, hu_8⟩ | ⟨rfl, hu_8⟩
          · cases hu_8
            refine lv_if_ne (tgt := 60) hx hb dX10_steal_34 (by decide) (fun _ => ?_) (fun c_0 => absurd c_0 (zD_ne zk_1 zk_z (by decide)))
            refine lv_bipush (v := (-5)) hx hb dX10_steal_60 (by decide +kernel) ?_
            exact z_iret (v := (-5)) hx hb hr hlocks hP hD hS dX10_steal_62 ⟨(zR_w zk_m5 (by decide)), hI⟩
          · cases hu_8
            refine lv_if_ne (tgt := 60) hx hb dX10_steal_34 (by decide) (fun c_0 => absurd (zD_eq zk_0 zk_z) c_0) (fun _ => ?_)
            refine lv_iload_n hx hb dX10_steal_37 rfl (lv_at hl 3 rfl) ?_
            refine lv_aload_n hx hb dX10_steal_38 rfl (lv_at hl 0 rfl) ?_
            refine z_get hx hb ht hown hK hP ziX10 rfl 0 (by decide) 4 (by decide) hw_2_97 rfl (v := .ref (q 15)) rfl dX10_steal_39 ?_
            refine z_get hx hb ht hown hK hP ziX9 rfl 15 (by decide) 1 (by decide) hw_1_158 rfl (v := .int (I 15 1)) rfl dX10_steal_42 ?_
            refine lv_icmp_le (tgt := 60) hx hb dX10_steal_45 (by decide) (fun c_9 => ?_) (fun c_9 => ?_)
            · have t_c_9 := z_leT c_9
              have f_10 : zR 1 2147483647 (I 15 1) := zR_ley t_c_9 f_7 (zR_any (I 15 1)) (by decide)
              refine lv_bipush (v := (-5)) hx hb dX10_steal_60 (by decide +kernel) ?_
              exact z_iret (v := (-5)) hx hb hr hlocks hP hD hS dX10_steal_62 ⟨(zR_w zk_m5 (by decide)), hI⟩
            · have t_c_9 := z_leF c_9
              have f_11 : zR (-2147483648) 59 (I 15 1) := zR_ltx t_c_9 (zR_any (I 15 1)) f_7 (by decide)
              refine lv_aload_n hx hb dX10_steal_48 rfl (lv_at hl 0 rfl) ?_
              refine z_get hx hb ht hown hK hP ziX10 rfl 0 (by decide) 4 (by decide) hw_2_97 rfl (v := .ref (q 15)) rfl dX10_steal_49 ?_
              refine lv_iload_n hx hb dX10_steal_52 rfl (lv_at hl 1 rfl) ?_
              refine lv_iload_n hx hb dX10_steal_53 rfl (lv_at hl 2 rfl) ?_
              refine z_callVi (k := 15) (As := [.int (pa0), .int (pa1)]) (rest := []) hx hb hml hown ht (xk_X9_maySteal l D q cA F _ _ _ hI (pa0) f0_1 (pa1) f0_2) hw_3_148 hmX9_maySteal ⟨rfl, rfl⟩ (na := 2) rfl (by decide +kernel) (by decide) (by decide) rfl rfl hK hP hD hS hA hl.1 rfl (Nat.le_of_ble_eq_true rfl) ⟨Nat.zero_le _, Nat.zero_le _⟩ dX10_steal_54 (fun r_12 I_12 R_12 J_12 H locs hp_12 hP hD hS _ _ => ?_)
              rcases hp_12 with ⟨rfl, hu_12⟩ | ⟨rfl, hu_12⟩
              · cases hu_12
                refine lv_if_ne (tgt := 63) hx hb dX10_steal_57 (by decide) (fun _ => ?_) (fun c_0 => absurd c_0 (zD_ne zk_1 zk_z (by decide)))
                refine lv_aload_n hx hb dX10_steal_63 rfl (lv_at hl 0 rfl) ?_
                refine lv_iconst (v := nI 0) hx hb dX10_steal_64 (by decide +kernel) ?_
                refine lv_iload_n hx hb dX10_steal_65 rfl (lv_at hl 1 rfl) ?_
                refine lv_iload_n hx hb dX10_steal_66 rfl (lv_at hl 2 rfl) ?_
                refine lv_iload_n hx hb dX10_steal_67 rfl (lv_at hl 3 rfl) ?_
                refine z_callVi (k := 0) (As := [.int (nI 0), .int (pa0), .int (pa1), .int (pa2)]) (rest := []) hx hb hml hown ht (xk_X10_perform l D q cA F _ _ _ hI (pa0) f0_1 (pa1) f0_2 (pa2) (zR_w f_7 (by decide))) hw_3_153 hmX10_perform ⟨rfl, rfl⟩ (na := 4) rfl (by decide +kernel) (by decide) (by decide) rfl rfl hK hP hD hS hA hl.1 rfl (Nat.le_of_ble_eq_true rfl) ⟨Nat.zero_le _, Nat.zero_le _⟩ dX10_steal_68 (fun r_13 I_13 R_13 J_13 H locs hp_13 hP hD hS _ _ => ?_)
                obtain ⟨hr_13, hu_13⟩ := hp_13
                exact z_iret (v := r_13) hx hb hr hlocks hP hD hS dX10_steal_71 ⟨hr_13, hu_13⟩
              · cases hu_12
                refine lv_if_ne (tgt := 63) hx hb dX10_steal_57 (by decide) (fun c_0 => absurd (zD_eq zk_0 zk_z) c_0) (fun _ => ?_)
                refine lv_bipush (v := (-5)) hx hb dX10_steal_60 (by decide +kernel) ?_
                exact z_iret (v := (-5)) hx hb hr hlocks hP hD hS dX10_steal_62 ⟨(zR_w zk_m5 (by decide)), hI⟩
        · have t_c_6 := z_leF c_6
          have f_14 : zR 61 2147483647 (pa2) := zR_lty t_c_6 zk_60 f_5 (by decide)
          refine lv_bipush (v := (-2)) hx hb dX10_steal_27 (by decide +kernel) ?_
          exact z_iret (v := (-2)) hx hb hr hlocks hP hD hS dX10_steal_29 ⟨(zR_w zk_m2 (by decide)), hI⟩
    · cases hu_2
      refine lv_if_eq (tgt := 27) hx hb dX10_steal_13 (by decide) (fun _ => ?_) (fun c_0 => absurd (zD_eq zk_0 zk_z) c_0)
      refine lv_bipush (v := (-2)) hx hb dX10_steal_27 (by decide +kernel) ?_
      exact z_iret (v := (-2)) hx hb hr hlocks hP hD hS dX10_steal_29 ⟨(zR_w zk_m2 (by decide)), hI⟩
  · cases hu_1
    refine lv_if_eq (tgt := 27) hx hb dX10_steal_5 (by decide) (fun _ => ?_) (fun c_0 => absurd (zD_eq zk_0 zk_z) c_0)
    refine lv_bipush (v := (-2)) hx hb dX10_steal_27 (by decide +kernel) ?_
    exact z_iret (v := (-2)) hx hb hr hlocks hP hD hS dX10_steal_29 ⟨(zR_w zk_m2 (by decide)), hI⟩
set_option maxHeartbeats 4000000 in
set_option maxRecDepth 100000 in
theorem xk_X9_pay (l : Launch) (D : va_G) (q : Nat → Nat) (cA : Nat → ClassId) (F : Nat → Nat → Int32) (I R : Nat → Nat → Int32) (J : Nat → Nat → Int64) (hI : xInv F (I, R, J)) (pa0 : Int32) (hpa0 : zR 0 4 pa0) (pa1 : Int32) (hpa1 : zR 0 4 pa1) (pa2 : Int32) : zMv l D vwCl (zXtys cA) 81 q (zXd q cA) yX9_pay cX9_pay 4 none ({ frames := 0, cells := 0, slots := 0, locals := 0 } : Room) [.ref (q 15), .int (pa0), .int (pa1), .int (pa2)] (I, R, J) (fun u => xInv F u) := by
  intro sz
  refine z_body (by decide +kernel) (Nat.le_of_ble_eq_true rfl) (fun p e s m below meth c ls hx hb hml hr ht hown hlocks hsz hK hP hD hS hl => ?_)
  have hA : ∀ a, s.heap.size ≤ a → zA 81 q sz a := fun a h => Or.inr (hsz ▸ h)
  have hl : lv_has ls 4 [(0, .ref (q 15)), (1, .int (pa0)), (2, .int (pa1)), (3, .int (pa2))] := hl
  refine lv_aload_n hx hb dX9_pay_0 rfl (lv_at hl 0 rfl) ?_
  refine z_get hx hb ht hown hK hP ziX9 rfl 15 (by decide) 4 (by decide) hw_1_164 rfl (v := .ref (q 16)) rfl dX9_pay_1 ?_
  refine lv_iload_n hx hb dX9_pay_4 rfl (lv_at hl 1 rfl) ?_
  refine lv_dup2_11 hx hb dX9_pay_5 rfl rfl ?_
  refine z_iald hx hb hK hP 16 (by decide) 10 rfl rfl (zR_vin hpa0 (by decide)) dX9_pay_6 ?_
  refine z_eqi (y := R 16 (pa0).toNatClampNeg) rfl ?_
  refine lv_iload_n hx hb dX9_pay_7 rfl (lv_at hl 3 rfl) ?_
  refine lv_isub hx hb dX9_pay_8 ?_
  refine z_any (fun v_1 => ?_)
  refine z_iast hx hb hK hP hD hS 16 (by decide) 10 (fun _ => rfl) rfl (zR_vin hpa0 (by decide)) dX9_pay_9 (fun H locs hP hD hS => ?_)
  have hI_2 := xInv_R hI 16 (pa0).toNatClampNeg (v_1) (zR_any _) rfl
  refine lv_aload_n hx hb dX9_pay_10 rfl (lv_at hl 0 rfl) ?_
  refine z_get hx hb ht hown hK hP ziX9 rfl 15 (by decide) 4 (by decide) hw_1_164 rfl (v := .ref (q 16)) rfl dX9_pay_11 ?_
  refine lv_iload_n hx hb dX9_pay_14 rfl (lv_at hl 2 rfl) ?_
  refine lv_dup2_11 hx hb dX9_pay_15 rfl rfl ?_
  refine z_iald hx hb hK hP 16 (by decide) 10 rfl rfl (zR_vin hpa1 (by decide)) dX9_pay_16 ?_
  refine z_any (fun v_3 => ?_)
  refine lv_iload_n hx hb dX9_pay_17 rfl (lv_at hl 3 rfl) ?_
  refine lv_iadd hx hb dX9_pay_18 ?_
  refine z_any (fun v_4 => ?_)
  refine z_iast hx hb hK hP hD hS 16 (by decide) 10 (fun _ => rfl) rfl (zR_vin hpa1 (by decide)) dX9_pay_19 (fun H locs hP hD hS => ?_)
  have hI_5 := xInv_R hI_2 16 (pa1).toNatClampNeg (v_4) (zR_any _) rfl
  exact z_vret hx hb hr hlocks hP hD hS dX9_pay_20 hI_5
set_option maxHeartbeats 4000000 in
set_option maxRecDepth 100000 in
theorem xk_X9_handOn (l : Launch) (D : va_G) (q : Nat → Nat) (cA : Nat → ClassId) (F : Nat → Nat → Int32) (I R : Nat → Nat → Int32) (J : Nat → Nat → Int64) (hI : xInv F (I, R, J)) (pa0 : Int32) (hpa0 : zR 0 23 pa0) (pa1 : Int32) (hpa1 : zR 0 4 pa1) : zMi l D vwCl (zXtys cA) 81 q (zXd q cA) yX9_handOn cX9_handOn 4 (some .int) ({ frames := 2, cells := 0, slots := 0, locals := 44 } : Room) [.ref (q 15), .int (pa0), .int (pa1)] (I, R, J) (fun _ u => xInv F u) := by
  intro sz
  refine z_body (by decide +kernel) (Nat.le_of_ble_eq_true rfl) (fun p e s m below meth c ls hx hb hml hr ht hown hlocks hsz hK hP hD hS hl => ?_)
  have hA : ∀ a, s.heap.size ≤ a → zA 81 q sz a := fun a h => Or.inr (hsz ▸ h)
  have hl : lv_has ls 4 [(0, .ref (q 15)), (1, .int (pa0)), (2, .int (pa1))] := hl
  refine lv_aload_n hx hb dX9_handOn_0 rfl (lv_at hl 0 rfl) ?_
  refine lv_iload_n hx hb dX9_handOn_1 rfl (lv_at hl 1 rfl) ?_
  refine z_callVi (k := 15) (As := [.int (pa0)]) (rest := []) hx hb hml hown ht (xk_X9_priceOf l D q cA F _ _ _ hI (pa0) hpa0) hw_3_177 hmX9_priceOf ⟨rfl, rfl⟩ (na := 1) rfl (by decide +kernel) (by decide) (by decide) rfl rfl hK hP hD hS hA hl.1 rfl (Nat.le_of_ble_eq_true rfl) ⟨Nat.zero_le _, Nat.zero_le _⟩ dX9_handOn_2 (fun r_1 I_1 R_1 J_1 H locs hp_1 hP hD hS _ _ => ?_)
  cases hp_1
  refine lv_istore_n (lv' := [(3, .int (r_1)), (0, .ref (q 15)), (1, .int (pa0)), (2, .int (pa1))]) hx hb dX9_handOn_5 rfl hl (by decide) rfl (fun ls hl => ?_)
  refine lv_aload_n hx hb dX9_handOn_6 rfl (lv_at hl 1 rfl) ?_
  refine lv_iload_n hx hb dX9_handOn_7 rfl (lv_at hl 3 rfl) ?_
  refine lv_aload_n hx hb dX9_handOn_8 rfl (lv_at hl 1 rfl) ?_
  refine z_get hx hb ht hown hK hP ziX9 rfl 15 (by decide) 9 (by decide) hw_1_179 rfl (v := .ref (q 21)) rfl dX9_handOn_9 ?_
  refine lv_iload_n hx hb dX9_handOn_12 rfl (lv_at hl 2 rfl) ?_
  refine z_iald hx hb hK hP 21 (by decide) 15 rfl rfl (zR_vin hpa0 (by decide)) dX9_handOn_13 ?_
  refine z_eqi (y := R 21 (pa0).toNatClampNeg) rfl ?_
  have f_2 : zR 0 4 (R 21 (pa0).toNatClampNeg) := xR hI 21 (pa0).toNatClampNeg
  refine lv_iload_n hx hb dX9_handOn_14 rfl (lv_at hl 0 rfl) ?_
  refine z_callVv (k := 15) (As := [.int (pa1), .int (R 21 (pa0).toNatClampNeg), .int (r_1)]) (rest := []) hx hb hml hown ht (xk_X9_pay l D q cA F _ _ _ hI (pa1) hpa1 (R 21 (pa0).toNatClampNeg) f_2 (r_1)) hw_3_178 hmX9_pay ⟨rfl, rfl⟩ (na := 3) rfl (by decide +kernel) (by decide) (by decide) rfl rfl hK hP hD hS hA hl.1 rfl (Nat.le_of_ble_eq_true rfl) ⟨Nat.zero_le _, Nat.zero_le _⟩ dX9_handOn_15 (fun I_3 R_3 J_3 H locs hp_3 hP hD hS _ _ => ?_)
  refine lv_aload_n hx hb dX9_handOn_18 rfl (lv_at hl 1 rfl) ?_
  refine z_get hx hb ht hown hK hP ziX9 rfl 15 (by decide) 9 (by decide) hw_1_179 rfl (v := .ref (q 21)) rfl dX9_handOn_19 ?_
  refine lv_iload_n hx hb dX9_handOn_22 rfl (lv_at hl 2 rfl) ?_
  refine lv_iload_n hx hb dX9_handOn_23 rfl (lv_at hl 3 rfl) ?_
  refine z_iast hx hb hK hP hD hS 21 (by decide) 15 (fun _ => rfl) rfl (zR_vin hpa0 (by decide)) dX9_handOn_24 (fun H locs hP hD hS => ?_)
  have hI_4 := xInv_R hp_3 21 (pa0).toNatClampNeg (pa1) hpa1 rfl
  refine lv_iload_n hx hb dX9_handOn_25 rfl (lv_at hl 0 rfl) ?_
  exact z_iret (v := r_1) hx hb hr hlocks hP hD hS dX9_handOn_26 hI_4
set_option maxHeartbeats 4000000 in
set_option maxRecDepth 100000 in
theorem xk_X9_act_1 (l : Launch) (D : va_G) (q : Nat → Nat) (cA : Nat → ClassId) (F : Nat → Nat → Int32) (I R : Nat → Nat → Int32) (J : Nat → Nat → Int64) (hI : xInv F (I, R, J)) (pa1 : Int32) (hpa1 : zR 0 23 pa1) (pa2 : Int32) (hpa2 : zR 0 4 pa2) (pa3 : Int32) (hpa3 : zR 0 1 pa3) : zMi l D vwCl (zXtys cA) 81 q (zXd q cA) yX9_act cX9_act 5 (some .int) ({ frames := 3, cells := 0, slots := 0, locals := 67 } : Room) [.ref (q 15), .int (nI 1), .int (pa1), .int (pa2), .int (pa3)] (I, R, J) (fun _ u => xInv F u) := by
  intro sz
  refine z_body (by decide +kernel) (Nat.le_of_ble_eq_true rfl) (fun p e s m below meth c ls hx hb hml hr ht hown hlocks hsz hK hP hD hS hl => ?_)
  have hA : ∀ a, s.heap.size ≤ a → zA 81 q sz a := fun a h => Or.inr (hsz ▸ h)
  have hl : lv_has ls 5 [(0, .ref (q 15)), (1, .int (nI 1)), (2, .int (pa1)), (3, .int (pa2)), (4, .int (pa3))] := hl
  refine lv_iload_n hx hb dX9_act_0 rfl (lv_at hl 1 rfl) ?_
  refine lv_tableIn (off := 48) (tgt := 49) hx hb dX9_act_1 (by decide +kernel) (by decide +kernel) (by decide +kernel) (by decide) ?_
  refine lv_aload_n hx hb dX9_act_49 rfl (lv_at hl 0 rfl) ?_
  refine lv_iload_n hx hb dX9_act_50 rfl (lv_at hl 2 rfl) ?_
  refine lv_iload_n hx hb dX9_act_51 rfl (lv_at hl 3 rfl) ?_
  refine z_callVi (k := 15) (As := [.int (pa1), .int (pa2)]) (rest := []) hx hb hml hown ht (xk_X9_handOn l D q cA F _ _ _ hI (pa1) hpa1 (pa2) hpa2) hw_3_173 hmX9_handOn ⟨rfl, rfl⟩ (na := 2) rfl (by decide +kernel) (by decide) (by decide) rfl rfl hK hP hD hS hA hl.1 rfl (Nat.le_of_ble_eq_true rfl) ⟨Nat.zero_le _, Nat.zero_le _⟩ dX9_act_52 (fun r_1 I_1 R_1 J_1 H locs hp_1 hP hD hS _ _ => ?_)
  exact z_iret (v := r_1) hx hb hr hlocks hP hD hS dX9_act_55 hp_1
set_option maxHeartbeats 4000000 in
set_option maxRecDepth 100000 in
theorem xk_X10_perform_1 (l : Launch) (D : va_G) (q : Nat → Nat) (cA : Nat → ClassId) (F : Nat → Nat → Int32) (I R : Nat → Nat → Int32) (J : Nat → Nat → Int64) (hI : xInv F (I, R, J)) (pa1 : Int32) (hpa1 : zR 0 23 pa1) (pa2 : Int32) (hpa2 : zR 0 4 pa2) (pa3 : Int32) (hpa3 : zR 0 1 pa3) : zMi l D vwCl (zXtys cA) 81 q (zXd q cA) yX10_perform cX10_perform 5 (some .int) ({ frames := 4, cells := 0, slots := 0, locals := 91 } : Room) [.ref (q 0), .int (nI 1), .int (pa1), .int (pa2), .int (pa3)] (I, R, J) (fun _ u => xInv F u) := by
  intro sz
  refine z_body (by decide +kernel) (Nat.le_of_ble_eq_true rfl) (fun p e s m below meth c ls hx hb hml hr ht hown hlocks hsz hK hP hD hS hl => ?_)
  have hA : ∀ a, s.heap.size ≤ a → zA 81 q sz a := fun a h => Or.inr (hsz ▸ h)
  have hl : lv_has ls 5 [(0, .ref (q 0)), (1, .int (nI 1)), (2, .int (pa1)), (3, .int (pa2)), (4, .int (pa3))] := hl
  refine lv_aload_n hx hb dX10_perform_0 rfl (lv_at hl 0 rfl) ?_
  refine z_get hx hb ht hown hK hP ziX10 rfl 0 (by decide) 3 (by decide) hw_2_96 rfl (v := .ref (q 13)) rfl dX10_perform_1 ?_
  refine lv_iload_n hx hb dX10_perform_4 rfl (lv_at hl 1 rfl) ?_
  refine lv_iload_n hx hb dX10_perform_5 rfl (lv_at hl 2 rfl) ?_
  refine lv_iload_n hx hb dX10_perform_6 rfl (lv_at hl 3 rfl) ?_
  refine lv_iload hx hb dX10_perform_7 (lv_at hl 4 rfl) ?_
  refine z_callVv (k := 13) (As := [.int (nI 1), .int (pa1), .int (pa2), .int (pa3)]) (rest := []) hx hb hml hown ht (xk_X0_add l D q cA F _ _ _ hI (nI 1) (pa1) (pa2) (pa3) (xRec_1 zk_1 hpa1 hpa2)) hw_3_157 hmX0_add ⟨rfl, rfl⟩ (na := 4) rfl (by decide +kernel) (by decide) (by decide) rfl rfl hK hP hD hS hA hl.1 rfl (Nat.le_of_ble_eq_true rfl) ⟨Nat.zero_le _, Nat.zero_le _⟩ dX10_perform_9 (fun I_1 R_1 J_1 H locs hp_1 hP hD hS _ _ => ?_)
  refine lv_aload_n hx hb dX10_perform_12 rfl (lv_at hl 0 rfl) ?_
  refine z_get hx hb ht hown hK hP ziX10 rfl 0 (by decide) 4 (by decide) hw_2_97 rfl (v := .ref (q 15)) rfl dX10_perform_13 ?_
  refine lv_iload_n hx hb dX10_perform_16 rfl (lv_at hl 1 rfl) ?_
  refine lv_iload_n hx hb dX10_perform_17 rfl (lv_at hl 2 rfl) ?_
  refine lv_iload_n hx hb dX10_perform_18 rfl (lv_at hl 3 rfl) ?_
  refine lv_iload hx hb dX10_perform_19 (lv_at hl 4 rfl) ?_
  refine z_callVi (k := 15) (As := [.int (nI 1), .int (pa1), .int (pa2), .int (pa3)]) (rest := []) hx hb hml hown ht (xk_X9_act_1 l D q cA F _ _ _ hp_1 (pa1) hpa1 (pa2) hpa2 (pa3) hpa3) hw_3_161 hmX9_act ⟨rfl, rfl⟩ (na := 4) rfl (by decide +kernel) (by decide) (by decide) rfl rfl hK hP hD hS hA hl.1 rfl (Nat.le_of_ble_eq_true rfl) ⟨Nat.zero_le _, Nat.zero_le _⟩ dX10_perform_21 (fun r_2 I_2 R_2 J_2 H locs hp_2 hP hD hS _ _ => ?_)
  exact z_iret (v := r_2) hx hb hr hlocks hP hD hS dX10_perform_24 hp_2
set_option maxHeartbeats 4000000 in
set_option maxRecDepth 100000 in
theorem xk_X10_sell (l : Launch) (D : va_G) (q : Nat → Nat) (cA : Nat → ClassId) (F : Nat → Nat → Int32) (I R : Nat → Nat → Int32) (J : Nat → Nat → Int64) (hI : xInv F (I, R, J)) (pa0 : Int32) (pa1 : Int32) : zMi l D vwCl (zXtys cA) 81 q (zXd q cA) yX10_sell cX10_sell 3 (some .int) ({ frames := 5, cells := 0, slots := 0, locals := 115 } : Room) [.ref (q 0), .int (pa0), .int (pa1)] (I, R, J) (fun _ u => xInv F u) := by
  intro sz
  refine z_body (by decide +kernel) (Nat.le_of_ble_eq_true rfl) (fun p e s m below meth c ls hx hb hml hr ht hown hlocks hsz hK hP hD hS hl => ?_)
  have hA : ∀ a, s.heap.size ≤ a → zA 81 q sz a := fun a h => Or.inr (hsz ▸ h)
  have hl : lv_has ls 3 [(0, .ref (q 0)), (1, .int (pa0)), (2, .int (pa1))] := hl
  refine lv_aload_n hx hb dX10_sell_0 rfl (lv_at hl 0 rfl) ?_
  refine lv_iload_n hx hb dX10_sell_1 rfl (lv_at hl 1 rfl) ?_
  refine z_callVi (k := 0) (As := [.int (pa0)]) (rest := []) hx hb hml hown ht (xk_X10_isPaper l D q cA F _ _ _ hI (pa0)) hw_3_107 hmX10_isPaper ⟨rfl, rfl⟩ (na := 1) rfl (by decide +kernel) (by decide) (by decide) rfl rfl hK hP hD hS hA hl.1 rfl (Nat.le_of_ble_eq_true rfl) ⟨Nat.zero_le _, Nat.zero_le _⟩ dX10_sell_2 (fun r_1 I_1 R_1 J_1 H locs hp_1 hP hD hS _ _ => ?_)
  rcases hp_1 with ⟨rfl, hu_1, f0_1⟩ | ⟨rfl, hu_1⟩
  · cases hu_1
    refine lv_if_eq (tgt := 16) hx hb dX10_sell_5 (by decide) (fun c_0 => absurd c_0 (zD_ne zk_1 zk_z (by decide))) (fun _ => ?_)
    refine lv_aload_n hx hb dX10_sell_8 rfl (lv_at hl 0 rfl) ?_
    refine lv_iload_n hx hb dX10_sell_9 rfl (lv_at hl 2 rfl) ?_
    refine z_callVi (k := 0) (As := [.int (pa1)]) (rest := []) hx hb hml hown ht (xk_X10_isHouse l D q cA F _ _ _ hI (pa1)) hw_3_59 hmX10_isHouse ⟨rfl, rfl⟩ (na := 1) rfl (by decide +kernel) (by decide) (by decide) rfl rfl hK hP hD hS hA hl.1 rfl (Nat.le_of_ble_eq_true rfl) ⟨Nat.zero_le _, Nat.zero_le _⟩ dX10_sell_10 (fun r_2 I_2 R_2 J_2 H locs hp_2 hP hD hS _ _ => ?_)
    rcases hp_2 with ⟨rfl, hu_2, f0_2⟩ | ⟨rfl, hu_2⟩
    · cases hu_2
      refine lv_if_ne (tgt := 19) hx hb dX10_sell_13 (by decide) (fun _ => ?_) (fun c_0 => absurd c_0 (zD_ne zk_1 zk_z (by decide)))
      refine lv_aload_n hx hb dX10_sell_19 rfl (lv_at hl 0 rfl) ?_
      refine z_callVi (k := 0) (As := []) (rest := []) hx hb hml hown ht (xk_X10_isFull l D q cA F _ _ _ hI ) hw_3_144 hmX10_isFull ⟨rfl, rfl⟩ (na := 0) rfl (by decide +kernel) (by decide) (by decide) rfl rfl hK hP hD hS hA hl.1 rfl (Nat.le_of_ble_eq_true rfl) ⟨Nat.zero_le _, Nat.zero_le _⟩ dX10_sell_20 (fun r_3 I_3 R_3 J_3 H locs hp_3 hP hD hS _ _ => ?_)
      rcases hp_3 with ⟨rfl, hu_3⟩ | ⟨rfl, hu_3⟩
      · cases hu_3
        refine lv_if_ne (tgt := 70) hx hb dX10_sell_23 (by decide) (fun _ => ?_) (fun c_0 => absurd c_0 (zD_ne zk_1 zk_z (by decide)))
        refine lv_bipush (v := (-5)) hx hb dX10_sell_70 (by decide +kernel) ?_
        exact z_iret (v := (-5)) hx hb hr hlocks hP hD hS dX10_sell_72 hI
      · cases hu_3
        refine lv_if_ne (tgt := 70) hx hb dX10_sell_23 (by decide) (fun c_0 => absurd (zD_eq zk_0 zk_z) c_0) (fun _ => ?_)
        refine lv_aload_n hx hb dX10_sell_26 rfl (lv_at hl 0 rfl) ?_
        refine z_get hx hb ht hown hK hP ziX10 rfl 0 (by decide) 4 (by decide) hw_2_97 rfl (v := .ref (q 15)) rfl dX10_sell_27 ?_
        refine lv_iload_n hx hb dX10_sell_30 rfl (lv_at hl 1 rfl) ?_
        refine z_callVi (k := 15) (As := [.int (pa0)]) (rest := []) hx hb hml hown ht (xk_X9_isOpen_1 l D q cA F _ _ _ hI (pa0) f0_1) hw_3_115 hmX9_isOpen ⟨rfl, rfl⟩ (na := 1) rfl (by decide +kernel) (by decide) (by decide) rfl rfl hK hP hD hS hA hl.1 rfl (Nat.le_of_ble_eq_true rfl) ⟨Nat.zero_le _, Nat.zero_le _⟩ dX10_sell_31 (fun r_4 I_4 R_4 J_4 H locs hp_4 hP hD hS _ _ => ?_)
        rcases hp_4 with ⟨rfl, hu_4⟩ | ⟨rfl, hu_4⟩
        · cases hu_4
          refine lv_if_eq (tgt := 70) hx hb dX10_sell_34 (by decide) (fun c_0 => absurd c_0 (zD_ne zk_1 zk_z (by decide))) (fun _ => ?_)
          refine lv_aload_n hx hb dX10_sell_37 rfl (lv_at hl 0 rfl) ?_
          refine z_get hx hb ht hown hK hP ziX10 rfl 0 (by decide) 4 (by decide) hw_2_97 rfl (v := .ref (q 15)) rfl dX10_sell_38 ?_
          refine z_get hx hb ht hown hK hP ziX9 rfl 15 (by decide) 9 (by decide) hw_1_181 rfl (v := .ref (q 21)) rfl dX10_sell_41 ?_
          refine lv_iload_n hx hb dX10_sell_44 rfl (lv_at hl 1 rfl) ?_
          refine z_iald hx hb hK hP 21 (by decide) 15 rfl rfl (zR_vin f0_1 (by decide)) dX10_sell_45 ?_
          refine z_eqi (y := R 21 (pa0).toNatClampNeg) rfl ?_
          have f_5 : zR 0 4 (R 21 (pa0).toNatClampNeg) := xR hI 21 (pa0).toNatClampNeg
          refine lv_iload_n hx hb dX10_sell_46 rfl (lv_at hl 2 rfl) ?_
          refine lv_icmp_eq (tgt := 70) hx hb dX10_sell_47 (by decide) (fun c_6 => ?_) (fun c_6 => ?_)
          · have t_c_6 := z_eqT c_6
            refine lv_bipush (v := (-5)) hx hb dX10_sell_70 (by decide +kernel) ?_
            exact z_iret (v := (-5)) hx hb hr hlocks hP hD hS dX10_sell_72 hI
          · have t_c_6 := z_eqF c_6
            refine lv_aload_n hx hb dX10_sell_50 rfl (lv_at hl 0 rfl) ?_
            refine z_get hx hb ht hown hK hP ziX10 rfl 0 (by decide) 4 (by decide) hw_2_97 rfl (v := .ref (q 15)) rfl dX10_sell_51 ?_
            refine z_get hx hb ht hown hK hP ziX9 rfl 15 (by decide) 4 (by decide) hw_1_165 rfl (v := .ref (q 16)) rfl dX10_sell_54 ?_
            refine lv_iload_n hx hb dX10_sell_57 rfl (lv_at hl 2 rfl) ?_
            refine z_iald hx hb hK hP 16 (by decide) 10 rfl rfl (zR_vin f0_2 (by decide)) dX10_sell_58 ?_
            refine z_eqi (y := R 16 (pa1).toNatClampNeg) rfl ?_
            refine lv_aload_n hx hb dX10_sell_59 rfl (lv_at hl 0 rfl) ?_
            refine z_get hx hb ht hown hK hP ziX10 rfl 0 (by decide) 4 (by decide) hw_2_97 rfl (v := .ref (q 15)) rfl dX10_sell_60 ?_
            refine lv_iload_n hx hb dX10_sell_63 rfl (lv_at hl 1 rfl) ?_
            refine z_callVi (k := 15) (As := [.int (pa0)]) (rest := [.int (R 16 (pa1).toNatClampNeg)]) hx hb hml hown ht (xk_X9_priceOf l D q cA F _ _ _ hI (pa0) f0_1) hw_3_116 hmX9_priceOf ⟨rfl, rfl⟩ (na := 1) rfl (by decide +kernel) (by decide) (by decide) rfl rfl hK hP hD hS hA hl.1 rfl (Nat.le_of_ble_eq_true rfl) ⟨Nat.zero_le _, Nat.zero_le _⟩ dX10_sell_64 (fun r_7 I_7 R_7 J_7 H locs hp_7 hP hD hS _ _ => ?_)
            cases hp_7
            refine lv_icmp_ge (tgt := 73) hx hb dX10_sell_67 (by decide) (fun c_8 => ?_) (fun c_8 => ?_)
            · have t_c_8 := z_leT c_8
              refine lv_aload_n hx hb dX10_sell_73 rfl (lv_at hl 0 rfl) ?_
              refine lv_iconst (v := nI 1) hx hb dX10_sell_74 (by decide +kernel) ?_
              refine lv_iload_n hx hb dX10_sell_75 rfl (lv_at hl 1 rfl) ?_
              refine lv_iload_n hx hb dX10_sell_76 rfl (lv_at hl 2 rfl) ?_
              refine lv_iconst (v := nI 0) hx hb dX10_sell_77 (by decide +kernel) ?_
              refine z_callVi (k := 0) (As := [.int (nI 1), .int (pa0), .int (pa1), .int (nI 0)]) (rest := []) hx hb hml hown ht (xk_X10_perform_1 l D q cA F _ _ _ hI (pa0) f0_1 (pa1) f0_2 (nI 0) (zR_w zk_0 (by decide))) hw_3_153 hmX10_perform ⟨rfl, rfl⟩ (na := 4) rfl (by decide +kernel) (by decide) (by decide) rfl rfl hK hP hD hS hA hl.1 rfl (Nat.le_of_ble_eq_true rfl) ⟨Nat.zero_le _, Nat.zero_le _⟩ dX10_sell_78 (fun r_9 I_9 R_9 J_9 H locs hp_9 hP hD hS _ _ => ?_)
              exact z_iret (v := r_9) hx hb hr hlocks hP hD hS dX10_sell_81 hp_9
            · have t_c_8 := z_leF c_8
              have f_10 : zR (-2147483648) 2147483646 (R 16 (pa1).toNatClampNeg) := zR_ltx t_c_8 (zR_any (R 16 (pa1).toNatClampNeg)) (zR_any (r_7)) (by decide)
              have f_11 : zR (-2147483647) 2147483647 (r_7) := zR_lty t_c_8 (zR_any (R 16 (pa1).toNatClampNeg)) (zR_any (r_7)) (by decide)
              refine lv_bipush (v := (-5)) hx hb dX10_sell_70 (by decide +kernel) ?_
              exact z_iret (v := (-5)) hx hb hr hlocks hP hD hS dX10_sell_72 hI
        · cases hu_4
          refine lv_if_eq (tgt := 70) hx hb dX10_sell_34 (by decide) (fun _ => ?_) (fun c_0 => absurd (zD_eq zk_0 zk_z) c_0)
          refine lv_bipush (v := (-5)) hx hb dX10_sell_70 (by decide +kernel) ?_
          exact z_iret (v := (-5)) hx hb hr hlocks hP hD hS dX10_sell_72 hI
    · cases hu_2
      refine lv_if_ne (tgt := 19) hx hb dX10_sell_13 (by decide) (fun c_0 => absurd (zD_eq zk_0 zk_z) c_0) (fun _ => ?_)
      refine lv_bipush (v := (-2)) hx hb dX10_sell_16 (by decide +kernel) ?_
      exact z_iret (v := (-2)) hx hb hr hlocks hP hD hS dX10_sell_18 hI
  · cases hu_1
    refine lv_if_eq (tgt := 16) hx hb dX10_sell_5 (by decide) (fun _ => ?_) (fun c_0 => absurd (zD_eq zk_0 zk_z) c_0)
    refine lv_bipush (v := (-2)) hx hb dX10_sell_16 (by decide +kernel) ?_
    exact z_iret (v := (-2)) hx hb hr hlocks hP hD hS dX10_sell_18 hI
set_option maxHeartbeats 4000000 in
set_option maxRecDepth 100000 in
theorem xk_X9_thiefHasIt (l : Launch) (D : va_G) (q : Nat → Nat) (cA : Nat → ClassId) (F : Nat → Nat → Int32) (I R : Nat → Nat → Int32) (J : Nat → Nat → Int64) (hI : xInv F (I, R, J)) (pa0 : Int32) (hpa0 : zR 0 23 pa0) : zMi l D vwCl (zXtys cA) 81 q (zXd q cA) yX9_thiefHasIt cX9_thiefHasIt 2 (some .boolean) ({ frames := 0, cells := 0, slots := 0, locals := 0 } : Room) [.ref (q 15), .int (pa0)] (I, R, J) (fun r u => (r = nI 1 ∧ u = (I, R, J)) ∨ (r = nI 0 ∧ u = (I, R, J))) := by
  intro sz
  refine z_body (by decide +kernel) (Nat.le_of_ble_eq_true rfl) (fun p e s m below meth c ls hx hb hml hr ht hown hlocks hsz hK hP hD hS hl => ?_)
  have hA : ∀ a, s.heap.size ≤ a → zA 81 q sz a := fun a h => Or.inr (hsz ▸ h)
  have hl : lv_has ls 2 [(0, .ref (q 15)), (1, .int (pa0))] := hl
  refine lv_aload_n hx hb dX9_thiefHasIt_0 rfl (lv_at hl 0 rfl) ?_
  refine z_get hx hb ht hown hK hP ziX9 rfl 15 (by decide) 5 (by decide) hw_1_166 rfl (v := .ref (q 17)) rfl dX9_thiefHasIt_1 ?_
  refine lv_aload_n hx hb dX9_thiefHasIt_4 rfl (lv_at hl 0 rfl) ?_
  refine z_get hx hb ht hown hK hP ziX9 rfl 15 (by decide) 8 (by decide) hw_1_175 rfl (v := .ref (q 20)) rfl dX9_thiefHasIt_5 ?_
  refine lv_iload_n hx hb dX9_thiefHasIt_8 rfl (lv_at hl 1 rfl) ?_
  refine z_iald hx hb hK hP 20 (by decide) 14 rfl rfl (zR_vin hpa0 (by decide)) dX9_thiefHasIt_9 ?_
  refine z_eqi (y := R 20 (pa0).toNatClampNeg) rfl ?_
  have f_1 : zR 0 5 (R 20 (pa0).toNatClampNeg) := xR hI 20 (pa0).toNatClampNeg
  refine z_iald hx hb hK hP 17 (by decide) 11 rfl rfl (zR_vin f_1 (by decide)) dX9_thiefHasIt_10 ?_
  refine z_eqi (y := R 17 (R 20 (pa0).toNatClampNeg).toNatClampNeg) rfl ?_
  have f_2 : zR 0 4 (R 17 (R 20 (pa0).toNatClampNeg).toNatClampNeg) := xR hI 17 (R 20 (pa0).toNatClampNeg).toNatClampNeg
  refine lv_aload_n hx hb dX9_thiefHasIt_11 rfl (lv_at hl 0 rfl) ?_
  refine z_get hx hb ht hown hK hP ziX9 rfl 15 (by decide) 7 (by decide) hw_1_171 rfl (v := .ref (q 19)) rfl dX9_thiefHasIt_12 ?_
  refine lv_iload_n hx hb dX9_thiefHasIt_15 rfl (lv_at hl 1 rfl) ?_
  refine z_iald hx hb hK hP 19 (by decide) 13 rfl rfl (zR_vin hpa0 (by decide)) dX9_thiefHasIt_16 ?_
  refine z_eqi (y := R 19 (pa0).toNatClampNeg) rfl ?_
  have f_3 : zR 0 4 (R 19 (pa0).toNatClampNeg) := xR hI 19 (pa0).toNatClampNeg
  refine lv_icmp_ne (tgt := 24) hx hb dX9_thiefHasIt_17 (by decide) (fun c_4 => ?_) (fun c_4 => ?_)
  · have t_c_4 := z_eqF c_4
    refine lv_iconst (v := nI 0) hx hb dX9_thiefHasIt_24 (by decide +kernel) ?_
    exact z_zret (v := nI 0) hx hb hr hlocks hP hD hS (by decide +kernel) dX9_thiefHasIt_25 (Or.inr ⟨rfl, rfl⟩)
  · have t_c_4 := z_eqT c_4
    refine lv_iconst (v := nI 1) hx hb dX9_thiefHasIt_20 (by decide +kernel) ?_
    refine lv_goto (tgt := 25) hx hb dX9_thiefHasIt_21 (by decide) ?_
    exact z_zret (v := nI 1) hx hb hr hlocks hP hD hS (by decide +kernel) dX9_thiefHasIt_25 (Or.inl ⟨rfl, rfl⟩)
set_option maxHeartbeats 4000000 in
set_option maxRecDepth 100000 in
theorem xk_X9_giveBack (l : Launch) (D : va_G) (q : Nat → Nat) (cA : Nat → ClassId) (F : Nat → Nat → Int32) (I R : Nat → Nat → Int32) (J : Nat → Nat → Int64) (hI : xInv F (I, R, J)) (pa0 : Int32) (hpa0 : zR 0 23 pa0) : zMi l D vwCl (zXtys cA) 81 q (zXd q cA) yX9_giveBack cX9_giveBack 2 (some .int) ({ frames := 1, cells := 0, slots := 0, locals := 22 } : Room) [.ref (q 15), .int (pa0)] (I, R, J) (fun r u => zR 0 4 r ∧ xInv F u) := by
  intro sz
  refine z_body (by decide +kernel) (Nat.le_of_ble_eq_true rfl) (fun p e s m below meth c ls hx hb hml hr ht hown hlocks hsz hK hP hD hS hl => ?_)
  have hA : ∀ a, s.heap.size ≤ a → zA 81 q sz a := fun a h => Or.inr (hsz ▸ h)
  have hl : lv_has ls 2 [(0, .ref (q 15)), (1, .int (pa0))] := hl
  refine lv_aload_n hx hb dX9_giveBack_0 rfl (lv_at hl 0 rfl) ?_
  refine z_get hx hb ht hown hK hP ziX9 rfl 15 (by decide) 11 (by decide) hw_1_185 rfl (v := .ref (q 23)) rfl dX9_giveBack_1 ?_
  refine lv_iload_n hx hb dX9_giveBack_4 rfl (lv_at hl 1 rfl) ?_
  refine lv_iconst (v := nI 1) hx hb dX9_giveBack_5 (by decide +kernel) ?_
  refine z_iast hx hb hK hP hD hS 23 (by decide) 17 (fun _ => rfl) rfl (zR_vin hpa0 (by decide)) dX9_giveBack_6 (fun H locs hP hD hS => ?_)
  have hI_1 := xInv_R hI 23 (pa0).toNatClampNeg (nI 1) (zR_any _) rfl
  refine lv_aload_n hx hb dX9_giveBack_7 rfl (lv_at hl 0 rfl) ?_
  refine lv_aload_n hx hb dX9_giveBack_8 rfl (lv_at hl 0 rfl) ?_
  refine z_get hx hb ht hown hK hP ziX9 rfl 15 (by decide) 8 (by decide) hw_1_175 rfl (v := .ref (q 20)) rfl dX9_giveBack_9 ?_
  refine lv_iload_n hx hb dX9_giveBack_12 rfl (lv_at hl 1 rfl) ?_
  refine z_iald hx hb hK hP 20 (by decide) 14 rfl rfl (zR_vin hpa0 (by decide)) dX9_giveBack_13 ?_
  refine z_eqi (y := R 20 (pa0).toNatClampNeg) rfl ?_
  have f_2 : zR 0 5 (R 20 (pa0).toNatClampNeg) := xR hI 20 (pa0).toNatClampNeg
  refine lv_aload_n hx hb dX9_giveBack_14 rfl (lv_at hl 0 rfl) ?_
  refine z_get hx hb ht hown hK hP ziX9 rfl 15 (by decide) 9 (by decide) hw_1_179 rfl (v := .ref (q 21)) rfl dX9_giveBack_15 ?_
  refine lv_iload_n hx hb dX9_giveBack_18 rfl (lv_at hl 1 rfl) ?_
  refine z_iald hx hb hK hP 21 (by decide) 15 rfl rfl (zR_vin hpa0 (by decide)) dX9_giveBack_19 ?_
  refine z_eqi (y := R 21 (pa0).toNatClampNeg) rfl ?_
  have f_3 : zR 0 4 (R 21 (pa0).toNatClampNeg) := xR hI 21 (pa0).toNatClampNeg
  refine z_callVv (k := 15) (As := [.int (R 20 (pa0).toNatClampNeg), .int (R 21 (pa0).toNatClampNeg)]) (rest := []) hx hb hml hown ht (xk_X9_move l D q cA F _ _ _ hI_1 (R 20 (pa0).toNatClampNeg) f_2 (R 21 (pa0).toNatClampNeg) f_3) hw_3_169 hmX9_move ⟨rfl, rfl⟩ (na := 2) rfl (by decide +kernel) (by decide) (by decide) rfl rfl hK hP hD hS hA hl.1 rfl (Nat.le_of_ble_eq_true rfl) ⟨Nat.zero_le _, Nat.zero_le _⟩ dX9_giveBack_20 (fun I_4 R_4 J_4 H locs hp_4 hP hD hS _ _ => ?_)
  refine lv_aload_n hx hb dX9_giveBack_23 rfl (lv_at hl 0 rfl) ?_
  refine z_get hx hb ht hown hK hP ziX9 rfl 15 (by decide) 9 (by decide) hw_1_179 rfl (v := .ref (q 21)) rfl dX9_giveBack_24 ?_
  refine lv_iload_n hx hb dX9_giveBack_27 rfl (lv_at hl 1 rfl) ?_
  refine z_iald hx hb hK hP 21 (by decide) 15 rfl rfl (zR_vin hpa0 (by decide)) dX9_giveBack_28 ?_
  refine z_eqi (y := R_4 21 (pa0).toNatClampNeg) rfl ?_
  have f_5 : zR 0 4 (R_4 21 (pa0).toNatClampNeg) := xR hp_4 21 (pa0).toNatClampNeg
  exact z_iret (v := R_4 21 (pa0).toNatClampNeg) hx hb hr hlocks hP hD hS dX9_giveBack_29 ⟨f_5, hp_4⟩
set_option maxHeartbeats 4000000 in
set_option maxRecDepth 100000 in
theorem xk_X9_act_2 (l : Launch) (D : va_G) (q : Nat → Nat) (cA : Nat → ClassId) (F : Nat → Nat → Int32) (I R : Nat → Nat → Int32) (J : Nat → Nat → Int64) (hI : xInv F (I, R, J)) (pa1 : Int32) (hpa1 : zR 0 23 pa1) (pa2 : Int32) (hpa2 : zR 0 1 pa2) (pa3 : Int32) (hpa3 : zR 0 1 pa3) : zMi l D vwCl (zXtys cA) 81 q (zXd q cA) yX9_act cX9_act 5 (some .int) ({ frames := 2, cells := 0, slots := 0, locals := 43 } : Room) [.ref (q 15), .int (nI 2), .int (pa1), .int (pa2), .int (pa3)] (I, R, J) (fun r u => zR 0 4 r ∧ xInv F u) := by
  intro sz
  refine z_body (by decide +kernel) (Nat.le_of_ble_eq_true rfl) (fun p e s m below meth c ls hx hb hml hr ht hown hlocks hsz hK hP hD hS hl => ?_)
  have hA : ∀ a, s.heap.size ≤ a → zA 81 q sz a := fun a h => Or.inr (hsz ▸ h)
  have hl : lv_has ls 5 [(0, .ref (q 15)), (1, .int (nI 2)), (2, .int (pa1)), (3, .int (pa2)), (4, .int (pa3))] := hl
  refine lv_iload_n hx hb dX9_act_0 rfl (lv_at hl 1 rfl) ?_
  refine lv_tableIn (off := 55) (tgt := 56) hx hb dX9_act_1 (by decide +kernel) (by decide +kernel) (by decide +kernel) (by decide) ?_
  refine lv_aload_n hx hb dX9_act_56 rfl (lv_at hl 0 rfl) ?_
  refine lv_iload_n hx hb dX9_act_57 rfl (lv_at hl 2 rfl) ?_
  refine z_callVi (k := 15) (As := [.int (pa1)]) (rest := []) hx hb hml hown ht (xk_X9_giveBack l D q cA F _ _ _ hI (pa1) hpa1) hw_3_182 hmX9_giveBack ⟨rfl, rfl⟩ (na := 1) rfl (by decide +kernel) (by decide) (by decide) rfl rfl hK hP hD hS hA hl.1 rfl (Nat.le_of_ble_eq_true rfl) ⟨Nat.zero_le _, Nat.zero_le _⟩ dX9_act_58 (fun r_1 I_1 R_1 J_1 H locs hp_1 hP hD hS _ _ => ?_)
  obtain ⟨hr_1, hu_1⟩ := hp_1
  exact z_iret (v := r_1) hx hb hr hlocks hP hD hS dX9_act_61 ⟨hr_1, hu_1⟩
set_option maxHeartbeats 4000000 in
set_option maxRecDepth 100000 in
theorem xk_X10_perform_2 (l : Launch) (D : va_G) (q : Nat → Nat) (cA : Nat → ClassId) (F : Nat → Nat → Int32) (I R : Nat → Nat → Int32) (J : Nat → Nat → Int64) (hI : xInv F (I, R, J)) (pa1 : Int32) (hpa1 : zR 0 23 pa1) (pa2 : Int32) (hpa2 : zR 0 1 pa2) (pa3 : Int32) (hpa3 : zR 0 1 pa3) : zMi l D vwCl (zXtys cA) 81 q (zXd q cA) yX10_perform cX10_perform 5 (some .int) ({ frames := 3, cells := 0, slots := 0, locals := 67 } : Room) [.ref (q 0), .int (nI 2), .int (pa1), .int (pa2), .int (pa3)] (I, R, J) (fun r u => zR 0 4 r ∧ xInv F u) := by
  intro sz
  refine z_body (by decide +kernel) (Nat.le_of_ble_eq_true rfl) (fun p e s m below meth c ls hx hb hml hr ht hown hlocks hsz hK hP hD hS hl => ?_)
  have hA : ∀ a, s.heap.size ≤ a → zA 81 q sz a := fun a h => Or.inr (hsz ▸ h)
  have hl : lv_has ls 5 [(0, .ref (q 0)), (1, .int (nI 2)), (2, .int (pa1)), (3, .int (pa2)), (4, .int (pa3))] := hl
  refine lv_aload_n hx hb dX10_perform_0 rfl (lv_at hl 0 rfl) ?_
  refine z_get hx hb ht hown hK hP ziX10 rfl 0 (by decide) 3 (by decide) hw_2_96 rfl (v := .ref (q 13)) rfl dX10_perform_1 ?_
  refine lv_iload_n hx hb dX10_perform_4 rfl (lv_at hl 1 rfl) ?_
  refine lv_iload_n hx hb dX10_perform_5 rfl (lv_at hl 2 rfl) ?_
  refine lv_iload_n hx hb dX10_perform_6 rfl (lv_at hl 3 rfl) ?_
  refine lv_iload hx hb dX10_perform_7 (lv_at hl 4 rfl) ?_
  refine z_callVv (k := 13) (As := [.int (nI 2), .int (pa1), .int (pa2), .int (pa3)]) (rest := []) hx hb hml hown ht (xk_X0_add l D q cA F _ _ _ hI (nI 2) (pa1) (pa2) (pa3) (xRec_2 zk_2 hpa1)) hw_3_157 hmX0_add ⟨rfl, rfl⟩ (na := 4) rfl (by decide +kernel) (by decide) (by decide) rfl rfl hK hP hD hS hA hl.1 rfl (Nat.le_of_ble_eq_true rfl) ⟨Nat.zero_le _, Nat.zero_le _⟩ dX10_perform_9 (fun I_1 R_1 J_1 H locs hp_1 hP hD hS _ _ => ?_)
  refine lv_aload_n hx hb dX10_perform_12 rfl (lv_at hl 0 rfl) ?_
  refine z_get hx hb ht hown hK hP ziX10 rfl 0 (by decide) 4 (by decide) hw_2_97 rfl (v := .ref (q 15)) rfl dX10_perform_13 ?_
  refine lv_iload_n hx hb dX10_perform_16 rfl (lv_at hl 1 rfl) ?_
  refine lv_iload_n hx hb dX10_perform_17 rfl (lv_at hl 2 rfl) ?_
  refine lv_iload_n hx hb dX10_perform_18 rfl (lv_at hl 3 rfl) ?_
  refine lv_iload hx hb dX10_perform_19 (lv_at hl 4 rfl) ?_
  refine z_callVi (k := 15) (As := [.int (nI 2), .int (pa1), .int (pa2), .int (pa3)]) (rest := []) hx hb hml hown ht (xk_X9_act_2 l D q cA F _ _ _ hp_1 (pa1) hpa1 (pa2) hpa2 (pa3) hpa3) hw_3_161 hmX9_act ⟨rfl, rfl⟩ (na := 4) rfl (by decide +kernel) (by decide) (by decide) rfl rfl hK hP hD hS hA hl.1 rfl (Nat.le_of_ble_eq_true rfl) ⟨Nat.zero_le _, Nat.zero_le _⟩ dX10_perform_21 (fun r_2 I_2 R_2 J_2 H locs hp_2 hP hD hS _ _ => ?_)
  obtain ⟨hr_2, hu_2⟩ := hp_2
  exact z_iret (v := r_2) hx hb hr hlocks hP hD hS dX10_perform_24 ⟨hr_2, hu_2⟩
set_option maxHeartbeats 4000000 in
set_option maxRecDepth 100000 in
theorem xk_X10_brings (l : Launch) (D : va_G) (q : Nat → Nat) (cA : Nat → ClassId) (F : Nat → Nat → Int32) (I R : Nat → Nat → Int32) (J : Nat → Nat → Int64) (hI : xInv F (I, R, J)) (pa0 : Int32) : zMi l D vwCl (zXtys cA) 81 q (zXd q cA) yX10_brings cX10_brings 2 (some .int) ({ frames := 4, cells := 0, slots := 0, locals := 91 } : Room) [.ref (q 0), .int (pa0)] (I, R, J) (fun r u => zR (-5) 4 r ∧ xInv F u) := by
  intro sz
  refine z_body (by decide +kernel) (Nat.le_of_ble_eq_true rfl) (fun p e s m below meth c ls hx hb hml hr ht hown hlocks hsz hK hP hD hS hl => ?_)
  have hA : ∀ a, s.heap.size ≤ a → zA 81 q sz a := fun a h => Or.inr (hsz ▸ h)
  have hl : lv_has ls 2 [(0, .ref (q 0)), (1, .int (pa0))] := hl
  refine lv_aload_n hx hb dX10_brings_0 rfl (lv_at hl 0 rfl) ?_
  refine lv_iload_n hx hb dX10_brings_1 rfl (lv_at hl 1 rfl) ?_
  refine z_callVi (k := 0) (As := [.int (pa0)]) (rest := []) hx hb hml hown ht (xk_X10_isPaper l D q cA F _ _ _ hI (pa0)) hw_3_107 hmX10_isPaper ⟨rfl, rfl⟩ (na := 1) rfl (by decide +kernel) (by decide) (by decide) rfl rfl hK hP hD hS hA hl.1 rfl (Nat.le_of_ble_eq_true rfl) ⟨Nat.zero_le _, Nat.zero_le _⟩ dX10_brings_2 (fun r_1 I_1 R_1 J_1 H locs hp_1 hP hD hS _ _ => ?_)
  rcases hp_1 with ⟨rfl, hu_1, f0_1⟩ | ⟨rfl, hu_1⟩
  · cases hu_1
    refine lv_if_ne (tgt := 11) hx hb dX10_brings_5 (by decide) (fun _ => ?_) (fun c_0 => absurd c_0 (zD_ne zk_1 zk_z (by decide)))
    refine lv_aload_n hx hb dX10_brings_11 rfl (lv_at hl 0 rfl) ?_
    refine z_callVi (k := 0) (As := []) (rest := []) hx hb hml hown ht (xk_X10_isFull l D q cA F _ _ _ hI ) hw_3_144 hmX10_isFull ⟨rfl, rfl⟩ (na := 0) rfl (by decide +kernel) (by decide) (by decide) rfl rfl hK hP hD hS hA hl.1 rfl (Nat.le_of_ble_eq_true rfl) ⟨Nat.zero_le _, Nat.zero_le _⟩ dX10_brings_12 (fun r_2 I_2 R_2 J_2 H locs hp_2 hP hD hS _ _ => ?_)
    rcases hp_2 with ⟨rfl, hu_2⟩ | ⟨rfl, hu_2⟩
    · cases hu_2
      refine lv_if_ne (tgt := 40) hx hb dX10_brings_15 (by decide) (fun _ => ?_) (fun c_0 => absurd c_0 (zD_ne zk_1 zk_z (by decide)))
      refine lv_bipush (v := (-5)) hx hb dX10_brings_40 (by decide +kernel) ?_
      exact z_iret (v := (-5)) hx hb hr hlocks hP hD hS dX10_brings_42 ⟨(zR_w zk_m5 (by decide)), hI⟩
    · cases hu_2
      refine lv_if_ne (tgt := 40) hx hb dX10_brings_15 (by decide) (fun c_0 => absurd (zD_eq zk_0 zk_z) c_0) (fun _ => ?_)
      refine lv_aload_n hx hb dX10_brings_18 rfl (lv_at hl 0 rfl) ?_
      refine z_get hx hb ht hown hK hP ziX10 rfl 0 (by decide) 4 (by decide) hw_2_97 rfl (v := .ref (q 15)) rfl dX10_brings_19 ?_
      refine lv_iload_n hx hb dX10_brings_22 rfl (lv_at hl 1 rfl) ?_
      refine z_callVi (k := 15) (As := [.int (pa0)]) (rest := []) hx hb hml hown ht (xk_X9_isOpen_1 l D q cA F _ _ _ hI (pa0) f0_1) hw_3_115 hmX9_isOpen ⟨rfl, rfl⟩ (na := 1) rfl (by decide +kernel) (by decide) (by decide) rfl rfl hK hP hD hS hA hl.1 rfl (Nat.le_of_ble_eq_true rfl) ⟨Nat.zero_le _, Nat.zero_le _⟩ dX10_brings_23 (fun r_3 I_3 R_3 J_3 H locs hp_3 hP hD hS _ _ => ?_)
      rcases hp_3 with ⟨rfl, hu_3⟩ | ⟨rfl, hu_3⟩
      · cases hu_3
        refine lv_if_eq (tgt := 40) hx hb dX10_brings_26 (by decide) (fun c_0 => absurd c_0 (zD_ne zk_1 zk_z (by decide))) (fun _ => ?_)
        refine lv_aload_n hx hb dX10_brings_29 rfl (lv_at hl 0 rfl) ?_
        refine z_get hx hb ht hown hK hP ziX10 rfl 0 (by decide) 4 (by decide) hw_2_97 rfl (v := .ref (q 15)) rfl dX10_brings_30 ?_
        refine lv_iload_n hx hb dX10_brings_33 rfl (lv_at hl 1 rfl) ?_
        refine z_callVi (k := 15) (As := [.int (pa0)]) (rest := []) hx hb hml hown ht (xk_X9_thiefHasIt l D q cA F _ _ _ hI (pa0) f0_1) hw_3_227 hmX9_thiefHasIt ⟨rfl, rfl⟩ (na := 1) rfl (by decide +kernel) (by decide) (by decide) rfl rfl hK hP hD hS hA hl.1 rfl (Nat.le_of_ble_eq_true rfl) ⟨Nat.zero_le _, Nat.zero_le _⟩ dX10_brings_34 (fun r_4 I_4 R_4 J_4 H locs hp_4 hP hD hS _ _ => ?_)
        rcases hp_4 with ⟨rfl, hu_4⟩ | ⟨rfl, hu_4⟩
        · cases hu_4
          refine lv_if_ne (tgt := 43) hx hb dX10_brings_37 (by decide) (fun _ => ?_) (fun c_0 => absurd c_0 (zD_ne zk_1 zk_z (by decide)))
          refine lv_aload_n hx hb dX10_brings_43 rfl (lv_at hl 0 rfl) ?_
          refine lv_iconst (v := nI 2) hx hb dX10_brings_44 (by decide +kernel) ?_
          refine lv_iload_n hx hb dX10_brings_45 rfl (lv_at hl 1 rfl) ?_
          refine lv_iconst (v := nI 0) hx hb dX10_brings_46 (by decide +kernel) ?_
          refine lv_iconst (v := nI 0) hx hb dX10_brings_47 (by decide +kernel) ?_
          refine z_callVi (k := 0) (As := [.int (nI 2), .int (pa0), .int (nI 0), .int (nI 0)]) (rest := []) hx hb hml hown ht (xk_X10_perform_2 l D q cA F _ _ _ hI (pa0) f0_1 (nI 0) (zR_w zk_0 (by decide)) (nI 0) (zR_w zk_0 (by decide))) hw_3_153 hmX10_perform ⟨rfl, rfl⟩ (na := 4) rfl (by decide +kernel) (by decide) (by decide) rfl rfl hK hP hD hS hA hl.1 rfl (Nat.le_of_ble_eq_true rfl) ⟨Nat.zero_le _, Nat.zero_le _⟩ dX10_brings_48 (fun r_5 I_5 R_5 J_5 H locs hp_5 hP hD hS _ _ => ?_)
          obtain ⟨hr_5, hu_5⟩ := hp_5
          exact z_iret (v := r_5) hx hb hr hlocks hP hD hS dX10_brings_51 ⟨(zR_w hr_5 (by decide)), hu_5⟩
        · cases hu_4
          refine lv_if_ne (tgt := 43) hx hb dX10_brings_37 (by decide) (fun c_0 => absurd (zD_eq zk_0 zk_z) c_0) (fun _ => ?_)
          refine lv_bipush (v := (-5)) hx hb dX10_brings_40 (by decide +kernel) ?_
          exact z_iret (v := (-5)) hx hb hr hlocks hP hD hS dX10_brings_42 ⟨(zR_w zk_m5 (by decide)), hI⟩
      · cases hu_3
        refine lv_if_eq (tgt := 40) hx hb dX10_brings_26 (by decide) (fun _ => ?_) (fun c_0 => absurd (zD_eq zk_0 zk_z) c_0)
        refine lv_bipush (v := (-5)) hx hb dX10_brings_40 (by decide +kernel) ?_
        exact z_iret (v := (-5)) hx hb hr hlocks hP hD hS dX10_brings_42 ⟨(zR_w zk_m5 (by decide)), hI⟩
  · cases hu_1
    refine lv_if_ne (tgt := 11) hx hb dX10_brings_5 (by decide) (fun c_0 => absurd (zD_eq zk_0 zk_z) c_0) (fun _ => ?_)
    refine lv_bipush (v := (-2)) hx hb dX10_brings_8 (by decide +kernel) ?_
    exact z_iret (v := (-2)) hx hb hr hlocks hP hD hS dX10_brings_10 ⟨(zR_w zk_m2 (by decide)), hI⟩
