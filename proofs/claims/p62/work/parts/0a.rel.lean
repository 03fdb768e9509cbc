/-! ===== z: the law: what both states have in common ===== -/
def zRel (F G : Nat → Nat → Int32) : Prop := (∀ k : Int32, 0 ≤ k.toInt → k.toInt ≤ 2 → (xkept F k = nI 0 ↔ mkept G k = nI 0)) ∧ ∀ s : Int32, 0 ≤ s.toInt → s.toInt ≤ 3 → (xlen F s).toInt = (mlen G s).toInt ∧ (xwid F s).toInt = (mwid G s).toInt
theorem zRel_w {F G : Nat → Nat → Int32} {w : Nat → Int32} (h : zRel F G) : zRel F (zr G 1 w) := h
def zBoth (u u' : zU) : Prop := ∃ F G, xInv F u ∧ mInv G u' ∧ zRel F G
theorem zRel_img {F G : Nat → Nat → Int32} {k : Int32} (h : zRel F G) (h0 : 0 ≤ k.toInt) (h2 : k.toInt ≤ 2) : zRel (ximg F k) (mimg G k) := by
  have ek : k.toNatClampNeg = k.toInt.toNat := m_nat (by omega)
  refine ⟨fun j j0 j2 => ?_, fun s s0 s3 => ?_⟩
  · have ej : j.toNatClampNeg = j.toInt.toNat := m_nat (by omega)
    by_cases e : j.toNatClampNeg = k.toNatClampNeg
    · have a : xkept (ximg F k) j = nI 1 := by unfold xkept ximg; rw [e, zp_eq]
      have b : mkept (mimg G k) j = vp_nar .boolean (nI 1) := by unfold mkept mimg; rw [e, zp_eq]
      rw [a, b]
      exact ⟨fun z => absurd z (by decide +kernel), fun z => absurd z (by decide +kernel)⟩
    · have a : xkept (ximg F k) j = xkept F j := by unfold xkept ximg; exact zp_ne (fun z => e (by omega))
      have b : mkept (mimg G k) j = mkept G j := by unfold mkept mimg; exact zp_ne (fun z => e z.2)
      rw [a, b]
      exact h.1 j j0 j2
  · have es : s.toNatClampNeg = s.toInt.toNat := m_nat (by omega)
    have a : xlen (ximg F k) s = xlen F s := by unfold xlen ximg; exact zp_ne (fun z => by omega)
    have a2 : xwid (ximg F k) s = xwid F s := by unfold xwid ximg; exact zp_ne (fun z => by omega)
    have b : mlen (mimg G k) s = mlen G s := by unfold mlen mimg; exact zp_ne (fun z => by omega)
    have b2 : mwid (mimg G k) s = mwid G s := by unfold mwid mimg; exact zp_ne (fun z => by omega)
    rw [a, a2, b, b2]
    exact h.2 s s0 s3
theorem zRel_row {F G : Nat → Nat → Int32} {k w n : Int32} (h : zRel F G) (h0 : 0 ≤ k.toInt) (h3 : k.toInt ≤ 3) : zRel (xrow F k w n) (mrow G k w n) := by
  have ek : k.toNatClampNeg = k.toInt.toNat := m_nat (by omega)
  refine ⟨fun j j0 j2 => ?_, fun s s0 s3 => ?_⟩
  · have ej : j.toNatClampNeg = j.toInt.toNat := m_nat (by omega)
    have a : xkept (xrow F k w n) j = xkept F j := by unfold xkept xrow; rw [zp_ne (fun z => by omega), zp_ne (fun z => by omega)]
    have b : mkept (mrow G k w n) j = mkept G j := by unfold mkept mrow; rw [zp_ne (fun z => by omega), zp_ne (fun z => by omega)]
    rw [a, b]
    exact h.1 j j0 j2
  · have es : s.toNatClampNeg = s.toInt.toNat := m_nat (by omega)
    by_cases e : s.toNatClampNeg = k.toNatClampNeg
    · have a : xlen (xrow F k w n) s = n := by unfold xlen xrow; rw [e, zp_eq]
      have a2 : xwid (xrow F k w n) s = w := by unfold xwid xrow; rw [e, zp_ne (fun z => by omega), zp_eq]
      have b : mlen (mrow G k w n) s = n := by unfold mlen mrow; rw [e, zp_ne (fun z => by omega), zp_eq]
      have b2 : mwid (mrow G k w n) s = w := by unfold mwid mrow; rw [e, zp_eq]
      rw [a, a2, b, b2]
      exact ⟨rfl, rfl⟩
    · have a : xlen (xrow F k w n) s = xlen F s := by unfold xlen xrow; rw [zp_ne (fun z => by omega), zp_ne (fun z => by omega)]
      have a2 : xwid (xrow F k w n) s = xwid F s := by unfold xwid xrow; rw [zp_ne (fun z => by omega), zp_ne (fun z => by omega)]
      have b : mlen (mrow G k w n) s = mlen G s := by unfold mlen mrow; rw [zp_ne (fun z => by omega), zp_ne (fun z => by omega)]
      have b2 : mwid (mrow G k w n) s = mwid G s := by unfold mwid mrow; rw [zp_ne (fun z => by omega), zp_ne (fun z => by omega)]
      rw [a, a2, b, b2]
      exact h.2 s s0 s3
theorem zl_image {F G : Nat → Nat → Int32} {I R I' R' : Nat → Nat → Int32} {J J' : Nat → Nat → Int64} {u u' : zU} {r r' pa0 : Int32} (hR : zRel F G) (hX : xInv F (I, R, J)) (hM : mInv G (I', R', J')) (h : ((pa0.toInt < 0 ∨ 2 < pa0.toInt) ∧ r = (-2) ∧ u = (I, R, J)) ∨ (¬ (pa0.toInt < 0 ∨ 2 < pa0.toInt) ∧ r = nI 0 ∧ xInv (ximg F pa0) u)) (g : ((pa0.toInt < 0 ∨ 2 < pa0.toInt) ∧ r' = (-2) ∧ u' = (I', R', J')) ∨ (¬ (pa0.toInt < 0 ∨ 2 < pa0.toInt) ∧ r' = nI 0 ∧ mInv (mimg G pa0) u')) : r = r' ∧ zBoth u u' := by
  rcases h with ⟨a, rfl, rfl⟩ | ⟨a, rfl, b⟩ <;> rcases g with ⟨c, rfl, rfl⟩ | ⟨c, rfl, d⟩
  · exact ⟨rfl, F, G, hX, hM, hR⟩
  · exact absurd a c
  · exact absurd c a
  · exact ⟨rfl, _, _, b, d, zRel_img hR (by omega) (by omega)⟩
theorem zl_back {F G : Nat → Nat → Int32} {I R I' R' : Nat → Nat → Int32} {J J' : Nat → Nat → Int64} {u u' : zU} {r r' pa0 : Int32} (hR : zRel F G) (hX : xInv F (I, R, J)) (hM : mInv G (I', R', J')) (h : ((pa0.toInt < 0 ∨ 2 < pa0.toInt) ∧ r = (-2) ∧ u = (I, R, J)) ∨ (¬ (pa0.toInt < 0 ∨ 2 < pa0.toInt) ∧ xkept F pa0 = nI 0 ∧ r = (-6) ∧ u = (I, R, J)) ∨ (¬ (pa0.toInt < 0 ∨ 2 < pa0.toInt) ∧ xkept F pa0 ≠ nI 0 ∧ r = nI 0 ∧ xInv F u)) (g : ((pa0.toInt < 0 ∨ 2 < pa0.toInt) ∧ r' = (-2) ∧ u' = (I', R', J')) ∨ (¬ (pa0.toInt < 0 ∨ 2 < pa0.toInt) ∧ mkept G pa0 = nI 0 ∧ r' = (-6) ∧ u' = (I', R', J')) ∨ (¬ (pa0.toInt < 0 ∨ 2 < pa0.toInt) ∧ mkept G pa0 ≠ nI 0 ∧ r' = nI 0 ∧ ∃ w9, mInv (zr G 1 w9) u')) : r = r' ∧ zBoth u u' := by
  have hk : ¬ (pa0.toInt < 0 ∨ 2 < pa0.toInt) → (xkept F pa0 = nI 0 ↔ mkept G pa0 = nI 0) := fun n => hR.1 pa0 (by omega) (by omega)
  rcases h with ⟨a, rfl, rfl⟩ | ⟨a, b, rfl, rfl⟩ | ⟨a, b, rfl, hu⟩ <;> rcases g with ⟨c, rfl, rfl⟩ | ⟨c, d, rfl, rfl⟩ | ⟨c, d, rfl, w9, hv⟩
  · exact ⟨rfl, F, G, hX, hM, hR⟩
  · exact absurd a c
  · exact absurd a c
  · exact absurd c a
  · exact ⟨rfl, F, G, hX, hM, hR⟩
  · exact absurd ((hk a).mp b) d
  · exact absurd c a
  · exact absurd ((hk a).mpr d) b
  · exact ⟨rfl, F, _, hu, hv, zRel_w hR⟩
theorem zl_row {F G : Nat → Nat → Int32} {I R I' R' : Nat → Nat → Int32} {J J' : Nat → Nat → Int64} {u u' : zU} {r r' pa0 pa1 pa2 : Int32} (hR : zRel F G) (hX : xInv F (I, R, J)) (hM : mInv G (I', R', J')) (h : ((pa0.toInt < 0 ∨ 3 < pa0.toInt ∨ pa1.toInt < 0 ∨ 3 < pa1.toInt ∨ 60 < pa2.toInt) ∧ r = (-2) ∧ u = (I, R, J)) ∨ (¬ (pa0.toInt < 0 ∨ 3 < pa0.toInt ∨ pa1.toInt < 0 ∨ 3 < pa1.toInt ∨ 60 < pa2.toInt) ∧ pa2.toInt < 0 ∧ r = (-3) ∧ u = (I, R, J)) ∨ (¬ (pa0.toInt < 0 ∨ 3 < pa0.toInt ∨ pa1.toInt < 0 ∨ 3 < pa1.toInt ∨ 60 < pa2.toInt) ∧ 0 ≤ pa2.toInt ∧ r = nI 0 ∧ xInv (xrow F pa0 pa1 pa2) u)) (g : ((pa0.toInt < 0 ∨ 3 < pa0.toInt ∨ pa1.toInt < 0 ∨ 3 < pa1.toInt ∨ 60 < pa2.toInt) ∧ r' = (-2) ∧ u' = (I', R', J')) ∨ (¬ (pa0.toInt < 0 ∨ 3 < pa0.toInt ∨ pa1.toInt < 0 ∨ 3 < pa1.toInt ∨ 60 < pa2.toInt) ∧ pa2.toInt < 0 ∧ r' = (-3) ∧ u' = (I', R', J')) ∨ (¬ (pa0.toInt < 0 ∨ 3 < pa0.toInt ∨ pa1.toInt < 0 ∨ 3 < pa1.toInt ∨ 60 < pa2.toInt) ∧ 0 ≤ pa2.toInt ∧ r' = nI 0 ∧ mInv (mrow G pa0 pa1 pa2) u')) : r = r' ∧ zBoth u u' := by
  rcases h with ⟨a, rfl, rfl⟩ | ⟨a, b, rfl, rfl⟩ | ⟨a, b, rfl, hu⟩ <;> rcases g with ⟨c, rfl, rfl⟩ | ⟨c, d, rfl, rfl⟩ | ⟨c, d, rfl, hv⟩
  · exact ⟨rfl, F, G, hX, hM, hR⟩
  · exact absurd a c
  · exact absurd a c
  · exact absurd c a
  · exact ⟨rfl, F, G, hX, hM, hR⟩
  · exact absurd b (by omega)
  · exact absurd c a
  · exact absurd d (by omega)
  · exact ⟨rfl, _, _, hu, hv, zRel_row hR (by omega) (by omega)⟩
theorem zl_write {F G : Nat → Nat → Int32} {I R I' R' : Nat → Nat → Int32} {J J' : Nat → Nat → Int64} {u u' : zU} {r r' pa0 pa1 : Int32} (hR : zRel F G) (hX : xInv F (I, R, J)) (hM : mInv G (I', R', J')) (h : ((pa0.toInt < 0 ∨ 3 < pa0.toInt) ∧ r = (-2) ∧ xInv F u) ∨ (¬ (pa0.toInt < 0 ∨ 3 < pa0.toInt) ∧ (xlen F pa0).toInt = -1 ∧ r = (-6) ∧ xInv F u) ∨ (¬ (pa0.toInt < 0 ∨ 3 < pa0.toInt) ∧ (xlen F pa0).toInt ≠ -1 ∧ (pa1.toInt < 0 ∨ (xlen F pa0).toInt ≤ pa1.toInt) ∧ r = (-7) ∧ xInv F u) ∨ (¬ (pa0.toInt < 0 ∨ 3 < pa0.toInt) ∧ (xlen F pa0).toInt ≠ -1 ∧ 0 ≤ pa1.toInt ∧ pa1.toInt < (xlen F pa0).toInt ∧ r = nI 0 ∧ xInv F u)) (g : ((pa0.toInt < 0 ∨ 3 < pa0.toInt) ∧ r' = (-2) ∧ mInv G u') ∨ (¬ (pa0.toInt < 0 ∨ 3 < pa0.toInt) ∧ (mlen G pa0).toInt = -1 ∧ r' = (-6) ∧ mInv G u') ∨ (¬ (pa0.toInt < 0 ∨ 3 < pa0.toInt) ∧ (mlen G pa0).toInt ≠ -1 ∧ (pa1.toInt < 0 ∨ (mlen G pa0).toInt ≤ pa1.toInt) ∧ r' = (-7) ∧ mInv G u') ∨ (¬ (pa0.toInt < 0 ∨ 3 < pa0.toInt) ∧ (mlen G pa0).toInt ≠ -1 ∧ 0 ≤ pa1.toInt ∧ pa1.toInt < (mlen G pa0).toInt ∧ r' = nI 0 ∧ mInv G u')) : r = r' ∧ zBoth u u' := by
  have hk : ¬ (pa0.toInt < 0 ∨ 3 < pa0.toInt) → (xlen F pa0).toInt = (mlen G pa0).toInt := fun n => (hR.2 pa0 (by omega) (by omega)).1
  by_cases n : (pa0.toInt < 0 ∨ 3 < pa0.toInt)
  · rcases h with ⟨_, rfl, hu⟩ | ⟨a, _⟩ | ⟨a, _⟩ | ⟨a, _⟩
    · rcases g with ⟨_, rfl, hv⟩ | ⟨c, _⟩ | ⟨c, _⟩ | ⟨c, _⟩
      · exact ⟨rfl, F, G, hu, hv, hR⟩
      all_goals exact absurd n c
    all_goals exact absurd n a
  · have e := hk n
    rcases h with ⟨a, _⟩ | ⟨_, a, rfl, hu⟩ | ⟨_, a, a2, rfl, hu⟩ | ⟨_, a, a2, a3, rfl, hu⟩
    · exact absurd a n
    all_goals rcases g with ⟨c, _⟩ | ⟨_, c, rfl, hv⟩ | ⟨_, c, c2, rfl, hv⟩ | ⟨_, c, c2, c3, rfl, hv⟩
    all_goals first | exact absurd c n | exact ⟨rfl, F, G, hu, hv, hR⟩ | (exfalso; omega)
theorem zl_paste {F G : Nat → Nat → Int32} {I R I' R' : Nat → Nat → Int32} {J J' : Nat → Nat → Int64} {u u' : zU} {r r' pa0 pa1 pa2 pa3 pa4 : Int32} (hR : zRel F G) (hX : xInv F (I, R, J)) (hM : mInv G (I', R', J')) (h : ((pa0.toInt < 0 ∨ 3 < pa0.toInt ∨ pa2.toInt < 0 ∨ 3 < pa2.toInt) ∧ r = (-2) ∧ xInv F u) ∨ (¬ (pa0.toInt < 0 ∨ 3 < pa0.toInt ∨ pa2.toInt < 0 ∨ 3 < pa2.toInt) ∧ ((xlen F pa0).toInt = -1 ∨ (xlen F pa2).toInt = -1) ∧ r = (-6) ∧ xInv F u) ∨ (¬ (pa0.toInt < 0 ∨ 3 < pa0.toInt ∨ pa2.toInt < 0 ∨ 3 < pa2.toInt) ∧ ((xlen F pa0).toInt ≠ -1 ∧ (xlen F pa2).toInt ≠ -1) ∧ (xwid F pa0).toInt ≠ (xwid F pa2).toInt ∧ r = (-8) ∧ xInv F u) ∨ (¬ (pa0.toInt < 0 ∨ 3 < pa0.toInt ∨ pa2.toInt < 0 ∨ 3 < pa2.toInt) ∧ ((xlen F pa0).toInt ≠ -1 ∧ (xlen F pa2).toInt ≠ -1) ∧ (xwid F pa0).toInt = (xwid F pa2).toInt ∧ ¬ (0 ≤ pa1.toInt ∧ 0 ≤ pa3.toInt ∧ 0 ≤ pa4.toInt ∧ pa1.toInt + pa4.toInt ≤ (xlen F pa0).toInt ∧ pa3.toInt + pa4.toInt ≤ (xlen F pa2).toInt) ∧ r = (-7) ∧ xInv F u) ∨ (¬ (pa0.toInt < 0 ∨ 3 < pa0.toInt ∨ pa2.toInt < 0 ∨ 3 < pa2.toInt) ∧ ((xlen F pa0).toInt ≠ -1 ∧ (xlen F pa2).toInt ≠ -1) ∧ (xwid F pa0).toInt = (xwid F pa2).toInt ∧ (0 ≤ pa1.toInt ∧ 0 ≤ pa3.toInt ∧ 0 ≤ pa4.toInt ∧ pa1.toInt + pa4.toInt ≤ (xlen F pa0).toInt ∧ pa3.toInt + pa4.toInt ≤ (xlen F pa2).toInt) ∧ r = nI 0 ∧ xInv F u)) (g : ((pa0.toInt < 0 ∨ 3 < pa0.toInt ∨ pa2.toInt < 0 ∨ 3 < pa2.toInt) ∧ r' = (-2) ∧ mInv G u') ∨ (¬ (pa0.toInt < 0 ∨ 3 < pa0.toInt ∨ pa2.toInt < 0 ∨ 3 < pa2.toInt) ∧ ((mlen G pa0).toInt = -1 ∨ (mlen G pa2).toInt = -1) ∧ r' = (-6) ∧ mInv G u') ∨ (¬ (pa0.toInt < 0 ∨ 3 < pa0.toInt ∨ pa2.toInt < 0 ∨ 3 < pa2.toInt) ∧ ((mlen G pa0).toInt ≠ -1 ∧ (mlen G pa2).toInt ≠ -1) ∧ (mwid G pa0).toInt ≠ (mwid G pa2).toInt ∧ r' = (-8) ∧ mInv G u') ∨ (¬ (pa0.toInt < 0 ∨ 3 < pa0.toInt ∨ pa2.toInt < 0 ∨ 3 < pa2.toInt) ∧ ((mlen G pa0).toInt ≠ -1 ∧ (mlen G pa2).toInt ≠ -1) ∧ (mwid G pa0).toInt = (mwid G pa2).toInt ∧ ¬ (0 ≤ pa1.toInt ∧ 0 ≤ pa3.toInt ∧ 0 ≤ pa4.toInt ∧ pa1.toInt + pa4.toInt ≤ (mlen G pa0).toInt ∧ pa3.toInt + pa4.toInt ≤ (mlen G pa2).toInt) ∧ r' = (-7) ∧ mInv G u') ∨ (¬ (pa0.toInt < 0 ∨ 3 < pa0.toInt ∨ pa2.toInt < 0 ∨ 3 < pa2.toInt) ∧ ((mlen G pa0).toInt ≠ -1 ∧ (mlen G pa2).toInt ≠ -1) ∧ (mwid G pa0).toInt = (mwid G pa2).toInt ∧ (0 ≤ pa1.toInt ∧ 0 ≤ pa3.toInt ∧ 0 ≤ pa4.toInt ∧ pa1.toInt + pa4.toInt ≤ (mlen G pa0).toInt ∧ pa3.toInt + pa4.toInt ≤ (mlen G pa2).toInt) ∧ r' = nI 0 ∧ mInv G u')) : r = r' ∧ zBoth u u' := by
  have hk : ¬ (pa0.toInt < 0 ∨ 3 < pa0.toInt ∨ pa2.toInt < 0 ∨ 3 < pa2.toInt) → ((xlen F pa0).toInt = (mlen G pa0).toInt ∧ (xwid F pa0).toInt = (mwid G pa0).toInt) ∧ ((xlen F pa2).toInt = (mlen G pa2).toInt ∧ (xwid F pa2).toInt = (mwid G pa2).toInt) := fun n => ⟨hR.2 pa0 (by omega) (by omega), hR.2 pa2 (by omega) (by omega)⟩
  by_cases n : (pa0.toInt < 0 ∨ 3 < pa0.toInt ∨ pa2.toInt < 0 ∨ 3 < pa2.toInt)
  · rcases h with ⟨_, rfl, hu⟩ | ⟨a, _⟩ | ⟨a, _⟩ | ⟨a, _⟩ | ⟨a, _⟩
    · rcases g with ⟨_, rfl, hv⟩ | ⟨c, _⟩ | ⟨c, _⟩ | ⟨c, _⟩ | ⟨c, _⟩
      · exact ⟨rfl, F, G, hu, hv, hR⟩
      all_goals exact absurd n c
    all_goals exact absurd n a
  · obtain ⟨⟨e1, e2⟩, e3, e4⟩ := hk n
    rcases h with ⟨a, _⟩ | ⟨_, a, rfl, hu⟩ | ⟨_, a, a2, rfl, hu⟩ | ⟨_, a, a2, a3, rfl, hu⟩ | ⟨_, a, a2, a3, rfl, hu⟩
    · exact absurd a n
    all_goals rcases g with ⟨c, _⟩ | ⟨_, c, rfl, hv⟩ | ⟨_, c, c2, rfl, hv⟩ | ⟨_, c, c2, c3, rfl, hv⟩ | ⟨_, c, c2, c3, rfl, hv⟩
    all_goals first | exact absurd c n | exact ⟨rfl, F, G, hu, hv, hR⟩ | (exfalso; omega)
theorem z_stayx {F I R I1 R1 : Nat → Nat → Int32} {J J1 : Nat → Nat → Int64} (h : xInv F (I, R, J)) (e : (I1, R1, J1) = (I, R, J)) : xInv F (I1, R1, J1) := e ▸ h
theorem z_staym {F I R I1 R1 : Nat → Nat → Int32} {J J1 : Nat → Nat → Int64} (h : mInv F (I, R, J)) (e : (I1, R1, J1) = (I, R, J)) : mInv F (I1, R1, J1) := e ▸ h
def zLA (s : State) : Nat → Prop := fun q => s.heap.size ≤ q
/-- what string constants and two statics the parsers ask for, at the law's entry -/
def zLS (Rs : (Nat → Nat) → State → Prop) (ad av : Nat → Nat) (_t9 : Nat) (s : State) : Prop :=
  vk_S 11 zLen zByt ad av (zLA s) s s.heap ∧ va_Z "java/lang/String" "COMPACT_STRINGS" "Z" (.int 1) (zLA s) s s.heap ∧ va_Zq "jdk/internal/util/Preconditions" "SIOOBE_FORMATTER" zFmt (zLA s) s s.heap ∧ Rs ad s
theorem zSS_l {Rs : (Nat → Nat) → State → Prop} (hR : ∀ (ad : Nat → Nat) (s U : State), s.WarmedH U.vm → Rs ad s → Rs ad U) {n t9 : Nat} {q ad av : Nat → Nat} {s : State} {K : zKd} {I R : Nat → Nat → Int32} {J : Nat → Nat → Int64} {H : Heap} {locs : List Loc} (h : zLS Rs ad av t9 s) (hD : va_D (zLA s) (zw n q K I R J)) (hS : va_S (zLA s) s.heap H locs) : ∀ U : State, U.heap = H → s.WarmedH U.vm → zSS Rs n q ad av t9 U := by
  intro U hU hW
  obtain ⟨h1, h2, h3, h4⟩ := h
  have mono : ∀ a, zA n q U.heap.size a → zLA s a := fun a ha => ha.elim (fun ⟨k, hk, e⟩ => e ▸ hD.2 _ _ (zw_get hk)) (fun g => Nat.le_trans (by rw [hU]; exact hS.1) g)
  have kept : ∀ a : Nat, a < s.heap.size → ¬ zLA s a → U.heap[a]? = s.heap[a]? := fun a ha hn => by rw [hU]; exact hS.2.1 a ha hn
  exact ⟨((h1.kept kept).narrow mono).moved hW.alike, ((h2.kept kept).narrow mono).moved hW.alike, ((h3.kept kept).narrow mono).moved hW.alike, hR ad s U hW h4⟩
def zLaw (p : Program) (s : State) (m : MethodId) (meth : Method) (c : Code) (b L : Nat) (xs : Nat → Int32) (D : va_G) (qx qm : Nat → Nat) (cx cm : Nat → ClassId) (ax vx am vm : Nat → Nat) (t9 : Nat) : Prop :=
  lw_At p s m meth c b L xs ∧ va_K D vwCl (zXtys cx) s ∧ va_K D vwCl (zMtys cm) s ∧ (∀ i, i < 81 → ∀ j, j < 25 → qx i ≠ qm j) ∧ L ≤ 3072 ∧ zLS zXRs ax vx t9 s ∧ zLS zMRs am vm t9 s
def zTw (D : va_G) (qx qm : Nat → Nat) (cx cm : Nat → ClassId) (s : State) (F G I R I' R' : Nat → Nat → Int32) (J J' : Nat → Nat → Int64) (H : Heap) (locs : List Loc) : Prop :=
  xInv F (I, R, J) ∧ mInv G (I', R', J') ∧ zRel F G ∧ va_P D vwCl (zw 81 qx (zXd qx cx) I R J) H ∧ va_D (zLA s) (zw 81 qx (zXd qx cx) I R J) ∧ va_P D vwCl (zw 25 qm (zMd qm cm) I' R' J') H ∧ va_D (zLA s) (zw 25 qm (zMd qm cm) I' R' J') ∧ va_S (zLA s) s.heap H locs
theorem zT_mk {D : va_G} {qx qm : Nat → Nat} {cx cm : Nat → ClassId} {s : State} {F G I R I' R' : Nat → Nat → Int32} {J J' : Nat → Nat → Int64} {H : Heap} {locs : List Loc} (a : xInv F (I, R, J)) (b : mInv G (I', R', J')) (r : zRel F G) (c : va_P D vwCl (zw 81 qx (zXd qx cx) I R J) H) (d : va_D (zLA s) (zw 81 qx (zXd qx cx) I R J)) (e : va_P D vwCl (zw 25 qm (zMd qm cm) I' R' J') H) (f : va_D (zLA s) (zw 25 qm (zMd qm cm) I' R' J')) (g : va_S (zLA s) s.heap H locs) : zTw D qx qm cx cm s F G I R I' R' J J' H locs := ⟨a, b, r, c, d, e, f, g⟩
theorem z_sub6 {L : Nat} (hL : L ≤ 3072) : (Int32.ofNat L - nI 6).toInt = (L : Int) - 6 := by
  have h1 : (Int32.ofNat L).toInt = (L : Int) := nI_toInt (n := L) (by omega)
  have h6 : (nI 6).toInt = 6 := by decide +kernel
  rw [z2_sub (by rw [h1, h6]; omega) (by rw [h1, h6]; omega), h1, h6]
theorem z_gtF {L j : Nat} (hL : L ≤ 3072) (h : j + 6 ≤ L) : ¬ (Int32.ofNat L - nI 6 < nI j) := fun g => by
  have g := Int32.lt_iff_toInt_lt.mp g
  rw [z_sub6 hL, nI_toInt (by omega)] at g
  omega
theorem z_gtT {L j : Nat} (hL : L ≤ 3072) (hj : j ≤ L) (h : ¬ j + 6 ≤ L) : Int32.ofNat L - nI 6 < nI j := by
  rw [Int32.lt_iff_toInt_lt, z_sub6 hL, nI_toInt (by omega)]
  omega
theorem z_K_l {D : va_G} {cl : List vw_C} {a b : List (ClassId × FieldType)} {U : State} (h : va_K D cl (a ++ b) U) : va_K D cl a U := ⟨h.1, fun k x hx => h.2 k x (by
  have hk : k < a.length := (List.getElem?_eq_some_iff.mp hx).1
  rw [List.getElem?_append_left hk]; exact hx)⟩
theorem z_K_r {D : va_G} {cl : List vw_C} {a b : List (ClassId × FieldType)} {U : State} (h : va_K D cl (a ++ b) U) : va_K D cl b U := ⟨h.1, fun k x hx => h.2 (a.length + k) x (by
  rw [List.getElem?_append_right (Nat.le_add_right _ _), Nat.add_sub_cancel_left]; exact hx)⟩
theorem z_bif {P : Int × Int → Prop} {c : Bool} {a b : Int × Int} (ha : P a) (hb : P b) : P (bif c then a else b) := by
  cases c
  · exact hb
  · exact ha
theorem z0_r {a b : Int} (h : a ≤ 0 ∧ 0 ≤ b) : zR a b (nI 0) := ⟨by rw [show (nI 0).toInt = 0 by decide +kernel]; exact h.1, by rw [show (nI 0).toInt = 0 by decide +kernel]; exact h.2⟩
theorem xIb_0 (k f : Nat) : (xIb k f).1 ≤ 0 ∧ 0 ≤ (xIb k f).2 := by
  unfold xIb
  repeat' first | exact (by decide) | refine z_bif (P := fun z : Int × Int => z.1 ≤ 0 ∧ 0 ≤ z.2) ?_ ?_
theorem xRb_0 (k : Nat) : (xRb k).1 ≤ 0 ∧ 0 ≤ (xRb k).2 := by
  unfold xRb
  repeat' first | exact (by decide) | refine z_bif (P := fun z : Int × Int => z.1 ≤ 0 ∧ 0 ≤ z.2) ?_ ?_
theorem mIb_0 (k f : Nat) : (mIb k f).1 ≤ 0 ∧ 0 ≤ (mIb k f).2 := by
  unfold mIb
  repeat' first | exact (by decide) | refine z_bif (P := fun z : Int × Int => z.1 ≤ 0 ∧ 0 ≤ z.2) ?_ ?_
theorem mRb_0 (k : Nat) : (mRb k).1 ≤ 0 ∧ 0 ≤ (mRb k).2 := by
  unfold mRb
  repeat' first | exact (by decide) | refine z_bif (P := fun z : Int × Int => z.1 ≤ 0 ∧ 0 ≤ z.2) ?_ ?_
theorem mB_0 {six : Int × Int} (h : six.1 ≤ 0 ∧ 0 ≤ six.2) (j : Nat) : (mB six j).1 ≤ 0 ∧ 0 ≤ (mB six j).2 := by
  unfold mB
  refine z_bif (P := fun z : Int × Int => z.1 ≤ 0 ∧ 0 ≤ z.2) (by decide) (z_bif (P := fun z : Int × Int => z.1 ≤ 0 ∧ 0 ≤ z.2) (by decide) (z_bif (P := fun z : Int × Int => z.1 ≤ 0 ∧ 0 ≤ z.2) h (z_bif (P := fun z : Int × Int => z.1 ≤ 0 ∧ 0 ≤ z.2) (by decide) (by decide))))
theorem mRj_0 (k j : Nat) : (mRj k j).1 ≤ 0 ∧ 0 ≤ (mRj k j).2 := by
  unfold mRj
  exact z_bif (P := fun z : Int × Int => z.1 ≤ 0 ∧ 0 ≤ z.2) (mB_0 (by decide) j) (z_bif (P := fun z : Int × Int => z.1 ≤ 0 ∧ 0 ≤ z.2) (mB_0 (by decide) j) (z_bif (P := fun z : Int × Int => z.1 ≤ 0 ∧ 0 ≤ z.2) (mB_0 (by decide) _) (mRb_0 k)))
theorem xInv_0 : xInv zXI0 (zXI0, zXR0, zXJ0) := by
  refine ⟨fun k f => ?_, fun k j => z0_r (xRb_0 k), fun _ _ => rfl, fun k _ i _ => ?_⟩
  · show zR _ _ (zXI0 k f)
    unfold zXI0
    cases hb : ((Nat.beq k 1 && Nat.beq f 3) || (Nat.beq f 1 && (Nat.beq k 73 || Nat.beq k 75 || Nat.beq k 77 || Nat.beq k 79))) with
    | false => exact z0_r (xIb_0 k f)
    | true =>
      simp only [Bool.or_eq_true, Bool.and_eq_true] at hb
      rcases hb with ⟨a, c⟩ | ⟨a, ((c | c) | c) | c⟩
      all_goals
        have e1 := Nat.eq_of_beq_eq_true a
        have e2 := Nat.eq_of_beq_eq_true c
        subst e1
        subst e2
        exact ⟨by decide +kernel, by decide +kernel⟩
  · show xRec (nI 0) (nI 0) (nI 0)
    exact ⟨fun _ => ⟨z0_r (by decide), z0_r (by decide)⟩, fun h => absurd h (by decide +kernel), fun h => absurd h (by decide +kernel), fun h => absurd h (by decide +kernel)⟩
theorem zMany_r (j : Nat) : zR (-1) 60 (zMany j) := by
  unfold zMany upd
  repeat' split
  all_goals first | exact ⟨by decide +kernel, by decide +kernel⟩ | exact z0_r (by decide)
theorem mA_0 : mA (fun _ => nI 0) := by
  have e : (nI 0).toInt.toNat = 0 := by decide +kernel
  refine ⟨fun i hi => ?_, ?_⟩
  · exact absurd (show i < 0 from e ▸ hi) (Nat.not_lt_zero i)
  · show mSt (fun _ => nI 0) (nI 0).toInt.toNat ≤ 24
    rw [e]; exact Nat.zero_le _
theorem mInv_0 : mInv zMR0 (zMI0, zMR0, zMJ0) := by
  refine ⟨fun k f => ?_, fun k j => ?_, fun _ _ => rfl, ⟨mA_0, fun k _ => mA_0⟩, ⟨by decide +kernel, by decide +kernel⟩⟩
  · show zR _ _ (zMI0 k f)
    unfold zMI0
    cases hb : (Nat.beq k 0 && Nat.beq f 13) with
    | false => exact z0_r (mIb_0 k f)
    | true =>
      simp only [Bool.and_eq_true] at hb
      obtain ⟨a, c⟩ := hb
      have e1 := Nat.eq_of_beq_eq_true a
      have e2 := Nat.eq_of_beq_eq_true c
      subst e1
      subst e2
      exact ⟨by decide +kernel, by decide +kernel⟩
  · show zR _ _ (zMR0 k j)
    unfold zMR0
    cases hb : Nat.beq k 21 with
    | false => exact z0_r (mRj_0 k j)
    | true =>
      have e1 := Nat.eq_of_beq_eq_true hb
      subst e1
      exact zMany_r j
theorem zRel_0 : zRel zXI0 zMR0 := by
  refine ⟨fun k k0 k2 => ?_, fun s s0 s3 => ?_⟩
  · have ek : k.toNatClampNeg = k.toInt.toNat := m_nat (by omega)
    unfold xkept mkept
    rw [ek]
    obtain ⟨n, hn⟩ : ∃ n : Nat, k.toInt.toNat = n := ⟨_, rfl⟩
    rw [hn]
    rcases (show n = 0 ∨ n = 1 ∨ n = 2 by omega) with rfl | rfl | rfl <;> exact ⟨fun _ => by decide +kernel, fun _ => by decide +kernel⟩
  · have es : s.toNatClampNeg = s.toInt.toNat := m_nat (by omega)
    unfold xlen xwid mlen mwid
    rw [es]
    obtain ⟨n, hn⟩ : ∃ n : Nat, s.toInt.toNat = n := ⟨_, rfl⟩
    rw [hn]
    rcases (show n = 0 ∨ n = 1 ∨ n = 2 ∨ n = 3 by omega) with rfl | rfl | rfl | rfl <;> exact ⟨by decide +kernel, by decide +kernel⟩
