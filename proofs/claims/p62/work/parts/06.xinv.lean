def xIb (k f : Nat) : Int × Int := bif Nat.beq k 1 && Nat.beq f 1 then (0, 800) else bif Nat.beq k 1 && Nat.beq f 5 then (0, 800) else bif Nat.beq k 1 && Nat.beq f 6 then (0, 800) else bif Nat.beq k 3 && Nat.beq f 4 then (0, 5) else bif Nat.beq k 3 && Nat.beq f 5 then (0, 6) else bif Nat.beq k 8 && Nat.beq f 4 then (0, 5) else bif Nat.beq k 8 && Nat.beq f 5 then (0, 6) else bif Nat.beq k 13 && Nat.beq f 0 then (0, 60) else bif Nat.beq k 15 && Nat.beq f 2 then (0, 24) else bif Nat.beq k 27 && Nat.beq f 2 then (0, 24) else bif Nat.beq k 39 && Nat.beq f 0 then (0, 5) else bif Nat.beq k 39 && Nat.beq f 2 then (0, 1) else bif Nat.beq k 48 && Nat.beq f 0 then (0, 1) else bif Nat.beq k 49 && Nat.beq f 4 then (0, 5) else bif Nat.beq k 49 && Nat.beq f 5 then (0, 6) else bif Nat.beq k 54 && Nat.beq f 0 then (0, 60) else bif Nat.beq k 56 && Nat.beq f 0 then (0, 1) else bif Nat.beq k 57 && Nat.beq f 4 then (0, 5) else bif Nat.beq k 57 && Nat.beq f 5 then (0, 6) else bif Nat.beq k 62 && Nat.beq f 0 then (0, 60) else bif Nat.beq k 64 && Nat.beq f 0 then (0, 1) else bif Nat.beq k 65 && Nat.beq f 4 then (0, 5) else bif Nat.beq k 65 && Nat.beq f 5 then (0, 6) else bif Nat.beq k 70 && Nat.beq f 0 then (0, 60) else bif Nat.beq k 73 && Nat.beq f 1 then ((-1), 60) else bif Nat.beq k 75 && Nat.beq f 1 then ((-1), 60) else bif Nat.beq k 77 && Nat.beq f 1 then ((-1), 60) else bif Nat.beq k 79 && Nat.beq f 1 then ((-1), 60) else ((-2147483648), 2147483647)
def xRb (k : Nat) : Int × Int := bif Nat.beq k 5 then (0, 4) else bif Nat.beq k 10 then (0, 4) else bif Nat.beq k 17 then (0, 4) else bif Nat.beq k 18 then (0, 48) else bif Nat.beq k 19 then (0, 4) else bif Nat.beq k 20 then (0, 5) else bif Nat.beq k 21 then (0, 4) else bif Nat.beq k 29 then (0, 4) else bif Nat.beq k 30 then (0, 48) else bif Nat.beq k 31 then (0, 4) else bif Nat.beq k 32 then (0, 5) else bif Nat.beq k 33 then (0, 4) else bif Nat.beq k 41 then ((-1), 23) else bif Nat.beq k 42 then ((-1), 4) else bif Nat.beq k 51 then (0, 4) else bif Nat.beq k 59 then (0, 4) else bif Nat.beq k 67 then (0, 4) else ((-2147483648), 2147483647)
def xFz (k : Nat) : Bool := Nat.beq k 48 || Nat.beq k 56 || Nat.beq k 64 || Nat.beq k 73 || Nat.beq k 75 || Nat.beq k 77 || Nat.beq k 79
def xRz (k : Nat) : Bool := Nat.beq k 14 || Nat.beq k 55 || Nat.beq k 63 || Nat.beq k 71
/-- an act that was told: what its kind asks of its numbers -/
def xRec (k a b : Int32) : Prop := (k.toInt = 0 → zR 0 4 a ∧ zR 0 5 b) ∧ (k.toInt = 1 → zR 0 23 a ∧ zR 0 4 b) ∧ (k.toInt = 2 → zR 0 23 a) ∧ (k.toInt = 3 → zR 0 23 a)
def xRecs (g : Nat → Int32) : Prop := ∀ i, i < 60 → xRec (g (4 * i)) (g (4 * i + 1)) (g (4 * i + 2))
/-- the class's state: ranges; the images' marks and the rows' heads are F's; told acts are acts -/
def xInv (F : Nat → Nat → Int32) (u : zU) : Prop := (∀ k f, zR (xIb k f).1 (xIb k f).2 (u.1 k f)) ∧ (∀ k j, zR (xRb k).1 (xRb k).2 (u.2.1 k j)) ∧ (∀ k, xFz k = true → u.1 k = F k) ∧ ∀ k, xRz k = true → xRecs (u.2.1 k)
section XINV
variable {F : Nat → Nat → Int32} {I R : Nat → Nat → Int32} {J : Nat → Nat → Int64} {u : zU}
theorem xI (h : xInv F u) (k f : Nat) : zR (xIb k f).1 (xIb k f).2 (u.1 k f) := h.1 k f
theorem xR (h : xInv F u) (k j : Nat) : zR (xRb k).1 (xRb k).2 (u.2.1 k j) := h.2.1 k j
theorem xInv_I (h : xInv F (I, R, J)) (k f : Nat) (v : Int32) (hv : zR (xIb k f).1 (xIb k f).2 v) (hz : xFz k = false) : xInv F (zp I k f v, R, J) := by
  refine ⟨fun k' f' => ?_, h.2.1, fun k' hk => ?_, h.2.2.2⟩
  · by_cases e : k' = k ∧ f' = f
    · obtain ⟨rfl, rfl⟩ := e
      show zR _ _ (zp I k' f' v k' f')
      rw [zp_eq]; exact hv
    · have e2 : zp I k f v k' f' = I k' f' := by
        by_cases ek : k' = k
        · subst ek
          exact zp_nf (fun ef => e ⟨rfl, ef⟩)
        · rw [zp_nk ek]
      show zR _ _ (zp I k f v k' f')
      rw [e2]; exact h.1 k' f'
  · have ne : k' ≠ k := fun e => by rw [e, hz] at hk; cases hk
    show zp I k f v k' = F k'
    rw [zp_nk ne]; exact h.2.2.1 k' hk
theorem xInv_R (h : xInv F (I, R, J)) (k j : Nat) (v : Int32) (hv : zR (xRb k).1 (xRb k).2 v) (hz : xRz k = false) : xInv F (I, zp R k j v, J) := by
  refine ⟨h.1, fun k' f' => ?_, h.2.2.1, fun k' hk => ?_⟩
  · by_cases e : k' = k ∧ f' = j
    · obtain ⟨rfl, rfl⟩ := e
      show zR _ _ (zp R k' f' v k' f')
      rw [zp_eq]; exact hv
    · have e2 : zp R k j v k' f' = R k' f' := by
        by_cases ek : k' = k
        · subst ek
          exact zp_nf (fun ef => e ⟨rfl, ef⟩)
        · rw [zp_nk ek]
      show zR _ _ (zp R k j v k' f')
      rw [e2]; exact h.2.1 k' f'
  · have ne : k' ≠ k := fun e => by rw [e, hz] at hk; cases hk
    show xRecs (zp R k j v k')
    rw [zp_nk ne]; exact h.2.2.2 k' hk
theorem xInv_J {J2 : Nat → Nat → Int64} (h : xInv F (I, R, J)) : xInv F (I, R, J2) := h
theorem xInv_zr (h : xInv F (I, R, J)) (k : Nat) (g : Nat → Int32) (hg : ∀ j, zR (xRb k).1 (xRb k).2 (g j)) (hr : xRz k = true → xRecs g) : xInv F (I, zr R k g, J) := by
  refine ⟨h.1, fun k' f' => ?_, h.2.2.1, fun k' hk => ?_⟩
  · show zR _ _ (zr R k g k' f')
    by_cases e : k' = k
    · subst e
      rw [zr_eq]; exact hg f'
    · rw [zr_ne e]; exact h.2.1 k' f'
  · show xRecs (zr R k g k')
    by_cases e : k' = k
    · subst e
      rw [zr_eq]; exact hr hk
    · rw [zr_ne e]; exact h.2.2.2 k' hk
theorem xInv_cp (h : xInv F (I, R, J)) (k0 k1 : Nat) {g : Nat → Int32} {sp dp n : Nat} (e : g = va_cpy (R k0) (R k1) sp dp n) (h1 : (xRb k1).1 ≤ (xRb k0).1) (h2 : (xRb k0).2 ≤ (xRb k1).2) (hz : xRz k1 = false) : xInv F (I, zr R k1 g, J) := by
  refine xInv_zr h k1 g (fun j => ?_) (fun hk => by rw [hz] at hk; cases hk)
  rw [e]
  by_cases hj : dp ≤ j ∧ j < dp + n
  · rw [pk_cpy_in hj.1 hj.2]; exact zR_w (h.2.1 k0 _) ⟨h1, h2⟩
  · rw [pk_cpy_out (by omega)]; exact h.2.1 k1 j
/-- a whole row of acts is taken over -/
theorem xInv_rec (h : xInv F (I, R, J)) (k0 k1 : Nat) {g : Nat → Int32} (e : g = va_cpy (R k0) (R k1) (nI 0).toNatClampNeg (nI 0).toNatClampNeg (nI 240).toNatClampNeg) (h0 : xRz k0 = true) (hb : xRb k1 = ((-2147483648), 2147483647)) : xInv F (I, zr R k1 g, J) := by
  have eg : ∀ j, j < 240 → g j = R k0 j := fun j hj => by
    rw [e, pk_cpy_in (by simp [show (nI 0).toNatClampNeg = 0 from rfl]) (by rw [show (nI 0).toNatClampNeg = 0 from rfl, show (nI 240).toNatClampNeg = 240 from rfl]; omega)]
    congr 1
    show 0 + (j - 0) = j
    omega
  refine xInv_zr h k1 g (fun j => by rw [hb]; exact zR_any _) (fun _ i hi => ?_)
  have := h.2.2.2 k0 h0 i hi
  rw [eg _ (by omega), eg _ (by omega), eg _ (by omega)]
  exact this
end XINV
section XSPEC
variable {F : Nat → Nat → Int32} {I R : Nat → Nat → Int32} {J : Nat → Nat → Int64}
theorem xInv_F (h : xInv F (I, R, J)) (k f : Nat) (v : Int32) (hv : zR (xIb k f).1 (xIb k f).2 v) : xInv (zp F k f v) (zp I k f v, R, J) := by
  refine ⟨fun k' f' => ?_, h.2.1, fun k' hk => ?_, h.2.2.2⟩
  · by_cases e : k' = k ∧ f' = f
    · obtain ⟨rfl, rfl⟩ := e
      show zR _ _ (zp I k' f' v k' f')
      rw [zp_eq]; exact hv
    · have e2 : zp I k f v k' f' = I k' f' := by
        by_cases ek : k' = k
        · subst ek
          exact zp_nf (fun ef => e ⟨rfl, ef⟩)
        · rw [zp_nk ek]
      show zR _ _ (zp I k f v k' f')
      rw [e2]; exact h.1 k' f'
  · show zp I k f v k' = zp F k f v k'
    have e := h.2.2.1 k' hk
    funext j
    simp only [zp]
    rw [show I k' j = F k' j from congrFun e j]
theorem xFr (h : xInv F (I, R, J)) (k f : Nat) (hz : xFz k = true) : I k f = F k f := congrFun (h.2.2.1 k hz) f
theorem xRec_0 {k a b : Int32} (hk : zR 0 0 k) (ha : zR 0 4 a) (hb : zR 0 5 b) : xRec k a b := by
  have e := zR_cst hk
  exact ⟨fun _ => ⟨ha, hb⟩, fun h => by omega, fun h => by omega, fun h => by omega⟩
theorem xRec_1 {k a b : Int32} (hk : zR 1 1 k) (ha : zR 0 23 a) (hb : zR 0 4 b) : xRec k a b := by
  have e := zR_cst hk
  exact ⟨fun h => by omega, fun _ => ⟨ha, hb⟩, fun h => by omega, fun h => by omega⟩
theorem xRec_2 {k a b : Int32} (hk : zR 2 2 k) (ha : zR 0 23 a) : xRec k a b := by
  have e := zR_cst hk
  exact ⟨fun h => by omega, fun h => by omega, fun _ => ha, fun h => by omega⟩
theorem xRec_3 {k a b : Int32} (hk : zR 3 3 k) (ha : zR 0 23 a) : xRec k a b := by
  have e := zR_cst hk
  exact ⟨fun h => by omega, fun h => by omega, fun h => by omega, fun _ => ha⟩
theorem xRec_n {k a b : Int32} {n : Int} (hk : zR n n k) (hn : 3 < n) : xRec k a b := by
  have e := zR_cst hk
  exact ⟨fun h => by omega, fun h => by omega, fun h => by omega, fun h => by omega⟩
theorem x_mul4 {c i : Int32} (hc : zR 0 59 c) (e : i = c * nI 4) : i.toInt = 4 * c.toInt := by
  have h4 : (nI 4).toInt = 4 := by decide +kernel
  obtain ⟨h1, h2⟩ := hc
  rw [e, z2_mul (by rw [h4]; omega) (by rw [h4]; omega), h4, Int.mul_comm]
theorem x_nat {x : Int32} {n : Nat} (h : x.toInt = n) : x.toNatClampNeg = n := by
  show x.toInt.toNat = n
  rw [h]; rfl
theorem xRec_at (h : xInv F (I, R, J)) {k : Nat} (hz : xRz k = true) {c i0 i1 i2 : Int32} (hc : zR 0 59 c) (e0 : i0 = c * nI 4) (e1 : i1.toInt = i0.toInt + 1) (e2 : i2.toInt = i0.toInt + 2) : xRec (R k i0.toNatClampNeg) (R k i1.toNatClampNeg) (R k i2.toNatClampNeg) := by
  have e := x_mul4 hc e0
  obtain ⟨h1, h2⟩ := hc
  obtain ⟨n, hn⟩ : ∃ n : Nat, c.toInt = n := ⟨c.toInt.toNat, by omega⟩
  have := h.2.2.2 k hz n (by omega)
  rw [x_nat (x := i0) (n := 4 * n) (by omega), x_nat (x := i1) (n := 4 * n + 1) (by omega), x_nat (x := i2) (n := 4 * n + 2) (by omega)]
  exact this
theorem xInv_add (h : xInv F (I, R, J)) {c i0 i1 i2 i3 k a b d : Int32} (hc : zR 0 59 c) (e0 : i0 = c * nI 4) (e1 : i1.toInt = i0.toInt + 1) (e2 : i2.toInt = i0.toInt + 2) (e3 : i3.toInt = i0.toInt + 3) (hrec : xRec k a b) :
    xInv F (I, zp (zp (zp (zp R 14 i0.toNatClampNeg k) 14 i1.toNatClampNeg a) 14 i2.toNatClampNeg b) 14 i3.toNatClampNeg d, J) := by
  have e := x_mul4 hc e0
  obtain ⟨h1, h2⟩ := hc
  obtain ⟨n, hn⟩ : ∃ n : Nat, c.toInt = n := ⟨c.toInt.toNat, by omega⟩
  rw [x_nat (x := i0) (n := 4 * n) (by omega), x_nat (x := i1) (n := 4 * n + 1) (by omega), x_nat (x := i2) (n := 4 * n + 2) (by omega), x_nat (x := i3) (n := 4 * n + 3) (by omega)]
  have hne : ∀ k' : Nat, k' ≠ 14 → zp (zp (zp (zp R 14 (4 * n) k) 14 (4 * n + 1) a) 14 (4 * n + 2) b) 14 (4 * n + 3) d k' = R k' := fun k' hk => by
    rw [zp_nk hk, zp_nk hk, zp_nk hk, zp_nk hk]
  refine ⟨h.1, fun k' f' => ?_, h.2.2.1, fun k' hk => ?_⟩
  · by_cases ek : k' = 14
    · subst ek
      exact zR_any _
    · show zR _ _ (zp _ 14 _ d k' f')
      rw [hne k' ek]; exact h.2.1 k' f'
  · by_cases ek : k' = 14
    · subst ek
      intro i hi
      show xRec (zp _ 14 _ d 14 _) (zp _ 14 _ d 14 _) (zp _ 14 _ d 14 _)
      by_cases ei : i = n
      · subst ei
        rw [zp_nf (by omega), zp_nf (by omega), zp_nf (by omega), zp_eq, zp_nf (by omega), zp_nf (by omega), zp_eq, zp_nf (by omega), zp_eq]
        exact hrec
      · rw [zp_nf (by omega), zp_nf (by omega), zp_nf (by omega), zp_nf (by omega), zp_nf (by omega), zp_nf (by omega), zp_nf (by omega), zp_nf (by omega), zp_nf (by omega), zp_nf (by omega), zp_nf (by omega), zp_nf (by omega)]
        exact h.2.2.2 14 hk i hi
    · show xRecs (zp _ 14 _ d k')
      rw [hne k' ek]; exact h.2.2.2 k' hk
/-- rows of told papers whose THINGS are such -/
def xSound (g : Nat → Int64) (len : Int32) : Prop := ∀ n : Nat, 4 * (n : Int) + 4 ≤ len.toInt → zL 0 5 (g (4 * n + 1))
def xSnd (g : Nat → Int64) (i : Int32) : Prop := (∃ k : Nat, i.toInt = 4 * (k : Int)) ∧ ∀ n : Nat, 4 * (n : Int) + 4 ≤ i.toInt → zL 0 5 (g (4 * n + 1))
theorem xSnd_0 {g : Nat → Int64} : xSnd g (nI 0) := by
  have h0 : (nI 0).toInt = 0 := by decide +kernel
  exact ⟨⟨0, h0⟩, fun n h => by omega⟩
theorem xSnd_step {g : Nat → Int64} {i v j : Int32} (h : xSnd g i) (hf : zL 0 5 (g v.toNatClampNeg)) (m : v.toInt = i.toInt + 1) (m2 : j.toInt = i.toInt + 4) : xSnd g j := by
  obtain ⟨⟨k, hk⟩, h2⟩ := h
  refine ⟨⟨k + 1, by omega⟩, fun n hn => ?_⟩
  by_cases hnk : n = k
  · subst hnk
    rw [x_nat (x := v) (n := 4 * n + 1) (by omega)] at hf
    exact hf
  · exact h2 n (by omega)
theorem xSnd_end {g : Nat → Int64} {i v len : Int32} (h : xSnd g i) (m : v.toInt = i.toInt + 4) (t : len.toInt < v.toInt) : xSound g len := by
  obtain ⟨⟨k, hk⟩, h2⟩ := h
  exact fun n hn => h2 n (by omega)
def xFour (i : Int32) : Prop := ∃ k : Nat, i.toInt = 4 * (k : Int)
theorem xFour_0 : xFour (nI 0) := ⟨0, by decide +kernel⟩
theorem xFour_s {i j : Int32} (h : xFour i) (m : j.toInt = i.toInt + 4) : xFour j := by
  obtain ⟨k, hk⟩ := h
  exact ⟨k + 1, by omega⟩
theorem xSound_at {g : Nat → Int64} {i v w len len' : Int32} (hs : xSound g len) (h : xFour i) (m : v.toInt = i.toInt + 1) (m4 : w.toInt = i.toInt + 4) (t : w.toInt ≤ len'.toInt) (e : len' = len) : zL 0 5 (g v.toNatClampNeg) := by
  obtain ⟨k, hk⟩ := h
  rw [e] at t
  rw [x_nat (x := v) (n := 4 * k + 1) (by omega)]
  exact hs k (by omega)
end XSPEC
theorem x_there {x : Int32} (h : zR (-1) 60 x) (n : x.toInt ≠ -1) : zR 0 60 x := by
  obtain ⟨h1, h2⟩ := h
  exact ⟨by omega, h2⟩
theorem x_nn {x : Int32} (h : 0 ≤ x.toInt) : ¬ x < 0 := fun g => by
  have := Int32.lt_iff_toInt_lt.mp g
  have z0 : (0 : Int32).toInt = 0 := by decide +kernel
  omega
theorem x_cp {a b : Int32} {L : Int} (h : 0 ≤ a.toInt ∧ 0 ≤ b.toInt ∧ a.toInt + b.toInt ≤ L) (k : L ≤ 60) : a.toNatClampNeg + b.toNatClampNeg ≤ 60 := by
  show a.toInt.toNat + b.toInt.toNat ≤ 60
  omega
def ximg (F : Nat → Nat → Int32) (k : Int32) : Nat → Nat → Int32 := zp F (48 + 8 * k.toNatClampNeg) 0 (nI 1)
def xrow (F : Nat → Nat → Int32) (s w n : Int32) : Nat → Nat → Int32 := zp (zp F (73 + 2 * s.toNatClampNeg) 0 w) (73 + 2 * s.toNatClampNeg) 1 n
def xkept (F : Nat → Nat → Int32) (k : Int32) : Int32 := F (48 + 8 * k.toNatClampNeg) 0
def xlen (F : Nat → Nat → Int32) (s : Int32) : Int32 := F (73 + 2 * s.toNatClampNeg) 1
def xwid (F : Nat → Nat → Int32) (s : Int32) : Int32 := F (73 + 2 * s.toNatClampNeg) 0
