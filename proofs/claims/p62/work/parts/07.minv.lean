def zMd (q : Nat → Nat) (cA : Nat → ClassId) : zKd := fun k i r j => match k with
  | 0 => .inr (11, [.int (i 0), .ref (q 1), .ref (q 2), .ref (q 3), .ref (q 4), .int (i 5), .ref (q 5), .int (i 7), .int (i 8), .int (i 9), .int (i 10), .int (i 11), .int (i 12), .int (i 13), .ref (q 6), .ref (q 7), .ref (q 8), .ref (q 9), .ref (q 10), .ref (q 11), .ref (q 12), .ref (q 13), .ref (q 14), .ref (q 15), .ref (q 16), .ref (q 17), .int (i 26), .int (i 27), .int (i 28), .int (i 29), .ref (q 18), .int (i 31), .ref (q 19), .int (i 33), .int (i 34), .ref (q 20), .int (i 36), .int (i 37), .int (i 38), .long (j 39), .ref (q 21), .ref (q 22), .ref (q 23), .ref (q 24)])
  | 1 => .inl (cA 1, 119, .inl r)
  | 2 => .inl (cA 2, 357, .inl r)
  | 3 => .inl (cA 3, 3, .inl r)
  | 4 => .inl (cA 4, 800, .inl r)
  | 5 => .inl (cA 5, 5, .inl r)
  | 6 => .inl (cA 6, 119, .inl r)
  | 7 => .inl (cA 7, 5, .inl r)
  | 8 => .inl (cA 8, 5, .inl r)
  | 9 => .inl (cA 9, 6, .inl r)
  | 10 => .inl (cA 10, 24, .inl r)
  | 11 => .inl (cA 11, 24, .inl r)
  | 12 => .inl (cA 12, 24, .inl r)
  | 13 => .inl (cA 13, 24, .inl r)
  | 14 => .inl (cA 14, 24, .inl r)
  | 15 => .inl (cA 15, 5, .inl r)
  | 16 => .inl (cA 16, 876, .inl r)
  | 17 => .inl (cA 17, 6, .inl r)
  | 18 => .inl (cA 18, 5, .inl r)
  | 19 => .inl (cA 19, 5, .inl r)
  | 20 => .inl (cA 20, 224, .inl r)
  | 21 => .inl (cA 21, 4, .inl r)
  | 22 => .inl (cA 22, 4, .inl r)
  | 23 => .inl (cA 23, 240, .inr (.inl j))
  | _ => .inl (cA 24, 60, .inr (.inl j))
abbrev zMtys (cA : Nat → ClassId) : List (ClassId × FieldType) := (cA 1, .int) :: (cA 2, .int) :: (cA 3, .boolean) :: (cA 4, .byte) :: (cA 5, .int) :: (cA 6, .int) :: (cA 7, .int) :: (cA 8, .int) :: (cA 9, .int) :: (cA 10, .int) :: (cA 11, .int) :: (cA 12, .int) :: (cA 13, .int) :: (cA 14, .int) :: (cA 15, .int) :: (cA 16, .int) :: (cA 17, .int) :: (cA 18, .int) :: (cA 19, .int) :: (cA 20, .int) :: (cA 21, .int) :: (cA 22, .int) :: (cA 23, .long) :: (cA 24, .long) :: []
theorem zk_7 : zR 7 7 (nI 7) := ⟨by decide +kernel, by decide +kernel⟩
theorem zk_8 : zR 8 8 (nI 8) := ⟨by decide +kernel, by decide +kernel⟩
theorem zk_17 : zR 17 17 (nI 17) := ⟨by decide +kernel, by decide +kernel⟩
theorem zk_29 : zR 29 29 (nI 29) := ⟨by decide +kernel, by decide +kernel⟩
theorem zk_119 : zR 119 119 (nI 119) := ⟨by decide +kernel, by decide +kernel⟩
theorem zk_146 : zR 146 146 (nI 146) := ⟨by decide +kernel, by decide +kernel⟩
theorem zk_238 : zR 238 238 (nI 238) := ⟨by decide +kernel, by decide +kernel⟩
theorem zk_10000 : zR 10000 10000 (nI 10000) := ⟨by decide +kernel, by decide +kernel⟩
theorem zk_100000 : zR 100000 100000 (nI 100000) := ⟨by decide +kernel, by decide +kernel⟩
theorem zk_2000000 : zR 2000000 2000000 (nI 2000000) := ⟨by decide +kernel, by decide +kernel⟩
theorem zk_3000000 : zR 3000000 3000000 (nI 3000000) := ⟨by decide +kernel, by decide +kernel⟩
theorem zk_4000000 : zR 4000000 4000000 (nI 4000000) := ⟨by decide +kernel, by decide +kernel⟩
theorem zk_5000000 : zR 5000000 5000000 (nI 5000000) := ⟨by decide +kernel, by decide +kernel⟩
theorem zkl_m1 : zL (-1) (-1) (-1 : Int64) := ⟨by decide +kernel, by decide +kernel⟩
theorem zkl_0 : zL 0 0 (0 : Int64) := ⟨by decide +kernel, by decide +kernel⟩
theorem zkl_1 : zL 1 1 (1 : Int64) := ⟨by decide +kernel, by decide +kernel⟩
theorem zkl_2 : zL 2 2 (2 : Int64) := ⟨by decide +kernel, by decide +kernel⟩
theorem zkl_3 : zL 3 3 (3 : Int64) := ⟨by decide +kernel, by decide +kernel⟩
theorem zkl_4 : zL 4 4 (4 : Int64) := ⟨by decide +kernel, by decide +kernel⟩
theorem zkl_6 : zL 6 6 (6 : Int64) := ⟨by decide +kernel, by decide +kernel⟩
theorem zkl_20 : zL 20 20 (20 : Int64) := ⟨by decide +kernel, by decide +kernel⟩
theorem zkl_40 : zL 40 40 (40 : Int64) := ⟨by decide +kernel, by decide +kernel⟩
theorem zkl_48 : zL 48 48 (48 : Int64) := ⟨by decide +kernel, by decide +kernel⟩
theorem zkl_50 : zL 50 50 (50 : Int64) := ⟨by decide +kernel, by decide +kernel⟩
theorem zkl_57 : zL 57 57 (57 : Int64) := ⟨by decide +kernel, by decide +kernel⟩
theorem zkl_60 : zL 60 60 (60 : Int64) := ⟨by decide +kernel, by decide +kernel⟩
theorem zkl_97 : zL 97 97 (97 : Int64) := ⟨by decide +kernel, by decide +kernel⟩
theorem zkl_100 : zL 100 100 (100 : Int64) := ⟨by decide +kernel, by decide +kernel⟩
theorem zkl_122 : zL 122 122 (122 : Int64) := ⟨by decide +kernel, by decide +kernel⟩
theorem zkl_500 : zL 500 500 (500 : Int64) := ⟨by decide +kernel, by decide +kernel⟩
theorem zkl_999 : zL 999 999 (999 : Int64) := ⟨by decide +kernel, by decide +kernel⟩
theorem zkl_9999 : zL 9999 9999 (9999 : Int64) := ⟨by decide +kernel, by decide +kernel⟩
theorem zkl_12345 : zL 12345 12345 (12345 : Int64) := ⟨by decide +kernel, by decide +kernel⟩
theorem zkl_1103515245 : zL 1103515245 1103515245 (1103515245 : Int64) := ⟨by decide +kernel, by decide +kernel⟩
theorem zkl_2000000000 : zL 2000000000 2000000000 (2000000000 : Int64) := ⟨by decide +kernel, by decide +kernel⟩
theorem zkl_2147483648 : zL 2147483648 2147483648 (2147483648 : Int64) := ⟨by decide +kernel, by decide +kernel⟩
def mIb (k f : Nat) : Int × Int := bif Nat.beq k 0 && Nat.beq f 5 then (0, 800) else bif Nat.beq k 0 && Nat.beq f 7 then (0, 800) else bif Nat.beq k 0 && Nat.beq f 8 then (0, 800) else bif Nat.beq k 0 && Nat.beq f 9 then (0, 800) else bif Nat.beq k 0 && Nat.beq f 12 then (0, 3) else bif Nat.beq k 0 && Nat.beq f 26 then (0, 24) else bif Nat.beq k 0 && Nat.beq f 31 then (0, 5) else ((-2147483648), 2147483647)
def mRb (k : Nat) : Int × Int := bif Nat.beq k 3 then (0, 1) else bif Nat.beq k 9 then (0, 4) else bif Nat.beq k 10 then (0, 4) else bif Nat.beq k 11 then (0, 5) else bif Nat.beq k 12 then (0, 4) else bif Nat.beq k 17 then (0, 146) else bif Nat.beq k 18 then (0, 4) else bif Nat.beq k 19 then ((-1), 23) else bif Nat.beq k 21 then ((-1), 60) else ((-2147483648), 2147483647)
def mB (six : Int × Int) (j : Nat) : Int × Int := bif Nat.beq j 3 then (0, 5) else bif Nat.beq j 4 then (0, 6) else bif Nat.beq j 6 then six else bif Nat.ble 17 j && Nat.ble j 28 && Nat.beq (j % 2) 1 then (0, 4) else ((-2147483648), 2147483647)
def mRj (k j : Nat) : Int × Int := bif Nat.beq k 1 then mB (0, 60) j else bif Nat.beq k 6 then mB (0, 0) j else bif Nat.beq k 2 then mB (0, 60) (j % 119) else mRb k
def mFz (k : Nat) : Bool := Nat.beq k 1 || Nat.beq k 3 || Nat.beq k 21 || Nat.beq k 22
def mSp (k : Nat) : Bool := Nat.beq k 1 || Nat.beq k 2 || Nat.beq k 3 || Nat.beq k 21 || Nat.beq k 22
/-- an act as the reference writes it down -/
def mAct (v : Int32) : Prop := 0 ≤ v.toInt ∧ (v.toInt / 1000000 = 0 → v.toInt % 1000000 / 10000 ≤ 4 ∧ v.toInt % 10000 / 100 ≤ 5) ∧ (v.toInt / 1000000 = 1 → v.toInt % 1000000 / 10000 ≤ 23 ∧ v.toInt % 10000 / 100 ≤ 4) ∧ (v.toInt / 1000000 = 2 → v.toInt % 1000000 / 10000 ≤ 23) ∧ (v.toInt / 1000000 = 3 → v.toInt % 1000000 / 10000 ≤ 23) ∧ (v.toInt / 1000000 = 4 → v.toInt % 1000000 / 10000 ≤ 4)
/-- how many of the first n are thefts -/
def mSt (w : Nat → Int32) : Nat → Nat
  | 0 => 0
  | n + 1 => mSt w n + (if (w (59 + n)).toInt / 1000000 = 0 then 1 else 0)
def mA (w : Nat → Int32) : Prop := (∀ i, i < (w 6).toInt.toNat → mAct (w (59 + i))) ∧ mSt w (w 6).toInt.toNat ≤ 24
/-- the reference's state -/
def mInv (F : Nat → Nat → Int32) (u : zU) : Prop := (∀ k f, zR (mIb k f).1 (mIb k f).2 (u.1 k f)) ∧ (∀ k j, zR (mRj k j).1 (mRj k j).2 (u.2.1 k j)) ∧ (∀ k, mFz k = true → u.2.1 k = F k) ∧ (mA (u.2.1 1) ∧ ∀ k, k < 3 → mA (fun i => u.2.1 2 (119 * k + i))) ∧ zL 0 2147483647 (u.2.2 0 39)
theorem zr_zr {α : Type} {F : Nat → α} {k : Nat} {a b : α} : zr (zr F k a) k b = zr F k b := by
  funext j
  by_cases h : j = k
  · subst h; rw [zr_eq, zr_eq]
  · rw [zr_ne h, zr_ne h, zr_ne h]
theorem zp_ne {α : Type} {R : Nat → Nat → α} {k j k' j' : Nat} {v : α} (h : ¬ (k' = k ∧ j' = j)) : zp R k j v k' j' = R k' j' := by
  by_cases ek : k' = k
  · subst ek; exact zp_nf (fun e => h ⟨rfl, e⟩)
  · rw [zp_nk ek]
theorem mSt_ext {w w' : Nat → Int32} : ∀ n, (∀ i, i < n → w (59 + i) = w' (59 + i)) → mSt w n = mSt w' n
  | 0, _ => rfl
  | n + 1, h => by
    show mSt w n + _ = mSt w' n + _
    rw [mSt_ext n (fun i hi => h i (Nat.lt_succ_of_lt hi)), h n (Nat.lt_succ_self n)]
theorem mSt_mono (w : Nat → Int32) {a b : Nat} (h : a ≤ b) : mSt w a ≤ mSt w b := by
  induction b with
  | zero => obtain rfl : a = 0 := by omega
            exact Nat.le_refl _
  | succ b ih =>
    rcases Nat.lt_or_ge a (b + 1) with g | g
    · exact Nat.le_trans (ih (by omega)) (Nat.le_add_right _ _)
    · obtain rfl : a = b + 1 := by omega
      exact Nat.le_refl _
theorem mA_ext {w w' : Nat → Int32} (h6 : w' 6 = w 6) (h : ∀ i, i < (w 6).toInt.toNat → w' (59 + i) = w (59 + i)) (ha : mA w) : mA w' := by
  refine ⟨fun i hi => ?_, ?_⟩
  · rw [h6] at hi; rw [h i hi]; exact ha.1 i hi
  · rw [h6, mSt_ext (w := w') (w' := w) _ h]; exact ha.2
section MINV
variable {F : Nat → Nat → Int32} {I R : Nat → Nat → Int32} {J : Nat → Nat → Int64} {u : zU}
theorem mI (h : mInv F u) (k f : Nat) : zR (mIb k f).1 (mIb k f).2 (u.1 k f) := h.1 k f
theorem mR (h : mInv F u) (k j : Nat) : zR (mRj k j).1 (mRj k j).2 (u.2.1 k j) := h.2.1 k j
theorem mFr (h : mInv F (I, R, J)) (k : Nat) (hz : mFz k = true) : R k = F k := h.2.2.1 k hz
theorem mJd (h : mInv F (I, R, J)) : zL 0 2147483647 (J 0 39) := h.2.2.2.2
theorem mInv_E (h : mInv F u) : mInv (zr F 1 (F 1)) u := by rw [zr_self]; exact h
theorem mInv_I (h : mInv F (I, R, J)) (k f : Nat) (v : Int32) (hv : zR (mIb k f).1 (mIb k f).2 v) (_ : true = true) : mInv F (zp I k f v, R, J) := by
  refine ⟨fun k' f' => ?_, h.2⟩
  show zR _ _ (zp I k f v k' f')
  by_cases e : k' = k ∧ f' = f
  · obtain ⟨rfl, rfl⟩ := e
    rw [zp_eq]; exact hv
  · rw [zp_ne e]; exact h.1 k' f'
/-- a row's place is written: what the rows' ranges ask; the rest where the row is not a special one -/
theorem mRng (h : mInv F (I, R, J)) (k j : Nat) (v : Int32) (hv : zR (mRj k j).1 (mRj k j).2 v) : ∀ k' j', zR (mRj k' j').1 (mRj k' j').2 (zp R k j v k' j') := fun k' j' => by
  by_cases e : k' = k ∧ j' = j
  · obtain ⟨rfl, rfl⟩ := e
    rw [zp_eq]; exact hv
  · rw [zp_ne e]; exact h.2.1 k' j'
theorem mInv_R (h : mInv F (I, R, J)) (k j : Nat) (v : Int32) (hv : zR (mRj k j).1 (mRj k j).2 v) (hz : mSp k = false) : mInv F (I, zp R k j v, J) := by
  have ne : ∀ k', mSp k' = true → k' ≠ k := fun k' hk e => by rw [e, hz] at hk; cases hk
  refine ⟨h.1, mRng h k j v hv, fun k' hk => ?_, ⟨?_, fun i hi => ?_⟩, h.2.2.2.2⟩
  · have : k' ≠ k := ne k' (by
      simp only [mFz, mSp, Bool.or_eq_true] at hk ⊢
      rcases hk with ((hk | hk) | hk) | hk <;> simp [hk])
    show zp R k j v k' = F k'
    rw [zp_nk this]; exact h.2.2.1 k' hk
  · show mA (zp R k j v 1)
    rw [zp_nk (ne 1 rfl)]; exact h.2.2.2.1.1
  · show mA (fun i' => zp R k j v 2 (119 * i + i'))
    rw [zp_nk (ne 2 rfl)]; exact h.2.2.2.1.2 i hi
theorem mInv_Jf (h : mInv F (I, R, J)) (v : Int64) (hv : zL 0 2147483647 v) : mInv F (I, R, zp J 0 39 v) := ⟨h.1, h.2.1, h.2.2.1, h.2.2.2.1, by show zL _ _ (zp J 0 39 v 0 39); rw [zp_eq]; exact hv⟩
theorem mInv_Ja (h : mInv F (I, R, J)) (k j : Nat) (v : Int64) (hk : 0 ≠ k) : mInv F (I, R, zp J k j v) := ⟨h.1, h.2.1, h.2.2.1, h.2.2.2.1, by show zL _ _ (zp J k j v 0 39); rw [zp_nk hk]; exact h.2.2.2.2⟩
/-- the marks of images, the heads of rows -/
theorem mInv_F (h : mInv F (I, R, J)) (k j : Nat) (v : Int32) (hv : zR (mRj k j).1 (mRj k j).2 v) (hk : k = 3 ∨ k = 21 ∨ k = 22) : mInv (zp F k j v) (I, zp R k j v, J) := by
  have n1 : (1 : Nat) ≠ k := by omega
  have n2 : (2 : Nat) ≠ k := by omega
  refine ⟨h.1, mRng h k j v hv, fun k' hk' => ?_, ⟨?_, fun i hi => ?_⟩, h.2.2.2.2⟩
  · show zp R k j v k' = zp F k j v k'
    have e := h.2.2.1 k' hk'
    funext j'
    simp only [zp]
    rw [show R k' j' = F k' j' from congrFun e j']
  · show mA (zp R k j v 1)
    rw [zp_nk n1]; exact h.2.2.2.1.1
  · show mA (fun i' => zp R k j v 2 (119 * i + i'))
    rw [zp_nk n2]; exact h.2.2.2.1.2 i hi
/-- the world's row as a whole -/
theorem mInv_W (h : mInv F (I, R, J)) (g : Nat → Int32) (hr : ∀ j, zR (mRj 1 j).1 (mRj 1 j).2 (g j)) (ha : mA g) {R' : Nat → Nat → Int32} (e1 : R' 1 = g) (en : ∀ k, k ≠ 1 → R' k = R k) : mInv (zr F 1 g) (I, R', J) := by
  refine ⟨h.1, fun k j => ?_, fun k hk => ?_, ⟨?_, fun i hi => ?_⟩, h.2.2.2.2⟩
  · show zR _ _ (R' k j)
    by_cases e : k = 1
    · subst e; rw [e1]; exact hr j
    · rw [en k e]; exact h.2.1 k j
  · show R' k = zr F 1 g k
    by_cases e : k = 1
    · subst e; rw [e1, zr_eq]
    · rw [en k e, zr_ne e]; exact h.2.2.1 k hk
  · show mA (R' 1)
    rw [e1]; exact ha
  · show mA (fun i' => R' 2 (119 * i + i'))
    rw [en 2 (by decide)]; exact h.2.2.2.1.2 i hi
theorem mWrng (h : mInv F (I, R, J)) (j : Nat) (v : Int32) (hv : zR (mRj 1 j).1 (mRj 1 j).2 v) : ∀ j', zR (mRj 1 j').1 (mRj 1 j').2 (zp R 1 j v 1 j') := fun j' => mRng h 1 j v hv 1 j'
theorem m_nat {x : Int32} {n : Nat} (h : x.toInt = n) : x.toNatClampNeg = n := by
  show x.toInt.toNat = n
  rw [h]; rfl
/-- fewer acts: back to some of them, or to none -/
theorem mInv_wd (h : mInv F (I, R, J)) (v : Int32) (h0 : 0 ≤ v.toInt) (hv : v.toInt ≤ (R 1 6).toInt) : mInv (zr F 1 (zp R 1 6 v 1)) (I, zp R 1 6 v, J) := by
  have h6 := mR h 1 6
  have h6' : zR 0 60 (R 1 6) := h6
  refine mInv_W h _ (mWrng h 6 v (show zR 0 60 v from ⟨h0, Int.le_trans hv h6'.2⟩)) ?_ rfl (fun k hk => zp_nk hk)
  have e6 : zp R 1 6 v 1 6 = v := zp_eq
  have en : ∀ i, zp R 1 6 v 1 (59 + i) = R 1 (59 + i) := fun i => zp_nf (by omega)
  obtain ⟨a1, a2⟩ := (show mA (R 1) from h.2.2.2.1.1)
  refine ⟨fun i hi => ?_, ?_⟩
  · rw [e6] at hi; rw [en]; exact a1 i (Nat.lt_of_lt_of_le hi (by show _ ≤ (R 1 6).toInt.toNat; omega))
  · rw [e6, mSt_ext (w := zp R 1 6 v 1) (w' := R 1) _ (fun i _ => en i)]
    exact Nat.le_trans (mSt_mono _ (by omega)) a2
/-- what a thing is worth, what a house wants more -/
def mTold (k : Int32) : Prop := (29 ≤ k.toInt ∧ k.toInt ≤ 58) ∨ ∃ t : Int, 0 ≤ t ∧ t ≤ 5 ∧ k.toInt = 18 + 2 * t
theorem mInv_wt (h : mInv F (I, R, J)) {i : Int32} (v : Int32) (hk : mTold i) : mInv (zr F 1 (zp R 1 i.toNatClampNeg v 1)) (I, zp R 1 i.toNatClampNeg v, J) := by
  obtain ⟨n, hn, hlo, hhi, hpar⟩ : ∃ n : Nat, i.toInt = n ∧ 18 ≤ n ∧ n ≤ 58 ∧ (n ≤ 28 → n % 2 = 0) := by
    rcases hk with hk | ⟨t, h0, h5, ht⟩
    · exact ⟨i.toInt.toNat, by omega, by omega, by omega, by omega⟩
    · exact ⟨i.toInt.toNat, by omega, by omega, by omega, by omega⟩
  rw [m_nat hn]
  have hb : mRj 1 n = ((-2147483648), 2147483647) := by
    have hc : ∀ n : Nat, n < 59 → 18 ≤ n → (n ≤ 28 → n % 2 = 0) → mRj 1 n = ((-2147483648), 2147483647) := by decide +kernel
    exact hc n (by omega) hlo hpar
  refine mInv_W h _ (mWrng h n v (by rw [hb]; exact zR_any v)) ?_ rfl (fun k hk => zp_nk hk)
  exact mA_ext (w := R 1) (zp_nf (by omega)) (fun i _ => zp_nf (by omega)) h.2.2.2.1.1
theorem mTold_w {k : Int32} (h : zR 29 58 k) : mTold k := Or.inl h
/-- an act more -/
theorem mInv_keep (h : mInv F (I, R, J)) {i a v : Int32} (h60 : (R 1 6).toInt ≠ 60) (hi : i.toInt = (R 1 6).toInt + 59) (hv : v.toInt = (R 1 6).toInt + 1) (ha : mAct a) (hs : a.toInt / 1000000 = 0 → mSt (R 1) (R 1 6).toInt.toNat ≤ 23) : mInv (zr F 1 (zp (zp R 1 i.toNatClampNeg a) 1 6 v 1)) (I, zp (zp R 1 i.toNatClampNeg a) 1 6 v, J) := by
  have h6 : zR 0 60 (R 1 6) := mR h 1 6
  obtain ⟨b1, b2⟩ := h6
  obtain ⟨n, hn⟩ : ∃ n : Nat, (R 1 6).toInt = n := ⟨(R 1 6).toInt.toNat, by omega⟩
  have hn60 : n < 60 := by omega
  rw [m_nat (x := i) (n := 59 + n) (by omega)]
  have e6 : zp (zp R 1 (59 + n) a) 1 6 v 1 6 = v := zp_eq
  have ea : zp (zp R 1 (59 + n) a) 1 6 v 1 (59 + n) = a := by rw [zp_nf (by omega), zp_eq]
  have en : ∀ i, i < n → zp (zp R 1 (59 + n) a) 1 6 v 1 (59 + i) = R 1 (59 + i) := fun i hi => by rw [zp_nf (by omega), zp_nf (by omega)]
  obtain ⟨a1, a2⟩ := h.2.2.2.1.1
  have hnn : (R 1 6).toInt.toNat = n := by omega
  have a1' : ∀ i, i < n → mAct (R 1 (59 + i)) := fun i hi => a1 i (by show i < (R 1 6).toInt.toNat; omega)
  have a2' : mSt (R 1) n ≤ 24 := by rw [← hnn]; exact a2
  rw [hnn] at hs
  have hvn : v.toInt.toNat = n + 1 := by omega
  refine mInv_W h _ (fun j => ?_) ?_ rfl (fun k hk => by rw [zp_nk hk, zp_nk hk])
  · by_cases ej : j = 6
    · subst ej
      rw [e6]; exact (show zR 0 60 v from ⟨by omega, by omega⟩)
    · rw [zp_nf ej]
      by_cases ej2 : j = 59 + n
      · subst ej2
        rw [zp_eq]
        have hb : ∀ n : Nat, n < 60 → mRj 1 (59 + n) = ((-2147483648), 2147483647) := by decide +kernel
        rw [hb n hn60]; exact zR_any a
      · rw [zp_nf ej2]; exact h.2.1 1 j
  · refine ⟨fun i hi => ?_, ?_⟩
    · rw [e6, hvn] at hi
      by_cases ei : i = n
      · subst ei; rw [ea]; exact ha
      · rw [en i (by omega)]; exact a1' i (by omega)
    · rw [e6, hvn]
      show mSt _ n + _ ≤ 24
      rw [mSt_ext (w := zp (zp R 1 (59 + n) a) 1 6 v 1) (w' := R 1) n en, ea]
      split
      · next hz => have := hs hz; omega
      · omega
theorem mKeep_old (h : mInv F (I, R, J)) {i a : Int32} (hi : i.toInt = (R 1 6).toInt + 59) : zp R 1 i.toNatClampNeg a 1 6 = R 1 6 := by
  have h6 : zR 0 60 (R 1 6) := mR h 1 6
  obtain ⟨b1, b2⟩ := h6
  refine zp_nf (fun e => ?_)
  have : i.toInt.toNat = 6 := e.symm
  omega
/-- where things are, in the world's row -/
theorem mAt (h : mInv F (I, R, J)) {t a v : Int32} (ht : zR 0 5 t) (e : a = nI 2 * t) (m : v.toInt = a.toInt + 17) : zR 0 4 (R 1 v.toNatClampNeg) := by
  obtain ⟨n, hn, rfl⟩ := z_ex (x := t) (N := 6) ht.1 (by have := ht.2; omega)
  have ea : ∀ n : Nat, n < 6 → (nI 2 * nI n).toInt = 2 * (n : Int) := by decide +kernel
  rw [e, ea n hn] at m
  rw [m_nat (x := v) (n := 17 + 2 * n) (by omega)]
  have hb : ∀ n : Nat, n < 6 → mRj 1 (17 + 2 * n) = (0, 4) := by decide +kernel
  have := mR h 1 (17 + 2 * n)
  rw [hb n hn] at this
  exact this
theorem mAct_at (h : mInv F (I, R, J)) {i v : Int32} (h0 : 0 ≤ i.toInt) (t : i.toInt < (R 1 6).toInt) (m : v.toInt = i.toInt + 59) : mAct (R 1 v.toNatClampNeg) := by
  rw [m_nat (x := v) (n := 59 + i.toInt.toNat) (by omega)]
  exact h.2.2.2.1.1.1 _ (by show _ < (R 1 6).toInt.toNat; omega)
/-- thefts told so far leave room for this one -/
theorem mSt_room (h : mInv F (I, R, J)) {i v : Int32} (h0 : 0 ≤ i.toInt) (t : i.toInt < (R 1 6).toInt) (m : v.toInt = i.toInt + 59) {p : Int32} (hp : p.toInt = (mSt (F 1) i.toInt.toNat : Int)) : (R 1 v.toNatClampNeg).toInt / 1000000 = 0 → zR 0 23 p := by
  intro hz
  rw [m_nat (x := v) (n := 59 + i.toInt.toNat) (by omega)] at hz
  have e : R 1 = F 1 := mFr h 1 rfl
  have h2 : mSt (R 1) (R 1 6).toInt.toNat ≤ 24 := h.2.2.2.1.1.2
  have h3 : mSt (R 1) (i.toInt.toNat + 1) ≤ mSt (R 1) (R 1 6).toInt.toNat := mSt_mono _ (by omega)
  have h4 : mSt (R 1) (i.toInt.toNat + 1) = mSt (R 1) i.toInt.toNat + 1 := by
    show mSt (R 1) _ + _ = _
    rw [if_pos hz]
  rw [← e] at hp
  exact ⟨by omega, by omega⟩
theorem mSt_next (h : mInv F (I, R, J)) {i i' v : Int32} (h0 : 0 ≤ i.toInt) (m : v.toInt = i.toInt + 59) (mi : i'.toInt = i.toInt + 1) {p p' : Int32} (hp : p.toInt = (mSt (F 1) i.toInt.toNat : Int)) (hq : p'.toInt = p.toInt + (if (R 1 v.toNatClampNeg).toInt / 1000000 = 0 then 1 else 0)) : p'.toInt = (mSt (F 1) i'.toInt.toNat : Int) := by
  rw [m_nat (x := v) (n := 59 + i.toInt.toNat) (by omega), mFr h 1 rfl] at hq
  rw [show i'.toInt.toNat = i.toInt.toNat + 1 by omega]
  show _ = ((mSt (F 1) i.toInt.toNat + _ : Nat) : Int)
  rw [hq, hp]
  split <;> simp
theorem mSt_end (h : mInv F (I, R, J)) {i p : Int32} (h0 : 0 ≤ i.toInt) (t : (R 1 6).toInt ≤ i.toInt) (hp : p.toInt = (mSt (F 1) i.toInt.toNat : Int)) (hi : i.toInt ≤ (R 1 6).toInt) : p.toInt = (mSt (F 1) (F 1 6).toInt.toNat : Int) := by
  have e : R 1 = F 1 := mFr h 1 rfl
  have e6 : i.toInt = (F 1 6).toInt := by rw [← e]; omega
  rw [hp, e6]
theorem m_st23 {p : Int32} {n : Nat} (hs : p.toInt = (n : Int)) (hp : zR 0 23 p) : n ≤ 23 := by
  have := hp.2
  omega
end MINV
/-! an act's numbers -/
theorem m_div {x y v : Int32} {n : Int} (hx : 0 ≤ x.toInt) (hy : zR n n y) (hn : 0 < n) (e : v = x / y) : v.toInt = x.toInt / n := by
  have ey := zR_cst hy
  rw [e, lg_idiv_nonneg hx (by omega), ey]
theorem m_rem {x y v : Int32} {n : Int} (hx : 0 ≤ x.toInt) (hy : zR n n y) (hn : 0 < n) (e : v = x - x / y * y) : v.toInt = x.toInt % n := by
  have ey := zR_cst hy
  have hy0 : 0 < y.toInt := by omega
  have e0 := lg_idiv_nonneg (x := x) (y := y) hx hy0
  have hm : x.toInt / y.toInt * y.toInt ≤ x.toInt := Int.ediv_mul_le _ (by omega)
  have hq : 0 ≤ x.toInt / y.toInt := Int.ediv_nonneg hx (by omega)
  have hp : 0 ≤ x.toInt / y.toInt * y.toInt := Int.mul_nonneg hq (by omega)
  have hX := Int32.toInt_lt x
  have e1 : (x / y * y).toInt = x.toInt / y.toInt * y.toInt := by
    rw [z2_mul, e0] <;> rw [e0] <;> omega
  rw [e, z2_sub, e1]
  · rw [ey, Int.emod_def, Int.mul_comm]
  · rw [e1]; omega
  · rw [e1]; omega
theorem mAct_ab {v a1 a b1 b k : Int32} (h : mAct v) (e1 : a1.toInt = v.toInt % 1000000) (e2 : a.toInt = a1.toInt / 10000) (e3 : b1.toInt = v.toInt % 10000) (e4 : b.toInt = b1.toInt / 100) (e5 : k.toInt = v.toInt / 1000000) : (k.toInt = 0 → zR 0 4 a ∧ zR 0 5 b) ∧ (k.toInt = 1 → zR 0 23 a ∧ zR 0 4 b) ∧ (k.toInt = 2 → zR 0 23 a) ∧ (k.toInt = 3 → zR 0 23 a) ∧ (k.toInt = 4 → zR 0 4 a) := by
  obtain ⟨h0, c0, c1, c2, c3, c4⟩ := h
  rw [e1] at e2
  rw [e3] at e4
  have pa : 0 ≤ a.toInt := by omega
  have pb : 0 ≤ b.toInt := by omega
  rw [e5]
  exact ⟨fun z => ⟨⟨pa, by rw [e2]; exact (c0 z).1⟩, ⟨pb, by rw [e4]; exact (c0 z).2⟩⟩, fun z => ⟨⟨pa, by rw [e2]; exact (c1 z).1⟩, ⟨pb, by rw [e4]; exact (c1 z).2⟩⟩, fun z => ⟨pa, by rw [e2]; exact c2 z⟩, fun z => ⟨pa, by rw [e2]; exact c3 z⟩, fun z => ⟨pa, by rw [e2]; exact c4 z⟩⟩
/-- an act, written down -/
theorem mAct_of {v a b c : Int32} {k : Int} (hv : v.toInt = 1000000 * k + 10000 * a.toInt + 100 * b.toInt + c.toInt) (hk : 0 ≤ k ∧ k ≤ 5) (ha : zR 0 23 a) (hb : zR 0 5 b) (hc : zR 0 60 c) (h0 : k = 0 → a.toInt ≤ 4) (h1 : k = 1 → b.toInt ≤ 4) (h4 : k = 4 → a.toInt ≤ 4) : mAct v ∧ v.toInt / 1000000 = k := by
  obtain ⟨a1, a2⟩ := ha
  obtain ⟨b1, b2⟩ := hb
  obtain ⟨c1, c2⟩ := hc
  have q : v.toInt / 1000000 = k := by omega
  have qa : v.toInt % 1000000 / 10000 = a.toInt := by omega
  have qb : v.toInt % 10000 / 100 = b.toInt := by omega
  refine ⟨⟨by omega, ?_, ?_, ?_, ?_, ?_⟩, q⟩
  · intro z; rw [qa, qb]; exact ⟨h0 (by omega), by omega⟩
  · intro z; rw [qa, qb]; exact ⟨by omega, h1 (by omega)⟩
  · intro z; rw [qa]; omega
  · intro z; rw [qa]; omega
  · intro z; rw [qa]; exact h4 (by omega)
theorem m_mulc {x y v : Int32} {n b : Int} (hx : zR n n x) (hy : zR 0 b y) (hn : 0 ≤ n ∧ n * b ≤ 2147483647) (e : v = x * y) : v.toInt = n * y.toInt := by
  have ex := zR_cst hx
  obtain ⟨h1, h2⟩ := hy
  have p0 : 0 ≤ n * y.toInt := Int.mul_nonneg hn.1 h1
  have p1 : n * y.toInt ≤ n * b := Int.mul_le_mul_of_nonneg_left h2 hn.1
  rw [e, z2_mul (by rw [ex]; omega) (by rw [ex]; omega), ex]
theorem m_addv {x y v : Int32} {a b c d : Int} (hx : zR a b x) (hy : zR c d y) (k : -2147483648 ≤ a + c ∧ b + d ≤ 2147483647) (e : v = x + y) : v.toInt = x.toInt + y.toInt := by
  rw [e, zR_addE hx hy k]
theorem zR_shlor {x y : Int32} (hx : zR 0 6 x) (hy : zR 0 31 y) : zR 0 223 ((x <<< (nI 5 &&& 31)) ||| y) := by
  obtain ⟨i, hi, rfl⟩ := z_ex (x := x) (N := 7) hx.1 (by have := hx.2; omega)
  obtain ⟨j, hj, rfl⟩ := z_ex (x := y) (N := 32) hy.1 (by have := hy.2; omega)
  have h : ∀ i : Nat, i < 7 → ∀ j : Nat, j < 32 → 0 ≤ ((nI i <<< (nI 5 &&& 31)) ||| nI j).toInt ∧ ((nI i <<< (nI 5 &&& 31)) ||| nI j).toInt ≤ 223 := by decide +kernel
  exact h i hi j hj
def mlen (F : Nat → Nat → Int32) (s : Int32) : Int32 := F 21 s.toNatClampNeg
def mwid (F : Nat → Nat → Int32) (s : Int32) : Int32 := F 22 s.toNatClampNeg
def mkept (F : Nat → Nat → Int32) (k : Int32) : Int32 := F 3 k.toNatClampNeg
def mrow (F : Nat → Nat → Int32) (s w n : Int32) : Nat → Nat → Int32 := zp (zp F 21 s.toNatClampNeg n) 22 s.toNatClampNeg w
def mimg (F : Nat → Nat → Int32) (k : Int32) : Nat → Nat → Int32 := zp F 3 k.toNatClampNeg (vp_nar .boolean (nI 1))
theorem m_pos {v : Int32} (h : mAct v) : zR 0 2147483647 v := ⟨h.1, (zR_any v).2⟩
theorem m_le1 {i i' x y : Int32} (m : i'.toInt = i.toInt + 1) (t : i.toInt < x.toInt) (e : x.toInt = y.toInt) : i'.toInt ≤ y.toInt := by omega
theorem m_le0 {x : Int32} (h : zR 0 60 x) : (nI 0).toInt ≤ x.toInt := by
  have h0 : (nI 0).toInt = 0 := by decide +kernel
  rw [h0]; exact h.1
theorem m_less {v x : Int32} (m : v.toInt = x.toInt + -1) : v.toInt ≤ x.toInt := by omega
theorem mTold_r {t z b v : Int32} (ht : zR 0 5 t) (e : z = nI 2 * t) (m1 : b.toInt = z.toInt + 17) (m2 : v.toInt = b.toInt + 1) : mTold v := by
  have ez := m_mulc (n := 2) (b := 5) (x := nI 2) ⟨by decide +kernel, by decide +kernel⟩ ht (by decide) e
  obtain ⟨h1, h2⟩ := ht
  exact Or.inr ⟨t.toInt, h1, h2, by omega⟩
theorem m_dn {t t' : Int32} {L : Int} (m : t'.toInt = t.toInt + -1) (h : t.toInt ≤ L) : t'.toInt ≤ L := by omega
theorem m_lt5 {t y : Int32} (ht : zR 0 6 t) (hle : t.toInt ≤ y.toInt) (hne : t.toInt ≠ y.toInt) (h6 : y.toInt ≤ 6) : zR 0 5 t := ⟨ht.1, by omega⟩
theorem m_F6 {F I R : Nat → Nat → Int32} {J : Nat → Nat → Int64} (h : mInv F (I, R, J)) : (F 1 4).toInt ≤ 6 := by
  rw [← mFr h 1 rfl]; exact (show zR 0 6 (R 1 4) from mR h 1 4).2
/-! chains -/
def mNone (g : Nat → Int32) (n h : Int32) : Prop := ∀ j : Nat, (j : Int) < n.toInt → g j ≠ h
def mDis (g : Nat → Int32) (n : Int32) : Prop := ∀ a b : Nat, (a : Int) < n.toInt → (b : Int) < n.toInt → a ≠ b → g a ≠ g b
theorem mNone_0 {g : Nat → Int32} {h : Int32} : mNone g (nI 0) h := fun j hj => by
  have h0 : (nI 0).toInt = 0 := by decide +kernel
  omega
theorem mNone_s {g : Nat → Int32} {i i' h : Int32} (hn : mNone g i h) (m : i'.toInt = i.toInt + 1) (t : (g i.toNatClampNeg).toInt ≠ h.toInt) : mNone g i' h := fun j hj e => by
  rcases Int.lt_or_le (j : Int) i.toInt with hlt | hge
  · exact hn j hlt e
  · have : i.toInt = j := by omega
    rw [m_nat this] at t
    exact t (congrArg Int32.toInt e)
theorem mNone_end {g : Nat → Int32} {i n h : Int32} (hn : mNone g i h) (t : n.toInt ≤ i.toInt) : mNone g n h := fun j hj => hn j (by omega)
theorem mDis_0 {g : Nat → Int32} : mDis g (nI 0) := fun a b ha _ => by
  have h0 : (nI 0).toInt = 0 := by decide +kernel
  omega
theorem mDis_s {R : Nat → Nat → Int32} {n n' h : Int32} (hd : mDis (R 18) n) (hn : mNone (R 18) n h) (m : n'.toInt = n.toInt + 1) (h0 : zR 0 4 n) : mDis (zp R 18 n.toNatClampNeg h 18) n' := by
  obtain ⟨k, hk⟩ : ∃ k : Nat, n.toInt = k := ⟨n.toInt.toNat, by have := h0.1; omega⟩
  rw [m_nat hk]
  have el : ∀ j, j ≠ k → zp R 18 k h 18 j = R 18 j := fun j hj => zp_nf hj
  intro a b ha hb hab
  by_cases ea : a = k
  · subst ea
    have eb : b ≠ a := fun e => hab e.symm
    rw [zp_eq, el b eb]
    exact fun e => hn b (by omega) e.symm
  · by_cases eb : b = k
    · subst eb
      rw [zp_eq, el a ea]
      exact hn a (by omega)
    · rw [el a ea, el b eb]
      exact hd a b (by omega) (by omega) hab
theorem m_pig0 : ∀ a b c d e f : Fin 5, (a == b || a == c || a == d || a == e || a == f || b == c || b == d || b == e || b == f || c == d || c == e || c == f || d == e || d == f || e == f) = true := by decide +kernel
theorem m_pig (a b c d e f : Fin 5) (h1 : a ≠ b) (h2 : a ≠ c) (h3 : a ≠ d) (h4 : a ≠ e) (h5 : a ≠ f) (h6 : b ≠ c) (h7 : b ≠ d) (h8 : b ≠ e) (h9 : b ≠ f) (k1 : c ≠ d) (k2 : c ≠ e) (k3 : c ≠ f) (k4 : d ≠ e) (k5 : d ≠ f) (k6 : e ≠ f) : False := by
  have h := m_pig0 a b c d e f
  simp [h1, h2, h3, h4, h5, h6, h7, h8, h9, k1, k2, k3, k4, k5, k6] at h
theorem m_fin {x : Int32} (h : zR 0 4 x) : ∃ k : Fin 5, x.toInt = (k.val : Int) := ⟨⟨x.toInt.toNat, by have := h.1; have := h.2; omega⟩, by have := h.1; show x.toInt = (x.toInt.toNat : Int); omega⟩
theorem mDis_room {g : Nat → Int32} {n h : Int32} (hn : zR 0 5 n) (hr : ∀ j, zR 0 4 (g j)) (hd : mDis g n) (hx : mNone g n h) (hh : zR 0 4 h) : zR 0 4 n := by
  refine ⟨hn.1, ?_⟩
  rcases Int.lt_or_le n.toInt 5 with hlt | hge
  · omega
  · exfalso
    obtain ⟨k0, e0⟩ := m_fin (hr 0)
    obtain ⟨k1, e1⟩ := m_fin (hr 1)
    obtain ⟨k2, e2⟩ := m_fin (hr 2)
    obtain ⟨k3, e3⟩ := m_fin (hr 3)
    obtain ⟨k4, e4⟩ := m_fin (hr 4)
    obtain ⟨k5, e5⟩ := m_fin hh
    have ne : ∀ {x y : Int32} {a b : Fin 5}, x.toInt = (a.val : Int) → y.toInt = (b.val : Int) → x ≠ y → a ≠ b := fun hx hy h e => h (Int32.toInt_inj.mp (by rw [hx, hy, e]))
    exact m_pig k0 k1 k2 k3 k4 k5 (ne e0 e1 (hd 0 1 (by omega) (by omega) (by decide))) (ne e0 e2 (hd 0 2 (by omega) (by omega) (by decide))) (ne e0 e3 (hd 0 3 (by omega) (by omega) (by decide))) (ne e0 e4 (hd 0 4 (by omega) (by omega) (by decide))) (ne e0 e5 (hx 0 (by omega)))
      (ne e1 e2 (hd 1 2 (by omega) (by omega) (by decide))) (ne e1 e3 (hd 1 3 (by omega) (by omega) (by decide))) (ne e1 e4 (hd 1 4 (by omega) (by omega) (by decide))) (ne e1 e5 (hx 1 (by omega)))
      (ne e2 e3 (hd 2 3 (by omega) (by omega) (by decide))) (ne e2 e4 (hd 2 4 (by omega) (by omega) (by decide))) (ne e2 e5 (hx 2 (by omega)))
      (ne e3 e4 (hd 3 4 (by omega) (by omega) (by decide))) (ne e3 e5 (hx 3 (by omega))) (ne e4 e5 (hx 4 (by omega)))
theorem m_ge1 {n : Int32} (h : zR 0 5 n) (k : 1 ≤ n.toInt) : zR 1 5 n := ⟨k, h.2⟩
theorem m_ne1 {h : Int32} (hz : zR 0 4 h) : ¬ h.toInt = -1 := fun e => by have := hz.1; omega
theorem m_one {n n' : Int32} (m : n'.toInt = n.toInt + 1) (h : zR 0 4 n) : 1 ≤ n'.toInt := by have := h.1; omega
theorem m_six {n n' : Int32} {N : Nat} (m : n'.toInt = n.toInt + 1) (hN : (6 - n.toInt).toNat < N + 1) (hn : zR 0 4 n) : (6 - n'.toInt).toNat < N := by have := hn.2; omega
/-! rows of told papers -/
def mNum (g : Nat → Int64) (s i : Int32) : Int64 := g (60 * s.toInt.toNat + i.toInt.toNat)
def mSnd (g : Nat → Int64) (s i : Int32) : Prop := ∀ n : Nat, 4 * (n : Int) + 4 ≤ i.toInt → zL 0 5 (g (60 * s.toInt.toNat + (4 * n + 1)))
def mOk (g : Nat → Int64) (s i : Int32) : Prop := zL 0 5 (g (60 * s.toInt.toNat + (i.toInt.toNat + 1)))
def mSound (F : Nat → Nat → Int32) (J : Nat → Nat → Int64) (s : Int32) : Prop := mSnd (J 23) s (mlen F s) ∧ (mlen F s).toInt % 4 = 0
theorem mNum_eq {g : Nat → Int64} {s i a v : Int32} (hs : zR 0 3 s) (hi : zR 0 59 i) (e1 : a = nI 60 * s) (e2 : v = a + i) : g v.toNatClampNeg = mNum g s i := by
  have ea := m_mulc (n := 60) (b := 3) (x := nI 60) ⟨by decide +kernel, by decide +kernel⟩ hs (by decide) e1
  obtain ⟨s1, s2⟩ := hs
  obtain ⟨i1, i2⟩ := hi
  have ev : v.toInt = a.toInt + i.toInt := by rw [e2, z2_add (by omega) (by omega)]
  show g v.toInt.toNat = g _
  congr 1
  omega
theorem mOk_of {g : Nat → Int64} {s i v : Int32} {a b : Int} (hi : zR a b i) (h0 : 0 ≤ a) (m : v.toInt = i.toInt + 1) (h : zL 0 5 (mNum g s v)) : mOk g s i := by
  have := hi.1
  show zL 0 5 (g (60 * s.toInt.toNat + (i.toInt.toNat + 1)))
  rw [show i.toInt.toNat + 1 = v.toInt.toNat by omega]
  exact h
theorem mSnd_0 {g : Nat → Int64} {s : Int32} : mSnd g s (nI 0) := fun n h => by
  have h0 : (nI 0).toInt = 0 := by decide +kernel
  omega
theorem mSnd_s {g : Nat → Int64} {s i j : Int32} (h4 : xFour i) (h : mSnd g s i) (m : j.toInt = i.toInt + 4) (ok : mOk g s i) : mSnd g s j := by
  obtain ⟨k, hk⟩ := h4
  intro n hn
  by_cases e : n = k
  · subst e
    have : i.toInt.toNat + 1 = 4 * n + 1 := by omega
    rw [← this]; exact ok
  · exact h n (by omega)
theorem mq_rem {x v : Int32} (hx : zR 0 60 x) (e : v = x - x / nI 4 * nI 4) (t : v.toInt = (0 : Int32).toInt) : x.toInt % 4 = 0 := by
  have := m_rem (n := 4) hx.1 ⟨by decide +kernel, by decide +kernel⟩ (by decide) e
  have z0 : (0 : Int32).toInt = 0 := by decide +kernel
  omega
theorem m_four {i x : Int32} {a b : Int} (h4 : xFour i) (hi : zR a b i) (t : i.toInt < x.toInt) (hq : x.toInt % 4 = 0) (hx : zR 0 60 x) : zR 0 56 i := by
  obtain ⟨k, hk⟩ := h4
  have := hx.2
  exact ⟨by omega, by omega⟩
theorem m_four2 {F R : Nat → Nat → Int32} {J : Nat → Nat → Int64} {s i : Int32} {a b : Int} (hs : mSound F J s) (h4 : xFour i) (hi : zR a b i) (t : i.toInt < (R 21 s.toNatClampNeg).toInt) (e : R 21 = F 21) (hx : zR (-1) 60 (R 21 s.toNatClampNeg)) : zR 0 56 i := by
  obtain ⟨k, hk⟩ := h4
  have hq : (R 21 s.toNatClampNeg).toInt % 4 = 0 := by rw [e]; exact hs.2
  have := hx.2
  exact ⟨by omega, by omega⟩
theorem mSound_of {F R : Nat → Nat → Int32} {J : Nat → Nat → Int64} {s i : Int32} (h : mSnd (J 23) s i) (t : (R 21 s.toNatClampNeg).toInt ≤ i.toInt) (e : R 21 = F 21) (hq : (R 21 s.toNatClampNeg).toInt % 4 = 0) : mSound F J s := by
  rw [e] at t hq
  exact ⟨fun n hn => h n (Int.le_trans (show 4 * (n : Int) + 4 ≤ (F 21 s.toNatClampNeg).toInt from hn) t), hq⟩
theorem mSound_at {F R : Nat → Nat → Int32} {J : Nat → Nat → Int64} {s i v : Int32} (hs : mSound F J s) (h4 : xFour i) (m : v.toInt = i.toInt + 1) (t : i.toInt < (R 21 s.toNatClampNeg).toInt) (e : R 21 = F 21) : zL 0 5 (mNum (J 23) s v) := by
  obtain ⟨k, hk⟩ := h4
  rw [e] at t
  have hq : (F 21 s.toNatClampNeg).toInt % 4 = 0 := hs.2
  have := hs.1 k (by show _ ≤ (F 21 s.toNatClampNeg).toInt; omega)
  show zL 0 5 (J 23 (60 * s.toInt.toNat + v.toInt.toNat))
  rw [show v.toInt.toNat = 4 * k + 1 by omega]
  exact this
/-! copying loops -/
theorem z2_nI {n b : Nat} (h : n ≤ b) (hb : b < 2 ^ 31) : zR 0 b (nI n) := ⟨by rw [nI_toInt (by omega)]; omega, by rw [nI_toInt (by omega)]; omega⟩
theorem m_cpy_s {R : Nat → Nat → Int32} {c : Nat} {f g : Nat → Int32} {sp dp n j : Nat} {v : Int32} (hj : j = dp + n) (hv : v = f (sp + n)) : zp (zr R c (va_cpy f g sp dp n)) c j v = zr R c (va_cpy f g sp dp (n + 1)) := by
  rw [zp_zr]
  congr 1
  funext i
  subst hj
  subst hv
  by_cases e : i = dp + n
  · subst e
    rw [Nat.beq_refl, cond_true, pk_cpy_in (by omega) (by omega)]
    congr 1
    omega
  · rw [z_beq e, cond_false]
    by_cases h : dp ≤ i ∧ i < dp + n
    · rw [pk_cpy_in h.1 h.2, pk_cpy_in h.1 (by omega)]
    · rw [pk_cpy_out (by omega), pk_cpy_out (by omega)]
theorem m_cpy_0 {R : Nat → Nat → Int32} {c : Nat} {f : Nat → Int32} {sp dp : Nat} : zr R c (va_cpy f (R c) sp dp 0) = R := by
  have : va_cpy f (R c) sp dp 0 = R c := by
    funext i
    exact pk_cpy_out (by omega)
  rw [this, zr_self]
section MCPY
variable {F : Nat → Nat → Int32} {I R : Nat → Nat → Int32} {J : Nat → Nat → Int64}
theorem mInv_img (h : mInv F (I, R, J)) (k : Nat) (hk : k < 3) : mInv F (I, zr R 2 (va_cpy (R 1) (R 2) 0 (119 * k) 119), J) := by
  have e2 : ∀ i, i < 119 → va_cpy (R 1) (R 2) 0 (119 * k) 119 (119 * k + i) = R 1 i := fun i hi => by
    rw [pk_cpy_in (by omega) (by omega)]; congr 1; omega
  have en : ∀ k', k' < 3 → k' ≠ k → ∀ i, i < 119 → va_cpy (R 1) (R 2) 0 (119 * k) 119 (119 * k' + i) = R 2 (119 * k' + i) := fun k' _ hne i hi => pk_cpy_out (by
    rcases Nat.lt_or_ge k' k with g | g
    · left; have : 119 * k' + 119 ≤ 119 * k := by omega
      omega
    · right; have : 119 * k + 119 ≤ 119 * k' := by omega
      omega)
  have b6 : ∀ w : Nat → Int32, zR 0 60 (w 6) → ∀ i, i < (w 6).toInt.toNat → 59 + i < 119 := fun w hw i hi => by have := hw.2; omega
  refine ⟨h.1, fun c j => ?_, fun c hc => ?_, ⟨?_, fun k' hk' => ?_⟩, h.2.2.2.2⟩
  · show zR _ _ (zr R 2 (va_cpy (R 1) (R 2) 0 (119 * k) 119) c j)
    by_cases e : c = 2
    · subst e
      rw [zr_eq]
      by_cases hj : 119 * k ≤ j ∧ j < 119 * k + 119
      · rw [pk_cpy_in hj.1 hj.2]
        have : mRj 2 j = mRj 1 (0 + (j - 119 * k)) := by
          show mB (0, 60) (j % 119) = mB (0, 60) (0 + (j - 119 * k))
          congr 1
          omega
        rw [this]; exact h.2.1 1 _
      · rw [pk_cpy_out (by omega)]; exact h.2.1 2 j
    · rw [zr_ne e]; exact h.2.1 c j
  · have e : c ≠ 2 := fun e => by rw [e] at hc; cases hc
    show zr R 2 (va_cpy (R 1) (R 2) 0 (119 * k) 119) c = F c
    rw [zr_ne e]; exact h.2.2.1 c hc
  · show mA (zr R 2 (va_cpy (R 1) (R 2) 0 (119 * k) 119) 1)
    rw [zr_ne (by decide)]; exact h.2.2.2.1.1
  · show mA (fun i => zr R 2 (va_cpy (R 1) (R 2) 0 (119 * k) 119) 2 (119 * k' + i))
    rw [zr_eq]
    by_cases e : k' = k
    · subst e
      exact mA_ext (w := R 1) (e2 6 (by omega)) (fun i hi => e2 _ (b6 (R 1) (mR h 1 6) i hi)) h.2.2.2.1.1
    · have h6 : zR 0 60 (R 2 (119 * k' + 6)) := by
        have := mR h 2 (119 * k' + 6)
        have e6 : mRj 2 (119 * k' + 6) = (0, 60) := by
          show mB (0, 60) ((119 * k' + 6) % 119) = _
          rw [show (119 * k' + 6) % 119 = 6 by omega]; rfl
        rw [e6] at this
        exact this
      exact mA_ext (w := fun i => R 2 (119 * k' + i)) (en k' hk' e 6 (by omega)) (fun i hi => en k' hk' e _ (by have := b6 (fun i => R 2 (119 * k' + i)) h6 i hi; omega)) (h.2.2.2.1.2 k' hk')
/-- the world is taken from elsewhere, place by place -/
theorem mInv_from (h : mInv F (I, R, J)) (f : Nat → Int32) (sp : Nat) (hr : ∀ j, j < 119 → zR (mRj 1 j).1 (mRj 1 j).2 (f (sp + j))) (ha : mA (fun i => f (sp + i))) : mInv (zr F 1 (va_cpy f (R 1) sp 0 119)) (I, zr R 1 (va_cpy f (R 1) sp 0 119), J) := by
  have ei : ∀ j, j < 119 → va_cpy f (R 1) sp 0 119 j = f (sp + j) := fun j hj => by rw [pk_cpy_in (by omega) (by omega)]; congr 1
  refine mInv_W h _ (fun j => ?_) ?_ zr_eq (fun k hk => zr_ne hk)
  · rcases Nat.lt_or_ge j 119 with hj | hj
    · rw [ei j hj]; exact hr j hj
    · rw [pk_cpy_out (by omega)]; exact h.2.1 1 j
  · have h6 : zR 0 60 (f (sp + 6)) := hr 6 (by omega)
    have hb : ∀ i, i < (f (sp + 6)).toInt.toNat → 59 + i < 119 := fun i hi => by have := h6.2; omega
    exact mA_ext (w := fun i => f (sp + i)) (ei 6 (by omega)) (fun i hi => ei _ (hb i hi)) ha
theorem mInv_bk (h : mInv F (I, R, J)) (k : Nat) (hk : k < 3) : mInv (zr F 1 (va_cpy (R 2) (R 1) (119 * k) 0 119)) (I, zr R 1 (va_cpy (R 2) (R 1) (119 * k) 0 119), J) := by
  refine mInv_from h (R 2) (119 * k) (fun j hj => ?_) (h.2.2.2.1.2 k hk)
  have := mR h 2 (119 * k + j)
  have e : mRj 2 (119 * k + j) = mRj 1 j := by
    show mB (0, 60) ((119 * k + j) % 119) = mB (0, 60) j
    congr 1
    omega
  rw [e] at this
  exact this
theorem mInv_cy (h : mInv F (I, R, J)) : mInv (zr F 1 (va_cpy (R 6) (R 1) 0 0 119)) (I, zr R 1 (va_cpy (R 6) (R 1) 0 0 119), J) := by
  have h6 : zR 0 0 (R 6 6) := mR h 6 6
  have e0 : ∀ i, (fun i => R 6 (0 + i)) i = R 6 i := fun i => by show R 6 (0 + i) = R 6 i; rw [Nat.zero_add]
  refine mInv_from h (R 6) 0 (fun j hj => ?_) ⟨fun i hi => ?_, ?_⟩
  · rw [Nat.zero_add]
    have := mR h 6 j
    by_cases e6 : j = 6
    · subst e6; exact zR_w h6 (by decide)
    · have e : mRj 6 j = mRj 1 j := by
        show mB (0, 0) j = mB (0, 60) j
        simp only [mB, z_beq e6, cond_false]
      rw [e] at this
      exact this
  · have : i < (R 6 6).toInt.toNat := by rw [e0 6] at hi; exact hi
    have := h6.2
    omega
  · rw [e0 6]
    have : (R 6 6).toInt.toNat = 0 := by have := h6.1; have := h6.2; omega
    rw [this]
    exact Nat.zero_le _
theorem mInv_zero (h : mInv F (I, R, J)) : mInv F (I, zr R 6 (va_cpy (fun _ => nI 0) (R 6) 0 0 119), J) := by
  have z : ∀ j, zR (mRj 6 j).1 (mRj 6 j).2 (nI 0) := fun j => by
    have hz : zR 0 0 (nI 0) := ⟨by decide +kernel, by decide +kernel⟩
    show zR (mB (0, 0) j).1 (mB (0, 0) j).2 (nI 0)
    unfold mB
    cases Nat.beq j 3 <;> cases Nat.beq j 4 <;> cases Nat.beq j 6 <;> cases (Nat.ble 17 j && Nat.ble j 28 && Nat.beq (j % 2) 1) <;> exact zR_w hz (by decide)
  refine ⟨h.1, fun c j => ?_, fun c hc => ?_, ⟨?_, fun k' hk' => ?_⟩, h.2.2.2.2⟩
  · show zR _ _ (zr R 6 (va_cpy (fun _ => nI 0) (R 6) 0 0 119) c j)
    by_cases e : c = 6
    · subst e
      rw [zr_eq]
      by_cases hj : 0 ≤ j ∧ j < 0 + 119
      · rw [pk_cpy_in hj.1 hj.2]; exact z j
      · rw [pk_cpy_out (by omega)]; exact h.2.1 6 j
    · rw [zr_ne e]; exact h.2.1 c j
  · have e : c ≠ 6 := fun e => by rw [e] at hc; cases hc
    show zr R 6 (va_cpy (fun _ => nI 0) (R 6) 0 0 119) c = F c
    rw [zr_ne e]; exact h.2.2.1 c hc
  · show mA (zr R 6 (va_cpy (fun _ => nI 0) (R 6) 0 0 119) 1)
    rw [zr_ne (by decide)]; exact h.2.2.2.1.1
  · show mA (fun i => zr R 6 (va_cpy (fun _ => nI 0) (R 6) 0 0 119) 2 (119 * k' + i))
    rw [zr_ne (by decide)]; exact h.2.2.2.1.2 k' hk'
end MCPY
/-- so many numbers from one on, in a row of a slot -/
theorem m_pidx {s i x a b v : Int32} {n : Int} (hs : zR 0 3 s) (e1 : a = nI 60 * s) (e2 : b = a + i) (e3 : v = b + x) (hi : 0 ≤ i.toInt) (hx : 0 ≤ x.toInt) (t : x.toInt < n) (hn : i.toInt + n ≤ 60) : vp_in v 240 := by
  have ea := m_mulc (n := 60) (b := 3) (x := nI 60) ⟨by decide +kernel, by decide +kernel⟩ hs (by decide) e1
  obtain ⟨s1, s2⟩ := hs
  have eb : b.toInt = a.toInt + i.toInt := by rw [e2, z2_add (by omega) (by omega)]
  have ev : v.toInt = b.toInt + x.toInt := by rw [e3, z2_add (by omega) (by omega)]
  exact z_vin (by omega) (by omega)
theorem m_lsum {i n : Int32} {j : Int64} (e : j = i.toInt64 + n.toInt64) : j.toInt = i.toInt + n.toInt := by
  have h1 := zR_any i
  have h2 := zR_any n
  obtain ⟨a, b⟩ := h1
  obtain ⟨c, d⟩ := h2
  rw [e, z2_addL (by rw [z_i2l, z_i2l]; omega) (by rw [z_i2l, z_i2l]; omega), z_i2l, z_i2l]
theorem zR_abs2 {a b c d : Int} {x : Int32} (h : zR a b x) (g : zR c d x) (k : b < c ∨ d < a) : False := by
  obtain ⟨h1, h2⟩ := h
  obtain ⟨g1, g2⟩ := g
  omega
theorem m_lt1 {a b c : Int} (h : a ≤ b) (e : c = b + 1) : a < c := by omega
/-- the parser's state never goes back: a fault stays, or the place grows -/
def mTr (I I' : Nat → Nat → Int32) : Prop := (zR 1 3 (I 0 12) → zR 1 3 (I' 0 12)) ∧ (zR 1 3 (I' 0 12) ∨ ((I 0 8).toInt ≤ (I' 0 8).toInt ∧ ((I' 0 10).toInt ≠ 0 → (I 0 8).toInt < (I' 0 8).toInt)))
def mQ (I I' : Nat → Nat → Int32) : Prop := zR 1 3 (I' 0 12) ∨ (I 0 8).toInt < (I' 0 8).toInt
theorem mTr_t {I I1 I2 : Nat → Nat → Int32} (a : mTr I I1) (b : mTr I1 I2) : mTr I I2 := by
  refine ⟨fun h => b.1 (a.1 h), ?_⟩
  rcases b.2 with h | ⟨h1, h2⟩
  · exact Or.inl h
  rcases a.2 with g | ⟨g1, g2⟩
  · exact Or.inl (b.1 g)
  exact Or.inr ⟨Int.le_trans g1 h1, fun n => Int.lt_of_le_of_lt g1 (h2 n)⟩
theorem mTr_f {I I1 : Nat → Nat → Int32} (h : zR 1 3 (I1 0 12)) : mTr I I1 := ⟨fun _ => h, Or.inl h⟩
theorem mTr_end {I I1 : Nat → Nat → Int32} (e : I1 0 12 = I 0 12) (h : (I 0 8).toInt ≤ (I1 0 8).toInt) (t : I1 0 10 = nI 0) : mTr I I1 := ⟨fun z => zR_eq e z, Or.inr ⟨h, fun n => absurd ((congrArg Int32.toInt t).trans (by decide +kernel)) n⟩⟩
theorem mTr_adv {I I1 : Nat → Nat → Int32} (e : I1 0 12 = I 0 12) (h : (I 0 8).toInt < (I1 0 8).toInt) : mTr I I1 := ⟨fun z => zR_eq e z, Or.inr ⟨Int.le_of_lt h, fun _ => h⟩⟩
theorem mTr_fin {I I1 I2 : Nat → Nat → Int32} {y : Int32} (a : mTr I I1) (t : (I1 0 10).toInt = y.toInt) (b : mTr I1 I2) (hy : y.toInt ≠ 0 := by decide +kernel) : mQ I I2 := by
  rcases b.2 with h | ⟨h1, h2⟩
  · exact Or.inl h
  rcases a.2 with g | ⟨g1, g2⟩
  · exact Or.inl (b.1 g)
  exact Or.inr (Int.lt_of_lt_of_le (g2 (by rw [t]; exact hy)) h1)
def mMs (I : Nat → Nat → Int32) : Nat := if 1 ≤ (I 0 12).toInt then 0 else (801 - (I 0 8).toInt).toNat
theorem mMs_dec {I I' : Nat → Nat → Int32} {N : Nat} (h0 : zR 0 0 (I 0 12)) (h8 : zR 0 800 (I 0 8)) (hq : mQ I I') (hN : mMs I < N + 1) : mMs I' < N := by
  have e0 := zR_cst h0
  obtain ⟨h1, h2⟩ := h8
  unfold mMs at hN ⊢
  rw [if_neg (by omega)] at hN
  rcases hq with h | h
  · rw [if_pos h.1]; omega
  · split <;> omega
def zch (i k : Nat) : Int32 := ((((zByt.getD i []).getD k 0) &&& (nI 255)).toUInt32 % 65536).toInt32
def mA3 (i : Nat) (I : Nat → Nat → Int32) : Prop := zR 0 0 (I 0 12) ∧ (I 0 10).toInt = (nI 1).toInt ∧ (I 0 8 - I 0 9).toInt = ((zLen.getD i 0 : Nat) : Int)
/-- the word that stands there is the i-th constant -/
def mIs (i : Nat) (I R : Nat → Nat → Int32) : Prop := mA3 i I ∧ ∀ j, j < zLen.getD i 0 → (R 4 ((I 0 9).toInt.toNat + j)).toInt = (zch i j).toInt
def mIsL (i : Nat) (I R : Nat → Nat → Int32) (k b : Int32) : Prop := mA3 i I ∧ ((b.toInt = 1 ∧ ∀ j, j < k.toInt.toNat → (R 4 ((I 0 9).toInt.toNat + j)).toInt = (zch i j).toInt) ∨ (b.toInt = 0 ∧ ¬ mIs i I R))
def mIxe (x k z : Int32) : Prop := z.toNatClampNeg = x.toInt.toNat + k.toInt.toNat ∧ k.toNatClampNeg = k.toInt.toNat ∧ 0 ≤ k.toInt
section MIS
variable {i : Nat} {I R : Nat → Nat → Int32} {J : Nat → Nat → Int64} {k k' b v y z : Int32}
theorem mIs_a3 {n : Int} (h0 : zR 0 0 (I 0 12)) (t : (I 0 10).toInt = (nI 1).toInt) (e : v = I 0 8 - I 0 9) (hv : zR n n v) (hn : n = ((zLen.getD i 0 : Nat) : Int) := by rfl) : mA3 i I := ⟨h0, t, by rw [← e, zR_cst hv]; exact hn⟩
theorem mIs_n1 (h : zR 1 3 (I 0 12)) : ¬ mIs i I R := fun z => zR_abs2 h z.1.1 (by decide)
theorem mIs_n2 (t : (I 0 10).toInt ≠ (nI 1).toInt) : ¬ mIs i I R := fun z => t z.1.2.1
theorem mIs_n3 (e : v = I 0 8 - I 0 9) (t : v.toInt ≠ y.toInt) (hy : y.toInt = ((zLen.getD i 0 : Nat) : Int) := by decide +kernel) : ¬ mIs i I R := fun z => t (by rw [e, z.1.2.2, hy])
theorem mIsL_0 (h : mA3 i I) : mIsL i I R (nI 0) (nI 1) := ⟨h, Or.inl ⟨by decide +kernel, fun j hj => absurd hj (by have : (nI 0).toInt.toNat = 0 := (by decide +kernel); omega)⟩⟩
theorem mIs_ix {x : Int32} (h9 : zR 0 800 x) (hk : zR 0 800 k) (e : z = x + k) : mIxe x k z := by
  have e1 : z.toInt = x.toInt + k.toInt := by rw [e]; exact zR_addE h9 hk (by decide)
  obtain ⟨a1, a2⟩ := h9
  obtain ⟨b1, b2⟩ := hk
  exact ⟨m_nat (by omega), m_nat (by omega), b1⟩
theorem mIsL_1 (h : mIsL i I R k b) (hb : zR 1 1 b) (m : k'.toInt = k.toInt + 1) (t : (R 4 z.toNatClampNeg).toInt = (zch i k.toNatClampNeg).toInt) (e : mIxe (I 0 9) k z) : mIsL i I R k' (nI 1) := by
  refine ⟨h.1, Or.inl ⟨by decide +kernel, fun j hj => ?_⟩⟩
  obtain ⟨e1, e2, e3⟩ := e
  have hb' := zR_cst hb
  rcases h.2 with ⟨_, g⟩ | ⟨g, _⟩
  · by_cases hj' : j < k.toInt.toNat
    · exact g j hj'
    · have : j = k.toInt.toNat := by omega
      subst this
      rw [e1, e2] at t
      exact t
  · omega
theorem mIsL_n (h : mIsL i I R k b) (hb : zR 1 1 b) (t4 : k.toInt < y.toInt) (t : (R 4 z.toNatClampNeg).toInt ≠ (zch i k.toNatClampNeg).toInt) (e : mIxe (I 0 9) k z) (hy : y.toInt = ((zLen.getD i 0 : Nat) : Int) := by decide +kernel) : mIsL i I R k' (nI 0) := by
  refine ⟨h.1, Or.inr ⟨by decide +kernel, fun g => ?_⟩⟩
  obtain ⟨e1, e2, e3⟩ := e
  rw [e1, e2] at t
  exact t (g.2 _ (by omega))
theorem mIs_r0 (h : mIsL i I R k b) (hb : zR 0 0 b) : (b = nI 1 ∧ (I, R, J) = (I, R, J) ∧ mIs i I R) ∨ (b = nI 0 ∧ (I, R, J) = (I, R, J) ∧ ¬ mIs i I R) := by
  have hb' := zR_cst hb
  rcases h.2 with ⟨g, _⟩ | ⟨_, g⟩
  · omega
  · exact Or.inr ⟨Int32.toInt_inj.mp (hb'.trans (by decide +kernel)), rfl, g⟩
theorem mIs_r1 (h : mIsL i I R k b) (hb : zR 0 1 b) (t : y.toInt ≤ k.toInt) (hy : y.toInt = ((zLen.getD i 0 : Nat) : Int) := by decide +kernel) : (b = nI 1 ∧ (I, R, J) = (I, R, J) ∧ mIs i I R) ∨ (b = nI 0 ∧ (I, R, J) = (I, R, J) ∧ ¬ mIs i I R) := by
  rcases h.2 with ⟨g1, g2⟩ | ⟨g1, g2⟩
  · exact Or.inl ⟨Int32.toInt_inj.mp (g1.trans (by decide +kernel)), rfl, h.1, fun j hj => g2 j (by omega)⟩
  · exact Or.inr ⟨Int32.toInt_inj.mp (g1.trans (by decide +kernel)), rfl, g2⟩
end MIS
theorem m_nc (c : Nat) {a b : Int} {i : Int32} (h : zR a b i) (k : ((c : Int) < a ∨ b < (c : Int)) ∧ 0 ≤ a ∧ c < 2147483648) : (nI c).toNatClampNeg ≠ i.toNatClampNeg := by
  obtain ⟨h1, h2⟩ := h
  have e : i.toNatClampNeg = i.toInt.toNat := m_nat (by omega)
  have e2 : (nI c).toNatClampNeg = c := m_nat (nI_toInt (by omega))
  rw [e, e2]
  omega
section MR6
variable {F I R : Nat → Nat → Int32} {J : Nat → Nat → Int64}
theorem mInv_Rx (h : mInv F (I, R, J)) {i : Int32} (v : Int32) (hi : zR 7 16 i) : mInv F (I, zp R 6 i.toNatClampNeg v, J) := by
  obtain ⟨h1, h2⟩ := hi
  have e : i.toNatClampNeg = i.toInt.toNat := m_nat (by omega)
  have hc : ∀ n : Nat, n < 17 → 7 ≤ n → mRj 6 n = ((-2147483648), 2147483647) := by decide +kernel
  exact mInv_R h 6 _ v (by rw [e, hc _ (by omega) (by omega)]; exact zR_any v) rfl
theorem mInv_Rw (h : mInv F (I, R, J)) {i v : Int32} (hi : zR 17 58 i) (hv : zR 0 4 v) : mInv F (I, zp R 6 i.toNatClampNeg v, J) := by
  obtain ⟨h1, h2⟩ := hi
  have e : i.toNatClampNeg = i.toInt.toNat := m_nat (by omega)
  have hc : ∀ n : Nat, n < 59 → 17 ≤ n → (mRj 6 n).1 ≤ 0 ∧ 4 ≤ (mRj 6 n).2 := by decide +kernel
  exact mInv_R h 6 _ v (by rw [e]; exact zR_w hv (hc _ (by omega) (by omega))) rfl
theorem mInv_Rt (h : mInv F (I, R, J)) {i : Int32} (v : Int32) (hk : mTold i) : mInv F (I, zp R 6 i.toNatClampNeg v, J) := by
  have hp : 18 ≤ i.toInt ∧ i.toInt < 59 ∧ (i.toInt ≤ 28 → i.toInt % 2 = 0) := by
    rcases hk with ⟨h1, h2⟩ | ⟨t, h1, h2, h3⟩
    · omega
    · omega
  have e : i.toNatClampNeg = i.toInt.toNat := m_nat (by omega)
  have hc : ∀ n : Nat, n < 59 → 18 ≤ n → (n ≤ 28 → n % 2 = 0) → mRj 6 n = ((-2147483648), 2147483647) := by decide +kernel
  exact mInv_R h 6 _ v (by rw [e, hc _ (by omega) (by omega) (by omega)]; exact zR_any v) rfl
end MR6
