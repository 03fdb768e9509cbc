def zXd (q : Nat → Nat) (cA : Nat → ClassId) : zKd := fun k i r j => match k with
  | 0 => .inr (10, [.ref (q 1), .ref (q 3), .ref (q 8), .ref (q 13), .ref (q 15), .ref (q 27), .ref (q 39), .ref (q 43), .ref (q 45), .ref (q 46), .ref (q 47), .ref (q 72)])
  | 1 => .inr (7, [.ref (q 2), .int (i 1), .int (i 2), .int (i 3), .int (i 4), .int (i 5), .int (i 6)])
  | 2 => .inl (cA 2, 800, .inl r)
  | 3 => .inr (2, [.int (i 0), .int (i 1), .int (i 2), .int (i 3), .int (i 4), .int (i 5), .int (i 6), .ref (q 4), .ref (q 5), .ref (q 6), .ref (q 7)])
  | 4 => .inl (cA 4, 5, .inl r)
  | 5 => .inl (cA 5, 6, .inl r)
  | 6 => .inl (cA 6, 6, .inl r)
  | 7 => .inl (cA 7, 30, .inl r)
  | 8 => .inr (2, [.int (i 0), .int (i 1), .int (i 2), .int (i 3), .int (i 4), .int (i 5), .int (i 6), .ref (q 9), .ref (q 10), .ref (q 11), .ref (q 12)])
  | 9 => .inl (cA 9, 5, .inl r)
  | 10 => .inl (cA 10, 6, .inl r)
  | 11 => .inl (cA 11, 6, .inl r)
  | 12 => .inl (cA 12, 30, .inl r)
  | 13 => .inr (0, [.int (i 0), .ref (q 14)])
  | 14 => .inl (cA 14, 240, .inl r)
  | 15 => .inr (9, [.ref (q 3), .int (i 1), .int (i 2), .int (i 3), .ref (q 16), .ref (q 17), .ref (q 18), .ref (q 19), .ref (q 20), .ref (q 21), .ref (q 22), .ref (q 23), .ref (q 24), .ref (q 25), .ref (q 26)])
  | 16 => .inl (cA 16, 5, .inl r)
  | 17 => .inl (cA 17, 6, .inl r)
  | 18 => .inl (cA 18, 6, .inl r)
  | 19 => .inl (cA 19, 24, .inl r)
  | 20 => .inl (cA 20, 24, .inl r)
  | 21 => .inl (cA 21, 24, .inl r)
  | 22 => .inl (cA 22, 24, .inl r)
  | 23 => .inl (cA 23, 24, .inl r)
  | 24 => .inl (cA 24, 294, .inl r)
  | 25 => .inl (cA 25, 5, .inl r)
  | 26 => .inl (cA 26, 5, .inl r)
  | 27 => .inr (9, [.ref (q 3), .int (i 1), .int (i 2), .int (i 3), .ref (q 28), .ref (q 29), .ref (q 30), .ref (q 31), .ref (q 32), .ref (q 33), .ref (q 34), .ref (q 35), .ref (q 36), .ref (q 37), .ref (q 38)])
  | 28 => .inl (cA 28, 5, .inl r)
  | 29 => .inl (cA 29, 6, .inl r)
  | 30 => .inl (cA 30, 6, .inl r)
  | 31 => .inl (cA 31, 24, .inl r)
  | 32 => .inl (cA 32, 24, .inl r)
  | 33 => .inl (cA 33, 24, .inl r)
  | 34 => .inl (cA 34, 24, .inl r)
  | 35 => .inl (cA 35, 24, .inl r)
  | 36 => .inl (cA 36, 294, .inl r)
  | 37 => .inl (cA 37, 5, .inl r)
  | 38 => .inl (cA 38, 5, .inl r)
  | 39 => .inr (8, [.int (i 0), .ref (q 40), .int (i 2), .ref (q 41), .ref (q 42), .int (i 5)])
  | 40 => .inl (cA 40, 5, .inl r)
  | 41 => .inl (cA 41, 25, .inl r)
  | 42 => .inl (cA 42, 5, .inl r)
  | 43 => .inr (3, [.ref (q 44)])
  | 44 => .inl (cA 44, 224, .inl r)
  | 45 => .inr (4, [.long (j 0)])
  | 46 => .inr (1, [.int (i 0), .int (i 1), .int (i 2)])
  | 47 => .inl (cA 47, 3, .inr (.inr (.inr (.inr (va_up (va_up (va_up (fun _ => none) (nI 0).toNatClampNeg (some (q 48))) (nI 1).toNatClampNeg (some (q 56))) (nI 2).toNatClampNeg (some (q 64)))))))
  | 48 => .inr (5, [.int (i 0), .ref (q 49), .ref (q 54)])
  | 49 => .inr (2, [.int (i 0), .int (i 1), .int (i 2), .int (i 3), .int (i 4), .int (i 5), .int (i 6), .ref (q 50), .ref (q 51), .ref (q 52), .ref (q 53)])
  | 50 => .inl (cA 50, 5, .inl r)
  | 51 => .inl (cA 51, 6, .inl r)
  | 52 => .inl (cA 52, 6, .inl r)
  | 53 => .inl (cA 53, 30, .inl r)
  | 54 => .inr (0, [.int (i 0), .ref (q 55)])
  | 55 => .inl (cA 55, 240, .inl r)
  | 56 => .inr (5, [.int (i 0), .ref (q 57), .ref (q 62)])
  | 57 => .inr (2, [.int (i 0), .int (i 1), .int (i 2), .int (i 3), .int (i 4), .int (i 5), .int (i 6), .ref (q 58), .ref (q 59), .ref (q 60), .ref (q 61)])
  | 58 => .inl (cA 58, 5, .inl r)
  | 59 => .inl (cA 59, 6, .inl r)
  | 60 => .inl (cA 60, 6, .inl r)
  | 61 => .inl (cA 61, 30, .inl r)
  | 62 => .inr (0, [.int (i 0), .ref (q 63)])
  | 63 => .inl (cA 63, 240, .inl r)
  | 64 => .inr (5, [.int (i 0), .ref (q 65), .ref (q 70)])
  | 65 => .inr (2, [.int (i 0), .int (i 1), .int (i 2), .int (i 3), .int (i 4), .int (i 5), .int (i 6), .ref (q 66), .ref (q 67), .ref (q 68), .ref (q 69)])
  | 66 => .inl (cA 66, 5, .inl r)
  | 67 => .inl (cA 67, 6, .inl r)
  | 68 => .inl (cA 68, 6, .inl r)
  | 69 => .inl (cA 69, 30, .inl r)
  | 70 => .inr (0, [.int (i 0), .ref (q 71)])
  | 71 => .inl (cA 71, 240, .inl r)
  | 72 => .inl (cA 72, 4, .inr (.inr (.inr (.inr (va_up (va_up (va_up (va_up (fun _ => none) (nI 0).toNatClampNeg (some (q 73))) (nI 1).toNatClampNeg (some (q 75))) (nI 2).toNatClampNeg (some (q 77))) (nI 3).toNatClampNeg (some (q 79)))))))
  | 73 => .inr (6, [.int (i 0), .int (i 1), .ref (q 74)])
  | 74 => .inl (cA 74, 60, .inr (.inl j))
  | 75 => .inr (6, [.int (i 0), .int (i 1), .ref (q 76)])
  | 76 => .inl (cA 76, 60, .inr (.inl j))
  | 77 => .inr (6, [.int (i 0), .int (i 1), .ref (q 78)])
  | 78 => .inl (cA 78, 60, .inr (.inl j))
  | 79 => .inr (6, [.int (i 0), .int (i 1), .ref (q 80)])
  | _ => .inl (cA 80, 60, .inr (.inl j))
abbrev zXtys (cA : Nat → ClassId) : List (ClassId × FieldType) := (cA 2, .byte) :: (cA 4, .int) :: (cA 5, .int) :: (cA 6, .int) :: (cA 7, .int) :: (cA 9, .int) :: (cA 10, .int) :: (cA 11, .int) :: (cA 12, .int) :: (cA 14, .int) :: (cA 16, .int) :: (cA 17, .int) :: (cA 18, .int) :: (cA 19, .int) :: (cA 20, .int) :: (cA 21, .int) :: (cA 22, .int) :: (cA 23, .int) :: (cA 24, .int) :: (cA 25, .int) :: (cA 26, .int) :: (cA 28, .int) :: (cA 29, .int) :: (cA 30, .int) :: (cA 31, .int) :: (cA 32, .int) :: (cA 33, .int) :: (cA 34, .int) :: (cA 35, .int) :: (cA 36, .int) :: (cA 37, .int) :: (cA 38, .int) :: (cA 40, .int) :: (cA 41, .int) :: (cA 42, .int) :: (cA 44, .int) :: (cA 47, .object "ReceiptLeft$Image") :: (cA 50, .int) :: (cA 51, .int) :: (cA 52, .int) :: (cA 53, .int) :: (cA 55, .int) :: (cA 58, .int) :: (cA 59, .int) :: (cA 60, .int) :: (cA 61, .int) :: (cA 63, .int) :: (cA 66, .int) :: (cA 67, .int) :: (cA 68, .int) :: (cA 69, .int) :: (cA 71, .int) :: (cA 72, .object "ReceiptLeft$Row") :: (cA 74, .long) :: (cA 76, .long) :: (cA 78, .long) :: (cA 80, .long) :: []
/-! ===== z2: ranges of ints and longs ===== -/
def zR (a b : Int) (x : Int32) : Prop := a ≤ x.toInt ∧ x.toInt ≤ b
def zL (a b : Int) (x : Int64) : Prop := a ≤ x.toInt ∧ x.toInt ≤ b
theorem zR_any (x : Int32) : zR (-2147483648) 2147483647 x := ⟨Int32.le_toInt x, by have := Int32.toInt_lt x; omega⟩
theorem zL_any (x : Int64) : zL (-9223372036854775808) 9223372036854775807 x := ⟨Int64.le_toInt x, by have := Int64.toInt_lt x; omega⟩
theorem zR_w {a b a' b' : Int} {x : Int32} (h : zR a b x) (k : a' ≤ a ∧ b ≤ b') : zR a' b' x := ⟨Int.le_trans k.1 h.1, Int.le_trans h.2 k.2⟩
theorem zL_w {a b a' b' : Int} {x : Int64} (h : zL a b x) (k : a' ≤ a ∧ b ≤ b') : zL a' b' x := ⟨Int.le_trans k.1 h.1, Int.le_trans h.2 k.2⟩
theorem z2_bm {x : Int} (h1 : -2147483648 ≤ x) (h2 : x ≤ 2147483647) : x.bmod (2 ^ 32) = x := Int.bmod_eq_of_le (by simpa using h1) (by simp; omega)
theorem z2_bmL {x : Int} (h1 : -9223372036854775808 ≤ x) (h2 : x ≤ 9223372036854775807) : x.bmod (2 ^ 64) = x := Int.bmod_eq_of_le (by simpa using h1) (by simp; omega)
theorem z2_add {x y : Int32} (h1 : -2147483648 ≤ x.toInt + y.toInt) (h2 : x.toInt + y.toInt ≤ 2147483647) : (x + y).toInt = x.toInt + y.toInt := by rw [Int32.toInt_add, z2_bm h1 h2]
theorem z2_sub {x y : Int32} (h1 : -2147483648 ≤ x.toInt - y.toInt) (h2 : x.toInt - y.toInt ≤ 2147483647) : (x - y).toInt = x.toInt - y.toInt := by rw [Int32.toInt_sub, z2_bm h1 h2]
theorem z2_mul {x y : Int32} (h1 : -2147483648 ≤ x.toInt * y.toInt) (h2 : x.toInt * y.toInt ≤ 2147483647) : (x * y).toInt = x.toInt * y.toInt := by rw [Int32.toInt_mul, z2_bm h1 h2]
theorem z2_addL {x y : Int64} (h1 : -9223372036854775808 ≤ x.toInt + y.toInt) (h2 : x.toInt + y.toInt ≤ 9223372036854775807) : (x + y).toInt = x.toInt + y.toInt := by rw [Int64.toInt_add, z2_bmL h1 h2]
theorem z2_mulL {x y : Int64} (h1 : -9223372036854775808 ≤ x.toInt * y.toInt) (h2 : x.toInt * y.toInt ≤ 9223372036854775807) : (x * y).toInt = x.toInt * y.toInt := by rw [Int64.toInt_mul, z2_bmL h1 h2]
section Z2R
variable {a b c d a' b' c' : Int} {x y v : Int32}
theorem zR_addE (hx : zR a b x) (hy : zR c d y) (k : -2147483648 ≤ a + c ∧ b + d ≤ 2147483647) : (x + y).toInt = x.toInt + y.toInt := z2_add (by have := hx.1; have := hy.1; omega) (by have := hx.2; have := hy.2; omega)
theorem zR_add (hx : zR a b x) (hy : zR c d y) (k : (-2147483648 ≤ a + c ∧ b + d ≤ 2147483647) ∧ a' ≤ a + c ∧ b + d ≤ b') : zR a' b' (x + y) := by
  have e := zR_addE hx hy k.1
  obtain ⟨h1, h2⟩ := hx
  obtain ⟨h3, h4⟩ := hy
  exact ⟨by rw [e]; omega, by rw [e]; omega⟩
theorem zR_sub (hx : zR a b x) (hy : zR c d y) (k : (-2147483648 ≤ a - d ∧ b - c ≤ 2147483647) ∧ a' ≤ a - d ∧ b - c ≤ b') : zR a' b' (x - y) := by
  obtain ⟨h1, h2⟩ := hx
  obtain ⟨h3, h4⟩ := hy
  have e := z2_sub (x := x) (y := y) (by omega) (by omega)
  exact ⟨by rw [e]; omega, by rw [e]; omega⟩
theorem zR_mul (hx : zR a b x) (hy : zR c d y) (k : (0 ≤ a ∧ 0 ≤ c ∧ b * d ≤ 2147483647) ∧ a' ≤ 0 ∧ b * d ≤ b') : zR a' b' (x * y) := by
  obtain ⟨h1, h2⟩ := hx
  obtain ⟨h3, h4⟩ := hy
  obtain ⟨⟨k1, k2, k3⟩, k4, k5⟩ := k
  have p0 : 0 ≤ x.toInt * y.toInt := Int.mul_nonneg (by omega) (by omega)
  have p1 : x.toInt * y.toInt ≤ b * d := Int.mul_le_mul h2 h4 (by omega) (by omega)
  have e := z2_mul (x := x) (y := y) (by omega) (by omega)
  exact ⟨by rw [e]; omega, by rw [e]; omega⟩
theorem z2_andn (x y : Int32) (h : 0 ≤ y.toInt) : 0 ≤ (x &&& y).toInt ∧ (x &&& y).toInt ≤ y.toInt := by
  have hy : y.toInt = (y.toUInt32.toNat : Int) := by
    rw [Int32.toInt, BitVec.toInt_eq_toNat_of_msb]
    · rfl
    · rw [BitVec.msb_eq_toInt]; simp only [decide_eq_false_iff_not]; exact Int.not_lt.mpr h
  have hlt : y.toUInt32.toNat < 2 ^ 31 := by have := Int32.toInt_lt y; omega
  have e : (x &&& y).toUInt32.toNat = x.toUInt32.toNat &&& y.toUInt32.toNat := by
    rw [Int32.toUInt32_and]; exact UInt32.toNat_and _ _
  have l : x.toUInt32.toNat &&& y.toUInt32.toNat ≤ y.toUInt32.toNat := Nat.and_le_right
  have f : (x &&& y).toInt = ((x &&& y).toUInt32.toNat : Int) := by
    rw [Int32.toInt, BitVec.toInt_eq_toNat_of_lt]
    · rfl
    · show 2 * (x &&& y).toUInt32.toNat < 2 ^ 32
      omega
  rw [f, hy, e]
  omega
theorem zR_andr (hy : zR c d y) (k : 0 ≤ c ∧ a' ≤ 0 ∧ d ≤ b') : zR a' b' (x &&& y) := by
  obtain ⟨h1, h2⟩ := z2_andn x y (Int.le_trans k.1 hy.1)
  exact ⟨by omega, by have := hy.2; omega⟩
theorem zR_andl (hx : zR a b x) (k : 0 ≤ a ∧ a' ≤ 0 ∧ b ≤ b') : zR a' b' (x &&& y) := by
  rw [Int32.and_comm]
  exact zR_andr hx k
theorem z2_orn (x y : Int32) (n : Nat) (hn : n ≤ 30) (hx : 0 ≤ x.toInt ∧ x.toInt < 2 ^ n) (hy : 0 ≤ y.toInt ∧ y.toInt < 2 ^ n) : 0 ≤ (x ||| y).toInt ∧ (x ||| y).toInt < 2 ^ n := by
  have cv : ∀ z : Int32, 0 ≤ z.toInt → z.toInt = (z.toUInt32.toNat : Int) := fun z h => by
    rw [Int32.toInt, BitVec.toInt_eq_toNat_of_msb]
    · rfl
    · rw [BitVec.msb_eq_toInt]; simp only [decide_eq_false_iff_not]; exact Int.not_lt.mpr h
  have hx' := cv x hx.1
  have hy' := cv y hy.1
  have p2 : ((2 ^ n : Nat) : Int) = (2 : Int) ^ n := by simp
  have lx : x.toUInt32.toNat < 2 ^ n := by have := hx.2; rw [hx', ← p2] at this; exact_mod_cast this
  have ly : y.toUInt32.toNat < 2 ^ n := by have := hy.2; rw [hy', ← p2] at this; exact_mod_cast this
  have e : (x ||| y).toUInt32.toNat = x.toUInt32.toNat ||| y.toUInt32.toNat := by
    rw [Int32.toUInt32_or]; exact UInt32.toNat_or _ _
  have l : x.toUInt32.toNat ||| y.toUInt32.toNat < 2 ^ n := Nat.or_lt_two_pow lx ly
  have l31 : 2 ^ n ≤ 2 ^ 30 := Nat.pow_le_pow_right (by decide) hn
  have f : (x ||| y).toInt = ((x ||| y).toUInt32.toNat : Int) := by
    rw [Int32.toInt, BitVec.toInt_eq_toNat_of_lt]
    · rfl
    · show 2 * (x ||| y).toUInt32.toNat < 2 ^ 32
      omega
  rw [f, e, ← p2]
  exact ⟨by omega, by exact_mod_cast l⟩
theorem zR_or (n : Nat) (hx : zR a b x) (hy : zR c d y) (k : n ≤ 30 ∧ 0 ≤ a ∧ 0 ≤ c ∧ b < 2 ^ n ∧ d < 2 ^ n ∧ a' ≤ 0 ∧ 2 ^ n ≤ b' + 1) : zR a' b' (x ||| y) := by
  obtain ⟨k0, k1, k2, k3, k4, k5, k6⟩ := k
  have h := z2_orn x y n k0 ⟨Int.le_trans k1 hx.1, Int.lt_of_le_of_lt hx.2 k3⟩ ⟨Int.le_trans k2 hy.1, Int.lt_of_le_of_lt hy.2 k4⟩
  exact ⟨Int.le_trans k5 h.1, by have := h.2; omega⟩
theorem z2_shl1 : ∀ j : Nat, j < 31 → zR 1 (2 ^ j) (nI 1 <<< (nI j &&& 31)) ∧ 2 ^ j ≤ (nI 1 <<< (nI j &&& 31)).toInt := by
  intro j hj
  have h : ∀ j : Nat, j < 31 → (1 : Int) ≤ (nI 1 <<< (nI j &&& 31)).toInt ∧ (nI 1 <<< (nI j &&& 31)).toInt ≤ 2 ^ j ∧ 2 ^ j ≤ (nI 1 <<< (nI j &&& 31)).toInt := by decide +kernel
  exact ⟨⟨(h j hj).1, (h j hj).2.1⟩, (h j hj).2.2⟩
theorem zR_shl1 (n : Nat) (hy : zR c d y) (k : n ≤ 30 ∧ 0 ≤ c ∧ d ≤ n ∧ a' ≤ 1 ∧ (2 : Int) ^ n ≤ b') : zR a' b' (nI 1 <<< (y &&& 31)) := by
  obtain ⟨k0, k1, k2, k3, k4⟩ := k
  obtain ⟨j, hj, rfl⟩ := z_ex (x := y) (N := n + 1) (Int.le_trans k1 hy.1) (by have := hy.2; omega)
  obtain ⟨⟨h1, h2⟩, -⟩ := z2_shl1 j (by omega)
  have p : (2 : Int) ^ j ≤ 2 ^ n := by
    have : (2 : Nat) ^ j ≤ 2 ^ n := Nat.pow_le_pow_right (by decide) (by omega)
    exact_mod_cast this
  exact ⟨by omega, by omega⟩
theorem zR_div (hx : zR a b x) (hy : zR c d y) (k : 0 ≤ a ∧ 0 < c ∧ a' ≤ 0 ∧ b ≤ b') : zR a' b' (x / y) := by
  obtain ⟨k0, k1, k2, k3⟩ := k
  have e := lg_idiv_nonneg (x := x) (y := y) (Int.le_trans k0 hx.1) (Int.lt_of_lt_of_le k1 hy.1)
  have h0 : 0 ≤ x.toInt / y.toInt := Int.ediv_nonneg (Int.le_trans k0 hx.1) (by have := hy.1; omega)
  have h1 : x.toInt / y.toInt ≤ x.toInt := Int.ediv_le_self _ (Int.le_trans k0 hx.1)
  refine ⟨by rw [e]; omega, by rw [e]; have := hx.2; omega⟩
/-- a quotient by a constant -/
theorem zR_divc {n : Int} (hx : zR a b x) (hy : zR n n y) (k : 0 ≤ a ∧ 0 < n ∧ a' ≤ a / n ∧ b / n ≤ b') : zR a' b' (x / y) := by
  obtain ⟨k0, k1, k2, k3⟩ := k
  have ey : y.toInt = n := Int.le_antisymm hy.2 hy.1
  have e := lg_idiv_nonneg (x := x) (y := y) (Int.le_trans k0 hx.1) (by omega)
  have h0 : a / n ≤ x.toInt / n := Int.ediv_le_ediv k1 hx.1
  have h1 : x.toInt / n ≤ b / n := Int.ediv_le_ediv k1 hx.2
  exact ⟨by rw [e, ey]; omega, by rw [e, ey]; omega⟩
theorem zR_rem (hx : zR a b x) (hy : zR c d y) (k : 0 ≤ a ∧ 0 < c ∧ a' ≤ 0 ∧ d ≤ b' + 1) : zR a' b' (x - x / y * y) := by
  obtain ⟨k0, k1, k2, k3⟩ := k
  have hx0 : 0 ≤ x.toInt := Int.le_trans k0 hx.1
  have hy0 : 0 < y.toInt := Int.lt_of_lt_of_le k1 hy.1
  have e := lg_idiv_nonneg (x := x) (y := y) hx0 hy0
  have hm : x.toInt / y.toInt * y.toInt ≤ x.toInt := Int.ediv_mul_le _ (by omega)
  have hq : 0 ≤ x.toInt / y.toInt := Int.ediv_nonneg hx0 (by omega)
  have hp : 0 ≤ x.toInt / y.toInt * y.toInt := Int.mul_nonneg hq (by omega)
  have hX := Int32.toInt_lt x
  have e1 : (x / y * y).toInt = x.toInt / y.toInt * y.toInt := by
    rw [z2_mul, e] <;> rw [e] <;> omega
  have e2 : (x - x / y * y).toInt = x.toInt - x.toInt / y.toInt * y.toInt := by
    rw [z2_sub, e1] <;> rw [e1] <;> omega
  have hr : x.toInt - x.toInt / y.toInt * y.toInt = x.toInt % y.toInt := by
    rw [Int.emod_def, Int.mul_comm]
  have h1 := Int.emod_nonneg x.toInt (b := y.toInt) (by omega)
  have h2 := Int.emod_lt_of_pos x.toInt hy0
  have := hy.2
  exact ⟨by rw [e2, hr]; omega, by rw [e2, hr]; omega⟩
theorem zR_ne0 (hy : zR c d y) (k : 0 < c) : ¬ y = 0 := fun h => by
  have := hy.1
  rw [h] at this
  exact absurd this (by simp; omega)
/-! what a branch tells -/
theorem zR_ltx (h : x.toInt < y.toInt) (hx : zR a b x) (hy : zR c d y) (k : d ≤ b' + 1) : zR a b' x := ⟨hx.1, by have := hy.2; omega⟩
theorem zR_lty (h : x.toInt < y.toInt) (hx : zR a b x) (hy : zR c d y) (k : c' ≤ a + 1) : zR c' d y := ⟨by have := hx.1; omega, hy.2⟩
theorem zR_lex (h : x.toInt ≤ y.toInt) (hx : zR a b x) (hy : zR c d y) (k : d ≤ b') : zR a b' x := ⟨hx.1, by have := hy.2; omega⟩
theorem zR_ley (h : x.toInt ≤ y.toInt) (hx : zR a b x) (hy : zR c d y) (k : c' ≤ a) : zR c' d y := ⟨by have := hx.1; omega, hy.2⟩
theorem zR_eqx (h : x.toInt = y.toInt) (hy : zR c d y) : zR c d x := ⟨by have := hy.1; omega, by have := hy.2; omega⟩
theorem zR_eqy (h : x.toInt = y.toInt) (hx : zR a b x) : zR a b y := ⟨by have := hx.1; omega, by have := hx.2; omega⟩
theorem zR_nex (h : x.toInt ≠ y.toInt) (hx : zR a b x) (hy : zR c c y) (k : (c = a ∧ a' = a + 1 ∧ b' = b) ∨ (c = b ∧ b' = b - 1 ∧ a' = a)) : zR a' b' x := by
  obtain ⟨h1, h2⟩ := hx
  obtain ⟨h3, h4⟩ := hy
  exact ⟨by omega, by omega⟩
theorem zR_absurd {P : Prop} (hx : zR a b x) (k : b < a) : P := absurd (Int.le_trans hx.1 hx.2) (by omega)
theorem zR_vin {N : Nat} (hx : zR a b x) (k : 0 ≤ a ∧ b < (N : Int)) : vp_in x N := z_vin (Int.le_trans k.1 hx.1) (Int.lt_of_le_of_lt hx.2 k.2)
theorem zR_i2l (hx : zR a b x) : zL a b x.toInt64 := ⟨by rw [z_i2l]; exact hx.1, by rw [z_i2l]; exact hx.2⟩
theorem zR_n {n : Nat} (h : n < 2 ^ 31) : zR n n (nI n) := ⟨by rw [nI_toInt h]; exact Int.le_refl _, by rw [nI_toInt h]; exact Int.le_refl _⟩
theorem zR_bool (hx : zR a b x) (k : 0 ≤ a ∧ b ≤ 1) : narrow .boolean (.int x) = .int x ∧ fits .boolean (.int x) = true := by
  obtain ⟨j, hj, rfl⟩ := z_ex (x := x) (N := 2) (Int.le_trans k.1 hx.1) (by have := hx.2; omega)
  rcases (show j = 0 ∨ j = 1 by omega) with rfl | rfl <;> decide +kernel
end Z2R
section Z2L
variable {a b c d a' b' c' : Int} {x y v : Int64}
theorem zL_ltx (h : x.toInt < y.toInt) (hx : zL a b x) (hy : zL c d y) (k : d ≤ b' + 1) : zL a b' x := ⟨hx.1, by have := hy.2; omega⟩
theorem zL_lty (h : x.toInt < y.toInt) (hx : zL a b x) (hy : zL c d y) (k : c' ≤ a + 1) : zL c' d y := ⟨by have := hx.1; omega, hy.2⟩
theorem zL_lex (h : x.toInt ≤ y.toInt) (hx : zL a b x) (hy : zL c d y) (k : d ≤ b') : zL a b' x := ⟨hx.1, by have := hy.2; omega⟩
theorem zL_ley (h : x.toInt ≤ y.toInt) (hx : zL a b x) (hy : zL c d y) (k : c' ≤ a) : zL c' d y := ⟨by have := hx.1; omega, hy.2⟩
theorem zL_eqx (h : x.toInt = y.toInt) (hy : zL c d y) : zL c d x := ⟨by have := hy.1; omega, by have := hy.2; omega⟩
theorem zL_eqy (h : x.toInt = y.toInt) (hx : zL a b x) : zL a b y := ⟨by have := hx.1; omega, by have := hx.2; omega⟩
theorem zL_absurd {P : Prop} (hx : zL a b x) (k : b < a) : P := absurd (Int.le_trans hx.1 hx.2) (by omega)
theorem zL_l2i (hx : zL a b x) (k : -2147483648 ≤ a ∧ b ≤ 2147483647) : zR a b x.toInt32 := by
  have e : x.toInt32.toInt = x.toInt := by rw [Int64.toInt_toInt32]; exact z2_bm (Int.le_trans k.1 hx.1) (Int.le_trans hx.2 k.2)
  exact ⟨by rw [e]; exact hx.1, by rw [e]; exact hx.2⟩
/-- back from a long that was an int -/
theorem zL_back {x : Int32} (h : zL a b x.toInt64) : zR a b x := ⟨by have := h.1; rwa [z_i2l] at this, by have := h.2; rwa [z_i2l] at this⟩
theorem zL_add (hx : zL a b x) (hy : zL c d y) (k : (-9223372036854775808 ≤ a + c ∧ b + d ≤ 9223372036854775807) ∧ a' ≤ a + c ∧ b + d ≤ b') : zL a' b' (x + y) := by
  obtain ⟨h1, h2⟩ := hx
  obtain ⟨h3, h4⟩ := hy
  have e := z2_addL (x := x) (y := y) (by omega) (by omega)
  exact ⟨by rw [e]; omega, by rw [e]; omega⟩
theorem zL_mul (hx : zL a b x) (hy : zL c d y) (k : (0 ≤ a ∧ 0 ≤ c ∧ b * d ≤ 9223372036854775807) ∧ a' ≤ 0 ∧ b * d ≤ b') : zL a' b' (x * y) := by
  obtain ⟨h1, h2⟩ := hx
  obtain ⟨h3, h4⟩ := hy
  obtain ⟨⟨k1, k2, k3⟩, k4, k5⟩ := k
  have p0 : 0 ≤ x.toInt * y.toInt := Int.mul_nonneg (by omega) (by omega)
  have p1 : x.toInt * y.toInt ≤ b * d := Int.mul_le_mul h2 h4 (by omega) (by omega)
  have e := z2_mulL (x := x) (y := y) (by omega) (by omega)
  exact ⟨by rw [e]; omega, by rw [e]; omega⟩
theorem z2_divL (hx : 0 ≤ x.toInt) (hy : 0 < y.toInt) : (x / y).toInt = x.toInt / y.toInt := by
  rw [Int64.toInt_div, Int.tdiv_eq_ediv_of_nonneg hx]
  have h0 : 0 ≤ x.toInt / y.toInt := Int.ediv_nonneg hx (by omega)
  have h1 : x.toInt / y.toInt ≤ x.toInt := Int.ediv_le_self _ hx
  have := Int64.toInt_lt x
  exact z2_bmL (by omega) (by omega)
theorem zL_divc {n : Int} (hx : zL a b x) (hy : zL n n y) (k : 0 ≤ a ∧ 0 < n ∧ a' ≤ a / n ∧ b / n ≤ b') : zL a' b' (x / y) := by
  obtain ⟨k0, k1, k2, k3⟩ := k
  have ey : y.toInt = n := Int.le_antisymm hy.2 hy.1
  have e := z2_divL (x := x) (y := y) (Int.le_trans k0 hx.1) (by omega)
  have h0 : a / n ≤ x.toInt / n := Int.ediv_le_ediv k1 hx.1
  have h1 : x.toInt / n ≤ b / n := Int.ediv_le_ediv k1 hx.2
  exact ⟨by rw [e, ey]; omega, by rw [e, ey]; omega⟩
theorem zL_rem (hx : zL a b x) (hy : zL c d y) (k : 0 ≤ a ∧ 0 < c ∧ a' ≤ 0 ∧ d ≤ b' + 1) : zL a' b' (x - x / y * y) := by
  obtain ⟨k0, k1, k2, k3⟩ := k
  have hx0 : 0 ≤ x.toInt := Int.le_trans k0 hx.1
  have hy0 : 0 < y.toInt := Int.lt_of_lt_of_le k1 hy.1
  have e := z2_divL (x := x) (y := y) hx0 hy0
  have hm : x.toInt / y.toInt * y.toInt ≤ x.toInt := Int.ediv_mul_le _ (by omega)
  have hq : 0 ≤ x.toInt / y.toInt := Int.ediv_nonneg hx0 (by omega)
  have hp : 0 ≤ x.toInt / y.toInt * y.toInt := Int.mul_nonneg hq (by omega)
  have hX := Int64.toInt_lt x
  have e1 : (x / y * y).toInt = x.toInt / y.toInt * y.toInt := by
    rw [z2_mulL, e] <;> rw [e] <;> omega
  have e2 : (x - x / y * y).toInt = x.toInt - x.toInt / y.toInt * y.toInt := by
    rw [Int64.toInt_sub, e1, z2_bmL] <;> omega
  have hr : x.toInt - x.toInt / y.toInt * y.toInt = x.toInt % y.toInt := by
    rw [Int.emod_def, Int.mul_comm]
  have h1 := Int.emod_nonneg x.toInt (b := y.toInt) (by omega)
  have h2 := Int.emod_lt_of_pos x.toInt hy0
  have := hy.2
  exact ⟨by rw [e2, hr]; omega, by rw [e2, hr]; omega⟩
theorem zL_ne0 (hy : zL c d y) (k : 0 < c) : ¬ y = 0 := fun h => by
  have := hy.1
  rw [h] at this
  exact absurd this (by simp; omega)
theorem z2_andL (x y : Int64) (h : 0 ≤ y.toInt) : 0 ≤ (x &&& y).toInt ∧ (x &&& y).toInt ≤ y.toInt := by
  have hy : y.toInt = (y.toUInt64.toNat : Int) := by
    rw [Int64.toInt, BitVec.toInt_eq_toNat_of_msb]
    · rfl
    · rw [BitVec.msb_eq_toInt]; simp only [decide_eq_false_iff_not]; exact Int.not_lt.mpr h
  have hlt : y.toUInt64.toNat < 2 ^ 63 := by have := Int64.toInt_lt y; omega
  have e : (x &&& y).toUInt64.toNat = x.toUInt64.toNat &&& y.toUInt64.toNat := by
    rw [Int64.toUInt64_and]; exact UInt64.toNat_and _ _
  have l : x.toUInt64.toNat &&& y.toUInt64.toNat ≤ y.toUInt64.toNat := Nat.and_le_right
  have f : (x &&& y).toInt = ((x &&& y).toUInt64.toNat : Int) := by
    rw [Int64.toInt, BitVec.toInt_eq_toNat_of_lt]
    · rfl
    · show 2 * (x &&& y).toUInt64.toNat < 2 ^ 64
      omega
  rw [f, hy, e]
  omega
theorem zL_andr (hy : zL c d y) (k : 0 ≤ c ∧ a' ≤ 0 ∧ d ≤ b') : zL a' b' (x &&& y) := by
  obtain ⟨h1, h2⟩ := z2_andL x y (Int.le_trans k.1 hy.1)
  exact ⟨by omega, by have := hy.2; omega⟩
end Z2L
/-! measures of loops: a counter that grows, one that falls -/
theorem z2_up {x y : Int32} {N : Nat} {k : Int} (h : y.toInt = x.toInt + k) (hk : 0 < k) (hN : (2147483648 - x.toInt).toNat < N + 1) : (2147483648 - y.toInt).toNat < N := by
  have := Int32.toInt_lt x
  omega
theorem z2_dn {x y : Int32} {N : Nat} {k : Int} (h : y.toInt = x.toInt + k) (hk : k < 0) (hN : (x.toInt + 2147483649).toNat < N + 1) : (y.toInt + 2147483649).toNat < N := by
  have := Int32.le_toInt x
  omega
section Z2W
variable {p : Program} {l : Launch} {e : Env} {Rm : Room} {s : State} {m : MethodId} {args : Array Value} {below : List Frame} {meth : Method} {c : Code} {H : Heap} {locs : List Loc} {cells slots : Nat} {Q : State → Prop} {pc : Nat} {ls : Array Slot} {rest : List Value}
theorem z_rng {a b : Int} {x : Int32} (h : zR a b x) (k : ∀ v : Int32, zR a b v → W p l e Rm s m args below meth c H locs cells slots Q (F0 m pc ls (.int v :: rest))) : W p l e Rm s m args below meth c H locs cells slots Q (F0 m pc ls (.int x :: rest)) := k x h
theorem z_any {x : Int32} (k : ∀ v : Int32, W p l e Rm s m args below meth c H locs cells slots Q (F0 m pc ls (.int v :: rest))) : W p l e Rm s m args below meth c H locs cells slots Q (F0 m pc ls (.int x :: rest)) := k x
theorem z_rngL {a b : Int} {x : Int64} (h : zL a b x) (k : ∀ v : Int64, zL a b v → W p l e Rm s m args below meth c H locs cells slots Q (F0 m pc ls (.long v :: rest))) : W p l e Rm s m args below meth c H locs cells slots Q (F0 m pc ls (.long x :: rest)) := k x h
theorem z_anyL {x : Int64} (k : ∀ v : Int64, W p l e Rm s m args below meth c H locs cells slots Q (F0 m pc ls (.long v :: rest))) : W p l e Rm s m args below meth c H locs cells slots Q (F0 m pc ls (.long x :: rest)) := k x
end Z2W
section Z2D
variable {a b c d : Int} {x y : Int32}
theorem zD_lt (hx : zR a b x) (hy : zR c d y) (k : b < c) : x < y := Int32.lt_iff_toInt_lt.mpr (by have := hx.2; have := hy.1; omega)
theorem zD_nlt (hx : zR a b x) (hy : zR c d y) (k : d ≤ a) : ¬ x < y := fun h => by have := Int32.lt_iff_toInt_lt.mp h; have := hx.1; have := hy.2; omega
theorem zD_le (hx : zR a b x) (hy : zR c d y) (k : b ≤ c) : x ≤ y := Int32.le_iff_toInt_le.mpr (by have := hx.2; have := hy.1; omega)
theorem zD_nle (hx : zR a b x) (hy : zR c d y) (k : d < a) : ¬ x ≤ y := fun h => by have := Int32.le_iff_toInt_le.mp h; have := hx.1; have := hy.2; omega
theorem zD_ne (hx : zR a b x) (hy : zR c d y) (k : b < c ∨ d < a) : ¬ x = y := fun h => by
  subst h
  have := hx.1; have := hx.2; have := hy.1; have := hy.2; omega
theorem zD_eq (hx : zR a a x) (hy : zR a a y) : x = y := Int32.toInt_inj.mp (by have := hx.1; have := hx.2; have := hy.1; have := hy.2; omega)
theorem zk_z : zR 0 0 (0 : Int32) := ⟨by decide +kernel, by decide +kernel⟩
end Z2D
section Z2X
variable {p : Program} {l : Launch} {e : Env} {Rm : Room} {s : State} {m : MethodId} {args : Array Value} {below : List Frame} {meth : Method} {c : Code} {H : Heap} {locs : List Loc} {cells slots : Nat} {Q : State → Prop} {pc : Nat} {ls : Array Slot} {rest : List Value} {a b n : Int} {x y : Int32}
theorem zR_cst (h : zR n n y) : y.toInt = n := Int.le_antisymm h.2 h.1
theorem zR_shift {v : Int32} {a' b' : Int} (h : v.toInt = x.toInt + n) (hv : zR a b v) (k : a' ≤ a - n ∧ b - n ≤ b') : zR a' b' x := ⟨by have := hv.1; omega, by have := hv.2; omega⟩
/-- a sum with a constant, of which the whole number is kept -/
theorem z_addc (a' b' : Int) (hx : zR a b x) (hy : zR n n y) (k : (-2147483648 ≤ a + n ∧ b + n ≤ 2147483647) ∧ a' ≤ a + n ∧ b + n ≤ b') (kk : ∀ v : Int32, zR a' b' v → v.toInt = x.toInt + n → W p l e Rm s m args below meth c H locs cells slots Q (F0 m pc ls (.int v :: rest))) : W p l e Rm s m args below meth c H locs cells slots Q (F0 m pc ls (.int (x + y) :: rest)) :=
  kk _ (zR_add hx hy k) (by rw [zR_addE hx hy k.1, zR_cst hy])
theorem z_cadd (a' b' : Int) (hx : zR n n x) (hy : zR a b y) (k : (-2147483648 ≤ n + a ∧ n + b ≤ 2147483647) ∧ a' ≤ n + a ∧ n + b ≤ b') (kk : ∀ v : Int32, zR a' b' v → v.toInt = y.toInt + n → W p l e Rm s m args below meth c H locs cells slots Q (F0 m pc ls (.int v :: rest))) : W p l e Rm s m args below meth c H locs cells slots Q (F0 m pc ls (.int (x + y) :: rest)) :=
  kk _ (zR_add hx hy k) (by rw [zR_addE hx hy k.1, zR_cst hx, Int.add_comm])
theorem z_subc (a' b' n' : Int) (hx : zR a b x) (hy : zR n n y) (k : ((-2147483648 ≤ a - n ∧ b - n ≤ 2147483647) ∧ a' ≤ a - n ∧ b - n ≤ b') ∧ n' = -n) (kk : ∀ v : Int32, zR a' b' v → v.toInt = x.toInt + n' → W p l e Rm s m args below meth c H locs cells slots Q (F0 m pc ls (.int v :: rest))) : W p l e Rm s m args below meth c H locs cells slots Q (F0 m pc ls (.int (x - y) :: rest)) :=
  kk _ (zR_sub hx hy k.1) (by
    have h1 := hx.1; have h2 := hx.2; have h3 := zR_cst hy; have h4 := k.2; have h5 := k.1.1
    rw [z2_sub (by omega) (by omega), h3]; omega)
end Z2X
section Z2C
variable {own : String} {p : Program} {l : Launch} {e : Env} {Rm : Room} {s : State} {m : MethodId} {args : Array Value} {below : List Frame} {meth : Method} {c : Code} {H H0 : Heap} {locs : List Loc} {cells slots : Nat} {Q : State → Prop} {D : va_G} {cl : List vw_C} {tys : List (ClassId × FieldType)} {n : Nat} {q : Nat → Nat} {K : zKd} {I R : Nat → Nat → Int32} {J : Nat → Nat → Int64} {A : Nat → Prop} {cc : ByteArray} {pc : Nat} {ls : Array Slot} {rest : List Value}
theorem z_copyl (hx : p.tables.exec = Jvm.exec) (hb : c.code = cc) (hml : c.maxLocals = ls.size) (ht : ∀ w ∈ zT, w.before args s = true) (hown : s.vm.findClass own = some m.cls) {index : Nat} (hlink : Cond.methodLink own index arraycopyName ∈ zT) (hw : Cond.native arraycopyName ∈ zT ∧ Cond.static arraycopyName ∈ zT ∧ Cond.initialized "java/lang/System" ∈ zT) (hK : va_K D cl tys s) (hP : va_P D cl (zw n q K I R J) H) (hD : va_D A (zw n q K I R J)) (hS : va_S A H0 H locs) (k0 k1 : Nat) (hk0 : k0 < n) (hk1 : k1 < n) (t0 t1 : Nat) {c0 c1 : ClassId} {n0 n1 : Nat} (he0 : K k0 (I k0) (R k0) (J k0) = .inl (c0, n0, .inr (.inl (J k0)))) (he1 : ∀ g, K k1 (I k1) (R k1) g = .inl (c1, n1, .inr (.inl g))) (ht0 : tys[t0]? = some (c0, .long)) (ht1 : tys[t1]? = some (c1, .long)) {sp dp nn : Int32} (h1 : ¬ sp < 0) (h2 : ¬ dp < 0) (h3 : ¬ nn < 0) (h4 : sp.toNatClampNeg + nn.toNatClampNeg ≤ n0) (h5 : dp.toNatClampNeg + nn.toNatClampNeg ≤ n1) (hfr : 1 ≤ Rm.frames) (hlo : (rest.map fun v => v.category).sum + (nativeFrameWords "java/lang/System" "arraycopy" 5 + 11) ≤ Rm.locals) (hdg : decode cc pc = .ok (.invokestatic index, 3))
    (kk : ∀ (g : Nat → Int64) (H1 : Heap) (locs1 : List Loc), g = va_cpy (J k0) (J k1) sp.toNatClampNeg dp.toNatClampNeg nn.toNatClampNeg → va_P D cl (zw n q K I R (zr J k1 g)) H1 → va_D A (zw n q K I R (zr J k1 g)) → va_S A H0 H1 locs1 → W p l e Rm s m args below meth c H1 locs1 cells slots Q (F0 m (pc + 3) ls rest)) : W p l e Rm s m args below meth c H locs cells slots Q (F0 m pc ls (.int nn :: .int dp :: .ref (q k1) :: .int sp :: .ref (q k0) :: rest)) :=
  va_copyl hx hb hml hown (ht _ hlink) (ht _ hw.1) (ht _ hw.2.1) (ht _ hw.2.2) hK hP hD hS k0 k1 t0 t1 (zw_at hk0 he0) (zw_at hk1 (he1 (J k1))) ht0 ht1 rfl h1 h2 h3 h4 h5 (fun _ _ => rfl) hfr hlo hdg (fun H1 locs1 hP1 hD1 hS1 => kk _ H1 locs1 rfl (zw_setJ (he1 _) ▸ hP1) (zw_setJ (he1 _) ▸ hD1) hS1)
end Z2C
theorem zR_eq {a b : Int} {x y : Int32} (e : x = y) (h : zR a b y) : zR a b x := e ▸ h
/-! ===== z3: string constants beside the world ===== -/
def zLen : List Nat := [4, 4, 5, 4, 5, 5, 6, 5, 2, 5, 4]
def zByt : List (List Int32) := [[99, 105, 116, 121], [101, 97, 116, 115], [99, 97, 114, 114, 121], [111, 100, 100, 115], [104, 111, 117, 115, 101], [112, 117, 114, 115, 101], [108, 111, 99, 107, 101, 100], [116, 104, 105, 110, 103], [97, 116], [119, 111, 114, 116, 104], [119, 97, 110, 116]]
def zXRs (ad : Nat → Nat) (U : State) : Prop := vk_R "ReceiptLeft$Tape" 76 "city" (ad 0) U ∧ vk_R "ReceiptLeft$Tape" 78 "eats" (ad 1) U ∧ vk_R "ReceiptLeft$Tape" 86 "carry" (ad 2) U ∧ vk_R "ReceiptLeft$Tape" 90 "odds" (ad 3) U ∧ vk_R "ReceiptLeft$Tape" 49 "house" (ad 4) U ∧ vk_R "ReceiptLeft$Tape" 97 "purse" (ad 5) U ∧ vk_R "ReceiptLeft$Tape" 102 "locked" (ad 6) U ∧ vk_R "ReceiptLeft$Tape" 58 "thing" (ad 7) U ∧ vk_R "ReceiptLeft$Tape" 109 "at" (ad 8) U ∧ vk_R "ReceiptLeft$Tape" 113 "worth" (ad 9) U ∧ vk_R "ReceiptLeft$Tape" 63 "want" (ad 10) U
theorem zXRs_w {ad : Nat → Nat} {s U : State} (hW : s.WarmedH U.vm) (h : zXRs ad s) : zXRs ad U := ⟨vk_R.warm hW h.1, vk_R.warm hW h.2.1, vk_R.warm hW h.2.2.1, vk_R.warm hW h.2.2.2.1, vk_R.warm hW h.2.2.2.2.1, vk_R.warm hW h.2.2.2.2.2.1, vk_R.warm hW h.2.2.2.2.2.2.1, vk_R.warm hW h.2.2.2.2.2.2.2.1, vk_R.warm hW h.2.2.2.2.2.2.2.2.1, vk_R.warm hW h.2.2.2.2.2.2.2.2.2.1, vk_R.warm hW h.2.2.2.2.2.2.2.2.2.2⟩
theorem zXRs_c {ad : Nat → Nat} {u U : State} (hv : U.vm = u.vm) (h : zXRs ad u) : zXRs ad U := ⟨vk_R.same hv h.1, vk_R.same hv h.2.1, vk_R.same hv h.2.2.1, vk_R.same hv h.2.2.2.1, vk_R.same hv h.2.2.2.2.1, vk_R.same hv h.2.2.2.2.2.1, vk_R.same hv h.2.2.2.2.2.2.1, vk_R.same hv h.2.2.2.2.2.2.2.1, vk_R.same hv h.2.2.2.2.2.2.2.2.1, vk_R.same hv h.2.2.2.2.2.2.2.2.2.1, vk_R.same hv h.2.2.2.2.2.2.2.2.2.2⟩
def zMRs (ad : Nat → Nat) (U : State) : Prop := vk_R "ReceiptLeftModel" 194 "city" (ad 0) U ∧ vk_R "ReceiptLeftModel" 196 "eats" (ad 1) U ∧ vk_R "ReceiptLeftModel" 198 "carry" (ad 2) U ∧ vk_R "ReceiptLeftModel" 200 "odds" (ad 3) U ∧ vk_R "ReceiptLeftModel" 179 "house" (ad 4) U ∧ vk_R "ReceiptLeftModel" 185 "purse" (ad 5) U ∧ vk_R "ReceiptLeftModel" 190 "locked" (ad 6) U ∧ vk_R "ReceiptLeftModel" 181 "thing" (ad 7) U ∧ vk_R "ReceiptLeftModel" 191 "at" (ad 8) U ∧ vk_R "ReceiptLeftModel" 192 "worth" (ad 9) U ∧ vk_R "ReceiptLeftModel" 183 "want" (ad 10) U
theorem zMRs_w {ad : Nat → Nat} {s U : State} (hW : s.WarmedH U.vm) (h : zMRs ad s) : zMRs ad U := ⟨vk_R.warm hW h.1, vk_R.warm hW h.2.1, vk_R.warm hW h.2.2.1, vk_R.warm hW h.2.2.2.1, vk_R.warm hW h.2.2.2.2.1, vk_R.warm hW h.2.2.2.2.2.1, vk_R.warm hW h.2.2.2.2.2.2.1, vk_R.warm hW h.2.2.2.2.2.2.2.1, vk_R.warm hW h.2.2.2.2.2.2.2.2.1, vk_R.warm hW h.2.2.2.2.2.2.2.2.2.1, vk_R.warm hW h.2.2.2.2.2.2.2.2.2.2⟩
theorem zMRs_c {ad : Nat → Nat} {u U : State} (hv : U.vm = u.vm) (h : zMRs ad u) : zMRs ad U := ⟨vk_R.same hv h.1, vk_R.same hv h.2.1, vk_R.same hv h.2.2.1, vk_R.same hv h.2.2.2.1, vk_R.same hv h.2.2.2.2.1, vk_R.same hv h.2.2.2.2.2.1, vk_R.same hv h.2.2.2.2.2.2.1, vk_R.same hv h.2.2.2.2.2.2.2.1, vk_R.same hv h.2.2.2.2.2.2.2.2.1, vk_R.same hv h.2.2.2.2.2.2.2.2.2.1, vk_R.same hv h.2.2.2.2.2.2.2.2.2.2⟩
def zFmt : String := "Ljava/util/function/BiFunction;"
/-- what a parser's method asks: the constants' texts, two statics of the library, where the class has its constants -/
def zSz (Rs : (Nat → Nat) → State → Prop) (n : Nat) (q : Nat → Nat) (ad av : Nat → Nat) (_t9 : Nat) (sz : Nat) (U : State) : Prop :=
  vk_S 11 zLen zByt ad av (zA n q sz) U U.heap ∧ va_Z "java/lang/String" "COMPACT_STRINGS" "Z" (.int 1) (zA n q sz) U U.heap ∧ va_Zq "jdk/internal/util/Preconditions" "SIOOBE_FORMATTER" zFmt (zA n q sz) U U.heap ∧ Rs ad U
def zSS (Rs : (Nat → Nat) → State → Prop) (n : Nat) (q : Nat → Nat) (ad av : Nat → Nat) (t9 : Nat) (U : State) : Prop := zSz Rs n q ad av t9 U.heap.size U
theorem zSS_w {Rs : (Nat → Nat) → State → Prop} (hR : ∀ (ad : Nat → Nat) (s U : State), s.WarmedH U.vm → Rs ad s → Rs ad U) {n sz t9 : Nat} {q ad av : Nat → Nat} {s : State} {H : Heap} {locs : List Loc} (h : zSS Rs n q ad av t9 s) (hsz : s.heap.size = sz) (hS : va_S (zA n q sz) s.heap H locs) : ∀ U : State, U.heap = H → s.WarmedH U.vm → zSS Rs n q ad av t9 U := by
  intro U hU hW
  subst hsz
  obtain ⟨h1, h2, h3, h4⟩ := h
  have mono : ∀ a, zA n q U.heap.size a → zA n q s.heap.size a := zA_mono (by rw [hU]; exact hS.1)
  have kept : ∀ a : Nat, a < s.heap.size → ¬ zA n q s.heap.size a → U.heap[a]? = s.heap[a]? := fun a ha hn => by rw [hU]; exact hS.2.1 a ha hn
  exact ⟨((h1.kept kept).narrow mono).moved hW.alike, ((h2.kept kept).narrow mono).moved hW.alike, ((h3.kept kept).narrow mono).moved hW.alike, hR ad s U hW h4⟩
theorem zSS_c {Rs : (Nat → Nat) → State → Prop} (hR : ∀ (ad : Nat → Nat) (u U : State), U.vm = u.vm → Rs ad u → Rs ad U) {n t9 : Nat} {q ad av : Nat → Nat} (a : Array Value) (U : State) (g : JFrame) (mk : MethodId) (h : zSS Rs n q ad av t9 U) : zSS Rs n q ad av t9 (U.calling g mk a) := by
  obtain ⟨h1, h2, h3, h4⟩ := h
  exact ⟨vk_S.moved (u := U) (Vm.Alike.refl U.vm) h1, va_Z.moved (u := U) (Vm.Alike.refl U.vm) h2, va_Zq.moved (u := U) (Vm.Alike.refl U.vm) h3, hR ad U _ rfl h4⟩
/-! contracts that ask for more of the state than the world -/
def zPcN (Nn : State → Prop) (D : va_G) (cl : List vw_C) (tys : List (ClassId × FieldType)) (n : Nat) (q : Nat → Nat) (K : zKd) (av : List Value) (u : zU) (sz : Nat) : Array Value → State → Prop :=
  va_Pc av (fun U => U.heap.size = sz ∧ va_P D cl (zw n q K u.1 u.2.1 u.2.2) U.heap ∧ va_K D cl tys U ∧ va_D (fun _ => True) (zw n q K u.1 u.2.1 u.2.2) ∧ Nn U)
def zNi (Nn : State → Prop) (l : Launch) (D : va_G) (cl : List vw_C) (tys : List (ClassId × FieldType)) (n : Nat) (q : Nat → Nat) (K : zKd) (y : MethodName) (cc : ByteArray) (mL : Nat) (ret : Option FieldType) (rm : Room) (av : List Value) (u : zU) (post : Int32 → zU → Prop) : Prop :=
  ∀ sz : Nat, Met l y (Cond.code y cc mL ret :: zT) rm (zPcN Nn D cl tys n q K av u sz) (va_Qi post (zB D cl n q K sz) (zA n q sz)) 0 0 (zA n q sz)
def zNv (Nn : State → Prop) (l : Launch) (D : va_G) (cl : List vw_C) (tys : List (ClassId × FieldType)) (n : Nat) (q : Nat → Nat) (K : zKd) (y : MethodName) (cc : ByteArray) (mL : Nat) (ret : Option FieldType) (rm : Room) (av : List Value) (u : zU) (post : zU → Prop) : Prop :=
  ∀ sz : Nat, Met l y (Cond.code y cc mL ret :: zT) rm (zPcN Nn D cl tys n q K av u sz) (va_Qv post (zB D cl n q K sz) (zA n q sz)) 0 0 (zA n q sz)
theorem zPcN_blind {Nn : State → Prop} (hc : ∀ (a : Array Value) (U : State) (g : JFrame) (mk : MethodId), Nn U → Nn (U.calling g mk a)) {D : va_G} {cl : List vw_C} {tys : List (ClassId × FieldType)} {n : Nat} {q : Nat → Nat} {K : zKd} {av : List Value} {u : zU} {sz : Nat} : FrameBlind (zPcN Nn D cl tys n q K av u sz) :=
  fun a U g mk h => by
    obtain ⟨q0, q1, qP, qK, qD, qN⟩ := h
    exact ⟨q0, q1, qP, va_K.moved (u := U) (U := U.calling g mk a) (Vm.Alike.refl U.vm) qK, qD, hc a U g mk qN⟩
theorem z_bodyN {Nn : State → Prop} {l : Launch} {D : va_G} {cl : List vw_C} {tys : List (ClassId × FieldType)} {n : Nat} {q : Nat → Nat} {K : zKd} {y : MethodName} {cc : ByteArray} {mL : Nat} {ret : Option FieldType} {rm : Room} {av : List Value} {I R : Nat → Nat → Int32} {J : Nat → Nat → Int64} {Qc : Array Value → State → Outcome → State → Prop} {sz : Nat} (hy : plainName y.cls = true) (hlen : (lg_sl av).length ≤ mL)
    (body : ∀ (p : Program) (e : Env) (s : State) (m : MethodId) (below : List Frame) (meth : Method) (c : Code) (ls : Array Slot), p.tables.exec = Jvm.exec → c.code = cc → c.maxLocals = mL → meth.sig.returnType = ret → (∀ w ∈ zT, w.before av.toArray s = true) → s.vm.findClass y.cls = some m.cls → meth.locks = false → s.heap.size = sz → va_K D cl tys s → va_P D cl (zw n q K I R J) s.heap → va_D (zA n q sz) (zw n q K I R J) → va_S (zA n q sz) s.heap s.heap [] → Nn s → lv_has ls mL (lv_args 0 av) →
      W p l e rm s m av.toArray below meth c s.heap [] 0 0 (MQ below Qc av.toArray s 0 0 (zA n q sz)) (F0 m 0 ls [])) :
    Met l y (Cond.code y cc mL ret :: zT) rm (zPcN Nn D cl tys n q K av (I, R, J) sz) Qc 0 0 (zA n q sz) := by
  refine Met.ofW (cc := cc) (maxL := mL) (ret := ret) hy rfl ?_
  intro p e s m args below meth c s₁ B hml hv
  obtain ⟨rfl, hsz, hP, hK, hD0, hN⟩ := hv
  have hts := atoms_spec (ws := Cond.code y cc mL ret :: zT) B.pre
  have hl := lv_entry av (n := mL) hlen
  rw [lg_entry_eq]
  exact body p e s m below meth c _ B.exec B.bytes hml B.returns (fun w h => hts w (List.mem_cons_of_mem _ h)) (findClass_of_methodNamed B.named) B.notSynchronized hsz hK hP (zA_D hD0) va_S.rf hN hl
section ZNC
variable {p : Program} {l : Launch} {e : Env} {Rm : Room} {s : State} {m : MethodId} {args : Array Value} {below : List Frame} {meth : Method} {c : Code} {H H0 : Heap} {locs : List Loc} {cells slots : Nat} {Q : State → Prop} {D : va_G} {cl : List vw_C} {tys : List (ClassId × FieldType)} {n : Nat} {q : Nat → Nat} {K : zKd} {I R : Nat → Nat → Int32} {J : Nat → Nat → Int64} {A : Nat → Prop} {cc : ByteArray} {pc : Nat} {ls : Array Slot} {rest st0 As : List Value}
  {y : MethodName} {bytes : ByteArray} {mL nL na index : Nat} {ret : Option FieldType} {rm : Room} {own C : String} {T : u_T} {N ci k ra : Nat} {fs : List Value} {Nn : State → Prop}
theorem z_preVN (hNc : ∀ (a : Array Value) (U : State) (g : JFrame) (mk : MethodId), Nn U → Nn (U.calling g mk a)) (hNw : ∀ U : State, U.heap = H → s.WarmedH U.vm → Nn U) (hK : va_K D cl tys s) (hP : va_P D cl (zw n q K I R J) H) (hD : va_D A (zw n q K I R J)) (hr : ∃ cell : Cell, H[ra]? = some cell ∧ cell.vm.isStatics = false ∧ s.vm.findClass C = some cell.cls) : PreV s H C ra (zPcN Nn D cl tys n q K (.ref ra :: As) (I, R, J) H.size) As :=
  ⟨zPcN_blind hNc, hr, fun U hU hW => ⟨rfl, by rw [hU], by rw [hU]; exact hP, va_K.moved hW.alike hK, hD.weaken (fun _ _ _ _ => trivial), hNw U hU hW⟩⟩
theorem z_preSN (hNc : ∀ (a : Array Value) (U : State) (g : JFrame) (mk : MethodId), Nn U → Nn (U.calling g mk a)) (hNw : ∀ U : State, U.heap = H → s.WarmedH U.vm → Nn U) (hK : va_K D cl tys s) (hP : va_P D cl (zw n q K I R J) H) (hD : va_D A (zw n q K I R J)) : PreS s H (zPcN Nn D cl tys n q K As (I, R, J) H.size) As :=
  ⟨zPcN_blind hNc, fun U hU hW => ⟨rfl, by rw [hU], by rw [hU]; exact hP, va_K.moved hW.alike hK, hD.weaken (fun _ _ _ _ => trivial), hNw U hU hW⟩⟩
theorem z_cNXi {post : Int32 → zU → Prop} (hx : p.tables.exec = Jvm.exec) (hb : c.code = cc) (hml : c.maxLocals = nL) (hown : s.vm.findClass own = some m.cls) (ht : ∀ w ∈ zT, w.before args s = true) (hM : zNi Nn l D cl tys n q K y bytes mL ret rm (.ref ra :: As) (I, R, J) post) (hl : Cond.methodLink own index y ∈ zT) (hm : Cond.instanceMethod y ∈ zT ∧ Cond.selects C y y ∈ zT ∧ Cond.initialized y.cls ∈ zT ∧ Cond.code y bytes mL ret ∈ zT) (hrm : rm.cells = 0 ∧ rm.slots = 0) (hna : As.length = na) (hd : y.cls ≠ "java/lang/invoke/MethodHandle" ∧ y.cls ≠ "java/lang/invoke/VarHandle" ∧ (parseMethodDescriptor y.desc).map (fun d => d.parameters.length) = some na) (hR : rm.frames + 1 ≤ Rm.frames ∧ 8 + (mL + 11) + rm.locals ≤ Rm.locals) (hr : ∃ cell : Cell, H[ra]? = some cell ∧ cell.vm.isStatics = false ∧ s.vm.findClass C = some cell.cls) (hK : va_K D cl tys s) (hP : va_P D cl (zw n q K I R J) H) (hD : va_D A (zw n q K I R J)) (hS : va_S A H0 H locs) (hA : ∀ a, H0.size ≤ a → A a) (hNc : ∀ (a : Array Value) (U : State) (g : JFrame) (mk : MethodId), Nn U → Nn (U.calling g mk a)) (hNw : ∀ U : State, U.heap = H → s.WarmedH U.vm → Nn U) (hsz : ls.size = nL) (hst : st0 = As.reverse ++ .ref ra :: rest) (hW : (rest.map fun v => v.category).sum ≤ 8) (hf : cells + 0 ≤ Rm.cells ∧ slots + 0 ≤ Rm.slots) (hdg : decode cc pc = .ok (.invokevirtual index, 3))
    (kk : ∀ (r : Int32) (I1 R1 : Nat → Nat → Int32) (J1 : Nat → Nat → Int64) (H1 : Heap) (locs1 : List Loc), post r (I1, R1, J1) → va_P D cl (zw n q K I1 R1 J1) H1 → va_D A (zw n q K I1 R1 J1) → va_S A H0 H1 locs1 → H.size ≤ H1.size → (∀ a : Nat, a < H.size → ¬ zA n q H.size a → H1[a]? = H[a]?) → W p l e Rm s m args below meth c H1 locs1 cells slots Q (F0 m (pc + 3) ls (.int r :: rest))) : W p l e Rm s m args below meth c H locs cells slots Q (F0 m pc ls st0) := by
  subst hst
  obtain ⟨rf, rc, rs, rl⟩ := rm
  obtain ⟨h1, h2⟩ := hrm
  cases h1
  cases h2
  exact z_runi (va_runV (As := As) (rest := rest) ⟨hx, hb, hml, hown, ht⟩ (hM H.size) (z_cwV na ht hl hm hd hR) (z_preVN hNc hNw hK hP hD hr) rfl hna hsz rfl (lv_room hW) hdg hf) hS (zA_of hD hS hA) kk
theorem z_cNVi {post : Int32 → zU → Prop} (hx : p.tables.exec = Jvm.exec) (hb : c.code = cc) (hml : c.maxLocals = nL) (hown : s.vm.findClass own = some m.cls) (ht : ∀ w ∈ zT, w.before args s = true) (hM : zNi Nn l D cl tys n q K y bytes mL ret rm (.ref (q k) :: As) (I, R, J) post) (hl : Cond.methodLink own index y ∈ zT) (hm : Cond.instanceMethod y ∈ zT ∧ Cond.selects C y y ∈ zT ∧ Cond.initialized y.cls ∈ zT ∧ Cond.code y bytes mL ret ∈ zT) (hrm : rm.cells = 0 ∧ rm.slots = 0) (hna : As.length = na) (hd : y.cls ≠ "java/lang/invoke/MethodHandle" ∧ y.cls ≠ "java/lang/invoke/VarHandle" ∧ (parseMethodDescriptor y.desc).map (fun d => d.parameters.length) = some na) (hR : rm.frames + 1 ≤ Rm.frames ∧ 8 + (mL + 11) + rm.locals ≤ Rm.locals) (hk : k < n) (he : K k (I k) (R k) (J k) = .inr (ci, fs)) (hc : cl[ci]? = some (C, T, N)) (hK : va_K D cl tys s) (hP : va_P D cl (zw n q K I R J) H) (hD : va_D A (zw n q K I R J)) (hS : va_S A H0 H locs) (hA : ∀ a, H0.size ≤ a → A a) (hNc : ∀ (a : Array Value) (U : State) (g : JFrame) (mk : MethodId), Nn U → Nn (U.calling g mk a)) (hNw : ∀ U : State, U.heap = H → s.WarmedH U.vm → Nn U) (hsz : ls.size = nL) (hst : st0 = As.reverse ++ .ref (q k) :: rest) (hW : (rest.map fun v => v.category).sum ≤ 8) (hf : cells + 0 ≤ Rm.cells ∧ slots + 0 ≤ Rm.slots) (hdg : decode cc pc = .ok (.invokevirtual index, 3))
    (kk : ∀ (r : Int32) (I1 R1 : Nat → Nat → Int32) (J1 : Nat → Nat → Int64) (H1 : Heap) (locs1 : List Loc), post r (I1, R1, J1) → va_P D cl (zw n q K I1 R1 J1) H1 → va_D A (zw n q K I1 R1 J1) → va_S A H0 H1 locs1 → H.size ≤ H1.size → (∀ a : Nat, a < H.size → ¬ zA n q H.size a → H1[a]? = H[a]?) → W p l e Rm s m args below meth c H1 locs1 cells slots Q (F0 m (pc + 3) ls (.int r :: rest))) : W p l e Rm s m args below meth c H locs cells slots Q (F0 m pc ls st0) :=
  z_cNXi hx hb hml hown ht hM hl hm hrm hna hd hR (va_recv hK hP hc (zw_at hk he)) hK hP hD hS hA hNc hNw hsz hst hW hf hdg kk
theorem z_cNSi {post : Int32 → zU → Prop} (hx : p.tables.exec = Jvm.exec) (hb : c.code = cc) (hml : c.maxLocals = nL) (hown : s.vm.findClass own = some m.cls) (ht : ∀ w ∈ zT, w.before args s = true) (hM : zNi Nn l D cl tys n q K y bytes mL ret rm As (I, R, J) post) (hl : Cond.methodLink own index y ∈ zT) (hm : Cond.static y ∈ zT ∧ Cond.initialized y.cls ∈ zT ∧ Cond.code y bytes mL ret ∈ zT) (hrm : rm.cells = 0 ∧ rm.slots = 0) (hna : As.length = na) (hd : y.cls ≠ "java/lang/invoke/MethodHandle" ∧ y.cls ≠ "java/lang/invoke/VarHandle" ∧ (parseMethodDescriptor y.desc).map (fun d => d.parameters.length) = some na) (hR : rm.frames + 1 ≤ Rm.frames ∧ 8 + (mL + 11) + rm.locals ≤ Rm.locals) (hK : va_K D cl tys s) (hP : va_P D cl (zw n q K I R J) H) (hD : va_D A (zw n q K I R J)) (hS : va_S A H0 H locs) (hA : ∀ a, H0.size ≤ a → A a) (hNc : ∀ (a : Array Value) (U : State) (g : JFrame) (mk : MethodId), Nn U → Nn (U.calling g mk a)) (hNw : ∀ U : State, U.heap = H → s.WarmedH U.vm → Nn U) (hsz : ls.size = nL) (hst : st0 = As.reverse ++ rest) (hW : (rest.map fun v => v.category).sum ≤ 8) (hf : cells + 0 ≤ Rm.cells ∧ slots + 0 ≤ Rm.slots) (hdg : decode cc pc = .ok (.invokestatic index, 3))
    (kk : ∀ (r : Int32) (I1 R1 : Nat → Nat → Int32) (J1 : Nat → Nat → Int64) (H1 : Heap) (locs1 : List Loc), post r (I1, R1, J1) → va_P D cl (zw n q K I1 R1 J1) H1 → va_D A (zw n q K I1 R1 J1) → va_S A H0 H1 locs1 → H.size ≤ H1.size → (∀ a : Nat, a < H.size → ¬ zA n q H.size a → H1[a]? = H[a]?) → W p l e Rm s m args below meth c H1 locs1 cells slots Q (F0 m (pc + 3) ls (.int r :: rest))) : W p l e Rm s m args below meth c H locs cells slots Q (F0 m pc ls st0) := by
  subst hst
  obtain ⟨rf, rc, rs, rl⟩ := rm
  obtain ⟨h1, h2⟩ := hrm
  cases h1
  cases h2
  exact z_runi (va_runS (As := As) (rest := rest) ⟨hx, hb, hml, hown, ht⟩ (hM H.size) (z_cwS na ht hl hm hd hR) (z_preSN hNc hNw hK hP hD) rfl hna hsz rfl (lv_room hW) hdg hf) hS (zA_of hD hS hA) kk
theorem z_cNXv {post : zU → Prop} (hx : p.tables.exec = Jvm.exec) (hb : c.code = cc) (hml : c.maxLocals = nL) (hown : s.vm.findClass own = some m.cls) (ht : ∀ w ∈ zT, w.before args s = true) (hM : zNv Nn l D cl tys n q K y bytes mL ret rm (.ref ra :: As) (I, R, J) post) (hl : Cond.methodLink own index y ∈ zT) (hm : Cond.instanceMethod y ∈ zT ∧ Cond.selects C y y ∈ zT ∧ Cond.initialized y.cls ∈ zT ∧ Cond.code y bytes mL ret ∈ zT) (hrm : rm.cells = 0 ∧ rm.slots = 0) (hna : As.length = na) (hd : y.cls ≠ "java/lang/invoke/MethodHandle" ∧ y.cls ≠ "java/lang/invoke/VarHandle" ∧ (parseMethodDescriptor y.desc).map (fun d => d.parameters.length) = some na) (hR : rm.frames + 1 ≤ Rm.frames ∧ 8 + (mL + 11) + rm.locals ≤ Rm.locals) (hr : ∃ cell : Cell, H[ra]? = some cell ∧ cell.vm.isStatics = false ∧ s.vm.findClass C = some cell.cls) (hK : va_K D cl tys s) (hP : va_P D cl (zw n q K I R J) H) (hD : va_D A (zw n q K I R J)) (hS : va_S A H0 H locs) (hA : ∀ a, H0.size ≤ a → A a) (hNc : ∀ (a : Array Value) (U : State) (g : JFrame) (mk : MethodId), Nn U → Nn (U.calling g mk a)) (hNw : ∀ U : State, U.heap = H → s.WarmedH U.vm → Nn U) (hsz : ls.size = nL) (hst : st0 = As.reverse ++ .ref ra :: rest) (hW : (rest.map fun v => v.category).sum ≤ 8) (hf : cells + 0 ≤ Rm.cells ∧ slots + 0 ≤ Rm.slots) (hdg : decode cc pc = .ok (.invokevirtual index, 3))
    (kk : ∀ (I1 R1 : Nat → Nat → Int32) (J1 : Nat → Nat → Int64) (H1 : Heap) (locs1 : List Loc), post (I1, R1, J1) → va_P D cl (zw n q K I1 R1 J1) H1 → va_D A (zw n q K I1 R1 J1) → va_S A H0 H1 locs1 → H.size ≤ H1.size → (∀ a : Nat, a < H.size → ¬ zA n q H.size a → H1[a]? = H[a]?) → W p l e Rm s m args below meth c H1 locs1 cells slots Q (F0 m (pc + 3) ls (rest))) : W p l e Rm s m args below meth c H locs cells slots Q (F0 m pc ls st0) := by
  subst hst
  obtain ⟨rf, rc, rs, rl⟩ := rm
  obtain ⟨h1, h2⟩ := hrm
  cases h1
  cases h2
  exact z_runv (va_runV (As := As) (rest := rest) ⟨hx, hb, hml, hown, ht⟩ (hM H.size) (z_cwV na ht hl hm hd hR) (z_preVN hNc hNw hK hP hD hr) rfl hna hsz rfl (lv_room hW) hdg hf) hS (zA_of hD hS hA) kk
theorem z_cNVv {post : zU → Prop} (hx : p.tables.exec = Jvm.exec) (hb : c.code = cc) (hml : c.maxLocals = nL) (hown : s.vm.findClass own = some m.cls) (ht : ∀ w ∈ zT, w.before args s = true) (hM : zNv Nn l D cl tys n q K y bytes mL ret rm (.ref (q k) :: As) (I, R, J) post) (hl : Cond.methodLink own index y ∈ zT) (hm : Cond.instanceMethod y ∈ zT ∧ Cond.selects C y y ∈ zT ∧ Cond.initialized y.cls ∈ zT ∧ Cond.code y bytes mL ret ∈ zT) (hrm : rm.cells = 0 ∧ rm.slots = 0) (hna : As.length = na) (hd : y.cls ≠ "java/lang/invoke/MethodHandle" ∧ y.cls ≠ "java/lang/invoke/VarHandle" ∧ (parseMethodDescriptor y.desc).map (fun d => d.parameters.length) = some na) (hR : rm.frames + 1 ≤ Rm.frames ∧ 8 + (mL + 11) + rm.locals ≤ Rm.locals) (hk : k < n) (he : K k (I k) (R k) (J k) = .inr (ci, fs)) (hc : cl[ci]? = some (C, T, N)) (hK : va_K D cl tys s) (hP : va_P D cl (zw n q K I R J) H) (hD : va_D A (zw n q K I R J)) (hS : va_S A H0 H locs) (hA : ∀ a, H0.size ≤ a → A a) (hNc : ∀ (a : Array Value) (U : State) (g : JFrame) (mk : MethodId), Nn U → Nn (U.calling g mk a)) (hNw : ∀ U : State, U.heap = H → s.WarmedH U.vm → Nn U) (hsz : ls.size = nL) (hst : st0 = As.reverse ++ .ref (q k) :: rest) (hW : (rest.map fun v => v.category).sum ≤ 8) (hf : cells + 0 ≤ Rm.cells ∧ slots + 0 ≤ Rm.slots) (hdg : decode cc pc = .ok (.invokevirtual index, 3))
    (kk : ∀ (I1 R1 : Nat → Nat → Int32) (J1 : Nat → Nat → Int64) (H1 : Heap) (locs1 : List Loc), post (I1, R1, J1) → va_P D cl (zw n q K I1 R1 J1) H1 → va_D A (zw n q K I1 R1 J1) → va_S A H0 H1 locs1 → H.size ≤ H1.size → (∀ a : Nat, a < H.size → ¬ zA n q H.size a → H1[a]? = H[a]?) → W p l e Rm s m args below meth c H1 locs1 cells slots Q (F0 m (pc + 3) ls (rest))) : W p l e Rm s m args below meth c H locs cells slots Q (F0 m pc ls st0) :=
  z_cNXv hx hb hml hown ht hM hl hm hrm hna hd hR (va_recv hK hP hc (zw_at hk he)) hK hP hD hS hA hNc hNw hsz hst hW hf hdg kk
theorem z_cNSv {post : zU → Prop} (hx : p.tables.exec = Jvm.exec) (hb : c.code = cc) (hml : c.maxLocals = nL) (hown : s.vm.findClass own = some m.cls) (ht : ∀ w ∈ zT, w.before args s = true) (hM : zNv Nn l D cl tys n q K y bytes mL ret rm As (I, R, J) post) (hl : Cond.methodLink own index y ∈ zT) (hm : Cond.static y ∈ zT ∧ Cond.initialized y.cls ∈ zT ∧ Cond.code y bytes mL ret ∈ zT) (hrm : rm.cells = 0 ∧ rm.slots = 0) (hna : As.length = na) (hd : y.cls ≠ "java/lang/invoke/MethodHandle" ∧ y.cls ≠ "java/lang/invoke/VarHandle" ∧ (parseMethodDescriptor y.desc).map (fun d => d.parameters.length) = some na) (hR : rm.frames + 1 ≤ Rm.frames ∧ 8 + (mL + 11) + rm.locals ≤ Rm.locals) (hK : va_K D cl tys s) (hP : va_P D cl (zw n q K I R J) H) (hD : va_D A (zw n q K I R J)) (hS : va_S A H0 H locs) (hA : ∀ a, H0.size ≤ a → A a) (hNc : ∀ (a : Array Value) (U : State) (g : JFrame) (mk : MethodId), Nn U → Nn (U.calling g mk a)) (hNw : ∀ U : State, U.heap = H → s.WarmedH U.vm → Nn U) (hsz : ls.size = nL) (hst : st0 = As.reverse ++ rest) (hW : (rest.map fun v => v.category).sum ≤ 8) (hf : cells + 0 ≤ Rm.cells ∧ slots + 0 ≤ Rm.slots) (hdg : decode cc pc = .ok (.invokestatic index, 3))
    (kk : ∀ (I1 R1 : Nat → Nat → Int32) (J1 : Nat → Nat → Int64) (H1 : Heap) (locs1 : List Loc), post (I1, R1, J1) → va_P D cl (zw n q K I1 R1 J1) H1 → va_D A (zw n q K I1 R1 J1) → va_S A H0 H1 locs1 → H.size ≤ H1.size → (∀ a : Nat, a < H.size → ¬ zA n q H.size a → H1[a]? = H[a]?) → W p l e Rm s m args below meth c H1 locs1 cells slots Q (F0 m (pc + 3) ls (rest))) : W p l e Rm s m args below meth c H locs cells slots Q (F0 m pc ls st0) := by
  subst hst
  obtain ⟨rf, rc, rs, rl⟩ := rm
  obtain ⟨h1, h2⟩ := hrm
  cases h1
  cases h2
  exact z_runv (va_runS (As := As) (rest := rest) ⟨hx, hb, hml, hown, ht⟩ (hM H.size) (z_cwS na ht hl hm hd hR) (z_preSN hNc hNw hK hP hD) rfl hna hsz rfl (lv_room hW) hdg hf) hS (zA_of hD hS hA) kk
end ZNC
theorem zR_i2c (x : Int32) : zR 0 65535 (x.toUInt32 % 65536).toInt32 := by
  have h : (x.toUInt32 % 65536).toNat < 65536 := by
    rw [UInt32.toNat_mod]; exact Nat.mod_lt _ (by decide)
  have e : (x.toUInt32 % 65536).toInt32.toInt = ((x.toUInt32 % 65536).toNat : Int) := by
    rw [Int32.toInt, BitVec.toInt_eq_toNat_of_lt]
    · rfl
    · show 2 * (x.toUInt32 % 65536).toNat < 2 ^ 32
      omega
  exact ⟨by rw [e]; omega, by rw [e]; omega⟩
theorem zR_char {x : Int32} (h : zR 0 65535 x) : narrow .char (.int x) = .int x := by
  obtain ⟨j, hj, rfl⟩ := z_ex (x := x) (N := 65536) h.1 (by have := h.2; omega)
  show Value.int _ = _
  congr 1
  apply Int32.toInt_inj.mp
  have h1 : (nI j).toUInt32.toNat = j := by
    have e : (nI j).toUInt32 = UInt32.ofNat j := rfl
    rw [e, UInt32.toNat_ofNat']
    omega
  have h2 : ((nI j).toUInt32 % 65536).toNat = j := by
    rw [UInt32.toNat_mod, h1]
    exact Nat.mod_eq_of_lt hj
  have e2 : ((nI j).toUInt32 % 65536) = (nI j).toUInt32 := UInt32.toNat.inj (by rw [h2, h1])
  first
    | (rw [e2]; rfl)
    | (simp [e2])
/-- where a word of a known length begins, if it ends within the tape -/
theorem z_start {b s v : Int32} {L : Int} (hb : zR 0 800 b) (hs : zR 0 800 s) (e : v = b - s) (hv : zR L L v) {hi : Int} (k : hi = 800 - L) : zR 0 hi s := by
  have e1 := congrArg Int32.toInt e
  obtain ⟨h1, h2⟩ := hb
  obtain ⟨h3, h4⟩ := hs
  rw [z2_sub (by omega) (by omega)] at e1
  obtain ⟨h5, h6⟩ := hv
  exact ⟨h3, by omega⟩
theorem zk_m8 : zR (-8) (-8) ((-8 : Int32)) := ⟨by decide +kernel, by decide +kernel⟩
theorem zk_m6 : zR (-6) (-6) ((-6 : Int32)) := ⟨by decide +kernel, by decide +kernel⟩
theorem zk_m5 : zR (-5) (-5) ((-5 : Int32)) := ⟨by decide +kernel, by decide +kernel⟩
theorem zk_m2 : zR (-2) (-2) ((-2 : Int32)) := ⟨by decide +kernel, by decide +kernel⟩
theorem zk_m1 : zR (-1) (-1) ((-1 : Int32)) := ⟨by decide +kernel, by decide +kernel⟩
theorem zk_0 : zR 0 0 (nI 0) := ⟨by decide +kernel, by decide +kernel⟩
theorem zk_1 : zR 1 1 (nI 1) := ⟨by decide +kernel, by decide +kernel⟩
theorem zk_2 : zR 2 2 (nI 2) := ⟨by decide +kernel, by decide +kernel⟩
theorem zk_3 : zR 3 3 (nI 3) := ⟨by decide +kernel, by decide +kernel⟩
theorem zk_4 : zR 4 4 (nI 4) := ⟨by decide +kernel, by decide +kernel⟩
theorem zk_5 : zR 5 5 (nI 5) := ⟨by decide +kernel, by decide +kernel⟩
theorem zk_6 : zR 6 6 (nI 6) := ⟨by decide +kernel, by decide +kernel⟩
theorem zk_10 : zR 10 10 (nI 10) := ⟨by decide +kernel, by decide +kernel⟩
theorem zk_15 : zR 15 15 (nI 15) := ⟨by decide +kernel, by decide +kernel⟩
theorem zk_20 : zR 20 20 (nI 20) := ⟨by decide +kernel, by decide +kernel⟩
theorem zk_24 : zR 24 24 (nI 24) := ⟨by decide +kernel, by decide +kernel⟩
theorem zk_25 : zR 25 25 (nI 25) := ⟨by decide +kernel, by decide +kernel⟩
theorem zk_30 : zR 30 30 (nI 30) := ⟨by decide +kernel, by decide +kernel⟩
theorem zk_32 : zR 32 32 (nI 32) := ⟨by decide +kernel, by decide +kernel⟩
theorem zk_40 : zR 40 40 (nI 40) := ⟨by decide +kernel, by decide +kernel⟩
theorem zk_48 : zR 48 48 (nI 48) := ⟨by decide +kernel, by decide +kernel⟩
theorem zk_49 : zR 49 49 (nI 49) := ⟨by decide +kernel, by decide +kernel⟩
theorem zk_50 : zR 50 50 (nI 50) := ⟨by decide +kernel, by decide +kernel⟩
theorem zk_57 : zR 57 57 (nI 57) := ⟨by decide +kernel, by decide +kernel⟩
theorem zk_59 : zR 59 59 (nI 59) := ⟨by decide +kernel, by decide +kernel⟩
theorem zk_60 : zR 60 60 (nI 60) := ⟨by decide +kernel, by decide +kernel⟩
theorem zk_63 : zR 63 63 (nI 63) := ⟨by decide +kernel, by decide +kernel⟩
theorem zk_97 : zR 97 97 (nI 97) := ⟨by decide +kernel, by decide +kernel⟩
theorem zk_100 : zR 100 100 (nI 100) := ⟨by decide +kernel, by decide +kernel⟩
theorem zk_122 : zR 122 122 (nI 122) := ⟨by decide +kernel, by decide +kernel⟩
theorem zk_255 : zR 255 255 (nI 255) := ⟨by decide +kernel, by decide +kernel⟩
theorem zk_500 : zR 500 500 (nI 500) := ⟨by decide +kernel, by decide +kernel⟩
theorem zk_800 : zR 800 800 (nI 800) := ⟨by decide +kernel, by decide +kernel⟩
theorem zk_999 : zR 999 999 (nI 999) := ⟨by decide +kernel, by decide +kernel⟩
theorem zk_9999 : zR 9999 9999 (nI 9999) := ⟨by decide +kernel, by decide +kernel⟩
theorem zk_1000000 : zR 1000000 1000000 (nI 1000000) := ⟨by decide +kernel, by decide +kernel⟩
theorem zk_252645135 : zR 252645135 252645135 (nI 252645135) := ⟨by decide +kernel, by decide +kernel⟩
theorem zk_858993459 : zR 858993459 858993459 (nI 858993459) := ⟨by decide +kernel, by decide +kernel⟩
theorem zk_1431655765 : zR 1431655765 1431655765 (nI 1431655765) := ⟨by decide +kernel, by decide +kernel⟩
theorem zk_2000000000 : zR 2000000000 2000000000 (nI 2000000000) := ⟨by decide +kernel, by decide +kernel⟩
theorem zkl_65536 : zL 65536 65536 (65536 : Int64) := ⟨by decide +kernel, by decide +kernel⟩
theorem zkl_2147483647 : zL 2147483647 2147483647 (2147483647 : Int64) := ⟨by decide +kernel, by decide +kernel⟩
