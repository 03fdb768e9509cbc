theorem zs_v : ∀ i : Nat, i < 11 → zLen.getD i 0 < 2 ^ 31 := by decide +kernel
theorem zs_c : Cond.eq (.static "java/lang/String" "COMPACT_STRINGS" "Z") (.int 1) ∈ flatC (Jvm.Cond.and given_1 narrow_1) := List.mem_of_getElem? (i := 4) (by decide +kernel)
theorem zs_f : Cond.isRef (.static "jdk/internal/util/Preconditions" "SIOOBE_FORMATTER" zFmt) ∈ flatC (Jvm.Cond.and given_1 narrow_1) := List.mem_of_getElem? (i := 5) (by decide +kernel)
def zXix : List Nat := [76, 78, 86, 90, 49, 97, 102, 58, 109, 113, 63]
def zXt1 : List Nat := [33, 41, 50, 61, 72, 85, 99, 115, 131, 145, 163]
def zXt2 : List Nat := [34, 42, 51, 62, 73, 86, 100, 116, 132, 146, 164]
def zXt3 : List Nat := [35, 43, 52, 63, 74, 87, 101, 117, 133, 147, 165]
def zXt4 : List Nat := [36, 44, 53, 64, 75, 88, 102, 118, 134, 148, 166]
def zXt5 : List Nat := [37, 38, 39, 40, 0, 0, 0, 0, 45, 46, 47, 48, 0, 0, 0, 0, 54, 55, 56, 57, 58, 0, 0, 0, 65, 66, 67, 68, 0, 0, 0, 0, 76, 77, 78, 79, 80, 0, 0, 0, 89, 90, 91, 92, 93, 0, 0, 0, 103, 104, 105, 106, 107, 108, 0, 0, 119, 120, 121, 122, 123, 0, 0, 0, 135, 136, 0, 0, 0, 0, 0, 0, 149, 150, 151, 152, 153, 0, 0, 0, 167, 168, 169, 170, 0, 0, 0, 0]
def zXt6 : List Nat := [0, 49, 59, 69, 81, 94, 109, 124, 137, 154, 171, 0, 0, 60, 70, 82, 95, 110, 125, 138, 155, 172, 0, 0, 0, 71, 83, 96, 111, 126, 139, 156, 173, 0, 0, 0, 0, 84, 97, 112, 127, 140, 157, 174, 0, 0, 0, 0, 0, 98, 113, 128, 141, 158, 175, 0, 0, 0, 0, 0, 0, 114, 129, 142, 159, 176, 0, 0, 0, 0, 0, 0, 0, 130, 143, 160, 177, 0, 0, 0, 0, 0, 0, 0, 0, 144, 161, 178, 0, 0, 0, 0, 0, 0, 0, 0, 0, 162, 179, 0, 0, 0, 0, 0, 0, 0, 0, 0, 0, 180, 0, 0, 0, 0, 0, 0, 0, 0, 0, 0, 0]
theorem zXs_1 : ∀ i : Nat, i < 11 → (flatC (Jvm.Cond.and given_1 narrow_1))[zXt1.getD i 0]? = some (Cond.exactly (Term.string "ReceiptLeft$Tape" (zXix.getD i 0)) "java/lang/String") := by decide +kernel
theorem zXs_2 : ∀ i : Nat, i < 11 → (flatC (Jvm.Cond.and given_1 narrow_1))[zXt2.getD i 0]? = some (Cond.eq (.field (Term.string "ReceiptLeft$Tape" (zXix.getD i 0)) "java/lang/String" "coder" "B") (.int 0)) := by decide +kernel
theorem zXs_3 : ∀ i : Nat, i < 11 → (flatC (Jvm.Cond.and given_1 narrow_1))[zXt3.getD i 0]? = some (Cond.arrayOf (.field (Term.string "ReceiptLeft$Tape" (zXix.getD i 0)) "java/lang/String" "value" "[B") .byte) := by decide +kernel
theorem zXs_4 : ∀ i : Nat, i < 11 → (flatC (Jvm.Cond.and given_1 narrow_1))[zXt4.getD i 0]? = some (Cond.eq (.length (.field (Term.string "ReceiptLeft$Tape" (zXix.getD i 0)) "java/lang/String" "value" "[B")) (.int (Int32.ofNat (zLen.getD i 0)))) := by decide +kernel
theorem zXs_5 : ∀ i : Nat, i < 11 → ∀ j : Nat, j < zLen.getD i 0 → (flatC (Jvm.Cond.and given_1 narrow_1))[zXt5.getD (8 * i + j) 0]? = some (Cond.eq (.elem (.field (Term.string "ReceiptLeft$Tape" (zXix.getD i 0)) "java/lang/String" "value" "[B") (.int (Int32.ofNat j))) (.int ((zByt.getD i []).getD j 0))) := by decide +kernel
theorem zXs_6 : ∀ i : Nat, i < 11 → ∀ j : Nat, j < 11 → i < j → ((flatC (Jvm.Cond.and given_1 narrow_1))[zXt6.getD (11 * i + j) 0]? = some (Cond.not (Cond.eq (Term.string "ReceiptLeft$Tape" (zXix.getD i 0)) (Term.string "ReceiptLeft$Tape" (zXix.getD j 0)))) ∨ (flatC (Jvm.Cond.and given_1 narrow_1))[zXt6.getD (11 * i + j) 0]? = some (Cond.not (Cond.eq (Term.string "ReceiptLeft$Tape" (zXix.getD j 0)) (Term.string "ReceiptLeft$Tape" (zXix.getD i 0))))) := by decide +kernel
theorem zXls {s : State} {b : Nat} (hgv : (Jvm.Cond.and given_1 narrow_1).before #[Value.ref b] s = true) (hts : ∀ w ∈ lw_tbl, w.before #[Value.ref b] s = true) : ∃ ad av : Nat → Nat, zLS zXRs ad av 0 s := by
  have hs := flat_of_before _ hgv
  have hg : ∀ (n : Nat) (w : Cond), (flatC (Jvm.Cond.and given_1 narrow_1))[n]? = some w → w.before #[Value.ref b] s = true := fun n w h => hs w (List.mem_of_getElem? h)
  have hA : ∀ a : Nat, a < s.heap.size → ¬ zLA s a := fun a h => Nat.not_le.mpr h
  obtain ⟨ad, av, hV, hE⟩ := vk_Sof (args := #[Value.ref b]) (s := s) (N := 11) (tm := fun i => (Term.string "ReceiptLeft$Tape" (zXix.getD i 0))) (len := zLen) (byt := zByt) (A := zLA s) zs_v (fun i hi => hg _ _ (zXs_1 i hi)) (fun i hi => hg _ _ (zXs_2 i hi)) (fun i hi => hg _ _ (zXs_3 i hi)) (fun i hi => hg _ _ (zXs_4 i hi)) (fun i hi j hj => hg _ _ (zXs_5 i hi j hj)) (fun i j hi hj hij => by
    rcases Nat.lt_or_gt_of_ne hij with g | g
    · rcases zXs_6 i hi j hj g with h | h
      · exact Or.inl (hg _ _ h)
      · exact Or.inr (hg _ _ h)
    · rcases zXs_6 j hj i hi g with h | h
      · exact Or.inr (hg _ _ h)
      · exact Or.inl (hg _ _ h)) hA
  exact ⟨ad, av, hV, va_Zof (hts _ hv_2_196) (hts _ hv_1_14) (va_eqt (hs _ zs_c)) hA, va_Zqof (hts _ hv_2_212) (hts _ hv_1_16) (hs _ zs_f) hA, vk_R.of (hts _ hv_2_182) (hE 0 (by decide)), vk_R.of (hts _ hv_3_3) (hE 1 (by decide)), vk_R.of (hts _ hv_3_13) (hE 2 (by decide)), vk_R.of (hts _ hv_3_14) (hE 3 (by decide)), vk_R.of (hts _ hv_3_15) (hE 4 (by decide)), vk_R.of (hts _ hv_3_20) (hE 5 (by decide)), vk_R.of (hts _ hv_3_21) (hE 6 (by decide)), vk_R.of (hts _ hv_3_22) (hE 7 (by decide)), vk_R.of (hts _ hv_3_27) (hE 8 (by decide)), vk_R.of (hts _ hv_3_28) (hE 9 (by decide)), vk_R.of (hts _ hv_3_29) (hE 10 (by decide))⟩
def zMix : List Nat := [194, 196, 198, 200, 179, 185, 190, 181, 191, 192, 183]
def zMt1 : List Nat := [181, 200, 220, 242, 264, 338, 365, 288, 394, 420, 313]
def zMt2 : List Nat := [182, 201, 221, 243, 265, 339, 366, 289, 395, 421, 314]
def zMt3 : List Nat := [183, 202, 222, 244, 266, 340, 367, 290, 396, 422, 315]
def zMt4 : List Nat := [184, 203, 223, 245, 267, 341, 368, 291, 397, 423, 316]
def zMt5 : List Nat := [185, 186, 187, 188, 0, 0, 0, 0, 204, 205, 206, 207, 0, 0, 0, 0, 224, 225, 226, 227, 228, 0, 0, 0, 246, 247, 248, 249, 0, 0, 0, 0, 268, 269, 270, 271, 272, 0, 0, 0, 342, 343, 344, 345, 346, 0, 0, 0, 369, 370, 371, 372, 373, 374, 0, 0, 292, 293, 294, 295, 296, 0, 0, 0, 398, 399, 0, 0, 0, 0, 0, 0, 424, 425, 426, 427, 428, 0, 0, 0, 317, 318, 319, 320, 0, 0, 0, 0]
def zMt6 : List Nat := [0, 219, 240, 261, 284, 358, 386, 308, 411, 440, 332, 0, 0, 241, 262, 285, 359, 387, 309, 412, 441, 333, 0, 0, 0, 263, 286, 360, 388, 310, 413, 442, 334, 0, 0, 0, 0, 287, 361, 389, 311, 414, 443, 335, 0, 0, 0, 0, 0, 362, 390, 312, 415, 444, 336, 0, 0, 0, 0, 0, 0, 393, 363, 418, 447, 364, 0, 0, 0, 0, 0, 0, 0, 391, 419, 448, 392, 0, 0, 0, 0, 0, 0, 0, 0, 416, 445, 337, 0, 0, 0, 0, 0, 0, 0, 0, 0, 449, 417, 0, 0, 0, 0, 0, 0, 0, 0, 0, 0, 446, 0, 0, 0, 0, 0, 0, 0, 0, 0, 0, 0]
theorem zMs_1 : ∀ i : Nat, i < 11 → (flatC (Jvm.Cond.and given_1 narrow_1))[zMt1.getD i 0]? = some (Cond.exactly (Term.string "ReceiptLeftModel" (zMix.getD i 0)) "java/lang/String") := by decide +kernel
theorem zMs_2 : ∀ i : Nat, i < 11 → (flatC (Jvm.Cond.and given_1 narrow_1))[zMt2.getD i 0]? = some (Cond.eq (.field (Term.string "ReceiptLeftModel" (zMix.getD i 0)) "java/lang/String" "coder" "B") (.int 0)) := by decide +kernel
theorem zMs_3 : ∀ i : Nat, i < 11 → (flatC (Jvm.Cond.and given_1 narrow_1))[zMt3.getD i 0]? = some (Cond.arrayOf (.field (Term.string "ReceiptLeftModel" (zMix.getD i 0)) "java/lang/String" "value" "[B") .byte) := by decide +kernel
theorem zMs_4 : ∀ i : Nat, i < 11 → (flatC (Jvm.Cond.and given_1 narrow_1))[zMt4.getD i 0]? = some (Cond.eq (.length (.field (Term.string "ReceiptLeftModel" (zMix.getD i 0)) "java/lang/String" "value" "[B")) (.int (Int32.ofNat (zLen.getD i 0)))) := by decide +kernel
theorem zMs_5 : ∀ i : Nat, i < 11 → ∀ j : Nat, j < zLen.getD i 0 → (flatC (Jvm.Cond.and given_1 narrow_1))[zMt5.getD (8 * i + j) 0]? = some (Cond.eq (.elem (.field (Term.string "ReceiptLeftModel" (zMix.getD i 0)) "java/lang/String" "value" "[B") (.int (Int32.ofNat j))) (.int ((zByt.getD i []).getD j 0))) := by decide +kernel
theorem zMs_6 : ∀ i : Nat, i < 11 → ∀ j : Nat, j < 11 → i < j → ((flatC (Jvm.Cond.and given_1 narrow_1))[zMt6.getD (11 * i + j) 0]? = some (Cond.not (Cond.eq (Term.string "ReceiptLeftModel" (zMix.getD i 0)) (Term.string "ReceiptLeftModel" (zMix.getD j 0)))) ∨ (flatC (Jvm.Cond.and given_1 narrow_1))[zMt6.getD (11 * i + j) 0]? = some (Cond.not (Cond.eq (Term.string "ReceiptLeftModel" (zMix.getD j 0)) (Term.string "ReceiptLeftModel" (zMix.getD i 0))))) := by decide +kernel
theorem zMls {s : State} {b : Nat} (hgv : (Jvm.Cond.and given_1 narrow_1).before #[Value.ref b] s = true) (hts : ∀ w ∈ lw_tbl, w.before #[Value.ref b] s = true) : ∃ ad av : Nat → Nat, zLS zMRs ad av 0 s := by
  have hs := flat_of_before _ hgv
  have hg : ∀ (n : Nat) (w : Cond), (flatC (Jvm.Cond.and given_1 narrow_1))[n]? = some w → w.before #[Value.ref b] s = true := fun n w h => hs w (List.mem_of_getElem? h)
  have hA : ∀ a : Nat, a < s.heap.size → ¬ zLA s a := fun a h => Nat.not_le.mpr h
  obtain ⟨ad, av, hV, hE⟩ := vk_Sof (args := #[Value.ref b]) (s := s) (N := 11) (tm := fun i => (Term.string "ReceiptLeftModel" (zMix.getD i 0))) (len := zLen) (byt := zByt) (A := zLA s) zs_v (fun i hi => hg _ _ (zMs_1 i hi)) (fun i hi => hg _ _ (zMs_2 i hi)) (fun i hi => hg _ _ (zMs_3 i hi)) (fun i hi => hg _ _ (zMs_4 i hi)) (fun i hi j hj => hg _ _ (zMs_5 i hi j hj)) (fun i j hi hj hij => by
    rcases Nat.lt_or_gt_of_ne hij with g | g
    · rcases zMs_6 i hi j hj g with h | h
      · exact Or.inl (hg _ _ h)
      · exact Or.inr (hg _ _ h)
    · rcases zMs_6 j hj i hi g with h | h
      · exact Or.inr (hg _ _ h)
      · exact Or.inl (hg _ _ h)) hA
  exact ⟨ad, av, hV, va_Zof (hts _ hv_2_196) (hts _ hv_1_14) (va_eqt (hs _ zs_c)) hA, va_Zqof (hts _ hv_2_212) (hts _ hv_1_16) (hs _ zs_f) hA, vk_R.of (hts _ hv_6_131) (hE 0 (by decide)), vk_R.of (hts _ hv_6_150) (hE 1 (by decide)), vk_R.of (hts _ hv_6_159) (hE 2 (by decide)), vk_R.of (hts _ hv_6_160) (hE 3 (by decide)), vk_R.of (hts _ hv_6_165) (hE 4 (by decide)), vk_R.of (hts _ hv_6_168) (hE 5 (by decide)), vk_R.of (hts _ hv_6_169) (hE 6 (by decide)), vk_R.of (hts _ hv_6_166) (hE 7 (by decide)), vk_R.of (hts _ hv_6_170) (hE 8 (by decide)), vk_R.of (hts _ hv_6_171) (hE 9 (by decide)), vk_R.of (hts _ hv_6_167) (hE 10 (by decide))⟩
