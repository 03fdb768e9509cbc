/-! THE CLAIM OUT OF ONE WALK OF THE LAW'S BODY. Your part is whole_start (and what it stands on); all else here is the same for every law, but numbers. -/
def R_law : String := "ReceiptLeftLaw"
def lw_P (b : Addr) (xs : List Int32) (args : Array Value) (s : State) : Prop := args = #[.ref b] ∧ s.IntsAt b xs ∧ xs.length ≤ 3072 ∧ (Jvm.Cond.and given_1 narrow_1).before args s = true
def lw_Q (_ : Array Value) (s : State) (o : Outcome) (t : State) : Prop := o = .returned (some (.int 1)) ∧ Framed s o t [] 600000 7302250
def lw_Z (below : List Frame) (a : Array Value) (s : State) : State → Prop := fun t => ∃ o, t.status = .running ∧ Ended t below o ∧ lw_Q a s o t
/-- the law's own end, with 1 on the stack, nothing written that was there before, its room as the claim has it -/
theorem lw_ret {p : Program} {l : Launch} {e : Env} {s : State} {m : MethodId} {below : List Frame} {meth : Method} {c : Code} {b : Nat} (hx : p.tables.exec = Jvm.exec) (hb : c.code = code) (hr : meth.sig.returnType = ret) (hlocks : meth.locks = false) {pc : Nat} {H : Heap} {ls : Array Slot} (hdg : decode code pc = .ok (.ireturn, 1)) : W p l e room_1 s m #[Value.ref b] below meth c H [] 600000 7302250 (lw_Z below #[Value.ref b] s) (F0 m pc ls [.int 1]) := by
  intro T hT X
  obtain ⟨fs, hret, hrun, hended, hW, hframe⟩ := X.leave (v := some (.int 1)) (hlocks := hlocks) (fun h => by rw [hr] at h; cases h)
  have hmeth' : T.vm.method? m = some meth := X.method'
  refine ⟨T.setFrames fs, ?_, .returned (some (.int 1)), hrun, hended, rfl, ⟨_, rfl⟩, hW, hframe⟩
  jvm_step X.here [X.here.top, hx, hb, hdg, hmeth', hr, ret, narrow_b1]
  (try refine ⟨rfl, ?_⟩); (try refine ⟨rfl, ?_⟩)
  first | (intro acts; rw [hret _ acts rfl rfl rfl]) | rw [hret _ _ rfl rfl rfl]
  exact Steps.refl _
/-- what holds at the law's entry: the machine, the code, the tables' words (any of lw_tbl by 'hts w (by decide +kernel)'), the script of L ints xs at the cell b, what the Statement gives of the start (any of its parts by flat_of_before) -/
def lw_At (p : Program) (s : State) (m : MethodId) (meth : Method) (c : Code) (b L : Nat) (xs : Nat → Int32) : Prop :=
  p.tables.exec = Jvm.exec ∧ c.code = code ∧ meth.sig.returnType = ret ∧ c.maxLocals = 4 ∧ s.vm.findClass R_law = some m.cls ∧ (∀ w ∈ lw_tbl, w.before #[Value.ref b] s = true) ∧ va_X b L xs s s.heap ∧ b < s.heap.size ∧ meth.locks = false ∧ (Jvm.Cond.and given_1 narrow_1).before #[Value.ref b] s = true
abbrev cL_law : ByteArray := code
theorem hv_1_31 : (Jvm.Cond.methodLinkNest "ReceiptLeft" (9 : Nat) ({ cls := "ReceiptLeft$Tape", name := "<init>", desc := "()V" } : Jvm.MethodName) "ReceiptLeft") ∈ lw_tbl := z_c1 (List.mem_of_getElem? (i := 31) (by decide +kernel))
theorem hv_1_63 : (Jvm.Cond.methodLinkNest "ReceiptLeft" (18 : Nat) ({ cls := "ReceiptLeft$City", name := "<init>", desc := "()V" } : Jvm.MethodName) "ReceiptLeft") ∈ lw_tbl := z_c1 (List.mem_of_getElem? (i := 63) (by decide +kernel))
theorem hv_1_136 : (Jvm.Cond.methodLinkNest "ReceiptLeft" (28 : Nat) ({ cls := "ReceiptLeft$Acts", name := "<init>", desc := "()V" } : Jvm.MethodName) "ReceiptLeft") ∈ lw_tbl := z_c1 (List.mem_of_getElem? (i := 136) (by decide +kernel))
theorem hv_1_223 : (Jvm.Cond.methodLinkNest "ReceiptLeft" (47 : Nat) ({ cls := "ReceiptLeft$Titles", name := "<init>", desc := "()V" } : Jvm.MethodName) "ReceiptLeft") ∈ lw_tbl := z_c1 (List.mem_of_getElem? (i := 223) (by decide +kernel))
theorem hv_2_10 : (Jvm.Cond.methodLinkNest "ReceiptLeft" (54 : Nat) ({ cls := "ReceiptLeft$Deal", name := "<init>", desc := "()V" } : Jvm.MethodName) "ReceiptLeft") ∈ lw_tbl := z_c2 (List.mem_of_getElem? (i := 10) (by decide +kernel))
theorem hv_2_20 : (Jvm.Cond.methodLinkNest "ReceiptLeft" (61 : Nat) ({ cls := "ReceiptLeft$Dice", name := "<init>", desc := "()V" } : Jvm.MethodName) "ReceiptLeft") ∈ lw_tbl := z_c2 (List.mem_of_getElem? (i := 20) (by decide +kernel))
theorem hv_2_30 : (Jvm.Cond.methodLinkNest "ReceiptLeft" (68 : Nat) ({ cls := "ReceiptLeft$Audit", name := "<init>", desc := "()V" } : Jvm.MethodName) "ReceiptLeft") ∈ lw_tbl := z_c2 (List.mem_of_getElem? (i := 30) (by decide +kernel))
theorem hv_2_52 : (Jvm.Cond.methodLinkNest "ReceiptLeft" (85 : Nat) ({ cls := "ReceiptLeft$Image", name := "<init>", desc := "()V" } : Jvm.MethodName) "ReceiptLeft") ∈ lw_tbl := z_c2 (List.mem_of_getElem? (i := 52) (by decide +kernel))
theorem hv_2_57 : (Jvm.Cond.methodLinkNest "ReceiptLeft$Image" (9 : Nat) ({ cls := "ReceiptLeft$City", name := "<init>", desc := "()V" } : Jvm.MethodName) "ReceiptLeft") ∈ lw_tbl := z_c2 (List.mem_of_getElem? (i := 57) (by decide +kernel))
theorem hv_2_59 : (Jvm.Cond.methodLinkNest "ReceiptLeft$Image" (18 : Nat) ({ cls := "ReceiptLeft$Acts", name := "<init>", desc := "()V" } : Jvm.MethodName) "ReceiptLeft") ∈ lw_tbl := z_c2 (List.mem_of_getElem? (i := 59) (by decide +kernel))
theorem hv_2_73 : (Jvm.Cond.methodLinkNest "ReceiptLeft" (86 : Nat) ({ cls := "ReceiptLeft$Row", name := "<init>", desc := "()V" } : Jvm.MethodName) "ReceiptLeft") ∈ lw_tbl := z_c2 (List.mem_of_getElem? (i := 73) (by decide +kernel))
theorem hv_2_48 : (Jvm.Cond.arrayOver (Jvm.ClassFile.FieldType.object "ReceiptLeft$Image")) ∈ lw_tbl := z_c2 (List.mem_of_getElem? (i := 48) (by decide +kernel))
theorem hv_2_50 : (Jvm.Cond.arrayOver (Jvm.ClassFile.FieldType.object "ReceiptLeft$Row")) ∈ lw_tbl := z_c2 (List.mem_of_getElem? (i := 50) (by decide +kernel))
theorem hv_2_182 : (Jvm.Cond.stringRef "ReceiptLeft$Tape" (76 : Nat) "city") ∈ lw_tbl := z_c2 (List.mem_of_getElem? (i := 182) (by decide +kernel))
theorem hv_3_3 : (Jvm.Cond.stringRef "ReceiptLeft$Tape" (78 : Nat) "eats") ∈ lw_tbl := z_c3 (List.mem_of_getElem? (i := 3) (by decide +kernel))
theorem hv_3_13 : (Jvm.Cond.stringRef "ReceiptLeft$Tape" (86 : Nat) "carry") ∈ lw_tbl := z_c3 (List.mem_of_getElem? (i := 13) (by decide +kernel))
theorem hv_3_14 : (Jvm.Cond.stringRef "ReceiptLeft$Tape" (90 : Nat) "odds") ∈ lw_tbl := z_c3 (List.mem_of_getElem? (i := 14) (by decide +kernel))
theorem hv_3_15 : (Jvm.Cond.stringRef "ReceiptLeft$Tape" (49 : Nat) "house") ∈ lw_tbl := z_c3 (List.mem_of_getElem? (i := 15) (by decide +kernel))
theorem hv_3_20 : (Jvm.Cond.stringRef "ReceiptLeft$Tape" (97 : Nat) "purse") ∈ lw_tbl := z_c3 (List.mem_of_getElem? (i := 20) (by decide +kernel))
theorem hv_3_21 : (Jvm.Cond.stringRef "ReceiptLeft$Tape" (102 : Nat) "locked") ∈ lw_tbl := z_c3 (List.mem_of_getElem? (i := 21) (by decide +kernel))
theorem hv_3_22 : (Jvm.Cond.stringRef "ReceiptLeft$Tape" (58 : Nat) "thing") ∈ lw_tbl := z_c3 (List.mem_of_getElem? (i := 22) (by decide +kernel))
theorem hv_3_27 : (Jvm.Cond.stringRef "ReceiptLeft$Tape" (109 : Nat) "at") ∈ lw_tbl := z_c3 (List.mem_of_getElem? (i := 27) (by decide +kernel))
theorem hv_3_28 : (Jvm.Cond.stringRef "ReceiptLeft$Tape" (113 : Nat) "worth") ∈ lw_tbl := z_c3 (List.mem_of_getElem? (i := 28) (by decide +kernel))
theorem hv_3_29 : (Jvm.Cond.stringRef "ReceiptLeft$Tape" (63 : Nat) "want") ∈ lw_tbl := z_c3 (List.mem_of_getElem? (i := 29) (by decide +kernel))
theorem hv_2_196 : (Jvm.Cond.laysStatic "java/lang/String" "COMPACT_STRINGS" "Z") ∈ lw_tbl := z_c2 (List.mem_of_getElem? (i := 196) (by decide +kernel))
theorem hv_1_14 : (Jvm.Cond.initialized "java/lang/String") ∈ lw_tbl := z_c1 (List.mem_of_getElem? (i := 14) (by decide +kernel))
theorem hv_2_212 : (Jvm.Cond.laysStatic "jdk/internal/util/Preconditions" "SIOOBE_FORMATTER" "Ljava/util/function/BiFunction;") ∈ lw_tbl := z_c2 (List.mem_of_getElem? (i := 212) (by decide +kernel))
theorem hv_1_16 : (Jvm.Cond.initialized "jdk/internal/util/Preconditions") ∈ lw_tbl := z_c1 (List.mem_of_getElem? (i := 16) (by decide +kernel))
theorem hv_6_131 : (Jvm.Cond.stringRef "ReceiptLeftModel" (194 : Nat) "city") ∈ lw_tbl := z_c6 (List.mem_of_getElem? (i := 131) (by decide +kernel))
theorem hv_6_150 : (Jvm.Cond.stringRef "ReceiptLeftModel" (196 : Nat) "eats") ∈ lw_tbl := z_c6 (List.mem_of_getElem? (i := 150) (by decide +kernel))
theorem hv_6_159 : (Jvm.Cond.stringRef "ReceiptLeftModel" (198 : Nat) "carry") ∈ lw_tbl := z_c6 (List.mem_of_getElem? (i := 159) (by decide +kernel))
theorem hv_6_160 : (Jvm.Cond.stringRef "ReceiptLeftModel" (200 : Nat) "odds") ∈ lw_tbl := z_c6 (List.mem_of_getElem? (i := 160) (by decide +kernel))
theorem hv_6_165 : (Jvm.Cond.stringRef "ReceiptLeftModel" (179 : Nat) "house") ∈ lw_tbl := z_c6 (List.mem_of_getElem? (i := 165) (by decide +kernel))
theorem hv_6_168 : (Jvm.Cond.stringRef "ReceiptLeftModel" (185 : Nat) "purse") ∈ lw_tbl := z_c6 (List.mem_of_getElem? (i := 168) (by decide +kernel))
theorem hv_6_169 : (Jvm.Cond.stringRef "ReceiptLeftModel" (190 : Nat) "locked") ∈ lw_tbl := z_c6 (List.mem_of_getElem? (i := 169) (by decide +kernel))
theorem hv_6_166 : (Jvm.Cond.stringRef "ReceiptLeftModel" (181 : Nat) "thing") ∈ lw_tbl := z_c6 (List.mem_of_getElem? (i := 166) (by decide +kernel))
theorem hv_6_170 : (Jvm.Cond.stringRef "ReceiptLeftModel" (191 : Nat) "at") ∈ lw_tbl := z_c6 (List.mem_of_getElem? (i := 170) (by decide +kernel))
theorem hv_6_171 : (Jvm.Cond.stringRef "ReceiptLeftModel" (192 : Nat) "worth") ∈ lw_tbl := z_c6 (List.mem_of_getElem? (i := 171) (by decide +kernel))
theorem hv_6_167 : (Jvm.Cond.stringRef "ReceiptLeftModel" (183 : Nat) "want") ∈ lw_tbl := z_c6 (List.mem_of_getElem? (i := 167) (by decide +kernel))
theorem hw_2_130 : (Jvm.Cond.methodLink "ReceiptLeftLaw" (13 : Nat) ({ cls := "ReceiptLeft", name := "feed", desc := "(IIIII)I" } : Jvm.MethodName)) ∈ zT := zT_in (z_c2 (List.mem_of_getElem? (i := 130) (by decide +kernel))) (by decide +kernel)
theorem hw_6_93 : (Jvm.Cond.methodLink "ReceiptLeftLaw" (17 : Nat) ({ cls := "ReceiptLeftModel", name := "feed", desc := "(IIIII)I" } : Jvm.MethodName)) ∈ zT := zT_in (z_c6 (List.mem_of_getElem? (i := 93) (by decide +kernel))) (by decide +kernel)
theorem hw_2_142 : (Jvm.Cond.methodLink "ReceiptLeftLaw" (18 : Nat) ({ cls := "ReceiptLeft", name := "end", desc := "(I)I" } : Jvm.MethodName)) ∈ zT := zT_in (z_c2 (List.mem_of_getElem? (i := 142) (by decide +kernel))) (by decide +kernel)
theorem hw_6_97 : (Jvm.Cond.methodLink "ReceiptLeftLaw" (22 : Nat) ({ cls := "ReceiptLeftModel", name := "end", desc := "(I)I" } : Jvm.MethodName)) ∈ zT := zT_in (z_c6 (List.mem_of_getElem? (i := 97) (by decide +kernel))) (by decide +kernel)
theorem hw_2_146 : (Jvm.Cond.methodLink "ReceiptLeftLaw" (23 : Nat) ({ cls := "ReceiptLeft", name := "city", desc := "()I" } : Jvm.MethodName)) ∈ zT := zT_in (z_c2 (List.mem_of_getElem? (i := 146) (by decide +kernel))) (by decide +kernel)
theorem hw_6_105 : (Jvm.Cond.methodLink "ReceiptLeftLaw" (27 : Nat) ({ cls := "ReceiptLeftModel", name := "city", desc := "()I" } : Jvm.MethodName)) ∈ zT := zT_in (z_c6 (List.mem_of_getElem? (i := 105) (by decide +kernel))) (by decide +kernel)
theorem hw_3_51 : (Jvm.Cond.methodLink "ReceiptLeftLaw" (28 : Nat) ({ cls := "ReceiptLeft", name := "fault", desc := "(I)I" } : Jvm.MethodName)) ∈ zT := zT_in (z_c3 (List.mem_of_getElem? (i := 51) (by decide +kernel))) (by decide +kernel)
theorem hw_6_101 : (Jvm.Cond.methodLink "ReceiptLeftLaw" (31 : Nat) ({ cls := "ReceiptLeftModel", name := "fault", desc := "(I)I" } : Jvm.MethodName)) ∈ zT := zT_in (z_c6 (List.mem_of_getElem? (i := 101) (by decide +kernel))) (by decide +kernel)
theorem hw_3_55 : (Jvm.Cond.methodLink "ReceiptLeftLaw" (32 : Nat) ({ cls := "ReceiptLeft", name := "house", desc := "(II)I" } : Jvm.MethodName)) ∈ zT := zT_in (z_c3 (List.mem_of_getElem? (i := 55) (by decide +kernel))) (by decide +kernel)
theorem hw_6_172 : (Jvm.Cond.methodLink "ReceiptLeftLaw" (36 : Nat) ({ cls := "ReceiptLeftModel", name := "house", desc := "(II)I" } : Jvm.MethodName)) ∈ zT := zT_in (z_c6 (List.mem_of_getElem? (i := 172) (by decide +kernel))) (by decide +kernel)
theorem hw_3_83 : (Jvm.Cond.methodLink "ReceiptLeftLaw" (37 : Nat) ({ cls := "ReceiptLeft", name := "thing", desc := "(II)I" } : Jvm.MethodName)) ∈ zT := zT_in (z_c3 (List.mem_of_getElem? (i := 83) (by decide +kernel))) (by decide +kernel)
theorem hw_6_234 : (Jvm.Cond.methodLink "ReceiptLeftLaw" (40 : Nat) ({ cls := "ReceiptLeftModel", name := "thing", desc := "(II)I" } : Jvm.MethodName)) ∈ zT := zT_in (z_c6 (List.mem_of_getElem? (i := 234) (by decide +kernel))) (by decide +kernel)
theorem hw_3_91 : (Jvm.Cond.methodLink "ReceiptLeftLaw" (41 : Nat) ({ cls := "ReceiptLeft", name := "value", desc := "(II)I" } : Jvm.MethodName)) ∈ zT := zT_in (z_c3 (List.mem_of_getElem? (i := 91) (by decide +kernel))) (by decide +kernel)
theorem hw_7_2 : (Jvm.Cond.methodLink "ReceiptLeftLaw" (44 : Nat) ({ cls := "ReceiptLeftModel", name := "value", desc := "(II)I" } : Jvm.MethodName)) ∈ zT := zT_in (z_c7 (List.mem_of_getElem? (i := 2) (by decide +kernel))) (by decide +kernel)
theorem hw_3_103 : (Jvm.Cond.methodLink "ReceiptLeftLaw" (45 : Nat) ({ cls := "ReceiptLeft", name := "paper", desc := "(II)I" } : Jvm.MethodName)) ∈ zT := zT_in (z_c3 (List.mem_of_getElem? (i := 103) (by decide +kernel))) (by decide +kernel)
theorem hw_7_14 : (Jvm.Cond.methodLink "ReceiptLeftLaw" (48 : Nat) ({ cls := "ReceiptLeftModel", name := "paper", desc := "(II)I" } : Jvm.MethodName)) ∈ zT := zT_in (z_c7 (List.mem_of_getElem? (i := 14) (by decide +kernel))) (by decide +kernel)
theorem hw_3_111 : (Jvm.Cond.methodLink "ReceiptLeftLaw" (49 : Nat) ({ cls := "ReceiptLeft", name := "price", desc := "(I)I" } : Jvm.MethodName)) ∈ zT := zT_in (z_c3 (List.mem_of_getElem? (i := 111) (by decide +kernel))) (by decide +kernel)
theorem hw_7_22 : (Jvm.Cond.methodLink "ReceiptLeftLaw" (52 : Nat) ({ cls := "ReceiptLeftModel", name := "price", desc := "(I)I" } : Jvm.MethodName)) ∈ zT := zT_in (z_c7 (List.mem_of_getElem? (i := 22) (by decide +kernel))) (by decide +kernel)
theorem hw_3_124 : (Jvm.Cond.methodLink "ReceiptLeftLaw" (53 : Nat) ({ cls := "ReceiptLeft", name := "net", desc := "(I)I" } : Jvm.MethodName)) ∈ zT := zT_in (z_c3 (List.mem_of_getElem? (i := 124) (by decide +kernel))) (by decide +kernel)
theorem hw_7_26 : (Jvm.Cond.methodLink "ReceiptLeftLaw" (56 : Nat) ({ cls := "ReceiptLeftModel", name := "net", desc := "(I)I" } : Jvm.MethodName)) ∈ zT := zT_in (z_c7 (List.mem_of_getElem? (i := 26) (by decide +kernel))) (by decide +kernel)
theorem hw_3_140 : (Jvm.Cond.methodLink "ReceiptLeftLaw" (57 : Nat) ({ cls := "ReceiptLeft", name := "steal", desc := "(III)I" } : Jvm.MethodName)) ∈ zT := zT_in (z_c3 (List.mem_of_getElem? (i := 140) (by decide +kernel))) (by decide +kernel)
theorem hw_7_35 : (Jvm.Cond.methodLink "ReceiptLeftLaw" (61 : Nat) ({ cls := "ReceiptLeftModel", name := "steal", desc := "(III)I" } : Jvm.MethodName)) ∈ zT := zT_in (z_c7 (List.mem_of_getElem? (i := 35) (by decide +kernel))) (by decide +kernel)
theorem hw_3_219 : (Jvm.Cond.methodLink "ReceiptLeftLaw" (62 : Nat) ({ cls := "ReceiptLeft", name := "sell", desc := "(II)I" } : Jvm.MethodName)) ∈ zT := zT_in (z_c3 (List.mem_of_getElem? (i := 219) (by decide +kernel))) (by decide +kernel)
theorem hw_7_48 : (Jvm.Cond.methodLink "ReceiptLeftLaw" (65 : Nat) ({ cls := "ReceiptLeftModel", name := "sell", desc := "(II)I" } : Jvm.MethodName)) ∈ zT := zT_in (z_c7 (List.mem_of_getElem? (i := 48) (by decide +kernel))) (by decide +kernel)
theorem hw_3_223 : (Jvm.Cond.methodLink "ReceiptLeftLaw" (66 : Nat) ({ cls := "ReceiptLeft", name := "brings", desc := "(I)I" } : Jvm.MethodName)) ∈ zT := zT_in (z_c3 (List.mem_of_getElem? (i := 223) (by decide +kernel))) (by decide +kernel)
theorem hw_7_52 : (Jvm.Cond.methodLink "ReceiptLeftLaw" (69 : Nat) ({ cls := "ReceiptLeftModel", name := "brings", desc := "(I)I" } : Jvm.MethodName)) ∈ zT := zT_in (z_c7 (List.mem_of_getElem? (i := 52) (by decide +kernel))) (by decide +kernel)
theorem hw_3_228 : (Jvm.Cond.methodLink "ReceiptLeftLaw" (70 : Nat) ({ cls := "ReceiptLeft", name := "strike", desc := "(I)I" } : Jvm.MethodName)) ∈ zT := zT_in (z_c3 (List.mem_of_getElem? (i := 228) (by decide +kernel))) (by decide +kernel)
theorem hw_7_56 : (Jvm.Cond.methodLink "ReceiptLeftLaw" (73 : Nat) ({ cls := "ReceiptLeftModel", name := "strike", desc := "(I)I" } : Jvm.MethodName)) ∈ zT := zT_in (z_c7 (List.mem_of_getElem? (i := 56) (by decide +kernel))) (by decide +kernel)
theorem hw_3_232 : (Jvm.Cond.methodLink "ReceiptLeftLaw" (74 : Nat) ({ cls := "ReceiptLeft", name := "lock", desc := "(II)I" } : Jvm.MethodName)) ∈ zT := zT_in (z_c3 (List.mem_of_getElem? (i := 232) (by decide +kernel))) (by decide +kernel)
theorem hw_7_67 : (Jvm.Cond.methodLink "ReceiptLeftLaw" (77 : Nat) ({ cls := "ReceiptLeftModel", name := "lock", desc := "(II)I" } : Jvm.MethodName)) ∈ zT := zT_in (z_c7 (List.mem_of_getElem? (i := 67) (by decide +kernel))) (by decide +kernel)
theorem hw_3_236 : (Jvm.Cond.methodLink "ReceiptLeftLaw" (78 : Nat) ({ cls := "ReceiptLeft", name := "night", desc := "()I" } : Jvm.MethodName)) ∈ zT := zT_in (z_c3 (List.mem_of_getElem? (i := 236) (by decide +kernel))) (by decide +kernel)
theorem hw_7_71 : (Jvm.Cond.methodLink "ReceiptLeftLaw" (81 : Nat) ({ cls := "ReceiptLeftModel", name := "night", desc := "()I" } : Jvm.MethodName)) ∈ zT := zT_in (z_c7 (List.mem_of_getElem? (i := 71) (by decide +kernel))) (by decide +kernel)
theorem hw_4_4 : (Jvm.Cond.methodLink "ReceiptLeftLaw" (82 : Nat) ({ cls := "ReceiptLeft", name := "undo", desc := "()I" } : Jvm.MethodName)) ∈ zT := zT_in (z_c4 (List.mem_of_getElem? (i := 4) (by decide +kernel))) (by decide +kernel)
theorem hw_7_79 : (Jvm.Cond.methodLink "ReceiptLeftLaw" (85 : Nat) ({ cls := "ReceiptLeftModel", name := "undo", desc := "()I" } : Jvm.MethodName)) ∈ zT := zT_in (z_c7 (List.mem_of_getElem? (i := 79) (by decide +kernel))) (by decide +kernel)
theorem hw_4_14 : (Jvm.Cond.methodLink "ReceiptLeftLaw" (86 : Nat) ({ cls := "ReceiptLeft", name := "anew", desc := "()I" } : Jvm.MethodName)) ∈ zT := zT_in (z_c4 (List.mem_of_getElem? (i := 14) (by decide +kernel))) (by decide +kernel)
theorem hw_7_83 : (Jvm.Cond.methodLink "ReceiptLeftLaw" (89 : Nat) ({ cls := "ReceiptLeftModel", name := "anew", desc := "()I" } : Jvm.MethodName)) ∈ zT := zT_in (z_c7 (List.mem_of_getElem? (i := 83) (by decide +kernel))) (by decide +kernel)
theorem hw_4_18 : (Jvm.Cond.methodLink "ReceiptLeftLaw" (90 : Nat) ({ cls := "ReceiptLeft", name := "now", desc := "(I)I" } : Jvm.MethodName)) ∈ zT := zT_in (z_c4 (List.mem_of_getElem? (i := 18) (by decide +kernel))) (by decide +kernel)
theorem hw_7_87 : (Jvm.Cond.methodLink "ReceiptLeftLaw" (93 : Nat) ({ cls := "ReceiptLeftModel", name := "now", desc := "(I)I" } : Jvm.MethodName)) ∈ zT := zT_in (z_c7 (List.mem_of_getElem? (i := 87) (by decide +kernel))) (by decide +kernel)
theorem hw_4_31 : (Jvm.Cond.methodLink "ReceiptLeftLaw" (94 : Nat) ({ cls := "ReceiptLeft", name := "owner", desc := "(I)I" } : Jvm.MethodName)) ∈ zT := zT_in (z_c4 (List.mem_of_getElem? (i := 31) (by decide +kernel))) (by decide +kernel)
theorem hw_7_92 : (Jvm.Cond.methodLink "ReceiptLeftLaw" (97 : Nat) ({ cls := "ReceiptLeftModel", name := "owner", desc := "(I)I" } : Jvm.MethodName)) ∈ zT := zT_in (z_c7 (List.mem_of_getElem? (i := 92) (by decide +kernel))) (by decide +kernel)
theorem hw_4_50 : (Jvm.Cond.methodLink "ReceiptLeftLaw" (98 : Nat) ({ cls := "ReceiptLeft", name := "chain", desc := "(II)I" } : Jvm.MethodName)) ∈ zT := zT_in (z_c4 (List.mem_of_getElem? (i := 50) (by decide +kernel))) (by decide +kernel)
theorem hw_7_108 : (Jvm.Cond.methodLink "ReceiptLeftLaw" (101 : Nat) ({ cls := "ReceiptLeftModel", name := "chain", desc := "(II)I" } : Jvm.MethodName)) ∈ zT := zT_in (z_c7 (List.mem_of_getElem? (i := 108) (by decide +kernel))) (by decide +kernel)
theorem hw_4_54 : (Jvm.Cond.methodLink "ReceiptLeftLaw" (102 : Nat) ({ cls := "ReceiptLeft", name := "rings", desc := "()I" } : Jvm.MethodName)) ∈ zT := zT_in (z_c4 (List.mem_of_getElem? (i := 54) (by decide +kernel))) (by decide +kernel)
theorem hw_7_112 : (Jvm.Cond.methodLink "ReceiptLeftLaw" (105 : Nat) ({ cls := "ReceiptLeftModel", name := "rings", desc := "()I" } : Jvm.MethodName)) ∈ zT := zT_in (z_c7 (List.mem_of_getElem? (i := 112) (by decide +kernel))) (by decide +kernel)
theorem hw_4_62 : (Jvm.Cond.methodLink "ReceiptLeftLaw" (106 : Nat) ({ cls := "ReceiptLeft", name := "owns", desc := "(I)I" } : Jvm.MethodName)) ∈ zT := zT_in (z_c4 (List.mem_of_getElem? (i := 62) (by decide +kernel))) (by decide +kernel)
theorem hw_7_116 : (Jvm.Cond.methodLink "ReceiptLeftLaw" (109 : Nat) ({ cls := "ReceiptLeftModel", name := "owns", desc := "(I)I" } : Jvm.MethodName)) ∈ zT := zT_in (z_c7 (List.mem_of_getElem? (i := 116) (by decide +kernel))) (by decide +kernel)
theorem hw_4_66 : (Jvm.Cond.methodLink "ReceiptLeftLaw" (110 : Nat) ({ cls := "ReceiptLeft", name := "twice", desc := "()I" } : Jvm.MethodName)) ∈ zT := zT_in (z_c4 (List.mem_of_getElem? (i := 66) (by decide +kernel))) (by decide +kernel)
theorem hw_7_120 : (Jvm.Cond.methodLink "ReceiptLeftLaw" (113 : Nat) ({ cls := "ReceiptLeftModel", name := "twice", desc := "()I" } : Jvm.MethodName)) ∈ zT := zT_in (z_c7 (List.mem_of_getElem? (i := 120) (by decide +kernel))) (by decide +kernel)
theorem hw_4_77 : (Jvm.Cond.methodLink "ReceiptLeftLaw" (114 : Nat) ({ cls := "ReceiptLeft", name := "strikes", desc := "()I" } : Jvm.MethodName)) ∈ zT := zT_in (z_c4 (List.mem_of_getElem? (i := 77) (by decide +kernel))) (by decide +kernel)
theorem hw_7_128 : (Jvm.Cond.methodLink "ReceiptLeftLaw" (117 : Nat) ({ cls := "ReceiptLeftModel", name := "strikes", desc := "()I" } : Jvm.MethodName)) ∈ zT := zT_in (z_c7 (List.mem_of_getElem? (i := 128) (by decide +kernel))) (by decide +kernel)
theorem hw_4_104 : (Jvm.Cond.methodLink "ReceiptLeftLaw" (118 : Nat) ({ cls := "ReceiptLeft", name := "struck", desc := "()I" } : Jvm.MethodName)) ∈ zT := zT_in (z_c4 (List.mem_of_getElem? (i := 104) (by decide +kernel))) (by decide +kernel)
theorem hw_7_148 : (Jvm.Cond.methodLink "ReceiptLeftLaw" (121 : Nat) ({ cls := "ReceiptLeftModel", name := "struck", desc := "()I" } : Jvm.MethodName)) ∈ zT := zT_in (z_c7 (List.mem_of_getElem? (i := 148) (by decide +kernel))) (by decide +kernel)
theorem hw_4_108 : (Jvm.Cond.methodLink "ReceiptLeftLaw" (122 : Nat) ({ cls := "ReceiptLeft", name := "trail", desc := "(II)I" } : Jvm.MethodName)) ∈ zT := zT_in (z_c4 (List.mem_of_getElem? (i := 108) (by decide +kernel))) (by decide +kernel)
theorem hw_7_152 : (Jvm.Cond.methodLink "ReceiptLeftLaw" (125 : Nat) ({ cls := "ReceiptLeftModel", name := "trail", desc := "(II)I" } : Jvm.MethodName)) ∈ zT := zT_in (z_c7 (List.mem_of_getElem? (i := 152) (by decide +kernel))) (by decide +kernel)
theorem hw_4_116 : (Jvm.Cond.methodLink "ReceiptLeftLaw" (126 : Nat) ({ cls := "ReceiptLeft", name := "went", desc := "(I)I" } : Jvm.MethodName)) ∈ zT := zT_in (z_c4 (List.mem_of_getElem? (i := 116) (by decide +kernel))) (by decide +kernel)
theorem hw_7_156 : (Jvm.Cond.methodLink "ReceiptLeftLaw" (129 : Nat) ({ cls := "ReceiptLeftModel", name := "went", desc := "(I)I" } : Jvm.MethodName)) ∈ zT := zT_in (z_c7 (List.mem_of_getElem? (i := 156) (by decide +kernel))) (by decide +kernel)
theorem hw_4_120 : (Jvm.Cond.methodLink "ReceiptLeftLaw" (130 : Nat) ({ cls := "ReceiptLeft", name := "lies", desc := "(I)I" } : Jvm.MethodName)) ∈ zT := zT_in (z_c4 (List.mem_of_getElem? (i := 120) (by decide +kernel))) (by decide +kernel)
theorem hw_7_160 : (Jvm.Cond.methodLink "ReceiptLeftLaw" (133 : Nat) ({ cls := "ReceiptLeftModel", name := "lies", desc := "(I)I" } : Jvm.MethodName)) ∈ zT := zT_in (z_c7 (List.mem_of_getElem? (i := 160) (by decide +kernel))) (by decide +kernel)
theorem hw_4_128 : (Jvm.Cond.methodLink "ReceiptLeftLaw" (134 : Nat) ({ cls := "ReceiptLeft", name := "poorest", desc := "()I" } : Jvm.MethodName)) ∈ zT := zT_in (z_c4 (List.mem_of_getElem? (i := 128) (by decide +kernel))) (by decide +kernel)
theorem hw_7_168 : (Jvm.Cond.methodLink "ReceiptLeftLaw" (137 : Nat) ({ cls := "ReceiptLeftModel", name := "poorest", desc := "()I" } : Jvm.MethodName)) ∈ zT := zT_in (z_c7 (List.mem_of_getElem? (i := 168) (by decide +kernel))) (by decide +kernel)
theorem hw_4_132 : (Jvm.Cond.methodLink "ReceiptLeftLaw" (138 : Nat) ({ cls := "ReceiptLeft", name := "due", desc := "(I)I" } : Jvm.MethodName)) ∈ zT := zT_in (z_c4 (List.mem_of_getElem? (i := 132) (by decide +kernel))) (by decide +kernel)
theorem hw_7_172 : (Jvm.Cond.methodLink "ReceiptLeftLaw" (141 : Nat) ({ cls := "ReceiptLeftModel", name := "due", desc := "(I)I" } : Jvm.MethodName)) ∈ zT := zT_in (z_c7 (List.mem_of_getElem? (i := 172) (by decide +kernel))) (by decide +kernel)
theorem hw_4_140 : (Jvm.Cond.methodLink "ReceiptLeftLaw" (142 : Nat) ({ cls := "ReceiptLeft", name := "monday", desc := "()I" } : Jvm.MethodName)) ∈ zT := zT_in (z_c4 (List.mem_of_getElem? (i := 140) (by decide +kernel))) (by decide +kernel)
theorem hw_7_180 : (Jvm.Cond.methodLink "ReceiptLeftLaw" (145 : Nat) ({ cls := "ReceiptLeftModel", name := "monday", desc := "()I" } : Jvm.MethodName)) ∈ zT := zT_in (z_c7 (List.mem_of_getElem? (i := 180) (by decide +kernel))) (by decide +kernel)
theorem hw_4_144 : (Jvm.Cond.methodLink "ReceiptLeftLaw" (146 : Nat) ({ cls := "ReceiptLeft", name := "lacks", desc := "(I)I" } : Jvm.MethodName)) ∈ zT := zT_in (z_c4 (List.mem_of_getElem? (i := 144) (by decide +kernel))) (by decide +kernel)
theorem hw_7_184 : (Jvm.Cond.methodLink "ReceiptLeftLaw" (149 : Nat) ({ cls := "ReceiptLeftModel", name := "lacks", desc := "(I)I" } : Jvm.MethodName)) ∈ zT := zT_in (z_c7 (List.mem_of_getElem? (i := 184) (by decide +kernel))) (by decide +kernel)
theorem hw_4_152 : (Jvm.Cond.methodLink "ReceiptLeftLaw" (150 : Nat) ({ cls := "ReceiptLeft", name := "needs", desc := "(I)I" } : Jvm.MethodName)) ∈ zT := zT_in (z_c4 (List.mem_of_getElem? (i := 152) (by decide +kernel))) (by decide +kernel)
theorem hw_7_188 : (Jvm.Cond.methodLink "ReceiptLeftLaw" (153 : Nat) ({ cls := "ReceiptLeftModel", name := "needs", desc := "(I)I" } : Jvm.MethodName)) ∈ zT := zT_in (z_c7 (List.mem_of_getElem? (i := 188) (by decide +kernel))) (by decide +kernel)
theorem hw_4_165 : (Jvm.Cond.methodLink "ReceiptLeftLaw" (154 : Nat) ({ cls := "ReceiptLeft", name := "fails", desc := "(I)I" } : Jvm.MethodName)) ∈ zT := zT_in (z_c4 (List.mem_of_getElem? (i := 165) (by decide +kernel))) (by decide +kernel)
theorem hw_7_193 : (Jvm.Cond.methodLink "ReceiptLeftLaw" (157 : Nat) ({ cls := "ReceiptLeftModel", name := "fails", desc := "(I)I" } : Jvm.MethodName)) ∈ zT := zT_in (z_c7 (List.mem_of_getElem? (i := 193) (by decide +kernel))) (by decide +kernel)
theorem hw_4_177 : (Jvm.Cond.methodLink "ReceiptLeftLaw" (158 : Nat) ({ cls := "ReceiptLeft", name := "later", desc := "(II)I" } : Jvm.MethodName)) ∈ zT := zT_in (z_c4 (List.mem_of_getElem? (i := 177) (by decide +kernel))) (by decide +kernel)
theorem hw_7_208 : (Jvm.Cond.methodLink "ReceiptLeftLaw" (161 : Nat) ({ cls := "ReceiptLeftModel", name := "later", desc := "(II)I" } : Jvm.MethodName)) ∈ zT := zT_in (z_c7 (List.mem_of_getElem? (i := 208) (by decide +kernel))) (by decide +kernel)
theorem hw_4_181 : (Jvm.Cond.methodLink "ReceiptLeftLaw" (162 : Nat) ({ cls := "ReceiptLeft", name := "purse", desc := "(II)I" } : Jvm.MethodName)) ∈ zT := zT_in (z_c4 (List.mem_of_getElem? (i := 181) (by decide +kernel))) (by decide +kernel)
theorem hw_7_212 : (Jvm.Cond.methodLink "ReceiptLeftLaw" (165 : Nat) ({ cls := "ReceiptLeftModel", name := "purse", desc := "(II)I" } : Jvm.MethodName)) ∈ zT := zT_in (z_c7 (List.mem_of_getElem? (i := 212) (by decide +kernel))) (by decide +kernel)
theorem hw_4_185 : (Jvm.Cond.methodLink "ReceiptLeftLaw" (166 : Nat) ({ cls := "ReceiptLeft", name := "run", desc := "()I" } : Jvm.MethodName)) ∈ zT := zT_in (z_c4 (List.mem_of_getElem? (i := 185) (by decide +kernel))) (by decide +kernel)
theorem hw_7_216 : (Jvm.Cond.methodLink "ReceiptLeftLaw" (169 : Nat) ({ cls := "ReceiptLeftModel", name := "run", desc := "()I" } : Jvm.MethodName)) ∈ zT := zT_in (z_c7 (List.mem_of_getElem? (i := 216) (by decide +kernel))) (by decide +kernel)
theorem hw_4_197 : (Jvm.Cond.methodLink "ReceiptLeftLaw" (170 : Nat) ({ cls := "ReceiptLeft", name := "hit", desc := "(I)I" } : Jvm.MethodName)) ∈ zT := zT_in (z_c4 (List.mem_of_getElem? (i := 197) (by decide +kernel))) (by decide +kernel)
theorem hw_7_223 : (Jvm.Cond.methodLink "ReceiptLeftLaw" (173 : Nat) ({ cls := "ReceiptLeftModel", name := "hit", desc := "(I)I" } : Jvm.MethodName)) ∈ zT := zT_in (z_c7 (List.mem_of_getElem? (i := 223) (by decide +kernel))) (by decide +kernel)
theorem hw_4_209 : (Jvm.Cond.methodLink "ReceiptLeftLaw" (174 : Nat) ({ cls := "ReceiptLeft", name := "hits", desc := "(I)I" } : Jvm.MethodName)) ∈ zT := zT_in (z_c4 (List.mem_of_getElem? (i := 209) (by decide +kernel))) (by decide +kernel)
theorem hw_7_231 : (Jvm.Cond.methodLink "ReceiptLeftLaw" (177 : Nat) ({ cls := "ReceiptLeftModel", name := "hits", desc := "(I)I" } : Jvm.MethodName)) ∈ zT := zT_in (z_c7 (List.mem_of_getElem? (i := 231) (by decide +kernel))) (by decide +kernel)
theorem hw_4_213 : (Jvm.Cond.methodLink "ReceiptLeftLaw" (178 : Nat) ({ cls := "ReceiptLeft", name := "plan", desc := "(II)I" } : Jvm.MethodName)) ∈ zT := zT_in (z_c4 (List.mem_of_getElem? (i := 213) (by decide +kernel))) (by decide +kernel)
theorem hw_7_235 : (Jvm.Cond.methodLink "ReceiptLeftLaw" (181 : Nat) ({ cls := "ReceiptLeftModel", name := "plan", desc := "(II)I" } : Jvm.MethodName)) ∈ zT := zT_in (z_c7 (List.mem_of_getElem? (i := 235) (by decide +kernel))) (by decide +kernel)
theorem hw_4_226 : (Jvm.Cond.methodLink "ReceiptLeftLaw" (182 : Nat) ({ cls := "ReceiptLeft", name := "plans", desc := "(III)I" } : Jvm.MethodName)) ∈ zT := zT_in (z_c4 (List.mem_of_getElem? (i := 226) (by decide +kernel))) (by decide +kernel)
theorem hw_8_6 : (Jvm.Cond.methodLink "ReceiptLeftLaw" (185 : Nat) ({ cls := "ReceiptLeftModel", name := "plans", desc := "(III)I" } : Jvm.MethodName)) ∈ zT := zT_in (z_c8 (List.mem_of_getElem? (i := 6) (by decide +kernel))) (by decide +kernel)
theorem hw_4_230 : (Jvm.Cond.methodLink "ReceiptLeftLaw" (186 : Nat) ({ cls := "ReceiptLeft", name := "change", desc := "(II)I" } : Jvm.MethodName)) ∈ zT := zT_in (z_c4 (List.mem_of_getElem? (i := 230) (by decide +kernel))) (by decide +kernel)
theorem hw_8_10 : (Jvm.Cond.methodLink "ReceiptLeftLaw" (189 : Nat) ({ cls := "ReceiptLeftModel", name := "change", desc := "(II)I" } : Jvm.MethodName)) ∈ zT := zT_in (z_c8 (List.mem_of_getElem? (i := 10) (by decide +kernel))) (by decide +kernel)
theorem hw_4_234 : (Jvm.Cond.methodLink "ReceiptLeftLaw" (190 : Nat) ({ cls := "ReceiptLeft", name := "deal", desc := "()I" } : Jvm.MethodName)) ∈ zT := zT_in (z_c4 (List.mem_of_getElem? (i := 234) (by decide +kernel))) (by decide +kernel)
theorem hw_8_14 : (Jvm.Cond.methodLink "ReceiptLeftLaw" (193 : Nat) ({ cls := "ReceiptLeftModel", name := "deal", desc := "()I" } : Jvm.MethodName)) ∈ zT := zT_in (z_c8 (List.mem_of_getElem? (i := 14) (by decide +kernel))) (by decide +kernel)
theorem hw_5_14 : (Jvm.Cond.methodLink "ReceiptLeftLaw" (194 : Nat) ({ cls := "ReceiptLeft", name := "deals", desc := "(I)I" } : Jvm.MethodName)) ∈ zT := zT_in (z_c5 (List.mem_of_getElem? (i := 14) (by decide +kernel))) (by decide +kernel)
theorem hw_8_31 : (Jvm.Cond.methodLink "ReceiptLeftLaw" (197 : Nat) ({ cls := "ReceiptLeftModel", name := "deals", desc := "(I)I" } : Jvm.MethodName)) ∈ zT := zT_in (z_c8 (List.mem_of_getElem? (i := 31) (by decide +kernel))) (by decide +kernel)
theorem hw_5_26 : (Jvm.Cond.methodLink "ReceiptLeftLaw" (198 : Nat) ({ cls := "ReceiptLeft", name := "rests", desc := "(I)I" } : Jvm.MethodName)) ∈ zT := zT_in (z_c5 (List.mem_of_getElem? (i := 26) (by decide +kernel))) (by decide +kernel)
theorem hw_8_35 : (Jvm.Cond.methodLink "ReceiptLeftLaw" (201 : Nat) ({ cls := "ReceiptLeftModel", name := "rests", desc := "(I)I" } : Jvm.MethodName)) ∈ zT := zT_in (z_c8 (List.mem_of_getElem? (i := 35) (by decide +kernel))) (by decide +kernel)
theorem hw_5_43 : (Jvm.Cond.methodLink "ReceiptLeftLaw" (202 : Nat) ({ cls := "ReceiptLeft", name := "rest", desc := "(I)I" } : Jvm.MethodName)) ∈ zT := zT_in (z_c5 (List.mem_of_getElem? (i := 43) (by decide +kernel))) (by decide +kernel)
theorem hw_8_60 : (Jvm.Cond.methodLink "ReceiptLeftLaw" (205 : Nat) ({ cls := "ReceiptLeftModel", name := "rest", desc := "(I)I" } : Jvm.MethodName)) ∈ zT := zT_in (z_c8 (List.mem_of_getElem? (i := 60) (by decide +kernel))) (by decide +kernel)
theorem hw_5_47 : (Jvm.Cond.methodLink "ReceiptLeftLaw" (206 : Nat) ({ cls := "ReceiptLeft", name := "dear", desc := "()I" } : Jvm.MethodName)) ∈ zT := zT_in (z_c5 (List.mem_of_getElem? (i := 47) (by decide +kernel))) (by decide +kernel)
theorem hw_8_64 : (Jvm.Cond.methodLink "ReceiptLeftLaw" (209 : Nat) ({ cls := "ReceiptLeftModel", name := "dear", desc := "()I" } : Jvm.MethodName)) ∈ zT := zT_in (z_c8 (List.mem_of_getElem? (i := 64) (by decide +kernel))) (by decide +kernel)
theorem hw_5_52 : (Jvm.Cond.methodLink "ReceiptLeftLaw" (210 : Nat) ({ cls := "ReceiptLeft", name := "wrong", desc := "(I)I" } : Jvm.MethodName)) ∈ zT := zT_in (z_c5 (List.mem_of_getElem? (i := 52) (by decide +kernel))) (by decide +kernel)
theorem hw_8_68 : (Jvm.Cond.methodLink "ReceiptLeftLaw" (213 : Nat) ({ cls := "ReceiptLeftModel", name := "wrong", desc := "(I)I" } : Jvm.MethodName)) ∈ zT := zT_in (z_c8 (List.mem_of_getElem? (i := 68) (by decide +kernel))) (by decide +kernel)
theorem hw_5_83 : (Jvm.Cond.methodLink "ReceiptLeftLaw" (214 : Nat) ({ cls := "ReceiptLeft", name := "forged", desc := "(I)I" } : Jvm.MethodName)) ∈ zT := zT_in (z_c5 (List.mem_of_getElem? (i := 83) (by decide +kernel))) (by decide +kernel)
theorem hw_8_96 : (Jvm.Cond.methodLink "ReceiptLeftLaw" (217 : Nat) ({ cls := "ReceiptLeftModel", name := "forged", desc := "(I)I" } : Jvm.MethodName)) ∈ zT := zT_in (z_c8 (List.mem_of_getElem? (i := 96) (by decide +kernel))) (by decide +kernel)
theorem hw_5_87 : (Jvm.Cond.methodLink "ReceiptLeftLaw" (218 : Nat) ({ cls := "ReceiptLeft", name := "argued", desc := "(I)I" } : Jvm.MethodName)) ∈ zT := zT_in (z_c5 (List.mem_of_getElem? (i := 87) (by decide +kernel))) (by decide +kernel)
theorem hw_8_100 : (Jvm.Cond.methodLink "ReceiptLeftLaw" (221 : Nat) ({ cls := "ReceiptLeftModel", name := "argued", desc := "(I)I" } : Jvm.MethodName)) ∈ zT := zT_in (z_c8 (List.mem_of_getElem? (i := 100) (by decide +kernel))) (by decide +kernel)
theorem hw_5_91 : (Jvm.Cond.methodLink "ReceiptLeftLaw" (222 : Nat) ({ cls := "ReceiptLeft", name := "drawn", desc := "(III)I" } : Jvm.MethodName)) ∈ zT := zT_in (z_c5 (List.mem_of_getElem? (i := 91) (by decide +kernel))) (by decide +kernel)
theorem hw_8_104 : (Jvm.Cond.methodLink "ReceiptLeftLaw" (225 : Nat) ({ cls := "ReceiptLeftModel", name := "drawn", desc := "(III)I" } : Jvm.MethodName)) ∈ zT := zT_in (z_c8 (List.mem_of_getElem? (i := 104) (by decide +kernel))) (by decide +kernel)
theorem hw_5_120 : (Jvm.Cond.methodLink "ReceiptLeftLaw" (226 : Nat) ({ cls := "ReceiptLeft", name := "luck", desc := "(IIIII)I" } : Jvm.MethodName)) ∈ zT := zT_in (z_c5 (List.mem_of_getElem? (i := 120) (by decide +kernel))) (by decide +kernel)
theorem hw_8_126 : (Jvm.Cond.methodLink "ReceiptLeftLaw" (229 : Nat) ({ cls := "ReceiptLeftModel", name := "luck", desc := "(IIIII)I" } : Jvm.MethodName)) ∈ zT := zT_in (z_c8 (List.mem_of_getElem? (i := 126) (by decide +kernel))) (by decide +kernel)
theorem hw_5_124 : (Jvm.Cond.methodLink "ReceiptLeftLaw" (230 : Nat) ({ cls := "ReceiptLeft", name := "rate", desc := "(II)I" } : Jvm.MethodName)) ∈ zT := zT_in (z_c5 (List.mem_of_getElem? (i := 124) (by decide +kernel))) (by decide +kernel)
theorem hw_8_131 : (Jvm.Cond.methodLink "ReceiptLeftLaw" (233 : Nat) ({ cls := "ReceiptLeftModel", name := "rate", desc := "(II)I" } : Jvm.MethodName)) ∈ zT := zT_in (z_c8 (List.mem_of_getElem? (i := 131) (by decide +kernel))) (by decide +kernel)
theorem hw_5_128 : (Jvm.Cond.methodLink "ReceiptLeftLaw" (234 : Nat) ({ cls := "ReceiptLeft", name := "want", desc := "(III)I" } : Jvm.MethodName)) ∈ zT := zT_in (z_c5 (List.mem_of_getElem? (i := 128) (by decide +kernel))) (by decide +kernel)
theorem hw_8_139 : (Jvm.Cond.methodLink "ReceiptLeftLaw" (237 : Nat) ({ cls := "ReceiptLeftModel", name := "want", desc := "(III)I" } : Jvm.MethodName)) ∈ zT := zT_in (z_c8 (List.mem_of_getElem? (i := 139) (by decide +kernel))) (by decide +kernel)
theorem hw_5_133 : (Jvm.Cond.methodLink "ReceiptLeftLaw" (238 : Nat) ({ cls := "ReceiptLeft", name := "count", desc := "(I)I" } : Jvm.MethodName)) ∈ zT := zT_in (z_c5 (List.mem_of_getElem? (i := 133) (by decide +kernel))) (by decide +kernel)
theorem hw_8_144 : (Jvm.Cond.methodLink "ReceiptLeftLaw" (241 : Nat) ({ cls := "ReceiptLeftModel", name := "count", desc := "(I)I" } : Jvm.MethodName)) ∈ zT := zT_in (z_c8 (List.mem_of_getElem? (i := 144) (by decide +kernel))) (by decide +kernel)
theorem hw_5_141 : (Jvm.Cond.methodLink "ReceiptLeftLaw" (242 : Nat) ({ cls := "ReceiptLeft", name := "image", desc := "(I)I" } : Jvm.MethodName)) ∈ zT := zT_in (z_c5 (List.mem_of_getElem? (i := 141) (by decide +kernel))) (by decide +kernel)
theorem hw_6_81 : (Jvm.Cond.methodLink "ReceiptLeftLaw" (245 : Nat) ({ cls := "ReceiptLeftModel", name := "image", desc := "(I)I" } : Jvm.MethodName)) ∈ zT := zT_in (z_c6 (List.mem_of_getElem? (i := 81) (by decide +kernel))) (by decide +kernel)
theorem hw_5_150 : (Jvm.Cond.methodLink "ReceiptLeftLaw" (246 : Nat) ({ cls := "ReceiptLeft", name := "back", desc := "(I)I" } : Jvm.MethodName)) ∈ zT := zT_in (z_c5 (List.mem_of_getElem? (i := 150) (by decide +kernel))) (by decide +kernel)
theorem hw_6_89 : (Jvm.Cond.methodLink "ReceiptLeftLaw" (249 : Nat) ({ cls := "ReceiptLeftModel", name := "back", desc := "(I)I" } : Jvm.MethodName)) ∈ zT := zT_in (z_c6 (List.mem_of_getElem? (i := 89) (by decide +kernel))) (by decide +kernel)
theorem hw_5_154 : (Jvm.Cond.methodLink "ReceiptLeftLaw" (250 : Nat) ({ cls := "ReceiptLeft", name := "row", desc := "(III)I" } : Jvm.MethodName)) ∈ zT := zT_in (z_c5 (List.mem_of_getElem? (i := 154) (by decide +kernel))) (by decide +kernel)
theorem hw_8_148 : (Jvm.Cond.methodLink "ReceiptLeftLaw" (253 : Nat) ({ cls := "ReceiptLeftModel", name := "row", desc := "(III)I" } : Jvm.MethodName)) ∈ zT := zT_in (z_c8 (List.mem_of_getElem? (i := 148) (by decide +kernel))) (by decide +kernel)
theorem hw_8_163 : (Jvm.Cond.constantLong "ReceiptLeftLaw" (254 : Nat) (4294967295 : Int64)) ∈ zT := zT_in (z_c8 (List.mem_of_getElem? (i := 163) (by decide +kernel))) (by decide +kernel)
theorem hw_5_165 : (Jvm.Cond.methodLink "ReceiptLeftLaw" (256 : Nat) ({ cls := "ReceiptLeft", name := "write", desc := "(IIJ)I" } : Jvm.MethodName)) ∈ zT := zT_in (z_c5 (List.mem_of_getElem? (i := 165) (by decide +kernel))) (by decide +kernel)
theorem hw_8_152 : (Jvm.Cond.methodLink "ReceiptLeftLaw" (260 : Nat) ({ cls := "ReceiptLeftModel", name := "write", desc := "(IIJ)I" } : Jvm.MethodName)) ∈ zT := zT_in (z_c8 (List.mem_of_getElem? (i := 152) (by decide +kernel))) (by decide +kernel)
theorem hw_5_173 : (Jvm.Cond.methodLink "ReceiptLeftLaw" (261 : Nat) ({ cls := "ReceiptLeft", name := "paste", desc := "(IIIII)I" } : Jvm.MethodName)) ∈ zT := zT_in (z_c5 (List.mem_of_getElem? (i := 173) (by decide +kernel))) (by decide +kernel)
theorem hw_8_159 : (Jvm.Cond.methodLink "ReceiptLeftLaw" (264 : Nat) ({ cls := "ReceiptLeftModel", name := "paste", desc := "(IIIII)I" } : Jvm.MethodName)) ∈ zT := zT_in (z_c8 (List.mem_of_getElem? (i := 159) (by decide +kernel))) (by decide +kernel)
theorem hw_1_21 : (Jvm.Cond.classLink "ReceiptLeftLaw" (7 : Nat) "ReceiptLeft") ∈ zT := zT_in (z_c1 (List.mem_of_getElem? (i := 21) (by decide +kernel))) (by decide +kernel)
theorem hw_1_23 : (Jvm.Cond.methodLink "ReceiptLeftLaw" (9 : Nat) ({ cls := "ReceiptLeft", name := "<init>", desc := "()V" } : Jvm.MethodName)) ∈ zT := zT_in (z_c1 (List.mem_of_getElem? (i := 23) (by decide +kernel))) (by decide +kernel)
theorem hw_5_182 : (Jvm.Cond.classLink "ReceiptLeftLaw" (10 : Nat) "ReceiptLeftModel") ∈ zT := zT_in (z_c5 (List.mem_of_getElem? (i := 182) (by decide +kernel))) (by decide +kernel)
theorem hw_5_184 : (Jvm.Cond.methodLink "ReceiptLeftLaw" (12 : Nat) ({ cls := "ReceiptLeftModel", name := "<init>", desc := "()V" } : Jvm.MethodName)) ∈ zT := zT_in (z_c5 (List.mem_of_getElem? (i := 184) (by decide +kernel))) (by decide +kernel)
/-! ===== z: constructors: the object's own cell comes in, what it makes comes behind it ===== -/
abbrev zQ : Type := (Nat → Nat) × (Nat → ClassId)
def zCt (l : Launch) (D : va_G) (cl : List vw_C) (y : MethodName) (cc : ByteArray) (mL : Nat) (rm : Room) (mc ms h0 : Nat) (e0 : va_E) (av : List Value) (Wd : zQ → va_W) (Ty : zQ → List (ClassId × FieldType)) (Nn : State → Prop) : Prop :=
  ∀ sz : Nat, Met l y (Cond.code y cc mL none :: zT) rm (va_Pc av (fun U => U.heap.size = sz ∧ va_P D cl [(h0, e0)] U.heap ∧ va_K D cl [] U ∧ va_D (fun _ => True) [(h0, e0)] ∧ Nn U)) (va_Qv (fun _ : zQ => True) (fun u t => va_P D cl (Wd u) t.heap ∧ va_K D cl (Ty u) t ∧ va_D (va_A [(h0, e0)] sz) (Wd u)) (va_A [(h0, e0)] sz)) mc ms (va_A [(h0, e0)] sz)
theorem z_app_l {ws wr : va_W} {k : Nat} {x : Nat × va_E} (h : ws[k]? = some x) : (ws ++ wr)[k]? = some x := by
  have hk : k < ws.length := (List.getElem?_eq_some_iff.mp h).1
  rw [List.getElem?_append_left hk]; exact h
theorem z_app_r {ws wr : va_W} {k : Nat} {x : Nat × va_E} (h : wr[k]? = some x) : (ws ++ wr)[ws.length + k]? = some x := by
  rw [List.getElem?_append_right (Nat.le_add_right _ _), Nat.add_sub_cancel_left]; exact h
theorem z_app_or {ws wr : va_W} {k : Nat} {x : Nat × va_E} (h : (ws ++ wr)[k]? = some x) : ws[k]? = some x ∨ ∃ j : Nat, wr[j]? = some x := by
  rcases Nat.lt_or_ge k ws.length with hk | hk
  · rw [List.getElem?_append_left hk] at h; exact Or.inl h
  · rw [List.getElem?_append_right hk] at h; exact Or.inr ⟨_, h⟩
theorem z_P_l {D : va_G} {cl : List vw_C} {a b : va_W} {H : Heap} (h : va_P D cl (a ++ b) H) : va_P D cl a H := fun k x hx => h k x (z_app_l hx)
theorem z_P_r {D : va_G} {cl : List vw_C} {a b : va_W} {H : Heap} (h : va_P D cl (a ++ b) H) : va_P D cl b H := fun k x hx => h (a.length + k) x (z_app_r hx)
theorem z_P_app {D : va_G} {cl : List vw_C} {a b : va_W} {H : Heap} (ha : va_P D cl a H) (hb : va_P D cl b H) : va_P D cl (a ++ b) H := fun k x hx => (z_app_or hx).elim (ha k x) (fun ⟨j, hj⟩ => hb j x hj)
theorem z_D_l {A : Nat → Prop} {a b : va_W} (h : va_D A (a ++ b)) : va_D A a := ⟨fun i j p q hi hj e => h.1 i j p q (z_app_l hi) (z_app_l hj) e, fun k x hx => h.2 k x (z_app_l hx)⟩
theorem z_D_r {A : Nat → Prop} {a b : va_W} (h : va_D A (a ++ b)) : va_D A b := ⟨fun i j p q hi hj e => Nat.add_left_cancel (h.1 _ _ p q (z_app_r hi) (z_app_r hj) e), fun k x hx => h.2 _ x (z_app_r hx)⟩
theorem z_D_ne {A : Nat → Prop} {a b : va_W} (h : va_D A (a ++ b)) {i j : Nat} {p q : Nat × va_E} (hi : a[i]? = some p) (hj : b[j]? = some q) : p.1 ≠ q.1 := fun e => by
  have := h.1 i (a.length + j) p q (z_app_l hi) (z_app_r hj) e
  have hk : i < a.length := (List.getElem?_eq_some_iff.mp hi).1
  omega
/-- the rest of a world beside what a constructor made of one of its cells -/
theorem z_join {A : Nat → Prop} {D : va_G} {cl : List vw_C} {wr w1 : va_W} {h0 : Nat} {e0 : va_E} {H H1 : Heap} (hP : va_P D cl (wr ++ [(h0, e0)]) H) (hD : va_D A (wr ++ [(h0, e0)])) (hk : ∀ q : Nat, q < H.size → ¬ va_A [(h0, e0)] H.size q → H1[q]? = H[q]?) (hF : ∀ q, va_A [(h0, e0)] H.size q → A q) (hP1 : va_P D cl w1 H1) (hD1 : va_D (va_A [(h0, e0)] H.size) w1) : va_P D cl (wr ++ w1) H1 ∧ va_D A (wr ++ w1) := by
  have hin : ∀ q, va_A [(h0, e0)] H.size q → q = h0 ∨ H.size ≤ q := by
    intro q h
    rcases h with ⟨k, e, h⟩ | h
    · match k, h with
      | 0, h => exact Or.inl (by cases h; rfl)
      | k + 1, h => simp at h
    · exact Or.inr h
  have hne : ∀ (k : Nat) (x : Nat × va_E), wr[k]? = some x → x.1 ≠ h0 ∧ x.1 < H.size := by
    intro k x hx
    exact ⟨z_D_ne (b := [(h0, e0)]) hD hx (j := 0) rfl, (z_P_l hP k x hx).lt⟩
  refine ⟨z_P_app (fun k x hx => ?_) hP1, va_D.app (z_D_l hD) (hD1.weaken (fun _ x _ h => hF x.1 h)) (fun i j p q hi hj e => ?_)⟩
  · obtain ⟨h1, h2⟩ := hne k x hx
    refine (z_P_l hP k x hx).kept (hk _ h2 (fun g => ?_))
    rcases hin _ g with g | g
    · exact h1 g
    · exact absurd h2 (Nat.not_lt.mpr g)
  · obtain ⟨h1, h2⟩ := hne i p hi
    rcases hin _ (hD1.2 j q hj) with g | g
    · exact h1 (e.trans g)
    · rw [e] at h2
      exact absurd h2 (Nat.not_lt.mpr g)
section ZN
variable {p : Program} {l : Launch} {e : Env} {Rm : Room} {s : State} {m : MethodId} {args : Array Value} {below : List Frame} {meth : Method} {c : Code} {H H0 : Heap} {locs : List Loc} {cells slots : Nat} {Q : State → Prop} {D : va_G} {cl : List vw_C} {tys : List (ClassId × FieldType)} {A : Nat → Prop} {cc : ByteArray} {pc : Nat} {ls : Array Slot} {rest st0 As : List Value}
  {y : MethodName} {bytes : ByteArray} {mL nL na index mc ms h0 : Nat} {rm : Room} {own host : String} {e0 : va_E} {Wd : zQ → va_W} {Ty : zQ → List (ClassId × FieldType)} {Nn : State → Prop} {wr : va_W}
theorem z_ctrun (hr : va_Run p l e Rm s m args below meth c H locs cells slots mc ms (F0 m pc ls st0) rest (va_Qv (fun _ : zQ => True) (fun u t => va_P D cl (Wd u) t.heap ∧ va_K D cl (Ty u) t ∧ va_D (va_A [(h0, e0)] H.size) (Wd u)) (va_A [(h0, e0)] H.size) (Value.ref h0 :: As).toArray) (va_A [(h0, e0)] H.size)) (hK : va_K D cl tys s) (hP : va_P D cl (wr ++ [(h0, e0)]) H) (hD : va_D A (wr ++ [(h0, e0)])) (hS : va_S A H0 H locs) (hA : ∀ q, H0.size ≤ q → A q)
    (kk : ∀ (u : zQ) (H1 : Heap) (locs1 : List Loc), va_K D cl (tys ++ Ty u) s → va_P D cl (wr ++ Wd u) H1 → va_D A (wr ++ Wd u) → va_S A H0 H1 locs1 → W p l e Rm s m args below meth c H1 locs1 (cells + mc) (slots + ms) Q (F0 m (pc + 3) ls rest)) : W p l e Rm s m args below meth c H locs cells slots Q (F0 m pc ls st0) := by
  have hF : ∀ q, va_A [(h0, e0)] H.size q → A q := by
    intro q h
    rcases h with ⟨k, x, h⟩ | h
    · exact hD.2 _ _ (z_app_r (ws := wr) h)
    · exact hA q (Nat.le_trans hS.1 h)
  refine va_callv hr hS (fun q _ h => hF q h) hF (fun u t H1 locs1 ht hvm _ hB hz1 hk1 hS1 => ?_)
  obtain ⟨hP1, hK1, hD1⟩ := hB
  rw [ht] at hP1
  obtain ⟨hP2, hD2⟩ := z_join hP hD hk1 hF hP1 hD1
  exact kk u H1 locs1 (hK.app (va_K.moved hvm.symm hK1)) hP2 hD2 hS1
theorem z_ctpre (hK : va_K D cl tys s) (hP : va_P D cl (wr ++ [(h0, e0)]) H) (hD : va_D A (wr ++ [(h0, e0)])) (hN : Nn s) (hNw : ∀ U : State, s.WarmedH U.vm → Nn U) (hNc : ∀ (a : Array Value) (U : State) (g : JFrame) (mk : MethodId), Nn U → Nn (U.calling g mk a)) : PreS s H (va_Pc (.ref h0 :: As) (fun U => U.heap.size = H.size ∧ va_P D cl [(h0, e0)] U.heap ∧ va_K D cl [] U ∧ va_D (fun _ => True) [(h0, e0)] ∧ Nn U)) (.ref h0 :: As) :=
  ⟨fun a U g mk h => by
      obtain ⟨q0, q1, qP, qK, qD, qN⟩ := h
      exact ⟨q0, q1, qP, va_K.moved (u := U) (U := U.calling g mk a) (Vm.Alike.refl U.vm) qK, qD, hNc a U g mk qN⟩,
    fun U hU hW => ⟨rfl, by rw [hU], by rw [hU]; exact z_P_r hP, va_K.moved hW.alike (hK.sub (tys' := []) [] rfl), (z_D_r hD).weaken (fun _ _ _ _ => trivial), hNw U hW⟩⟩
theorem z_ctN (hx : p.tables.exec = Jvm.exec) (hb : c.code = cc) (hml : c.maxLocals = nL) (hown : s.vm.findClass own = some m.cls) (ht : ∀ w ∈ zT, w.before args s = true) (hM : zCt l D cl y bytes mL rm mc ms h0 e0 (.ref h0 :: As) Wd Ty Nn) (hl : va_Nw (.methodLinkNest own index y host) s) (hm : Cond.instanceMethod y ∈ zT ∧ Cond.initialized y.cls ∈ zT ∧ Cond.code y bytes mL none ∈ zT) (hy : y.name = "<init>") (hrm : rm.cells = mc ∧ rm.slots = ms) (hna : As.length = na)
    (hd : y.cls ≠ "java/lang/invoke/MethodHandle" ∧ y.cls ≠ "java/lang/invoke/VarHandle" ∧ (parseMethodDescriptor y.desc).map (fun d => d.parameters.length) = some na) (hR : rm.frames + 1 ≤ Rm.frames ∧ 8 + (mL + 11) + rm.locals ≤ Rm.locals) (hK : va_K D cl tys s) (hP : va_P D cl (wr ++ [(h0, e0)]) H) (hD : va_D A (wr ++ [(h0, e0)])) (hS : va_S A H0 H locs) (hA : ∀ q, H0.size ≤ q → A q) (hN : Nn s) (hNw : ∀ U : State, s.WarmedH U.vm → Nn U) (hNc : ∀ (a : Array Value) (U : State) (g : JFrame) (mk : MethodId), Nn U → Nn (U.calling g mk a)) (hsz : ls.size = nL) (hst : st0 = As.reverse ++ .ref h0 :: rest) (hW : (rest.map fun v => v.category).sum ≤ 8) (hf : cells + mc ≤ Rm.cells ∧ slots + ms ≤ Rm.slots) (hdg : decode cc pc = .ok (.invokespecial index, 3))
    (kk : ∀ (u : zQ) (H1 : Heap) (locs1 : List Loc), va_K D cl (tys ++ Ty u) s → va_P D cl (wr ++ Wd u) H1 → va_D A (wr ++ Wd u) → va_S A H0 H1 locs1 → W p l e Rm s m args below meth c H1 locs1 (cells + mc) (slots + ms) Q (F0 m (pc + 3) ls rest)) : W p l e Rm s m args below meth c H locs cells slots Q (F0 m pc ls st0) := by
  subst hst
  exact z_ctrun (va_runIN (As := As) (rest := rest) ⟨hx, hb, hml, hown, ht⟩ (hM H.size) ⟨va_cnB na ht (z_GC hm.2.2) rfl hrm.1 hrm.2 hl (ht _ hm.2.1) hd hR, hy, ht _ hm.1⟩ (z_ctpre hK hP hD hN hNw hNc) rfl hna hsz rfl (lv_room hW) hdg hf) hK hP hD hS hA kk
theorem z_ctI (hx : p.tables.exec = Jvm.exec) (hb : c.code = cc) (hml : c.maxLocals = nL) (hown : s.vm.findClass own = some m.cls) (ht : ∀ w ∈ zT, w.before args s = true) (hM : zCt l D cl y bytes mL rm mc ms h0 e0 (.ref h0 :: As) Wd Ty Nn) (hl : Cond.methodLink own index y ∈ zT) (hm : Cond.instanceMethod y ∈ zT ∧ Cond.initialized y.cls ∈ zT ∧ Cond.code y bytes mL none ∈ zT) (hy : y.name = "<init>") (hrm : rm.cells = mc ∧ rm.slots = ms) (hna : As.length = na)
    (hd : y.cls ≠ "java/lang/invoke/MethodHandle" ∧ y.cls ≠ "java/lang/invoke/VarHandle" ∧ (parseMethodDescriptor y.desc).map (fun d => d.parameters.length) = some na) (hR : rm.frames + 1 ≤ Rm.frames ∧ 8 + (mL + 11) + rm.locals ≤ Rm.locals) (hK : va_K D cl tys s) (hP : va_P D cl (wr ++ [(h0, e0)]) H) (hD : va_D A (wr ++ [(h0, e0)])) (hS : va_S A H0 H locs) (hA : ∀ q, H0.size ≤ q → A q) (hN : Nn s) (hNw : ∀ U : State, s.WarmedH U.vm → Nn U) (hNc : ∀ (a : Array Value) (U : State) (g : JFrame) (mk : MethodId), Nn U → Nn (U.calling g mk a)) (hsz : ls.size = nL) (hst : st0 = As.reverse ++ .ref h0 :: rest) (hW : (rest.map fun v => v.category).sum ≤ 8) (hf : cells + mc ≤ Rm.cells ∧ slots + ms ≤ Rm.slots) (hdg : decode cc pc = .ok (.invokespecial index, 3))
    (kk : ∀ (u : zQ) (H1 : Heap) (locs1 : List Loc), va_K D cl (tys ++ Ty u) s → va_P D cl (wr ++ Wd u) H1 → va_D A (wr ++ Wd u) → va_S A H0 H1 locs1 → W p l e Rm s m args below meth c H1 locs1 (cells + mc) (slots + ms) Q (F0 m (pc + 3) ls rest)) : W p l e Rm s m args below meth c H locs cells slots Q (F0 m pc ls st0) := by
  subst hst
  exact z_ctrun (va_runI (As := As) (rest := rest) ⟨hx, hb, hml, hown, ht⟩ (hM H.size) ⟨callB_of na ht (z_GC hm.2.2) rfl hrm.1 hrm.2 (ht _ hm.2.1) (ht _ hl) hd hR, hy, ht _ hm.1⟩ (z_ctpre hK hP hD hN hNw hNc) rfl hna hsz rfl (lv_room hW) hdg hf) hK hP hD hS hA kk
end ZN
/-- the body of a constructor -/
theorem z_ctbody {l : Launch} {D : va_G} {cl : List vw_C} {y : MethodName} {cc : ByteArray} {mL : Nat} {rm : Room} {mc ms h0 : Nat} {e0 : va_E} {av : List Value} {Nn : State → Prop} {Qc : Array Value → State → Outcome → State → Prop} {sz : Nat} (hy : plainName y.cls = true) (hyn : y.name = "<init>") (hlen : (lg_sl av).length ≤ mL)
    (body : ∀ (p : Program) (e : Env) (s : State) (m : MethodId) (below : List Frame) (meth : Method) (c : Code) (ls : Array Slot) (A : Nat → Prop), A = va_A [(h0, e0)] sz → p.tables.exec = Jvm.exec → c.code = cc → c.maxLocals = mL → meth.sig.returnType = none → (∀ w ∈ zT, w.before av.toArray s = true) → s.vm.findClass y.cls = some m.cls → meth.locks = false → meth.name = "<init>" → s.heap.size = sz → va_K D cl [] s → va_P D cl [(h0, e0)] s.heap → va_D A [(h0, e0)] → va_S A s.heap s.heap [] → (∀ q, s.heap.size ≤ q → A q) → Nn s → lv_has ls mL (lv_args 0 av) →
      W p l e rm s m av.toArray below meth c s.heap [] 0 0 (MQ below Qc av.toArray s mc ms A) (F0 m 0 ls [])) :
    Met l y (Cond.code y cc mL none :: zT) rm (va_Pc av (fun U => U.heap.size = sz ∧ va_P D cl [(h0, e0)] U.heap ∧ va_K D cl [] U ∧ va_D (fun _ => True) [(h0, e0)] ∧ Nn U)) Qc mc ms (va_A [(h0, e0)] sz) := by
  refine Met.ofW (cc := cc) (maxL := mL) (ret := none) hy rfl ?_
  intro p e s m args below meth c s₁ B hml hv
  obtain ⟨rfl, hsz, hP, hK, hD0, hN⟩ := hv
  have hts := atoms_spec (ws := Cond.code y cc mL none :: zT) B.pre
  have hl := lv_entry av (n := mL) hlen
  rw [lg_entry_eq]
  exact body p e s m below meth c _ _ rfl B.exec B.bytes hml B.returns (fun w h => hts w (List.mem_cons_of_mem _ h)) (findClass_of_methodNamed B.named) B.notSynchronized ((name_of_methodNamed B.named B.method).1.trans hyn) hsz hK hP hD0.self va_S.rf (fun q h => Or.inr (hsz ▸ h)) hN hl
/-- the end of a constructor: its world, as it was said -/
theorem z_ctret {p : Program} {l : Launch} {e : Env} {Rm : Room} {s : State} {m : MethodId} {args : Array Value} {below : List Frame} {meth : Method} {c : Code} {H : Heap} {locs : List Loc} {mc ms : Nat} {D : va_G} {cl : List vw_C} {A : Nat → Prop} {cc : ByteArray} {pc : Nat} {ls : Array Slot} {Wd : zQ → va_W} {Ty : zQ → List (ClassId × FieldType)} (hx : p.tables.exec = Jvm.exec) (hb : c.code = cc) (hr : meth.sig.returnType = none) (hlocks : meth.locks = false) (u : zQ) (hK : va_K D cl (Ty u) s) (hP : va_P D cl (Wd u) H) (hD : va_D A (Wd u)) (hS : va_S A s.heap H locs) (hdg : decode cc pc = .ok (.return_, 1)) :
    W p l e Rm s m args below meth c H locs mc ms (MQ below (va_Qv (fun _ : zQ => True) (fun u t => va_P D cl (Wd u) t.heap ∧ va_K D cl (Ty u) t ∧ va_D A (Wd u)) A) args s mc ms A) (F0 m pc ls []) :=
  W.vret hx hb hr (fun t ht hW => ⟨⟨u, rfl, trivial, by rw [ht]; exact hP, va_K.moved hW.alike hK, hD⟩, hS.F ht⟩) hS.2.2 hdg hlocks
def zXI0 : Nat → Nat → Int32 := fun k f => bif (Nat.beq k 1 && Nat.beq f 3) || (Nat.beq f 1 && (Nat.beq k 73 || Nat.beq k 75 || Nat.beq k 77 || Nat.beq k 79)) then -1 else nI 0
def zXR0 : Nat → Nat → Int32 := fun _ _ => nI 0
def zXJ0 : Nat → Nat → Int64 := fun _ _ => 0
def zMI0 : Nat → Nat → Int32 := fun k f => bif (Nat.beq k 0 && Nat.beq f 13) then -1 else nI 0
def zMany : Nat → Int32 := upd (upd (upd (upd (fun _ => nI 0) (nI 0).toNatClampNeg (-1)) (nI 1).toNatClampNeg (-1)) (nI 2).toNatClampNeg (-1)) (nI 3).toNatClampNeg (-1)
def zMR0 : Nat → Nat → Int32 := fun k => bif Nat.beq k 21 then zMany else fun _ => nI 0
def zMJ0 : Nat → Nat → Int64 := fun _ _ => 0
def zN (U : State) : Prop := va_Nw (.methodLinkNest "ReceiptLeft" 9 ⟨"ReceiptLeft$Tape", "<init>", "()V"⟩ "ReceiptLeft") U ∧ va_Nw (.methodLinkNest "ReceiptLeft" 18 ⟨"ReceiptLeft$City", "<init>", "()V"⟩ "ReceiptLeft") U ∧ va_Nw (.methodLinkNest "ReceiptLeft" 28 ⟨"ReceiptLeft$Acts", "<init>", "()V"⟩ "ReceiptLeft") U ∧ va_Nw (.methodLinkNest "ReceiptLeft" 47 ⟨"ReceiptLeft$Titles", "<init>", "()V"⟩ "ReceiptLeft") U ∧ va_Nw (.methodLinkNest "ReceiptLeft" 54 ⟨"ReceiptLeft$Deal", "<init>", "()V"⟩ "ReceiptLeft") U ∧ va_Nw (.methodLinkNest "ReceiptLeft" 61 ⟨"ReceiptLeft$Dice", "<init>", "()V"⟩ "ReceiptLeft") U ∧ va_Nw (.methodLinkNest "ReceiptLeft" 68 ⟨"ReceiptLeft$Audit", "<init>", "()V"⟩ "ReceiptLeft") U ∧ va_Nw (.methodLinkNest "ReceiptLeft" 85 ⟨"ReceiptLeft$Image", "<init>", "()V"⟩ "ReceiptLeft") U ∧ va_Nw (.methodLinkNest "ReceiptLeft$Image" 9 ⟨"ReceiptLeft$City", "<init>", "()V"⟩ "ReceiptLeft") U ∧ va_Nw (.methodLinkNest "ReceiptLeft$Image" 18 ⟨"ReceiptLeft$Acts", "<init>", "()V"⟩ "ReceiptLeft") U ∧ va_Nw (.methodLinkNest "ReceiptLeft" 86 ⟨"ReceiptLeft$Row", "<init>", "()V"⟩ "ReceiptLeft") U ∧ va_AO "ReceiptLeft$Image" U ∧ va_AO "ReceiptLeft$Row" U
theorem zN_warm {s U : State} (hW : s.WarmedH U.vm) (h : zN s) : zN U := ⟨va_Nw.warmM hW h.1, va_Nw.warmM hW h.2.1, va_Nw.warmM hW h.2.2.1, va_Nw.warmM hW h.2.2.2.1, va_Nw.warmM hW h.2.2.2.2.1, va_Nw.warmM hW h.2.2.2.2.2.1, va_Nw.warmM hW h.2.2.2.2.2.2.1, va_Nw.warmM hW h.2.2.2.2.2.2.2.1, va_Nw.warmM hW h.2.2.2.2.2.2.2.2.1, va_Nw.warmM hW h.2.2.2.2.2.2.2.2.2.1, va_Nw.warmM hW h.2.2.2.2.2.2.2.2.2.2.1, va_AO.moved hW.alike h.2.2.2.2.2.2.2.2.2.2.2.1, va_AO.moved hW.alike h.2.2.2.2.2.2.2.2.2.2.2.2⟩
theorem zN_call (a : Array Value) (U : State) (g : JFrame) (mk : MethodId) (h : zN U) : zN (U.calling g mk a) := ⟨va_Nw.same rfl rfl h.1, va_Nw.same rfl rfl h.2.1, va_Nw.same rfl rfl h.2.2.1, va_Nw.same rfl rfl h.2.2.2.1, va_Nw.same rfl rfl h.2.2.2.2.1, va_Nw.same rfl rfl h.2.2.2.2.2.1, va_Nw.same rfl rfl h.2.2.2.2.2.2.1, va_Nw.same rfl rfl h.2.2.2.2.2.2.2.1, va_Nw.same rfl rfl h.2.2.2.2.2.2.2.2.1, va_Nw.same rfl rfl h.2.2.2.2.2.2.2.2.2.1, va_Nw.same rfl rfl h.2.2.2.2.2.2.2.2.2.2.1, va_AO.moved (Vm.Alike.refl U.vm) h.2.2.2.2.2.2.2.2.2.2.2.1, va_AO.moved (Vm.Alike.refl U.vm) h.2.2.2.2.2.2.2.2.2.2.2.2⟩
