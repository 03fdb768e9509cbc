/-! ===== z: the words, all of the tables' good ones, for every method alike ===== -/
def zT : List Cond := lw_tbl.filter goodWord
theorem zT_in {w : Cond} (h : w ∈ lw_tbl) (g : goodWord w = true) : w ∈ zT := List.mem_filter.mpr ⟨h, g⟩
theorem zT_good : ∀ w ∈ zT, (w.onTables && w.keeps) = true ∨ ∃ ty, w = .arrayClass ty := fun _ h => good_of_word (List.mem_filter.mp h).2
theorem zT_lw : ∀ w ∈ zT, w ∈ lw_tbl := fun _ h => (List.mem_filter.mp h).1
theorem z_c {w : Cond} (h : w ∈ tables_1) : w ∈ lw_tbl := List.mem_append_right _ h
theorem z_c1 {w : Cond} (h : w ∈ tables_1_1) : w ∈ lw_tbl := z_c (List.mem_append_left _ h)
theorem z_c2 {w : Cond} (h : w ∈ tables_1_2) : w ∈ lw_tbl := z_c (List.mem_append_right _ (List.mem_append_left _ h))
theorem z_c3 {w : Cond} (h : w ∈ tables_1_3) : w ∈ lw_tbl := z_c (List.mem_append_right _ (List.mem_append_right _ (List.mem_append_left _ h)))
theorem z_c4 {w : Cond} (h : w ∈ tables_1_4) : w ∈ lw_tbl := z_c (List.mem_append_right _ (List.mem_append_right _ (List.mem_append_right _ (List.mem_append_left _ h))))
theorem z_c5 {w : Cond} (h : w ∈ tables_1_5) : w ∈ lw_tbl := z_c (List.mem_append_right _ (List.mem_append_right _ (List.mem_append_right _ (List.mem_append_right _ (List.mem_append_left _ h)))))
theorem z_c6 {w : Cond} (h : w ∈ tables_1_6) : w ∈ lw_tbl := z_c (List.mem_append_right _ (List.mem_append_right _ (List.mem_append_right _ (List.mem_append_right _ (List.mem_append_right _ (List.mem_append_left _ h))))))
theorem z_c7 {w : Cond} (h : w ∈ tables_1_7) : w ∈ lw_tbl := z_c (List.mem_append_right _ (List.mem_append_right _ (List.mem_append_right _ (List.mem_append_right _ (List.mem_append_right _ (List.mem_append_right _ (List.mem_append_left _ h)))))))
theorem z_c8 {w : Cond} (h : w ∈ tables_1_8) : w ∈ lw_tbl := z_c (List.mem_append_right _ (List.mem_append_right _ (List.mem_append_right _ (List.mem_append_right _ (List.mem_append_right _ (List.mem_append_right _ (List.mem_append_right _ h)))))))
theorem z_c0 {w : Cond} (h : w ∈ k2_sels lw_privs) : w ∈ lw_tbl := List.mem_append_left _ h
theorem z_GI {ws : List Cond} (h : ∀ w ∈ ws, w ∈ zT) : GoodIn zT ws := fun w hw => ⟨h w hw, zT_good w (h w hw)⟩
theorem z_GC {w : Cond} (h : w ∈ zT) : GoodIn zT (w :: zT) := z_GI (fun v hv => (List.mem_cons.mp hv).elim (fun e => e ▸ h) id)
theorem z_cwV {R : Room} {s : State} {args : Array Value} {own C : String} {index : Nat} {y : MethodName} {bytes : ByteArray} {maxL : Nat} {ret : Option FieldType} {rm : Room} (n : Nat) (ht : ∀ w ∈ zT, w.before args s = true) (hl : Cond.methodLink own index y ∈ zT) (hm : Cond.instanceMethod y ∈ zT ∧ Cond.selects C y y ∈ zT ∧ Cond.initialized y.cls ∈ zT ∧ Cond.code y bytes maxL ret ∈ zT)
    (hd : y.cls ≠ "java/lang/invoke/MethodHandle" ∧ y.cls ≠ "java/lang/invoke/VarHandle" ∧ (parseMethodDescriptor y.desc).map (fun d => d.parameters.length) = some n) (hR : rm.frames + 1 ≤ R.frames ∧ 8 + (maxL + 11) + rm.locals ≤ R.locals) :
    CallW R s args own C index y bytes maxL ret (Cond.code y bytes maxL ret :: zT) rm rm.cells rm.slots n :=
  ⟨callB_of n ht (z_GC hm.2.2.2) rfl rfl rfl (ht _ hm.2.2.1) (ht _ hl) hd hR, ht _ hm.1, ht _ hm.2.1⟩
theorem z_cwS {R : Room} {s : State} {args : Array Value} {own : String} {index : Nat} {y : MethodName} {bytes : ByteArray} {maxL : Nat} {ret : Option FieldType} {rm : Room} (n : Nat) (ht : ∀ w ∈ zT, w.before args s = true) (hl : Cond.methodLink own index y ∈ zT) (hm : Cond.static y ∈ zT ∧ Cond.initialized y.cls ∈ zT ∧ Cond.code y bytes maxL ret ∈ zT)
    (hd : y.cls ≠ "java/lang/invoke/MethodHandle" ∧ y.cls ≠ "java/lang/invoke/VarHandle" ∧ (parseMethodDescriptor y.desc).map (fun d => d.parameters.length) = some n) (hR : rm.frames + 1 ≤ R.frames ∧ 8 + (maxL + 11) + rm.locals ≤ R.locals) :
    CallB R s args own index y bytes maxL ret (Cond.code y bytes maxL ret :: zT) rm rm.cells rm.slots n ∧ (Cond.static y).before args s = true :=
  ⟨callB_of n ht (z_GC hm.2.2) rfl rfl rfl (ht _ hm.2.1) (ht _ hl) hd hR, ht _ hm.1⟩
/-! ===== z: worlds of a fixed shape: cell k lies at q k, and what it holds is K k of its own row of ints, its own row of an array, its own row of longs ===== -/
def zr {α : Type} (R : Nat → α) (k : Nat) (g : α) : Nat → α := fun j => bif Nat.beq j k then g else R j
theorem zr_eq {α : Type} {R : Nat → α} {k : Nat} {g : α} : zr R k g k = g := by
  have h : Nat.beq k k = true := Nat.beq_refl k
  simp only [zr, h, cond_true]
theorem zr_ne {α : Type} {R : Nat → α} {k j : Nat} {g : α} (h : j ≠ k) : zr R k g j = R j := by
  have h1 : Nat.beq j k = false := by
    cases hb : Nat.beq j k with
    | false => rfl
    | true => exact absurd (Nat.eq_of_beq_eq_true hb) h
  simp only [zr, h1, cond_false]
theorem zr_self {α : Type} {R : Nat → α} {k : Nat} : zr R k (R k) = R := by
  funext j
  by_cases h : j = k
  · subst h
    exact zr_eq
  · exact zr_ne h
/-- one place of one row -/
def zp {α : Type} (I : Nat → Nat → α) (k f : Nat) (v : α) : Nat → Nat → α := fun k' f' => bif Nat.beq k' k && Nat.beq f' f then v else I k' f'
theorem z_beq {a b : Nat} (h : a ≠ b) : Nat.beq a b = false := by
  cases hb : Nat.beq a b with
  | false => rfl
  | true => exact absurd (Nat.eq_of_beq_eq_true hb) h
theorem zp_eq {α : Type} {I : Nat → Nat → α} {k f : Nat} {v : α} : zp I k f v k f = v := by
  simp only [zp, Nat.beq_refl, Bool.and_self, cond_true]
theorem zp_nf {α : Type} {I : Nat → Nat → α} {k f j : Nat} {v : α} (h : j ≠ f) : zp I k f v k j = I k j := by
  simp only [zp, z_beq h, Bool.and_false, cond_false]
theorem zp_nk {α : Type} {I : Nat → Nat → α} {k f i : Nat} {v : α} (h : i ≠ k) : zp I k f v i = I i := by
  funext j
  simp only [zp, z_beq h, Bool.false_and, cond_false]
theorem zp_zr {α : Type} {R : Nat → Nat → α} {k f : Nat} {g : Nat → α} {v : α} : zp (zr R k g) k f v = zr R k (fun j => bif Nat.beq j f then v else g j) := by
  funext i
  by_cases h : i = k
  · subst h
    funext j
    rw [zr_eq]
    simp only [zp, Nat.beq_refl, Bool.true_and, zr_eq]
  · rw [zp_nk h, zr_ne h, zr_ne h]
theorem zp_upd {I : Nat → Nat → Int32} {k f : Nat} {v : Int32} : zp I k f v k = upd (I k) f v := by
  funext j
  by_cases h : j = f
  · subst h
    rw [zp_eq]
    simp [upd]
  · rw [zp_nf h]
    simp [upd, h]
theorem zp_updL {I : Nat → Nat → Int64} {k f : Nat} {v : Int64} : zp I k f v k = vp_updL (I k) f v := by
  funext j
  by_cases h : j = f
  · subst h
    rw [zp_eq]
    simp [vp_updL]
  · rw [zp_nf h]
    simp [vp_updL, h]
abbrev zKd : Type := Nat → (Nat → Int32) → (Nat → Int32) → (Nat → Int64) → va_E
def zw (n : Nat) (q : Nat → Nat) (K : zKd) (I R : Nat → Nat → Int32) (J : Nat → Nat → Int64) : va_W := (List.range n).map (fun k => (q k, K k (I k) (R k) (J k)))
theorem zw_get {n : Nat} {q : Nat → Nat} {K : zKd} {I R : Nat → Nat → Int32} {J : Nat → Nat → Int64} {k : Nat} (h : k < n) : (zw n q K I R J)[k]? = some (q k, K k (I k) (R k) (J k)) := by
  simp [zw, List.getElem?_map, List.getElem?_range h]
theorem zw_at {n : Nat} {q : Nat → Nat} {K : zKd} {I R : Nat → Nat → Int32} {J : Nat → Nat → Int64} {k : Nat} {e : va_E} (h : k < n) (he : K k (I k) (R k) (J k) = e) : (zw n q K I R J)[k]? = some (q k, e) := he ▸ zw_get h
theorem zw_inv {n : Nat} {q : Nat → Nat} {K : zKd} {I R : Nat → Nat → Int32} {J : Nat → Nat → Int64} {k : Nat} {x : Nat × va_E} (h : (zw n q K I R J)[k]? = some x) : k < n ∧ x = (q k, K k (I k) (R k) (J k)) := by
  rcases Nat.lt_or_ge k n with hk | hk
  · rw [zw_get hk] at h
    exact ⟨hk, (Option.some.inj h).symm⟩
  · have : (zw n q K I R J)[k]? = none := by
      simp [zw, hk]
    rw [this] at h
    cases h
theorem zw_set {n : Nat} {q : Nat → Nat} {K : zKd} {I R I' R' : Nat → Nat → Int32} {J J' : Nat → Nat → Int64} {k : Nat} {e : va_E} (he : K k (I' k) (R' k) (J' k) = e) (hI : ∀ j, j ≠ k → I' j = I j) (hR : ∀ j, j ≠ k → R' j = R j) (hJ : ∀ j, j ≠ k → J' j = J j) : (zw n q K I R J).set k (q k, e) = zw n q K I' R' J' := by
  apply List.ext_getElem?
  intro j
  by_cases hj : j = k
  · subst hj
    rcases Nat.lt_or_ge j n with h | h
    · rw [zw_at h he, List.getElem?_set_self (by simpa [zw] using h)]
    · rw [List.getElem?_eq_none (by simpa [zw] using h), List.getElem?_eq_none (by simpa [zw] using h)]
  · rw [List.getElem?_set_ne (fun h => hj h.symm)]
    rcases Nat.lt_or_ge j n with h | h
    · rw [zw_get h, zw_get h, hI j hj, hR j hj, hJ j hj]
    · rw [List.getElem?_eq_none (by simpa [zw] using h), List.getElem?_eq_none (by simpa [zw] using h)]
theorem zw_setI {n : Nat} {q : Nat → Nat} {K : zKd} {I R : Nat → Nat → Int32} {J : Nat → Nat → Int64} {k : Nat} {e : va_E} {g : Nat → Int32} (he : K k g (R k) (J k) = e) : (zw n q K I R J).set k (q k, e) = zw n q K (zr I k g) R J :=
  zw_set (by rw [zr_eq]; exact he) (fun _ h => zr_ne h) (fun _ _ => rfl) (fun _ _ => rfl)
theorem zw_setR {n : Nat} {q : Nat → Nat} {K : zKd} {I R : Nat → Nat → Int32} {J : Nat → Nat → Int64} {k : Nat} {e : va_E} {g : Nat → Int32} (he : K k (I k) g (J k) = e) : (zw n q K I R J).set k (q k, e) = zw n q K I (zr R k g) J :=
  zw_set (by rw [zr_eq]; exact he) (fun _ _ => rfl) (fun _ h => zr_ne h) (fun _ _ => rfl)
theorem zw_setJ {n : Nat} {q : Nat → Nat} {K : zKd} {I R : Nat → Nat → Int32} {J : Nat → Nat → Int64} {k : Nat} {e : va_E} {g : Nat → Int64} (he : K k (I k) (R k) g = e) : (zw n q K I R J).set k (q k, e) = zw n q K I R (zr J k g) :=
  zw_set (by rw [zr_eq]; exact he) (fun _ _ => rfl) (fun _ _ => rfl) (fun _ h => zr_ne h)
theorem zw_pI {n : Nat} {q : Nat → Nat} {K : zKd} {I R : Nat → Nat → Int32} {J : Nat → Nat → Int64} {k f : Nat} {v : Int32} {e : va_E} (he : K k (zp I k f v k) (R k) (J k) = e) : (zw n q K I R J).set k (q k, e) = zw n q K (zp I k f v) R J :=
  zw_set he (fun _ h => zp_nk h) (fun _ _ => rfl) (fun _ _ => rfl)
theorem zw_pR {n : Nat} {q : Nat → Nat} {K : zKd} {I R : Nat → Nat → Int32} {J : Nat → Nat → Int64} {k f : Nat} {v : Int32} {e : va_E} (he : K k (I k) (zp R k f v k) (J k) = e) : (zw n q K I R J).set k (q k, e) = zw n q K I (zp R k f v) J :=
  zw_set he (fun _ _ => rfl) (fun _ h => zp_nk h) (fun _ _ => rfl)
theorem zw_pJ {n : Nat} {q : Nat → Nat} {K : zKd} {I R : Nat → Nat → Int32} {J : Nat → Nat → Int64} {k f : Nat} {v : Int64} {e : va_E} (he : K k (I k) (R k) (zp J k f v k) = e) : (zw n q K I R J).set k (q k, e) = zw n q K I R (zp J k f v) :=
  zw_set he (fun _ _ => rfl) (fun _ _ => rfl) (fun _ h => zp_nk h)
theorem zw_pRu {n : Nat} {q : Nat → Nat} {K : zKd} {I R : Nat → Nat → Int32} {J : Nat → Nat → Int64} {k f : Nat} {v : Int32} {cA : ClassId} {N : Nat} (he : ∀ g, K k (I k) g (J k) = .inl (cA, N, .inl g)) : (zw n q K I R J).set k (q k, .inl (cA, N, .inl (upd (R k) f v))) = zw n q K I (zp R k f v) J :=
  zw_pR (by rw [zp_upd]; exact he _)
theorem zw_pJu {n : Nat} {q : Nat → Nat} {K : zKd} {I R : Nat → Nat → Int32} {J : Nat → Nat → Int64} {k f : Nat} {v : Int64} {cA : ClassId} {N : Nat} (he : ∀ g, K k (I k) (R k) g = .inl (cA, N, .inr (.inl g))) : (zw n q K I R J).set k (q k, .inl (cA, N, .inr (.inl (vp_updL (J k) f v)))) = zw n q K I R (zp J k f v) :=
  zw_pJ (by rw [zp_updL]; exact he _)
/-- what a method may touch: the world's cells, and what is new -/
def zA (n : Nat) (q : Nat → Nat) (sz : Nat) : Nat → Prop := fun a => (∃ k, k < n ∧ q k = a) ∨ sz ≤ a
theorem zA_D {n : Nat} {q : Nat → Nat} {K : zKd} {I R : Nat → Nat → Int32} {J : Nat → Nat → Int64} {A : Nat → Prop} {sz : Nat} (h : va_D A (zw n q K I R J)) : va_D (zA n q sz) (zw n q K I R J) :=
  ⟨h.1, fun k x hk => by obtain ⟨h1, h2⟩ := zw_inv hk; rw [h2]; exact Or.inl ⟨k, h1, rfl⟩⟩
theorem zA_mono {n : Nat} {q : Nat → Nat} {a b : Nat} (h : a ≤ b) : ∀ x, zA n q b x → zA n q a x := fun _ hx => hx.elim Or.inl (fun g => Or.inr (Nat.le_trans h g))
theorem zA_of {n : Nat} {q : Nat → Nat} {K : zKd} {I R : Nat → Nat → Int32} {J : Nat → Nat → Int64} {A : Nat → Prop} {H0 H : Heap} {locs : List Loc} (hD : va_D A (zw n q K I R J)) (hS : va_S A H0 H locs) (hA : ∀ a, H0.size ≤ a → A a) : ∀ a, zA n q H.size a → A a := by
  intro a h
  rcases h with ⟨k, hk, rfl⟩ | h
  · exact hD.2 k _ (zw_get hk)
  · exact hA a (Nat.le_trans hS.1 h)
abbrev zU : Type := (Nat → Nat → Int32) × (Nat → Nat → Int32) × (Nat → Nat → Int64)
def zPc (D : va_G) (cl : List vw_C) (tys : List (ClassId × FieldType)) (n : Nat) (q : Nat → Nat) (K : zKd) (av : List Value) (u : zU) (sz : Nat) : Array Value → State → Prop :=
  va_Pc av (fun U => U.heap.size = sz ∧ va_P D cl (zw n q K u.1 u.2.1 u.2.2) U.heap ∧ va_K D cl tys U ∧ va_D (fun _ => True) (zw n q K u.1 u.2.1 u.2.2))
def zB (D : va_G) (cl : List vw_C) (n : Nat) (q : Nat → Nat) (K : zKd) (sz : Nat) (u : zU) (t : State) : Prop :=
  va_P D cl (zw n q K u.1 u.2.1 u.2.2) t.heap ∧ va_D (zA n q sz) (zw n q K u.1 u.2.1 u.2.2)
/-- contracts over a world of a fixed shape: an int comes back, or nothing, or a long -/
def zMi (l : Launch) (D : va_G) (cl : List vw_C) (tys : List (ClassId × FieldType)) (n : Nat) (q : Nat → Nat) (K : zKd) (y : MethodName) (cc : ByteArray) (mL : Nat) (ret : Option FieldType) (rm : Room) (av : List Value) (u : zU) (post : Int32 → zU → Prop) : Prop :=
  ∀ sz : Nat, Met l y (Cond.code y cc mL ret :: zT) rm (zPc D cl tys n q K av u sz) (va_Qi post (zB D cl n q K sz) (zA n q sz)) 0 0 (zA n q sz)
def zMv (l : Launch) (D : va_G) (cl : List vw_C) (tys : List (ClassId × FieldType)) (n : Nat) (q : Nat → Nat) (K : zKd) (y : MethodName) (cc : ByteArray) (mL : Nat) (ret : Option FieldType) (rm : Room) (av : List Value) (u : zU) (post : zU → Prop) : Prop :=
  ∀ sz : Nat, Met l y (Cond.code y cc mL ret :: zT) rm (zPc D cl tys n q K av u sz) (va_Qv post (zB D cl n q K sz) (zA n q sz)) 0 0 (zA n q sz)
def zMl (l : Launch) (D : va_G) (cl : List vw_C) (tys : List (ClassId × FieldType)) (n : Nat) (q : Nat → Nat) (K : zKd) (y : MethodName) (cc : ByteArray) (mL : Nat) (ret : Option FieldType) (rm : Room) (av : List Value) (u : zU) (post : Int64 → zU → Prop) : Prop :=
  ∀ sz : Nat, Met l y (Cond.code y cc mL ret :: zT) rm (zPc D cl tys n q K av u sz) (va_Ql post (zB D cl n q K sz) (zA n q sz)) 0 0 (zA n q sz)
theorem zPc_blind {D : va_G} {cl : List vw_C} {tys : List (ClassId × FieldType)} {n : Nat} {q : Nat → Nat} {K : zKd} {av : List Value} {u : zU} {sz : Nat} : FrameBlind (zPc D cl tys n q K av u sz) :=
  fun a U g mk h => by
    obtain ⟨q0, q1, qP, qK, qD⟩ := h
    exact ⟨q0, q1, qP, va_K.moved (u := U) (U := U.calling g mk a) (Vm.Alike.refl U.vm) qK, qD⟩
section ZB
variable {l : Launch} {D : va_G} {cl : List vw_C} {tys : List (ClassId × FieldType)} {n : Nat} {q : Nat → Nat} {K : zKd} {y : MethodName} {cc : ByteArray} {mL : Nat} {ret : Option FieldType} {rm : Room} {av : List Value} {I R : Nat → Nat → Int32} {J : Nat → Nat → Int64}
/-- the body of a method: what stands at its entry -/
theorem z_body {Qc : Array Value → State → Outcome → State → Prop} {sz : Nat} (hy : plainName y.cls = true) (hlen : (lg_sl av).length ≤ mL)
    (body : ∀ (p : Program) (e : Env) (s : State) (m : MethodId) (below : List Frame) (meth : Method) (c : Code) (ls : Array Slot), p.tables.exec = Jvm.exec → c.code = cc → c.maxLocals = mL → meth.sig.returnType = ret → (∀ w ∈ zT, w.before av.toArray s = true) → s.vm.findClass y.cls = some m.cls → meth.locks = false → s.heap.size = sz → va_K D cl tys s → va_P D cl (zw n q K I R J) s.heap → va_D (zA n q sz) (zw n q K I R J) → va_S (zA n q sz) s.heap s.heap [] → lv_has ls mL (lv_args 0 av) →
      W p l e rm s m av.toArray below meth c s.heap [] 0 0 (MQ below Qc av.toArray s 0 0 (zA n q sz)) (F0 m 0 ls [])) :
    Met l y (Cond.code y cc mL ret :: zT) rm (zPc D cl tys n q K av (I, R, J) sz) Qc 0 0 (zA n q sz) := by
  refine Met.ofW (cc := cc) (maxL := mL) (ret := ret) hy rfl ?_
  intro p e s m args below meth c s₁ B hml hv
  obtain ⟨rfl, hsz, hP, hK, hD0⟩ := hv
  have hts := atoms_spec (ws := Cond.code y cc mL ret :: zT) B.pre
  have hl := lv_entry av (n := mL) hlen
  rw [lg_entry_eq]
  exact body p e s m below meth c _ B.exec B.bytes hml B.returns (fun w h => hts w (List.mem_cons_of_mem _ h)) (findClass_of_methodNamed B.named) B.notSynchronized hsz hK hP (zA_D hD0) va_S.rf hl
end ZB
section ZR
variable {own : String} {p : Program} {l : Launch} {e : Env} {Rm : Room} {s : State} {m : MethodId} {args : Array Value} {below : List Frame} {meth : Method} {c : Code} {H H0 : Heap} {locs : List Loc} {cells slots : Nat} {Q : State → Prop} {D : va_G} {cl : List vw_C} {tys : List (ClassId × FieldType)} {n : Nat} {q : Nat → Nat} {K : zKd} {I R : Nat → Nat → Int32} {J : Nat → Nat → Int64} {A : Nat → Prop} {cc : ByteArray} {pc : Nat} {ls : Array Slot} {rest : List Value}
theorem z_eqi {x y : Int32} (h : x = y) (k : W p l e Rm s m args below meth c H locs cells slots Q (F0 m pc ls (.int y :: rest))) : W p l e Rm s m args below meth c H locs cells slots Q (F0 m pc ls (.int x :: rest)) := h ▸ k
theorem z_eql {x y : Int64} (h : x = y) (k : W p l e Rm s m args below meth c H locs cells slots Q (F0 m pc ls (.long y :: rest))) : W p l e Rm s m args below meth c H locs cells slots Q (F0 m pc ls (.long x :: rest)) := h ▸ k
theorem z_get (hx : p.tables.exec = Jvm.exec) (hb : c.code = cc) (ht : ∀ w ∈ zT, w.before args s = true) (hown : s.vm.findClass own = some m.cls) (hK : va_K D cl tys s) (hP : va_P D cl (zw n q K I R J) H) {C : String} {T : u_T} {N ci : Nat} (hin : ∀ w ∈ u_ws C T N, w ∈ zT) (hc : cl[ci]? = some (C, T, N)) (k : Nat) (hk : k < n) (f : Nat) (hf : f < N) {index : Nat} (hlink : Cond.fieldLink own index (T f).1 (T f).2.1 (T f).2.2.1 ∈ zT) {fs : List Value} (he : K k (I k) (R k) (J k) = .inr (ci, fs)) {v : Value} (hv : fs[f]? = some v) (hdg : decode cc pc = .ok (.getfield index, 3))
    (kk : W p l e Rm s m args below meth c H locs cells slots Q (F0 m (pc + 3) ls (v :: rest))) : W p l e Rm s m args below meth c H locs cells slots Q (F0 m pc ls (.ref (q k) :: rest)) :=
  va_get hx hb ht hin hown hK hP k (zw_at hk he) hc f hf (ht _ hlink) (fun _ h => h) hv hdg kk
theorem z_putI (hx : p.tables.exec = Jvm.exec) (hb : c.code = cc) (ht : ∀ w ∈ zT, w.before args s = true) (hown : s.vm.findClass own = some m.cls) (hK : va_K D cl tys s) (hP : va_P D cl (zw n q K I R J) H) (hD : va_D A (zw n q K I R J)) (hS : va_S A H0 H locs) {C : String} {T : u_T} {N ci : Nat} (hin : ∀ w ∈ u_ws C T N, w ∈ zT) (ty0 : Nat → FieldType) (hty : ∀ k, k < N → parseFieldDescriptor (T k).2.2.1 = some (ty0 k)) (hnm : ∀ a, a < N → ∀ b, b < N → a ≠ b → (T a).2.1 ≠ (T b).2.1) (hc : cl[ci]? = some (C, T, N)) (k : Nat) (hk : k < n) (f : Nat) (hf : f < N) {index : Nat} (hlink : Cond.fieldLink own index (T f).1 (T f).2.1 (T f).2.2.1 ∈ zT) (hfin : (T f).2.2.2 = false) {v : Int32} (hn : narrow (ty0 f) (.int v) = .int v) (hfit : fits (ty0 f) (.int v) = true) {fs : List Value} (he : K k (I k) (R k) (J k) = .inr (ci, fs)) (hl : f < fs.length) (he' : K k (zp I k f v k) (R k) (J k) = .inr (ci, fs.set f (.int v))) (hdg : decode cc pc = .ok (.putfield index, 3))
    (kk : ∀ (H1 : Heap) (locs1 : List Loc), va_P D cl (zw n q K (zp I k f v) R J) H1 → va_D A (zw n q K (zp I k f v) R J) → va_S A H0 H1 locs1 → W p l e Rm s m args below meth c H1 locs1 cells slots Q (F0 m (pc + 3) ls rest)) : W p l e Rm s m args below meth c H locs cells slots Q (F0 m pc ls (.int v :: .ref (q k) :: rest)) :=
  va_put hx hb ht hin ty0 hty hnm hown hK hP hD hS k (zw_at hk he) hc f hf (ht _ hlink) (fun _ h => h) hfin (hty f hf) hn hfit hl hdg (fun H1 locs1 hP1 hD1 hS1 => kk H1 locs1 (zw_pI he' ▸ hP1) (zw_pI he' ▸ hD1) hS1)
theorem z_putJ (hx : p.tables.exec = Jvm.exec) (hb : c.code = cc) (ht : ∀ w ∈ zT, w.before args s = true) (hown : s.vm.findClass own = some m.cls) (hK : va_K D cl tys s) (hP : va_P D cl (zw n q K I R J) H) (hD : va_D A (zw n q K I R J)) (hS : va_S A H0 H locs) {C : String} {T : u_T} {N ci : Nat} (hin : ∀ w ∈ u_ws C T N, w ∈ zT) (ty0 : Nat → FieldType) (hty : ∀ k, k < N → parseFieldDescriptor (T k).2.2.1 = some (ty0 k)) (hnm : ∀ a, a < N → ∀ b, b < N → a ≠ b → (T a).2.1 ≠ (T b).2.1) (hc : cl[ci]? = some (C, T, N)) (k : Nat) (hk : k < n) (f : Nat) (hf : f < N) {index : Nat} (hlink : Cond.fieldLink own index (T f).1 (T f).2.1 (T f).2.2.1 ∈ zT) (hfin : (T f).2.2.2 = false) {v : Int64} (hn : narrow (ty0 f) (.long v) = .long v) (hfit : fits (ty0 f) (.long v) = true) {fs : List Value} (he : K k (I k) (R k) (J k) = .inr (ci, fs)) (hl : f < fs.length) (he' : K k (I k) (R k) (zp J k f v k) = .inr (ci, fs.set f (.long v))) (hdg : decode cc pc = .ok (.putfield index, 3))
    (kk : ∀ (H1 : Heap) (locs1 : List Loc), va_P D cl (zw n q K I R (zp J k f v)) H1 → va_D A (zw n q K I R (zp J k f v)) → va_S A H0 H1 locs1 → W p l e Rm s m args below meth c H1 locs1 cells slots Q (F0 m (pc + 3) ls rest)) : W p l e Rm s m args below meth c H locs cells slots Q (F0 m pc ls (.long v :: .ref (q k) :: rest)) :=
  va_put hx hb ht hin ty0 hty hnm hown hK hP hD hS k (zw_at hk he) hc f hf (ht _ hlink) (fun _ h => h) hfin (hty f hf) hn hfit hl hdg (fun H1 locs1 hP1 hD1 hS1 => kk H1 locs1 (zw_pJ he' ▸ hP1) (zw_pJ he' ▸ hD1) hS1)
theorem z_iald (hx : p.tables.exec = Jvm.exec) (hb : c.code = cc) (hK : va_K D cl tys s) (hP : va_P D cl (zw n q K I R J) H) (k : Nat) (hk : k < n) (t0 : Nat) {cA : ClassId} {N : Nat} (he : K k (I k) (R k) (J k) = .inl (cA, N, .inl (R k))) (hty : tys[t0]? = some (cA, .int)) {i : Int32} (hin : vp_in i N) (hdg : decode cc pc = .ok (.iaload, 1))
    (kk : W p l e Rm s m args below meth c H locs cells slots Q (F0 m (pc + 1) ls (.int (R k i.toNatClampNeg) :: rest))) : W p l e Rm s m args below meth c H locs cells slots Q (F0 m pc ls (.int i :: .ref (q k) :: rest)) :=
  va_iald hx hb hK hP k t0 (zw_at hk he) hty hin hdg kk
theorem z_bald (hx : p.tables.exec = Jvm.exec) (hb : c.code = cc) (hK : va_K D cl tys s) (hP : va_P D cl (zw n q K I R J) H) (k : Nat) (hk : k < n) (t0 : Nat) {cA : ClassId} {N : Nat} (he : K k (I k) (R k) (J k) = .inl (cA, N, .inl (R k))) (hty : tys[t0]? = some (cA, .byte)) {i : Int32} (hin : vp_in i N) (hdg : decode cc pc = .ok (.baload, 1))
    (kk : W p l e Rm s m args below meth c H locs cells slots Q (F0 m (pc + 1) ls (.int (R k i.toNatClampNeg) :: rest))) : W p l e Rm s m args below meth c H locs cells slots Q (F0 m pc ls (.int i :: .ref (q k) :: rest)) :=
  va_bald hx hb hK hP k t0 (zw_at hk he) hty hin hdg kk
theorem z_zald (hx : p.tables.exec = Jvm.exec) (hb : c.code = cc) (hK : va_K D cl tys s) (hP : va_P D cl (zw n q K I R J) H) (k : Nat) (hk : k < n) (t0 : Nat) {cA : ClassId} {N : Nat} (he : K k (I k) (R k) (J k) = .inl (cA, N, .inl (R k))) (hty : tys[t0]? = some (cA, .boolean)) {i : Int32} (hin : vp_in i N) (hdg : decode cc pc = .ok (.baload, 1))
    (kk : W p l e Rm s m args below meth c H locs cells slots Q (F0 m (pc + 1) ls (.int (R k i.toNatClampNeg) :: rest))) : W p l e Rm s m args below meth c H locs cells slots Q (F0 m pc ls (.int i :: .ref (q k) :: rest)) :=
  va_zald hx hb hK hP k t0 (zw_at hk he) hty hin hdg kk
theorem z_lald (hx : p.tables.exec = Jvm.exec) (hb : c.code = cc) (hK : va_K D cl tys s) (hP : va_P D cl (zw n q K I R J) H) (k : Nat) (hk : k < n) (t0 : Nat) {cA : ClassId} {N : Nat} (he : K k (I k) (R k) (J k) = .inl (cA, N, .inr (.inl (J k)))) (hty : tys[t0]? = some (cA, .long)) {i : Int32} (hin : vp_in i N) (hdg : decode cc pc = .ok (.laload, 1))
    (kk : W p l e Rm s m args below meth c H locs cells slots Q (F0 m (pc + 1) ls (.long (J k i.toNatClampNeg) :: rest))) : W p l e Rm s m args below meth c H locs cells slots Q (F0 m pc ls (.int i :: .ref (q k) :: rest)) :=
  va_lald hx hb hK hP k t0 (zw_at hk he) hty hin hdg kk
theorem z_iast (hx : p.tables.exec = Jvm.exec) (hb : c.code = cc) (hK : va_K D cl tys s) (hP : va_P D cl (zw n q K I R J) H) (hD : va_D A (zw n q K I R J)) (hS : va_S A H0 H locs) (k : Nat) (hk : k < n) (t0 : Nat) {cA : ClassId} {N : Nat} (he : ∀ g, K k (I k) g (J k) = .inl (cA, N, .inl g)) (hty : tys[t0]? = some (cA, .int)) {i x : Int32} (hin : vp_in i N) (hdg : decode cc pc = .ok (.iastore, 1))
    (kk : ∀ (H1 : Heap) (locs1 : List Loc), va_P D cl (zw n q K I (zp R k i.toNatClampNeg x) J) H1 → va_D A (zw n q K I (zp R k i.toNatClampNeg x) J) → va_S A H0 H1 locs1 → W p l e Rm s m args below meth c H1 locs1 cells slots Q (F0 m (pc + 1) ls rest)) : W p l e Rm s m args below meth c H locs cells slots Q (F0 m pc ls (.int x :: .int i :: .ref (q k) :: rest)) :=
  va_iast hx hb hK hP hD hS k t0 (zw_at hk (he (R k))) hty hin hdg (fun H1 locs1 hP1 hD1 hS1 => kk H1 locs1 (zw_pRu he ▸ hP1) (zw_pRu he ▸ hD1) hS1)
theorem z_bast (hx : p.tables.exec = Jvm.exec) (hb : c.code = cc) (hK : va_K D cl tys s) (hP : va_P D cl (zw n q K I R J) H) (hD : va_D A (zw n q K I R J)) (hS : va_S A H0 H locs) (k : Nat) (hk : k < n) (t0 : Nat) {cA : ClassId} {N : Nat} (he : ∀ g, K k (I k) g (J k) = .inl (cA, N, .inl g)) (hty : tys[t0]? = some (cA, .byte)) {i x : Int32} (hin : vp_in i N) (hdg : decode cc pc = .ok (.bastore, 1))
    (kk : ∀ (H1 : Heap) (locs1 : List Loc), va_P D cl (zw n q K I (zp R k i.toNatClampNeg (vp_nar .byte x)) J) H1 → va_D A (zw n q K I (zp R k i.toNatClampNeg (vp_nar .byte x)) J) → va_S A H0 H1 locs1 → W p l e Rm s m args below meth c H1 locs1 cells slots Q (F0 m (pc + 1) ls rest)) : W p l e Rm s m args below meth c H locs cells slots Q (F0 m pc ls (.int x :: .int i :: .ref (q k) :: rest)) :=
  va_bast hx hb hK hP hD hS k t0 (zw_at hk (he (R k))) hty hin hdg (fun H1 locs1 hP1 hD1 hS1 => kk H1 locs1 (zw_pRu he ▸ hP1) (zw_pRu he ▸ hD1) hS1)
theorem z_zast (hx : p.tables.exec = Jvm.exec) (hb : c.code = cc) (hK : va_K D cl tys s) (hP : va_P D cl (zw n q K I R J) H) (hD : va_D A (zw n q K I R J)) (hS : va_S A H0 H locs) (k : Nat) (hk : k < n) (t0 : Nat) {cA : ClassId} {N : Nat} (he : ∀ g, K k (I k) g (J k) = .inl (cA, N, .inl g)) (hty : tys[t0]? = some (cA, .boolean)) {i x : Int32} (hin : vp_in i N) (hdg : decode cc pc = .ok (.bastore, 1))
    (kk : ∀ (H1 : Heap) (locs1 : List Loc), va_P D cl (zw n q K I (zp R k i.toNatClampNeg (vp_nar .boolean x)) J) H1 → va_D A (zw n q K I (zp R k i.toNatClampNeg (vp_nar .boolean x)) J) → va_S A H0 H1 locs1 → W p l e Rm s m args below meth c H1 locs1 cells slots Q (F0 m (pc + 1) ls rest)) : W p l e Rm s m args below meth c H locs cells slots Q (F0 m pc ls (.int x :: .int i :: .ref (q k) :: rest)) :=
  va_zast hx hb hK hP hD hS k t0 (zw_at hk (he (R k))) hty hin hdg (fun H1 locs1 hP1 hD1 hS1 => kk H1 locs1 (zw_pRu he ▸ hP1) (zw_pRu he ▸ hD1) hS1)
theorem z_last (hx : p.tables.exec = Jvm.exec) (hb : c.code = cc) (hK : va_K D cl tys s) (hP : va_P D cl (zw n q K I R J) H) (hD : va_D A (zw n q K I R J)) (hS : va_S A H0 H locs) (k : Nat) (hk : k < n) (t0 : Nat) {cA : ClassId} {N : Nat} (he : ∀ g, K k (I k) (R k) g = .inl (cA, N, .inr (.inl g))) (hty : tys[t0]? = some (cA, .long)) {i : Int32} {x : Int64} (hin : vp_in i N) (hdg : decode cc pc = .ok (.lastore, 1))
    (kk : ∀ (H1 : Heap) (locs1 : List Loc), va_P D cl (zw n q K I R (zp J k i.toNatClampNeg x)) H1 → va_D A (zw n q K I R (zp J k i.toNatClampNeg x)) → va_S A H0 H1 locs1 → W p l e Rm s m args below meth c H1 locs1 cells slots Q (F0 m (pc + 1) ls rest)) : W p l e Rm s m args below meth c H locs cells slots Q (F0 m pc ls (.long x :: .int i :: .ref (q k) :: rest)) :=
  va_last hx hb hK hP hD hS k t0 (zw_at hk (he (J k))) hty hin hdg (fun H1 locs1 hP1 hD1 hS1 => kk H1 locs1 (zw_pJu he ▸ hP1) (zw_pJu he ▸ hD1) hS1)
theorem z_copyi (hx : p.tables.exec = Jvm.exec) (hb : c.code = cc) (hml : c.maxLocals = ls.size) (ht : ∀ w ∈ zT, w.before args s = true) (hown : s.vm.findClass own = some m.cls) {index : Nat} (hlink : Cond.methodLink own index arraycopyName ∈ zT) (hw : Cond.native arraycopyName ∈ zT ∧ Cond.static arraycopyName ∈ zT ∧ Cond.initialized "java/lang/System" ∈ zT) (hK : va_K D cl tys s) (hP : va_P D cl (zw n q K I R J) H) (hD : va_D A (zw n q K I R J)) (hS : va_S A H0 H locs) (k0 k1 : Nat) (hk0 : k0 < n) (hk1 : k1 < n) (t0 t1 : Nat) {c0 c1 : ClassId} {n0 n1 : Nat} (he0 : K k0 (I k0) (R k0) (J k0) = .inl (c0, n0, .inl (R k0))) (he1 : ∀ g, K k1 (I k1) g (J k1) = .inl (c1, n1, .inl g)) (ht0 : tys[t0]? = some (c0, .int)) (ht1 : tys[t1]? = some (c1, .int)) {sp dp nn : Int32} (h1 : ¬ sp < 0) (h2 : ¬ dp < 0) (h3 : ¬ nn < 0) (h4 : sp.toNatClampNeg + nn.toNatClampNeg ≤ n0) (h5 : dp.toNatClampNeg + nn.toNatClampNeg ≤ n1) (hfr : 1 ≤ Rm.frames) (hlo : (rest.map fun v => v.category).sum + (nativeFrameWords "java/lang/System" "arraycopy" 5 + 11) ≤ Rm.locals) (hdg : decode cc pc = .ok (.invokestatic index, 3))
    (kk : ∀ (g : Nat → Int32) (H1 : Heap) (locs1 : List Loc), g = va_cpy (R k0) (R k1) sp.toNatClampNeg dp.toNatClampNeg nn.toNatClampNeg → va_P D cl (zw n q K I (zr R k1 g) J) H1 → va_D A (zw n q K I (zr R k1 g) J) → va_S A H0 H1 locs1 → W p l e Rm s m args below meth c H1 locs1 cells slots Q (F0 m (pc + 3) ls rest)) : W p l e Rm s m args below meth c H locs cells slots Q (F0 m pc ls (.int nn :: .int dp :: .ref (q k1) :: .int sp :: .ref (q k0) :: rest)) :=
  va_copyi hx hb hml hown (ht _ hlink) (ht _ hw.1) (ht _ hw.2.1) (ht _ hw.2.2) hK hP hD hS k0 k1 t0 t1 (zw_at hk0 he0) (zw_at hk1 (he1 (R k1))) ht0 ht1 rfl h1 h2 h3 h4 h5 (fun _ _ => rfl) hfr hlo hdg (fun H1 locs1 hP1 hD1 hS1 => kk _ H1 locs1 rfl (zw_setR (he1 _) ▸ hP1) (zw_setR (he1 _) ▸ hD1) hS1)
theorem z_alen (hx : p.tables.exec = Jvm.exec) (hb : c.code = cc) (hK : va_K D cl tys s) (hP : va_P D cl (zw n q K I R J) H) (k : Nat) (hk : k < n) (t0 : Nat) {cA : ClassId} {x : vp_A} (he : K k (I k) (R k) (J k) = .inl (cA, x)) {ty : FieldType} (hty : tys[t0]? = some (cA, ty)) (hdg : decode cc pc = .ok (.arraylength, 1))
    (kk : W p l e Rm s m args below meth c H locs cells slots Q (F0 m (pc + 1) ls (.int (nI x.1) :: rest))) : W p l e Rm s m args below meth c H locs cells slots Q (F0 m pc ls (.ref (q k) :: rest)) :=
  va_alen hx hb hK hP k t0 (zw_at hk he) hty rfl hdg kk
theorem z_iret {sz : Nat} {post : Int32 → zU → Prop} (hx : p.tables.exec = Jvm.exec) (hb : c.code = cc) (hr : meth.sig.returnType = some .int) (hlocks : meth.locks = false) (hP : va_P D cl (zw n q K I R J) H) (hD : va_D (zA n q sz) (zw n q K I R J)) (hS : va_S (zA n q sz) s.heap H locs) {v : Int32} (hdg : decode cc pc = .ok (.ireturn, 1)) (hp : post v (I, R, J)) :
    W p l e Rm s m args below meth c H locs 0 0 (MQ below (va_Qi post (zB D cl n q K sz) (zA n q sz)) args s 0 0 (zA n q sz)) (F0 m pc ls [.int v]) :=
  W.iret (v := v) hx hb hr (fun t ht _ => ⟨⟨v, (I, R, J), rfl, hp, by rw [ht]; exact hP, hD⟩, hS.F ht⟩) hS.2.2 hdg hlocks
theorem z_zret {sz : Nat} {post : Int32 → zU → Prop} {ty : FieldType} (hx : p.tables.exec = Jvm.exec) (hb : c.code = cc) (hr : meth.sig.returnType = some ty) (hlocks : meth.locks = false) (hP : va_P D cl (zw n q K I R J) H) (hD : va_D (zA n q sz) (zw n q K I R J)) (hS : va_S (zA n q sz) s.heap H locs) {v : Int32} (hn : narrow ty (.int v) = .int v) (hdg : decode cc pc = .ok (.ireturn, 1)) (hp : post v (I, R, J)) :
    W p l e Rm s m args below meth c H locs 0 0 (MQ below (va_Qi post (zB D cl n q K sz) (zA n q sz)) args s 0 0 (zA n q sz)) (F0 m pc ls [.int v]) :=
  W.zret (v := v) hx hb hr hn (fun t ht _ => ⟨⟨v, (I, R, J), rfl, hp, by rw [ht]; exact hP, hD⟩, hS.F ht⟩) hS.2.2 hdg hlocks
theorem z_lret {sz : Nat} {post : Int64 → zU → Prop} (hx : p.tables.exec = Jvm.exec) (hb : c.code = cc) (hr : meth.sig.returnType = some .long) (hlocks : meth.locks = false) (hP : va_P D cl (zw n q K I R J) H) (hD : va_D (zA n q sz) (zw n q K I R J)) (hS : va_S (zA n q sz) s.heap H locs) {v : Int64} (hdg : decode cc pc = .ok (.lreturn, 1)) (hp : post v (I, R, J)) :
    W p l e Rm s m args below meth c H locs 0 0 (MQ below (va_Ql post (zB D cl n q K sz) (zA n q sz)) args s 0 0 (zA n q sz)) (F0 m pc ls [.long v]) :=
  W.lret (v := v) hx hb hr (fun t ht _ => ⟨⟨v, (I, R, J), rfl, hp, by rw [ht]; exact hP, hD⟩, hS.F ht⟩) hS.2.2 hdg hlocks
theorem z_vret {sz : Nat} {post : zU → Prop} (hx : p.tables.exec = Jvm.exec) (hb : c.code = cc) (hr : meth.sig.returnType = none) (hlocks : meth.locks = false) (hP : va_P D cl (zw n q K I R J) H) (hD : va_D (zA n q sz) (zw n q K I R J)) (hS : va_S (zA n q sz) s.heap H locs) (hdg : decode cc pc = .ok (.return_, 1)) (hp : post (I, R, J)) :
    W p l e Rm s m args below meth c H locs 0 0 (MQ below (va_Qv post (zB D cl n q K sz) (zA n q sz)) args s 0 0 (zA n q sz)) (F0 m pc ls []) :=
  W.vret hx hb hr (fun t ht _ => ⟨⟨(I, R, J), rfl, hp, by rw [ht]; exact hP, hD⟩, hS.F ht⟩) hS.2.2 hdg hlocks
end ZR
section ZC
variable {p : Program} {l : Launch} {e : Env} {Rm : Room} {s : State} {m : MethodId} {args : Array Value} {below : List Frame} {meth : Method} {c : Code} {H H0 : Heap} {locs : List Loc} {cells slots : Nat} {Q : State → Prop} {D : va_G} {cl : List vw_C} {tys : List (ClassId × FieldType)} {n : Nat} {q : Nat → Nat} {K : zKd} {I R : Nat → Nat → Int32} {J : Nat → Nat → Int64} {A : Nat → Prop} {cc : ByteArray} {pc : Nat} {ls : Array Slot} {rest st0 As : List Value}
  {y : MethodName} {bytes : ByteArray} {mL nL na index : Nat} {ret : Option FieldType} {rm : Room} {own C : String} {T : u_T} {N ci k : Nat} {fs : List Value}
theorem z_preV (hK : va_K D cl tys s) (hP : va_P D cl (zw n q K I R J) H) (hD : va_D A (zw n q K I R J)) (hk : k < n) (he : K k (I k) (R k) (J k) = .inr (ci, fs)) (hc : cl[ci]? = some (C, T, N)) : PreV s H C (q k) (zPc D cl tys n q K (.ref (q k) :: As) (I, R, J) H.size) As :=
  ⟨zPc_blind, va_recv hK hP hc (zw_at hk he), fun U hU hW => ⟨rfl, by rw [hU], by rw [hU]; exact hP, va_K.moved hW.alike hK, hD.weaken (fun _ _ _ _ => trivial)⟩⟩
theorem z_preS (hK : va_K D cl tys s) (hP : va_P D cl (zw n q K I R J) H) (hD : va_D A (zw n q K I R J)) : PreS s H (zPc D cl tys n q K As (I, R, J) H.size) As :=
  ⟨zPc_blind, fun U hU hW => ⟨rfl, by rw [hU], by rw [hU]; exact hP, va_K.moved hW.alike hK, hD.weaken (fun _ _ _ _ => trivial)⟩⟩
theorem z_runi {post : Int32 → zU → Prop} {a : Array Value} (hr : va_Run p l e Rm s m args below meth c H locs cells slots 0 0 (F0 m pc ls st0) rest (va_Qi post (zB D cl n q K H.size) (zA n q H.size) a) (zA n q H.size)) (hS : va_S A H0 H locs) (hAA : ∀ a, zA n q H.size a → A a)
    (kk : ∀ (r : Int32) (I1 R1 : Nat → Nat → Int32) (J1 : Nat → Nat → Int64) (H1 : Heap) (locs1 : List Loc), post r (I1, R1, J1) → va_P D cl (zw n q K I1 R1 J1) H1 → va_D A (zw n q K I1 R1 J1) → va_S A H0 H1 locs1 → H.size ≤ H1.size → (∀ a : Nat, a < H.size → ¬ zA n q H.size a → H1[a]? = H[a]?) → W p l e Rm s m args below meth c H1 locs1 cells slots Q (F0 m (pc + 3) ls (.int r :: rest))) : W p l e Rm s m args below meth c H locs cells slots Q (F0 m pc ls st0) :=
  va_calli hr hS (fun a _ h => hAA a h) hAA (fun r u t H1 locs1 ht _ hp hB hz hk hS1 => by
    obtain ⟨I1, R1, J1⟩ := u
    obtain ⟨hP1, hD1⟩ := hB
    rw [ht] at hP1
    exact kk r I1 R1 J1 H1 locs1 hp hP1 (hD1.weaken (fun _ x _ hx => hAA x.1 hx)) hS1 hz hk)
theorem z_runl {post : Int64 → zU → Prop} {a : Array Value} (hr : va_Run p l e Rm s m args below meth c H locs cells slots 0 0 (F0 m pc ls st0) rest (va_Ql post (zB D cl n q K H.size) (zA n q H.size) a) (zA n q H.size)) (hS : va_S A H0 H locs) (hAA : ∀ a, zA n q H.size a → A a)
    (kk : ∀ (r : Int64) (I1 R1 : Nat → Nat → Int32) (J1 : Nat → Nat → Int64) (H1 : Heap) (locs1 : List Loc), post r (I1, R1, J1) → va_P D cl (zw n q K I1 R1 J1) H1 → va_D A (zw n q K I1 R1 J1) → va_S A H0 H1 locs1 → H.size ≤ H1.size → (∀ a : Nat, a < H.size → ¬ zA n q H.size a → H1[a]? = H[a]?) → W p l e Rm s m args below meth c H1 locs1 cells slots Q (F0 m (pc + 3) ls (.long r :: rest))) : W p l e Rm s m args below meth c H locs cells slots Q (F0 m pc ls st0) :=
  va_calll hr hS (fun a _ h => hAA a h) hAA (fun r u t H1 locs1 ht _ hp hB hz hk hS1 => by
    obtain ⟨I1, R1, J1⟩ := u
    obtain ⟨hP1, hD1⟩ := hB
    rw [ht] at hP1
    exact kk r I1 R1 J1 H1 locs1 hp hP1 (hD1.weaken (fun _ x _ hx => hAA x.1 hx)) hS1 hz hk)
theorem z_runv {post : zU → Prop} {a : Array Value} (hr : va_Run p l e Rm s m args below meth c H locs cells slots 0 0 (F0 m pc ls st0) rest (va_Qv post (zB D cl n q K H.size) (zA n q H.size) a) (zA n q H.size)) (hS : va_S A H0 H locs) (hAA : ∀ a, zA n q H.size a → A a)
    (kk : ∀ (I1 R1 : Nat → Nat → Int32) (J1 : Nat → Nat → Int64) (H1 : Heap) (locs1 : List Loc), post (I1, R1, J1) → va_P D cl (zw n q K I1 R1 J1) H1 → va_D A (zw n q K I1 R1 J1) → va_S A H0 H1 locs1 → H.size ≤ H1.size → (∀ a : Nat, a < H.size → ¬ zA n q H.size a → H1[a]? = H[a]?) → W p l e Rm s m args below meth c H1 locs1 cells slots Q (F0 m (pc + 3) ls rest)) : W p l e Rm s m args below meth c H locs cells slots Q (F0 m pc ls st0) :=
  va_callv hr hS (fun a _ h => hAA a h) hAA (fun u t H1 locs1 ht _ hp hB hz hk hS1 => by
    obtain ⟨I1, R1, J1⟩ := u
    obtain ⟨hP1, hD1⟩ := hB
    rw [ht] at hP1
    exact kk I1 R1 J1 H1 locs1 hp hP1 (hD1.weaken (fun _ x _ hx => hAA x.1 hx)) hS1 hz hk)
/-- a call of a method of the world's cell k, that answers an int -/
theorem z_callVi {post : Int32 → zU → Prop} (hx : p.tables.exec = Jvm.exec) (hb : c.code = cc) (hml : c.maxLocals = nL) (hown : s.vm.findClass own = some m.cls) (ht : ∀ w ∈ zT, w.before args s = true) (hM : zMi l D cl tys n q K y bytes mL ret rm (.ref (q k) :: As) (I, R, J) post) (hl : Cond.methodLink own index y ∈ zT) (hm : Cond.instanceMethod y ∈ zT ∧ Cond.selects C y y ∈ zT ∧ Cond.initialized y.cls ∈ zT ∧ Cond.code y bytes mL ret ∈ zT) (hrm : rm.cells = 0 ∧ rm.slots = 0) (hna : As.length = na)
    (hd : y.cls ≠ "java/lang/invoke/MethodHandle" ∧ y.cls ≠ "java/lang/invoke/VarHandle" ∧ (parseMethodDescriptor y.desc).map (fun d => d.parameters.length) = some na) (hR : rm.frames + 1 ≤ Rm.frames ∧ 8 + (mL + 11) + rm.locals ≤ Rm.locals) (hk : k < n) (he : K k (I k) (R k) (J k) = .inr (ci, fs)) (hc : cl[ci]? = some (C, T, N)) (hK : va_K D cl tys s) (hP : va_P D cl (zw n q K I R J) H) (hD : va_D A (zw n q K I R J)) (hS : va_S A H0 H locs) (hA : ∀ a, H0.size ≤ a → A a) (hsz : ls.size = nL) (hst : st0 = As.reverse ++ .ref (q k) :: rest) (hW : (rest.map fun v => v.category).sum ≤ 8) (hf : cells + 0 ≤ Rm.cells ∧ slots + 0 ≤ Rm.slots) (hdg : decode cc pc = .ok (.invokevirtual index, 3))
    (kk : ∀ (r : Int32) (I1 R1 : Nat → Nat → Int32) (J1 : Nat → Nat → Int64) (H1 : Heap) (locs1 : List Loc), post r (I1, R1, J1) → va_P D cl (zw n q K I1 R1 J1) H1 → va_D A (zw n q K I1 R1 J1) → va_S A H0 H1 locs1 → H.size ≤ H1.size → (∀ a : Nat, a < H.size → ¬ zA n q H.size a → H1[a]? = H[a]?) → W p l e Rm s m args below meth c H1 locs1 cells slots Q (F0 m (pc + 3) ls (.int r :: rest))) : W p l e Rm s m args below meth c H locs cells slots Q (F0 m pc ls st0) := by
  subst hst
  obtain ⟨rf, rc, rs, rl⟩ := rm
  obtain ⟨h1, h2⟩ := hrm
  cases h1
  cases h2
  exact z_runi (va_runV (As := As) (rest := rest) ⟨hx, hb, hml, hown, ht⟩ (hM H.size) (z_cwV na ht hl hm hd hR) (z_preV hK hP hD hk he hc) rfl hna hsz rfl (lv_room hW) hdg hf) hS (zA_of hD hS hA) kk
theorem z_callVv {post : zU → Prop} (hx : p.tables.exec = Jvm.exec) (hb : c.code = cc) (hml : c.maxLocals = nL) (hown : s.vm.findClass own = some m.cls) (ht : ∀ w ∈ zT, w.before args s = true) (hM : zMv l D cl tys n q K y bytes mL ret rm (.ref (q k) :: As) (I, R, J) post) (hl : Cond.methodLink own index y ∈ zT) (hm : Cond.instanceMethod y ∈ zT ∧ Cond.selects C y y ∈ zT ∧ Cond.initialized y.cls ∈ zT ∧ Cond.code y bytes mL ret ∈ zT) (hrm : rm.cells = 0 ∧ rm.slots = 0) (hna : As.length = na)
    (hd : y.cls ≠ "java/lang/invoke/MethodHandle" ∧ y.cls ≠ "java/lang/invoke/VarHandle" ∧ (parseMethodDescriptor y.desc).map (fun d => d.parameters.length) = some na) (hR : rm.frames + 1 ≤ Rm.frames ∧ 8 + (mL + 11) + rm.locals ≤ Rm.locals) (hk : k < n) (he : K k (I k) (R k) (J k) = .inr (ci, fs)) (hc : cl[ci]? = some (C, T, N)) (hK : va_K D cl tys s) (hP : va_P D cl (zw n q K I R J) H) (hD : va_D A (zw n q K I R J)) (hS : va_S A H0 H locs) (hA : ∀ a, H0.size ≤ a → A a) (hsz : ls.size = nL) (hst : st0 = As.reverse ++ .ref (q k) :: rest) (hW : (rest.map fun v => v.category).sum ≤ 8) (hf : cells + 0 ≤ Rm.cells ∧ slots + 0 ≤ Rm.slots) (hdg : decode cc pc = .ok (.invokevirtual index, 3))
    (kk : ∀ (I1 R1 : Nat → Nat → Int32) (J1 : Nat → Nat → Int64) (H1 : Heap) (locs1 : List Loc), post (I1, R1, J1) → va_P D cl (zw n q K I1 R1 J1) H1 → va_D A (zw n q K I1 R1 J1) → va_S A H0 H1 locs1 → H.size ≤ H1.size → (∀ a : Nat, a < H.size → ¬ zA n q H.size a → H1[a]? = H[a]?) → W p l e Rm s m args below meth c H1 locs1 cells slots Q (F0 m (pc + 3) ls rest)) : W p l e Rm s m args below meth c H locs cells slots Q (F0 m pc ls st0) := by
  subst hst
  obtain ⟨rf, rc, rs, rl⟩ := rm
  obtain ⟨h1, h2⟩ := hrm
  cases h1
  cases h2
  exact z_runv (va_runV (As := As) (rest := rest) ⟨hx, hb, hml, hown, ht⟩ (hM H.size) (z_cwV na ht hl hm hd hR) (z_preV hK hP hD hk he hc) rfl hna hsz rfl (lv_room hW) hdg hf) hS (zA_of hD hS hA) kk
theorem z_callVl {post : Int64 → zU → Prop} (hx : p.tables.exec = Jvm.exec) (hb : c.code = cc) (hml : c.maxLocals = nL) (hown : s.vm.findClass own = some m.cls) (ht : ∀ w ∈ zT, w.before args s = true) (hM : zMl l D cl tys n q K y bytes mL ret rm (.ref (q k) :: As) (I, R, J) post) (hl : Cond.methodLink own index y ∈ zT) (hm : Cond.instanceMethod y ∈ zT ∧ Cond.selects C y y ∈ zT ∧ Cond.initialized y.cls ∈ zT ∧ Cond.code y bytes mL ret ∈ zT) (hrm : rm.cells = 0 ∧ rm.slots = 0) (hna : As.length = na)
    (hd : y.cls ≠ "java/lang/invoke/MethodHandle" ∧ y.cls ≠ "java/lang/invoke/VarHandle" ∧ (parseMethodDescriptor y.desc).map (fun d => d.parameters.length) = some na) (hR : rm.frames + 1 ≤ Rm.frames ∧ 8 + (mL + 11) + rm.locals ≤ Rm.locals) (hk : k < n) (he : K k (I k) (R k) (J k) = .inr (ci, fs)) (hc : cl[ci]? = some (C, T, N)) (hK : va_K D cl tys s) (hP : va_P D cl (zw n q K I R J) H) (hD : va_D A (zw n q K I R J)) (hS : va_S A H0 H locs) (hA : ∀ a, H0.size ≤ a → A a) (hsz : ls.size = nL) (hst : st0 = As.reverse ++ .ref (q k) :: rest) (hW : (rest.map fun v => v.category).sum ≤ 8) (hf : cells + 0 ≤ Rm.cells ∧ slots + 0 ≤ Rm.slots) (hdg : decode cc pc = .ok (.invokevirtual index, 3))
    (kk : ∀ (r : Int64) (I1 R1 : Nat → Nat → Int32) (J1 : Nat → Nat → Int64) (H1 : Heap) (locs1 : List Loc), post r (I1, R1, J1) → va_P D cl (zw n q K I1 R1 J1) H1 → va_D A (zw n q K I1 R1 J1) → va_S A H0 H1 locs1 → H.size ≤ H1.size → (∀ a : Nat, a < H.size → ¬ zA n q H.size a → H1[a]? = H[a]?) → W p l e Rm s m args below meth c H1 locs1 cells slots Q (F0 m (pc + 3) ls (.long r :: rest))) : W p l e Rm s m args below meth c H locs cells slots Q (F0 m pc ls st0) := by
  subst hst
  obtain ⟨rf, rc, rs, rl⟩ := rm
  obtain ⟨h1, h2⟩ := hrm
  cases h1
  cases h2
  exact z_runl (va_runV (As := As) (rest := rest) ⟨hx, hb, hml, hown, ht⟩ (hM H.size) (z_cwV na ht hl hm hd hR) (z_preV hK hP hD hk he hc) rfl hna hsz rfl (lv_room hW) hdg hf) hS (zA_of hD hS hA) kk
theorem z_callSi {post : Int32 → zU → Prop} (hx : p.tables.exec = Jvm.exec) (hb : c.code = cc) (hml : c.maxLocals = nL) (hown : s.vm.findClass own = some m.cls) (ht : ∀ w ∈ zT, w.before args s = true) (hM : zMi l D cl tys n q K y bytes mL ret rm As (I, R, J) post) (hl : Cond.methodLink own index y ∈ zT) (hm : Cond.static y ∈ zT ∧ Cond.initialized y.cls ∈ zT ∧ Cond.code y bytes mL ret ∈ zT) (hrm : rm.cells = 0 ∧ rm.slots = 0) (hna : As.length = na)
    (hd : y.cls ≠ "java/lang/invoke/MethodHandle" ∧ y.cls ≠ "java/lang/invoke/VarHandle" ∧ (parseMethodDescriptor y.desc).map (fun d => d.parameters.length) = some na) (hR : rm.frames + 1 ≤ Rm.frames ∧ 8 + (mL + 11) + rm.locals ≤ Rm.locals) (hK : va_K D cl tys s) (hP : va_P D cl (zw n q K I R J) H) (hD : va_D A (zw n q K I R J)) (hS : va_S A H0 H locs) (hA : ∀ a, H0.size ≤ a → A a) (hsz : ls.size = nL) (hst : st0 = As.reverse ++ rest) (hW : (rest.map fun v => v.category).sum ≤ 8) (hf : cells + 0 ≤ Rm.cells ∧ slots + 0 ≤ Rm.slots) (hdg : decode cc pc = .ok (.invokestatic index, 3))
    (kk : ∀ (r : Int32) (I1 R1 : Nat → Nat → Int32) (J1 : Nat → Nat → Int64) (H1 : Heap) (locs1 : List Loc), post r (I1, R1, J1) → va_P D cl (zw n q K I1 R1 J1) H1 → va_D A (zw n q K I1 R1 J1) → va_S A H0 H1 locs1 → H.size ≤ H1.size → (∀ a : Nat, a < H.size → ¬ zA n q H.size a → H1[a]? = H[a]?) → W p l e Rm s m args below meth c H1 locs1 cells slots Q (F0 m (pc + 3) ls (.int r :: rest))) : W p l e Rm s m args below meth c H locs cells slots Q (F0 m pc ls st0) := by
  subst hst
  obtain ⟨rf, rc, rs, rl⟩ := rm
  obtain ⟨h1, h2⟩ := hrm
  cases h1
  cases h2
  exact z_runi (va_runS (As := As) (rest := rest) ⟨hx, hb, hml, hown, ht⟩ (hM H.size) (z_cwS na ht hl hm hd hR) (z_preS hK hP hD) rfl hna hsz rfl (lv_room hW) hdg hf) hS (zA_of hD hS hA) kk
theorem z_callSl {post : Int64 → zU → Prop} (hx : p.tables.exec = Jvm.exec) (hb : c.code = cc) (hml : c.maxLocals = nL) (hown : s.vm.findClass own = some m.cls) (ht : ∀ w ∈ zT, w.before args s = true) (hM : zMl l D cl tys n q K y bytes mL ret rm As (I, R, J) post) (hl : Cond.methodLink own index y ∈ zT) (hm : Cond.static y ∈ zT ∧ Cond.initialized y.cls ∈ zT ∧ Cond.code y bytes mL ret ∈ zT) (hrm : rm.cells = 0 ∧ rm.slots = 0) (hna : As.length = na)
    (hd : y.cls ≠ "java/lang/invoke/MethodHandle" ∧ y.cls ≠ "java/lang/invoke/VarHandle" ∧ (parseMethodDescriptor y.desc).map (fun d => d.parameters.length) = some na) (hR : rm.frames + 1 ≤ Rm.frames ∧ 8 + (mL + 11) + rm.locals ≤ Rm.locals) (hK : va_K D cl tys s) (hP : va_P D cl (zw n q K I R J) H) (hD : va_D A (zw n q K I R J)) (hS : va_S A H0 H locs) (hA : ∀ a, H0.size ≤ a → A a) (hsz : ls.size = nL) (hst : st0 = As.reverse ++ rest) (hW : (rest.map fun v => v.category).sum ≤ 8) (hf : cells + 0 ≤ Rm.cells ∧ slots + 0 ≤ Rm.slots) (hdg : decode cc pc = .ok (.invokestatic index, 3))
    (kk : ∀ (r : Int64) (I1 R1 : Nat → Nat → Int32) (J1 : Nat → Nat → Int64) (H1 : Heap) (locs1 : List Loc), post r (I1, R1, J1) → va_P D cl (zw n q K I1 R1 J1) H1 → va_D A (zw n q K I1 R1 J1) → va_S A H0 H1 locs1 → H.size ≤ H1.size → (∀ a : Nat, a < H.size → ¬ zA n q H.size a → H1[a]? = H[a]?) → W p l e Rm s m args below meth c H1 locs1 cells slots Q (F0 m (pc + 3) ls (.long r :: rest))) : W p l e Rm s m args below meth c H locs cells slots Q (F0 m pc ls st0) := by
  subst hst
  obtain ⟨rf, rc, rs, rl⟩ := rm
  obtain ⟨h1, h2⟩ := hrm
  cases h1
  cases h2
  exact z_runl (va_runS (As := As) (rest := rest) ⟨hx, hb, hml, hown, ht⟩ (hM H.size) (z_cwS na ht hl hm hd hR) (z_preS hK hP hD) rfl hna hsz rfl (lv_room hW) hdg hf) hS (zA_of hD hS hA) kk
theorem z_callSv {post : zU → Prop} (hx : p.tables.exec = Jvm.exec) (hb : c.code = cc) (hml : c.maxLocals = nL) (hown : s.vm.findClass own = some m.cls) (ht : ∀ w ∈ zT, w.before args s = true) (hM : zMv l D cl tys n q K y bytes mL ret rm As (I, R, J) post) (hl : Cond.methodLink own index y ∈ zT) (hm : Cond.static y ∈ zT ∧ Cond.initialized y.cls ∈ zT ∧ Cond.code y bytes mL ret ∈ zT) (hrm : rm.cells = 0 ∧ rm.slots = 0) (hna : As.length = na)
    (hd : y.cls ≠ "java/lang/invoke/MethodHandle" ∧ y.cls ≠ "java/lang/invoke/VarHandle" ∧ (parseMethodDescriptor y.desc).map (fun d => d.parameters.length) = some na) (hR : rm.frames + 1 ≤ Rm.frames ∧ 8 + (mL + 11) + rm.locals ≤ Rm.locals) (hK : va_K D cl tys s) (hP : va_P D cl (zw n q K I R J) H) (hD : va_D A (zw n q K I R J)) (hS : va_S A H0 H locs) (hA : ∀ a, H0.size ≤ a → A a) (hsz : ls.size = nL) (hst : st0 = As.reverse ++ rest) (hW : (rest.map fun v => v.category).sum ≤ 8) (hf : cells + 0 ≤ Rm.cells ∧ slots + 0 ≤ Rm.slots) (hdg : decode cc pc = .ok (.invokestatic index, 3))
    (kk : ∀ (I1 R1 : Nat → Nat → Int32) (J1 : Nat → Nat → Int64) (H1 : Heap) (locs1 : List Loc), post (I1, R1, J1) → va_P D cl (zw n q K I1 R1 J1) H1 → va_D A (zw n q K I1 R1 J1) → va_S A H0 H1 locs1 → H.size ≤ H1.size → (∀ a : Nat, a < H.size → ¬ zA n q H.size a → H1[a]? = H[a]?) → W p l e Rm s m args below meth c H1 locs1 cells slots Q (F0 m (pc + 3) ls rest)) : W p l e Rm s m args below meth c H locs cells slots Q (F0 m pc ls st0) := by
  subst hst
  obtain ⟨rf, rc, rs, rl⟩ := rm
  obtain ⟨h1, h2⟩ := hrm
  cases h1
  cases h2
  exact z_runv (va_runS (As := As) (rest := rest) ⟨hx, hb, hml, hown, ht⟩ (hM H.size) (z_cwS na ht hl hm hd hR) (z_preS hK hP hD) rfl hna hsz rfl (lv_room hW) hdg hf) hS (zA_of hD hS hA) kk
end ZC
theorem z_ltT {x y : Int32} (h : x < y) : x.toInt < y.toInt := Int32.lt_iff_toInt_lt.mp h
theorem z_ltF {x y : Int32} (h : ¬ x < y) : y.toInt ≤ x.toInt := Int.not_lt.mp (fun g => h (Int32.lt_iff_toInt_lt.mpr g))
theorem z_leT {x y : Int32} (h : x ≤ y) : x.toInt ≤ y.toInt := Int32.le_iff_toInt_le.mp h
theorem z_leF {x y : Int32} (h : ¬ x ≤ y) : y.toInt < x.toInt := Int.not_le.mp (fun g => h (Int32.le_iff_toInt_le.mpr g))
theorem z_eqT {x y : Int32} (h : x = y) : x.toInt = y.toInt := congrArg Int32.toInt h
theorem z_eqF {x y : Int32} (h : ¬ x = y) : x.toInt ≠ y.toInt := fun g => h (Int32.toInt_inj.mp g)
theorem z_lltT {x y : Int64} (h : x < y) : x.toInt < y.toInt := Int64.lt_iff_toInt_lt.mp h
theorem z_lltF {x y : Int64} (h : ¬ x < y) : y.toInt ≤ x.toInt := Int.not_lt.mp (fun g => h (Int64.lt_iff_toInt_lt.mpr g))
theorem z_i2l (x : Int32) : x.toInt64.toInt = x.toInt := Int32.toInt_toInt64 x
theorem z_nI (n : Nat) (h : n < 2 ^ 31) : (nI n).toInt = (n : Int) := nI_toInt h
theorem z_of {x : Int32} (h0 : 0 ≤ x.toInt) {n : Nat} (h : x.toInt = n) : x = nI n := by
  apply Int32.toInt_inj.mp
  have : n < 2 ^ 31 := by
    have := Int32.toInt_lt x
    omega
  rw [nI_toInt this, h]
theorem z_ex {x : Int32} {N : Nat} (h0 : 0 ≤ x.toInt) (h : x.toInt < N) : ∃ n : Nat, n < N ∧ x = nI n := ⟨x.toInt.toNat, by omega, z_of h0 (by omega)⟩
theorem z_lleT {x y : Int64} (h : x ≤ y) : x.toInt ≤ y.toInt := Int64.le_iff_toInt_le.mp h
theorem z_lleF {x y : Int64} (h : ¬ x ≤ y) : y.toInt < x.toInt := Int.not_le.mp (fun g => h (Int64.le_iff_toInt_le.mpr g))
theorem z_leqT {x y : Int64} (h : x = y) : x.toInt = y.toInt := congrArg Int64.toInt h
theorem z_leqF {x y : Int64} (h : ¬ x = y) : x.toInt ≠ y.toInt := fun g => h (Int64.toInt_inj.mp g)
/-- another world's cells, when a method has worked on this one's alone -/
theorem z_frame {D : va_G} {cl : List vw_C} {n n' : Nat} {q q' : Nat → Nat} {K' : zKd} {I' R' : Nat → Nat → Int32} {J' : Nat → Nat → Int64} {H H1 : Heap} (hP : va_P D cl (zw n' q' K' I' R' J') H) (hdis : ∀ i, i < n → ∀ j, j < n' → q i ≠ q' j) (hk : ∀ a : Nat, a < H.size → ¬ zA n q H.size a → H1[a]? = H[a]?) : va_P D cl (zw n' q' K' I' R' J') H1 := by
  intro k x hx
  have h := hP k x hx
  obtain ⟨h1, h2⟩ := zw_inv hx
  have hlt := h.lt
  refine h.kept (hk _ hlt (fun g => ?_))
  rcases g with ⟨i, hi, e⟩ | g
  · rw [h2] at e
    exact hdis i hi k h1 e
  · exact absurd hlt (Nat.not_lt.mpr g)
theorem z_vin {x : Int32} {N : Nat} (h0 : 0 ≤ x.toInt) (h : x.toInt < N) : vp_in x N := vp_in_iff.mpr ⟨h0, h⟩
theorem z_all {g : Nat → Int32} {f : Nat} {v c : Int32} (hg : ∀ j, g j = c) (hv : v = c) : ∀ j, (bif Nat.beq j f then v else g j) = c := by
  intro j
  cases Nat.beq j f
  · exact hg j
  · exact hv
