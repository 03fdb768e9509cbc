/-! ===== z: constructors: the object's own cell comes in, what it makes comes behind it ===== -/
abbrev zQ : Type := (Nat → Nat) × (Nat → ClassId)
def zCt (l : Launch) (D : va_G) (cl : List vw_C) (y : MethodName) (cc : ByteArray) (mL : Nat) (rm : Room) (mc ms h0 : Nat) (e0 : va_E) (av : List Value) (Wd : zQ → va_W) (Ty : zQ → List (ClassId × FieldType)) (Nn : State → Prop) : Prop :=
  ∀ sz : Nat, Met l y (Cond.code y cc mL none :: zT) rm (va_Pc av (fun U => U.heap.size = sz ∧ va_P D cl [(h0, e0)] U.heap ∧ va_K D cl [] U ∧ va_D (fun _ => True) [(h0, e0)] ∧ Nn U)) (va_Qv (fun _ : zQ => True) (fun u t => va_P D cl (Wd u) t.heap ∧ va_K D cl (Ty u) t ∧ va_D (va_A [(h0, e0)] sz) (Wd u)) (va_A [(h0, e0)] sz)) mc ms (va_A [(h0, e0)] sz)
theorem z_app_l {ws wr : va_W} {k : Nat} {x : Nat × va_E} (h : ws[k]? = some x) : (ws ++ wr)[k]? = some x := by
  have hk : k < ws.length := (List.getElem?_eq_some_iff.mp h).1
  rw [List.getElem?_append_left hk]; exact h
theorem z_app_r {ws wr : va_W} {k : Nat} {x : Nat × va_E} (h : wr[k]? = some x) : (ws ++ wr)[ws.length + k]? = some x := by
  rw [List.getElem?_append_right (Nat.le_add_right _ _), Nat.add_sub_cancel_left]; exact h
theorem z_app_or {ws wr : va_W} {k : Nat} {x : Nat × va_E} (h : (ws ++ wr)[k]? = some x) : ws[k]? = some x ∨ ∃ j : Nat, wr[j]? = some x := by
  rcases Nat.lt_or_ge k ws.length with hk | hk
  · rw [List.getElem?_append_left hk] at h; exact Or.inl h
  · rw [List.getElem?_append_right hk] at h; exact Or.inr ⟨_, h⟩
theorem z_P_l {D : va_G} {cl : List vw_C} {a b : va_W} {H : Heap} (h : va_P D cl (a ++ b) H) : va_P D cl a H := fun k x hx => h k x (z_app_l hx)
theorem z_P_r {D : va_G} {cl : List vw_C} {a b : va_W} {H : Heap} (h : va_P D cl (a ++ b) H) : va_P D cl b H := fun k x hx => h (a.length + k) x (z_app_r hx)
theorem z_P_app {D : va_G} {cl : List vw_C} {a b : va_W} {H : Heap} (ha : va_P D cl a H) (hb : va_P D cl b H) : va_P D cl (a ++ b) H := fun k x hx => (z_app_or hx).elim (ha k x) (fun ⟨j, hj⟩ => hb j x hj)
theorem z_D_l {A : Nat → Prop} {a b : va_W} (h : va_D A (a ++ b)) : va_D A a := ⟨fun i j p q hi hj e => h.1 i j p q (z_app_l hi) (z_app_l hj) e, fun k x hx => h.2 k x (z_app_l hx)⟩
theorem z_D_r {A : Nat → Prop} {a b : va_W} (h : va_D A (a ++ b)) : va_D A b := ⟨fun i j p q hi hj e => Nat.add_left_cancel (h.1 _ _ p q (z_app_r hi) (z_app_r hj) e), fun k x hx => h.2 _ x (z_app_r hx)⟩
theorem z_D_ne {A : Nat → Prop} {a b : va_W} (h : va_D A (a ++ b)) {i j : Nat} {p q : Nat × va_E} (hi : a[i]? = some p) (hj : b[j]? = some q) : p.1 ≠ q.1 := fun e => by
  have := h.1 i (a.length + j) p q (z_app_l hi) (z_app_r hj) e
  have hk : i < a.length := (List.getElem?_eq_some_iff.mp hi).1
  omega
/-- the rest of a world beside what a constructor made of one of its cells -/
theorem z_join {A : Nat → Prop} {D : va_G} {cl : List vw_C} {wr w1 : va_W} {h0 : Nat} {e0 : va_E} {H H1 : Heap} (hP : va_P D cl (wr ++ [(h0, e0)]) H) (hD : va_D A (wr ++ [(h0, e0)])) (hk : ∀ q : Nat, q < H.size → ¬ va_A [(h0, e0)] H.size q → H1[q]? = H[q]?) (hF : ∀ q, va_A [(h0, e0)] H.size q → A q) (hP1 : va_P D cl w1 H1) (hD1 : va_D (va_A [(h0, e0)] H.size) w1) : va_P D cl (wr ++ w1) H1 ∧ va_D A (wr ++ w1) := by
  have hin : ∀ q, va_A [(h0, e0)] H.size q → q = h0 ∨ H.size ≤ q := by
    intro q h
    rcases h with ⟨k, e, h⟩ | h
    · match k, h with
      | 0, h => exact Or.inl (by cases h; rfl)
      | k + 1, h => simp at h
    · exact Or.inr h
  have hne : ∀ (k : Nat) (x : Nat × va_E), wr[k]? = some x → x.1 ≠ h0 ∧ x.1 < H.size := by
    intro k x hx
    exact ⟨z_D_ne (b := [(h0, e0)]) hD hx (j := 0) rfl, (z_P_l hP k x hx).lt⟩
  refine ⟨z_P_app (fun k x hx => ?_) hP1, va_D.app (z_D_l hD) (hD1.weaken (fun _ x _ h => hF x.1 h)) (fun i j p q hi hj e => ?_)⟩
  · obtain ⟨h1, h2⟩ := hne k x hx
    refine (z_P_l hP k x hx).kept (hk _ h2 (fun g => ?_))
    rcases hin _ g with g | g
    · exact h1 g
    · exact absurd h2 (Nat.not_lt.mpr g)
  · obtain ⟨h1, h2⟩ := hne i p hi
    rcases hin _ (hD1.2 j q hj) with g | g
    · exact h1 (e.trans g)
    · rw [e] at h2
      exact absurd h2 (Nat.not_lt.mpr g)
section ZN
variable {p : Program} {l : Launch} {e : Env} {Rm : Room} {s : State} {m : MethodId} {args : Array Value} {below : List Frame} {meth : Method} {c : Code} {H H0 : Heap} {locs : List Loc} {cells slots : Nat} {Q : State → Prop} {D : va_G} {cl : List vw_C} {tys : List (ClassId × FieldType)} {A : Nat → Prop} {cc : ByteArray} {pc : Nat} {ls : Array Slot} {rest st0 As : List Value}
  {y : MethodName} {bytes : ByteArray} {mL nL na index mc ms h0 : Nat} {rm : Room} {own host : String} {e0 : va_E} {Wd : zQ → va_W} {Ty : zQ → List (ClassId × FieldType)} {Nn : State → Prop} {wr : va_W}
theorem z_ctrun (hr : va_Run p l e Rm s m args below meth c H locs cells slots mc ms (F0 m pc ls st0) rest (va_Qv (fun _ : zQ => True) (fun u t => va_P D cl (Wd u) t.heap ∧ va_K D cl (Ty u) t ∧ va_D (va_A [(h0, e0)] H.size) (Wd u)) (va_A [(h0, e0)] H.size) (Value.ref h0 :: As).toArray) (va_A [(h0, e0)] H.size)) (hK : va_K D cl tys s) (hP : va_P D cl (wr ++ [(h0, e0)]) H) (hD : va_D A (wr ++ [(h0, e0)])) (hS : va_S A H0 H locs) (hA : ∀ q, H0.size ≤ q → A q)
    (kk : ∀ (u : zQ) (H1 : Heap) (locs1 : List Loc), va_K D cl (tys ++ Ty u) s → va_P D cl (wr ++ Wd u) H1 → va_D A (wr ++ Wd u) → va_S A H0 H1 locs1 → W p l e Rm s m args below meth c H1 locs1 (cells + mc) (slots + ms) Q (F0 m (pc + 3) ls rest)) : W p l e Rm s m args below meth c H locs cells slots Q (F0 m pc ls st0) := by
  have hF : ∀ q, va_A [(h0, e0)] H.size q → A q := by
    intro q h
    rcases h with ⟨k, x, h⟩ | h
    · exact hD.2 _ _ (z_app_r (ws := wr) h)
    · exact hA q (Nat.le_trans hS.1 h)
  refine va_callv hr hS (fun q _ h => hF q h) hF (fun u t H1 locs1 ht hvm _ hB hz1 hk1 hS1 => ?_)
  obtain ⟨hP1, hK1, hD1⟩ := hB
  rw [ht] at hP1
  obtain ⟨hP2, hD2⟩ := z_join hP hD hk1 hF hP1 hD1
  exact kk u H1 locs1 (hK.app (va_K.moved hvm.symm hK1)) hP2 hD2 hS1
theorem z_ctpre (hK : va_K D cl tys s) (hP : va_P D cl (wr ++ [(h0, e0)]) H) (hD : va_D A (wr ++ [(h0, e0)])) (hN : Nn s) (hNw : ∀ U : State, s.WarmedH U.vm → Nn U) (hNc : ∀ (a : Array Value) (U : State) (g : JFrame) (mk : MethodId), Nn U → Nn (U.calling g mk a)) : PreS s H (va_Pc (.ref h0 :: As) (fun U => U.heap.size = H.size ∧ va_P D cl [(h0, e0)] U.heap ∧ va_K D cl [] U ∧ va_D (fun _ => True) [(h0, e0)] ∧ Nn U)) (.ref h0 :: As) :=
  ⟨fun a U g mk h => by
      obtain ⟨q0, q1, qP, qK, qD, qN⟩ := h
      exact ⟨q0, q1, qP, va_K.moved (u := U) (U := U.calling g mk a) (Vm.Alike.refl U.vm) qK, qD, hNc a U g mk qN⟩,
    fun U hU hW => ⟨rfl, by rw [hU], by rw [hU]; exact z_P_r hP, va_K.moved hW.alike (hK.sub (tys' := []) [] rfl), (z_D_r hD).weaken (fun _ _ _ _ => trivial), hNw U hW⟩⟩
theorem z_ctN (hx : p.tables.exec = Jvm.exec) (hb : c.code = cc) (hml : c.maxLocals = nL) (hown : s.vm.findClass own = some m.cls) (ht : ∀ w ∈ zT, w.before args s = true) (hM : zCt l D cl y bytes mL rm mc ms h0 e0 (.ref h0 :: As) Wd Ty Nn) (hl : va_Nw (.methodLinkNest own index y host) s) (hm : Cond.instanceMethod y ∈ zT ∧ Cond.initialized y.cls ∈ zT ∧ Cond.code y bytes mL none ∈ zT) (hy : y.name = "<init>") (hrm : rm.cells = mc ∧ rm.slots = ms) (hna : As.length = na)
    (hd : y.cls ≠ "java/lang/invoke/MethodHandle" ∧ y.cls ≠ "java/lang/invoke/VarHandle" ∧ (parseMethodDescriptor y.desc).map (fun d => d.parameters.length) = some na) (hR : rm.frames + 1 ≤ Rm.frames ∧ 8 + (mL + 11) + rm.locals ≤ Rm.locals) (hK : va_K D cl tys s) (hP : va_P D cl (wr ++ [(h0, e0)]) H) (hD : va_D A (wr ++ [(h0, e0)])) (hS : va_S A H0 H locs) (hA : ∀ q, H0.size ≤ q → A q) (hN : Nn s) (hNw : ∀ U : State, s.WarmedH U.vm → Nn U) (hNc : ∀ (a : Array Value) (U : State) (g : JFrame) (mk : MethodId), Nn U → Nn (U.calling g mk a)) (hsz : ls.size = nL) (hst : st0 = As.reverse ++ .ref h0 :: rest) (hW : (rest.map fun v => v.category).sum ≤ 8) (hf : cells + mc ≤ Rm.cells ∧ slots + ms ≤ Rm.slots) (hdg : decode cc pc = .ok (.invokespecial index, 3))
    (kk : ∀ (u : zQ) (H1 : Heap) (locs1 : List Loc), va_K D cl (tys ++ Ty u) s → va_P D cl (wr ++ Wd u) H1 → va_D A (wr ++ Wd u) → va_S A H0 H1 locs1 → W p l e Rm s m args below meth c H1 locs1 (cells + mc) (slots + ms) Q (F0 m (pc + 3) ls rest)) : W p l e Rm s m args below meth c H locs cells slots Q (F0 m pc ls st0) := by
  subst hst
  exact z_ctrun (va_runIN (As := As) (rest := rest) ⟨hx, hb, hml, hown, ht⟩ (hM H.size) ⟨va_cnB na ht (z_GC hm.2.2) rfl hrm.1 hrm.2 hl (ht _ hm.2.1) hd hR, hy, ht _ hm.1⟩ (z_ctpre hK hP hD hN hNw hNc) rfl hna hsz rfl (lv_room hW) hdg hf) hK hP hD hS hA kk
theorem z_ctI (hx : p.tables.exec = Jvm.exec) (hb : c.code = cc) (hml : c.maxLocals = nL) (hown : s.vm.findClass own = some m.cls) (ht : ∀ w ∈ zT, w.before args s = true) (hM : zCt l D cl y bytes mL rm mc ms h0 e0 (.ref h0 :: As) Wd Ty Nn) (hl : Cond.methodLink own index y ∈ zT) (hm : Cond.instanceMethod y ∈ zT ∧ Cond.initialized y.cls ∈ zT ∧ Cond.code y bytes mL none ∈ zT) (hy : y.name = "<init>") (hrm : rm.cells = mc ∧ rm.slots = ms) (hna : As.length = na)
    (hd : y.cls ≠ "java/lang/invoke/MethodHandle" ∧ y.cls ≠ "java/lang/invoke/VarHandle" ∧ (parseMethodDescriptor y.desc).map (fun d => d.parameters.length) = some na) (hR : rm.frames + 1 ≤ Rm.frames ∧ 8 + (mL + 11) + rm.locals ≤ Rm.locals) (hK : va_K D cl tys s) (hP : va_P D cl (wr ++ [(h0, e0)]) H) (hD : va_D A (wr ++ [(h0, e0)])) (hS : va_S A H0 H locs) (hA : ∀ q, H0.size ≤ q → A q) (hN : Nn s) (hNw : ∀ U : State, s.WarmedH U.vm → Nn U) (hNc : ∀ (a : Array Value) (U : State) (g : JFrame) (mk : MethodId), Nn U → Nn (U.calling g mk a)) (hsz : ls.size = nL) (hst : st0 = As.reverse ++ .ref h0 :: rest) (hW : (rest.map fun v => v.category).sum ≤ 8) (hf : cells + mc ≤ Rm.cells ∧ slots + ms ≤ Rm.slots) (hdg : decode cc pc = .ok (.invokespecial index, 3))
    (kk : ∀ (u : zQ) (H1 : Heap) (locs1 : List Loc), va_K D cl (tys ++ Ty u) s → va_P D cl (wr ++ Wd u) H1 → va_D A (wr ++ Wd u) → va_S A H0 H1 locs1 → W p l e Rm s m args below meth c H1 locs1 (cells + mc) (slots + ms) Q (F0 m (pc + 3) ls rest)) : W p l e Rm s m args below meth c H locs cells slots Q (F0 m pc ls st0) := by
  subst hst
  exact z_ctrun (va_runI (As := As) (rest := rest) ⟨hx, hb, hml, hown, ht⟩ (hM H.size) ⟨callB_of na ht (z_GC hm.2.2) rfl hrm.1 hrm.2 (ht _ hm.2.1) (ht _ hl) hd hR, hy, ht _ hm.1⟩ (z_ctpre hK hP hD hN hNw hNc) rfl hna hsz rfl (lv_room hW) hdg hf) hK hP hD hS hA kk
end ZN
/-- the body of a constructor -/
theorem z_ctbody {l : Launch} {D : va_G} {cl : List vw_C} {y : MethodName} {cc : ByteArray} {mL : Nat} {rm : Room} {mc ms h0 : Nat} {e0 : va_E} {av : List Value} {Nn : State → Prop} {Qc : Array Value → State → Outcome → State → Prop} {sz : Nat} (hy : plainName y.cls = true) (hyn : y.name = "<init>") (hlen : (lg_sl av).length ≤ mL)
    (body : ∀ (p : Program) (e : Env) (s : State) (m : MethodId) (below : List Frame) (meth : Method) (c : Code) (ls : Array Slot) (A : Nat → Prop), A = va_A [(h0, e0)] sz → p.tables.exec = Jvm.exec → c.code = cc → c.maxLocals = mL → meth.sig.returnType = none → (∀ w ∈ zT, w.before av.toArray s = true) → s.vm.findClass y.cls = some m.cls → meth.locks = false → meth.name = "<init>" → s.heap.size = sz → va_K D cl [] s → va_P D cl [(h0, e0)] s.heap → va_D A [(h0, e0)] → va_S A s.heap s.heap [] → (∀ q, s.heap.size ≤ q → A q) → Nn s → lv_has ls mL (lv_args 0 av) →
      W p l e rm s m av.toArray below meth c s.heap [] 0 0 (MQ below Qc av.toArray s mc ms A) (F0 m 0 ls [])) :
    Met l y (Cond.code y cc mL none :: zT) rm (va_Pc av (fun U => U.heap.size = sz ∧ va_P D cl [(h0, e0)] U.heap ∧ va_K D cl [] U ∧ va_D (fun _ => True) [(h0, e0)] ∧ Nn U)) Qc mc ms (va_A [(h0, e0)] sz) := by
  refine Met.ofW (cc := cc) (maxL := mL) (ret := none) hy rfl ?_
  intro p e s m args below meth c s₁ B hml hv
  obtain ⟨rfl, hsz, hP, hK, hD0, hN⟩ := hv
  have hts := atoms_spec (ws := Cond.code y cc mL none :: zT) B.pre
  have hl := lv_entry av (n := mL) hlen
  rw [lg_entry_eq]
  exact body p e s m below meth c _ _ rfl B.exec B.bytes hml B.returns (fun w h => hts w (List.mem_cons_of_mem _ h)) (findClass_of_methodNamed B.named) B.notSynchronized ((name_of_methodNamed B.named B.method).1.trans hyn) hsz hK hP hD0.self va_S.rf (fun q h => Or.inr (hsz ▸ h)) hN hl
/-- the end of a constructor: its world, as it was said -/
theorem z_ctret {p : Program} {l : Launch} {e : Env} {Rm : Room} {s : State} {m : MethodId} {args : Array Value} {below : List Frame} {meth : Method} {c : Code} {H : Heap} {locs : List Loc} {mc ms : Nat} {D : va_G} {cl : List vw_C} {A : Nat → Prop} {cc : ByteArray} {pc : Nat} {ls : Array Slot} {Wd : zQ → va_W} {Ty : zQ → List (ClassId × FieldType)} (hx : p.tables.exec = Jvm.exec) (hb : c.code = cc) (hr : meth.sig.returnType = none) (hlocks : meth.locks = false) (u : zQ) (hK : va_K D cl (Ty u) s) (hP : va_P D cl (Wd u) H) (hD : va_D A (Wd u)) (hS : va_S A s.heap H locs) (hdg : decode cc pc = .ok (.return_, 1)) :
    W p l e Rm s m args below meth c H locs mc ms (MQ below (va_Qv (fun _ : zQ => True) (fun u t => va_P D cl (Wd u) t.heap ∧ va_K D cl (Ty u) t ∧ va_D A (Wd u)) A) args s mc ms A) (F0 m pc ls []) :=
  W.vret hx hb hr (fun t ht hW => ⟨⟨u, rfl, trivial, by rw [ht]; exact hP, va_K.moved hW.alike hK, hD⟩, hS.F ht⟩) hS.2.2 hdg hlocks
def zN (U : State) : Prop := va_Nw (.methodLinkNest "ReceiptLeft" 9 ⟨"ReceiptLeft$Tape", "<init>", "()V"⟩ "ReceiptLeft") U ∧ va_Nw (.methodLinkNest "ReceiptLeft" 18 ⟨"ReceiptLeft$City", "<init>", "()V"⟩ "ReceiptLeft") U ∧ va_Nw (.methodLinkNest "ReceiptLeft" 28 ⟨"ReceiptLeft$Acts", "<init>", "()V"⟩ "ReceiptLeft") U ∧ va_Nw (.methodLinkNest "ReceiptLeft" 47 ⟨"ReceiptLeft$Titles", "<init>", "()V"⟩ "ReceiptLeft") U ∧ va_Nw (.methodLinkNest "ReceiptLeft" 54 ⟨"ReceiptLeft$Deal", "<init>", "()V"⟩ "ReceiptLeft") U ∧ va_Nw (.methodLinkNest "ReceiptLeft" 61 ⟨"ReceiptLeft$Dice", "<init>", "()V"⟩ "ReceiptLeft") U ∧ va_Nw (.methodLinkNest "ReceiptLeft" 68 ⟨"ReceiptLeft$Audit", "<init>", "()V"⟩ "ReceiptLeft") U ∧ va_Nw (.methodLinkNest "ReceiptLeft" 85 ⟨"ReceiptLeft$Image", "<init>", "()V"⟩ "ReceiptLeft") U ∧ va_Nw (.methodLinkNest "ReceiptLeft$Image" 9 ⟨"ReceiptLeft$City", "<init>", "()V"⟩ "ReceiptLeft") U ∧ va_Nw (.methodLinkNest "ReceiptLeft$Image" 18 ⟨"ReceiptLeft$Acts", "<init>", "()V"⟩ "ReceiptLeft") U ∧ va_Nw (.methodLinkNest "ReceiptLeft" 86 ⟨"ReceiptLeft$Row", "<init>", "()V"⟩ "ReceiptLeft") U ∧ va_AO "ReceiptLeft$Image" U ∧ va_AO "ReceiptLeft$Row" U
theorem zN_warm {s U : State} (hW : s.WarmedH U.vm) (h : zN s) : zN U := ⟨va_Nw.warmM hW h.1, va_Nw.warmM hW h.2.1, va_Nw.warmM hW h.2.2.1, va_Nw.warmM hW h.2.2.2.1, va_Nw.warmM hW h.2.2.2.2.1, va_Nw.warmM hW h.2.2.2.2.2.1, va_Nw.warmM hW h.2.2.2.2.2.2.1, va_Nw.warmM hW h.2.2.2.2.2.2.2.1, va_Nw.warmM hW h.2.2.2.2.2.2.2.2.1, va_Nw.warmM hW h.2.2.2.2.2.2.2.2.2.1, va_Nw.warmM hW h.2.2.2.2.2.2.2.2.2.2.1, va_AO.moved hW.alike h.2.2.2.2.2.2.2.2.2.2.2.1, va_AO.moved hW.alike h.2.2.2.2.2.2.2.2.2.2.2.2⟩
theorem zN_call (a : Array Value) (U : State) (g : JFrame) (mk : MethodId) (h : zN U) : zN (U.calling g mk a) := ⟨va_Nw.same rfl rfl h.1, va_Nw.same rfl rfl h.2.1, va_Nw.same rfl rfl h.2.2.1, va_Nw.same rfl rfl h.2.2.2.1, va_Nw.same rfl rfl h.2.2.2.2.1, va_Nw.same rfl rfl h.2.2.2.2.2.1, va_Nw.same rfl rfl h.2.2.2.2.2.2.1, va_Nw.same rfl rfl h.2.2.2.2.2.2.2.1, va_Nw.same rfl rfl h.2.2.2.2.2.2.2.2.1, va_Nw.same rfl rfl h.2.2.2.2.2.2.2.2.2.1, va_Nw.same rfl rfl h.2.2.2.2.2.2.2.2.2.2.1, va_AO.moved (Vm.Alike.refl U.vm) h.2.2.2.2.2.2.2.2.2.2.2.1, va_AO.moved (Vm.Alike.refl U.vm) h.2.2.2.2.2.2.2.2.2.2.2.2⟩
