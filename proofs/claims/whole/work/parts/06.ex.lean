abbrev xi_ : String := "java/lang/IndexOutOfBoundsException"
abbrev xa_ : String := "java/lang/IllegalArgumentException"
abbrev xs_ : String := "java/lang/IllegalStateException"
abbrev up_ : List String := ["java/lang/RuntimeException", "java/lang/Exception"]
def va_Cb (C T : String) (U : State) : Prop := ∃ c t : ClassId, U.vm.findClass C = some c ∧ U.vm.findClass T = some t ∧ U.vm.assignable c t = true
theorem va_Cb.moved {C T : String} {u U : State} (hvm : u.vm.Alike U.vm) (h : va_Cb C T u) : va_Cb C T U := by
  obtain ⟨c, t, h1, h2, h3⟩ := h
  exact ⟨c, t, by rw [hvm.findClass]; exact h1, by rw [hvm.findClass]; exact h2, by rw [hvm.assignable]; exact h3⟩
theorem va_Cb.of {args : Array Value} {s : State} {C T : String} (h : (Cond.castable C T).before args s = true) : va_Cb C T s := by
  obtain ⟨c, t, h1, h2, h3⟩ := Cond.castable_spec h
  exact ⟨c, t, h1, h2, h3⟩
theorem va_Cb.use {args : Array Value} {U : State} {C T : String} (h : va_Cb C T U) : (Cond.castable C T).before args U = true := by
  obtain ⟨c, t, h1, h2, h3⟩ := h
  simp [Cond.before, Cond.holds, Cond.value, h1, h2, h3]
def va_Dl (x : MethodName) (U : State) : Prop := (Cond.declares x).before #[] U = true
theorem va_Dl.moved {x : MethodName} {u U : State} (hvm : u.vm.Alike U.vm) (h : va_Dl x u) : va_Dl x U := by
  have h1 : (Cond.declares x).before #[] (u.setVm U.vm) = true := by rw [Cond.declares_setVm hvm]; exact h
  exact va_tabs (c := Cond.declares x) (A := #[]) (u := u.setVm U.vm) rfl rfl h1
theorem va_Dl.of {x : MethodName} {A : Array Value} {U : State} (h : (Cond.declares x).before A U = true) : va_Dl x U := va_tabs rfl rfl h
theorem va_Dl.use {x : MethodName} {A : Array Value} {U : State} (h : va_Dl x U) : (Cond.declares x).before A U = true := va_tabs rfl rfl h
def stl : List (String × Nat × String) := [(R_SM, 48, "no such word of memory"), (R_SM, 57, "a program has 1 to 256 instructions"), (R_SM, 59, "the program's words are not all there"), (R_SM, 75, "the program has a fault"), (R_SM, 137, "no such vector"), (R_SM, 110, "there is no program"), (R_SM, 143, "no such vector or part")]
def cbl : List String := [xi_, xa_, xs_]
def dcl : List MethodName := [Bundle.initS "java/lang/RuntimeException", Bundle.initS "java/lang/Exception", Bundle.initS "java/lang/Throwable"]
/-- what a method that throws, or catches, leans on besides -/
def ex_ (A : Nat → Prop) (U : State) (H : Heap) : Prop := (∀ q ∈ stl, ∃ a : Nat, vk_R q.1 q.2.1 q.2.2 a U) ∧ vx_Zq Bundle.tN "UNASSIGNED_STACK" Bundle.steD A U H ∧ vx_Zq Bundle.tN "SUPPRESSED_SENTINEL" Bundle.listD A U H ∧ (∀ q ∈ cbl, va_Cb q q U) ∧ va_Nc xa_ xi_ U ∧ ∀ x ∈ dcl, va_Dl x U
theorem ex_.same {A : Nat → Prop} {u U : State} {H : Heap} (hv : u.vm = U.vm) (h : ex_ A u H) : ex_ A U H := by
  obtain ⟨h1, h2, h3, h4, h5, h6⟩ := h
  have ha : u.vm.Alike U.vm := by rw [hv]; exact Vm.Alike.refl _
  exact ⟨fun q hq => (h1 q hq).elim fun a k => ⟨a, k.same hv.symm⟩, h2.moved ha, h3.moved ha, fun q hq => (h4 q hq).moved ha, h5.moved ha, fun q hq => (h6 q hq).moved ha⟩
theorem ex_.moved {A : Nat → Prop} {s U : State} {H : Heap} (h : ex_ A s H) (hW : s.WarmedH U.vm) : ex_ A U H := by
  obtain ⟨h1, h2, h3, h4, h5, h6⟩ := h
  have ha := hW.alike
  exact ⟨fun q hq => (h1 q hq).elim fun a k => ⟨a, k.warm hW⟩, h2.moved ha, h3.moved ha, fun q hq => (h4 q hq).moved ha, h5.moved ha, fun q hq => (h6 q hq).moved ha⟩
theorem ex_.pass {A B : Nat → Prop} {s : State} {H : Heap} {locs : List Loc} (h : ex_ A s s.heap) (hS : va_S A s.heap H locs) (hF : ∀ q, B q → A q) : ex_ B s H := by
  obtain ⟨h1, h2, h3, h4, h5, h6⟩ := h
  exact ⟨h1, (h2.kept hS.2.1).narrow hF, (h3.kept hS.2.1).narrow hF, h4, h5, h6⟩
/-- a throw's words, out of the method's own and ex_ -/
theorem ex_at {wy : List Cond} {args : Array Value} {s : State} {A : Nat → Prop} {own X : String} {ic : Nat} (hts : ∀ w ∈ wy, w.before args s = true) (hE : ex_ A s s.heap) (hX : X ∈ cbl)
    (hg : ((vx_atS own ic X up_).filter (fun w => goodWord w)).all (fun w => decide (w ∈ gw)) = true) (hb : ((vx_atS own ic X up_).filter (fun w => !goodWord w)) = [Cond.declares (Bundle.initS "java/lang/RuntimeException"), Cond.declares (Bundle.initS "java/lang/Exception"), Cond.declares (Bundle.initS "java/lang/Throwable"), Cond.castable X X]) (hw : ∀ w ∈ gw, w ∈ wy) : ∀ w ∈ vx_atS own ic X up_, w.before args s = true := by
  refine vx_hat (B := [Cond.declares (Bundle.initS "java/lang/RuntimeException"), Cond.declares (Bundle.initS "java/lang/Exception"), Cond.declares (Bundle.initS "java/lang/Throwable"), Cond.castable X X]) ?_ ?_ ?_
  · intro w h
    have h1 := List.all_eq_true.mp hg w h
    exact hts w (hw w (of_decide_eq_true h1))
  · intro w h
    rw [hb] at h
    exact h
  · refine vx_c (va_Dl.use (hE.2.2.2.2.2 _ (List.mem_of_getElem? (i := 0) rfl))) (vx_c (va_Dl.use (hE.2.2.2.2.2 _ (List.mem_of_getElem? (i := 1) rfl))) (vx_c (va_Dl.use (hE.2.2.2.2.2 _ (List.mem_of_getElem? (i := 2) rfl))) (vx_c (va_Cb.use (hE.2.2.2.1 _ hX)) vx_n)))
def cx_P (D : va_G) (tys : List (ClassId × FieldType)) (ws : va_W) (sz : Nat) (U : State) : Prop := ck_P D tys ws sz U ∧ ex_ (va_A ws sz) U U.heap
theorem cx_blind {av : List Value} {D : va_G} {tys : List (ClassId × FieldType)} {ws : va_W} {sz : Nat} : FrameBlind (va_Pc av (cx_P D tys ws sz)) := by
  intro a U g mk q
  obtain ⟨q0, q1, q2⟩ := q
  have h := ck_blind (av := av) (D := D) (tys := tys) (ws := ws) (sz := sz) a U g mk ⟨q0, q1⟩
  exact ⟨h.1, h.2, ex_.same (u := U) (U := U.calling g mk a) rfl q2⟩
/-- which class is thrown, by the code: 1, 2, 3 -/
def cx_n (k : Nat) (E : String) : Prop := (k = 1 ∧ E = xi_) ∨ (k = 2 ∧ E = xa_) ∨ (k = 3 ∧ E = xs_)
/-- contracts of methods that return (code 0) or throw -/
abbrev cx_X (D : va_G) (tys : List (ClassId × FieldType)) (A : Nat → Prop) (k : Nat) (w1 : va_W) : String → State → State → Prop := vx_X (fun w : va_W => w = w1) (fun E w t => cx_n k E ∧ ck_B D tys A w t) A
abbrev cx_Qi (D : va_G) (tys : List (ClassId × FieldType)) (A : Nat → Prop) (k : Nat) (r : Int32) (w1 : va_W) : Array Value → State → Outcome → State → Prop := va_Qi (fun r' w => k = 0 ∧ r' = r ∧ w = w1) (ck_B D tys A) A
abbrev cx_Qv (D : va_G) (tys : List (ClassId × FieldType)) (A : Nat → Prop) (k : Nat) (w1 : va_W) : Array Value → State → Outcome → State → Prop := va_Qv (fun w => k = 0 ∧ w = w1) (ck_B D tys A) A
def cx_i (l : Launch) (y : MethodName) (wy : List Cond) (rm : Room) (av : List Value) (D : va_G) (tys : List (ClassId × FieldType)) (ws : va_W) (k : Nat) (r : Int32) (w1 : va_W) : Prop :=
  ∀ sz : Nat, vx_Met l y wy rm (va_Pc av (cx_P D tys ws sz)) (cx_Qi D tys (va_A ws sz) k r w1) (cx_X D tys (va_A ws sz) k w1) 1 6 (va_A ws sz)
def cx_v (l : Launch) (y : MethodName) (wy : List Cond) (rm : Room) (av : List Value) (D : va_G) (tys : List (ClassId × FieldType)) (ws : va_W) (k : Nat) (w1 : va_W) : Prop :=
  ∀ sz : Nat, vx_Met l y wy rm (va_Pc av (cx_P D tys ws sz)) (cx_Qv D tys (va_A ws sz) k w1) (cx_X D tys (va_A ws sz) k w1) 1 6 (va_A ws sz)
section CXO
variable {l : Launch} {y : MethodName} {wy ws0 : List Cond} {rm : Room} {av : List Value} {D : va_G} {tys : List (ClassId × FieldType)} {ws w1 : va_W} {cc : ByteArray} {maxL : Nat} {ret : Option FieldType} {Qc : (Nat → Prop) → Array Value → State → Outcome → State → Prop} {XC : (Nat → Prop) → String → State → State → Prop} {k : Nat}
theorem cx_of (hy : plainName y.cls = true) (hw : wy = Cond.code y cc maxL ret :: ws0)
    (body : ∀ (p : Program) (e : Env) (s : State) (m : MethodId) (below : List Frame) (meth : Method) (c : Code) (A : Nat → Prop), ck_X p s m av.toArray meth c y wy cc maxL ret A → va_K D vwCl tys s → va_P D vwCl ws s.heap → va_D A ws → va_S A s.heap s.heap [] → ev_ A s s.heap → ex_ A s s.heap → (∀ x ∈ c.exceptionTable.toList, False) →
      W p l e rm s m av.toArray below meth c s.heap [] 0 0 (vx_MQ below (Qc A) (XC A) av.toArray s 1 6 A) (entryFrame m av.toArray maxL)) (sz : Nat) :
    vx_Met l y wy rm (va_Pc av (cx_P D tys ws sz)) (Qc (va_A ws sz)) (XC (va_A ws sz)) 1 6 (va_A ws sz) := by
  refine vx_ofW (cc := cc) (maxL := maxL) (ret := ret) hy hw ?_
  intro p e s m args below meth c s₁ B hml hxt hv
  obtain ⟨rfl, ⟨hsz, hP, hK, hD0, hE⟩, hX⟩ := hv
  subst hsz
  exact body p e s m below meth c (va_A ws s.heap.size) ⟨B.exec, B.bytes, B.returns, hml, findClass_of_methodNamed B.named, atoms_spec (ws := wy) B.pre, B.notSynchronized, fun q h => Or.inr h, (name_of_methodNamed B.named B.method).1⟩ hK hP (hD0.self (sz := s.heap.size)) va_S.rf hE hX hxt
theorem cx_ofi {r : Int32} (hy : plainName y.cls = true) (hw : wy = Cond.code y cc maxL ret :: ws0)
    (body : ∀ (p : Program) (e : Env) (s : State) (m : MethodId) (below : List Frame) (meth : Method) (c : Code) (A : Nat → Prop), ck_X p s m av.toArray meth c y wy cc maxL ret A → va_K D vwCl tys s → va_P D vwCl ws s.heap → va_D A ws → va_S A s.heap s.heap [] → ev_ A s s.heap → ex_ A s s.heap → (∀ x ∈ c.exceptionTable.toList, False) →
      W p l e rm s m av.toArray below meth c s.heap [] 0 0 (vx_MQ below (cx_Qi D tys A k r w1) (cx_X D tys A k w1) av.toArray s 1 6 A) (entryFrame m av.toArray maxL)) : cx_i l y wy rm av D tys ws k r w1 := fun sz => cx_of (Qc := fun A => cx_Qi D tys A k r w1) (XC := fun A => cx_X D tys A k w1) hy hw body sz
theorem cx_ofv (hy : plainName y.cls = true) (hw : wy = Cond.code y cc maxL ret :: ws0)
    (body : ∀ (p : Program) (e : Env) (s : State) (m : MethodId) (below : List Frame) (meth : Method) (c : Code) (A : Nat → Prop), ck_X p s m av.toArray meth c y wy cc maxL ret A → va_K D vwCl tys s → va_P D vwCl ws s.heap → va_D A ws → va_S A s.heap s.heap [] → ev_ A s s.heap → ex_ A s s.heap → (∀ x ∈ c.exceptionTable.toList, False) →
      W p l e rm s m av.toArray below meth c s.heap [] 0 0 (vx_MQ below (cx_Qv D tys A k w1) (cx_X D tys A k w1) av.toArray s 1 6 A) (entryFrame m av.toArray maxL)) : cx_v l y wy rm av D tys ws k w1 := fun sz => cx_of (Qc := fun A => cx_Qv D tys A k w1) (XC := fun A => cx_X D tys A k w1) hy hw body sz
end CXO
section CXR
variable {p : Program} {l : Launch} {e : Env} {R : Room} {s : State} {m : MethodId} {args : Array Value} {below : List Frame} {meth : Method} {c : Code} {H : Heap} {locs : List Loc} {cells slots : Nat} {D : va_G} {tys : List (ClassId × FieldType)} {A : Nat → Prop} {w1 : va_W} {cc : ByteArray} {pc : Nat} {ls : Array Slot} {rest : List Value} {Q : State → Prop} {Qc : Array Value → State → Outcome → State → Prop}
theorem cx_iret {r : Int32} {k : Nat} (hx : p.tables.exec = Jvm.exec) (hb : c.code = cc) (hr : meth.sig.returnType = some .int) (hlk : meth.locks = false) (hk : k = 0) (hc : cells ≤ 1) (hs : slots ≤ 6) (hK : va_K D vwCl tys s) (hP : va_P D vwCl w1 H) (hD : va_D A w1) (hS : va_S A s.heap H locs) (hdg : decode cc pc = .ok (.ireturn, 1)) :
    W p l e R s m args below meth c H locs cells slots (vx_MQ below (cx_Qi D tys A k r w1) (cx_X D tys A k w1) args s 1 6 A) (F0 m pc ls [.int r]) :=
  vx_ret (W.widen hc hs (W.iret (v := r) hx hb hr (fun t ht hW => ⟨⟨r, w1, rfl, ⟨hk, rfl, rfl⟩, by rw [ht]; exact hP, va_K.moved hW.alike hK, hD⟩, hS.F ht⟩) hS.2.2 hdg hlk))
theorem cx_vret {k : Nat} (hx : p.tables.exec = Jvm.exec) (hb : c.code = cc) (hr : meth.sig.returnType = none) (hlk : meth.locks = false) (hk : k = 0) (hc : cells ≤ 1) (hs : slots ≤ 6) (hK : va_K D vwCl tys s) (hP : va_P D vwCl w1 H) (hD : va_D A w1) (hS : va_S A s.heap H locs) (hdg : decode cc pc = .ok (.return_, 1)) :
    W p l e R s m args below meth c H locs cells slots (vx_MQ below (cx_Qv D tys A k w1) (cx_X D tys A k w1) args s 1 6 A) (F0 m pc ls []) :=
  vx_ret (W.widen hc hs (W.vret hx hb hr (fun t ht hW => ⟨⟨w1, rfl, ⟨hk, rfl⟩, by rw [ht]; exact hP, va_K.moved hW.alike hK, hD⟩, hS.F ht⟩) hS.2.2 hdg hlk))
/-- the throw's own row -/
theorem cx_throw {own X text : String} {ik is ic k : Nat} {wy : List Cond} (hx : p.tables.exec = Jvm.exec) (hb : c.code = cc) (hl : l.stackTraces = false) (hown : s.vm.findClass own = some m.cls) (hts : ∀ w ∈ wy, w.before args s = true) (hw : ∀ w ∈ gw, w ∈ wy) (hE : ex_ A s s.heap) (hX : X ∈ cbl) (hXk : cx_n k X) (hfit : Bundle.fit X = true)
    (hkl : Cond.classLink own ik X ∈ gw) (hini : Cond.initialized X ∈ gw) (hst : (own, is, text) ∈ stl)
    (hg : ((vx_atS own ic X up_).filter (fun w => goodWord w)).all (fun w => decide (w ∈ gw)) = true) (hbad : ((vx_atS own ic X up_).filter (fun w => !goodWord w)) = [Cond.declares (Bundle.initS "java/lang/RuntimeException"), Cond.declares (Bundle.initS "java/lang/Exception"), Cond.declares (Bundle.initS "java/lang/Throwable"), Cond.castable X X]) (hot : (Cond.classLink own ik X :: Cond.initialized X :: vx_atS own ic X up_).all vx_ot = true)
    (hml : c.maxLocals = ls.size) (hK : va_K D vwCl tys s) (hP : va_P D vwCl w1 H) (hD : va_D A w1) (hS : va_S A s.heap H locs) (hlk : meth.locks = false) (hxt : ∀ x ∈ c.exceptionTable.toList, False)
    (d0 : decode cc pc = .ok (.new ik, 3)) (d3 : decode cc (pc + 3) = .ok (.dup, 1)) (d4 : decode cc (pc + 4) = .ok (.ldc is, 2)) (d6 : decode cc (pc + 6) = .ok (.invokespecial ic, 3)) (d9 : decode cc (pc + 9) = .ok (.athrow, 1))
    (hR1 : 5 < R.frames) (hR2 : (rest.map fun v => v.category).sum + 82 ≤ R.locals) (hR3 : 1 ≤ R.cells) (hR4 : 6 ≤ R.slots) :
    W p l e R s m args below meth c H locs 0 0 (vx_MQ below Qc (cx_X D tys A k w1) args s 1 6 A) (F0 m pc ls rest) := by
  obtain ⟨sa, hsa⟩ := hE.1 _ hst
  refine vx_throwS (names := up_) (sa := sa) hx hb hl hown hfit (by decide +kernel) (hts _ (hw _ hkl)) (hts _ (hw _ hini)) hsa (ex_at hts hE hX hg hbad hw) (fun w h => List.all_eq_true.mp hot w h) hE.2.1 hE.2.2.1 hS hml.symm d0 d3 d4 d6 d9 (fun x h => (hxt x h).elim) hR1 hR2 hR3 hR4 hlk ?_ hS.2.2 (Nat.le_refl 1) (Nat.le_refl 6)
  intro t ht hz hq
  refine ⟨w1, rfl, ⟨hXk, ?_, va_K.moved ht hK, hD⟩, Nat.le_trans hS.1 hz, fun q h1 h2 => ?_⟩
  · exact hP.kept (fun i z hi => hq z.1 (hP i z hi).lt)
  · rw [hq q (Nat.lt_of_lt_of_le h1 hS.1)]
    exact hS.2.1 q h1 h2
end CXR
section CXC
variable {p : Program} {l : Launch} {e : Env} {R : Room} {s : State} {m : MethodId} {args : Array Value} {below : List Frame} {meth : Method} {c : Code} {H : Heap} {locs : List Loc} {cells slots : Nat} {Q : State → Prop} {D : va_G} {tys : List (ClassId × FieldType)} {A : Nat → Prop} {ws wc wr w1 : va_W} {pc : Nat} {ls : Array Slot} {st0 rest : List Value} {a : Array Value} {Qc : Array Value → State → Outcome → State → Prop}
theorem cx_preS {As : List Value} (hK : va_K D vwCl tys s) (hP : va_P D vwCl ws H) (hD : va_D A ws) (hS : va_S A s.heap H locs) (hA : ∀ q : Nat, s.heap.size ≤ q → A q) (hE : ev_ A s s.heap) (hX : ex_ A s s.heap) (isC : List Nat) (hn : va_nd isC = true) (hC : isC.map (fun i => ws[i]?) = wc.map some) :
    PreS s H (va_Pc As (cx_P D tys wc H.size)) As :=
  ⟨cx_blind, fun U hU hW => ⟨((ck_preS (As := As) hK hP hD hS hA hE isC hn hC).2 U hU hW).1, ((ck_preS (As := As) hK hP hD hS hA hE isC hn hC).2 U hU hW).2, by rw [hU]; exact (ex_.pass hX hS (va_free hD hS hA isC hC)).moved hW⟩⟩
theorem cx_preV {As : List Value} {b : Nat} {C : String} (hK : va_K D vwCl tys s) (hP : va_P D vwCl ws H) (hD : va_D A ws) (hS : va_S A s.heap H locs) (hA : ∀ q : Nat, s.heap.size ≤ q → A q) (hE : ev_ A s s.heap) (hX : ex_ A s s.heap) (q0 : Nat) {ci : Nat} {q : vw_C} {fs : List Value} (hc : vwCl[ci]? = some q) (he : ws[q0]? = some (b, .inr (ci, fs))) (hC1 : q.1 = C) (isC : List Nat) (hn : va_nd isC = true) (hC : isC.map (fun i => ws[i]?) = wc.map some) :
    PreV s H C b (va_Pc (.ref b :: As) (cx_P D tys wc H.size)) As :=
  ⟨cx_blind, by rw [← hC1]; exact va_recv hK hP hc he, (cx_preS hK hP hD hS hA hE hX isC hn hC).2⟩
theorem cx_gov {k : Nat} (hr : vx_Run p l e R s m args below meth c H locs cells slots 1 6 (F0 m pc ls st0) rest (cx_Qv D tys (va_A wc H.size) k w1 a) (cx_X D tys (va_A wc H.size) k w1) (va_A wc H.size))
    (hP : va_P D vwCl ws H) (hD : va_D A ws) (hS : va_S A s.heap H locs) (hA : ∀ q : Nat, s.heap.size ≤ q → A q) (isC isR : List Nat) (hC : isC.map (fun i => ws[i]?) = wc.map some) (hR : isR.map (fun i => ws[i]?) = wr.map some) (hn : va_nd isR = true) (hdis : ∀ i ∈ isR, i ∉ isC)
    (kx : ¬ k = 0 → ∀ (H1 : Heap) (locs1 : List Loc) (E : String) (ce : Cell) (q9 : Addr), cx_n k E → va_P D vwCl (wr ++ w1) H1 → va_D A (wr ++ w1) → va_S A s.heap H1 locs1 → H1[q9]? = some ce → ce.vm = .none → s.vm.findClass E = some ce.cls → vx_W p l e R s m args below meth c H1 locs1 (cells + 1) (slots + 6) Q (F0 m pc ls rest) q9)
    (kk : k = 0 → ∀ (H1 : Heap) (locs1 : List Loc), va_P D vwCl (wr ++ w1) H1 → va_D A (wr ++ w1) → va_S A s.heap H1 locs1 → W p l e R s m args below meth c H1 locs1 (cells + 1) (slots + 6) Q (F0 m (pc + 3) ls rest)) : W p l e R s m args below meth c H locs cells slots Q (F0 m pc ls st0) := by
  have hFc := va_free hD hS hA isC hC
  refine vx_callv hr hS (fun q _ h => hFc q h) hFc (fun q _ h => hFc q h) (fun E ce q9 u t H1 locs1 ht hvm hw hB hz1 hk1 hS1 h7 h8 h9 => ?_) (fun u t H1 locs1 ht hvm hw hB hz1 hk1 hS1 => ?_)
  · subst hw
    obtain ⟨hnE, hP1, hK1, hD1⟩ := hB
    rw [ht] at hP1
    obtain ⟨hP2, hD2⟩ := va_join hP hD isC isR hC hR hn hdis hk1 hFc hP1 hD1
    refine kx ?_ H1 locs1 E ce q9 hnE hP2 hD2 hS1 h7 h8 h9
    intro hk0
    subst hk0
    rcases hnE with ⟨z, -⟩ | ⟨z, -⟩ | ⟨z, -⟩ <;> cases z
  · obtain ⟨hk0, rfl⟩ := hw
    obtain ⟨hP1, hK1, hD1⟩ := hB
    rw [ht] at hP1
    obtain ⟨hP2, hD2⟩ := va_join hP hD isC isR hC hR hn hdis hk1 hFc hP1 hD1
    exact kk hk0 H1 locs1 hP2 hD2 hS1
theorem cx_goi {k : Nat} {r : Int32} (hr : vx_Run p l e R s m args below meth c H locs cells slots 1 6 (F0 m pc ls st0) rest (cx_Qi D tys (va_A wc H.size) k r w1 a) (cx_X D tys (va_A wc H.size) k w1) (va_A wc H.size))
    (hP : va_P D vwCl ws H) (hD : va_D A ws) (hS : va_S A s.heap H locs) (hA : ∀ q : Nat, s.heap.size ≤ q → A q) (isC isR : List Nat) (hC : isC.map (fun i => ws[i]?) = wc.map some) (hR : isR.map (fun i => ws[i]?) = wr.map some) (hn : va_nd isR = true) (hdis : ∀ i ∈ isR, i ∉ isC)
    (kx : ¬ k = 0 → ∀ (H1 : Heap) (locs1 : List Loc) (E : String) (ce : Cell) (q9 : Addr), cx_n k E → va_P D vwCl (wr ++ w1) H1 → va_D A (wr ++ w1) → va_S A s.heap H1 locs1 → H1[q9]? = some ce → ce.vm = .none → s.vm.findClass E = some ce.cls → vx_W p l e R s m args below meth c H1 locs1 (cells + 1) (slots + 6) Q (F0 m pc ls rest) q9)
    (kk : k = 0 → ∀ (H1 : Heap) (locs1 : List Loc), va_P D vwCl (wr ++ w1) H1 → va_D A (wr ++ w1) → va_S A s.heap H1 locs1 → W p l e R s m args below meth c H1 locs1 (cells + 1) (slots + 6) Q (F0 m (pc + 3) ls (.int r :: rest))) : W p l e R s m args below meth c H locs cells slots Q (F0 m pc ls st0) := by
  have hFc := va_free hD hS hA isC hC
  refine vx_calli hr hS (fun q _ h => hFc q h) hFc (fun q _ h => hFc q h) (fun E ce q9 u t H1 locs1 ht hvm hw hB hz1 hk1 hS1 h7 h8 h9 => ?_) (fun r' u t H1 locs1 ht hvm hw hB hz1 hk1 hS1 => ?_)
  · subst hw
    obtain ⟨hnE, hP1, hK1, hD1⟩ := hB
    rw [ht] at hP1
    obtain ⟨hP2, hD2⟩ := va_join hP hD isC isR hC hR hn hdis hk1 hFc hP1 hD1
    refine kx ?_ H1 locs1 E ce q9 hnE hP2 hD2 hS1 h7 h8 h9
    intro hk0
    subst hk0
    rcases hnE with ⟨z, -⟩ | ⟨z, -⟩ | ⟨z, -⟩ <;> cases z
  · obtain ⟨hk0, rfl, rfl⟩ := hw
    obtain ⟨hP1, hK1, hD1⟩ := hB
    rw [ht] at hP1
    obtain ⟨hP2, hD2⟩ := va_join hP hD isC isR hC hR hn hdis hk1 hFc hP1 hD1
    exact kk hk0 H1 locs1 hP2 hD2 hS1
/-- what a callee threw goes on to the caller -/
theorem cx_out {k : Nat} {E : String} {ce : Cell} {q : Addr} (hxt : ∀ x ∈ c.exceptionTable.toList, False) (hlk : meth.locks = false) (hn : cx_n k E) (hc : cells ≤ 1) (hs : slots ≤ 6) (hK : va_K D vwCl tys s) (hP : va_P D vwCl w1 H) (hD : va_D A w1) (hS : va_S A s.heap H locs) (hq : H[q]? = some ce) (hv : ce.vm = .none) (hcl : s.vm.findClass E = some ce.cls) :
    vx_W p l e R s m args below meth c H locs cells slots (vx_MQ below Qc (cx_X D tys A k w1) args s 1 6 A) (F0 m pc ls rest) q :=
  vx_out (fun x h => (hxt x h).elim) hlk hq hv hcl (fun t ht ha => ⟨w1, rfl, ⟨hn, by rw [ht]; exact hP, va_K.moved ha hK, hD⟩, hS.F ht⟩) hS.2.2 hc hs
theorem cx_n1 {E : String} (h : cx_n 1 E) : E = xi_ := by
  rcases h with ⟨-, z⟩ | ⟨z, -⟩ | ⟨z, -⟩
  · exact z
  · cases z
  · cases z
theorem cx_n2 {E : String} (h : cx_n 2 E) : E = xa_ := by
  rcases h with ⟨z, -⟩ | ⟨-, z⟩ | ⟨z, -⟩
  · cases z
  · exact z
  · cases z
theorem cx_n3 {E : String} (h : cx_n 3 E) : E = xs_ := by
  rcases h with ⟨z, -⟩ | ⟨z, -⟩ | ⟨-, z⟩
  · cases z
  · cases z
  · exact z
/-- a method with a table that returns: one cell of six slots may come -/
abbrev cy_Qi (below : List Frame) (D : va_G) (tys : List (ClassId × FieldType)) (A : Nat → Prop) (args : Array Value) (s : State) (r : Int32) (w1 : va_W) : State → Prop := MQ below (va_Qi (fun r' w => r' = r ∧ w = w1) (ck_B D tys A) A) args s 1 6 A
def cy_i (l : Launch) (y : MethodName) (wy : List Cond) (rm : Room) (av : List Value) (D : va_G) (tys : List (ClassId × FieldType)) (ws : va_W) (r : Int32) (w1 : va_W) : Prop :=
  ∀ sz : Nat, Met l y wy rm (va_Pc av (cx_P D tys ws sz)) (va_Qi (fun r' w => r' = r ∧ w = w1) (ck_B D tys (va_A ws sz)) (va_A ws sz)) 1 6 (va_A ws sz)
theorem cy_iret {r : Int32} {cc : ByteArray} (hx : p.tables.exec = Jvm.exec) (hb : c.code = cc) (hr : meth.sig.returnType = some .int) (hlk : meth.locks = false) (hc : cells ≤ 1) (hs : slots ≤ 6) (hK : va_K D vwCl tys s) (hP : va_P D vwCl w1 H) (hD : va_D A w1) (hS : va_S A s.heap H locs) (hdg : decode cc pc = .ok (.ireturn, 1)) :
    W p l e R s m args below meth c H locs cells slots (cy_Qi below D tys A args s r w1) (F0 m pc ls [.int r]) :=
  W.widen hc hs (W.iret (v := r) hx hb hr (fun t ht hW => ⟨⟨r, w1, rfl, ⟨rfl, rfl⟩, by rw [ht]; exact hP, va_K.moved hW.alike hK, hD⟩, hS.F ht⟩) hS.2.2 hdg hlk)
end CXC
theorem cy_ofi {l : Launch} {y : MethodName} {wy ws0 : List Cond} {rm : Room} {av : List Value} {D : va_G} {tys : List (ClassId × FieldType)} {ws w1 : va_W} {cc : ByteArray} {maxL : Nat} {r : Int32} {hh : List (Nat × Nat × Nat × Nat)} (hy : plainName y.cls = true) (hw : wy = Cond.codeWith y cc maxL (some .int) hh :: ws0)
    (body : ∀ (p : Program) (e : Env) (s : State) (m : MethodId) (below : List Frame) (meth : Method) (c : Code) (A : Nat → Prop), ck_X p s m av.toArray meth c y wy cc maxL (some .int) A → va_K D vwCl tys s → va_P D vwCl ws s.heap → va_D A ws → va_S A s.heap s.heap [] → ev_ A s s.heap → ex_ A s s.heap → c.exceptionTable.toList = tableOf hh →
      W p l e rm s m av.toArray below meth c s.heap [] 0 0 (cy_Qi below D tys A av.toArray s r w1) (entryFrame m av.toArray maxL)) : cy_i l y wy rm av D tys ws r w1 := by
  intro sz
  refine va_MetW (cc := cc) (maxL := maxL) (ret := some .int) (hh := hh) hy hw ?_
  intro p e s m args below meth c s₁ B hml hv
  obtain ⟨rfl, ⟨hsz, hP, hK, hD0, hE⟩, hX⟩ := hv
  subst hsz
  have hts := atoms_spec (ws := wy) B.pre
  exact body p e s m below meth c (va_A ws s.heap.size) ⟨B.exec, B.bytes, B.returns, hml, findClass_of_methodNamed B.named, hts, B.notSynchronized, fun q h => Or.inr h, (name_of_methodNamed B.named B.method).1⟩ hK hP (hD0.self (sz := s.heap.size)) va_S.rf hE hX (vx_table (x := y) B (hts _ (by rw [hw]; exact List.mem_cons_self)))
