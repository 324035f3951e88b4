def ks_l : List Int32 := [0, 1, 2, 2, 2, 3, 2, 2, 2, 2, 1, 1, 1, 1, 1, 1, 2, 2, 2, 2, 3, 3, 2, 2, 2, 2, 1, 2, 2, 2, 1, 1, 1, 1, 0, 0, 1, 0, 1, 1, 1]
def ks_ (j : Nat) : Int32 := ks_l.getD j 0
/-- what a method leans on beside its own cells: the links across the nest, the table of sources -/
def ev_ (A : Nat → Prop) (U : State) (H : Heap) : Prop := (∀ q ∈ nwt, va_Nw (.fieldLinkNest q.1 q.2.1 q.2.2.1 q.2.2.2.1 q.2.2.2.2.1 q.2.2.2.2.2) U) ∧ ∃ t : Nat, va_Z R_Ki "SOURCES" "[I" (.ref t) A U H ∧ va_T .int t 41 (fun j => .int (ks_ j)) A U H
theorem ev_.same {A : Nat → Prop} {u U : State} {H : Heap} (hv : u.vm = U.vm) (h : ev_ A u H) : ev_ A U H := by
  obtain ⟨h1, t, h2, h3⟩ := h
  have ha : u.vm.Alike U.vm := by rw [hv]; exact Vm.Alike.refl _
  exact ⟨fun q hq => va_Nw.same rfl hv (h1 q hq), t, h2.moved ha, h3.moved ha⟩
theorem ev_.moved {A : Nat → Prop} {s U : State} {H : Heap} (h : ev_ A s H) (hW : s.WarmedH U.vm) : ev_ A U H := by
  obtain ⟨h1, t, h2, h3⟩ := h
  exact ⟨fun q hq => va_Nw.warmF hW (h1 q hq), t, h2.moved hW.alike, h3.moved hW.alike⟩
theorem ev_.pass {A B : Nat → Prop} {s : State} {H : Heap} {locs : List Loc} (h : ev_ A s s.heap) (hS : va_S A s.heap H locs) (hF : ∀ q, B q → A q) : ev_ B s H := by
  obtain ⟨h1, t, h2, h3⟩ := h
  exact ⟨h1, t, (h2.kept hS.2.1).narrow hF, (h3.kept hS.2.1).narrow hF⟩
/-! general rows: a contract over a world of cells, told by its end values; calls; checks -/
theorem ch_ite {α : Type} {c : Prop} {d : Decidable c} {a : Option α} {b : α} (h : (@ite _ c d a none) = some b) : c ∧ a = some b := by
  by_cases hc : c
  · rw [if_pos hc] at h; exact ⟨hc, h⟩
  · rw [if_neg hc] at h; cases h
theorem ch_bind {α β : Type} {a : Option α} {f : α → Option β} {b : β} (h : Option.bind a f = some b) : ∃ x, a = some x ∧ f x = some b := by
  cases a with
  | none => cases h
  | some x => exact ⟨x, rfl, h⟩
theorem ch_in {i : Int32} {n : Nat} (h : (0 : Int32) ≤ i ∧ i.toNatClampNeg < n) : vp_in i n := by
  intro q
  rcases q with q | q
  · exact absurd h.1 (Int32.not_le.mpr q)
  · exact absurd h.2 (Nat.not_lt.mpr q)
theorem ch_fm {α β : Type} {f : α → Option β} {is : List α} {w : List β} (h : is.map f = w.map some) : is.filterMap f = w := by
  have e : is.filterMap f = (is.map f).filterMap id := by rw [List.filterMap_map]; rfl
  rw [e, h, List.filterMap_map]
  induction w with
  | nil => rfl
  | cons a l ih => simp
theorem ch_bool {v : Int32} (h : v = 0 ∨ v = 1) : narrow .boolean (.int v) = .int v := by rcases h with rfl | rfl <;> rfl
theorem ch_boolF {v : Int32} (h : v = 0 ∨ v = 1) : fits .boolean (.int v) = true := by rcases h with rfl | rfl <;> rfl
theorem ch_out {x lo hi : Int32} {a b : Int} (h : x < lo ∨ hi < x) (h1 : lo.toInt = a) (h2 : hi.toInt = b) : x.toInt < a ∨ b < x.toInt := by
  subst h1; subst h2
  rcases h with h | h
  · exact Or.inl (Int32.lt_iff_toInt_lt.mp h)
  · exact Or.inr (Int32.lt_iff_toInt_lt.mp h)
def ck_B (D : va_G) (tys : List (ClassId × FieldType)) (A : Nat → Prop) (w : va_W) (t : State) : Prop := va_P D vwCl w t.heap ∧ va_K D vwCl tys t ∧ va_D A w
def ck_P (D : va_G) (tys : List (ClassId × FieldType)) (ws : va_W) (sz : Nat) (U : State) : Prop := U.heap.size = sz ∧ va_P D vwCl ws U.heap ∧ va_K D vwCl tys U ∧ va_D (fun _ => True) ws ∧ ev_ (va_A ws sz) U U.heap
abbrev ck_Qi (below : List Frame) (D : va_G) (tys : List (ClassId × FieldType)) (A : Nat → Prop) (args : Array Value) (s : State) (r : Int32) (w1 : va_W) : State → Prop := MQ below (va_Qi (fun r' w => r' = r ∧ w = w1) (ck_B D tys A) A) args s 0 0 A
abbrev ck_Ql (below : List Frame) (D : va_G) (tys : List (ClassId × FieldType)) (A : Nat → Prop) (args : Array Value) (s : State) (r : Int64) (w1 : va_W) : State → Prop := MQ below (va_Ql (fun r' w => r' = r ∧ w = w1) (ck_B D tys A) A) args s 0 0 A
abbrev ck_Qv (below : List Frame) (D : va_G) (tys : List (ClassId × FieldType)) (A : Nat → Prop) (args : Array Value) (s : State) (w1 : va_W) : State → Prop := MQ below (va_Qv (fun w => w = w1) (ck_B D tys A) A) args s 0 0 A
abbrev ck_Qa (below : List Frame) (D : va_G) (tys : List (ClassId × FieldType)) (A : Nat → Prop) (args : Array Value) (s : State) (r : Nat) (w1 : va_W) : State → Prop := MQ below (va_Qr (fun w => w = w1) (fun w a t => a = r ∧ ck_B D tys A w t) A) args s 0 0 A
def ck_i (l : Launch) (y : MethodName) (wy : List Cond) (rm : Room) (av : List Value) (D : va_G) (tys : List (ClassId × FieldType)) (ws : va_W) (r : Int32) (w1 : va_W) : Prop :=
  ∀ sz : Nat, Met l y wy rm (va_Pc av (ck_P D tys ws sz)) (va_Qi (fun r' w => r' = r ∧ w = w1) (ck_B D tys (va_A ws sz)) (va_A ws sz)) 0 0 (va_A ws sz)
def ck_l (l : Launch) (y : MethodName) (wy : List Cond) (rm : Room) (av : List Value) (D : va_G) (tys : List (ClassId × FieldType)) (ws : va_W) (r : Int64) (w1 : va_W) : Prop :=
  ∀ sz : Nat, Met l y wy rm (va_Pc av (ck_P D tys ws sz)) (va_Ql (fun r' w => r' = r ∧ w = w1) (ck_B D tys (va_A ws sz)) (va_A ws sz)) 0 0 (va_A ws sz)
def ck_v (l : Launch) (y : MethodName) (wy : List Cond) (rm : Room) (av : List Value) (D : va_G) (tys : List (ClassId × FieldType)) (ws : va_W) (w1 : va_W) : Prop :=
  ∀ sz : Nat, Met l y wy rm (va_Pc av (ck_P D tys ws sz)) (va_Qv (fun w => w = w1) (ck_B D tys (va_A ws sz)) (va_A ws sz)) 0 0 (va_A ws sz)
def ck_a (l : Launch) (y : MethodName) (wy : List Cond) (rm : Room) (av : List Value) (D : va_G) (tys : List (ClassId × FieldType)) (ws : va_W) (r : Nat) (w1 : va_W) : Prop :=
  ∀ sz : Nat, Met l y wy rm (va_Pc av (ck_P D tys ws sz)) (va_Qr (fun w => w = w1) (fun w a t => a = r ∧ ck_B D tys (va_A ws sz) w t) (va_A ws sz)) 0 0 (va_A ws sz)
def ck_X (p : Program) (s : State) (m : MethodId) (args : Array Value) (meth : Method) (c : Code) (y : MethodName) (wy : List Cond) (cc : ByteArray) (maxL : Nat) (ret : Option FieldType) (A : Nat → Prop) : Prop :=
  p.tables.exec = Jvm.exec ∧ c.code = cc ∧ meth.sig.returnType = ret ∧ c.maxLocals = maxL ∧ s.vm.findClass y.cls = some m.cls ∧ (∀ w ∈ wy, w.before args s = true) ∧ meth.locks = false ∧ (∀ q : Nat, s.heap.size ≤ q → A q) ∧ meth.name = y.name
theorem ck_blind {av : List Value} {D : va_G} {tys : List (ClassId × FieldType)} {ws : va_W} {sz : Nat} : FrameBlind (va_Pc av (ck_P D tys ws sz)) := by
  intro a U g mk q
  obtain ⟨q0, q1, qP, qK, qD, qE⟩ := q
  exact ⟨q0, q1, qP, va_K.moved (u := U) (U := U.calling g mk a) (Vm.Alike.refl U.vm) qK, qD, ev_.same (u := U) (U := U.calling g mk a) rfl qE⟩
section CKO
variable {l : Launch} {y : MethodName} {wy ws0 : List Cond} {rm : Room} {av : List Value} {D : va_G} {tys : List (ClassId × FieldType)} {ws w1 : va_W} {cc : ByteArray} {maxL : Nat} {ret : Option FieldType} {Qc : (Nat → Prop) → Array Value → State → Outcome → State → Prop}
theorem ck_of (hy : plainFor y = true) (hw : wy = Cond.code y cc maxL ret :: ws0)
    (body : ∀ (p : Program) (e : Env) (s : State) (m : MethodId) (below : List Frame) (meth : Method) (c : Code) (A : Nat → Prop), ck_X p s m av.toArray meth c y wy cc maxL ret A → va_K D vwCl tys s → va_P D vwCl ws s.heap → va_D A ws → va_S A s.heap s.heap [] → ev_ A s s.heap →
      W p l e rm s m av.toArray below meth c s.heap [] 0 0 (MQ below (Qc A) av.toArray s 0 0 A) (entryFrame m av.toArray maxL)) (sz : Nat) :
    Met l y wy rm (va_Pc av (ck_P D tys ws sz)) (Qc (va_A ws sz)) 0 0 (va_A ws sz) := by
  refine va_MetF (cc := cc) (maxL := maxL) (ret := ret) hy hw ?_
  intro p e s m args below meth c s₁ B hml hv
  obtain ⟨rfl, hsz, hP, hK, hD0, hE⟩ := hv
  subst hsz
  exact body p e s m below meth c (va_A ws s.heap.size) ⟨B.exec, B.bytes, B.returns, hml, findClass_of_methodNamed B.named, atoms_spec (ws := wy) B.pre, B.notSynchronized, fun q h => Or.inr h, (name_of_methodNamed B.named B.method).1⟩ hK hP (hD0.self (sz := s.heap.size)) va_S.rf hE
theorem ck_ofi {r : Int32} (hy : plainFor y = true) (hw : wy = Cond.code y cc maxL ret :: ws0) (body : ∀ (p : Program) (e : Env) (s : State) (m : MethodId) (below : List Frame) (meth : Method) (c : Code) (A : Nat → Prop), ck_X p s m av.toArray meth c y wy cc maxL ret A → va_K D vwCl tys s → va_P D vwCl ws s.heap → va_D A ws → va_S A s.heap s.heap [] → ev_ A s s.heap → W p l e rm s m av.toArray below meth c s.heap [] 0 0 (ck_Qi below D tys A av.toArray s r w1) (entryFrame m av.toArray maxL)) : ck_i l y wy rm av D tys ws r w1 := fun sz => ck_of (Qc := fun A => va_Qi (fun r' w => r' = r ∧ w = w1) (ck_B D tys A) A) hy hw body sz
theorem ck_ofl {r : Int64} (hy : plainFor y = true) (hw : wy = Cond.code y cc maxL ret :: ws0) (body : ∀ (p : Program) (e : Env) (s : State) (m : MethodId) (below : List Frame) (meth : Method) (c : Code) (A : Nat → Prop), ck_X p s m av.toArray meth c y wy cc maxL ret A → va_K D vwCl tys s → va_P D vwCl ws s.heap → va_D A ws → va_S A s.heap s.heap [] → ev_ A s s.heap → W p l e rm s m av.toArray below meth c s.heap [] 0 0 (ck_Ql below D tys A av.toArray s r w1) (entryFrame m av.toArray maxL)) : ck_l l y wy rm av D tys ws r w1 := fun sz => ck_of (Qc := fun A => va_Ql (fun r' w => r' = r ∧ w = w1) (ck_B D tys A) A) hy hw body sz
theorem ck_ofv (hy : plainFor y = true) (hw : wy = Cond.code y cc maxL ret :: ws0) (body : ∀ (p : Program) (e : Env) (s : State) (m : MethodId) (below : List Frame) (meth : Method) (c : Code) (A : Nat → Prop), ck_X p s m av.toArray meth c y wy cc maxL ret A → va_K D vwCl tys s → va_P D vwCl ws s.heap → va_D A ws → va_S A s.heap s.heap [] → ev_ A s s.heap → W p l e rm s m av.toArray below meth c s.heap [] 0 0 (ck_Qv below D tys A av.toArray s w1) (entryFrame m av.toArray maxL)) : ck_v l y wy rm av D tys ws w1 := fun sz => ck_of (Qc := fun A => va_Qv (fun w => w = w1) (ck_B D tys A) A) hy hw body sz
theorem ck_ofa {r : Nat} (hy : plainFor y = true) (hw : wy = Cond.code y cc maxL ret :: ws0) (body : ∀ (p : Program) (e : Env) (s : State) (m : MethodId) (below : List Frame) (meth : Method) (c : Code) (A : Nat → Prop), ck_X p s m av.toArray meth c y wy cc maxL ret A → va_K D vwCl tys s → va_P D vwCl ws s.heap → va_D A ws → va_S A s.heap s.heap [] → ev_ A s s.heap → W p l e rm s m av.toArray below meth c s.heap [] 0 0 (ck_Qa below D tys A av.toArray s r w1) (entryFrame m av.toArray maxL)) : ck_a l y wy rm av D tys ws r w1 := fun sz => ck_of (Qc := fun A => va_Qr (fun w => w = w1) (fun w a t => a = r ∧ ck_B D tys A w t) A) hy hw body sz
end CKO
section CKR
variable {p : Program} {l : Launch} {e : Env} {R : Room} {s : State} {m : MethodId} {args : Array Value} {below : List Frame} {meth : Method} {c : Code} {H : Heap} {locs : List Loc} {D : va_G} {tys : List (ClassId × FieldType)} {A : Nat → Prop} {w1 : va_W} {cc : ByteArray} {pc : Nat} {ls : Array Slot}
theorem ck_iret {r : Int32} (hx : p.tables.exec = Jvm.exec) (hb : c.code = cc) (hr : meth.sig.returnType = some .int) (hlk : meth.locks = false) (hK : va_K D vwCl tys s) (hP : va_P D vwCl w1 H) (hD : va_D A w1) (hS : va_S A s.heap H locs) (hdg : decode cc pc = .ok (.ireturn, 1)) :
    W p l e R s m args below meth c H locs 0 0 (ck_Qi below D tys A args s r w1) (F0 m pc ls [.int r]) :=
  W.iret (v := r) hx hb hr (fun t ht hW => ⟨⟨r, w1, rfl, ⟨rfl, rfl⟩, by rw [ht]; exact hP, va_K.moved hW.alike hK, hD⟩, hS.F ht⟩) hS.2.2 hdg hlk
theorem ck_zret {r : Int32} {ty : FieldType} (hx : p.tables.exec = Jvm.exec) (hb : c.code = cc) (hr : meth.sig.returnType = some ty) (hn : narrow ty (.int r) = .int r) (hlk : meth.locks = false) (hK : va_K D vwCl tys s) (hP : va_P D vwCl w1 H) (hD : va_D A w1) (hS : va_S A s.heap H locs) (hdg : decode cc pc = .ok (.ireturn, 1)) :
    W p l e R s m args below meth c H locs 0 0 (ck_Qi below D tys A args s r w1) (F0 m pc ls [.int r]) :=
  W.zret (v := r) hx hb hr hn (fun t ht hW => ⟨⟨r, w1, rfl, ⟨rfl, rfl⟩, by rw [ht]; exact hP, va_K.moved hW.alike hK, hD⟩, hS.F ht⟩) hS.2.2 hdg hlk
theorem ck_lret {r : Int64} (hx : p.tables.exec = Jvm.exec) (hb : c.code = cc) (hr : meth.sig.returnType = some .long) (hlk : meth.locks = false) (hK : va_K D vwCl tys s) (hP : va_P D vwCl w1 H) (hD : va_D A w1) (hS : va_S A s.heap H locs) (hdg : decode cc pc = .ok (.lreturn, 1)) :
    W p l e R s m args below meth c H locs 0 0 (ck_Ql below D tys A args s r w1) (F0 m pc ls [.long r]) :=
  W.lret (v := r) hx hb hr (fun t ht hW => ⟨⟨r, w1, rfl, ⟨rfl, rfl⟩, by rw [ht]; exact hP, va_K.moved hW.alike hK, hD⟩, hS.F ht⟩) hS.2.2 hdg hlk
theorem ck_vret (hx : p.tables.exec = Jvm.exec) (hb : c.code = cc) (hr : meth.sig.returnType = none) (hlk : meth.locks = false) (hK : va_K D vwCl tys s) (hP : va_P D vwCl w1 H) (hD : va_D A w1) (hS : va_S A s.heap H locs) (hdg : decode cc pc = .ok (.return_, 1)) :
    W p l e R s m args below meth c H locs 0 0 (ck_Qv below D tys A args s w1) (F0 m pc ls []) :=
  W.vret hx hb hr (fun t ht hW => ⟨⟨w1, rfl, rfl, by rw [ht]; exact hP, va_K.moved hW.alike hK, hD⟩, hS.F ht⟩) hS.2.2 hdg hlk
theorem ck_aret {r : Nat} {rt : FieldType} (hx : p.tables.exec = Jvm.exec) (hb : c.code = cc) (hr : meth.sig.returnType = some rt) (hrt : (∃ n, rt = .object n) ∨ ∃ t, rt = .array t) (hlk : meth.locks = false) (hK : va_K D vwCl tys s) (hP : va_P D vwCl w1 H) (hD : va_D A w1) (hS : va_S A s.heap H locs) (hdg : decode cc pc = .ok (.areturn, 1)) :
    W p l e R s m args below meth c H locs 0 0 (ck_Qa below D tys A args s r w1) (F0 m pc ls [.ref r]) :=
  W.aret (v := .ref r) hx hb hr hrt (Or.inr ⟨r, rfl⟩) (fun t ht hW => ⟨⟨w1, r, rfl, rfl, rfl, by rw [ht]; exact hP, va_K.moved hW.alike hK, hD⟩, hS.F ht⟩) hS.2.2 hdg hlk
end CKR
section CKC
variable {p : Program} {l : Launch} {e : Env} {R : Room} {s : State} {m : MethodId} {args : Array Value} {below : List Frame} {meth : Method} {c : Code} {H : Heap} {locs : List Loc} {cells slots : Nat} {Q : State → Prop} {D : va_G} {tys : List (ClassId × FieldType)} {A : Nat → Prop} {ws wc wr w1 : va_W} {pc : Nat} {ls : Array Slot} {st0 rest : List Value} {a : Array Value}
theorem ck_preS {As : List Value} (hK : va_K D vwCl tys s) (hP : va_P D vwCl ws H) (hD : va_D A ws) (hS : va_S A s.heap H locs) (hA : ∀ q : Nat, s.heap.size ≤ q → A q) (hE : ev_ A s s.heap) (isC : List Nat) (hn : va_nd isC = true) (hC : isC.map (fun i => ws[i]?) = wc.map some) :
    PreS s H (va_Pc As (ck_P D tys wc H.size)) As :=
  ⟨ck_blind, fun U hU hW => ⟨rfl, by rw [hU], by rw [hU]; exact hP.sub isC (ch_fm hC), va_K.moved hW.alike hK, (hD.sub isC hn hC).weaken (fun _ _ _ _ => trivial), by rw [hU]; exact (ev_.pass hE hS (va_free hD hS hA isC hC)).moved hW⟩⟩
theorem ck_preV {As : List Value} {b : Nat} {C : String} (hK : va_K D vwCl tys s) (hP : va_P D vwCl ws H) (hD : va_D A ws) (hS : va_S A s.heap H locs) (hA : ∀ q : Nat, s.heap.size ≤ q → A q) (hE : ev_ A s s.heap) (q0 : Nat) {ci : Nat} {q : vw_C} {fs : List Value} (hc : vwCl[ci]? = some q) (he : ws[q0]? = some (b, .inr (ci, fs))) (hC1 : q.1 = C) (isC : List Nat) (hn : va_nd isC = true) (hC : isC.map (fun i => ws[i]?) = wc.map some) :
    PreV s H C b (va_Pc (.ref b :: As) (ck_P D tys wc H.size)) As :=
  ⟨ck_blind, by rw [← hC1]; exact va_recv hK hP hc he, (ck_preS hK hP hD hS hA hE isC hn hC).2⟩
theorem ck_goi {r : Int32} (hr : va_Run p l e R s m args below meth c H locs cells slots 0 0 (F0 m pc ls st0) rest (va_Qi (fun r' w => r' = r ∧ w = w1) (ck_B D tys (va_A wc H.size)) (va_A wc H.size) a) (va_A wc H.size))
    (hP : va_P D vwCl ws H) (hD : va_D A ws) (hS : va_S A s.heap H locs) (hA : ∀ q : Nat, s.heap.size ≤ q → A q) (isC isR : List Nat) (hC : isC.map (fun i => ws[i]?) = wc.map some) (hR : isR.map (fun i => ws[i]?) = wr.map some) (hn : va_nd isR = true) (hdis : ∀ i ∈ isR, i ∉ isC)
    (kk : ∀ (H1 : Heap) (locs1 : List Loc), va_P D vwCl (wr ++ w1) H1 → va_D A (wr ++ w1) → va_S A s.heap H1 locs1 → W p l e R s m args below meth c H1 locs1 cells slots Q (F0 m (pc + 3) ls (.int r :: rest))) : W p l e R s m args below meth c H locs cells slots Q (F0 m pc ls st0) := by
  have hFc := va_free hD hS hA isC hC
  refine va_calli hr hS (fun q _ h => hFc q h) hFc (fun r' u t H1 locs1 ht hvm hw hB hz1 hk1 hS1 => ?_)
  obtain ⟨rfl, rfl⟩ := hw
  obtain ⟨hP1, hK1, hD1⟩ := hB
  rw [ht] at hP1
  obtain ⟨hP2, hD2⟩ := va_join hP hD isC isR hC hR hn hdis hk1 hFc hP1 hD1
  exact kk H1 locs1 hP2 hD2 hS1
theorem ck_gol {r : Int64} (hr : va_Run p l e R s m args below meth c H locs cells slots 0 0 (F0 m pc ls st0) rest (va_Ql (fun r' w => r' = r ∧ w = w1) (ck_B D tys (va_A wc H.size)) (va_A wc H.size) a) (va_A wc H.size))
    (hP : va_P D vwCl ws H) (hD : va_D A ws) (hS : va_S A s.heap H locs) (hA : ∀ q : Nat, s.heap.size ≤ q → A q) (isC isR : List Nat) (hC : isC.map (fun i => ws[i]?) = wc.map some) (hR : isR.map (fun i => ws[i]?) = wr.map some) (hn : va_nd isR = true) (hdis : ∀ i ∈ isR, i ∉ isC)
    (kk : ∀ (H1 : Heap) (locs1 : List Loc), va_P D vwCl (wr ++ w1) H1 → va_D A (wr ++ w1) → va_S A s.heap H1 locs1 → W p l e R s m args below meth c H1 locs1 cells slots Q (F0 m (pc + 3) ls (.long r :: rest))) : W p l e R s m args below meth c H locs cells slots Q (F0 m pc ls st0) := by
  have hFc := va_free hD hS hA isC hC
  refine va_calll hr hS (fun q _ h => hFc q h) hFc (fun r' u t H1 locs1 ht hvm hw hB hz1 hk1 hS1 => ?_)
  obtain ⟨rfl, rfl⟩ := hw
  obtain ⟨hP1, hK1, hD1⟩ := hB
  rw [ht] at hP1
  obtain ⟨hP2, hD2⟩ := va_join hP hD isC isR hC hR hn hdis hk1 hFc hP1 hD1
  exact kk H1 locs1 hP2 hD2 hS1
theorem ck_gov (hr : va_Run p l e R s m args below meth c H locs cells slots 0 0 (F0 m pc ls st0) rest (va_Qv (fun w => w = w1) (ck_B D tys (va_A wc H.size)) (va_A wc H.size) a) (va_A wc H.size))
    (hP : va_P D vwCl ws H) (hD : va_D A ws) (hS : va_S A s.heap H locs) (hA : ∀ q : Nat, s.heap.size ≤ q → A q) (isC isR : List Nat) (hC : isC.map (fun i => ws[i]?) = wc.map some) (hR : isR.map (fun i => ws[i]?) = wr.map some) (hn : va_nd isR = true) (hdis : ∀ i ∈ isR, i ∉ isC)
    (kk : ∀ (H1 : Heap) (locs1 : List Loc), va_P D vwCl (wr ++ w1) H1 → va_D A (wr ++ w1) → va_S A s.heap H1 locs1 → W p l e R s m args below meth c H1 locs1 cells slots Q (F0 m (pc + 3) ls rest)) : W p l e R s m args below meth c H locs cells slots Q (F0 m pc ls st0) := by
  have hFc := va_free hD hS hA isC hC
  refine va_callv hr hS (fun q _ h => hFc q h) hFc (fun u t H1 locs1 ht hvm hw hB hz1 hk1 hS1 => ?_)
  subst hw
  obtain ⟨hP1, hK1, hD1⟩ := hB
  rw [ht] at hP1
  obtain ⟨hP2, hD2⟩ := va_join hP hD isC isR hC hR hn hdis hk1 hFc hP1 hD1
  exact kk H1 locs1 hP2 hD2 hS1
theorem ck_goa {r : Nat} (hr : va_Run p l e R s m args below meth c H locs cells slots 0 0 (F0 m pc ls st0) rest (va_Qr (fun w => w = w1) (fun w a t => a = r ∧ ck_B D tys (va_A wc H.size) w t) (va_A wc H.size) a) (va_A wc H.size))
    (hP : va_P D vwCl ws H) (hD : va_D A ws) (hS : va_S A s.heap H locs) (hA : ∀ q : Nat, s.heap.size ≤ q → A q) (isC isR : List Nat) (hC : isC.map (fun i => ws[i]?) = wc.map some) (hR : isR.map (fun i => ws[i]?) = wr.map some) (hn : va_nd isR = true) (hdis : ∀ i ∈ isR, i ∉ isC)
    (kk : ∀ (H1 : Heap) (locs1 : List Loc), va_P D vwCl (wr ++ w1) H1 → va_D A (wr ++ w1) → va_S A s.heap H1 locs1 → W p l e R s m args below meth c H1 locs1 cells slots Q (F0 m (pc + 3) ls (.ref r :: rest))) : W p l e R s m args below meth c H locs cells slots Q (F0 m pc ls st0) := by
  have hFc := va_free hD hS hA isC hC
  refine va_callr hr hS (fun q _ h => hFc q h) hFc (fun u ra t H1 locs1 ht hvm hw hB hz1 hk1 hS1 => ?_)
  subst hw
  obtain ⟨rfl, hP1, hK1, hD1⟩ := hB
  rw [ht] at hP1
  obtain ⟨hP2, hD2⟩ := va_join hP hD isC isR hC hR hn hdis hk1 hFc hP1 hD1
  exact kk H1 locs1 hP2 hD2 hS1
end CKC
