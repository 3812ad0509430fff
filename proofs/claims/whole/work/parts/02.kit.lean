/-! The judgement of a walk with its world (xW), the contract (xC), the rows of calls, throws, returns. -/
abbrev xE : Type := va_G × (Nat → Nat)
def xtys (E : xE) : List (ClassId × FieldType) := [(E.2 0, .byte), (E.2 1, .int), (E.2 2, .long), (E.2 3, .boolean)]
def sixT (j : Nat) : Int32 := [39, 29, 45, 49, 53, 41, 25, 56, 57, 37, 21, 52, 13, 44, 28, 23, 27, 35, 19, 50, 11, 42, 26, 58, 51, 38, 22, 54, 14, 46, 30, 43].getD j 0
def fourT (j : Nat) : Int32 := [11, 9, 5, 12, 13, 10, 6, 14].getD j 0
/-- a static of Throwable's that holds a reference or null -/
def xSt (n d : String) (A : Nat → Prop) (U : State) (H : Heap) : Prop := ∃ (c : ClassId) (k : Class) (i : Nat) (f : Field) (a : Nat) (cell : Cell) (v : Value), U.vm.findClass Bundle.tN = some c ∧ U.fieldFound? Bundle.tN n d = some (c, k, i, f) ∧ f.isStatic = true ∧ k.statics = some a ∧ cell.vm.isStatics = true ∧ cell.cls = c ∧ f.slot < cell.slots.size ∧ k.staticTypes[f.slot]? = some f.type ∧ cell.slots[f.slot]? = some v ∧ v.isRef = true ∧ H[a]? = some cell ∧ ¬ A a
theorem xSt.moved {n d : String} {A : Nat → Prop} {u U : State} {H : Heap} (hvm : u.vm.Alike U.vm) (h : xSt n d A u H) : xSt n d A U H := by
  obtain ⟨c, k, i, f, a, cell, v, h1, h2, h3, h4, h5, h6, h7, h8, h9⟩ := h
  obtain ⟨k', hi', he⟩ := State.fieldFound?_setVm hvm h2
  exact ⟨c, k', i, f, a, cell, v, by rw [hvm.findClass]; exact h1, hi', h3, by rw [he]; exact h4, h5, h6, h7, by rw [he]; exact h8, h9⟩
theorem xSt.kept {n d : String} {A : Nat → Prop} {U : State} {H H1 : Heap} (h : xSt n d A U H) (hq : ∀ a : Nat, a < H.size → ¬ A a → H1[a]? = H[a]?) : xSt n d A U H1 := by
  obtain ⟨c, k, i, f, a, cell, v, h1, h2, h3, h4, h5, h6, h7, h8, h9, h10, h11, h12⟩ := h
  exact ⟨c, k, i, f, a, cell, v, h1, h2, h3, h4, h5, h6, h7, h8, h9, h10, by rw [hq a (Array.getElem?_eq_some_iff.mp h11).1 h12]; exact h11, h12⟩
theorem xSt.narrow {n d : String} {A B : Nat → Prop} {U : State} {H : Heap} (h : xSt n d A U H) (hAB : ∀ q, B q → A q) : xSt n d B U H := by
  obtain ⟨c, k, i, f, a, cell, v, h1, h2, h3, h4, h5, h6, h7, h8, h9, h10, h11, h12⟩ := h
  exact ⟨c, k, i, f, a, cell, v, h1, h2, h3, h4, h5, h6, h7, h8, h9, h10, h11, fun z => h12 (hAB _ z)⟩
theorem xSt.lays {n d : String} {A : Nat → Prop} {U : State} {args : Array Value} (h : xSt n d A U U.heap) : (Cond.laysStatic Bundle.tN n d).before args U = true := by
  obtain ⟨c, k, i, f, a, cell, v, h1, h2, h3, h4, h5, h6, h7, h8, h9, h10, h11, h12⟩ := h
  exact Cond.laysStatic_of h1 h2 h3 h4 h11 h5 h6 h7 h8
theorem xSt.ref {n d : String} {A : Nat → Prop} {U : State} {args : Array Value} (h : xSt n d A U U.heap) : (Cond.isRef (.static Bundle.tN n d)).before args U = true := by
  obtain ⟨c, k, i, f, a, cell, v, h1, h2, h3, h4, h5, h6, h7, h8, h9, h10, h11, h12⟩ := h
  have ev : (Term.static Bundle.tN n d).eval args U none [] U = some v := by
    simp [Term.eval, State.fieldNamed?, h2, h3, h4, h11, h5, h9]
  simp only [Cond.before, Cond.holds, Cond.value, ev]
  cases v <;> simp_all [Value.isRef]
/-- what the tables of constants hold: carried everywhere -/
def xZ (E : xE) (A : Nat → Prop) (U : State) (H : Heap) : Prop :=
  (xSt "UNASSIGNED_STACK" Bundle.steD A U H ∧ va_Nc "java/lang/IllegalStateException" "java/lang/IllegalArgumentException" U ∧ va_Nc "java/lang/IndexOutOfBoundsException" "java/lang/IllegalArgumentException" U) ∧ xSt "SUPPRESSED_SENTINEL" Bundle.listD A U H ∧ va_Z "LineCoder$TenCode" "SIX" "[I" (.ref (E.2 10)) A U H ∧ va_T .int (E.2 10) 32 (fun j => .int (sixT j)) A U H ∧ va_Z "LineCoder$TenCode" "FOUR" "[I" (.ref (E.2 11)) A U H ∧ va_T .int (E.2 11) 8 (fun j => .int (fourT j)) A U H
theorem xZ.moved {E : xE} {A : Nat → Prop} {u U : State} {H : Heap} (hW : u.WarmedH U.vm) (h : xZ E A u H) : xZ E A U H := ⟨⟨xSt.moved hW.alike h.1.1, va_Nc.moved hW.alike h.1.2.1, va_Nc.moved hW.alike h.1.2.2⟩, xSt.moved hW.alike h.2.1, va_Z.moved hW.alike h.2.2.1, va_T.moved hW.alike h.2.2.2.1, va_Z.moved hW.alike h.2.2.2.2.1, va_T.moved hW.alike h.2.2.2.2.2⟩
theorem xZ.kept {E : xE} {A : Nat → Prop} {U : State} {H H1 : Heap} (h : xZ E A U H) (hq : ∀ a : Nat, a < H.size → ¬ A a → H1[a]? = H[a]?) : xZ E A U H1 := ⟨⟨h.1.1.kept hq, h.1.2⟩, h.2.1.kept hq, h.2.2.1.kept hq, h.2.2.2.1.kept hq, h.2.2.2.2.1.kept hq, h.2.2.2.2.2.kept hq⟩
theorem xZ.narrow {E : xE} {A B : Nat → Prop} {U : State} {H : Heap} (h : xZ E A U H) (hAB : ∀ q, B q → A q) : xZ E B U H := ⟨⟨h.1.1.narrow hAB, h.1.2⟩, h.2.1.narrow hAB, h.2.2.1.narrow hAB, h.2.2.2.1.narrow hAB, h.2.2.2.2.1.narrow hAB, h.2.2.2.2.2.narrow hAB⟩
/-- a value returned, or an exception of a class -/
abbrev xO : Type := Option Value ⊕ String
def xIs (sz : Nat) (o : xO) (oc : Outcome) (t : State) : Prop := match o with
  | .inl v => oc = .returned v
  | .inr C => ∃ (a : Nat) (cell : Cell), oc = .threw a ∧ sz ≤ a ∧ t.heap[a]? = some cell ∧ cell.vm.isStatics = false ∧ t.vm.findClass C = some cell.cls
def xPre (E : xE) (av : List Value) (w : va_W) (sz : Nat) : Array Value → State → Prop := fun v U => v = av.toArray ∧ U.heap.size = sz ∧ va_P E.1 vwCl w U.heap ∧ va_K E.1 vwCl (xtys E) U ∧ va_D (fun _ => True) w ∧ xZ E (va_A w sz) U U.heap
def xPost (E : xE) (w : va_W) (sz : Nat) (Post : xO → va_W → Prop) : Array Value → State → Outcome → State → Prop := fun _ st oc t => (∃ (o : xO) (w' : va_W), xIs sz o oc t ∧ Post o w' ∧ va_P E.1 vwCl w' t.heap ∧ va_D (va_A w sz) w') ∧ va_F (va_A w sz) st t
/-- method y with arguments av in the world w: it ends, 'Post outcome world'; hd is its code word -/
def xC (l : Launch) (E : xE) (y : MethodName) (hd : Cond) (rm : Room) (av : List Value) (w : va_W) (Post : xO → va_W → Prop) : Prop :=
  ∀ sz : Nat, xMet l y (hd :: xG) rm (xPre E av w sz) (xPost E w sz Post) (va_A w sz)
theorem x_blind {E : xE} {av : List Value} {w : va_W} {sz : Nat} : FrameBlind (xPre E av w sz) := by
  intro a U g mk h
  obtain ⟨h1, h2, h3, h4, h5, h6⟩ := h
  exact ⟨h1, h2, h3, va_K.moved (u := U) (U := U.calling g mk a) (Vm.Alike.refl U.vm) h4, h5, xZ.moved (u := U) (U := U.calling g mk a) (State.WarmedH.refl U) h6⟩
def xMQ (below : List Frame) (E : xE) (w : va_W) (a : Array Value) (s : State) (mc ms : Nat) (Post : xO → va_W → Prop) : State → Prop := fun t =>
  ∃ o, t.status = .running ∧ Ended t below o ∧ xPost E w s.heap.size Post a s o t ∧ ∃ L, xEnd s t L mc ms ∧ ∀ q ∈ L, va_A w s.heap.size q.base
section XW
variable (p : Program) (l : Launch) (e : Env) (R : Room) (s : State) (m : MethodId) (args : Array Value) (below : List Frame) (meth : Method) (c : Code)
/-- the walk's judgement: at pc, locals lv, stack st, in the world ws, k cells and n slots made -/
def xW (nL : Nat) (E : xE) (B A : Nat → Prop) (k n : Nat) (Q : State → Prop) (ws : va_W) (pc : Nat) (lv : List (Nat × Value)) (st : List Value) : Prop :=
  ∀ (H : Heap) (locs : List Loc) (ls : Array Slot), lv_has ls nL lv → va_P E.1 vwCl ws H → va_D B ws → va_S A s.heap H locs → W p l e R s m args below meth c H locs k n Q (F0 m pc ls st)
/-- an exception of class C is being thrown at pc -/
def xT (nL : Nat) (E : xE) (B A : Nat → Prop) (k n : Nat) (Q : State → Prop) (ws : va_W) (pc : Nat) (lv : List (Nat × Value)) (C : String) : Prop :=
  ∀ (H : Heap) (locs : List Loc) (ls : Array Slot) (st : List Value) (a : Nat) (cell : Cell), lv_has ls nL lv → va_P E.1 vwCl ws H → va_D B ws → va_S A s.heap H locs → s.heap.size ≤ a → H[a]? = some cell → cell.vm.isStatics = false → s.vm.findClass C = some cell.cls →
    ∀ T : State, T.heap = H → Stand p l e R s m args below meth c T locs k n → ∃ t, Steps p.tables e below ((T.setTop (F0 m pc ls st)).pushFrame (.throwing a)) t ∧ Q t
end XW
/-- what stays the same over a method's walk -/
def xB (p : Program) (s : State) (m : MethodId) (args : Array Value) (meth : Method) (c : Code) (E : xE) (A : Nat → Prop) (own : String) (cc : ByteArray) (nL : Nat) (ret : Option FieldType) (mn : String) (hs : List (Nat × Nat × Nat × Nat)) : Prop :=
  p.tables.exec = Jvm.exec ∧ c.code = cc ∧ c.maxLocals = nL ∧ s.vm.findClass own = some m.cls ∧ (∀ w ∈ xG, w.before args s = true) ∧ va_K E.1 vwCl (xtys E) s ∧ xZ E A s s.heap ∧ meth.sig.returnType = ret ∧ meth.locks = false ∧ (∀ q, s.heap.size ≤ q → A q) ∧ meth.name = mn ∧ (∀ q, A q → ∀ cell : Cell, s.heap[q]? = some cell → cell.vm.isStatics = false) ∧ c.exceptionTable.toList.map (fun h => (h.startPc, h.endPc, h.handlerPc, h.catchType)) = hs
section XR
variable {p : Program} {l : Launch} {e : Env} {R : Room} {s : State} {m : MethodId} {args : Array Value} {below : List Frame} {meth : Method} {c : Code} {nL : Nat} {E : xE} {B A : Nat → Prop} {k n : Nat} {Q : State → Prop} {ws : va_W} {pc : Nat} {lv : List (Nat × Value)} {st rest : List Value} {own mn : String} {cc : ByteArray} {ret : Option FieldType} {hs : List (Nat × Nat × Nat × Nat)}
theorem xB.qx (h : xB p s m args meth c E A own cc nL ret mn hs) : p.tables.exec = Jvm.exec := h.1
theorem xB.qb (h : xB p s m args meth c E A own cc nL ret mn hs) : c.code = cc := h.2.1
theorem xB.ql (h : xB p s m args meth c E A own cc nL ret mn hs) : c.maxLocals = nL := h.2.2.1
theorem xB.qo (h : xB p s m args meth c E A own cc nL ret mn hs) : s.vm.findClass own = some m.cls := h.2.2.2.1
theorem xB.qt (h : xB p s m args meth c E A own cc nL ret mn hs) : ∀ w ∈ xG, w.before args s = true := h.2.2.2.2.1
theorem xB.qk (h : xB p s m args meth c E A own cc nL ret mn hs) : va_K E.1 vwCl (xtys E) s := h.2.2.2.2.2.1
theorem xB.qz (h : xB p s m args meth c E A own cc nL ret mn hs) : xZ E A s s.heap := h.2.2.2.2.2.2.1
theorem xB.qr (h : xB p s m args meth c E A own cc nL ret mn hs) : meth.sig.returnType = ret := h.2.2.2.2.2.2.2.1
theorem xB.qn (h : xB p s m args meth c E A own cc nL ret mn hs) : meth.locks = false := h.2.2.2.2.2.2.2.2.1
theorem xB.qa (h : xB p s m args meth c E A own cc nL ret mn hs) : ∀ q, s.heap.size ≤ q → A q := h.2.2.2.2.2.2.2.2.2.1
theorem xB.qm (h : xB p s m args meth c E A own cc nL ret mn hs) : meth.name = mn := h.2.2.2.2.2.2.2.2.2.2.1
theorem xB.qs (h : xB p s m args meth c E A own cc nL ret mn hs) : ∀ q, A q → ∀ cell : Cell, s.heap[q]? = some cell → cell.vm.isStatics = false := h.2.2.2.2.2.2.2.2.2.2.2.1
theorem xB.qe (h : xB p s m args meth c E A own cc nL ret mn hs) : c.exceptionTable.toList.map (fun h => (h.startPc, h.endPc, h.handlerPc, h.catchType)) = hs := h.2.2.2.2.2.2.2.2.2.2.2.2
theorem x_nst {D : va_G} {cl : List vw_C} {w : va_W} {H : Heap} (hP : va_P D cl w H) : ∀ q, va_A w H.size q → ∀ cell : Cell, H[q]? = some cell → cell.vm.isStatics = false := by
  intro q hq cell hc
  rcases hq with ⟨k, e, hk⟩ | hq
  · have h := hP k (q, e) hk
    cases e with
    | inl a =>
      have h : H[q]? = some (vp_cell a.1 a.2) := h
      rw [hc] at h
      cases h
      obtain ⟨c, n, v⟩ := a
      rcases v with f | f | f | f | f <;> rfl
    | inr o =>
      obtain ⟨r, -, cell', h1, h2, h3, -⟩ := h
      have h1 : H[q]? = some cell' := h1
      rw [hc] at h1
      cases h1
      rw [h3]
      rfl
  · exact absurd (Array.getElem?_eq_some_iff.mp hc).1 (by omega)
/-- a contract out of a walk from the method's entry -/
theorem x_of {y : MethodName} {rm : Room} {av : List Value} {w : va_W} {Post : xO → va_W → Prop} (hy : plainFor y = true) (hsl : (lg_sl av).length ≤ nL) (hlv : lv_args 0 av = lv)
    (body : ∀ p e s m args below meth c A, A = va_A w s.heap.size → xB p s m args meth c E A y.cls cc nL ret y.name [] → xW p l e rm s m args below meth c nL E A A 0 0 (xMQ below E w args s rm.cells rm.slots Post) w 0 lv []) : xC l E y (.code y cc nL ret) rm av w Post := by
  intro sz
  refine MetFree.of_bodySF (code := cc) (maxLocals := nL) (ret := ret) hy ?_ ?_
  · intro args s m h hn
    obtain ⟨meth, c, h1, h2, h3, h4, h5, h6, -, -⟩ := Cond.code_spec hn (atoms_spec (ws := Cond.code y cc nL ret :: xG) h _ List.mem_cons_self)
    exact ⟨meth, c, h1, h2, h3, h4, h5, h6⟩
  · intro p e s m args below meth c s₁ B hml hP _
    obtain ⟨rfl, rfl, hP, hK, hD, hZ⟩ := hP
    have hts := atoms_spec (ws := Cond.code y cc nL ret :: xG) B.pre
    have hh0 : s₁.heap = s.heap := by rw [B.state]; rfl
    have hne : c.exceptionTable.isEmpty = true := B.noHandlers (hts _ List.mem_cons_self)
    have hl := lv_entry av (n := nL) hsl
    have K : W p l e rm s m av.toArray below meth c s.heap [] 0 0 (xMQ below E w av.toArray s rm.cells rm.slots Post) (entryFrame m av.toArray nL) := by
      rw [lg_entry_eq]
      refine body p e s m av.toArray below meth c _ rfl ⟨B.exec, B.bytes, hml, findClass_of_methodNamed B.named, fun w hw => hts w (List.mem_cons_of_mem _ hw), hK, hZ, B.returns, B.notSynchronized, fun q h => Or.inr h, (name_of_methodNamed B.named B.method).1, x_nst hP, ?_⟩ s.heap [] _ ?_ hP hD.self va_S.rf
      · rw [show c.exceptionTable = #[] from Array.isEmpty_iff.mp hne]; rfl
      · rw [← hlv]; exact hl
    obtain ⟨t, a1, o, b1, b2, b3, b4⟩ := K s₁ hh0 (Stand.of_body B)
    exact ⟨t, o, a1, b1, b2, b3, b4⟩
/-- the same for a method with handlers -/
theorem x_ofH {y : MethodName} {rm : Room} {av : List Value} {w : va_W} {Post : xO → va_W → Prop} (hy : plainFor y = true) (hsl : (lg_sl av).length ≤ nL) (hlv : lv_args 0 av = lv)
    (body : ∀ p e s m args below meth c A, A = va_A w s.heap.size → xB p s m args meth c E A y.cls cc nL ret y.name hs → xW p l e rm s m args below meth c nL E A A 0 0 (xMQ below E w args s rm.cells rm.slots Post) w 0 lv []) : xC l E y (.codeWith y cc nL ret hs) rm av w Post := by
  intro sz
  refine MetFree.of_bodySF (code := cc) (maxLocals := nL) (ret := ret) hy ?_ ?_
  · intro args s m h hn
    obtain ⟨m', meth, c, h0, h1, h2, h3, h4, -, h5, h6, -⟩ := Cond.codeWith_spec (atoms_spec (ws := Cond.codeWith y cc nL ret hs :: xG) h _ List.mem_cons_self)
    cases hn.symm.trans h0
    exact ⟨meth, c, h1, h2, h3, h4, h5, h6⟩
  · intro p e s m args below meth c s₁ B hml hP _
    obtain ⟨rfl, rfl, hP, hK, hD, hZ⟩ := hP
    have hts := atoms_spec (ws := Cond.codeWith y cc nL ret hs :: xG) B.pre
    have hh0 : s₁.heap = s.heap := by rw [B.state]; rfl
    have hl := lv_entry av (n := nL) hsl
    have hex : c.exceptionTable.toList.map (fun h => (h.startPc, h.endPc, h.handlerPc, h.catchType)) = hs := by
      obtain ⟨m', meth', c', h0, h1, h2, h3, h4, h5, -⟩ := Cond.codeWith_spec (hts _ List.mem_cons_self)
      cases B.named.symm.trans h0
      cases B.method.symm.trans h1
      cases (Stand.of_body B).code.symm.trans h2
      exact h5
    have K : W p l e rm s m av.toArray below meth c s.heap [] 0 0 (xMQ below E w av.toArray s rm.cells rm.slots Post) (entryFrame m av.toArray nL) := by
      rw [lg_entry_eq]
      refine body p e s m av.toArray below meth c _ rfl ⟨B.exec, B.bytes, hml, findClass_of_methodNamed B.named, fun w hw => hts w (List.mem_cons_of_mem _ hw), hK, hZ, B.returns, B.notSynchronized, fun q h => Or.inr h, (name_of_methodNamed B.named B.method).1, x_nst hP, hex⟩ s.heap [] _ ?_ hP hD.self va_S.rf
      rw [← hlv]; exact hl
    obtain ⟨t, a1, o, b1, b2, b3, b4⟩ := K s₁ hh0 (Stand.of_body B)
    exact ⟨t, o, a1, b1, b2, b3, b4⟩
theorem x_cb {N b : Nat} (h : N < 65536) (hb : b ≤ 8) : N * b ≤ 536870912 := Nat.le_trans (Nat.mul_le_mul_left _ hb) (by omega)
theorem x_iconst (npc : Nat) (hB : xB p s m args meth c E A own cc nL ret mn hs) {z : Int} {v : Int32} (hd : decode cc pc = .ok (.iconst z, 1)) (hn : pc + 1 = npc) (hv : Int32.ofInt z = v) (kk : xW p l e R s m args below meth c nL E B A k n Q ws npc lv (.int v :: rest)) : xW p l e R s m args below meth c nL E B A k n Q ws pc lv (rest) := fun H locs ls hl hP hD hS => by
  subst hn
  exact lv_iconst hB.qx hB.qb hd hv (kk H locs ls hl hP hD hS)
theorem x_bipush (npc : Nat) (hB : xB p s m args meth c E A own cc nL ret mn hs) {z : Int} {v : Int32} (hd : decode cc pc = .ok (.bipush z, 2)) (hn : pc + 2 = npc) (hv : (Int8.ofInt z).toInt32 = v) (kk : xW p l e R s m args below meth c nL E B A k n Q ws npc lv (.int v :: rest)) : xW p l e R s m args below meth c nL E B A k n Q ws pc lv (rest) := fun H locs ls hl hP hD hS => by
  subst hn
  exact lv_bipush hB.qx hB.qb hd hv (kk H locs ls hl hP hD hS)
theorem x_sipush (npc : Nat) (hB : xB p s m args meth c E A own cc nL ret mn hs) {z : Int} {v : Int32} (hd : decode cc pc = .ok (.sipush z, 3)) (hn : pc + 3 = npc) (hv : (Int16.ofInt z).toInt32 = v) (kk : xW p l e R s m args below meth c nL E B A k n Q ws npc lv (.int v :: rest)) : xW p l e R s m args below meth c nL E B A k n Q ws pc lv (rest) := fun H locs ls hl hP hD hS => by
  subst hn
  exact lv_sipush hB.qx hB.qb hd hv (kk H locs ls hl hP hD hS)
theorem x_lconst (npc : Nat) (hB : xB p s m args meth c E A own cc nL ret mn hs) {z : Fin 2} {v : Int64} (hd : decode cc pc = .ok (.lconst z, 1)) (hn : pc + 1 = npc) (hv : Int64.ofNat (z : Nat) = v) (kk : xW p l e R s m args below meth c nL E B A k n Q ws npc lv (.long v :: rest)) : xW p l e R s m args below meth c nL E B A k n Q ws pc lv (rest) := fun H locs ls hl hP hD hS => by
  subst hn
  exact lv_lconst hB.qx hB.qb hd hv (kk H locs ls hl hP hD hS)
theorem x_ldc (npc : Nat) (hB : xB p s m args meth c E A own cc nL ret mn hs) {z : Nat} {v : Int32} (hd : decode cc pc = .ok (.ldc z, 2)) (hn : pc + 2 = npc) (hw : Cond.constant own z v ∈ xG) (kk : xW p l e R s m args below meth c nL E B A k n Q ws npc lv (.int v :: rest)) : xW p l e R s m args below meth c nL E B A k n Q ws pc lv (rest) := fun H locs ls hl hP hD hS => by
  subst hn
  exact lv_ldc hB.qx hB.qb hB.qo (hB.qt _ hw) hd (kk H locs ls hl hP hD hS)
theorem x_ldc2 (npc : Nat) (hB : xB p s m args meth c E A own cc nL ret mn hs) {z : Nat} {v : Int64} (hd : decode cc pc = .ok (.ldc2_w z, 3)) (hn : pc + 3 = npc) (hw : Cond.constantLong own z v ∈ xG) (kk : xW p l e R s m args below meth c nL E B A k n Q ws npc lv (.long v :: rest)) : xW p l e R s m args below meth c nL E B A k n Q ws pc lv (rest) := fun H locs ls hl hP hD hS => by
  subst hn
  exact lv_ldc2 hB.qx hB.qb hB.qo (hB.qt _ hw) hd (kk H locs ls hl hP hD hS)
theorem x_null (npc : Nat) (hB : xB p s m args meth c E A own cc nL ret mn hs)  (hd : decode cc pc = .ok (.aconst_null, 1)) (hn : pc + 1 = npc)  (kk : xW p l e R s m args below meth c nL E B A k n Q ws npc lv (.null :: rest)) : xW p l e R s m args below meth c nL E B A k n Q ws pc lv (rest) := fun H locs ls hl hP hD hS => by
  subst hn
  exact lv_null hB.qx hB.qb hd (kk H locs ls hl hP hD hS)
theorem x_lk {ls : Array Slot} {nL : Nat} {lv : List (Nat × Value)} (h : lv_has ls nL lv) {i : Nat} {v : Value} (hk : List.lookup i lv = some v) : ls[i]? = some (.val v) := by
  refine h.2.2 (i, v) ?_
  clear h
  induction lv with
  | nil => simp at hk
  | cons q t ih =>
    obtain ⟨j, w⟩ := q
    rw [List.lookup_cons] at hk
    by_cases hj : i = j
    · subst hj
      simp at hk
      subst hk
      exact List.mem_cons_self
    · have hb : (i == j) = false := by simpa using hj
      rw [hb] at hk
      exact List.mem_cons_of_mem _ (ih hk)
theorem x_iload_n (npc : Nat) (hB : xB p s m args meth c E A own cc nL ret mn hs) {z : Fin 4} {v : Int32} (hd : decode cc pc = .ok (.iload_n z, 1)) (hn : pc + 1 = npc) (hk : List.lookup (z : Nat) lv = some (.int v)) (kk : xW p l e R s m args below meth c nL E B A k n Q ws npc lv (.int v :: rest)) : xW p l e R s m args below meth c nL E B A k n Q ws pc lv (rest) := fun H locs ls hl hP hD hS => by
  subst hn
  exact lv_iload_n hB.qx hB.qb hd rfl (x_lk hl hk) (kk H locs ls hl hP hD hS)
theorem x_iload (npc : Nat) (hB : xB p s m args meth c E A own cc nL ret mn hs) {z : Nat} {v : Int32} (hd : decode cc pc = .ok (.iload z, 2)) (hn : pc + 2 = npc) (hk : List.lookup z lv = some (.int v)) (kk : xW p l e R s m args below meth c nL E B A k n Q ws npc lv (.int v :: rest)) : xW p l e R s m args below meth c nL E B A k n Q ws pc lv (rest) := fun H locs ls hl hP hD hS => by
  subst hn
  exact lv_iload hB.qx hB.qb hd (x_lk hl hk) (kk H locs ls hl hP hD hS)
theorem x_lload_n (npc : Nat) (hB : xB p s m args meth c E A own cc nL ret mn hs) {z : Fin 4} {v : Int64} (hd : decode cc pc = .ok (.lload_n z, 1)) (hn : pc + 1 = npc) (hk : List.lookup (z : Nat) lv = some (.long v)) (kk : xW p l e R s m args below meth c nL E B A k n Q ws npc lv (.long v :: rest)) : xW p l e R s m args below meth c nL E B A k n Q ws pc lv (rest) := fun H locs ls hl hP hD hS => by
  subst hn
  exact lv_lload_n hB.qx hB.qb hd rfl (x_lk hl hk) (kk H locs ls hl hP hD hS)
theorem x_lload (npc : Nat) (hB : xB p s m args meth c E A own cc nL ret mn hs) {z : Nat} {v : Int64} (hd : decode cc pc = .ok (.lload z, 2)) (hn : pc + 2 = npc) (hk : List.lookup z lv = some (.long v)) (kk : xW p l e R s m args below meth c nL E B A k n Q ws npc lv (.long v :: rest)) : xW p l e R s m args below meth c nL E B A k n Q ws pc lv (rest) := fun H locs ls hl hP hD hS => by
  subst hn
  exact lv_lload hB.qx hB.qb hd (x_lk hl hk) (kk H locs ls hl hP hD hS)
theorem x_aload_n (npc : Nat) (hB : xB p s m args meth c E A own cc nL ret mn hs) {z : Fin 4} {v : Nat} (hd : decode cc pc = .ok (.aload_n z, 1)) (hn : pc + 1 = npc) (hk : List.lookup (z : Nat) lv = some (.ref v)) (kk : xW p l e R s m args below meth c nL E B A k n Q ws npc lv (.ref v :: rest)) : xW p l e R s m args below meth c nL E B A k n Q ws pc lv (rest) := fun H locs ls hl hP hD hS => by
  subst hn
  exact lv_aload_n hB.qx hB.qb hd rfl (x_lk hl hk) (kk H locs ls hl hP hD hS)
theorem x_aload (npc : Nat) (hB : xB p s m args meth c E A own cc nL ret mn hs) {z : Nat} {v : Nat} (hd : decode cc pc = .ok (.aload z, 2)) (hn : pc + 2 = npc) (hk : List.lookup z lv = some (.ref v)) (kk : xW p l e R s m args below meth c nL E B A k n Q ws npc lv (.ref v :: rest)) : xW p l e R s m args below meth c nL E B A k n Q ws pc lv (rest) := fun H locs ls hl hP hD hS => by
  subst hn
  exact lv_aload hB.qx hB.qb hd (x_lk hl hk) (kk H locs ls hl hP hD hS)
theorem x_aload_nN (npc : Nat) (hB : xB p s m args meth c E A own cc nL ret mn hs) {z : Fin 4} (hd : decode cc pc = .ok (.aload_n z, 1)) (hn : pc + 1 = npc) (hk : List.lookup (z : Nat) lv = some .null) (kk : xW p l e R s m args below meth c nL E B A k n Q ws npc lv (.null :: rest)) : xW p l e R s m args below meth c nL E B A k n Q ws pc lv (rest) := fun H locs ls hl hP hD hS => by
  subst hn
  exact lv_aload_nN hB.qx hB.qb hd rfl (x_lk hl hk) (kk H locs ls hl hP hD hS)
theorem x_istore_n (npc : Nat) (hB : xB p s m args meth c E A own cc nL ret mn hs) {z : Fin 4} {v : Int32} {lv' : List (Nat × Value)} (hd : decode cc pc = .ok (.istore_n z, 1)) (hn : pc + 1 = npc) (hi : (z : Nat) < nL) (hl' : ((z : Nat), Value.int v) :: lv.filter (fun q => !(q.1 == (z : Nat)) && !(q.1 + 1 == (z : Nat) && q.2.category == 2)) = lv') (kk : xW p l e R s m args below meth c nL E B A k n Q ws npc lv' rest) : xW p l e R s m args below meth c nL E B A k n Q ws pc lv (.int v :: rest) := fun H locs ls hl hP hD hS => by
  subst hn
  exact lv_istore_n hB.qx hB.qb hd rfl hl hi hl' (fun ls' hl' => kk H locs ls' hl' hP hD hS)
theorem x_istore (npc : Nat) (hB : xB p s m args meth c E A own cc nL ret mn hs) {z : Nat} {v : Int32} {lv' : List (Nat × Value)} (hd : decode cc pc = .ok (.istore z, 2)) (hn : pc + 2 = npc) (hi : z < nL) (hl' : (z, Value.int v) :: lv.filter (fun q => !(q.1 == z) && !(q.1 + 1 == z && q.2.category == 2)) = lv') (kk : xW p l e R s m args below meth c nL E B A k n Q ws npc lv' rest) : xW p l e R s m args below meth c nL E B A k n Q ws pc lv (.int v :: rest) := fun H locs ls hl hP hD hS => by
  subst hn
  exact lv_istore hB.qx hB.qb hd hl hi hl' (fun ls' hl' => kk H locs ls' hl' hP hD hS)
theorem x_astore_n (npc : Nat) (hB : xB p s m args meth c E A own cc nL ret mn hs) {z : Fin 4} {v : Nat} {lv' : List (Nat × Value)} (hd : decode cc pc = .ok (.astore_n z, 1)) (hn : pc + 1 = npc) (hi : (z : Nat) < nL) (hl' : ((z : Nat), Value.ref v) :: lv.filter (fun q => !(q.1 == (z : Nat)) && !(q.1 + 1 == (z : Nat) && q.2.category == 2)) = lv') (kk : xW p l e R s m args below meth c nL E B A k n Q ws npc lv' rest) : xW p l e R s m args below meth c nL E B A k n Q ws pc lv (.ref v :: rest) := fun H locs ls hl hP hD hS => by
  subst hn
  exact lv_astore_n hB.qx hB.qb hd rfl hl hi hl' (fun ls' hl' => kk H locs ls' hl' hP hD hS)
theorem x_astore (npc : Nat) (hB : xB p s m args meth c E A own cc nL ret mn hs) {z : Nat} {v : Nat} {lv' : List (Nat × Value)} (hd : decode cc pc = .ok (.astore z, 2)) (hn : pc + 2 = npc) (hi : z < nL) (hl' : (z, Value.ref v) :: lv.filter (fun q => !(q.1 == z) && !(q.1 + 1 == z && q.2.category == 2)) = lv') (kk : xW p l e R s m args below meth c nL E B A k n Q ws npc lv' rest) : xW p l e R s m args below meth c nL E B A k n Q ws pc lv (.ref v :: rest) := fun H locs ls hl hP hD hS => by
  subst hn
  exact lv_astore hB.qx hB.qb hd hl hi hl' (fun ls' hl' => kk H locs ls' hl' hP hD hS)
theorem x_lstore_n (npc : Nat) (hB : xB p s m args meth c E A own cc nL ret mn hs) {z : Fin 4} {v : Int64} {lv' : List (Nat × Value)} (hd : decode cc pc = .ok (.lstore_n z, 1)) (hn : pc + 1 = npc) (hi : (z : Nat) + 1 < nL) (hl' : ((z : Nat), Value.long v) :: lv.filter (fun q => !(q.1 == (z : Nat)) && (!(q.1 == (z : Nat) + 1) && !(q.1 + 1 == (z : Nat) && q.2.category == 2))) = lv') (kk : xW p l e R s m args below meth c nL E B A k n Q ws npc lv' rest) : xW p l e R s m args below meth c nL E B A k n Q ws pc lv (.long v :: rest) := fun H locs ls hl hP hD hS => by
  subst hn
  exact lv_lstore_n hB.qx hB.qb hd rfl hl hi hl' (fun ls' hl' => kk H locs ls' hl' hP hD hS)
theorem x_lstore (npc : Nat) (hB : xB p s m args meth c E A own cc nL ret mn hs) {z : Nat} {v : Int64} {lv' : List (Nat × Value)} (hd : decode cc pc = .ok (.lstore z, 2)) (hn : pc + 2 = npc) (hi : z + 1 < nL) (hl' : (z, Value.long v) :: lv.filter (fun q => !(q.1 == z) && (!(q.1 == z + 1) && !(q.1 + 1 == z && q.2.category == 2))) = lv') (kk : xW p l e R s m args below meth c nL E B A k n Q ws npc lv' rest) : xW p l e R s m args below meth c nL E B A k n Q ws pc lv (.long v :: rest) := fun H locs ls hl hP hD hS => by
  subst hn
  exact lv_lstore hB.qx hB.qb hd hl hi hl' (fun ls' hl' => kk H locs ls' hl' hP hD hS)
theorem x_iinc (npc : Nat) (hB : xB p s m args meth c E A own cc nL ret mn hs) {z : Nat} {d : Int} {x v : Int32} {lv' : List (Nat × Value)} (hd : decode cc pc = .ok (.iinc z d, 3)) (hn : pc + 3 = npc) (kp : Nat) (hk : lv[kp]? = some (z, .int x)) (hv : x + Int32.ofInt d = v) (hi : z < nL) (hl' : (z, Value.int v) :: lv.filter (fun q => !(q.1 == z) && !(q.1 + 1 == z && q.2.category == 2)) = lv') (kk : xW p l e R s m args below meth c nL E B A k n Q ws npc lv' rest) : xW p l e R s m args below meth c nL E B A k n Q ws pc lv rest := fun H locs ls hl hP hD hS => by
  subst hn
  exact lv_iinc hB.qx hB.qb hd hl hk hv hi hl' (fun ls' hl' => kk H locs ls' hl' hP hD hS)
theorem x_iadd (npc : Nat) (hB : xB p s m args meth c E A own cc nL ret mn hs) {x y : Int32} (hd : decode cc pc = .ok (.iadd, 1)) (hn : pc + 1 = npc)  (kk : xW p l e R s m args below meth c nL E B A k n Q ws npc lv (.int (x + y) :: rest)) : xW p l e R s m args below meth c nL E B A k n Q ws pc lv (.int y :: .int x :: rest) := fun H locs ls hl hP hD hS => by
  subst hn
  exact lv_iadd hB.qx hB.qb hd (kk H locs ls hl hP hD hS)
theorem x_isub (npc : Nat) (hB : xB p s m args meth c E A own cc nL ret mn hs) {x y : Int32} (hd : decode cc pc = .ok (.isub, 1)) (hn : pc + 1 = npc)  (kk : xW p l e R s m args below meth c nL E B A k n Q ws npc lv (.int (x - y) :: rest)) : xW p l e R s m args below meth c nL E B A k n Q ws pc lv (.int y :: .int x :: rest) := fun H locs ls hl hP hD hS => by
  subst hn
  exact lv_isub hB.qx hB.qb hd (kk H locs ls hl hP hD hS)
theorem x_imul (npc : Nat) (hB : xB p s m args meth c E A own cc nL ret mn hs) {x y : Int32} (hd : decode cc pc = .ok (.imul, 1)) (hn : pc + 1 = npc)  (kk : xW p l e R s m args below meth c nL E B A k n Q ws npc lv (.int (x * y) :: rest)) : xW p l e R s m args below meth c nL E B A k n Q ws pc lv (.int y :: .int x :: rest) := fun H locs ls hl hP hD hS => by
  subst hn
  exact lv_imul hB.qx hB.qb hd (kk H locs ls hl hP hD hS)
theorem x_iand (npc : Nat) (hB : xB p s m args meth c E A own cc nL ret mn hs) {x y : Int32} (hd : decode cc pc = .ok (.iand, 1)) (hn : pc + 1 = npc)  (kk : xW p l e R s m args below meth c nL E B A k n Q ws npc lv (.int (x &&& y) :: rest)) : xW p l e R s m args below meth c nL E B A k n Q ws pc lv (.int y :: .int x :: rest) := fun H locs ls hl hP hD hS => by
  subst hn
  exact lv_iand hB.qx hB.qb hd (kk H locs ls hl hP hD hS)
theorem x_ior (npc : Nat) (hB : xB p s m args meth c E A own cc nL ret mn hs) {x y : Int32} (hd : decode cc pc = .ok (.ior, 1)) (hn : pc + 1 = npc)  (kk : xW p l e R s m args below meth c nL E B A k n Q ws npc lv (.int (x ||| y) :: rest)) : xW p l e R s m args below meth c nL E B A k n Q ws pc lv (.int y :: .int x :: rest) := fun H locs ls hl hP hD hS => by
  subst hn
  exact lv_ior hB.qx hB.qb hd (kk H locs ls hl hP hD hS)
theorem x_ixor (npc : Nat) (hB : xB p s m args meth c E A own cc nL ret mn hs) {x y : Int32} (hd : decode cc pc = .ok (.ixor, 1)) (hn : pc + 1 = npc)  (kk : xW p l e R s m args below meth c nL E B A k n Q ws npc lv (.int (x ^^^ y) :: rest)) : xW p l e R s m args below meth c nL E B A k n Q ws pc lv (.int y :: .int x :: rest) := fun H locs ls hl hP hD hS => by
  subst hn
  exact lv_ixor hB.qx hB.qb hd (kk H locs ls hl hP hD hS)
theorem x_idiv (npc : Nat) (hB : xB p s m args meth c E A own cc nL ret mn hs) {x y : Int32} (hd : decode cc pc = .ok (.idiv, 1)) (hn : pc + 1 = npc) (h0 : ¬ y = 0) (kk : xW p l e R s m args below meth c nL E B A k n Q ws npc lv (.int (x / y) :: rest)) : xW p l e R s m args below meth c nL E B A k n Q ws pc lv (.int y :: .int x :: rest) := fun H locs ls hl hP hD hS => by
  subst hn
  exact lv_idiv hB.qx hB.qb hd h0 (kk H locs ls hl hP hD hS)
theorem x_irem (npc : Nat) (hB : xB p s m args meth c E A own cc nL ret mn hs) {x y : Int32} (hd : decode cc pc = .ok (.irem, 1)) (hn : pc + 1 = npc) (h0 : ¬ y = 0) (kk : xW p l e R s m args below meth c nL E B A k n Q ws npc lv (.int (x - x / y * y) :: rest)) : xW p l e R s m args below meth c nL E B A k n Q ws pc lv (.int y :: .int x :: rest) := fun H locs ls hl hP hD hS => by
  subst hn
  exact lv_irem hB.qx hB.qb hd h0 (kk H locs ls hl hP hD hS)
theorem x_ineg (npc : Nat) (hB : xB p s m args meth c E A own cc nL ret mn hs) {x : Int32} (hd : decode cc pc = .ok (.ineg, 1)) (hn : pc + 1 = npc)  (kk : xW p l e R s m args below meth c nL E B A k n Q ws npc lv (.int (-x) :: rest)) : xW p l e R s m args below meth c nL E B A k n Q ws pc lv (.int x :: rest) := fun H locs ls hl hP hD hS => by
  subst hn
  exact lv_ineg hB.qx hB.qb hd (kk H locs ls hl hP hD hS)
theorem x_ladd (npc : Nat) (hB : xB p s m args meth c E A own cc nL ret mn hs) {x y : Int64} (hd : decode cc pc = .ok (.ladd, 1)) (hn : pc + 1 = npc)  (kk : xW p l e R s m args below meth c nL E B A k n Q ws npc lv (.long (x + y) :: rest)) : xW p l e R s m args below meth c nL E B A k n Q ws pc lv (.long y :: .long x :: rest) := fun H locs ls hl hP hD hS => by
  subst hn
  exact lv_ladd hB.qx hB.qb hd (kk H locs ls hl hP hD hS)
theorem x_lsub (npc : Nat) (hB : xB p s m args meth c E A own cc nL ret mn hs) {x y : Int64} (hd : decode cc pc = .ok (.lsub, 1)) (hn : pc + 1 = npc)  (kk : xW p l e R s m args below meth c nL E B A k n Q ws npc lv (.long (x - y) :: rest)) : xW p l e R s m args below meth c nL E B A k n Q ws pc lv (.long y :: .long x :: rest) := fun H locs ls hl hP hD hS => by
  subst hn
  exact lv_lsub hB.qx hB.qb hd (kk H locs ls hl hP hD hS)
theorem x_lmul (npc : Nat) (hB : xB p s m args meth c E A own cc nL ret mn hs) {x y : Int64} (hd : decode cc pc = .ok (.lmul, 1)) (hn : pc + 1 = npc)  (kk : xW p l e R s m args below meth c nL E B A k n Q ws npc lv (.long (x * y) :: rest)) : xW p l e R s m args below meth c nL E B A k n Q ws pc lv (.long y :: .long x :: rest) := fun H locs ls hl hP hD hS => by
  subst hn
  exact lv_lmul hB.qx hB.qb hd (kk H locs ls hl hP hD hS)
theorem x_land (npc : Nat) (hB : xB p s m args meth c E A own cc nL ret mn hs) {x y : Int64} (hd : decode cc pc = .ok (.land, 1)) (hn : pc + 1 = npc)  (kk : xW p l e R s m args below meth c nL E B A k n Q ws npc lv (.long (x &&& y) :: rest)) : xW p l e R s m args below meth c nL E B A k n Q ws pc lv (.long y :: .long x :: rest) := fun H locs ls hl hP hD hS => by
  subst hn
  exact lv_land hB.qx hB.qb hd (kk H locs ls hl hP hD hS)
theorem x_lor (npc : Nat) (hB : xB p s m args meth c E A own cc nL ret mn hs) {x y : Int64} (hd : decode cc pc = .ok (.lor, 1)) (hn : pc + 1 = npc)  (kk : xW p l e R s m args below meth c nL E B A k n Q ws npc lv (.long (x ||| y) :: rest)) : xW p l e R s m args below meth c nL E B A k n Q ws pc lv (.long y :: .long x :: rest) := fun H locs ls hl hP hD hS => by
  subst hn
  exact lv_lor hB.qx hB.qb hd (kk H locs ls hl hP hD hS)
theorem x_lxor (npc : Nat) (hB : xB p s m args meth c E A own cc nL ret mn hs) {x y : Int64} (hd : decode cc pc = .ok (.lxor, 1)) (hn : pc + 1 = npc)  (kk : xW p l e R s m args below meth c nL E B A k n Q ws npc lv (.long (x ^^^ y) :: rest)) : xW p l e R s m args below meth c nL E B A k n Q ws pc lv (.long y :: .long x :: rest) := fun H locs ls hl hP hD hS => by
  subst hn
  exact lv_lxor hB.qx hB.qb hd (kk H locs ls hl hP hD hS)
theorem x_ishl (npc : Nat) (hB : xB p s m args meth c E A own cc nL ret mn hs) {x y : Int32} (hd : decode cc pc = .ok (.ishl, 1)) (hn : pc + 1 = npc)  (kk : xW p l e R s m args below meth c nL E B A k n Q ws npc lv (.int (x <<< (y &&& 31)) :: rest)) : xW p l e R s m args below meth c nL E B A k n Q ws pc lv (.int y :: .int x :: rest) := fun H locs ls hl hP hD hS => by
  subst hn
  exact lv_ishl hB.qx hB.qb hd (kk H locs ls hl hP hD hS)
theorem x_ishr (npc : Nat) (hB : xB p s m args meth c E A own cc nL ret mn hs) {x y : Int32} (hd : decode cc pc = .ok (.ishr, 1)) (hn : pc + 1 = npc)  (kk : xW p l e R s m args below meth c nL E B A k n Q ws npc lv (.int (x >>> (y &&& 31)) :: rest)) : xW p l e R s m args below meth c nL E B A k n Q ws pc lv (.int y :: .int x :: rest) := fun H locs ls hl hP hD hS => by
  subst hn
  exact lv_ishr hB.qx hB.qb hd (kk H locs ls hl hP hD hS)
theorem x_iushr (npc : Nat) (hB : xB p s m args meth c E A own cc nL ret mn hs) {x y v : Int32} (hd : decode cc pc = .ok (.iushr, 1)) (hn : pc + 1 = npc) (hv : (x.toUInt32 >>> (y.toUInt32 &&& Int32.toUInt32 31)).toInt32 = v) (kk : xW p l e R s m args below meth c nL E B A k n Q ws npc lv (.int v :: rest)) : xW p l e R s m args below meth c nL E B A k n Q ws pc lv (.int y :: .int x :: rest) := fun H locs ls hl hP hD hS => by
  subst hn
  exact lv_iushr hB.qx hB.qb hd hv (kk H locs ls hl hP hD hS)
theorem x_lushr (npc : Nat) (hB : xB p s m args meth c E A own cc nL ret mn hs) {x v : Int64} {y : Int32} (hd : decode cc pc = .ok (.lushr, 1)) (hn : pc + 1 = npc) (hv : (x.toUInt64 >>> (y.toInt64.toUInt64 &&& Int64.toUInt64 63)).toInt64 = v) (kk : xW p l e R s m args below meth c nL E B A k n Q ws npc lv (.long v :: rest)) : xW p l e R s m args below meth c nL E B A k n Q ws pc lv (.int y :: .long x :: rest) := fun H locs ls hl hP hD hS => by
  subst hn
  exact lv_lushr hB.qx hB.qb hd hv (kk H locs ls hl hP hD hS)
theorem x_lshl (npc : Nat) (hB : xB p s m args meth c E A own cc nL ret mn hs) {x v : Int64} {y : Int32} (hd : decode cc pc = .ok (.lshl, 1)) (hn : pc + 1 = npc) (hv : x <<< (y.toInt64 &&& 63) = v) (kk : xW p l e R s m args below meth c nL E B A k n Q ws npc lv (.long v :: rest)) : xW p l e R s m args below meth c nL E B A k n Q ws pc lv (.int y :: .long x :: rest) := fun H locs ls hl hP hD hS => by
  subst hn
  exact lv_lshl hB.qx hB.qb hd hv (kk H locs ls hl hP hD hS)
theorem x_i2l (npc : Nat) (hB : xB p s m args meth c E A own cc nL ret mn hs) {x : Int32} {v : Int64} (hd : decode cc pc = .ok (.i2l, 1)) (hn : pc + 1 = npc) (hv : x.toInt64 = v) (kk : xW p l e R s m args below meth c nL E B A k n Q ws npc lv (.long v :: rest)) : xW p l e R s m args below meth c nL E B A k n Q ws pc lv (.int x :: rest) := fun H locs ls hl hP hD hS => by
  subst hn
  exact lv_i2l hB.qx hB.qb hd hv (kk H locs ls hl hP hD hS)
theorem x_l2i (npc : Nat) (hB : xB p s m args meth c E A own cc nL ret mn hs) {x : Int64} {v : Int32} (hd : decode cc pc = .ok (.l2i, 1)) (hn : pc + 1 = npc) (hv : x.toInt32 = v) (kk : xW p l e R s m args below meth c nL E B A k n Q ws npc lv (.int v :: rest)) : xW p l e R s m args below meth c nL E B A k n Q ws pc lv (.long x :: rest) := fun H locs ls hl hP hD hS => by
  subst hn
  exact lv_l2i hB.qx hB.qb hd hv (kk H locs ls hl hP hD hS)
theorem x_i2b (npc : Nat) (hB : xB p s m args meth c E A own cc nL ret mn hs) {x v : Int32} (hd : decode cc pc = .ok (.i2b, 1)) (hn : pc + 1 = npc) (hv : x.toInt8.toInt32 = v) (kk : xW p l e R s m args below meth c nL E B A k n Q ws npc lv (.int v :: rest)) : xW p l e R s m args below meth c nL E B A k n Q ws pc lv (.int x :: rest) := fun H locs ls hl hP hD hS => by
  subst hn
  exact lv_i2b hB.qx hB.qb hd hv (kk H locs ls hl hP hD hS)
theorem x_dup (npc : Nat) (hB : xB p s m args meth c E A own cc nL ret mn hs) {va : Value} (hd : decode cc pc = .ok (.dup, 1)) (hn : pc + 1 = npc) (h1 : va.category = 1) (kk : xW p l e R s m args below meth c nL E B A k n Q ws npc lv (va :: va :: rest)) : xW p l e R s m args below meth c nL E B A k n Q ws pc lv (va :: rest) := fun H locs ls hl hP hD hS => by
  subst hn
  exact lv_dup hB.qx hB.qb hd h1 (kk H locs ls hl hP hD hS)
theorem x_pop (npc : Nat) (hB : xB p s m args meth c E A own cc nL ret mn hs) {va : Value} (hd : decode cc pc = .ok (.pop, 1)) (hn : pc + 1 = npc) (h1 : va.category = 1) (kk : xW p l e R s m args below meth c nL E B A k n Q ws npc lv (rest)) : xW p l e R s m args below meth c nL E B A k n Q ws pc lv (va :: rest) := fun H locs ls hl hP hD hS => by
  subst hn
  exact lv_pop hB.qx hB.qb hd h1 (kk H locs ls hl hP hD hS)
theorem x_dup_x1 (npc : Nat) (hB : xB p s m args meth c E A own cc nL ret mn hs) {va vb : Value} (hd : decode cc pc = .ok (.dup_x1, 1)) (hn : pc + 1 = npc) (h1 : va.category = 1) (h2 : vb.category = 1) (kk : xW p l e R s m args below meth c nL E B A k n Q ws npc lv (va :: vb :: va :: rest)) : xW p l e R s m args below meth c nL E B A k n Q ws pc lv (va :: vb :: rest) := fun H locs ls hl hP hD hS => by
  subst hn
  exact lv_dup_x1 hB.qx hB.qb hd h1 h2 (kk H locs ls hl hP hD hS)
theorem x_dup_x2 (npc : Nat) (hB : xB p s m args meth c E A own cc nL ret mn hs) {va vb vc : Value} (hd : decode cc pc = .ok (.dup_x2, 1)) (hn : pc + 1 = npc) (h1 : va.category = 1) (h2 : vb.category = 1) (h3 : vc.category = 1) (kk : xW p l e R s m args below meth c nL E B A k n Q ws npc lv (va :: vb :: vc :: va :: rest)) : xW p l e R s m args below meth c nL E B A k n Q ws pc lv (va :: vb :: vc :: rest) := fun H locs ls hl hP hD hS => by
  subst hn
  exact lv_dup_x2 hB.qx hB.qb hd h1 h2 h3 (kk H locs ls hl hP hD hS)
theorem x_dup2 (npc : Nat) (hB : xB p s m args meth c E A own cc nL ret mn hs) {va vb : Value} (hd : decode cc pc = .ok (.dup2, 1)) (hn : pc + 1 = npc) (h1 : va.category = 1) (h2 : vb.category = 1) (kk : xW p l e R s m args below meth c nL E B A k n Q ws npc lv (va :: vb :: va :: vb :: rest)) : xW p l e R s m args below meth c nL E B A k n Q ws pc lv (va :: vb :: rest) := fun H locs ls hl hP hD hS => by
  subst hn
  exact lv_dup2_11 hB.qx hB.qb hd h1 h2 (kk H locs ls hl hP hD hS)
theorem x_dup2L (npc : Nat) (hB : xB p s m args meth c E A own cc nL ret mn hs) {va : Value} (hd : decode cc pc = .ok (.dup2, 1)) (hn : pc + 1 = npc) (h1 : va.category = 2) (kk : xW p l e R s m args below meth c nL E B A k n Q ws npc lv (va :: va :: rest)) : xW p l e R s m args below meth c nL E B A k n Q ws pc lv (va :: rest) := fun H locs ls hl hP hD hS => by
  subst hn
  exact lv_dup2_2 hB.qx hB.qb hd h1 (kk H locs ls hl hP hD hS)
theorem x_pop2L (npc : Nat) (hB : xB p s m args meth c E A own cc nL ret mn hs) {va : Value} (hd : decode cc pc = .ok (.pop2, 1)) (hn : pc + 1 = npc) (h1 : va.category = 2) (kk : xW p l e R s m args below meth c nL E B A k n Q ws npc lv (rest)) : xW p l e R s m args below meth c nL E B A k n Q ws pc lv (va :: rest) := fun H locs ls hl hP hD hS => by
  subst hn
  exact lv_pop2_2 hB.qx hB.qb hd h1 (kk H locs ls hl hP hD hS)
theorem x_if_eq (tgt npc : Nat) (hB : xB p s m args meth c E A own cc nL ret mn hs) {x : Int32} {off : Int} (hd : decode cc pc = .ok (.ifCond .eq off, 3)) (ht : (pc : Int) + off = (tgt : Int)) (hn : pc + 3 = npc) (kt : x = 0 → xW p l e R s m args below meth c nL E B A k n Q ws tgt lv rest) (kf : ¬ x = 0 → xW p l e R s m args below meth c nL E B A k n Q ws npc lv rest) : xW p l e R s m args below meth c nL E B A k n Q ws pc lv (.int x :: rest) := fun H locs ls hl hP hD hS => by
  subst hn
  exact lv_if_eq hB.qx hB.qb hd ht (fun h => kt h H locs ls hl hP hD hS) (fun h => kf h H locs ls hl hP hD hS)
theorem x_icmp_eq (tgt npc : Nat) (hB : xB p s m args meth c E A own cc nL ret mn hs) {x y : Int32} {off : Int} (hd : decode cc pc = .ok (.if_icmp .eq off, 3)) (ht : (pc : Int) + off = (tgt : Int)) (hn : pc + 3 = npc) (kt : x = y → xW p l e R s m args below meth c nL E B A k n Q ws tgt lv rest) (kf : ¬ x = y → xW p l e R s m args below meth c nL E B A k n Q ws npc lv rest) : xW p l e R s m args below meth c nL E B A k n Q ws pc lv (.int y :: .int x :: rest) := fun H locs ls hl hP hD hS => by
  subst hn
  exact lv_icmp_eq hB.qx hB.qb hd ht (fun h => kt h H locs ls hl hP hD hS) (fun h => kf h H locs ls hl hP hD hS)
theorem x_if_ne (tgt npc : Nat) (hB : xB p s m args meth c E A own cc nL ret mn hs) {x : Int32} {off : Int} (hd : decode cc pc = .ok (.ifCond .ne off, 3)) (ht : (pc : Int) + off = (tgt : Int)) (hn : pc + 3 = npc) (kt : ¬ x = 0 → xW p l e R s m args below meth c nL E B A k n Q ws tgt lv rest) (kf : x = 0 → xW p l e R s m args below meth c nL E B A k n Q ws npc lv rest) : xW p l e R s m args below meth c nL E B A k n Q ws pc lv (.int x :: rest) := fun H locs ls hl hP hD hS => by
  subst hn
  exact lv_if_ne hB.qx hB.qb hd ht (fun h => kt h H locs ls hl hP hD hS) (fun h => kf h H locs ls hl hP hD hS)
theorem x_icmp_ne (tgt npc : Nat) (hB : xB p s m args meth c E A own cc nL ret mn hs) {x y : Int32} {off : Int} (hd : decode cc pc = .ok (.if_icmp .ne off, 3)) (ht : (pc : Int) + off = (tgt : Int)) (hn : pc + 3 = npc) (kt : ¬ x = y → xW p l e R s m args below meth c nL E B A k n Q ws tgt lv rest) (kf : x = y → xW p l e R s m args below meth c nL E B A k n Q ws npc lv rest) : xW p l e R s m args below meth c nL E B A k n Q ws pc lv (.int y :: .int x :: rest) := fun H locs ls hl hP hD hS => by
  subst hn
  exact lv_icmp_ne hB.qx hB.qb hd ht (fun h => kt h H locs ls hl hP hD hS) (fun h => kf h H locs ls hl hP hD hS)
theorem x_if_lt (tgt npc : Nat) (hB : xB p s m args meth c E A own cc nL ret mn hs) {x : Int32} {off : Int} (hd : decode cc pc = .ok (.ifCond .lt off, 3)) (ht : (pc : Int) + off = (tgt : Int)) (hn : pc + 3 = npc) (kt : x < 0 → xW p l e R s m args below meth c nL E B A k n Q ws tgt lv rest) (kf : ¬ x < 0 → xW p l e R s m args below meth c nL E B A k n Q ws npc lv rest) : xW p l e R s m args below meth c nL E B A k n Q ws pc lv (.int x :: rest) := fun H locs ls hl hP hD hS => by
  subst hn
  exact lv_if_lt hB.qx hB.qb hd ht (fun h => kt h H locs ls hl hP hD hS) (fun h => kf h H locs ls hl hP hD hS)
theorem x_icmp_lt (tgt npc : Nat) (hB : xB p s m args meth c E A own cc nL ret mn hs) {x y : Int32} {off : Int} (hd : decode cc pc = .ok (.if_icmp .lt off, 3)) (ht : (pc : Int) + off = (tgt : Int)) (hn : pc + 3 = npc) (kt : x < y → xW p l e R s m args below meth c nL E B A k n Q ws tgt lv rest) (kf : ¬ x < y → xW p l e R s m args below meth c nL E B A k n Q ws npc lv rest) : xW p l e R s m args below meth c nL E B A k n Q ws pc lv (.int y :: .int x :: rest) := fun H locs ls hl hP hD hS => by
  subst hn
  exact lv_icmp_lt hB.qx hB.qb hd ht (fun h => kt h H locs ls hl hP hD hS) (fun h => kf h H locs ls hl hP hD hS)
theorem x_if_ge (tgt npc : Nat) (hB : xB p s m args meth c E A own cc nL ret mn hs) {x : Int32} {off : Int} (hd : decode cc pc = .ok (.ifCond .ge off, 3)) (ht : (pc : Int) + off = (tgt : Int)) (hn : pc + 3 = npc) (kt : 0 ≤ x → xW p l e R s m args below meth c nL E B A k n Q ws tgt lv rest) (kf : ¬ 0 ≤ x → xW p l e R s m args below meth c nL E B A k n Q ws npc lv rest) : xW p l e R s m args below meth c nL E B A k n Q ws pc lv (.int x :: rest) := fun H locs ls hl hP hD hS => by
  subst hn
  exact lv_if_ge hB.qx hB.qb hd ht (fun h => kt h H locs ls hl hP hD hS) (fun h => kf h H locs ls hl hP hD hS)
theorem x_icmp_ge (tgt npc : Nat) (hB : xB p s m args meth c E A own cc nL ret mn hs) {x y : Int32} {off : Int} (hd : decode cc pc = .ok (.if_icmp .ge off, 3)) (ht : (pc : Int) + off = (tgt : Int)) (hn : pc + 3 = npc) (kt : y ≤ x → xW p l e R s m args below meth c nL E B A k n Q ws tgt lv rest) (kf : ¬ y ≤ x → xW p l e R s m args below meth c nL E B A k n Q ws npc lv rest) : xW p l e R s m args below meth c nL E B A k n Q ws pc lv (.int y :: .int x :: rest) := fun H locs ls hl hP hD hS => by
  subst hn
  exact lv_icmp_ge hB.qx hB.qb hd ht (fun h => kt h H locs ls hl hP hD hS) (fun h => kf h H locs ls hl hP hD hS)
theorem x_if_gt (tgt npc : Nat) (hB : xB p s m args meth c E A own cc nL ret mn hs) {x : Int32} {off : Int} (hd : decode cc pc = .ok (.ifCond .gt off, 3)) (ht : (pc : Int) + off = (tgt : Int)) (hn : pc + 3 = npc) (kt : 0 < x → xW p l e R s m args below meth c nL E B A k n Q ws tgt lv rest) (kf : ¬ 0 < x → xW p l e R s m args below meth c nL E B A k n Q ws npc lv rest) : xW p l e R s m args below meth c nL E B A k n Q ws pc lv (.int x :: rest) := fun H locs ls hl hP hD hS => by
  subst hn
  exact lv_if_gt hB.qx hB.qb hd ht (fun h => kt h H locs ls hl hP hD hS) (fun h => kf h H locs ls hl hP hD hS)
theorem x_icmp_gt (tgt npc : Nat) (hB : xB p s m args meth c E A own cc nL ret mn hs) {x y : Int32} {off : Int} (hd : decode cc pc = .ok (.if_icmp .gt off, 3)) (ht : (pc : Int) + off = (tgt : Int)) (hn : pc + 3 = npc) (kt : y < x → xW p l e R s m args below meth c nL E B A k n Q ws tgt lv rest) (kf : ¬ y < x → xW p l e R s m args below meth c nL E B A k n Q ws npc lv rest) : xW p l e R s m args below meth c nL E B A k n Q ws pc lv (.int y :: .int x :: rest) := fun H locs ls hl hP hD hS => by
  subst hn
  exact lv_icmp_gt hB.qx hB.qb hd ht (fun h => kt h H locs ls hl hP hD hS) (fun h => kf h H locs ls hl hP hD hS)
theorem x_if_le (tgt npc : Nat) (hB : xB p s m args meth c E A own cc nL ret mn hs) {x : Int32} {off : Int} (hd : decode cc pc = .ok (.ifCond .le off, 3)) (ht : (pc : Int) + off = (tgt : Int)) (hn : pc + 3 = npc) (kt : x ≤ 0 → xW p l e R s m args below meth c nL E B A k n Q ws tgt lv rest) (kf : ¬ x ≤ 0 → xW p l e R s m args below meth c nL E B A k n Q ws npc lv rest) : xW p l e R s m args below meth c nL E B A k n Q ws pc lv (.int x :: rest) := fun H locs ls hl hP hD hS => by
  subst hn
  exact lv_if_le hB.qx hB.qb hd ht (fun h => kt h H locs ls hl hP hD hS) (fun h => kf h H locs ls hl hP hD hS)
theorem x_icmp_le (tgt npc : Nat) (hB : xB p s m args meth c E A own cc nL ret mn hs) {x y : Int32} {off : Int} (hd : decode cc pc = .ok (.if_icmp .le off, 3)) (ht : (pc : Int) + off = (tgt : Int)) (hn : pc + 3 = npc) (kt : x ≤ y → xW p l e R s m args below meth c nL E B A k n Q ws tgt lv rest) (kf : ¬ x ≤ y → xW p l e R s m args below meth c nL E B A k n Q ws npc lv rest) : xW p l e R s m args below meth c nL E B A k n Q ws pc lv (.int y :: .int x :: rest) := fun H locs ls hl hP hD hS => by
  subst hn
  exact lv_icmp_le hB.qx hB.qb hd ht (fun h => kt h H locs ls hl hP hD hS) (fun h => kf h H locs ls hl hP hD hS)
theorem x_goto (tgt : Nat) (hB : xB p s m args meth c E A own cc nL ret mn hs) {off : Int} (hd : decode cc pc = .ok (.goto off, 3)) (ht : (pc : Int) + off = (tgt : Int)) (kk : xW p l e R s m args below meth c nL E B A k n Q ws tgt lv st) : xW p l e R s m args below meth c nL E B A k n Q ws pc lv st := fun H locs ls hl hP hD hS => lv_goto hB.qx hB.qb hd ht (kk H locs ls hl hP hD hS)
theorem x_lcmp (npc : Nat) (hB : xB p s m args meth c E A own cc nL ret mn hs) {x y : Int64} (hd : decode cc pc = .ok (.lcmp, 1)) (hn : pc + 1 = npc) (kk : xW p l e R s m args below meth c nL E B A k n Q ws npc lv (.int (lg_cmp x y) :: rest)) : xW p l e R s m args below meth c nL E B A k n Q ws pc lv (.long y :: .long x :: rest) := fun H locs ls hl hP hD hS => by
  subst hn
  exact W.lcmp hB.qx hB.qb hd (kk H locs ls hl hP hD hS)
theorem x_top {v v' : Value} (h : v = v') (kk : xW p l e R s m args below meth c nL E B A k n Q ws pc lv (v' :: rest)) : xW p l e R s m args below meth c nL E B A k n Q ws pc lv (v :: rest) := h ▸ kk
theorem x_st {st' : List Value} (h : st = st') (kk : xW p l e R s m args below meth c nL E B A k n Q ws pc lv st') : xW p l e R s m args below meth c nL E B A k n Q ws pc lv st := h ▸ kk
theorem x_lv {lv' : List (Nat × Value)} (ks : List Nat) (h : lv_pick lv ks = lv') (kk : xW p l e R s m args below meth c nL E B A k n Q ws pc lv' st) : xW p l e R s m args below meth c nL E B A k n Q ws pc lv st := fun H locs ls hl hP hD hS => kk H locs ls (lv_sub hl ks h) hP hD hS
theorem x_ws {ws' : va_W} (h : ws = ws') (kk : xW p l e R s m args below meth c nL E B A k n Q ws' pc lv st) : xW p l e R s m args below meth c nL E B A k n Q ws pc lv st := h ▸ kk
theorem x_lve {lv' : List (Nat × Value)} (h : lv = lv') (kk : xW p l e R s m args below meth c nL E B A k n Q ws pc lv' st) : xW p l e R s m args below meth c nL E B A k n Q ws pc lv st := h ▸ kk
theorem x_wid {k' n' : Nat} (h1 : k ≤ k') (h2 : n ≤ n') (kk : xW p l e R s m args below meth c nL E B A k' n' Q ws pc lv st) : xW p l e R s m args below meth c nL E B A k n Q ws pc lv st := fun H locs ls hl hP hD hS => W.widen h1 h2 (kk H locs ls hl hP hD hS)
theorem x_tabOut (tgt : Nat) (hB : xB p s m args meth c E A own cc nL ret mn hs) {dflt lo hi : Int} {offs : Array Int} {len : Nat} {x : Int32} (hd : decode cc pc = .ok (.tableswitch dflt lo hi offs, len)) (h : x.toInt < lo ∨ hi < x.toInt) (ht : (pc : Int) + dflt = (tgt : Int)) (kk : xW p l e R s m args below meth c nL E B A k n Q ws tgt lv rest) : xW p l e R s m args below meth c nL E B A k n Q ws pc lv (.int x :: rest) := fun H locs ls hl hP hD hS => lv_tableOut hB.qx hB.qb hd h ht (kk H locs ls hl hP hD hS)
theorem x_tabIn (tgt : Nat) (hB : xB p s m args meth c E A own cc nL ret mn hs) {dflt lo hi off : Int} {offs : Array Int} {len : Nat} {x : Int32} (hd : decode cc pc = .ok (.tableswitch dflt lo hi offs, len)) (h1 : ¬ x.toInt < lo) (h2 : ¬ hi < x.toInt) (ho : offs[(x.toInt - lo).toNat]? = some off) (ht : (pc : Int) + off = (tgt : Int)) (kk : xW p l e R s m args below meth c nL E B A k n Q ws tgt lv rest) : xW p l e R s m args below meth c nL E B A k n Q ws pc lv (.int x :: rest) := fun H locs ls hl hP hD hS => lv_tableIn hB.qx hB.qb hd h1 h2 ho ht (kk H locs ls hl hP hD hS)
theorem x_lookup (tgt : Nat) (hB : xB p s m args meth c E A own cc nL ret mn hs) {dflt off : Int} {ps : Array (Int × Int)} {len : Nat} {x : Int32} (hd : decode cc pc = .ok (.lookupswitch dflt ps, len)) (hp : (ps.toList.zip (ps.toList.drop 1)).all (fun (a, next) => a.1 < next.1) = true) (ho : Op.lookupswitch.offset ps.toList dflt x.toInt = off) (ht : (pc : Int) + off = (tgt : Int)) (kk : xW p l e R s m args below meth c nL E B A k n Q ws tgt lv rest) : xW p l e R s m args below meth c nL E B A k n Q ws pc lv (.int x :: rest) := fun H locs ls hl hP hD hS => lv_lookup hB.qx hB.qb hd hp ho ht (kk H locs ls hl hP hD hS)
theorem x_bald (npc : Nat) (hB : xB p s m args meth c E A own cc nL ret mn hs) (q0 : Nat) {a N j : Nat} {f : Nat → Int32} (he : ws[q0]? = some (a, .inl (E.2 0, N, .inl f))) (hj : j < N) (hN : N < 2147483648) (hd : decode cc pc = .ok (.baload, 1)) (hn : pc + 1 = npc) (kk : xW p l e R s m args below meth c nL E B A k n Q ws npc lv (.int (f j) :: rest)) : xW p l e R s m args below meth c nL E B A k n Q ws pc lv (.int (nI j) :: .ref a :: rest) := fun H locs ls hl hP hD hS => by
  subst hn
  refine va_bald hB.qx hB.qb hB.qk hP q0 0 he rfl (vp_in_nI hj hN) hd ?_
  rw [nI_clamp (Nat.lt_trans hj hN)]
  exact kk H locs ls hl hP hD hS
theorem x_iald (npc : Nat) (hB : xB p s m args meth c E A own cc nL ret mn hs) (q0 : Nat) {a N j : Nat} {f : Nat → Int32} (he : ws[q0]? = some (a, .inl (E.2 1, N, .inl f))) (hj : j < N) (hN : N < 2147483648) (hd : decode cc pc = .ok (.iaload, 1)) (hn : pc + 1 = npc) (kk : xW p l e R s m args below meth c nL E B A k n Q ws npc lv (.int (f j) :: rest)) : xW p l e R s m args below meth c nL E B A k n Q ws pc lv (.int (nI j) :: .ref a :: rest) := fun H locs ls hl hP hD hS => by
  subst hn
  refine va_iald hB.qx hB.qb hB.qk hP q0 1 he rfl (vp_in_nI hj hN) hd ?_
  rw [nI_clamp (Nat.lt_trans hj hN)]
  exact kk H locs ls hl hP hD hS
theorem x_lald (npc : Nat) (hB : xB p s m args meth c E A own cc nL ret mn hs) (q0 : Nat) {a N j : Nat} {f : Nat → Int64} (he : ws[q0]? = some (a, .inl (E.2 2, N, .inr (.inl f)))) (hj : j < N) (hN : N < 2147483648) (hd : decode cc pc = .ok (.laload, 1)) (hn : pc + 1 = npc) (kk : xW p l e R s m args below meth c nL E B A k n Q ws npc lv (.long (f j) :: rest)) : xW p l e R s m args below meth c nL E B A k n Q ws pc lv (.int (nI j) :: .ref a :: rest) := fun H locs ls hl hP hD hS => by
  subst hn
  refine va_lald hB.qx hB.qb hB.qk hP q0 2 he rfl (vp_in_nI hj hN) hd ?_
  rw [nI_clamp (Nat.lt_trans hj hN)]
  exact kk H locs ls hl hP hD hS
theorem x_zald (npc : Nat) (hB : xB p s m args meth c E A own cc nL ret mn hs) (q0 : Nat) {a N j : Nat} {f : Nat → Int32} (he : ws[q0]? = some (a, .inl (E.2 3, N, .inl f))) (hj : j < N) (hN : N < 2147483648) (hd : decode cc pc = .ok (.baload, 1)) (hn : pc + 1 = npc) (kk : xW p l e R s m args below meth c nL E B A k n Q ws npc lv (.int (f j) :: rest)) : xW p l e R s m args below meth c nL E B A k n Q ws pc lv (.int (nI j) :: .ref a :: rest) := fun H locs ls hl hP hD hS => by
  subst hn
  refine va_zald hB.qx hB.qb hB.qk hP q0 3 he rfl (vp_in_nI hj hN) hd ?_
  rw [nI_clamp (Nat.lt_trans hj hN)]
  exact kk H locs ls hl hP hD hS
theorem x_bast (npc : Nat) (hB : xB p s m args meth c E A own cc nL ret mn hs) (q0 : Nat) {a N j : Nat} {f : Nat → Int32} {x x' : Int32} {ws' : va_W} (he : ws[q0]? = some (a, .inl (E.2 0, N, .inl f))) (hj : j < N) (hN : N < 2147483648) (hx : vp_nar .byte x = x') (hw : ws.set q0 (a, .inl (E.2 0, N, .inl (upd f j x'))) = ws') (hd : decode cc pc = .ok (.bastore, 1)) (hn : pc + 1 = npc) (kk : xW p l e R s m args below meth c nL E A A k n Q ws' npc lv rest) : xW p l e R s m args below meth c nL E A A k n Q ws pc lv (.int x :: .int (nI j) :: .ref a :: rest) := fun H locs ls hl hP hD hS => by
  subst hn
  subst hx
  subst hw
  refine va_bast hB.qx hB.qb hB.qk hP hD hS q0 0 he rfl (vp_in_nI hj hN) hd (fun H1 locs1 hP1 hD1 hS1 => ?_)
  rw [nI_clamp (Nat.lt_trans hj hN)] at hP1 hD1
  exact kk H1 locs1 ls hl hP1 hD1 hS1
theorem x_iast (npc : Nat) (hB : xB p s m args meth c E A own cc nL ret mn hs) (q0 : Nat) {a N j : Nat} {f : Nat → Int32} {x x' : Int32} {ws' : va_W} (he : ws[q0]? = some (a, .inl (E.2 1, N, .inl f))) (hj : j < N) (hN : N < 2147483648) (hx : x = x') (hw : ws.set q0 (a, .inl (E.2 1, N, .inl (upd f j x'))) = ws') (hd : decode cc pc = .ok (.iastore, 1)) (hn : pc + 1 = npc) (kk : xW p l e R s m args below meth c nL E A A k n Q ws' npc lv rest) : xW p l e R s m args below meth c nL E A A k n Q ws pc lv (.int x :: .int (nI j) :: .ref a :: rest) := fun H locs ls hl hP hD hS => by
  subst hn
  subst hx
  subst hw
  refine va_iast hB.qx hB.qb hB.qk hP hD hS q0 1 he rfl (vp_in_nI hj hN) hd (fun H1 locs1 hP1 hD1 hS1 => ?_)
  rw [nI_clamp (Nat.lt_trans hj hN)] at hP1 hD1
  exact kk H1 locs1 ls hl hP1 hD1 hS1
theorem x_last (npc : Nat) (hB : xB p s m args meth c E A own cc nL ret mn hs) (q0 : Nat) {a N j : Nat} {f : Nat → Int64} {x x' : Int64} {ws' : va_W} (he : ws[q0]? = some (a, .inl (E.2 2, N, .inr (.inl f)))) (hj : j < N) (hN : N < 2147483648) (hx : x = x') (hw : ws.set q0 (a, .inl (E.2 2, N, .inr (.inl (vp_updL f j x')))) = ws') (hd : decode cc pc = .ok (.lastore, 1)) (hn : pc + 1 = npc) (kk : xW p l e R s m args below meth c nL E A A k n Q ws' npc lv rest) : xW p l e R s m args below meth c nL E A A k n Q ws pc lv (.long x :: .int (nI j) :: .ref a :: rest) := fun H locs ls hl hP hD hS => by
  subst hn
  subst hx
  subst hw
  refine va_last hB.qx hB.qb hB.qk hP hD hS q0 2 he rfl (vp_in_nI hj hN) hd (fun H1 locs1 hP1 hD1 hS1 => ?_)
  rw [nI_clamp (Nat.lt_trans hj hN)] at hP1 hD1
  exact kk H1 locs1 ls hl hP1 hD1 hS1
theorem x_zast (npc : Nat) (hB : xB p s m args meth c E A own cc nL ret mn hs) (q0 : Nat) {a N j : Nat} {f : Nat → Int32} {x x' : Int32} {ws' : va_W} (he : ws[q0]? = some (a, .inl (E.2 3, N, .inl f))) (hj : j < N) (hN : N < 2147483648) (hx : vp_nar .boolean x = x') (hw : ws.set q0 (a, .inl (E.2 3, N, .inl (upd f j x'))) = ws') (hd : decode cc pc = .ok (.bastore, 1)) (hn : pc + 1 = npc) (kk : xW p l e R s m args below meth c nL E A A k n Q ws' npc lv rest) : xW p l e R s m args below meth c nL E A A k n Q ws pc lv (.int x :: .int (nI j) :: .ref a :: rest) := fun H locs ls hl hP hD hS => by
  subst hn
  subst hx
  subst hw
  refine va_zast hB.qx hB.qb hB.qk hP hD hS q0 3 he rfl (vp_in_nI hj hN) hd (fun H1 locs1 hP1 hD1 hS1 => ?_)
  rw [nI_clamp (Nat.lt_trans hj hN)] at hP1 hD1
  exact kk H1 locs1 ls hl hP1 hD1 hS1
def xSame (ref dc n d : String) : Prop := dc = ref ∨ Cond.sameField ref dc n d ∈ xG
def xFg (own : String) (idx ci kf : Nat) : Prop := ∃ (C : String) (T : u_T) (N : Nat) (ref : String), vwCl[ci]? = some (C, T, N) ∧ (∀ w ∈ u_ws C T N, w ∈ xG) ∧ kf < N ∧ Cond.fieldLink own idx ref (T kf).2.1 (T kf).2.2.1 ∈ xG ∧ xSame ref (T kf).1 (T kf).2.1 (T kf).2.2.1
def xFp (own : String) (idx ci kf : Nat) (fin : Bool) (ty : FieldType) : Prop := ∃ (C : String) (T : u_T) (N : Nat) (ref : String) (ty0 : Nat → FieldType), vwCl[ci]? = some (C, T, N) ∧ (∀ w ∈ u_ws C T N, w ∈ xG) ∧ kf < N ∧ Cond.fieldLink own idx ref (T kf).2.1 (T kf).2.2.1 ∈ xG ∧ xSame ref (T kf).1 (T kf).2.1 (T kf).2.2.1 ∧ (∀ k, k < N → parseFieldDescriptor (T k).2.2.1 = some (ty0 k)) ∧ (∀ a, a < N → ∀ b, b < N → a ≠ b → (T a).2.1 ≠ (T b).2.1) ∧ (T kf).2.2.2 = fin ∧ parseFieldDescriptor (T kf).2.2.1 = some ty ∧ (fin = true → (T kf).1 = own)
theorem xSame.f {args : Array Value} {s : State} {ref dc n d : String} (ht : ∀ w ∈ xG, w.before args s = true) (h : xSame ref dc n d) : ∀ x, s.fieldFound? dc n d = some x → s.fieldFound? ref n d = some x := by
  rcases h with rfl | h
  · exact fun _ h => h
  · exact fun x hx => u_same (ht _ h) x hx
theorem x_get (npc : Nat) (hB : xB p s m args meth c E A own cc nL ret mn hs) (q0 : Nat) {idx ci kf a : Nat} {fs : List Value} {v : Value} (hF : xFg own idx ci kf) (he : ws[q0]? = some (a, .inr (ci, fs))) (hv : fs[kf]? = some v) (hd : decode cc pc = .ok (.getfield idx, 3)) (hn : pc + 3 = npc) (kk : xW p l e R s m args below meth c nL E B A k n Q ws npc lv (v :: rest)) : xW p l e R s m args below meth c nL E B A k n Q ws pc lv (.ref a :: rest) := fun H locs ls hl hP hD hS => by
  subst hn
  obtain ⟨C, T, N, ref, h1, h2, h3, h4, h5⟩ := hF
  exact va_get hB.qx hB.qb hB.qt h2 hB.qo hB.qk hP q0 he h1 kf h3 (hB.qt _ h4) (xSame.f hB.qt h5) hv hd (kk H locs ls hl hP hD hS)
theorem x_put (npc : Nat) (hB : xB p s m args meth c E A own cc nL ret mn hs) (q0 : Nat) {idx ci kf a : Nat} {fs : List Value} {v : Value} {ty : FieldType} {ws' : va_W} (hF : xFp own idx ci kf false ty) (he : ws[q0]? = some (a, .inr (ci, fs))) (hv : narrow ty v = v) (hf : fits ty v = true) (hl0 : kf < fs.length) (hw : ws.set q0 (a, .inr (ci, fs.set kf v)) = ws') (hd : decode cc pc = .ok (.putfield idx, 3)) (hn : pc + 3 = npc) (kk : xW p l e R s m args below meth c nL E A A k n Q ws' npc lv rest) : xW p l e R s m args below meth c nL E A A k n Q ws pc lv (v :: .ref a :: rest) := fun H locs ls hl hP hD hS => by
  subst hn
  subst hw
  obtain ⟨C, T, N, ref, ty0, h1, h2, h3, h4, h5, h6, h7, h8, h9, -⟩ := hF
  exact va_put hB.qx hB.qb hB.qt h2 ty0 h6 h7 hB.qo hB.qk hP hD hS q0 he h1 kf h3 (hB.qt _ h4) (xSame.f hB.qt h5) h8 h9 hv hf hl0 hd (fun H1 locs1 hP1 hD1 hS1 => kk H1 locs1 ls hl hP1 hD1 hS1)
theorem x_putF (npc : Nat) (hB : xB p s m args meth c E A own cc nL ret "<init>" hs) (q0 : Nat) {idx ci kf a : Nat} {fs : List Value} {v : Value} {ty : FieldType} {ws' : va_W} (hF : xFp own idx ci kf true ty) (he : ws[q0]? = some (a, .inr (ci, fs))) (hv : narrow ty v = v) (hf : fits ty v = true) (hl0 : kf < fs.length) (hw : ws.set q0 (a, .inr (ci, fs.set kf v)) = ws') (hd : decode cc pc = .ok (.putfield idx, 3)) (hn : pc + 3 = npc) (kk : xW p l e R s m args below meth c nL E A A k n Q ws' npc lv rest) : xW p l e R s m args below meth c nL E A A k n Q ws pc lv (v :: .ref a :: rest) := fun H locs ls hl hP hD hS => by
  subst hn
  subst hw
  obtain ⟨C, T, N, ref, ty0, h1, h2, h3, h4, h5, h6, h7, h8, h9, h10⟩ := hF
  exact va_putF hB.qx hB.qb hB.qt h2 ty0 h6 h7 hB.qo hB.qk hP hD hS q0 he h1 kf h3 (hB.qt _ h4) (xSame.f hB.qt h5) h8 hB.qm (h10 rfl) h9 hv hf hl0 hd (fun H1 locs1 hP1 hD1 hS1 => kk H1 locs1 ls hl hP1 hD1 hS1)
def xCn (own : String) (idx ci N : Nat) (fs : List Value) : Prop := ∃ (C : String) (T : u_T) (ty0 : Nat → FieldType), vwCl[ci]? = some (C, T, N) ∧ (∀ w ∈ u_ws C T N, w ∈ xG) ∧ (∀ k, k < N → parseFieldDescriptor (T k).2.2.1 = some (ty0 k)) ∧ Cond.classLink own idx C ∈ xG ∧ Cond.instantiable C N ∈ xG ∧ Cond.initialized C ∈ xG ∧ ∀ j, j < N → defaultValue (ty0 j) = vp_V fs j
theorem x_new (npc : Nat) (hB : xB p s m args meth c E A own cc nL ret mn hs) {idx ci N k' n' : Nat} {fs : List Value} (hC : xCn own idx ci N fs) (hc : k + 1 ≤ R.cells) (hs' : n + N ≤ R.slots) (hk : k + 1 = k') (hn' : n + N = n') (hd : decode cc pc = .ok (.new idx, 3)) (hn : pc + 3 = npc) (kk : ∀ q : Nat, xW p l e R s m args below meth c nL E A A k' n' Q (ws ++ [(q, .inr (ci, fs))]) npc lv (.ref q :: rest)) : xW p l e R s m args below meth c nL E A A k n Q ws pc lv rest := fun H locs ls hl hP hD hS => by
  subst hn
  subst hk
  subst hn'
  obtain ⟨C, T, ty0, h1, h2, h3, h4, h5, h6, h7⟩ := hC
  exact va_new hB.qx hB.qb hB.qt h2 ty0 h3 hB.qo (hB.qt _ h4) (hB.qt _ h5) (hB.qt _ h6) hB.qk hP hD hS hB.qa h1 h7 hc hs' hd (fun q H1 hP1 hD1 hS1 => kk q H1 locs ls hl hP1 hD1 hS1)
theorem x_newB (npc : Nat) (hB : xB p s m args meth c E A own cc nL ret mn hs) {N k' n' : Nat} (hw : Cond.arrayClass .byte ∈ xG) (hN : N < 65536) (hc : k + 1 ≤ R.cells) (hs' : n + N ≤ R.slots) (hk : k + 1 = k') (hn' : n + N = n') (hd : decode cc pc = .ok (.newarray .byte, 2)) (hn : pc + 2 = npc) (kk : ∀ q : Nat, xW p l e R s m args below meth c nL E A A k' n' Q (ws ++ [(q, .inl (E.2 0, N, .inl (fun _ => 0)))]) npc lv (.ref q :: rest)) : xW p l e R s m args below meth c nL E A A k n Q ws pc lv (.int (nI N) :: rest) := fun H locs ls hl hP hD hS => by
  subst hn
  subst hk
  subst hn'
  refine va_newa (a0 := (N, .inl (fun _ => 0))) hB.qx hB.qb (atype := .byte) (hB.qt _ hw) (ty := .byte) rfl hB.qk hP hD hS hB.qa (fun cA => rfl) (nI_pos (by omega)) (nI_clamp (by omega)) (x_cb hN (by decide)) hc hs' hd (fun q cA H1 hK1 hP1 hD1 hS1 => ?_)
  have e1 : s.vm.findClass ("[" ++ (FieldType.byte).toString) = some cA := (hK1.2 4 (cA, .byte) rfl).2
  have e2 : s.vm.findClass ("[" ++ (FieldType.byte).toString) = some (E.2 0) := (hB.qk.2 0 (E.2 0, .byte) rfl).2
  have e3 : cA = E.2 0 := Option.some.inj (e1.symm.trans e2)
  subst e3
  exact kk q H1 locs ls hl hP1 hD1 hS1
theorem x_newI (npc : Nat) (hB : xB p s m args meth c E A own cc nL ret mn hs) {N k' n' : Nat} (hw : Cond.arrayClass .int ∈ xG) (hN : N < 65536) (hc : k + 1 ≤ R.cells) (hs' : n + N ≤ R.slots) (hk : k + 1 = k') (hn' : n + N = n') (hd : decode cc pc = .ok (.newarray .int, 2)) (hn : pc + 2 = npc) (kk : ∀ q : Nat, xW p l e R s m args below meth c nL E A A k' n' Q (ws ++ [(q, .inl (E.2 1, N, .inl (fun _ => 0)))]) npc lv (.ref q :: rest)) : xW p l e R s m args below meth c nL E A A k n Q ws pc lv (.int (nI N) :: rest) := fun H locs ls hl hP hD hS => by
  subst hn
  subst hk
  subst hn'
  refine va_newa (a0 := (N, .inl (fun _ => 0))) hB.qx hB.qb (atype := .int) (hB.qt _ hw) (ty := .int) rfl hB.qk hP hD hS hB.qa (fun cA => rfl) (nI_pos (by omega)) (nI_clamp (by omega)) (x_cb hN (by decide)) hc hs' hd (fun q cA H1 hK1 hP1 hD1 hS1 => ?_)
  have e1 : s.vm.findClass ("[" ++ (FieldType.int).toString) = some cA := (hK1.2 4 (cA, .int) rfl).2
  have e2 : s.vm.findClass ("[" ++ (FieldType.int).toString) = some (E.2 1) := (hB.qk.2 1 (E.2 1, .int) rfl).2
  have e3 : cA = E.2 1 := Option.some.inj (e1.symm.trans e2)
  subst e3
  exact kk q H1 locs ls hl hP1 hD1 hS1
theorem x_newJ (npc : Nat) (hB : xB p s m args meth c E A own cc nL ret mn hs) {N k' n' : Nat} (hw : Cond.arrayClass .long ∈ xG) (hN : N < 65536) (hc : k + 1 ≤ R.cells) (hs' : n + N ≤ R.slots) (hk : k + 1 = k') (hn' : n + N = n') (hd : decode cc pc = .ok (.newarray .long, 2)) (hn : pc + 2 = npc) (kk : ∀ q : Nat, xW p l e R s m args below meth c nL E A A k' n' Q (ws ++ [(q, .inl (E.2 2, N, .inr (.inl (fun _ => 0))))]) npc lv (.ref q :: rest)) : xW p l e R s m args below meth c nL E A A k n Q ws pc lv (.int (nI N) :: rest) := fun H locs ls hl hP hD hS => by
  subst hn
  subst hk
  subst hn'
  refine va_newa (a0 := (N, .inr (.inl (fun _ => 0)))) hB.qx hB.qb (atype := .long) (hB.qt _ hw) (ty := .long) rfl hB.qk hP hD hS hB.qa (fun cA => rfl) (nI_pos (by omega)) (nI_clamp (by omega)) (x_cb hN (by decide)) hc hs' hd (fun q cA H1 hK1 hP1 hD1 hS1 => ?_)
  have e1 : s.vm.findClass ("[" ++ (FieldType.long).toString) = some cA := (hK1.2 4 (cA, .long) rfl).2
  have e2 : s.vm.findClass ("[" ++ (FieldType.long).toString) = some (E.2 2) := (hB.qk.2 2 (E.2 2, .long) rfl).2
  have e3 : cA = E.2 2 := Option.some.inj (e1.symm.trans e2)
  subst e3
  exact kk q H1 locs ls hl hP1 hD1 hS1
theorem x_newZ (npc : Nat) (hB : xB p s m args meth c E A own cc nL ret mn hs) {N k' n' : Nat} (hw : Cond.arrayClass .boolean ∈ xG) (hN : N < 65536) (hc : k + 1 ≤ R.cells) (hs' : n + N ≤ R.slots) (hk : k + 1 = k') (hn' : n + N = n') (hd : decode cc pc = .ok (.newarray .boolean, 2)) (hn : pc + 2 = npc) (kk : ∀ q : Nat, xW p l e R s m args below meth c nL E A A k' n' Q (ws ++ [(q, .inl (E.2 3, N, .inl (fun _ => 0)))]) npc lv (.ref q :: rest)) : xW p l e R s m args below meth c nL E A A k n Q ws pc lv (.int (nI N) :: rest) := fun H locs ls hl hP hD hS => by
  subst hn
  subst hk
  subst hn'
  refine va_newa (a0 := (N, .inl (fun _ => 0))) hB.qx hB.qb (atype := .boolean) (hB.qt _ hw) (ty := .boolean) rfl hB.qk hP hD hS hB.qa (fun cA => rfl) (nI_pos (by omega)) (nI_clamp (by omega)) (x_cb hN (by decide)) hc hs' hd (fun q cA H1 hK1 hP1 hD1 hS1 => ?_)
  have e1 : s.vm.findClass ("[" ++ (FieldType.boolean).toString) = some cA := (hK1.2 4 (cA, .boolean) rfl).2
  have e2 : s.vm.findClass ("[" ++ (FieldType.boolean).toString) = some (E.2 3) := (hB.qk.2 3 (E.2 3, .boolean) rfl).2
  have e3 : cA = E.2 3 := Option.some.inj (e1.symm.trans e2)
  subst e3
  exact kk q H1 locs ls hl hP1 hD1 hS1
theorem x_fm {α β : Type} {f : α → Option β} : ∀ {is : List α} {w : List β}, is.map f = w.map some → is.filterMap f = w
  | [], [], _ => rfl
  | [], _ :: _, h => by simp at h
  | _ :: _, [], h => by simp at h
  | i :: is, b :: w, h => by
    simp only [List.map_cons, List.cons.injEq] at h
    rw [List.filterMap_cons, h.1]
    simp [x_fm h.2]
/-- what a code word says of its method -/
def xHd (hd : Cond) (y : MethodName) (maxL : Nat) : Prop := ∀ (args : Array Value) (s : State), hd.before args s = true → ∃ mk methY cY, s.methodNamed? y = some mk ∧ s.vm.method? mk = some methY ∧ methY.code = some cY ∧ cY.maxLocals = maxL ∧ parseMethodDescriptor y.desc = some methY.sig
theorem xHd_code {y : MethodName} {b : ByteArray} {n : Nat} {r : Option FieldType} : xHd (.code y b n r) y n := by
  intro args s h
  obtain ⟨mk, hn⟩ := Cond.code_named h
  obtain ⟨meth, c, h1, h2, -, h4, -, -, -, h8⟩ := Cond.code_spec hn h
  exact ⟨mk, meth, c, hn, h1, h2, h4, h8⟩
theorem xHd_with {y : MethodName} {b : ByteArray} {n : Nat} {r : Option FieldType} {hs : List (Nat × Nat × Nat × Nat)} : xHd (.codeWith y b n r hs) y n := by
  intro args s h
  obtain ⟨mk, meth, c, hn, h1, h2, -, h4, -, -, -, h8⟩ := Cond.codeWith_spec h
  exact ⟨mk, meth, c, hn, h1, h2, h4, h8⟩
/-- from the invoking instruction to the callee's invocation -/
def xPf (p : Program) (l : Launch) (e : Env) (R : Room) (s : State) (m : MethodId) (args : Array Value) (below : List Frame) (meth : Method) (c : Code) (nL : Nat) (E : xE) (k n : Nat) (ws : va_W) (pc : Nat) (y : MethodName) (av st rest : List Value) : Prop :=
  ∀ (H : Heap) (locs : List Loc) (ls : Array Slot) (T : State), ls.size = nL → va_P E.1 vwCl ws H → T.heap = H → Stand p l e R s m args below meth c T locs k n →
    ∃ (vm₁ : Vm) (mk : MethodId), s.WarmedH vm₁ ∧ s.methodNamed? y = some mk ∧ ∀ target, (∀ acts, Steps p.tables e below (doInvoke e ((T.setVm vm₁).setTop (F0 m pc ls rest)) acts mk av.toArray).1 target) → Steps p.tables e below (T.setTop (F0 m pc ls st)) target
/-- a call: its world cut out, its ends joined to the rest -/
theorem x_call0 (npc : Nat) (hB : xB p s m args meth c E A own cc nL ret mn hs) {y : MethodName} {hd : Cond} {rm : Room} {av : List Value} {w wr : va_W} {Post : xO → va_W → Prop} {maxL k' n' : Nat} {ig : Instr}
    (pf : xPf p l e R s m args below meth c nL E k n ws pc y av st rest) (hC : xC l E y hd rm av w Post) (hhd : hd ∈ xG) (hh : xHd hd y maxL) (hini : Cond.initialized y.cls ∈ xG)
    (isC isR : List Nat) (hw : isC.map (fun i => ws[i]?) = w.map some) (hndC : va_nd isC = true) (hr : isR.map (fun i => ws[i]?) = wr.map some) (hnd : va_nd isR = true) (hdis : ∀ i ∈ isR, i ∉ isC)
    (hR : rm.frames + 1 ≤ R.frames ∧ 8 + (maxL + 11) + rm.locals ≤ R.locals) (hkR : k + rm.cells ≤ R.cells ∧ n + rm.slots ≤ R.slots) (hk : k + rm.cells ≤ k') (hn' : n + rm.slots ≤ n')
    (hst : (rest.map fun v => v.category).sum ≤ 8) (hd0 : decode cc pc = .ok (ig, 3)) (hn : pc + 3 = npc)
    (kt : ∀ (C : String) (w' : va_W), Post (.inr C) w' → xT p l e R s m args below meth c nL E A A k' n' Q (wr ++ w') pc lv C)
    (kk : ∀ (v : Option Value) (w' : va_W), Post (.inl v) w' → xW p l e R s m args below meth c nL E A A k' n' Q (wr ++ w') npc lv (v.toList ++ rest)) : xW p l e R s m args below meth c nL E A A k n Q ws pc lv st := by
  intro H locs ls hl hP hD hS T hT X
  obtain ⟨vm₁, mk, hW₁, hnm0, hstep⟩ := pf H locs ls T hl.1 hP hT X
  have X₁ := X.noted hW₁
  have hnm : (T.setVm vm₁).methodNamed? y = some mk := X₁.named hnm0
  have hall : ∀ w ∈ hd :: xG, w.before av.toArray (T.setVm vm₁) = true := by
    intro w hw
    rcases List.mem_cons.mp hw with rfl | hw
    · exact xG_warm hhd X₁.warmed (hB.qt _ hhd)
    · exact xG_warm hw X₁.warmed (hB.qt _ hw)
  obtain ⟨mk', methY, cY, h1, h2, h3, h4, -⟩ := hh _ _ (hall hd List.mem_cons_self)
  cases hnm.symm.trans h1
  have hF := va_free (wc := w) hD hS hB.qa isC hw
  have hzz : xZ E (va_A w H.size) (T.setVm vm₁) H := ((hB.qz.kept (fun a h1 h2 => hS.2.1 a h1 h2)).narrow hF).moved X₁.warmed
  have hpre : xPre E av w H.size av.toArray (T.setVm vm₁) := by
    have hTe : (T.setVm vm₁).heap = H := hT
    refine ⟨rfl, by rw [hTe], by rw [hTe]; exact hP.sub isC (x_fm hw), va_K.moved X₁.warmed.alike hB.qk, (hD.sub isC hndC hw).weaken (fun _ _ _ _ => trivial), by rw [hTe]; exact hzz⟩
  obtain ⟨o, t, L, U', X', hL, e1, e2, hq, hsteps⟩ := x_back (hC H.size) x_blind X₁ (g := F0 m pc ls rest) rfl (hl.1.trans hB.ql.symm) (by rw [hB.qb]; exact hd0) (lv_room hst) hnm h2 h3 h4 hR.1 hR.2 hall (hall _ (List.mem_cons_of_mem _ hini)) hkR.1 hkR.2 hpre
  obtain ⟨⟨ox, w', hox, hpost, hP1, hD1⟩, hz1, hk1⟩ := hq
  have hTe : ((T.setVm vm₁).calling (F0 m pc ls rest) mk av.toArray).heap = H := hT
  rw [hTe] at hz1 hk1
  obtain ⟨hP2, hD2⟩ := va_join hP hD isC isR hw hr hnd hdis hk1 hF hP1 hD1
  have hS2 : va_S A s.heap t.heap (locs ++ L) := ⟨Nat.le_trans hS.1 hz1, fun q h1 h2 => by rw [hk1 q (Nat.lt_of_lt_of_le h1 hS.1) (fun z => h2 (hF q z))]; exact hS.2.1 q h1 h2, fun q hq => by
    rcases List.mem_append.mp hq with h | h
    · exact hS.2.2 q h
    · exact hF _ (hL q h)⟩
  have X'' := stand_widen X' hk hn'
  subst hn
  cases ox with
  | inl v =>
    have hox : o = .returned v := hox
    subst hox
    obtain ⟨t2, a1, b1⟩ := kk v w' hpost t.heap (locs ++ L) ls hl hP2 hD2 hS2 U' e1 X''
    exact ⟨t2, hstep _ (fun acts => by rw [doInvoke_state]; exact hsteps.trans a1), b1⟩
  | inr C =>
    obtain ⟨a, cell, hox, ha, hc, hcs, hcl⟩ := hox
    subst hox
    obtain ⟨t2, a1, b1⟩ := kt C w' hpost t.heap (locs ++ L) ls rest a cell hl hP2 hD2 hS2 (Nat.le_trans hS.1 ha) hc hcs (by rw [← X'.warmed.alike.findClass, e2]; exact hcl) U' e1 X''
    exact ⟨t2, hstep _ (fun acts => by rw [doInvoke_state]; exact hsteps.trans a1), b1⟩
def xNm (y : MethodName) (k : Nat) : Prop := (y.cls ≠ "java/lang/invoke/MethodHandle" ∧ y.cls ≠ "java/lang/invoke/VarHandle") ∧ (parseMethodDescriptor y.desc).map (fun d => d.parameters.length) = some k
theorem xNm.len {y : MethodName} {k : Nat} (h : xNm y k) {sig : MethodDescriptor} (hs : parseMethodDescriptor y.desc = some sig) : k = sig.parameters.length := by
  have h2 := h.2
  rw [hs] at h2
  exact (Option.some.inj h2).symm
/-- invokestatic -/
theorem x_pfS {hd : Cond} {y : MethodName} {idx maxL : Nat} {av : List Value} (hB : xB p s m args meth c E A own cc nL ret mn hs) (hhd : hd ∈ xG) (hh : xHd hd y maxL) (hini : Cond.initialized y.cls ∈ xG) (hlk : Cond.methodLink own idx y ∈ xG) (hstt : Cond.static y ∈ xG) (hy : xNm y av.length) (hst : st = av.reverse ++ rest) (hd0 : decode cc pc = .ok (.invokestatic idx, 3)) :
    xPf p l e R s m args below meth c nL E k n ws pc y av st rest := by
  intro H locs ls T hsz hP hT X
  obtain ⟨mk, methM, cM, hnamed, hmethM, -, -, hsigM⟩ := hh _ _ (hB.qt _ hhd)
  have hstatic : methM.isStatic = true := Cond.static_spec hnamed hmethM (hB.qt _ hstt)
  obtain ⟨kP, hkP, -⟩ := className_of_methodNamed hnamed
  have hinitP : kP.init = .initialized := Cond.initialized_spec (findClass_of_methodNamed hnamed) hkP (hB.qt _ hini)
  obtain ⟨vm₁, X₁, hstep₁⟩ := X.invokestatic hB.qx hB.qo (hB.qt _ hlk) hnamed hmethM hstatic hkP hinitP hy.1 (g := F0 m pc ls st) rfl (argsL := av) (rest := rest) (hy.len hsigM) hst (by rw [hB.qb]; exact hd0)
  exact ⟨vm₁, mk, X₁.warmed, hnamed, fun target h => hstep₁ _ h⟩
/-- invokevirtual of a method that the receiver's class C declares -/
theorem x_pfV {hd : Cond} {y : MethodName} {idx maxL q0 ci b N : Nat} {T0 : u_T} {C : String} {fs av : List Value} (hB : xB p s m args meth c E A own cc nL ret mn hs) (hhd : hd ∈ xG) (hh : xHd hd y maxL) (hlk : Cond.methodLink own idx y ∈ xG) (hinst : Cond.instanceMethod y ∈ xG) (hsel : Cond.selects C y y ∈ xG) (he : ws[q0]? = some (b, .inr (ci, fs))) (hc : vwCl[ci]? = some (C, T0, N)) (hy : xNm y av.length) (hst : st = av.reverse ++ .ref b :: rest) (hd0 : decode cc pc = .ok (.invokevirtual idx, 3)) :
    xPf p l e R s m args below meth c nL E k n ws pc y (.ref b :: av) st rest := by
  intro H locs ls T hsz hP hT X
  obtain ⟨cellB, hcell, hobj, hcls⟩ := va_recv hB.qk hP hc he
  obtain ⟨mk, methM, hnamed, hmethM, hstM, habM⟩ := Cond.instanceMethod_spec (hB.qt _ hinst)
  obtain ⟨mk', methM', cM, hn', hmethM', -, -, hsigM⟩ := hh _ _ (hB.qt _ hhd)
  cases hnamed.symm.trans hn'
  cases hmethM.symm.trans hmethM'
  obtain ⟨c2, r2, m2, q1, q2, q3, q4, kP, hkP, hkPi⟩ := Cond.selects_spec (hB.qt _ hsel)
  cases hcls.symm.trans q1
  cases (State.methodFound?_of_named hnamed hy.1).symm.trans q2
  cases hnamed.symm.trans q3
  have hselP : selectMethod e.platform s.vm cellB.cls mk = .method mk := by rw [Launch.admits_selectMethod X.admits]; exact q4
  obtain ⟨vm₁, X₁, hstep₁⟩ := X.invokevirtual hB.qx hB.qo (hB.qt _ hlk) hnamed hmethM hstM hkP hkPi hy.1 (a := b) (cell := cellB) (by rw [hT]; exact hcell)
    (fun z h => by rw [h] at hobj; cases hobj) hselP hmethM habM hkP hkPi (g := F0 m pc ls st) rfl (argsL := av) (rest := rest) (hy.len hsigM) hst (by rw [hB.qb]; exact hd0)
  exact ⟨vm₁, mk, X₁.warmed, hnamed, fun target h => hstep₁ _ h⟩
/-- invokevirtual through a class that inherits the method, or whose receiver overrides it -/
theorem x_pfU {hd : Cond} {x y : MethodName} {idx maxL q0 ci b N : Nat} {T0 : u_T} {C owner : String} {fs av : List Value} (hB : xB p s m args meth c E A own cc nL ret mn hs) (hhd : hd ∈ xG) (hh : xHd hd y maxL) (hlk : Cond.methodLink own idx x ∈ xG) (hsame : Cond.sameMethod x.cls owner x.name x.desc ∈ xG) (hdecl : va_Decl s ⟨owner, x.name, x.desc⟩) (hinst : Cond.instanceMethod y ∈ xG) (hsel : Cond.selects C x y ∈ xG) (he : ws[q0]? = some (b, .inr (ci, fs))) (hc : vwCl[ci]? = some (C, T0, N)) (ho : owner ≠ "java/lang/invoke/MethodHandle" ∧ owner ≠ "java/lang/invoke/VarHandle") (hy : xNm x av.length) (hst : st = av.reverse ++ .ref b :: rest) (hd0 : decode cc pc = .ok (.invokevirtual idx, 3)) :
    xPf p l e R s m args below meth c nL E k n ws pc y (.ref b :: av) st rest := by
  intro H locs ls T hsz hP hT X
  obtain ⟨cellB, hcell, hobj, hcls⟩ := va_recv hB.qk hP hc he
  obtain ⟨r0, r, hn, hrm, hstR, hsigR⟩ := hdecl
  obtain ⟨cn, ck, r1, hcn, hck, hni, hf, hn1⟩ := Cond.sameMethod_found (hB.qt _ hsame)
  cases hn.symm.trans hn1
  obtain ⟨mk, methM, hnamed, hmethM, -, habM⟩ := Cond.instanceMethod_spec (hB.qt _ hinst)
  obtain ⟨c2, r2, m2, q1, q2, q3, q4, kP, hkP, hkPi⟩ := Cond.selects_spec (hB.qt _ hsel)
  cases hcls.symm.trans q1
  cases hf.symm.trans q2
  cases hnamed.symm.trans q3
  have hselP : selectMethod e.platform s.vm cellB.cls r0 = .method mk := by rw [Launch.admits_selectMethod X.admits]; exact q4
  obtain ⟨vm₁, X₁, hstep₁⟩ := X.invokevirtualUp hB.qx hB.qo (hB.qt _ hlk) (hB.qt _ hsame) ho hn hrm hstR (a := b) (cell := cellB) (by rw [hT]; exact hcell)
    (fun z h => by rw [h] at hobj; cases hobj) hselP hmethM habM hkP hkPi (g := F0 m pc ls st) rfl (argsL := av) (rest := rest) (hy.len hsigR) hst (by rw [hB.qb]; exact hd0)
  exact ⟨vm₁, mk, X₁.warmed, hnamed, fun target h => hstep₁ _ h⟩
/-- invokespecial of a constructor -/
theorem x_pfI {y : MethodName} {idx maxL b : Nat} {bytes : ByteArray} {av : List Value} (hB : xB p s m args meth c E A own cc nL ret mn hs) (hhd : Cond.code y bytes maxL none ∈ xG) (hlk : Cond.methodLink own idx y ∈ xG) (hinst : Cond.instanceMethod y ∈ xG) (hy1 : y.name = "<init>") (hy : xNm y av.length) (hst : st = av.reverse ++ .ref b :: rest) (hd0 : decode cc pc = .ok (.invokespecial idx, 3)) :
    xPf p l e R s m args below meth c nL E k n ws pc y (.ref b :: av) st rest := by
  intro H locs ls T hsz hP hT X
  have hpl : e.platform.magicAccessors = ({} : Platform).magicAccessors := by rw [X.admits.platform]
  obtain ⟨mk, methM, cM, kP, vm₁, hnamed, hmethM, hcodeM, -, hlocalsM, -, hkP, -, hW₁, hstep₁⟩ := Steps.initColdArgs (e := e) X.here hB.qx X.warmed hpl hB.qo hy1 hy.1 (hB.qt _ hlk) (hB.qt _ hinst) (hB.qt _ hhd) (f := F0 m pc ls st) rfl (fun sig h => hy.len h) hst (by rw [hB.qb]; exact hd0)
  exact ⟨vm₁, mk, hW₁, hnamed, fun target h => hstep₁ _ h⟩
theorem x_mono {H : Heap} {locs : List Loc} {g : JFrame} {Q' : State → Prop} (h : ∀ t, Q t → Q' t) (w : W p l e R s m args below meth c H locs k n Q g) : W p l e R s m args below meth c H locs k n Q' g := fun T hT X => by
  obtain ⟨t, a, b⟩ := w T hT X
  exact ⟨t, a, h t b⟩
theorem x_mq {w : va_W} {Post : xO → va_W → Prop} {t : State} (h : MQ below (xPost E w s.heap.size Post) args s k n (va_A w s.heap.size) t) : xMQ below E w args s k n Post t := by
  obtain ⟨o, h1, h2, h3, L, ⟨-, hW, hS⟩, h5⟩ := h
  exact ⟨o, h1, h2, h3, L, ⟨hW, hS⟩, h5⟩
/-- the ends -/
theorem x_ends {w w' : va_W} {Post : xO → va_W → Prop} {v : Option Value} {H : Heap} {locs : List Loc} (hA : A = va_A w s.heap.size) (is : List Nat) (hnd : va_nd is = true) (hw : is.map (fun i => ws[i]?) = w'.map some) (hp : Post (.inl v) w') (hP : va_P E.1 vwCl ws H) (hD : va_D A ws) (hS : va_S A s.heap H locs) :
    (∀ t : State, t.heap = H → s.WarmedH t.vm → xPost E w s.heap.size Post args s (.returned v) t) ∧ ∀ q ∈ locs, va_A w s.heap.size q.base := by
  subst hA
  exact ⟨fun t ht hW => ⟨⟨.inl v, w', rfl, hp, by rw [ht]; exact hP.sub is (x_fm hw), hD.sub is hnd hw⟩, hS.F ht⟩, hS.2.2⟩
theorem x_iret {v : Int32} (hB : xB p s m args meth c E A own cc nL (some .int) mn hs) {w w' : va_W} {Post : xO → va_W → Prop} {mc ms : Nat}  (hA : A = va_A w s.heap.size) (is : List Nat) (hnd : va_nd is = true) (hw : is.map (fun i => ws[i]?) = w'.map some) (hp : Post (.inl (some (.int v))) w') (hk : k ≤ mc) (hn : n ≤ ms) (hd : decode cc pc = .ok (.ireturn, 1)) : xW p l e R s m args below meth c nL E A A k n (xMQ below E w args s mc ms Post) ws pc lv [.int v] := fun H locs ls hl hP hD hS => by
  have he := x_ends (args := args) hA is hnd hw hp hP hD hS
  exact W.widen hk hn (x_mono (fun t h => x_mq h) (W.iret hB.qx hB.qb hB.qr he.1 he.2 hd hB.qn))
theorem x_zret {v : Int32}  (hB : xB p s m args meth c E A own cc nL (some .boolean) mn hs) {w w' : va_W} {Post : xO → va_W → Prop} {mc ms : Nat} (hz : narrow .boolean (.int v) = .int v) (hA : A = va_A w s.heap.size) (is : List Nat) (hnd : va_nd is = true) (hw : is.map (fun i => ws[i]?) = w'.map some) (hp : Post (.inl (some (.int v))) w') (hk : k ≤ mc) (hn : n ≤ ms) (hd : decode cc pc = .ok (.ireturn, 1)) : xW p l e R s m args below meth c nL E A A k n (xMQ below E w args s mc ms Post) ws pc lv [.int v] := fun H locs ls hl hP hD hS => by
  have he := x_ends (args := args) hA is hnd hw hp hP hD hS
  exact W.widen hk hn (x_mono (fun t h => x_mq h) (W.zret hB.qx hB.qb hB.qr hz he.1 he.2 hd hB.qn))
theorem x_lret {v : Int64} (hB : xB p s m args meth c E A own cc nL (some .long) mn hs) {w w' : va_W} {Post : xO → va_W → Prop} {mc ms : Nat}  (hA : A = va_A w s.heap.size) (is : List Nat) (hnd : va_nd is = true) (hw : is.map (fun i => ws[i]?) = w'.map some) (hp : Post (.inl (some (.long v))) w') (hk : k ≤ mc) (hn : n ≤ ms) (hd : decode cc pc = .ok (.lreturn, 1)) : xW p l e R s m args below meth c nL E A A k n (xMQ below E w args s mc ms Post) ws pc lv [.long v] := fun H locs ls hl hP hD hS => by
  have he := x_ends (args := args) hA is hnd hw hp hP hD hS
  exact W.widen hk hn (x_mono (fun t h => x_mq h) (W.lret hB.qx hB.qb hB.qr he.1 he.2 hd hB.qn))
theorem x_vret  (hB : xB p s m args meth c E A own cc nL none mn hs) {w w' : va_W} {Post : xO → va_W → Prop} {mc ms : Nat}  (hA : A = va_A w s.heap.size) (is : List Nat) (hnd : va_nd is = true) (hw : is.map (fun i => ws[i]?) = w'.map some) (hp : Post (.inl none) w') (hk : k ≤ mc) (hn : n ≤ ms) (hd : decode cc pc = .ok (.return_, 1)) : xW p l e R s m args below meth c nL E A A k n (xMQ below E w args s mc ms Post) ws pc lv [] := fun H locs ls hl hP hD hS => by
  have he := x_ends (args := args) hA is hnd hw hp hP hD hS
  exact W.widen hk hn (x_mono (fun t h => x_mq h) (W.vret hB.qx hB.qb hB.qr he.1 he.2 hd hB.qn))
theorem x_aret {C : String} {v : Nat} (hB : xB p s m args meth c E A own cc nL (some (.object C)) mn hs) {w w' : va_W} {Post : xO → va_W → Prop} {mc ms : Nat}  (hA : A = va_A w s.heap.size) (is : List Nat) (hnd : va_nd is = true) (hw : is.map (fun i => ws[i]?) = w'.map some) (hp : Post (.inl (some (.ref v))) w') (hk : k ≤ mc) (hn : n ≤ ms) (hd : decode cc pc = .ok (.areturn, 1)) : xW p l e R s m args below meth c nL E A A k n (xMQ below E w args s mc ms Post) ws pc lv [.ref v] := fun H locs ls hl hP hD hS => by
  have he := x_ends (args := args) hA is hnd hw hp hP hD hS
  exact W.widen hk hn (x_mono (fun t h => x_mq h) (W.aret hB.qx hB.qb hB.qr (Or.inl ⟨_, rfl⟩) (Or.inr ⟨_, rfl⟩) he.1 he.2 hd hB.qn))
/-- an exception leaves the method -/
theorem x_leave (hB : xB p s m args meth c E A own cc nL ret mn hs) {w w' : va_W} {Post : xO → va_W → Prop} {mc ms : Nat} {C : String} (hA : A = va_A w s.heap.size) (is : List Nat) (hnd : va_nd is = true) (hw : is.map (fun i => ws[i]?) = w'.map some) (hp : Post (.inr C) w') (hk : k ≤ mc) (hn : n ≤ ms) (hout : ∀ h ∈ hs, ¬ (h.1 ≤ pc ∧ pc < h.2.1)) :
    xT p l e R s m args below meth c nL E A A k n (xMQ below E w args s mc ms Post) ws pc lv C := by
  intro H locs ls st a cell hl hP hD hS ha hc hcs hcl T hT X
  have X' := stand_widen X hk hn
  have hout' : ∀ x ∈ c.exceptionTable.toList, covers x pc = false := by
    intro x hx
    have h1 : (x.startPc, x.endPc, x.handlerPc, x.catchType) ∈ hs := by rw [← hB.qe]; exact List.mem_map.mpr ⟨x, hx, rfl⟩
    have h2 := hout _ h1
    simp only [covers, Bool.and_eq_false_iff, decide_eq_false_iff_not]
    by_cases h3 : x.startPc ≤ pc
    · exact Or.inr (fun h4 => h2 ⟨h3, h4⟩)
    · exact Or.inl h3
  obtain ⟨hwalk, hrun, hended, hWm, hsame⟩ := X'.leaveThrown a (g := F0 m pc ls st) rfl rfl rfl hout' (hlocks := hB.qn)
  subst hA
  refine ⟨T.setFrames (.throwing a :: below), hwalk, .threw a, hrun, hended, ⟨⟨.inr C, w', ⟨a, cell, rfl, ha, by show T.heap[a]? = _; rw [hT]; exact hc, hcs, by rw [hWm.alike.findClass]; exact hcl⟩, hp, by show va_P _ _ _ T.heap; rw [hT]; exact hP.sub is (x_fm hw), hD.sub is hnd hw⟩, hS.F (show T.heap = H from hT)⟩, locs, ⟨hWm, hsame⟩, hS.2.2⟩
end XR
/-! deterministic ends, joins, loops -/
def xRet (v : Option Value) (w : va_W) : xO → va_W → Prop := fun o w' => o = .inl v ∧ w' = w
def xThr (C : String) (w : va_W) : xO → va_W → Prop := fun o w' => o = .inr C ∧ w' = w
theorem xRet_i {v : Option Value} {w : va_W} : xRet v w (.inl v) w := ⟨rfl, rfl⟩
theorem xThr_i {C : String} {w : va_W} : xThr C w (.inr C) w := ⟨rfl, rfl⟩
section XJ
variable {p : Program} {l : Launch} {e : Env} {R : Room} {s : State} {m : MethodId} {args : Array Value} {below : List Frame} {meth : Method} {c : Code} {nL : Nat} {E : xE} {B A : Nat → Prop} {k n : Nat} {Q : State → Prop} {ws : va_W} {pc : Nat} {lv : List (Nat × Value)} {st rest : List Value} {own mn : String} {cc : ByteArray} {ret : Option FieldType} {hs : List (Nat × Nat × Nat × Nat)}
theorem x_callD (npc : Nat) (hB : xB p s m args meth c E A own cc nL ret mn hs) {y : MethodName} {hd : Cond} {rm : Room} {av st' : List Value} {w wr w2 ws' : va_W} {v : Option Value} {maxL k' n' : Nat} {ig : Instr}
    (pf : xPf p l e R s m args below meth c nL E k n ws pc y av st rest) (hC : xC l E y hd rm av w (xRet v w2)) (hhd : hd ∈ xG) (hh : xHd hd y maxL) (hini : Cond.initialized y.cls ∈ xG)
    (isC isR : List Nat) (hw : isC.map (fun i => ws[i]?) = w.map some) (hndC : va_nd isC = true) (hr : isR.map (fun i => ws[i]?) = wr.map some) (hnd : va_nd isR = true) (hdis : ∀ i ∈ isR, i ∉ isC)
    (hR : rm.frames + 1 ≤ R.frames ∧ 8 + (maxL + 11) + rm.locals ≤ R.locals) (hkR : k + rm.cells ≤ R.cells ∧ n + rm.slots ≤ R.slots) (hk : k + rm.cells = k') (hn' : n + rm.slots = n')
    (hst : (rest.map fun v => v.category).sum ≤ 8) (hd0 : decode cc pc = .ok (ig, 3)) (hn : pc + 3 = npc) (hws : wr ++ w2 = ws') (hst' : v.toList ++ rest = st')
    (kk : xW p l e R s m args below meth c nL E A A k' n' Q ws' npc lv st') : xW p l e R s m args below meth c nL E A A k n Q ws pc lv st := by
  subst hws
  subst hst'
  refine x_call0 npc hB pf hC hhd hh hini isC isR hw hndC hr hnd hdis hR hkR (Nat.le_of_eq hk) (Nat.le_of_eq hn') hst hd0 hn (fun C w' h => ?_) (fun v' w' h => ?_)
  · exact absurd h.1 (by simp)
  · obtain ⟨h1, h2⟩ := h
    cases h1
    cases h2
    exact kk
theorem x_callT (hB : xB p s m args meth c E A own cc nL ret mn hs) {y : MethodName} {hd : Cond} {rm : Room} {av : List Value} {w wr w2 ws' : va_W} {C : String} {maxL k' n' : Nat} {ig : Instr}
    (pf : xPf p l e R s m args below meth c nL E k n ws pc y av st rest) (hC : xC l E y hd rm av w (xThr C w2)) (hhd : hd ∈ xG) (hh : xHd hd y maxL) (hini : Cond.initialized y.cls ∈ xG)
    (isC isR : List Nat) (hw : isC.map (fun i => ws[i]?) = w.map some) (hndC : va_nd isC = true) (hr : isR.map (fun i => ws[i]?) = wr.map some) (hnd : va_nd isR = true) (hdis : ∀ i ∈ isR, i ∉ isC)
    (hR : rm.frames + 1 ≤ R.frames ∧ 8 + (maxL + 11) + rm.locals ≤ R.locals) (hkR : k + rm.cells ≤ R.cells ∧ n + rm.slots ≤ R.slots) (hk : k + rm.cells = k') (hn' : n + rm.slots = n')
    (hst : (rest.map fun v => v.category).sum ≤ 8) (hd0 : decode cc pc = .ok (ig, 3)) (hws : wr ++ w2 = ws')
    (kt : xT p l e R s m args below meth c nL E A A k' n' Q ws' pc lv C) : xW p l e R s m args below meth c nL E A A k n Q ws pc lv st := by
  subst hws
  refine x_call0 _ hB pf hC hhd hh hini isC isR hw hndC hr hnd hdis hR hkR (Nat.le_of_eq hk) (Nat.le_of_eq hn') hst hd0 rfl (fun C w' h => ?_) (fun v' w' h => ?_)
  · obtain ⟨h1, h2⟩ := h
    cases h1
    cases h2
    exact kt
  · exact absurd h.1 (by simp)
theorem x_join {α : Type} (pcJ : Nat) (P : α → Prop) (wsF : α → va_W) (lvF : α → List (Nat × Value)) (stF : α → List Value) (kj : ∀ a, P a → xW p l e R s m args below meth c nL E B A k n Q (wsF a) pcJ (lvF a) (stF a))
    (kk : (∀ a, P a → xW p l e R s m args below meth c nL E B A k n Q (wsF a) pcJ (lvF a) (stF a)) → xW p l e R s m args below meth c nL E B A k n Q ws pc lv st) : xW p l e R s m args below meth c nL E B A k n Q ws pc lv st := kk kj
theorem x_loop {α : Type} (I : α → Prop) (μ : α → Nat) (wsF : α → va_W) (lvF : α → List (Nat × Value)) (stF : α → List Value) (a0 : α) (h0 : I a0) (hw : ws = wsF a0) (hl : lv = lvF a0) (hst : st = stF a0)
    (body : ∀ a, I a → (∀ b, I b → μ b < μ a → xW p l e R s m args below meth c nL E B A k n Q (wsF b) pc (lvF b) (stF b)) → xW p l e R s m args below meth c nL E B A k n Q (wsF a) pc (lvF a) (stF a)) : xW p l e R s m args below meth c nL E B A k n Q ws pc lv st := by
  subst hw
  subst hl
  subst hst
  have key : ∀ (d : Nat) (a : α), μ a ≤ d → I a → xW p l e R s m args below meth c nL E B A k n Q (wsF a) pc (lvF a) (stF a) := by
    intro d
    induction d with
    | zero => exact fun a h ha => body a ha (fun b _ hm => absurd hm (by omega))
    | succ d ih => exact fun a h ha => body a ha (fun b hb hm => ih b (by omega) hb)
  exact key (μ a0) a0 (Nat.le_refl _) h0
theorem x_of' {y : MethodName} {rm : Room} {av : List Value} {w : va_W} {Post : xO → va_W → Prop} (hy : plainFor y = true) (ho : y.cls = own) (hm : y.name = mn) (hsl : (lg_sl av).length ≤ nL) (hlv : lv_args 0 av = lv)
    (body : ∀ p e s m args below meth c A, A = va_A w s.heap.size → xB p s m args meth c E A own cc nL ret mn [] → xW p l e rm s m args below meth c nL E A A 0 0 (xMQ below E w args s rm.cells rm.slots Post) w 0 lv []) : xC l E y (.code y cc nL ret) rm av w Post := by
  subst ho
  subst hm
  exact x_of hy hsl hlv body
theorem x_ofH' {y : MethodName} {rm : Room} {av : List Value} {w : va_W} {Post : xO → va_W → Prop} (hy : plainFor y = true) (ho : y.cls = own) (hm : y.name = mn) (hsl : (lg_sl av).length ≤ nL) (hlv : lv_args 0 av = lv)
    (body : ∀ p e s m args below meth c A, A = va_A w s.heap.size → xB p s m args meth c E A own cc nL ret mn hs → xW p l e rm s m args below meth c nL E A A 0 0 (xMQ below E w args s rm.cells rm.slots Post) w 0 lv []) : xC l E y (.codeWith y cc nL ret hs) rm av w Post := by
  subst ho
  subst hm
  exact x_ofH hy hsl hlv body
end XJ
