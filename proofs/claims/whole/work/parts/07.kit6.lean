/-! pure contracts: nothing that was there is written; and throws -/
def xNew (sz : Nat) : Nat → Prop := fun q => sz ≤ q
def xPreP (E : xE) (av : List Value) (w : va_W) (sz : Nat) : Array Value → State → Prop := fun v U => v = av.toArray ∧ U.heap.size = sz ∧ va_P E.1 vwCl w U.heap ∧ va_K E.1 vwCl (xtys E) U ∧ va_D (fun _ => True) w ∧ xZ E (xNew sz) U U.heap
def xPostP (sz : Nat) (o : xO) : Array Value → State → Outcome → State → Prop := fun _ st oc t => xIs sz o oc t ∧ va_F (xNew sz) st t
def xCp (l : Launch) (E : xE) (y : MethodName) (hd : Cond) (rm : Room) (av : List Value) (w : va_W) (o : xO) : Prop :=
  ∀ sz : Nat, xMet l y (hd :: xG) rm (xPreP E av w sz) (xPostP sz o) (xNew sz)
theorem x_blindP {E : xE} {av : List Value} {w : va_W} {sz : Nat} : FrameBlind (xPreP E av w sz) := by
  intro a U g mk h
  obtain ⟨h1, h2, h3, h4, h5, h6⟩ := h
  exact ⟨h1, h2, h3, va_K.moved (u := U) (U := U.calling g mk a) (Vm.Alike.refl U.vm) h4, h5, xZ.moved (u := U) (U := U.calling g mk a) (State.WarmedH.refl U) h6⟩
def xPQ (below : List Frame) (a : Array Value) (s : State) (mc ms : Nat) (o : xO) : State → Prop := fun t =>
  ∃ oc, t.status = .running ∧ Ended t below oc ∧ xPostP s.heap.size o a s oc t ∧ ∃ L, xEnd s t L mc ms ∧ ∀ q ∈ L, xNew s.heap.size q.base
section XP
variable {p : Program} {l : Launch} {e : Env} {R : Room} {s : State} {m : MethodId} {args : Array Value} {below : List Frame} {meth : Method} {c : Code} {nL : Nat} {E : xE} {B A : Nat → Prop} {k n : Nat} {Q : State → Prop} {ws : va_W} {pc : Nat} {lv : List (Nat × Value)} {st rest : List Value} {own mn : String} {cc : ByteArray} {ret : Option FieldType} {hs : List (Nat × Nat × Nat × Nat)}
theorem x_ofP {y : MethodName} {rm : Room} {av : List Value} {w : va_W} {o : xO} (hy : plainFor y = true) (ho : y.cls = own) (hm : y.name = mn) (hsl : (lg_sl av).length ≤ nL) (hlv : lv_args 0 av = lv)
    (body : ∀ p e s m args below meth c, xB p s m args meth c E (xNew s.heap.size) own cc nL ret mn [] → xW p l e rm s m args below meth c nL E (fun _ => True) (xNew s.heap.size) 0 0 (xPQ below args s rm.cells rm.slots o) w 0 lv []) : xCp l E y (.code y cc nL ret) rm av w o := by
  subst ho
  subst hm
  intro sz
  refine MetFree.of_bodySF (code := cc) (maxLocals := nL) (ret := ret) hy ?_ ?_
  · intro args s m h hn
    obtain ⟨meth, c, h1, h2, h3, h4, h5, h6, -, -⟩ := Cond.code_spec hn (atoms_spec (ws := Cond.code y cc nL ret :: xG) h _ List.mem_cons_self)
    exact ⟨meth, c, h1, h2, h3, h4, h5, h6⟩
  · intro p e s m args below meth c s₁ B hml hP _
    obtain ⟨rfl, rfl, hP, hK, hD, hZ⟩ := hP
    have hts := atoms_spec (ws := Cond.code y cc nL ret :: xG) B.pre
    have hh0 : s₁.heap = s.heap := by rw [B.state]; rfl
    have hne : c.exceptionTable.isEmpty = true := B.noHandlers (hts _ List.mem_cons_self)
    have hl := lv_entry av (n := nL) hsl
    have K : W p l e rm s m av.toArray below meth c s.heap [] 0 0 (xPQ below av.toArray s rm.cells rm.slots o) (entryFrame m av.toArray nL) := by
      rw [lg_entry_eq]
      refine body p e s m av.toArray below meth c ⟨B.exec, B.bytes, hml, findClass_of_methodNamed B.named, fun w hw => hts w (List.mem_cons_of_mem _ hw), hK, hZ, B.returns, B.notSynchronized, fun q h => h, (name_of_methodNamed B.named B.method).1, fun q hq cell hc => absurd (Array.getElem?_eq_some_iff.mp hc).1 (by have : s.heap.size ≤ q := hq; omega), ?_⟩ s.heap [] _ ?_ hP hD va_S.rf
      · rw [show c.exceptionTable = #[] from Array.isEmpty_iff.mp hne]; rfl
      · rw [← hlv]; exact hl
    obtain ⟨t, a1, oc, b1, b2, b3, b4⟩ := K s₁ hh0 (Stand.of_body B)
    exact ⟨t, oc, a1, b1, b2, b3, b4⟩
/-- the call of a pure method, from any walk: the world stays as it is -/
theorem x_callP0 (npc : Nat) (hB : xB p s m args meth c E A own cc nL ret mn hs) {y : MethodName} {hd : Cond} {rm : Room} {av : List Value} {w : va_W} {o : xO} {maxL k' n' : Nat} {ig : Instr}
    (pf : xPf p l e R s m args below meth c nL E k n ws pc y av st rest) (hC : xCp l E y hd rm av w o) (hhd : hd ∈ xG) (hh : xHd hd y maxL) (hini : Cond.initialized y.cls ∈ xG)
    (isC : List Nat) (hw : isC.map (fun i => ws[i]?) = w.map some) (hndC : va_nd isC = true)
    (hR : rm.frames + 1 ≤ R.frames ∧ 8 + (maxL + 11) + rm.locals ≤ R.locals) (hkR : k + rm.cells ≤ R.cells ∧ n + rm.slots ≤ R.slots) (hk : k + rm.cells = k') (hn' : n + rm.slots = n')
    (hst : (rest.map fun v => v.category).sum ≤ 8) (hd0 : decode cc pc = .ok (ig, 3)) (hn : pc + 3 = npc)
    (kt : ∀ C : String, o = .inr C → xT p l e R s m args below meth c nL E B A k' n' Q ws pc lv C)
    (kk : ∀ v : Option Value, o = .inl v → xW p l e R s m args below meth c nL E B A k' n' Q ws npc lv (v.toList ++ rest)) : xW p l e R s m args below meth c nL E B A k n Q ws pc lv st := by
  intro H locs ls hl hP hD hS T hT X
  obtain ⟨vm₁, mk, hW₁, hnm0, hstep⟩ := pf H locs ls T hl.1 hP hT X
  have X₁ := X.noted hW₁
  have hnm : (T.setVm vm₁).methodNamed? y = some mk := X₁.named hnm0
  have hall : ∀ w ∈ hd :: xG, w.before av.toArray (T.setVm vm₁) = true := by
    intro w hw
    rcases List.mem_cons.mp hw with rfl | hw
    · exact xG_warm hhd X₁.warmed (hB.qt _ hhd)
    · exact xG_warm hw X₁.warmed (hB.qt _ hw)
  obtain ⟨mk', methY, cY, h1, h2, h3, h4, -⟩ := hh _ _ (hall hd List.mem_cons_self)
  cases hnm.symm.trans h1
  have hF : ∀ q, xNew H.size q → A q := fun q h => hB.qa q (Nat.le_trans hS.1 h)
  have hzz : xZ E (xNew H.size) (T.setVm vm₁) H := ((hB.qz.kept (fun a h1 h2 => hS.2.1 a h1 h2)).narrow hF).moved X₁.warmed
  have hpre : xPreP E av w H.size av.toArray (T.setVm vm₁) := by
    have hTe : (T.setVm vm₁).heap = H := hT
    refine ⟨rfl, by rw [hTe], by rw [hTe]; exact hP.sub isC (x_fm hw), va_K.moved X₁.warmed.alike hB.qk, (hD.sub isC hndC hw).weaken (fun _ _ _ _ => trivial), by rw [hTe]; exact hzz⟩
  obtain ⟨oc, t, L, U', X', hL, e1, e2, hq, hsteps⟩ := x_back (hC H.size) x_blindP X₁ (g := F0 m pc ls rest) rfl (hl.1.trans hB.ql.symm) (by rw [hB.qb]; exact hd0) (lv_room hst) hnm h2 h3 h4 hR.1 hR.2 hall (hall _ (List.mem_cons_of_mem _ hini)) hkR.1 hkR.2 hpre
  obtain ⟨hox, hz1, hk1⟩ := hq
  have hTe : ((T.setVm vm₁).calling (F0 m pc ls rest) mk av.toArray).heap = H := hT
  rw [hTe] at hz1 hk1
  have hP2 : va_P E.1 vwCl ws t.heap := hP.kept (fun k q hk => hk1 q.1 (hP k q hk).lt (fun z => absurd (hP k q hk).lt (by have : H.size ≤ q.1 := z; omega)))
  have hS2 : va_S A s.heap t.heap (locs ++ L) := ⟨Nat.le_trans hS.1 hz1, fun q h1 h2 => by rw [hk1 q (Nat.lt_of_lt_of_le h1 hS.1) (fun z => h2 (hF q z))]; exact hS.2.1 q h1 h2, fun q hq => by
    rcases List.mem_append.mp hq with h | h
    · exact hS.2.2 q h
    · exact hF _ (hL q h)⟩
  have X'' := stand_widen X' (Nat.le_of_eq hk) (Nat.le_of_eq hn')
  subst hn
  cases o with
  | inl v =>
    have hox : oc = .returned v := hox
    subst hox
    obtain ⟨t2, a1, b1⟩ := kk v rfl t.heap (locs ++ L) ls hl hP2 hD hS2 U' e1 X''
    exact ⟨t2, hstep _ (fun acts => by rw [doInvoke_state]; exact hsteps.trans a1), b1⟩
  | inr C =>
    obtain ⟨a, cell, hox, ha, hc, hcs, hcl⟩ := hox
    subst hox
    obtain ⟨t2, a1, b1⟩ := kt C rfl t.heap (locs ++ L) ls rest a cell hl hP2 hD hS2 (Nat.le_trans hS.1 ha) hc hcs (by rw [← X'.warmed.alike.findClass, e2]; exact hcl) U' e1 X''
    exact ⟨t2, hstep _ (fun acts => by rw [doInvoke_state]; exact hsteps.trans a1), b1⟩
theorem x_callP (npc : Nat) (hB : xB p s m args meth c E A own cc nL ret mn hs) {y : MethodName} {hd : Cond} {rm : Room} {av st' : List Value} {w : va_W} {v : Option Value} {maxL k' n' : Nat} {ig : Instr}
    (pf : xPf p l e R s m args below meth c nL E k n ws pc y av st rest) (hC : xCp l E y hd rm av w (.inl v)) (hhd : hd ∈ xG) (hh : xHd hd y maxL) (hini : Cond.initialized y.cls ∈ xG)
    (isC : List Nat) (hw : isC.map (fun i => ws[i]?) = w.map some) (hndC : va_nd isC = true)
    (hR : rm.frames + 1 ≤ R.frames ∧ 8 + (maxL + 11) + rm.locals ≤ R.locals) (hkR : k + rm.cells ≤ R.cells ∧ n + rm.slots ≤ R.slots) (hk : k + rm.cells = k') (hn' : n + rm.slots = n')
    (hst : (rest.map fun v => v.category).sum ≤ 8) (hd0 : decode cc pc = .ok (ig, 3)) (hn : pc + 3 = npc) (hst' : v.toList ++ rest = st')
    (kk : xW p l e R s m args below meth c nL E B A k' n' Q ws npc lv st') : xW p l e R s m args below meth c nL E B A k n Q ws pc lv st := by
  subst hst'
  exact x_callP0 npc hB pf hC hhd hh hini isC hw hndC hR hkR hk hn' hst hd0 hn (fun C h => by cases h) (fun v h => by cases h; exact kk)
theorem x_callPT (hB : xB p s m args meth c E A own cc nL ret mn hs) {y : MethodName} {hd : Cond} {rm : Room} {av : List Value} {w : va_W} {C : String} {maxL k' n' : Nat} {ig : Instr}
    (pf : xPf p l e R s m args below meth c nL E k n ws pc y av st rest) (hC : xCp l E y hd rm av w (.inr C)) (hhd : hd ∈ xG) (hh : xHd hd y maxL) (hini : Cond.initialized y.cls ∈ xG)
    (isC : List Nat) (hw : isC.map (fun i => ws[i]?) = w.map some) (hndC : va_nd isC = true)
    (hR : rm.frames + 1 ≤ R.frames ∧ 8 + (maxL + 11) + rm.locals ≤ R.locals) (hkR : k + rm.cells ≤ R.cells ∧ n + rm.slots ≤ R.slots) (hk : k + rm.cells = k') (hn' : n + rm.slots = n')
    (hst : (rest.map fun v => v.category).sum ≤ 8) (hd0 : decode cc pc = .ok (ig, 3))
    (kt : xT p l e R s m args below meth c nL E B A k' n' Q ws pc lv C) : xW p l e R s m args below meth c nL E B A k n Q ws pc lv st :=
  x_callP0 _ hB pf hC hhd hh hini isC hw hndC hR hkR hk hn' hst hd0 rfl (fun C h => by cases h; exact kt) (fun v h => by cases h)
theorem x_mqP {o : xO} {t : State} (h : MQ below (xPostP s.heap.size o) args s k n (xNew s.heap.size) t) : xPQ below args s k n o t := by
  obtain ⟨oc, h1, h2, h3, L, ⟨-, hW, hS⟩, h5⟩ := h
  exact ⟨oc, h1, h2, h3, L, ⟨hW, hS⟩, h5⟩
theorem x_endsP {v v' : Option Value} {H : Heap} {locs : List Loc} (hv : v' = v) (hS : va_S (xNew s.heap.size) s.heap H locs) :
    (∀ t : State, t.heap = H → s.WarmedH t.vm → xPostP s.heap.size (.inl v) args s (.returned v') t) ∧ ∀ q ∈ locs, xNew s.heap.size q.base := by
  subst hv
  exact ⟨fun t ht hW => ⟨rfl, hS.F ht⟩, hS.2.2⟩
theorem x_leaveP (hB : xB p s m args meth c E (xNew s.heap.size) own cc nL ret mn hs) {mc ms : Nat} {C : String} (hk : k ≤ mc) (hn : n ≤ ms) (hout : ∀ h ∈ hs, ¬ (h.1 ≤ pc ∧ pc < h.2.1)) :
    xT p l e R s m args below meth c nL E B (xNew s.heap.size) k n (xPQ below args s mc ms (.inr C)) ws pc lv C := by
  intro H locs ls st a cell hl hP hD hS ha hc hcs hcl T hT X
  have X' := stand_widen X hk hn
  have hout' : ∀ x ∈ c.exceptionTable.toList, covers x pc = false := by
    intro x hx
    have h1 : (x.startPc, x.endPc, x.handlerPc, x.catchType) ∈ hs := by rw [← hB.qe]; exact List.mem_map.mpr ⟨x, hx, rfl⟩
    have h2 := hout _ h1
    simp only [covers, Bool.and_eq_false_iff, decide_eq_false_iff_not]
    by_cases h3 : x.startPc ≤ pc
    · exact Or.inr (fun h4 => h2 ⟨h3, h4⟩)
    · exact Or.inl h3
  obtain ⟨hwalk, hrun, hended, hWm, hsame⟩ := X'.leaveThrown a (g := F0 m pc ls st) rfl rfl rfl hout' (hlocks := hB.qn)
  exact ⟨T.setFrames (.throwing a :: below), hwalk, .threw a, hrun, hended, ⟨⟨a, cell, rfl, ha, by show T.heap[a]? = _; rw [hT]; exact hc, hcs, by rw [hWm.alike.findClass]; exact hcl⟩, hS.F (show T.heap = H from hT)⟩, locs, ⟨hWm, hsame⟩, hS.2.2⟩
theorem x_iretP {v : Int32} (hB : xB p s m args meth c E (xNew s.heap.size) own cc nL (some .int) mn hs) {mc ms : Nat} {r : Option Value}  (hv : (some (.int v)) = r) (hk : k ≤ mc) (hn : n ≤ ms) (hd : decode cc pc = .ok (.ireturn, 1)) : xW p l e R s m args below meth c nL E B (xNew s.heap.size) k n (xPQ below args s mc ms (.inl r)) ws pc lv [.int v] := fun H locs ls hl hP hD hS => by
  have he := x_endsP (args := args) hv hS
  exact W.widen hk hn (x_mono (fun t h => x_mqP h) (W.iret hB.qx hB.qb hB.qr he.1 he.2 hd hB.qn))
theorem x_zretP {v : Int32} (hB : xB p s m args meth c E (xNew s.heap.size) own cc nL (some .boolean) mn hs) {mc ms : Nat} {r : Option Value} (hz : narrow .boolean (.int v) = .int v) (hv : (some (.int v)) = r) (hk : k ≤ mc) (hn : n ≤ ms) (hd : decode cc pc = .ok (.ireturn, 1)) : xW p l e R s m args below meth c nL E B (xNew s.heap.size) k n (xPQ below args s mc ms (.inl r)) ws pc lv [.int v] := fun H locs ls hl hP hD hS => by
  have he := x_endsP (args := args) hv hS
  exact W.widen hk hn (x_mono (fun t h => x_mqP h) (W.zret hB.qx hB.qb hB.qr hz he.1 he.2 hd hB.qn))
theorem x_lretP {v : Int64} (hB : xB p s m args meth c E (xNew s.heap.size) own cc nL (some .long) mn hs) {mc ms : Nat} {r : Option Value}  (hv : (some (.long v)) = r) (hk : k ≤ mc) (hn : n ≤ ms) (hd : decode cc pc = .ok (.lreturn, 1)) : xW p l e R s m args below meth c nL E B (xNew s.heap.size) k n (xPQ below args s mc ms (.inl r)) ws pc lv [.long v] := fun H locs ls hl hP hD hS => by
  have he := x_endsP (args := args) hv hS
  exact W.widen hk hn (x_mono (fun t h => x_mqP h) (W.lret hB.qx hB.qb hB.qr he.1 he.2 hd hB.qn))
theorem x_vretP  (hB : xB p s m args meth c E (xNew s.heap.size) own cc nL none mn hs) {mc ms : Nat} {r : Option Value}  (hv : none = r) (hk : k ≤ mc) (hn : n ≤ ms) (hd : decode cc pc = .ok (.return_, 1)) : xW p l e R s m args below meth c nL E B (xNew s.heap.size) k n (xPQ below args s mc ms (.inl r)) ws pc lv [] := fun H locs ls hl hP hD hS => by
  have he := x_endsP (args := args) hv hS
  exact W.widen hk hn (x_mono (fun t h => x_mqP h) (W.vret hB.qx hB.qb hB.qr he.1 he.2 hd hB.qn))
theorem x_aretP {C : String} {v : Nat} (hB : xB p s m args meth c E (xNew s.heap.size) own cc nL (some (.object C)) mn hs) {mc ms : Nat} {r : Option Value}  (hv : (some (.ref v)) = r) (hk : k ≤ mc) (hn : n ≤ ms) (hd : decode cc pc = .ok (.areturn, 1)) : xW p l e R s m args below meth c nL E B (xNew s.heap.size) k n (xPQ below args s mc ms (.inl r)) ws pc lv [.ref v] := fun H locs ls hl hP hD hS => by
  have he := x_endsP (args := args) hv hS
  exact W.widen hk hn (x_mono (fun t h => x_mqP h) (W.aret hB.qx hB.qb hB.qr (Or.inl ⟨_, rfl⟩) (Or.inr ⟨_, rfl⟩) he.1 he.2 hd hB.qn))
end XP
