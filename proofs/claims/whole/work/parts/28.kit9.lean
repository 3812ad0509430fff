/-! exceptions caught: cold handlers -/
section
variable {Q : Handler → Pre} {E : CtlPost} {e : Env} {d : Bool} {acts : List Action} {s : State} {f : JFrame} {a : Addr}
theorem xfh_cold {x : ExceptionTableEntry} {t : List ExceptionTableEntry} {c : ClassId} {cell : Cell} {vm' : Vm} (hx : covers x f.pc = true) (h0 : x.catchType ≠ 0)
    (hg : (Jvm.resolveClass f.method.cls x.catchType).Gives e.toSetting s.vm (.ok c) vm') (hsz : vm'.classes.size ≤ s.vm.classes.size)
    (hcell : s.heap[a]? = some cell) (hobj : ∀ k, cell.vm ≠ .statics k)
    (hk : ∃ k, vm'.classes[cell.cls]? = some k) (hc : ∃ k, vm'.classes[c]? = some k) :
    wp (findHandler.go f a (x :: t)) Q E e d acts s ↔
      if vm'.assignable cell.cls c = true then Q (.found x.handlerPc) d acts (s.setVm vm') else wp (findHandler.go f a t) Q E e d acts (s.setVm vm') := by
  simp only [covers] at hx
  obtain ⟨ha, ht⟩ := hg.op (op := VmOp.resolveClass f.method.cls x.catchType) rfl
  cases hfit : vm'.assignable cell.cls c <;>
    simp [findHandler.go, hx, h0, ha, ht, hsz, hcell, hobj, hk, hc, hfit, VmOp.dirties, VmOp.acts]
end
/-- the search ends in h and leaves the tables vm' -/
def xFinds (e : Env) (s : State) (f : JFrame) (a : Addr) (h : Handler) (vm' : Vm) : Prop :=
  ∀ (Q : Handler → Pre) (E : CtlPost) (d : Bool) (acts : List Action), wp (findHandler f a) Q E e d acts s ↔ Q h d acts (s.setVm vm')
theorem x_stepCatch {e : Env} {s : State} {a : Addr} {f : JFrame} {r : List Frame} {pc : Nat} {vm' : Vm} (hfind : xFinds e s f a (.found pc) vm') :
    (stepThrowing e s a (.java f :: r)).Is ((s.setVm vm').setFrames (.java { f with pc := pc, stack := [.ref a] } :: r)) [] := by
  simp only [stepThrowing, searchFrame, vmDo]
  generalize hr : Sem.go _ e false [] s = res
  obtain ⟨as, rfl, ha⟩ := Sem.eq_ok_of hr (a := Handler.found pc) (s' := s.setVm vm') (acts' := []) (by simp [hfind _ _ _ _])
  exact ⟨rfl, ha⟩
theorem x_caught {tb : Tables} {e : Env} {s target : State} {g : JFrame} {c : Code} {below : List Frame} {a : Addr} (h : At s g.method c below) {pc : Nat} {vm' : Vm} (hfind : xFinds e ((s.setTop g).pushFrame (.throwing a)) g a (.found pc) vm')
    (hrest : Steps tb e below ((s.setVm vm').setTop { g with pc := pc, stack := [.ref a] }) target) :
    Steps tb e below ((s.setTop g).pushFrame (.throwing a)) target := by
  obtain ⟨hgo, hw⟩ := h.throwing a
  refine Steps.head hgo hw ?_
  rw [stepThread_throwing (frames_entered h.top _), (x_stepCatch (s := (s.setTop g).pushFrame (.throwing a)) hfind).1]
  obtain ⟨g₀, hg⟩ := Option.isSome_iff_exists.mp h.top
  obtain ⟨r, hr⟩ := State.topJava?_eq_some.mp hg
  have e1 : (((s.setTop g).pushFrame (.throwing a)).setVm vm') = (((s.setVm vm').setTop g).pushFrame (.throwing a)) := rfl
  have hr' : (s.setVm vm').frames = .java g₀ :: r := hr
  rw [e1, State.pushFrame, State.setFrames_setFrames, State.setTop_of_frames _ hr', State.setFrames_setFrames]
  rw [State.setTop_of_frames _ hr'] at hrest
  rw [hr]
  exact hrest
theorem x_entry {s : State} {e : Env} {vm₀ : Vm} {d index c : Nat} (hW : s.WarmedH vm₀) (hl : s.vm.ClassLinks e.platform d index c) :
    (resolveClass d index).Gives e.toSetting vm₀ (.ok c) (vm₀.noted d index (.cls c)) ∧ s.WarmedH (vm₀.noted d index (.cls c)) ∧ (vm₀.noted d index (.cls c)).classes.size ≤ vm₀.classes.size := by
  obtain ⟨dk, _, _, _, hd, _, _, _, _, _, _, hres⟩ := hl.here
  exact ⟨resolveClass_links e.toSetting (hW.classLinks hl), hW.noted hd hres (State.rightAt_cls hl), by no_record⟩
theorem x_cls {s : State} {vm : Vm} (hW : s.WarmedH vm) {name : String} {c : ClassId} (h : s.vm.findClass name = some c) : ∃ k, vm.classes[c]? = some k := Vm.classAt_of_findClass (by rw [hW.alike.findClass]; exact h)
section XQ
variable {p : Program} {l : Launch} {e : Env} {R : Room} {s : State} {m : MethodId} {args : Array Value} {below : List Frame} {meth : Method} {c : Code} {nL : Nat} {E : xE} {B A : Nat → Prop} {k n : Nat} {Q : State → Prop} {ws : va_W} {pc : Nat} {lv : List (Nat × Value)} {st rest : List Value} {own mn : String} {cc : ByteArray} {ret : Option FieldType} {hs : List (Nat × Nat × Nat × Nat)}
theorem x_tab {α β : Type} {f : α → β} : ∀ {xs : List α} {y : β} {ys : List β}, xs.map f = y :: ys → ∃ x t, xs = x :: t ∧ f x = y ∧ t.map f = ys
  | [], _, _, h => by cases h
  | x :: t, _, _, h => by
    rw [List.map_cons] at h
    injection h with h1 h2
    exact ⟨x, t, rfl, h1, h2⟩
/-- the first handler catches it -/
theorem x_catch1 {C : String} {q1 q2 hp ct : Nat} {hr : List (Nat × Nat × Nat × Nat)} (hB : xB p s m args meth c E A own cc nL ret mn ((q1, q2, hp, ct) :: hr)) (hcl : Cond.classLink own ct C ∈ xG) (hin : q1 ≤ pc ∧ pc < q2) (h0 : ct ≠ 0)
    (kk : ∀ a : Nat, xW p l e R s m args below meth c nL E B A k n Q ws hp lv [.ref a]) : xT p l e R s m args below meth c nL E B A k n Q ws pc lv C := by
  intro H locs ls st a cell hl hP hD hS ha hc hcs hcls T hT X
  have hpl : e.platform.magicAccessors = ({} : Platform).magicAccessors := by rw [X.admits.platform]
  obtain ⟨c', hc', hlk⟩ := Cond.classLink_spec hB.qo (hB.qt _ hcl) e.platform hpl
  cases hcls.symm.trans hc'
  obtain ⟨hg, hW', hsz⟩ := x_entry X.warmed hlk
  obtain ⟨x, t, hx, hfx, -⟩ := x_tab hB.qe
  injection hfx with f1 f2
  injection f2 with f2 f3
  injection f3 with f3 f4
  obtain ⟨u, hu, hq⟩ := kk a H locs ls hl hP hD hS (T.setVm (T.vm.noted m.cls ct (.cls cell.cls))) hT (X.noted hW')
  refine ⟨u, x_caught (g := F0 m pc ls st) X.here (vm' := T.vm.noted m.cls ct (.cls cell.cls)) (pc := hp) ?_ hu, hq⟩
  intro Q' E' d' acts'
  rw [W.findHandler_eq (meth := meth) (code := c) X.method' X.code, hx]
  have hcov : covers x (F0 m pc ls st).pc = true := by
    show covers x pc = true
    simp only [covers, Bool.and_eq_true, decide_eq_true_eq]
    rw [f1, f2]
    exact hin
  rw [xfh_cold (s := (T.setTop (F0 m pc ls st)).pushFrame (.throwing a)) (vm' := T.vm.noted m.cls ct (.cls cell.cls)) (c := cell.cls) (cell := cell) hcov (by rw [f4]; exact h0) (by rw [f4]; exact hg) hsz (by show T.heap[a]? = _; rw [hT]; exact hc) (VmData.noStatics_of hcs) (x_cls hW' hc') (x_cls hW' hc'), if_pos (Vm.assignable_self _ _), f3]
/-- the first handler is of a class that it is not of, the second catches it -/
theorem x_catch2 {C D : String} {q1 q2 h1 c1 q3 q4 hp ct : Nat} {hr : List (Nat × Nat × Nat × Nat)} (hB : xB p s m args meth c E A own cc nL ret mn ((q1, q2, h1, c1) :: (q3, q4, hp, ct) :: hr)) (hc1 : Cond.classLink own c1 D ∈ xG) (hcl : Cond.classLink own ct C ∈ xG) (hno : va_Nc C D s) (hi1 : q1 ≤ pc ∧ pc < q2) (h01 : c1 ≠ 0) (hin : q3 ≤ pc ∧ pc < q4) (h0 : ct ≠ 0)
    (kk : ∀ a : Nat, xW p l e R s m args below meth c nL E B A k n Q ws hp lv [.ref a]) : xT p l e R s m args below meth c nL E B A k n Q ws pc lv C := by
  intro H locs ls st a cell hl hP hD hS ha hc hcs hcls T hT X
  have hpl : e.platform.magicAccessors = ({} : Platform).magicAccessors := by rw [X.admits.platform]
  obtain ⟨d', hd', hlk1⟩ := Cond.classLink_spec hB.qo (hB.qt _ hc1) e.platform hpl
  obtain ⟨c', hc', hlk⟩ := Cond.classLink_spec hB.qo (hB.qt _ hcl) e.platform hpl
  cases hcls.symm.trans hc'
  obtain ⟨cn, dn, n1, n2, n3⟩ := hno
  cases n1.symm.trans hc'
  cases n2.symm.trans hd'
  obtain ⟨hg1, hW1, hsz1⟩ := x_entry X.warmed hlk1
  obtain ⟨hg, hW', hsz⟩ := x_entry hW1 hlk
  obtain ⟨x, t, hx, hfx, htt⟩ := x_tab hB.qe
  obtain ⟨x2, t2, hx2, hfx2, -⟩ := x_tab htt
  subst hx2
  injection hfx with f1 f2
  injection f2 with f2 f3
  injection f3 with f3 f4
  injection hfx2 with g1 g2
  injection g2 with g2 g3
  injection g3 with g3 g4
  obtain ⟨u, hu, hq⟩ := kk a H locs ls hl hP hD hS (T.setVm ((T.vm.noted m.cls c1 (.cls d')).noted m.cls ct (.cls cell.cls))) hT (X.noted hW')
  refine ⟨u, x_caught (g := F0 m pc ls st) X.here (vm' := (T.vm.noted m.cls c1 (.cls d')).noted m.cls ct (.cls cell.cls)) (pc := hp) ?_ hu, hq⟩
  intro Q' E' d2 acts'
  rw [W.findHandler_eq (meth := meth) (code := c) X.method' X.code, hx]
  have hcov1 : covers x (F0 m pc ls st).pc = true := by
    show covers x pc = true
    simp only [covers, Bool.and_eq_true, decide_eq_true_eq]
    rw [f1, f2]
    exact hi1
  have hcov : covers x2 (F0 m pc ls st).pc = true := by
    show covers x2 pc = true
    simp only [covers, Bool.and_eq_true, decide_eq_true_eq]
    rw [g1, g2]
    exact hin
  have hna : (T.vm.noted m.cls c1 (.cls d')).assignable cell.cls d' = false := by rw [hW1.alike.assignable]; exact n3
  rw [xfh_cold (s := (T.setTop (F0 m pc ls st)).pushFrame (.throwing a)) (vm' := T.vm.noted m.cls c1 (.cls d')) (c := d') (cell := cell) hcov1 (by rw [f4]; exact h01) (by rw [f4]; exact hg1) hsz1 (by show T.heap[a]? = _; rw [hT]; exact hc) (VmData.noStatics_of hcs) (x_cls hW1 hc') (x_cls hW1 hd'), if_neg (by rw [hna]; decide)]
  rw [xfh_cold (s := ((T.setTop (F0 m pc ls st)).pushFrame (.throwing a)).setVm (T.vm.noted m.cls c1 (.cls d'))) (vm' := (T.vm.noted m.cls c1 (.cls d')).noted m.cls ct (.cls cell.cls)) (c := cell.cls) (cell := cell) hcov (by rw [g4]; exact h0) (by rw [g4]; exact hg) hsz (by show T.heap[a]? = _; rw [hT]; exact hc) (VmData.noStatics_of hcs) (x_cls hW' hc') (x_cls hW' hc'), if_pos (Vm.assignable_self _ _), g3]
  exact Iff.rfl
end XQ
