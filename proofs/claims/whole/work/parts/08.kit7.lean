/-! throw new X("..") in a pure walk; the catch of an exception -/
def xNoTr (l : Launch) : Prop := ∀ e, l.admits e → e.platform.stackTraces = false
/-- the words of a throw: in the lists, or on Throwable's statics -/
def xTw (a : Cond) : Prop := a ∈ xG ∨ a = .laysStatic Bundle.tN "UNASSIGNED_STACK" Bundle.steD ∨ a = .laysStatic Bundle.tN "SUPPRESSED_SENTINEL" Bundle.listD ∨ a = .isRef (.static Bundle.tN "UNASSIGNED_STACK" Bundle.steD) ∨ a = .isRef (.static Bundle.tN "SUPPRESSED_SENTINEL" Bundle.listD)
theorem xTw.ok {a : Cond} {args : Array Value} {s : State} {E : xE} {A : Nat → Prop} (h : xTw a) (ht : ∀ w ∈ xG, w.before args s = true) (hz : xZ E A s s.heap) : a.before args s = true := by
  rcases h with h | rfl | rfl | rfl | rfl
  · exact ht _ h
  · exact hz.1.1.lays
  · exact hz.2.1.lays
  · exact hz.1.1.ref
  · exact hz.2.1.ref
theorem x_same {s U : State} {k n : Nat} (h : s.sameButNew U [] k n) : va_F (xNew s.heap.size) s U := by
  obtain ⟨h1, h2, h3, h4, h5, h6⟩ := h
  refine ⟨by first | exact h2 | exact h3 | omega, fun q hq _ => ?_⟩
  obtain ⟨cell, hc⟩ : ∃ cell, s.heap[q]? = some cell := ⟨s.heap[q], Array.getElem?_eq_getElem hq⟩
  obtain ⟨c', hc', he, hsz, hk⟩ := h6 q cell hc
  rw [hc, hc']
  congr 1
  rw [he]
  have hsl : c'.slots = cell.slots := Array.ext_getElem? (fun i => hk i (by simp))
  rw [hsl]
section XT
variable {p : Program} {l : Launch} {e : Env} {R : Room} {s : State} {m : MethodId} {args : Array Value} {below : List Frame} {meth : Method} {c : Code} {nL : Nat} {E : xE} {B A : Nat → Prop} {k n : Nat} {Q : State → Prop} {ws : va_W} {pc : Nat} {lv : List (Nat × Value)} {st rest : List Value} {own mn : String} {cc : ByteArray} {ret : Option FieldType} {hs : List (Nat × Nat × Nat × Nat)}
theorem x_throw (hT : xNoTr l) (hB : xB p s m args meth c E (xNew s.heap.size) own cc nL ret mn hs) {mc ms ix im ic : Nat} {X tx : String} (names : List String)
    (hcl : Cond.classLink own ix X ∈ xG) (hins : Cond.instantiable X 6 ∈ xG) (hini : Cond.initialized X ∈ xG) (hstr : Cond.stringRef own im tx ∈ xG) (hat : ∀ a ∈ Bundle.ownAtoms own ic X names, xTw a)
    (hfit : Bundle.fit X = true) (hnames : ∀ n ∈ names, Bundle.fit n = true) (hk : k + 1 ≤ mc) (hn : n + 6 ≤ ms) (hkR : k + 1 ≤ R.cells ∧ n + 6 ≤ R.slots) (hRf : names.length + 3 < R.frames) (hRl : 13 * (names.length + 1) + 44 ≤ R.locals)
    (hout : ∀ h ∈ hs, ¬ (h.1 ≤ pc + 3 + 1 + 2 + 3 ∧ pc + 3 + 1 + 2 + 3 < h.2.1))
    (d0 : decode cc pc = .ok (.new ix, 3)) (d3 : decode cc (pc + 3) = .ok (.dup, 1)) (d4 : decode cc (pc + 3 + 1) = .ok (.ldc im, 2)) (d6 : decode cc (pc + 3 + 1 + 2) = .ok (.invokespecial ic, 3)) (d9 : decode cc (pc + 3 + 1 + 2 + 3) = .ok (.athrow, 1)) :
    xW p l e R s m args below meth c nL E B (xNew s.heap.size) k n (xPQ below args s mc ms (.inr X)) ws pc lv [] := by
  intro H locs ls hl hP hD hS
  refine W.newc hB.qx hB.qb hB.qo (hB.qt _ hcl) (hB.qt _ hins) (hB.qt _ hini) (g := F0 m pc ls []) rfl d0 hkR.1 hkR.2 (fun cC kC h1 h2 h3 h4 => ?_)
  refine W.eq (g2 := F0 m (pc + 3) ls [.ref H.size]) rfl ?_
  refine lv_dup hB.qx hB.qb d3 rfl ?_
  obtain ⟨k0, cf, i0, q, -, -, -, -, -, hev⟩ := Cond.stringRef_spec hB.qo (hB.qt _ hstr)
  refine va_ldcS hB.qx hB.qb hB.qo (vk_R.of (hB.qt _ hstr) hev) d4 ?_
  intro T hT' X0
  have X : Stand p l e R s m args below meth c T [] (k + 1) (n + 6) := Stand.forget (locs := []) (extra := locs) X0 (fun y hy => hS.2.2 y hy)
  have hout' : ∀ x ∈ c.exceptionTable.toList, covers x (pc + 3 + 1 + 2 + 3) = false := by
    intro x hx
    have h1 : (x.startPc, x.endPc, x.handlerPc, x.catchType) ∈ hs := by rw [← hB.qe]; exact List.mem_map.mpr ⟨x, hx, rfl⟩
    have h2 := hout _ h1
    simp only [covers, Bool.and_eq_false_iff, decide_eq_false_iff_not]
    by_cases h3 : x.startPc ≤ pc + 3 + 1 + 2 + 3
    · exact Or.inr (fun h4 => h2 ⟨h3, h4⟩)
    · exact Or.inl h3
  obtain ⟨U, hst, hrun, hend, hWm, hsame, ce, hce, how⟩ := X.ctorThrowS hB.qx (hT e X.admits) (own := own) (cls := _) (names := names) (ic := ic) hB.qo hfit hnames (fun a ha => (hat a ha).ok hB.qt hB.qz) (fun x hx => by cases hx) (a := H.size) h1 h2 (by rw [hT']; simp [freshCell]) hS.1 (msg := .ref q) rfl (g := F0 m (pc + 3 + 1 + 2) ls [.ref q, .ref H.size, .ref H.size]) rfl (hl.1.trans hB.ql.symm) rfl rfl (rest := []) rfl (by rw [hB.qb]; exact d6) (by rw [hB.qb]; exact d9) hout' hRf (by show 2 * 0 + (1 + 0) + _ ≤ _; omega) (hlocks := hB.qn)
  have hvs : va_F (xNew s.heap.size) s ({ U with vm := s.vm } : State) := x_same hsame
  exact ⟨U, hst, .threw H.size, hrun, hend, ⟨⟨H.size, ce, rfl, hS.1, hce, by rw [how.vm]; rfl, by rw [hWm.alike.findClass]; exact how.cls⟩, hvs⟩, [], ⟨hWm, hsame.mono hk hn⟩, fun q h => by cases h⟩
theorem x_gets (npc : Nat) (hB : xB p s m args meth c E A own cc nL ret mn hs) {C f d : String} {v : Value} {idx : Nat} (hz : va_Z C f d v A s s.heap) (hlk : Cond.fieldLink own idx C f d ∈ xG) (hd : decode cc pc = .ok (.getstatic idx, 3)) (hn : pc + 3 = npc) (kk : xW p l e R s m args below meth c nL E B A k n Q ws npc lv (v :: rest)) : xW p l e R s m args below meth c nL E B A k n Q ws pc lv rest := fun H locs ls hl hP hD hS => by
  subst hn
  exact va_gets hB.qx hB.qb hz hS hB.qo (hB.qt _ hlk) (fun _ h => h) hd (kk H locs ls hl hP hD hS)
theorem x_ti (npc : Nat) (hB : xB p s m args meth c E A own cc nL ret mn hs) {t N j : Nat} {f : Nat → Int32} (hz : va_T .int t N (fun j => .int (f j)) A s s.heap) (hj : j < N) (hN : N < 2147483648) (hd : decode cc pc = .ok (.iaload, 1)) (hn : pc + 1 = npc) (kk : xW p l e R s m args below meth c nL E B A k n Q ws npc lv (.int (f j) :: rest)) : xW p l e R s m args below meth c nL E B A k n Q ws pc lv (.int (nI j) :: .ref t :: rest) := fun H locs ls hl hP hD hS => by
  subst hn
  exact va_ti hB.qx hB.qb hz hS (vp_in_nI hj hN) (by rw [nI_clamp (Nat.lt_trans hj hN)]) hd (kk H locs ls hl hP hD hS)
end XT
