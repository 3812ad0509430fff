theorem w_nat : Cond.native arraycopyName ∈ xG := xG_at 542 (by decide +kernel) (by decide +kernel)
section XK5
variable {p : Program} {l : Launch} {e : Env} {R : Room} {s : State} {m : MethodId} {args : Array Value} {below : List Frame} {meth : Method} {c : Code} {nL : Nat} {E : xE} {B A : Nat → Prop} {k n : Nat} {Q : State → Prop} {ws : va_W} {pc : Nat} {lv : List (Nat × Value)} {st rest : List Value} {own mn : String} {cc : ByteArray} {ret : Option FieldType} {hs : List (Nat × Nat × Nat × Nat)}
theorem x_objInit (npc : Nat) (hB : xB p s m args meth c E A own cc nL ret mn hs) {idx a : Nat} (hl0 : Cond.methodLink own idx Lib.objectInit ∈ xG) (hi0 : Cond.instanceMethod Lib.objectInit ∈ xG) (hc0 : Cond.code Lib.objectInit ⟨#[0xb1]⟩ 1 none ∈ xG) (hd : decode cc pc = .ok (.invokespecial idx, 3)) (hn : pc + 3 = npc) (hf : 1 ≤ R.frames) (hlo : (rest.map fun v => v.category).sum + 12 ≤ R.locals) (kk : xW p l e R s m args below meth c nL E B A k n Q ws npc lv rest) : xW p l e R s m args below meth c nL E B A k n Q ws pc lv (.ref a :: rest) := fun H locs ls hl hP hD hS => by
  subst hn
  exact W.objInit hB.qx hB.qb hB.qo (hB.qt _ hl0) (hB.qt _ hi0) (hB.qt _ hc0) rfl (hl.1.trans hB.ql.symm) rfl hd hf (by show 2 * 0 + _ + 12 ≤ _; omega) (kk H locs ls hl hP hD hS)
theorem x_copyB (npc : Nat) (hB : xB p s m args meth c E A own cc nL ret mn hs) (q0 : Nat) {idx a N sp dp len : Nat} {f : Nat → Int32} {ws' : va_W} (hl0 : Cond.methodLink own idx arraycopyName ∈ xG) (hs0 : Cond.static arraycopyName ∈ xG) (hi0 : Cond.initialized "java/lang/System" ∈ xG) (he : ws[q0]? = some (a, .inl (E.2 0, N, .inl f))) (hN : N < 65536) (h4 : sp + len ≤ N) (h5 : dp + len ≤ N) (hfit : ∀ i, i < len → f (sp + i) = 0 ∨ f (sp + i) = 1) (hw : ws.set q0 (a, .inl (E.2 0, N, .inl (va_cpy f f sp dp len))) = ws') (hd : decode cc pc = .ok (.invokestatic idx, 3)) (hn : pc + 3 = npc) (hf : 1 ≤ R.frames) (hlo : (rest.map fun v => v.category).sum + (nativeFrameWords "java/lang/System" "arraycopy" 5 + 11) ≤ R.locals)
    (kk : xW p l e R s m args below meth c nL E A A k n Q ws' npc lv rest) : xW p l e R s m args below meth c nL E A A k n Q ws pc lv (.int (nI len) :: .int (nI dp) :: .ref a :: .int (nI sp) :: .ref a :: rest) := fun H locs ls hl hP hD hS => by
  subst hn
  subst hw
  have c1 : (nI sp).toNatClampNeg = sp := nI_clamp (by omega)
  have c2 : (nI dp).toNatClampNeg = dp := nI_clamp (by omega)
  have c3 : (nI len).toNatClampNeg = len := nI_clamp (by omega)
  refine va_copyi (ty := .byte) hB.qx hB.qb (hB.ql.trans hl.1.symm) hB.qo (hB.qt _ hl0) (hB.qt _ w_nat) (hB.qt _ hs0) (hB.qt _ hi0) hB.qk hP hD hS q0 q0 0 0 he he rfl rfl (by decide) (nI_pos (by omega)) (nI_pos (by omega)) (nI_pos (by omega)) (by rw [c1, c3]; exact h4) (by rw [c2, c3]; exact h5) (fun i hi => ?_) hf hlo hd (fun H1 locs1 hP1 hD1 hS1 => ?_)
  · rw [c3] at hi
    rw [c1]
    rcases hfit i hi with h | h <;> rw [h] <;> decide
  · rw [c1, c2, c3] at hP1 hD1
    exact kk H1 locs1 ls hl hP1 hD1 hS1
theorem x_ldcw (npc : Nat) (hB : xB p s m args meth c E A own cc nL ret mn hs) {z : Nat} {v : Int32} (hd : decode cc pc = .ok (.ldc_w z, 3)) (hn : pc + 3 = npc) (hw : Cond.constant own z v ∈ xG) (kk : xW p l e R s m args below meth c nL E B A k n Q ws npc lv (.int v :: rest)) : xW p l e R s m args below meth c nL E B A k n Q ws pc lv rest := fun H locs ls hl hP hD hS => by
  subst hn
  exact lv_ldcw hB.qx hB.qb hB.qo (hB.qt _ hw) hd (kk H locs ls hl hP hD hS)
def xEx {α : Type} (wF : α → va_W) : xO → va_W → Prop := fun o w' => o = .inl none ∧ ∃ a, w' = wF a
theorem x_callE {α : Type} {wF : α → va_W} (npc : Nat) (hB : xB p s m args meth c E A own cc nL ret mn hs) {y : MethodName} {hd : Cond} {rm : Room} {av : List Value} {w wr : va_W} {maxL k' n' : Nat} {ig : Instr}
    (pf : xPf p l e R s m args below meth c nL E k n ws pc y av st rest) (hC : xC l E y hd rm av w (xEx wF)) (hhd : hd ∈ xG) (hh : xHd hd y maxL) (hini : Cond.initialized y.cls ∈ xG)
    (isC isR : List Nat) (hw : isC.map (fun i => ws[i]?) = w.map some) (hndC : va_nd isC = true) (hr : isR.map (fun i => ws[i]?) = wr.map some) (hnd : va_nd isR = true) (hdis : ∀ i ∈ isR, i ∉ isC)
    (hR : rm.frames + 1 ≤ R.frames ∧ 8 + (maxL + 11) + rm.locals ≤ R.locals) (hkR : k + rm.cells ≤ R.cells ∧ n + rm.slots ≤ R.slots) (hk : k + rm.cells = k') (hn' : n + rm.slots = n')
    (hst : (rest.map fun v => v.category).sum ≤ 8) (hd0 : decode cc pc = .ok (ig, 3)) (hn : pc + 3 = npc)
    (kk : ∀ a : α, xW p l e R s m args below meth c nL E A A k' n' Q (wr ++ wF a) npc lv rest) : xW p l e R s m args below meth c nL E A A k n Q ws pc lv st := by
  refine x_call0 npc hB pf hC hhd hh hini isC isR hw hndC hr hnd hdis hR hkR (Nat.le_of_eq hk) (Nat.le_of_eq hn') hst hd0 hn (fun C w' h => ?_) (fun v' w' h => ?_)
  · exact absurd h.1 (by simp)
  · obtain ⟨h1, a, h2⟩ := h
    cases h1
    cases h2
    exact kk a
end XK5
