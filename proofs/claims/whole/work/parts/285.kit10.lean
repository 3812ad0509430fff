/-! rows of the law's own walk -/
def bL (b : Bool) : Int64 := if b then 1 else 0
section XL
variable {p : Program} {l : Launch} {e : Env} {R : Room} {s : State} {m : MethodId} {args : Array Value} {below : List Frame} {meth : Method} {c : Code} {nL : Nat} {E : xE} {B A : Nat → Prop} {k n : Nat} {Q : State → Prop} {ws : va_W} {pc : Nat} {lv : List (Nat × Value)} {st rest : List Value} {own mn : String} {cc : ByteArray} {ret : Option FieldType} {hs : List (Nat × Nat × Nat × Nat)}
theorem x_sld (npc : Nat) (hB : xB p s m args meth c E A own cc nL ret mn hs) {b L j : Nat} {xs : Nat → Int32} (hX : va_X b L xs s s.heap) (hbl : b < s.heap.size) (hbA : ¬ A b) (hj : j < L) (hL : L < 2147483648) (hd : decode cc pc = .ok (.iaload, 1)) (hn : pc + 1 = npc)
    (kk : xW p l e R s m args below meth c nL E B A k n Q ws npc lv (.int (xs j) :: rest)) : xW p l e R s m args below meth c nL E B A k n Q ws pc lv (.int (nI j) :: .ref b :: rest) := fun H locs ls hl hP hD hS => by
  subst hn
  exact va_sld hB.qx hB.qb hX hbl hbA hS (vp_in_nI hj hL) hd (by rw [nI_clamp (Nat.lt_trans hj hL)]; exact kk H locs ls hl hP hD hS)
theorem x_slen (npc : Nat) (hB : xB p s m args meth c E A own cc nL ret mn hs) {b L : Nat} {xs : Nat → Int32} (hX : va_X b L xs s s.heap) (hbl : b < s.heap.size) (hbA : ¬ A b) (hd : decode cc pc = .ok (.arraylength, 1)) (hn : pc + 1 = npc)
    (kk : xW p l e R s m args below meth c nL E B A k n Q ws npc lv (.int (nI L) :: rest)) : xW p l e R s m args below meth c nL E B A k n Q ws pc lv (.ref b :: rest) := fun H locs ls hl hP hD hS => by
  subst hn
  exact va_slen hB.qx hB.qb hX hbl hbA hS hd (kk H locs ls hl hP hD hS)
/-- more may be made than was -/
theorem x_more {k' n' : Nat} (hk : k ≤ k') (hn : n ≤ n') (kk : xW p l e R s m args below meth c nL E B A k' n' Q ws pc lv st) : xW p l e R s m args below meth c nL E B A k n Q ws pc lv st := fun H locs ls hl hP hD hS T hT X => kk H locs ls hl hP hD hS T hT (stand_widen X hk hn)
/-- a loop whose rounds may make cells -/
theorem x_loopK {α : Type} (I : α → Prop) (μ kF nF : α → Nat) (wsF : α → va_W) (lvF : α → List (Nat × Value)) (a0 : α) (h0 : I a0) (hk : k = kF a0) (hn : n = nF a0) (hw : ws = wsF a0) (hl : lv = lvF a0)
    (body : ∀ a, I a → (∀ b, I b → μ b < μ a → xW p l e R s m args below meth c nL E B A (kF b) (nF b) Q (wsF b) pc (lvF b) []) → xW p l e R s m args below meth c nL E B A (kF a) (nF a) Q (wsF a) pc (lvF a) []) : xW p l e R s m args below meth c nL E B A k n Q ws pc lv [] := by
  subst hw
  subst hl
  subst hk
  subst hn
  have key : ∀ (d : Nat) (a : α), μ a ≤ d → I a → xW p l e R s m args below meth c nL E B A (kF a) (nF a) Q (wsF a) pc (lvF a) [] := by
    intro d
    induction d with
    | zero => exact fun a h ha => body a ha (fun b _ hm => absurd hm (by omega))
    | succ d ih => exact fun a h ha => body a ha (fun b hb hm => ih b (by omega) hb)
  exact key (μ a0) a0 (Nat.le_refl _) h0
end XL
