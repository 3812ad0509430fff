section XK8
variable {p : Program} {l : Launch} {e : Env} {R : Room} {s : State} {m : MethodId} {args : Array Value} {below : List Frame} {meth : Method} {c : Code} {nL : Nat} {E : xE} {B A : Nat → Prop} {k n : Nat} {Q : State → Prop} {ws : va_W} {pc : Nat} {lv : List (Nat × Value)} {st rest : List Value} {own mn : String} {cc : ByteArray} {ret : Option FieldType} {hs : List (Nat × Nat × Nat × Nat)}
theorem x_lshr (npc : Nat) (hB : xB p s m args meth c E A own cc nL ret mn hs) {x v : Int64} {y : Int32} (hd : decode cc pc = .ok (.lshr, 1)) (hn : pc + 1 = npc) (hv : x >>> (y.toInt64 &&& 63) = v) (kk : xW p l e R s m args below meth c nL E B A k n Q ws npc lv (.long v :: rest)) : xW p l e R s m args below meth c nL E B A k n Q ws pc lv (.int y :: .long x :: rest) := fun H locs ls hl hP hD hS => by
  subst hn
  exact lv_lshr hB.qx hB.qb hd hv (kk H locs ls hl hP hD hS)
theorem x_wp {ws' : va_W} (is : List Nat) (hnd : va_nd is = true) (hw : is.map (fun i => ws[i]?) = ws'.map some) (kk : xW p l e R s m args below meth c nL E B A k n Q ws' pc lv st) : xW p l e R s m args below meth c nL E B A k n Q ws pc lv st := fun H locs ls hl hP hD hS => kk H locs ls hl (hP.sub is (x_fm hw)) (hD.sub is hnd hw) hS
end XK8
/-- the word's bit k, as the reference takes it -/
def wdG (x : Int64) (k : Nat) : Int32 := ((x >>> ((nI k).toInt64 &&& 63)) &&& 1).toInt32
/-- the reference's sent row and its line, i bits put -/
def ptG (x : Int64) (g : Nat → Int32) (n : Nat) (h : Nat → Int32) : Nat → (Nat → Int32) × (Nat → Int32)
  | 0 => (h, g)
  | i + 1 => (rmF (ptG x g n h i).1 (wdG x i ^^^ (ptG x g n h i).1 38 ^^^ (ptG x g n h i).1 57), upd (ptG x g n h i).2 (2640 + (n + i)) (wdG x i ^^^ (ptG x g n h i).1 38 ^^^ (ptG x g n h i).1 57))
/-- the reference's got row and the word, i bits taken from q on -/
def twG (g : Nat → Int32) (q : Nat) (h : Nat → Int32) : Nat → (Nat → Int32) × Int64
  | 0 => (h, 0)
  | i + 1 => (rmF (twG g q h i).1 (g (q + i)), (twG g q h i).2 ||| ((g (q + i) ^^^ (twG g q h i).1 38 ^^^ (twG g q h i).1 57).toInt64 <<< ((nI i).toInt64 &&& 63)))
/-- the reference's row, t bits moved down by c -/
def lsG (g : Nat → Int32) (b c : Nat) (t : Nat) : Nat → Int32 := fun x => if b ≤ x ∧ x < b + t then g (x + c) else g x
theorem lsG_0 (g : Nat → Int32) (b c : Nat) : g = lsG g b c 0 := by
  funext x
  unfold lsG
  rw [if_neg (by omega)]
theorem lsG_r {g : Nat → Int32} {b c t : Nat} : lsG g b c t (b + t + c) = g (b + t + c) := by
  unfold lsG
  rw [if_neg (by omega)]
theorem lsG_s {g : Nat → Int32} {b c t : Nat} : upd (lsG g b c t) (b + t) (g (b + t + c)) = lsG g b c (t + 1) := by
  funext x
  by_cases h : x = b + t
  · subst h
    rw [pk_us]
    unfold lsG
    rw [if_pos (by omega)]
  · rw [pk_un h]
    unfold lsG
    by_cases h1 : b ≤ x ∧ x < b + t
    · rw [if_pos h1, if_pos (by omega)]
    · rw [if_neg h1, if_neg (by omega)]
def emF (h : Nat → Int32) (t : Nat) : Nat → Int32 := fun j => if j < t then nI 1 else h j
theorem emF_0 (h : Nat → Int32) : h = emF h 0 := by
  funext j
  unfold emF
  rw [if_neg (by omega)]
theorem emF_s {h : Nat → Int32} {t : Nat} : upd (emF h t) t (nI 1) = emF h (t + 1) := by
  funext j
  by_cases hj : j = t
  · subst hj
    rw [pk_us]
    unfold emF
    rw [if_pos (by omega)]
  · rw [pk_un hj]
    unfold emF
    by_cases h1 : j < t
    · rw [if_pos h1, if_pos (by omega)]
    · rw [if_neg h1, if_neg (by omega)]
