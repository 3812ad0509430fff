/-! the pure side of the receivers -/
def ahN (f : Nat → Int32) (p : Nat) : Nat → Nat
  | 0 => 0
  | i + 1 => 2 * ahN f p i + (if f (p + i) = 1 then 1 else 0)
theorem ahN_lt (f : Nat → Int32) (p : Nat) : ∀ i, ahN f p i < 2 ^ i
  | 0 => by rw [ahN]; decide
  | i + 1 => by
    have := ahN_lt f p i
    rw [ahN, Nat.pow_succ]
    split <;> omega
theorem sl1or : ∀ v, v < 512 → ∀ u, u < 2 → (nI v <<< (nI 1 &&& 31)) ||| nI u = nI (2 * v + u) := by decide +kernel
theorem ah_e {f : Nat → Int32} {p n : Nat} (hb : ∀ i, i < n → f i = 0 ∨ f i = 1) : ∀ i, i ≤ 10 → p + i ≤ n → ahF f p i = nI (ahN f p i)
  | 0, _, _ => rfl
  | i + 1, h1, h2 => by
    have ih := ah_e (p := p) hb i (by omega) (by omega)
    have hl := ahN_lt f p i
    have hl2 : ahN f p i < 512 := Nat.lt_of_lt_of_le hl (by
      have : 2 ^ i ≤ 2 ^ 9 := Nat.pow_le_pow_right (by decide) (by omega)
      exact this)
    rw [ahF, ih, ahN]
    rcases hb (p + i) (by omega) with h | h
    · rw [h]
      exact sl1or _ hl2 0 (by decide)
    · rw [h]
      exact sl1or _ hl2 1 (by decide)
def atM (f : Nat → Int32) (p : Nat) : Bool := decide (ahN f p 7 = 31 ∨ ahN f p 7 = 96)
def mxF (a b : Int32) : Int32 := if a < b then b else a
theorem mxF_1 {mk : Nat} (h : mk < 4) : mxF (nI 0) (nI mk - nI 1) = nI (mk - 1) := by
  have : ∀ k, k < 4 → mxF (nI 0) (nI k - nI 1) = nI (k - 1) := by decide +kernel
  exact this mk h
def mkF (mk : Nat) : Nat := if mk < 3 then mk + 1 else 0
def fkF (fo : Bool) (mk : Nat) : Bool := if mk < 3 then fo else false
def rwF (rw : Nat) : Nat := if rw = 3 then 0 else rw + 1
def mpF (mk rw : Nat) : Nat := if rw = 3 then mk - 1 else mk
/-- what becomes of ten bits: 0 good, 1 bad, 2 wrong -/
def tkK (ten : Nat) (plus first : Bool) : Nat := match decF ten plus with
  | some _ => 0
  | none => match decF ten (!plus) with
    | none => 1
    | some _ => if first then 0 else 2
def tkY (ten : Nat) (plus : Bool) : Nat := match decF ten plus with
  | some y => y
  | none => match decF ten (!plus) with
    | none => 0
    | some y => y
def tkP (ten : Nat) (plus first : Bool) : Bool := pbT ten (match decF ten plus with
  | some _ => plus
  | none => match decF ten (!plus) with
    | none => plus
    | some _ => if first then !plus else plus)
def tkR (ten : Nat) (plus first : Bool) : Int32 := if tkK ten plus first = 0 then nI (tkY ten plus) else if tkK ten plus first = 1 then (-2 : Int32) else nI (tkY ten plus + 512)
def tkO (fo : Bool) (mk k : Nat) : Bool := if k = 0 then fo else fkF fo mk
def tkM (mk rw k : Nat) : Nat := if k = 0 then mpF mk rw else mkF mk
def tkW (rw k : Nat) : Nat := if k = 0 then rwF rw else 0
theorem decF_lt {ten : Nat} {plus : Bool} {y : Nat} (h : decF ten plus = some y) : y < 512 := by
  unfold decF at h
  split at h
  · cases h
  · rename_i x hx
    have h1 := (scanF_lt hx).1
    split at h
    · cases h
    · rename_i i hi
      have h2 := (scanF_lt hi).1
      cases h
      omega
