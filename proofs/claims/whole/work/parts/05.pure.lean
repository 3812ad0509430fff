/-! the pure side: bits, the stirrer, rows of a line -/
def bI (b : Bool) : Int32 := if b then nI 1 else nI 0
/-- bit i of x -/
def xbit (x : Int32) (i : Nat) : Int32 := (x.toUInt32 >>> ((nI i).toUInt32 &&& Int32.toUInt32 31)).toInt32 &&& nI 1
theorem and1 (x : Int32) : x &&& nI 1 = 0 ∨ x &&& nI 1 = 1 := by
  have h := pk_and x (m := nI 1) 1 (by decide)
  rw [h]
  have : x.toBitVec.toNat % 2 ^ 1 = 0 ∨ x.toBitVec.toNat % 2 ^ 1 = 1 := by omega
  rcases this with h | h <;> rw [h]
  · exact Or.inl (by decide)
  · exact Or.inr (by decide)
theorem xbit01 (x : Int32) (i : Nat) : xbit x i = 0 ∨ xbit x i = 1 := and1 _
theorem byt01 {x : Int32} (h : x = 0 ∨ x = 1) : x.toInt8.toInt32 = x := by rcases h with h | h <;> rw [h] <;> decide
theorem nar01 {x : Int32} (h : x = 0 ∨ x = 1) : vp_nar .byte x = x := (vp_nar_byte x).trans (byt01 h)
theorem xdec {a : Nat} (h : 0 < a) : nI a - nI 1 + Int32.ofInt (-1) = nI (a - 1) - nI 1 := by
  obtain ⟨b, rfl⟩ : ∃ b, a = b + 1 := ⟨a - 1, by omega⟩
  rw [pk_sub (by omega), show b + 1 - 1 = b by omega, Int32.sub_eq_add_neg]
  rfl
theorem xneg {a : Nat} (h : nI a - nI 1 < 0) (ha : a < 2 ^ 30) : a = 0 := by
  rcases Nat.eq_zero_or_pos a with h0 | h0
  · exact h0
  · rw [pk_sub h0] at h
    exact absurd h (nI_pos (by omega))
/-- q bits of x behind the place n, the highest first: t of them -/
def apF (f : Nat → Int32) (n : Nat) (x : Int32) (q : Nat) : Nat → Nat → Int32
  | 0 => f
  | t + 1 => upd (apF f n x q t) (n + t) (xbit x (q - t - 1))
/-- the number of i bits from p on, the first the highest -/
def ahF (f : Nat → Int32) (p : Nat) : Nat → Int32
  | 0 => nI 0
  | i + 1 => (ahF f p i <<< (nI 1 &&& 31)) ||| f (p + i)
/-- ones less zeros among the first i -/
def olF (f : Nat → Int32) : Nat → Int32
  | 0 => nI 0
  | i + 1 => olF f i + (if f i = nI 1 then nI 1 else (-1 : Int32))
/-- the run that ends at i - 1, and the longest so far -/
def lrF (f : Nat → Int32) : Nat → Nat × Nat
  | 0 => (0, 0)
  | i + 1 => let r := if 0 < i ∧ f i = f (i - 1) then (lrF f i).1 + 1 else 1
    (r, if (lrF f i).2 < r then r else (lrF f i).2)
theorem lrF_le (f : Nat → Int32) : ∀ i, (lrF f i).1 ≤ i ∧ (lrF f i).2 ≤ i
  | 0 => ⟨Nat.le_refl _, Nat.le_refl _⟩
  | i + 1 => by
    have h := lrF_le f i
    simp only [lrF]
    refine ⟨?_, ?_⟩ <;> split <;> (try split) <;> omega
def turF (w : Int64) : Int32 := ((((w.toUInt64 >>> ((nI 38).toInt64.toUInt64 &&& Int64.toUInt64 63)).toInt64) ^^^ ((w.toUInt64 >>> ((nI 57).toInt64.toUInt64 &&& Int64.toUInt64 63)).toInt64)).toInt32) &&& nI 1
def remF (w : Int64) (b : Int32) : Int64 := (w <<< ((nI 1).toInt64 &&& 63)) ||| b.toInt64
