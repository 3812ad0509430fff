/-! the pure side of the line's rest and of LineCoder -/
def mnF (a b : Int32) : Int32 := if b < a then b else a
theorem mnF_N {a b : Nat} (ha : a < 2 ^ 31) (hb : b < 2 ^ 31) : mnF (nI a) (nI b) = nI (min a b) := by
  unfold mnF
  by_cases h : b < a
  · rw [if_pos (nI_lt h ha), Nat.min_eq_right (by omega)]
  · rw [if_neg (nI_nlt (by omega) (by omega)), Nat.min_eq_left (by omega)]
theorem mxF_N {a b : Nat} (ha : a < 2 ^ 31) (hb : b < 2 ^ 31) : mxF (nI a) (nI b) = nI (if a < b then b else a) := by
  unfold mxF
  by_cases h : a < b
  · rw [if_pos (nI_lt h hb), if_pos h]
  · rw [if_neg (nI_nlt (by omega) (by omega)), if_neg h]
/-- the symbol of ten bits with either sign -/
def syF (ten : Nat) : Option Nat := match decF ten false with
  | some y => some y
  | none => decF ten true
/-- the word's bit i, stirred by the past -/
def wdB (x : Int64) (i : Nat) : Int32 := (x.toUInt64 >>> ((nI i).toInt64.toUInt64 &&& Int64.toUInt64 63)).toInt64.toInt32 &&& nI 1
/-- past and row of the line, i bits of the word put from n on -/
def ptF (x : Int64) (f : Nat → Int32) (n : Nat) (w : Int64) : Nat → Int64 × (Nat → Int32)
  | 0 => (w, f)
  | i + 1 => (remF (ptF x f n w i).1 (wdB x i ^^^ turF (ptF x f n w i).1), apF (ptF x f n w i).2 (n + i) (wdB x i ^^^ turF (ptF x f n w i).1) 1 1)
