theorem ad01 {a : Nat} {x : Int32} (h : x = 0 ∨ x = 1) : nI a + x = nI (a + (if x = 1 then 1 else 0)) := by
  rcases h with h | h <;> rw [h]
  · exact nI_add a 0
  · exact nI_add a 1
def rmL (h : Nat → Int32) (t : Nat) : Nat → Int32 := fun j => if 57 - t < j ∧ j ≤ 57 then h (j - 1) else h j
theorem rmL_0 (h : Nat → Int32) : h = rmL h 0 := by
  funext j
  unfold rmL
  rw [if_neg (by omega)]
theorem rmL_r {h : Nat → Int32} {t : Nat} (ht : t < 57) : rmL h t (57 - t - 1) = h (57 - t - 1) := by
  unfold rmL
  rw [if_neg (by omega)]
theorem rmL_s {h : Nat → Int32} {t : Nat} (ht : t < 57) : upd (rmL h t) (57 - t) (h (57 - t - 1)) = rmL h (t + 1) := by
  funext j
  by_cases hj : j = 57 - t
  · subst hj
    rw [pk_us]
    unfold rmL
    rw [if_pos (by omega)]
  · rw [pk_un hj]
    unfold rmL
    by_cases h1 : 57 - t < j ∧ j ≤ 57
    · rw [if_pos h1, if_pos (by omega)]
    · rw [if_neg h1, if_neg (by omega)]
/-- the row behind one more bit -/
def rmF (h : Nat → Int32) (b : Int32) : Nat → Int32 := fun j => if j = 0 then b else if j ≤ 57 then h (j - 1) else h j
theorem rmF_e (h : Nat → Int32) (b : Int32) : upd (rmL h 57) 0 b = rmF h b := by
  funext j
  unfold rmF
  by_cases hj : j = 0
  · subst hj
    rw [pk_us, if_pos rfl]
  · rw [pk_un hj, if_neg hj]
    unfold rmL
    by_cases h1 : j ≤ 57
    · rw [if_pos (by omega), if_pos h1]
    · rw [if_neg (by omega), if_neg h1]
theorem le0 {k : Nat} (h : k < 2 ^ 31) : nI k ≤ 0 ↔ k = 0 := by
  have := nI_leI (a := k) (b := 0) h (by omega)
  rw [nI_0] at this
  rw [this]
  omega
/-- q bits of x behind the place n of the reference's row at base b: t of them -/
def apG (g : Nat → Int32) (b n : Nat) (x : Int32) (q : Nat) : Nat → Nat → Int32
  | 0 => g
  | t + 1 => upd (apG g b n x q t) (b + (n + t)) (sbit x (q - t - 1))
/-- the reference's balance, and its longest run -/
def blG (g : Nat → Int32) (b : Nat) : Nat → Int32
  | 0 => nI 0
  | i + 1 => blG g b i + nI 2 * g (b + i) - nI 1
def lgG (g : Nat → Int32) (b : Nat) : Nat → Nat × Nat
  | 0 => (0, 0)
  | i + 1 => let r := if 0 < i ∧ g (b + i) = g (b + i - 1) then (lgG g b i).1 + 1 else 1
    (r, if (lgG g b i).2 < r then r else (lgG g b i).2)
theorem lgG_le (g : Nat → Int32) (b : Nat) : ∀ i, (lgG g b i).1 ≤ i ∧ (lgG g b i).2 ≤ i
  | 0 => ⟨Nat.le_refl _, Nat.le_refl _⟩
  | i + 1 => by
    have h := lgG_le g b i
    simp only [lgG]
    refine ⟨?_, ?_⟩ <;> split <;> (try split) <;> omega
