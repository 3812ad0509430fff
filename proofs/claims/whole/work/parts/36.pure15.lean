/-! what the law's cases need: splitting a number, receivers over rows that agree -/
theorem spl (x : Int32) (N : Nat) (hN : N < 2147483648) : (∃ j, j < N ∧ x = nI j) ∨ x < 0 ∨ nI N ≤ x := by
  by_cases h : x < 0
  · exact Or.inr (Or.inl h)
  · by_cases h2 : nI N ≤ x
    · exact Or.inr (Or.inr h2)
    · refine Or.inl ⟨x.toInt.toNat, ?_, ?_⟩
      · have h3 : ¬ ((nI N).toInt ≤ x.toInt) := fun q => h2 (Int32.le_iff_toInt_le.mpr q)
        rw [nI_toInt (by omega)] at h3
        have h4 : ¬ (x.toInt < (0 : Int32).toInt) := fun q => h (Int32.lt_iff_toInt_lt.mpr q)
        have h5 : (0 : Int32).toInt = 0 := by decide
        omega
      · have h4 : ¬ (x.toInt < (0 : Int32).toInt) := fun q => h (Int32.lt_iff_toInt_lt.mpr q)
        have h5 : (0 : Int32).toInt = 0 := by decide
        have h3 : ¬ ((nI N).toInt ≤ x.toInt) := fun q => h2 (Int32.le_iff_toInt_le.mpr q)
        rw [nI_toInt (by omega)] at h3
        apply Int32.toInt_inj.mp
        rw [nI_toInt (by omega)]
        omega
theorem rcC_row {f g : Nat → Int32} {n p : Nat} {fo : Bool} (hr : rowR f g 0 n) (hp : p ≤ n) : rcC f n p fo = rcC g n p fo := by
  unfold rcC
  by_cases h7 : n - p < 7
  · simp [h7]
  · have e : ahN f p 7 = ahN g p 7 := by
      have := ah_row hr (p := p) 7 (by omega)
      rw [Nat.zero_add] at this
      exact this
    have e2 : atM f p = atM g p := by unfold atM; simp only [e]
    rw [e2]
theorem rc_row {α : Type} (F : Nat → Nat → α) (h0 : ∀ a b, F 0 a = F 0 b) (h1 : ∀ a b, F 1 a = F 1 b) (h2 : ∀ a b, F 2 a = F 2 b) (h4 : ∀ a b, F 4 a = F 4 b) {f g : Nat → Int32} {n p : Nat} {fo : Bool} (hr : rowR f g 0 n) (hp : p ≤ n) : F (rcC f n p fo) (ahN f p 10) = F (rcC g n p fo) (ahN g p 10) := by
  rw [← rcC_row hr hp]
  by_cases h10 : n - p < 10
  · unfold rcC
    cases fo
    · by_cases h7 : n - p < 7
      · simp only [h7, if_true]; exact h0 _ _
      · cases hM : atM f p
        · simp only [h7, hM, if_false]; exact h1 _ _
        · simp only [h7, hM, h10, if_false, if_true]; exact h2 _ _
    · simp only [h10, if_true]; exact h4 _ _
  · have := ah_row hr (p := p) 10 (by omega)
    rw [Nat.zero_add] at this
    rw [this]
theorem gd_row {f g : Nat → Int32} {n p : Nat} (hr : rowR f g 2640 n) (hb : bitR f n) (hp : p + 2 ≤ n) : gdF f p = decide (¬ g (2640 + p) = g (2640 + p + 1)) := by
  have e0 := hr p (by omega)
  have e1 : f (p + 1) = g (2640 + p + 1) := hr (p + 1) (by omega)
  unfold gdF
  rw [← e0, ← e1]
  have a2 : ahN f p 2 = 2 * (2 * 0 + (if f (p + 0) = 1 then 1 else 0)) + (if f (p + 1) = 1 then 1 else 0) := rfl
  rw [a2, Nat.add_zero]
  rcases hb p (by omega) with h | h <;> rcases hb (p + 1) (by omega) with k | k <;> rw [h, k] <;> decide
theorem wcC_n {f : Nat → Int32} {n p : Nat} {fo : Bool} (h : n - p < 66) : wcC f n p fo = 0 := by unfold wcC; rw [if_pos h]
theorem wcC_y {f : Nat → Int32} {n p : Nat} {fo : Bool} (h : ¬ n - p < 66) : wcC f n p fo = if fo then (if gdF f p then 3 else 4) else if gdF f p then 2 else 1 := by unfold wcC; rw [if_neg h]
theorem wcR_good {f : Nat → Int32} {p : Nat} (h : f p = 0 ∨ f p = 1) (h2 : f (p + 1) = 0 ∨ f (p + 1) = 1) (hg : gdF f p = true) : bI (decide (ahN f p 2 = 2)) = f p := by
  have a2 : ahN f p 2 = 2 * (2 * 0 + (if f (p + 0) = 1 then 1 else 0)) + (if f (p + 1) = 1 then 1 else 0) := rfl
  unfold gdF at hg
  rw [a2, Nat.add_zero] at hg ⊢
  rcases h with h | h <;> rcases h2 with k | k <;> rw [h, k] at hg ⊢ <;> first | decide | exact absurd hg (by decide)
