/-! the tables of the reference and decoding are one -/
def keyB (s : Nat) : Bool := !isS s || [false, true].all (fun p => decide (decF (encF s p) p = some s) && (decide (decF (encF s p) (!p) = none) || decide (decF (encF s p) (!p) = some s)))
theorem key_all : ∀ s, s < 512 → keyB s = true := by decide +kernel
theorem key12 {s : Nat} (hs : s < 512) (hS : isS s = true) (p : Bool) : decF (encF s p) p = some s ∧ (decF (encF s p) (!p) = none ∨ decF (encF s p) (!p) = some s) := by
  have h := key_all s hs
  unfold keyB at h
  rw [hS] at h
  simp only [Bool.not_true, Bool.false_or, List.all_cons, List.all_nil, Bool.and_true, Bool.and_eq_true, Bool.or_eq_true, decide_eq_true_eq] at h
  cases p
  · exact h.1
  · exact h.2
theorem dec_enc {ten : Nat} {p : Bool} {y : Nat} (h : decF ten p = some y) : y < 512 ∧ isS y = true ∧ encF y p = ten := by
  refine ⟨decF_lt h, ?_⟩
  unfold decF at h
  split at h
  · cases h
  · split at h
    · cases h
    · rename_i i hi
      have h2 := (scanF_lt hi).2
      cases h
      unfold dP at h2
      rw [Bool.and_eq_true, decide_eq_true_eq] at h2
      exact h2
theorem dec_one {ten s y : Nat} {p q : Bool} (hs : s < 512) (hS : isS s = true) (he : encF s q = ten) (h : decF ten p = some y) : s = y := by
  have k := key12 hs hS q
  rw [he] at k
  by_cases hpq : p = q
  · subst hpq
    rw [k.1] at h
    exact Option.some.inj h
  · have : p = !q := by cases p <;> cases q <;> simp_all
    subst this
    rcases k.2 with k2 | k2
    · rw [k2] at h; cases h
    · rw [k2] at h; exact Option.some.inj h
theorem syL_no {ten : Nat} (h10 : ten < 1024) : ∀ k, (∀ j, j < k → isS (j / 2) = true → encF (j / 2) (decide (j % 2 = 1)) ≠ ten) → syL k ten = (-1 : Int32)
  | 0, _ => by rw [syL, sy0, if_pos h10]
  | k + 1, h => by
    have ih := syL_no h10 k (fun j hj => h j (by omega))
    rw [syL]
    split
    · rename_i hS
      rw [pk_un (fun e => h k (by omega) hS e.symm)]
      exact ih
    · exact ih
theorem syL_some {ten y : Nat} : ∀ k, (∀ j, j < k → isS (j / 2) = true → encF (j / 2) (decide (j % 2 = 1)) = ten → j / 2 = y) → (∃ j, j < k ∧ isS (j / 2) = true ∧ encF (j / 2) (decide (j % 2 = 1)) = ten) → syL k ten = nI y
  | 0, _, ⟨j, hj, _⟩ => absurd hj (Nat.not_lt_zero _)
  | k + 1, h, ⟨j, hj, hjS, hje⟩ => by
    rw [syL]
    by_cases hS : isS (k / 2) = true
    · rw [if_pos hS]
      by_cases he : encF (k / 2) (decide (k % 2 = 1)) = ten
      · rw [he, pk_us, h k (by omega) hS he]
      · rw [pk_un (fun e => he e.symm)]
        refine syL_some k (fun i hi => h i (by omega)) ⟨j, ?_, hjS, hje⟩
        rcases Nat.lt_or_ge j k with h1 | h1
        · exact h1
        · have : j = k := by omega
          subst this
          exact absurd hje he
    · rw [if_neg hS]
      refine syL_some k (fun i hi => h i (by omega)) ⟨j, ?_, hjS, hje⟩
      rcases Nat.lt_or_ge j k with h1 | h1
      · exact h1
      · have : j = k := by omega
        subst this
        exact absurd hjS hS
theorem ixd (y : Nat) (p : Bool) : (2 * y + (if p then 1 else 0)) / 2 = y ∧ decide ((2 * y + (if p then 1 else 0)) % 2 = 1) = p := by
  cases p
  · exact ⟨by simp, by simp⟩
  · exact ⟨by simp; omega, by simp⟩
theorem ixl {y : Nat} (p : Bool) (h : y < 512) : 2 * y + (if p then 1 else 0) < 1024 := by cases p <;> simp <;> omega
theorem sy_dec {ten y : Nat} {p : Bool} (h : decF ten p = some y) : syL 1024 ten = nI y := by
  obtain ⟨h1, h2, h3⟩ := dec_enc h
  refine syL_some 1024 (fun j hj hS he => dec_one (by omega) hS he h) ⟨2 * y + (if p then 1 else 0), ixl p h1, ?_, ?_⟩
  · rw [(ixd y p).1]; exact h2
  · rw [(ixd y p).1, (ixd y p).2]; exact h3
theorem cd_at {y : Nat} (p : Bool) (h : y < 512) (hS : isS y = true) : cdL 1024 (2 * y + (if p then 1 else 0)) = nI (encF y p) := by
  rw [cdL, if_pos (ixl p h), cdW, (ixd y p).1, (ixd y p).2, if_pos hS]
theorem tb_ok : tbOK (cdL 1024) (syL 1024) := by
  intro ten hten p
  refine ⟨?_, ?_, ?_⟩
  · intro y h
    obtain ⟨h1, h2, h3⟩ := dec_enc h
    exact ⟨sy_dec h, by rw [cd_at p h1 h2, h3]⟩
  · intro y h0 h
    obtain ⟨h1, h2, h3⟩ := dec_enc h
    refine ⟨sy_dec h, ?_⟩
    rw [cd_at p h1 h2]
    intro e
    have e2 : encF y p = ten := (nI_eq (by have := encF_lt y p; omega) (by omega)).mp e
    have k := (key12 h1 h2 p).1
    rw [e2, h0] at k
    cases k
  · intro h0 h1
    refine syL_no hten 1024 (fun j hj hS he => ?_)
    have k := (key12 (by omega) hS (decide (j % 2 = 1))).1
    rw [he] at k
    by_cases hq : decide (j % 2 = 1) = p
    · rw [hq, h0] at k; cases k
    · have : decide (j % 2 = 1) = !p := by cases p <;> cases hh : decide (j % 2 = 1) <;> simp_all
      rw [this, h1] at k
      cases k
theorem sy_F {ten : Nat} (hten : ten < 1024) : syL 1024 ten = oI (syF ten) := by
  unfold syF
  cases h1 : decF ten false with
  | some y => exact sy_dec h1
  | none =>
    cases h2 : decF ten true with
    | some y => exact sy_dec h2
    | none => exact ((tb_ok ten hten false).2.2) h1 h2
