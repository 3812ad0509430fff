/-! the reference's receivers -/
theorem or1 (a : Nat) (u : Nat) (hu : u < 2) : nI (2 * a) ||| nI u = nI (2 * a + u) := by
  have h : (2 * a) ||| u = 2 * a + u := by
    have := Nat.two_pow_add_eq_or_of_lt (i := 1) (b := u) (by omega) a
    rw [Nat.pow_one] at this
    exact this.symm
  show (Int32.ofNat (2 * a)) ||| (Int32.ofNat u) = Int32.ofNat (2 * a + u)
  rw [← h]
  apply Int32.toBitVec.inj
  rw [Int32.toBitVec_or]
  show BitVec.ofNat 32 (2 * a) ||| BitVec.ofNat 32 u = BitVec.ofNat 32 (2 * a ||| u)
  apply BitVec.eq_of_toNat_eq
  rw [BitVec.toNat_or, BitVec.toNat_ofNat, BitVec.toNat_ofNat, BitVec.toNat_ofNat, Nat.or_mod_two_pow]
theorem sl16 {v : Nat} (hv : v < 65536) (u : Nat) (hu : u < 2) : ((nI v <<< (nI 1 &&& 31)) ||| nI u) &&& (65535 : Int32) = nI ((2 * v + u) % 65536) := by
  rw [show nI v <<< (nI 1 &&& 31) = nI (v * 2) from pk_shlN _ 1 (by decide) (by omega), Nat.mul_comm, or1 v u hu]
  exact pk_andN (by omega) 16 (by decide)
/-- the tables that the reference makes, held against decoding -/
def tbOK (cd sy : Nat → Int32) : Prop := ∀ ten, ten < 1024 → ∀ p : Bool, (∀ y, decF ten p = some y → sy ten = nI y ∧ cd (2 * y + (if p then 1 else 0)) = nI ten) ∧ (∀ y, decF ten p = none → decF ten (!p) = some y → sy ten = nI y ∧ ¬ cd (2 * y + (if p then 1 else 0)) = nI ten) ∧ (decF ten p = none → decF ten (!p) = none → sy ten = (-1 : Int32))
/-- the words' receiver's row of marks behind one more -/
def laN (v : Nat) (good : Bool) : Nat := (2 * v + (if good then 0 else 1)) % 65536
theorem laN_lt (v : Nat) (good : Bool) : laN v good < 65536 := Nat.mod_lt _ (by decide)
theorem wlF_N {v : Nat} (hv : v < 65536) (good : Bool) : wlF (nI v) good = nI (laN v good) := by
  cases good
  · exact sl16 hv 1 (by decide)
  · exact sl16 hv 0 (by decide)
def mk4 (m : Nat) : Nat := if m < 4 then m else 0
