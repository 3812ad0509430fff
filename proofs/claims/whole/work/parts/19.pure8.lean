/-! the pure side of the reference -/
theorem shm : ∀ k, k < 32 → ((nI k &&& 31).toBitVec.smod 32).toNat = k := by decide +kernel
/-- bit k of x, as the reference takes it -/
def sbit (x : Int32) (k : Nat) : Int32 := (x >>> (nI k &&& 31)) &&& nI 1
theorem sbit_N {v k : Nat} (hv : v < 2 ^ 31) (hk : k < 32) : sbit (nI v) k = nI (v / 2 ^ k % 2) := by
  unfold sbit
  rw [pk_shrN hv _ k (shm k hk)]
  have h1 : v / 2 ^ k ≤ v := Nat.div_le_self _ _
  exact pk_andN (by omega) 1 (by decide)
def onF (v : Nat) : Nat → Nat
  | 0 => 0
  | i + 1 => onF v i + v / 2 ^ i % 2
theorem onF_le (v : Nat) : ∀ i, onF v i ≤ i
  | 0 => Nat.le_refl _
  | i + 1 => by
    have := onF_le v i
    rw [onF]
    omega
theorem on10 : ∀ v, v < 64 → onF v 10 = pc6 v := by decide +kernel
/-- two cells -/
def pr2 (a b : Int32) : Nat → Int32 := fun i => if i = 0 then a else if i = 1 then b else 0
theorem pr2_0 {a b x : Int32} : upd (pr2 a b) 0 x = pr2 x b := by
  funext i
  by_cases h : i = 0
  · subst h; rfl
  · rw [pk_un h]; simp [pr2, h]
theorem pr2_1 {a b x : Int32} : upd (pr2 a b) 1 x = pr2 a x := by
  funext i
  by_cases h : i = 1
  · subst h; rfl
  · rw [pk_un h]; simp [pr2, h]
theorem pr2_z : (fun _ => 0 : Nat → Int32) = pr2 0 0 := by
  funext i
  simp [pr2]
/-- the reference's turning of the four -/
def mtr (s : Nat) (nw : Bool) : Bool := if decide (256 ≤ s) && decide (s / 32 % 8 = 1 ∨ s / 32 % 8 = 2 ∨ s / 32 % 8 = 5 ∨ s / 32 % 8 = 6) then !nw else nw && hp4 (four0 s nw)
theorem mtr_e : ∀ s, s < 512 → ∀ nw : Bool, mtr s nw = trn s nw := by decide +kernel
