/-! the pure side of the tens -/
def us (x : Int32) (i : Nat) : Int32 := (x.toUInt32 >>> ((nI i).toUInt32 &&& Int32.toUInt32 31)).toInt32
def bc1 (x : Int32) : Int32 := x - (us x 1 &&& 1431655765)
def bc2 (x : Int32) : Int32 := (x &&& 858993459) + (us x 2 &&& 858993459)
def bc3 (x : Int32) : Int32 := (x + us x 4) &&& 252645135
def bc4 (x : Int32) : Int32 := x + us x 8
def bc5 (x : Int32) : Int32 := x + us x 16
def bcF (x : Int32) : Int32 := bc5 (bc4 (bc3 (bc2 (bc1 x)))) &&& nI 63
def pc6 (v : Nat) : Nat := v % 2 + v / 2 % 2 + v / 4 % 2 + v / 8 % 2 + v / 16 % 2 + v / 32 % 2
theorem bc_small : ∀ v, v < 64 → bcF (nI v) = nI (pc6 v) := by decide +kernel
theorem pc6_le (v : Nat) : pc6 v ≤ 6 := by unfold pc6; omega
def sixN (j : Nat) : Nat := [39, 29, 45, 49, 53, 41, 25, 56, 57, 37, 21, 52, 13, 44, 28, 23, 27, 35, 19, 50, 11, 42, 26, 58, 51, 38, 22, 54, 14, 46, 30, 43].getD j 0
def fourN (j : Nat) : Nat := [11, 9, 5, 12, 13, 10, 6, 14].getD j 0
theorem sixT_N : ∀ j, j < 32 → sixT j = nI (sixN j) := by decide +kernel
theorem fourT_N : ∀ j, j < 8 → fourT j = nI (fourN j) := by decide +kernel
theorem sixN_lt : ∀ j, j < 32 → sixN j < 64 := by decide +kernel
theorem fourN_lt : ∀ j, j < 8 → fourN j < 16 := by decide +kernel
def six0 (s : Nat) : Nat := if 256 ≤ s ∧ s % 32 = 28 then 15 else sixN (s % 32)
theorem six0_lt (s : Nat) : six0 s < 64 := by
  unfold six0
  split
  · omega
  · exact sixN_lt _ (by omega)
/-- has the six (four) a form for PLUS -/
def hp6 (v : Nat) : Bool := decide (pc6 v ≠ 3 ∨ v = 56)
def hp4 (v : Nat) : Bool := decide (pc6 v ≠ 2 ∨ v = 12)
def sixF (s : Nat) (plus : Bool) : Nat := if plus && hp6 (six0 s) then 63 - six0 s else six0 s
theorem sixF_lt (s : Nat) (plus : Bool) : sixF s plus < 64 := by
  have := six0_lt s
  unfold sixF
  split <;> omega
def isS (s : Nat) : Bool := decide (s < 256) || decide (s % 32 = 28) || (decide (s / 32 % 8 = 7) && decide (s % 32 = 23 ∨ s % 32 = 27 ∨ s % 32 = 29 ∨ s % 32 = 30))
/-- the other four of y = 7 -/
def oth (s : Nat) (plus : Bool) : Bool := if plus then decide (s % 32 = 11 ∨ s % 32 = 13 ∨ s % 32 = 14) else decide (s % 32 = 17 ∨ s % 32 = 18 ∨ s % 32 = 20)
def four0 (s : Nat) (plus : Bool) : Nat := if s / 32 % 8 = 7 ∧ (256 ≤ s ∨ oth s plus = true) then 7 else fourN (s / 32 % 8)
theorem four0_lt (s : Nat) (plus : Bool) : four0 s plus < 16 := by
  unfold four0
  split
  · omega
  · exact fourN_lt _ (by omega)
def trn (s : Nat) (plus : Bool) : Bool := if hp4 (four0 s plus) then plus else decide (256 ≤ s) && !plus
def fourF (s : Nat) (plus : Bool) : Nat := if trn s plus then 15 - four0 s plus else four0 s plus
theorem fourF_lt (s : Nat) (plus : Bool) : fourF s plus < 16 := by
  have := four0_lt s plus
  unfold fourF
  split <;> omega
def pb6 (v : Nat) (plus : Bool) : Bool := if pc6 v ≠ 3 then decide (3 < pc6 v) else decide (v = 7) || (decide (v ≠ 56) && plus)
def pb4 (v : Nat) (plus : Bool) : Bool := if pc6 v ≠ 2 then decide (2 < pc6 v) else decide (v = 3) || (decide (v ≠ 12) && plus)
def encF (s : Nat) (plus : Bool) : Nat := sixF s plus * 16 + fourF s (pb6 (sixF s plus) plus)
theorem encF_lt (s : Nat) (plus : Bool) : encF s plus < 1024 := by
  have := sixF_lt s plus
  have := fourF_lt s (pb6 (sixF s plus) plus)
  unfold encF
  omega
def pbT (ten : Nat) (plus : Bool) : Bool := pb4 (ten % 16) (pb6 (ten / 16) plus)
theorem xr63 : ∀ v, v < 64 → nI v ^^^ nI 63 = nI (63 - v) := by decide +kernel
theorem xr15 : ∀ v, v < 16 → nI v ^^^ nI 15 = nI (15 - v) := by decide +kernel
theorem bI_0 {b : Bool} (h : bI b = 0) : b = false := by cases b; rfl; exact absurd h (by decide)
theorem bI_1 {b : Bool} (h : ¬ bI b = 0) : b = true := by cases b; exact absurd (by decide) h; rfl
theorem nrb (b : Bool) : narrow .boolean (.int (bI b)) = .int (bI b) := by cases b <;> rfl
theorem an31 {s : Nat} (h : s < 512) : nI s &&& nI 31 = nI (s % 32) := pk_andN (by omega) 5 (by decide)
theorem an15 {s : Nat} (h : s < 1024) : nI s &&& nI 15 = nI (s % 16) := pk_andN (by omega) 4 (by decide)
theorem sh5 {s : Nat} (h : s < 512) : nI s >>> (nI 5 &&& 31) = nI (s / 32) := pk_shrN (by omega) _ 5 (by decide)
theorem sh4 {s : Nat} (h : s < 1024) : nI s >>> (nI 4 &&& 31) = nI (s / 16) := pk_shrN (by omega) _ 4 (by decide)
theorem an7 {s : Nat} (h : s < 512) : nI s &&& nI 7 = nI (s % 8) := pk_andN (by omega) 3 (by decide)
theorem sl4 {v : Nat} (h : v < 64) : nI v <<< (nI 4 &&& 31) = nI (v * 16) := pk_shlN _ 4 (by decide) (by omega)
theorem or16 : ∀ v, v < 64 → ∀ u, u < 16 → nI (v * 16) ||| nI u = nI (v * 16 + u) := by decide +kernel
theorem amg7 : ∀ x, x < 32 → (xbit 1753219072 x = nI 1 ↔ (x = 23 ∨ x = 27 ∨ x = 29 ∨ x = 30)) := by decide +kernel
theorem amgP : ∀ x, x < 32 → (xbit (nI 26624) x = nI 1 ↔ (x = 11 ∨ x = 13 ∨ x = 14)) := by decide +kernel
theorem amgM : ∀ x, x < 32 → (xbit 1441792 x = nI 1 ↔ (x = 17 ∨ x = 18 ∨ x = 20)) := by decide +kernel
theorem bT {b : Bool} (h : b = true) : nI 1 = bI b := by rw [h]; rfl
theorem bF0 {b : Bool} (h : b = false) : nI 0 = bI b := by rw [h]; rfl
def sV (z : Int32) : Option Value := some (.int z)
theorem sVe {a b : Int32} (h : a = b) : (some (.int a) : Option Value) = some (.int b) := by rw [h]
def othS (plus : Bool) : Int32 := if plus then nI 26624 else 1441792
theorem oth_e (s : Nat) (plus : Bool) : bI (decide (xbit (othS plus) (s % 32) = nI 1)) = bI (oth s plus) := by
  congr 1
  cases plus
  · exact decide_eq_decide.mpr (amgM _ (by omega))
  · exact decide_eq_decide.mpr (amgP _ (by omega))
def scanF (p : Nat → Bool) : Nat → Nat → Option Nat
  | 0, _ => none
  | k + 1, x => if p x then some x else scanF p k (x + 1)
theorem scanF_t {p : Nat → Bool} {k x : Nat} (hk : 0 < k) (h : p x = true) : scanF p k x = some x := by
  obtain ⟨j, rfl⟩ : ∃ j, k = j + 1 := ⟨k - 1, by omega⟩
  rw [scanF, if_pos h]
theorem scanF_f {p : Nat → Bool} {k x : Nat} (hk : 0 < k) (h : p x = false) : scanF p k x = scanF p (k - 1) (x + 1) := by
  obtain ⟨j, rfl⟩ : ∃ j, k = j + 1 := ⟨k - 1, by omega⟩
  rw [scanF, if_neg (by rw [h]; decide)]
  rfl
def oI (o : Option Nat) : Int32 := match o with
  | none => (-1 : Int32)
  | some x => nI x
def xP (v : Nat) (plus : Bool) (x : Nat) : Bool := decide (sixF x plus = v) || decide (sixF (256 + x) plus = v)
def xoF (v : Nat) (plus : Bool) : Option Nat := scanF (xP v plus) 32 0
theorem scanF_lt {p : Nat → Bool} : ∀ {k x y : Nat}, scanF p k x = some y → y < x + k ∧ p y = true
  | 0, x, y, h => by simp [scanF] at h
  | k + 1, x, y, h => by
    rw [scanF] at h
    split at h
    · cases h
      exact ⟨by omega, by assumption⟩
    · have := scanF_lt h
      exact ⟨by omega, this.2⟩
def dP (ten : Nat) (plus : Bool) (x i : Nat) : Bool := isS (x + 32 * i) && decide (encF (x + 32 * i) plus = ten)
def decF (ten : Nat) (plus : Bool) : Option Nat := match xoF (ten / 16) plus with
  | none => none
  | some x => match scanF (dP ten plus x) 16 0 with
    | none => none
    | some i => some (x + 32 * i)
theorem scanF_n {p : Nat → Bool} {N x : Nat} (h : x < N) (hp : p x = false) : scanF p (N - (x + 1)) (x + 1) = scanF p (N - x) x := by
  rw [scanF_f (by omega) hp, Nat.sub_sub]
theorem nI_m1 {x : Nat} (h : x < 2 ^ 31) : ¬ nI x = (-1 : Int32) := by
  intro h1
  have h3 := congrArg Int32.toInt h1
  rw [nI_toInt h] at h3
  have h2 : ((-1 : Int32)).toInt = -1 := by decide
  omega
