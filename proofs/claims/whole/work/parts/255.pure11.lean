/-! the reference's making -/
def sxF (k : Nat) : Nat → Int32 := fun j => if j < k then nI (sixN j) else 0
def fxF (k : Nat) : Nat → Int32 := fun j => if j < k then nI (fourN j) else 0
theorem sxF_0 : (fun _ => 0 : Nat → Int32) = sxF 0 := by funext j; simp [sxF]
theorem fxF_0 : (fun _ => 0 : Nat → Int32) = fxF 0 := by funext j; simp [fxF]
theorem sxF_s (k : Nat) : upd (sxF k) k (nI (sixN k)) = sxF (k + 1) := by
  funext j
  by_cases h : j = k
  · subst h; rw [pk_us, sxF, if_pos (by omega)]
  · rw [pk_un h, sxF, sxF]
    by_cases h1 : j < k
    · rw [if_pos h1, if_pos (by omega)]
    · rw [if_neg h1, if_neg (by omega)]
theorem fxF_s (k : Nat) : upd (fxF k) k (nI (fourN k)) = fxF (k + 1) := by
  funext j
  by_cases h : j = k
  · subst h; rw [pk_us, fxF, if_pos (by omega)]
  · rw [pk_un h, fxF, fxF]
    by_cases h1 : j < k
    · rw [if_pos h1, if_pos (by omega)]
    · rw [if_neg h1, if_neg (by omega)]
theorem pr2_z0 : (fun _ => 0 : Nat → Int32) = pr2 (nI 0) (nI 0) := pr2_z
def sy0 (k : Nat) : Nat → Int32 := fun j => if j < k then (-1 : Int32) else 0
theorem sy0_0 : (fun _ => 0 : Nat → Int32) = sy0 0 := by funext j; simp [sy0]
theorem sy0_s (k : Nat) : upd (sy0 k) k (-1 : Int32) = sy0 (k + 1) := by
  funext j
  by_cases h : j = k
  · subst h; rw [pk_us, sy0, if_pos (by omega)]
  · rw [pk_un h, sy0, sy0]
    by_cases h1 : j < k
    · rw [if_pos h1, if_pos (by omega)]
    · rw [if_neg h1, if_neg (by omega)]
def cdW (s q : Nat) : Int32 := if isS s then nI (encF s (decide (q = 1))) else (-1 : Int32)
def cdL (k : Nat) : Nat → Int32 := fun j => if j < k then cdW (j / 2) (j % 2) else 0
theorem cdL_0 : (fun _ => 0 : Nat → Int32) = cdL 0 := by funext j; simp [cdL]
theorem cdL_s {s q : Nat} (hq : q < 2) : upd (cdL (2 * s + q)) (2 * s + q) (cdW s q) = cdL (2 * s + (q + 1)) := by
  funext j
  by_cases h : j = 2 * s + q
  · subst h
    rw [pk_us, cdL, if_pos (by omega), show (2 * s + q) / 2 = s by omega, show (2 * s + q) % 2 = q by omega]
  · rw [pk_un h, cdL, cdL]
    by_cases h1 : j < 2 * s + q
    · rw [if_pos h1, if_pos (by omega)]
    · rw [if_neg h1, if_neg (by omega)]
theorem cdL_r {s q : Nat} (hq : q < 2) (hS : isS s = true) : cdL (2 * s + (q + 1)) (2 * s + q) = nI (encF s (decide (q = 1))) := by
  rw [cdL, if_pos (by omega), show (2 * s + q) / 2 = s by omega, show (2 * s + q) % 2 = q by omega, cdW, if_pos hS]
def syL : Nat → Nat → Int32
  | 0 => sy0 1024
  | k + 1 => if isS (k / 2) then upd (syL k) (encF (k / 2) (decide (k % 2 = 1))) (nI (k / 2)) else syL k
theorem syL_n {s q : Nat} (hq : q < 2) (hS : isS s = false) : syL (2 * s + q) = syL (2 * s + (q + 1)) := by
  show _ = syL ((2 * s + q) + 1)
  rw [syL, show (2 * s + q) / 2 = s by omega, if_neg (by rw [hS]; decide)]
theorem syL_y {s q : Nat} (hq : q < 2) (hS : isS s = true) : upd (syL (2 * s + q)) (encF s (decide (q = 1))) (nI s) = syL (2 * s + (q + 1)) := by
  show _ = syL ((2 * s + q) + 1)
  rw [syL, show (2 * s + q) / 2 = s by omega, show (2 * s + q) % 2 = q by omega, if_pos hS]
