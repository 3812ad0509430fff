def hdF (ct : Bool) : Int32 := if ct then nI 2 else nI 1
theorem turn01 {x : Int32} (h : x = 0 ∨ x = 1) : (1 - x = nI 1 ↔ x = 0) := by rcases h with h | h <;> rw [h] <;> decide
