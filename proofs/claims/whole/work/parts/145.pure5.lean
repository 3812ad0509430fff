/-! the pure side of the receiver of words -/
def wlF (la : Int32) (good : Bool) : Int32 := ((la <<< (nI 1 &&& 31)) ||| (if good then nI 0 else nI 1)) &&& 65535
def lt4 (x : Int32) : Bool := decide (bcF x < nI 4)
/-- the stirrer's past and the word, i bits taken from p on -/
def twF (f : Nat → Int32) (p : Nat) (w : Int64) : Nat → Int64 × Int64
  | 0 => (w, 0)
  | i + 1 => (remF (twF f p w i).1 (f (p + i)), (twF f p w i).2 ||| ((f (p + i) ^^^ turF (twF f p w i).1).toInt64 <<< ((nI i).toInt64 &&& 63)))
theorem ah1 {f : Nat → Int32} {q : Nat} (h : f q = 0 ∨ f q = 1) : ahF f q 1 = f q := by
  show (nI 0 <<< (nI 1 &&& 31)) ||| f (q + 0) = f q
  rw [Nat.add_zero]
  rcases h with h | h <;> rw [h] <;> decide
def gdF (f : Nat → Int32) (p : Nat) : Bool := decide (ahN f p 2 = 1 ∨ ahN f p 2 = 2)
def wcC (f : Nat → Int32) (n p : Nat) (fo : Bool) : Nat := if n - p < 66 then 0 else if fo then (if gdF f p then 3 else 4) else if gdF f p then 2 else 1
def wcR (c h : Nat) : Int32 := match c with
  | 0 => (-1 : Int32)
  | 1 => (-3 : Int32)
  | 2 => bI (decide (h = 2))
  | 3 => bI (decide (h = 2))
  | _ => (-2 : Int32)
def wcO (c : Nat) (fo : Bool) (gr : Nat) (la : Int32) : Bool := match c with
  | 0 => fo
  | 1 => false
  | 2 => decide (8 ≤ gr + 1)
  | 3 => lt4 (wlF la true)
  | _ => lt4 (wlF la false)
def wcG (c gr : Nat) (la : Int32) : Nat := match c with
  | 0 => gr
  | 1 => 0
  | 2 => gr + 1
  | 3 => if lt4 (wlF la true) then gr else 0
  | _ => if lt4 (wlF la false) then gr else 0
def wcA (c gr : Nat) (la : Int32) : Int32 := match c with
  | 0 => la
  | 1 => la
  | 2 => if 8 ≤ gr + 1 then nI 0 else la
  | 3 => wlF la true
  | _ => wlF la false
def wcS (c sl : Nat) : Nat := match c with
  | 1 => sl + 1
  | _ => sl
def wcB (c bd : Nat) : Nat := match c with
  | 4 => bd + 1
  | _ => bd
def wcP (c : Nat) (f : Nat → Int32) (p : Nat) (w : Int64) : Int64 := match c with
  | 0 => w
  | 1 => w
  | _ => (twF f (p + 2) w 64).1
def wcT (c : Nat) (f : Nat → Int32) (p : Nat) (w last : Int64) : Int64 := match c with
  | 0 => last
  | 1 => last
  | _ => (twF f (p + 2) w 64).2
def wcL (c p : Nat) : Nat := match c with
  | 0 => p
  | 1 => p + 1
  | _ => p + 66
