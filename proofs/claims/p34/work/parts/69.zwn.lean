/-! FROM AN HOUR TO ANOTHER -/
/-- how far the worlds have gone that began at p and take messages till hour b -/
def ixF (hr : Nat → Int) (b : Int) (p : Nat) : Nat → Nat
  | 0 => p
  | k + 1 => if k = ixF hr b p k ∧ hr k ≤ b then k + 1 else ixF hr b p k
/-- so at one of the worlds from p to e -/
def wiP (f : Nat → pS) (o : Int) (p e : Nat) (x : Nat) : Prop := ∃ r, p ≤ r ∧ r ≤ e ∧ inn (f r) x o = 1
