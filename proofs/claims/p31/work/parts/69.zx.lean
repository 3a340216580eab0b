/-! QUESTIONS, THE CLASS -/
def wyB (H : mzH) : Prop := ∀ a b : Int, -2 ≤ wyX H a b ∧ wyX H a b ≤ 25344
def sooX (s : pS) (wy : Int → Int → Int) (n : Nat) (h to : Int) : Int := if whr s n < 0 then whr s n else if whr s n = to then h else if wy (whr s n) to = -2 then -2 else if s.la (tp s n) + wy (whr s n) to < h then h else s.la (tp s n) + wy (whr s n) to
