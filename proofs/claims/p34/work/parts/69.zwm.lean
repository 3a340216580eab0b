/-! SINCE WHEN -/
/-- v is the hour of the last of the first p that are so; -2 -/
def stR (Q : Nat → Prop) (hr : Nat → Int) (p : Nat) (v : Int) : Prop := (v = -2 ∧ ∀ q, q < p → ¬ Q q) ∨ ∃ q, q < p ∧ Q q ∧ (∀ r, q < r → r < p → ¬ Q r) ∧ v = hr q
