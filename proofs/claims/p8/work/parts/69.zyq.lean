/-! THE REFERENCE'S BLAME -/
/-- the first of those at which w is least -/
def blW (w : Nat → Int) (n : Nat) (o l : Int) : Prop := (n = 0 ∧ o = -1) ∨ (∃ a, a < n ∧ o = (a : Int) ∧ l = w a ∧ ∀ b, b < n → w a < w b ∨ (w a = w b ∧ a ≤ b))
def blV (w : Nat → Int) (n : Nat) (k v : Int) : Prop := ∃ o l, blW w n o l ∧ ((o = -1 ∧ v = -2) ∨ (¬ o = -1 ∧ v = if k = 0 then o else l))
