/-! THE REFERENCE RUNS SOME -/
theorem hr_kp {H B : mzH} (k : kpM H B) (h : ∀ k : Nat, (k : Int) < (aZ H 2 2).toInt → 0 ≤ (aZ H 2 (69 + 5 * k)).toInt ∧ (aZ H 2 (69 + 5 * k)).toInt ≤ 999) : ∀ k : Nat, (k : Int) < (aZ B 2 2).toInt → 0 ≤ (aZ B 2 (69 + 5 * k)).toInt ∧ (aZ B 2 (69 + 5 * k)).toInt ≤ 999 := fun q hq => by
  rw [k.1 2 (by decide)] at hq ⊢
  exact h q hq
