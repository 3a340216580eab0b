/-! THE REFERENCE RUNS SOME -/
theorem sb_kp {H B A : mzH} {P : Nat → Prop} (k : kpM H B) (h : ∀ q : Nat, (q : Int) < (aZ B 2 2).toInt → (inM A q ≠ 0 ↔ P q) ∧ hoM A q = (aZ B 2 (69 + 5 * q)).toInt) : ∀ q : Nat, (q : Int) < (aZ H 2 2).toInt → (inM A q ≠ 0 ↔ P q) ∧ hoM A q = (aZ H 2 (69 + 5 * q)).toInt := fun q hq => by
  have z := h q (by rw [k.1 2 (by decide)]; exact hq)
  rw [k.1 2 (by decide)] at z
  exact z
