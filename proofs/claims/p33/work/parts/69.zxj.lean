/-! SETTLING, THE VERDICTS -/
/-- the book's rows are in order -/
def gdB (H : mzH) : Prop := (0 ≤ (fZ H 3 9).toInt ∧ (fZ H 3 9).toInt ≤ 60) ∧ ∀ j : Nat, j < (fZ H 3 9).toInt.toNat → rwO 8 (roX H) (fun k => (aZ H 6 k).toInt) j
/-- book and course are as they were -/
def kpW (H B : mzH) : Prop := ∀ c, ((3 ≤ c ∧ c ≤ 10) ∨ (25 ≤ c ∧ c ≤ 27)) → (∀ f, fZ B c f = fZ H c f) ∧ (∀ i, aZ B c i = aZ H c i)
/-- the verdicts kept are those of the course -/
def whE (H : mzH) : Prop := ∀ q, q < (fZ H 25 2).toInt.toNat → (aZ H 42 (odX H q)).toInt = vdX H q
def cvW (H : mzH) : Prop := cvX H ∧ (gdY H → whE H)
