/-! THE REFERENCE'S message -/
def orF (H : mzH) (k v : Int) : Prop := (0 ≤ v ∧ v < 60) ∧ (aZ H 19 v.toNat).toInt = k ∧ ∀ j : Nat, j < v.toNat → ¬ (aZ H 19 j).toInt = k
def mgM (H : mzH) (k w v : Int) : Prop := (w < 4 ∧ v = (aZ H 2 (69 + 5 * k.toNat + w.toNat)).toInt) ∨ (w = 4 ∧ ∃ A : mzH, tkW H A ∧ ∃ G : mzH, clR (rgM G) (mdM G) ∧ ∃ x : Nat, x < cnM A ∧ odM A x = k.toNat ∧ v = rvM A G x) ∨ (w = 5 ∧ ∃ A : mzH, tkW H A ∧ 0 ≤ v ∧ v.toNat < cnM A ∧ odM A v.toNat = k.toNat) ∨ (w = 6 ∧ ((v = 1 ∧ lS (hM H) k.toNat k.toNat = true) ∨ (v = 0 ∧ lS (hM H) k.toNat k.toNat = false)))
