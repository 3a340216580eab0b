/-! WHAT WOULD BE -/
/-- how many of the first p are refused -/
def rfH (H : mzH) (hr : Nat → Int) (od : Nat → Nat) (p : Nat) : Int := cnt (fun q => ¬ vdH H hr (rnH H hr (olF q od)) (od q) = 0) p
/-- where a thing is at the end, of other hours; or how many are refused -/
def otH (H : mzH) (hr : Nat → Int) (N : Nat) (n : Int) : Int := if n < 0 then rfH H hr (ordF hr N) N else whr (rnH H hr (olF N (ordF hr N))) n.toNat
/-- rows in order, told for other hours -/
def gdO (H : mzH) : Prop := ((0 ≤ (fZ H 51 2).toInt ∧ (fZ H 51 2).toInt ≤ 60) ∧ (fZ H 25 2).toInt = (fZ H 51 2).toInt) ∧ (∀ j : Nat, j < (fZ H 51 2).toInt.toNat → rwO 8 (roX H) (hoX H) j) ∧ ∀ j : Nat, j < (fZ H 51 2).toInt.toNat → 0 ≤ (aZ H 52 j).toInt ∧ (aZ H 52 j).toInt ≤ 999
