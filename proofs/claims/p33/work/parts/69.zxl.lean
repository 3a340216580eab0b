/-! WHAT IS KEPT OF THE VERDICTS -/
/-- the message found, R its spot; or none -/
def ckR (H : mzH) (R v : Int) : Prop := (v = -2 ∧ R = -2) ∨ (∃ q : Nat, q < (fZ H 25 2).toInt.toNat ∧ R = (q : Int) ∧ v = (odX H q : Int))
