/-! WHICH TWO ARE TO BLAME -/
/-- how many are refused without those at spots p and q -/
def tT (H : mzH) (p q : Nat) : Int := rfL H (hoX H) (bhL (bhL (olF p (odX H)) (odX H) (p + 1) q) (odX H) (q + 1) (fZ H 25 2).toInt.toNat)
def mnX (H : mzH) (p q : Nat) : Int := if (odX H p : Int) ≤ (odX H q : Int) then (odX H p : Int) else (odX H q : Int)
def mxX (H : mzH) (p q : Nat) : Int := if (odX H p : Int) ≤ (odX H q : Int) then (odX H q : Int) else (odX H p : Int)
/-- pairs of spots ahead of (p, q) -/
def prP (p q u v : Nat) : Prop := u < p ∨ (u = p ∧ v < q)
/-- of the pairs of spots ahead of (p, q): whose leaving out leaves least, the first of them -/
def blT (H : mzH) (p q : Nat) (o1 o2 l : Int) : Prop := ((∀ u v, u < v → v < (fZ H 25 2).toInt.toNat → ¬ prP p q u v) ∧ l = 60) ∨ (∃ x y, x < y ∧ y < (fZ H 25 2).toInt.toNat ∧ o1 = mnX H x y ∧ o2 = mxX H x y ∧ l = tT H x y ∧ ∀ u v, u < v → v < (fZ H 25 2).toInt.toNat → prP p q u v → l < tT H u v ∨ (l = tT H u v ∧ (o1 < mnX H u v ∨ (o1 = mnX H u v ∧ o2 ≤ mxX H u v))))
/-- what is kept of the two to blame is right -/
def btK (H B : mzH) : Prop := (fZ B 54 6).toInt = 1 → blT H (fZ H 25 2).toInt.toNat ((fZ H 25 2).toInt.toNat + 1) (fZ B 54 9).toInt (fZ B 54 10).toInt (fZ B 54 11).toInt
