/-! WHO IS TO BLAME -/
/-- how many of a list are refused as it is run -/
def rfL (H : mzH) (hr : Nat → Int) (l : List Nat) : Int := cnt (fun q => ¬ vrH H hr (l.take (q + 1)) = 0) l.length
/-- behind a list: those of the order from spot a on, below q -/
def bhL (l : List Nat) (t : Nat → Nat) (a q : Nat) : List Nat := l ++ (olF q t).drop a
/-- what a search that may stop early finds of a number -/
def rbR (r enough T : Int) : Prop := (r ≤ enough ∧ r = T) ∨ (enough < r ∧ r ≤ T)
/-- how many are refused without the one at spot s -/
def tO (H : mzH) (s : Nat) : Int := rfL H (hoX H) (bhL (olF s (odX H)) (odX H) (s + 1) (fZ H 25 2).toInt.toNat)
/-- of those at the spots below p: whose leaving out leaves least, the first of them -/
def blB (H : mzH) (p : Nat) (o l : Int) : Prop := (p = 0 ∧ l = 60) ∨ (∃ s, s < p ∧ o = (odX H s : Int) ∧ l = tO H s ∧ ∀ q, q < p → l < tO H q ∨ (l = tO H q ∧ o ≤ (odX H q : Int)))
/-- what is kept of the one to blame is right -/
def blK (H B : mzH) : Prop := (fZ B 54 5).toInt = 1 → blB H (fZ H 25 2).toInt.toNat (fZ B 54 7).toInt (fZ B 54 8).toInt
