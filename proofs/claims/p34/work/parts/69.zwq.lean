/-! THE HOURS OF A WINDOW -/
/-- the first, the last, how many of the hours below n at which w is 0 -/
def wnF (w : Nat → Int) : Nat → Int × Int × Int
  | 0 => (-2, -2, 0)
  | n + 1 => if w n = 0 then ((if (wnF w n).2.2 = 0 then (n : Int) else (wnF w n).1), (n : Int), (wnF w n).2.2 + 1) else wnF w n
/-- ahead of message k, were it told for hour h -/
def ahX (H : mzH) (k : Nat) (h : Int) (q : Nat) : Prop := odX H q = k ∨ hoX H (odX H q) < h ∨ (hoX H (odX H q) = h ∧ odX H q < k)
def ahP (H : mzH) (k : Nat) (h : Int) : Nat → Bool := fun j => decide (¬ (j : Int) = (k : Int) ∧ (hoX H j < h ∨ (hoX H j = h ∧ j < k)))
/-- the verdict on message k in a world of those behind spot p, at an hour -/
def wnO (H : mzH) (k : Nat) (p : Nat) (h : Int) : Int := obj (rnH H (hoX H) ((olF p (odX H)).filter (fun j : Nat => decide (¬ (j : Int) = (k : Int))))) (wyX H) (fZ H 3 10).toInt (fZ H 3 11).toInt (roX H k 1) (roX H k 2).toNat (roX H k 3) h
/-- the verdict on message k, were it told for hour h -/
def wnV (H : mzH) (k : Nat) (h : Int) : Int := obj (rnH H (hoX H) ((olF (fZ H 25 2).toInt.toNat (odX H)).filter (ahP H k h))) (wyX H) (fZ H 3 10).toInt (fZ H 3 11).toInt (roX H k 1) (roX H k 2).toNat (roX H k 3) h
/-- all but its hour: what a taken one had is kept where its hour doesn't count -/
def tkO (H : mzH) (k p : Nat) (t : Int) : Prop := ¬ (roX H k 1 = 5 ∨ roX H k 1 = 6) → ((t = 1 ∧ wnO H k p 0 = 0) ∨ (t = 0 ∧ ¬ wnO H k p 0 = 0))
