/-! FROM ONE PLACE TO ANOTHER -/
def smF (f : Nat → Int) : Nat → Int
  | 0 => 0
  | n + 1 => smF f n + f n
/-- how often a trail goes from a to b -/
def trC (t : Nat × (Nat → Int) × (Nat → Int) × Int) (a b : Int) : Int := cnt (fun i => t.2.1 i = a ∧ t.2.1 (i + 1) = b) (t.1 - 1)
def pvF (wh : Nat → Int) : Nat → Int
  | 0 => -2
  | q + 1 => wh q
