/-! THE BUSIEST HOUR -/
def bzS (f hr : Nat → Int) : Nat → Int × Int
  | 0 => (-1, -2)
  | p + 1 => if f p ≤ (bzS f hr p).1 then bzS f hr p else (f p, hr p)
def bzA (t : Int × Int) (w : Int) : Int := if w = 0 then (if t.1 < 0 then 0 else t.1) else t.2
