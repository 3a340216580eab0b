/-! HOW LONG, HOW FAR -/
/-- hours at a, and since when where it is now -/
def dwS (wh hr : Nat → Int) (a : Int) : Nat → Int × Int
  | 0 => (0, 0)
  | p + 1 => if wh p = (trS wh hr p).2.2.2 then dwS wh hr a p else ((dwS wh hr a p).1 + (if (trS wh hr p).2.2.2 = a then hr p - (dwS wh hr a p).2 else 0), hr p)
def dwE (wh hr : Nat → Int) (a L : Int) (p : Nat) : Int := if (trS wh hr p).2.2.2 = a then (dwS wh hr a p).1 + L - (dwS wh hr a p).2 else (dwS wh hr a p).1
/-- the same by the entries of a trail: the first k -/
def dwT (t : Nat × (Nat → Int) × (Nat → Int) × Int) (a L : Int) : Nat → Int
  | 0 => 0
  | k + 1 => dwT t a L k + (if t.2.1 k = a then (if k + 1 < t.1 then t.2.2.1 (k + 1) else L) - t.2.2.1 k else 0)
/-- the greatest of the first n -/
def mxF (f : Nat → Int) : Nat → Int
  | 0 => 0
  | n + 1 => if mxF f n < f n then f n else mxF f n
