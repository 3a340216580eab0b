/-! TRAILS -/
/-- how many places, which, from which hours on, the last one: of where a thing is behind each message -/
def trS (wh hr : Nat → Int) : Nat → Nat × (Nat → Int) × (Nat → Int) × Int
  | 0 => (0, fun _ => 0, fun _ => 0, -2)
  | p + 1 => if wh p = (trS wh hr p).2.2.2 then trS wh hr p else ((trS wh hr p).1 + 1, upi (trS wh hr p).2.1 (trS wh hr p).1 (wh p), upi (trS wh hr p).2.2.1 (trS wh hr p).1 (hr p), wh p)
def trA (t : Nat × (Nat → Int) × (Nat → Int) × Int) (i w : Int) : Int := if i < (t.1 : Int) then (if w = 0 then t.2.2.1 i.toNat else t.2.1 i.toNat) else -2
