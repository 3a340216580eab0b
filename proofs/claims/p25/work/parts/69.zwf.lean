/-! THE BUSIEST HOUR -/
def bzS (f hr : Nat → Int) : Nat → Int × Int
  | 0 => (-1, -2)
  | p + 1 => if f p ≤ (bzS f hr p).1 then bzS f hr p else (f p, hr p)
def bzA (t : Int × Int) (w : Int) : Int := if w = 0 then (if t.1 < 0 then 0 else t.1) else t.2
theorem cnt_b {p : Nat → Prop} [DecidablePred p] : ∀ n, 0 ≤ cnt p n ∧ cnt p n ≤ (n : Int)
  | 0 => by
    show (0 : Int) ≤ 0 ∧ (0 : Int) ≤ 0
    decide
  | n + 1 => by
    have := cnt_b (p := p) n
    show 0 ≤ cnt p n + (if p n then 1 else 0) ∧ cnt p n + (if p n then 1 else 0) ≤ ((n + 1 : Nat) : Int)
    split <;> omega
