/-! THE WAYS OF A THING -/
def mx0 (x : Int) : Int := if x < 0 then 0 else x
/-- place and hours on ways, message by message -/
def tvS (wh : Nat → Int) (wx : Int → Int → Int) : Nat → Int × Int
  | 0 => (-2, 0)
  | p + 1 => if wh p < 0 then tvS wh wx p else (wh p, (tvS wh wx p).2 + mx0 (wx (tvS wh wx p).1 (wh p)))
/-- the same by the entries of a trail -/
def rtS (pl : Nat → Int) (wm : Int → Int → Int) : Nat → Int × Int
  | 0 => (-1, 0)
  | k + 1 => if pl k < 0 then rtS pl wm k else (pl k, (rtS pl wm k).2 + (if (rtS pl wm k).1 ≠ -1 ∧ wm (rtS pl wm k).1 (pl k) < 100000 then wm (rtS pl wm k).1 (pl k) else 0))
