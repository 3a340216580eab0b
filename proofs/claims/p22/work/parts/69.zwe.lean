/-! THE WAYS OF A THING -/
def mx0 (x : Int) : Int := if x < 0 then 0 else x
/-- place and hours on ways, message by message -/
def tvS (wh : Nat → Int) (wx : Int → Int → Int) : Nat → Int × Int
  | 0 => (-2, 0)
  | p + 1 => if wh p < 0 then tvS wh wx p else (wh p, (tvS wh wx p).2 + mx0 (wx (tvS wh wx p).1 (wh p)))
/-- the same by the entries of a trail -/
def rtS (pl : Nat → Int) (wm : Int → Int → Int) : Nat → Int × Int
  | 0 => (-1, 0)
  | k + 1 => if pl k < 0 then rtS pl wm k else (pl k, (rtS pl wm k).2 + (if (rtS pl wm k).1 ≠ -1 ∧ wm (rtS pl wm k).1 (pl k) < 100000 then wm (rtS pl wm k).1 (pl k) else 0))
/-- what is made stays made -/
theorem lk_kd {s : pS} {wy : Int → Int → Int} {U C ac se ki h : Int} {n x : Nat} (hx : s.kd x ≠ -1) : (lkS s wy U C ac n se ki h).kd x ≠ -1 := by
  unfold lkS
  if z : obj s wy U C ac n se h = 0 then
    rw [if_pos z]
    unfold cO
    if a : ac = 0 then
      rw [if_pos a]
      show (if x = n then ki else s.kd x) ≠ -1
      if e : x = n then
        exfalso
        unfold obj at z
        rw [if_pos a, if_neg (by rw [← e]; exact hx)] at z
        exact absurd z (by decide)
      else rw [if_neg e]; exact hx
    else
      rw [if_neg a]
      have ho : (opA s n).kd = s.kd := by unfold opA; split <;> rfl
      repeat' split
      all_goals first | exact hx | (show (opA s n).kd x ≠ -1; rw [ho]; exact hx)
  else
    rw [if_neg z]
    split
    · exact hx
    · exact hx
