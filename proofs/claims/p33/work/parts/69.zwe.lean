/-! THE WAYS OF A THING -/
def mx0 (x : Int) : Int := if x < 0 then 0 else x
/-- place and hours on ways, message by message -/
def tvS (wh : Nat → Int) (wx : Int → Int → Int) : Nat → Int × Int
  | 0 => (-2, 0)
  | p + 1 => if wh p < 0 then tvS wh wx p else (wh p, (tvS wh wx p).2 + mx0 (wx (tvS wh wx p).1 (wh p)))
theorem tv_s {wh : Nat → Int} {wx : Int → Int → Int} {p : Nat} (h : wh p < 0) : tvS wh wx (p + 1) = tvS wh wx p := by
  show (if wh p < 0 then tvS wh wx p else _) = _
  rw [if_pos h]
theorem tv_n {wh : Nat → Int} {wx : Int → Int → Int} {p : Nat} (h : ¬ wh p < 0) : tvS wh wx (p + 1) = (wh p, (tvS wh wx p).2 + mx0 (wx (tvS wh wx p).1 (wh p))) := by
  show (if wh p < 0 then tvS wh wx p else _) = _
  rw [if_neg h]
theorem tv0_1 {wh : Nat → Int} {wx : Int → Int → Int} {p : Nat} {x : Int} (e : p = 0) (h : x = -2) : x = (tvS wh wx p).1 := by
  subst e
  exact h
theorem tv0_2 {wh : Nat → Int} {wx : Int → Int → Int} {p : Nat} {x : Int} (e : p = 0) (h : x = 0) : x = (tvS wh wx p).2 := by
  subst e
  exact h
theorem tvs_1 {wh : Nat → Int} {wx : Int → Int → Int} {p p2 : Nat} {x : Int} (q : x = (tvS wh wx p).1) (e : p2 = p + 1) (h : wh p < 0) : x = (tvS wh wx p2).1 := by
  subst e
  rw [tv_s h]
  exact q
theorem tvs_2 {wh : Nat → Int} {wx : Int → Int → Int} {p p2 : Nat} {x : Int} (q : x = (tvS wh wx p).2) (e : p2 = p + 1) (h : wh p < 0) : x = (tvS wh wx p2).2 := by
  subst e
  rw [tv_s h]
  exact q
theorem tvn_1 {wh : Nat → Int} {wx : Int → Int → Int} {p p2 : Nat} {x : Int} (e : p2 = p + 1) (h : ¬ wh p < 0) (k : x = wh p) : x = (tvS wh wx p2).1 := by
  subst e
  rw [tv_n h, k]
theorem tvn_2 {wh : Nat → Int} {wx : Int → Int → Int} {p p2 : Nat} {x y w : Int} (q1 : y = (tvS wh wx p).1) (q2 : w = (tvS wh wx p).2) (e : p2 = p + 1) (h : ¬ wh p < 0) (k : x = w + mx0 (wx y (wh p))) : x = (tvS wh wx p2).2 := by
  subst e
  rw [tv_n h, k, q1, q2]
/-- the same by the entries of a trail -/
def rtS (pl : Nat → Int) (wm : Int → Int → Int) : Nat → Int × Int
  | 0 => (-1, 0)
  | k + 1 => if pl k < 0 then rtS pl wm k else (pl k, (rtS pl wm k).2 + (if (rtS pl wm k).1 ≠ -1 ∧ wm (rtS pl wm k).1 (pl k) < 100000 then wm (rtS pl wm k).1 (pl k) else 0))
theorem rt_s {pl : Nat → Int} {wm : Int → Int → Int} {k : Nat} (h : pl k < 0) : rtS pl wm (k + 1) = rtS pl wm k := by
  show (if pl k < 0 then rtS pl wm k else _) = _
  rw [if_pos h]
theorem rt_n {pl : Nat → Int} {wm : Int → Int → Int} {k : Nat} (h : ¬ pl k < 0) : rtS pl wm (k + 1) = (pl k, (rtS pl wm k).2 + (if (rtS pl wm k).1 ≠ -1 ∧ wm (rtS pl wm k).1 (pl k) < 100000 then wm (rtS pl wm k).1 (pl k) else 0)) := by
  show (if pl k < 0 then rtS pl wm k else _) = _
  rw [if_neg h]
theorem rt_cg {pl pl2 : Nat → Int} {wm : Int → Int → Int} : ∀ k, (∀ i, i < k → pl i = pl2 i) → rtS pl wm k = rtS pl2 wm k
  | 0, _ => rfl
  | k + 1, h => by
    have ih := rt_cg (wm := wm) k (fun i hi => h i (by omega))
    have e := h k (by omega)
    if c : pl k < 0 then rw [rt_s c, rt_s (by omega), ih]
    else rw [rt_n c, rt_n (by omega), ih, e]
theorem tv_eq {wh hr : Nat → Int} {wx wm : Int → Int → Int} (hy : wyS 8 wx wm) (hd : ∀ a : Int, 0 ≤ a → a < 8 → wm a a = 0 ∧ wx a a ≤ 0) (h2 : ∀ b, wx (-2) b = -2) : ∀ p, (∀ q, q < p → wh q < 8) → (tvS wh wx p).1 = (if (rtS (trS wh hr p).2.1 wm (trS wh hr p).1).1 = -1 then -2 else (rtS (trS wh hr p).2.1 wm (trS wh hr p).1).1) ∧ (tvS wh wx p).2 = (rtS (trS wh hr p).2.1 wm (trS wh hr p).1).2 ∧ (-1 ≤ (rtS (trS wh hr p).2.1 wm (trS wh hr p).1).1 ∧ (rtS (trS wh hr p).2.1 wm (trS wh hr p).1).1 < 8) ∧ (0 ≤ (trS wh hr p).2.2.2 → (rtS (trS wh hr p).2.1 wm (trS wh hr p).1).1 = (trS wh hr p).2.2.2)
  | 0, _ => ⟨rfl, rfl, (show (-1 : Int) ≤ -1 ∧ (-1 : Int) < 8 by decide), fun h => absurd h (show ¬ (0 : Int) ≤ -2 by decide)⟩
  | p + 1, hb => by
    obtain ⟨i1, i2, i3, i4⟩ := tv_eq (wh := wh) (hr := hr) hy hd h2 p (fun q hq => hb q (by omega))
    have hp := hb p (by omega)
    if c : wh p = (trS wh hr p).2.2.2 then
      rw [tr_s c]
      if z : wh p < 0 then rw [tv_s z]; exact ⟨i1, i2, i3, i4⟩
      else
        have e := i4 (by omega)
        rw [if_neg (by omega)] at i1
        rw [tv_n z, i1, i2, e, ← c]
        have d := hd (wh p) (by omega) hp
        refine ⟨?_, ?_, by omega, fun _ => rfl⟩
        · show wh p = if wh p = -1 then -2 else wh p
          rw [if_neg (by omega)]
        · show _ + mx0 (wx (wh p) (wh p)) = _
          unfold mx0
          split <;> omega
    else
      have ec : rtS (trS wh hr (p + 1)).2.1 wm (trS wh hr p).1 = rtS (trS wh hr p).2.1 wm (trS wh hr p).1 := by
        refine rt_cg _ (fun i hi => ?_)
        rw [tr_n c]
        show (if i = (trS wh hr p).1 then wh p else (trS wh hr p).2.1 i) = _
        rw [if_neg (by omega)]
      have en : (trS wh hr (p + 1)).1 = (trS wh hr p).1 + 1 := by rw [tr_n c]
      have ep : (trS wh hr (p + 1)).2.1 (trS wh hr p).1 = wh p := by
        rw [tr_n c]
        show (if (trS wh hr p).1 = (trS wh hr p).1 then wh p else _) = _
        rw [if_pos rfl]
      have ew : (trS wh hr (p + 1)).2.2.2 = wh p := by rw [tr_n c]
      rw [en, ew]
      if z : wh p < 0 then
        rw [tv_s z, rt_s (by rw [ep]; exact z), ec]
        exact ⟨i1, i2, i3, fun y => by omega⟩
      else
        rw [tv_n z, rt_n (by rw [ep]; exact z), ec, ep]
        refine ⟨?_, ?_, (show -1 ≤ wh p ∧ wh p < 8 by omega), fun _ => rfl⟩
        · show wh p = if wh p = -1 then -2 else wh p
          rw [if_neg (by omega)]
        · show (tvS wh wx p).2 + mx0 (wx (tvS wh wx p).1 (wh p)) = (rtS (trS wh hr p).2.1 wm (trS wh hr p).1).2 + _
          rw [i2, i1]
          if y : (rtS (trS wh hr p).2.1 wm (trS wh hr p).1).1 = -1 then
            rw [if_pos y, h2, if_neg (fun w => w.1 y)]
            rfl
          else
            rw [if_neg y]
            if x : (rtS (trS wh hr p).2.1 wm (trS wh hr p).1).1 = wh p then
              have d := hd (wh p) (by omega) hp
              rw [x, if_pos ⟨by omega, by omega⟩]
              unfold mx0
              split <;> omega
            else
              have d := hy _ _ x (by omega) (by omega)
              unfold mx0
              rcases d with ⟨d1, d2⟩ | ⟨d1, d2, d3⟩
              · rw [d1, if_pos (by decide), if_neg (by omega)]
              · rw [d1, if_neg (by omega), if_pos ⟨y, by omega⟩]
/-- what is made stays made -/
theorem lk_kd {s : pS} {wy : Int → Int → Int} {U C ac se ki h : Int} {n x : Nat} (hx : s.kd x ≠ -1) : (lkS s wy U C ac n se ki h).kd x ≠ -1 := by
  unfold lkS
  if z : obj s wy U C ac n se h = 0 then
    rw [if_pos z]
    unfold cO
    if a : ac = 0 then
      rw [if_pos a]
      show (if x = n then ki else s.kd x) ≠ -1
      if e : x = n then
        exfalso
        unfold obj at z
        rw [if_pos a, if_neg (by rw [← e]; exact hx)] at z
        exact absurd z (by decide)
      else rw [if_neg e]; exact hx
    else
      rw [if_neg a]
      have ho : (opA s n).kd = s.kd := by unfold opA; split <;> rfl
      repeat' split
      all_goals first | exact hx | (show (opA s n).kd x ≠ -1; rw [ho]; exact hx)
  else
    rw [if_neg z]
    split
    · exact hx
    · exact hx
theorem whr_2 {P : Int} {s : pS} {n : Nat} (hw : wfS P s) (hn : n < 40) : whr s n = -2 ↔ s.kd n = -1 := by
  unfold whr
  if c : s.kd n = -1 then rw [if_pos c]; exact ⟨fun _ => c, fun _ => rfl⟩
  else
    rw [if_neg c]
    refine ⟨fun z => ?_, fun z => absurd z c⟩
    if e : s.en n = 1 then rw [if_pos e] at z; exact absurd z (by decide)
    else
      rw [if_neg e] at z
      have b := (hw n hn).1.2.2.1
      obtain ⟨t1, t2, t3, t4⟩ := tp_ok hw hn c (by omega)
      have pl := (hw (tp s n) t1).2.2.2.2.2.1 t2
      split at z <;> omega
/-- a trail is empty as long as its thing isn't made -/
theorem tr_mk {P : Int} {f : Nat → pS} {hr : Nat → Int} {n : Nat} (hn : n < 40) (h0 : (f 0).kd n = -1) (hs : ∀ q, (f q).kd n ≠ -1 → (f (q + 1)).kd n ≠ -1) : ∀ p, (∀ q, q ≤ p → wfS P (f q)) → ((trS (fun q => whr (f (q + 1)) n) hr p).1 = 0 ↔ (f p).kd n = -1)
  | 0, _ => ⟨fun _ => h0, fun _ => rfl⟩
  | p + 1, hw => by
    have ih := tr_mk (P := P) (hr := hr) hn h0 hs p (fun q hq => hw q (by omega))
    have l := tr_l (wh := fun q => whr (f (q + 1)) n) (hr := hr) p
    have w2 := whr_2 (hw (p + 1) (Nat.le_refl _)) hn
    if c : whr (f (p + 1)) n = (trS (fun q => whr (f (q + 1)) n) hr p).2.2.2 then
      rw [tr_s (wh := fun q => whr (f (q + 1)) n) c]
      refine ⟨fun z => ?_, fun z => ?_⟩
      · rcases l with ⟨l1, l2⟩ | ⟨l1, l2⟩
        · exact w2.mp (c.trans l2)
        · omega
      · if y : (f p).kd n = -1 then exact ih.mpr y
        else exact absurd z (hs p y)
    else
      rw [tr_n (wh := fun q => whr (f (q + 1)) n) c]
      refine ⟨fun z => absurd (show (trS (fun q => whr (f (q + 1)) n) hr p).1 + 1 = 0 from z) (by omega), fun z => ?_⟩
      exfalso
      if y : (f p).kd n = -1 then
        have e := ih.mpr y
        rcases l with ⟨l1, l2⟩ | ⟨l1, l2⟩
        · exact c ((w2.mpr z).trans l2.symm)
        · omega
      else exact hs p y z
