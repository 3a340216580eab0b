/-! THE BUSIEST HOUR -/
def bzS (f hr : Nat → Int) : Nat → Int × Int
  | 0 => (-1, -2)
  | p + 1 => if f p ≤ (bzS f hr p).1 then bzS f hr p else (f p, hr p)
theorem bz_0 {f hr : Nat → Int} {p : Nat} {x y : Int} (e : p = 0) (h : x = -1) (k : y = -2) : x = (bzS f hr p).1 ∧ y = (bzS f hr p).2 := by
  subst e
  exact ⟨h, k⟩
theorem bz_s {f hr : Nat → Int} {p p2 : Nat} {x y : Int} (q : x = (bzS f hr p).1 ∧ y = (bzS f hr p).2) (e : p2 = p + 1) (h : f p ≤ x) : x = (bzS f hr p2).1 ∧ y = (bzS f hr p2).2 := by
  subst e
  show x = (if f p ≤ (bzS f hr p).1 then bzS f hr p else (f p, hr p)).1 ∧ y = (if f p ≤ (bzS f hr p).1 then bzS f hr p else (f p, hr p)).2
  rw [if_pos (by omega)]
  exact q
theorem bz_n {f hr : Nat → Int} {p p2 : Nat} {x y x2 y2 : Int} (q : x = (bzS f hr p).1 ∧ y = (bzS f hr p).2) (e : p2 = p + 1) (h : x < f p) (k : x2 = f p) (l : y2 = hr p) : x2 = (bzS f hr p2).1 ∧ y2 = (bzS f hr p2).2 := by
  subst e
  show x2 = (if f p ≤ (bzS f hr p).1 then bzS f hr p else (f p, hr p)).1 ∧ y2 = (if f p ≤ (bzS f hr p).1 then bzS f hr p else (f p, hr p)).2
  rw [if_neg (by omega)]
  exact ⟨k, l⟩
theorem bz_cg {f hr f2 hr2 : Nat → Int} : ∀ p, (∀ q, q < p → f q = f2 q ∧ hr q = hr2 q) → bzS f hr p = bzS f2 hr2 p
  | 0, _ => rfl
  | p + 1, h => by
    have ih := bz_cg p (fun q hq => h q (by omega))
    obtain ⟨e1, e2⟩ := h p (by omega)
    show (if f p ≤ (bzS f hr p).1 then bzS f hr p else (f p, hr p)) = (if f2 p ≤ (bzS f2 hr2 p).1 then bzS f2 hr2 p else (f2 p, hr2 p))
    rw [ih, e1, e2]
def bzA (t : Int × Int) (w : Int) : Int := if w = 0 then (if t.1 < 0 then 0 else t.1) else t.2
theorem cnt_b {p : Nat → Prop} [DecidablePred p] : ∀ n, 0 ≤ cnt p n ∧ cnt p n ≤ (n : Int)
  | 0 => by
    show (0 : Int) ≤ 0 ∧ (0 : Int) ≤ 0
    decide
  | n + 1 => by
    have := cnt_b (p := p) n
    show 0 ≤ cnt p n + (if p n then 1 else 0) ∧ cnt p n + (if p n then 1 else 0) ≤ ((n + 1 : Nat) : Int)
    split <;> omega
