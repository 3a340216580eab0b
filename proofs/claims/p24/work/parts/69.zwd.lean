/-! HOW LONG, HOW FAR -/
/-- hours at a, and since when where it is now -/
def dwS (wh hr : Nat → Int) (a : Int) : Nat → Int × Int
  | 0 => (0, 0)
  | p + 1 => if wh p = (trS wh hr p).2.2.2 then dwS wh hr a p else ((dwS wh hr a p).1 + (if (trS wh hr p).2.2.2 = a then hr p - (dwS wh hr a p).2 else 0), hr p)
theorem dw_s {wh hr : Nat → Int} {a : Int} {p : Nat} (h : wh p = (trS wh hr p).2.2.2) : dwS wh hr a (p + 1) = dwS wh hr a p := by
  show (if wh p = (trS wh hr p).2.2.2 then dwS wh hr a p else _) = _
  rw [if_pos h]
theorem dw_n {wh hr : Nat → Int} {a : Int} {p : Nat} (h : ¬ wh p = (trS wh hr p).2.2.2) : dwS wh hr a (p + 1) = ((dwS wh hr a p).1 + (if (trS wh hr p).2.2.2 = a then hr p - (dwS wh hr a p).2 else 0), hr p) := by
  show (if wh p = (trS wh hr p).2.2.2 then dwS wh hr a p else _) = _
  rw [if_neg h]
theorem dwa_0 {wh hr : Nat → Int} {a x : Int} {p : Nat} (e : p = 0) (h : x = 0) : x = (dwS wh hr a p).1 := by
  subst e
  exact h
theorem dwb_0 {wh hr : Nat → Int} {a x : Int} {p : Nat} (e : p = 0) (h : x = 0) : x = (dwS wh hr a p).2 := by
  subst e
  exact h
theorem dwa_s {wh hr : Nat → Int} {a w x x2 : Int} {p p2 : Nat} (q : w = (trS wh hr p).2.2.2) (r : x = (dwS wh hr a p).1) (e : p2 = p + 1) (h : wh p = w) (k : x2 = x) : x2 = (dwS wh hr a p2).1 := by
  subst e
  rw [dw_s (h.trans q), k, r]
theorem dwb_s {wh hr : Nat → Int} {a w x x2 : Int} {p p2 : Nat} (q : w = (trS wh hr p).2.2.2) (r : x = (dwS wh hr a p).2) (e : p2 = p + 1) (h : wh p = w) (k : x2 = x) : x2 = (dwS wh hr a p2).2 := by
  subst e
  rw [dw_s (h.trans q), k, r]
theorem dwa_n {wh hr : Nat → Int} {a w x s x2 : Int} {p p2 : Nat} (q : w = (trS wh hr p).2.2.2) (r : x = (dwS wh hr a p).1) (t : s = (dwS wh hr a p).2) (e : p2 = p + 1) (h : wh p ≠ w) (k : x2 = x + (if w = a then hr p - s else 0)) : x2 = (dwS wh hr a p2).1 := by
  subst e
  rw [dw_n (fun z => h (z.trans q.symm)), k, r, t, q]
theorem dwb_n {wh hr : Nat → Int} {a w x2 : Int} {p p2 : Nat} (q : w = (trS wh hr p).2.2.2) (e : p2 = p + 1) (h : wh p ≠ w) (k : x2 = hr p) : x2 = (dwS wh hr a p2).2 := by
  subst e
  rw [dw_n (fun z => h (z.trans q.symm)), k]
def dwE (wh hr : Nat → Int) (a L : Int) (p : Nat) : Int := if (trS wh hr p).2.2.2 = a then (dwS wh hr a p).1 + L - (dwS wh hr a p).2 else (dwS wh hr a p).1
/-- the same by the entries of a trail: the first k -/
def dwT (t : Nat × (Nat → Int) × (Nat → Int) × Int) (a L : Int) : Nat → Int
  | 0 => 0
  | k + 1 => dwT t a L k + (if t.2.1 k = a then (if k + 1 < t.1 then t.2.2.1 (k + 1) else L) - t.2.2.1 k else 0)
theorem dwT_cg {t u : Nat × (Nat → Int) × (Nat → Int) × Int} {a L M : Int} : ∀ k, (∀ i, i < k → t.2.1 i = u.2.1 i ∧ (if i + 1 < t.1 then t.2.2.1 (i + 1) else L) = (if i + 1 < u.1 then u.2.2.1 (i + 1) else M) ∧ t.2.2.1 i = u.2.2.1 i) → dwT t a L k = dwT u a M k
  | 0, _ => rfl
  | k + 1, h => by
    show dwT t a L k + _ = dwT u a M k + _
    obtain ⟨h1, h2, h3⟩ := h k (by omega)
    rw [dwT_cg k (fun i hi => h i (by omega)), h1, h2, h3]
theorem dw_eq {wh hr : Nat → Int} {a : Int} (ha : a ≠ -2) : ∀ p L, dwT (trS wh hr p) a L (trS wh hr p).1 = dwE wh hr a L p
  | 0, L => by
    show (0 : Int) = if (-2 : Int) = a then _ else 0
    rw [if_neg (fun z => ha z.symm)]
  | p + 1, L => by
    if h : wh p = (trS wh hr p).2.2.2 then
      unfold dwE
      rw [tr_s h, dw_s h]
      exact dw_eq ha p L
    else
      have ih := dw_eq (wh := wh) (hr := hr) ha p (hr p)
      have e : dwT (trS wh hr (p + 1)) a L (trS wh hr p).1 = dwT (trS wh hr p) a (hr p) (trS wh hr p).1 := by
        refine dwT_cg _ (fun i hi => ?_)
        rw [tr_n h]
        show upi (trS wh hr p).2.1 (trS wh hr p).1 (wh p) i = _ ∧ (if i + 1 < (trS wh hr p).1 + 1 then upi (trS wh hr p).2.2.1 (trS wh hr p).1 (hr p) (i + 1) else L) = _ ∧ upi (trS wh hr p).2.2.1 (trS wh hr p).1 (hr p) i = _
        unfold upi
        refine ⟨by rw [if_neg (by omega)], ?_, by rw [if_neg (by omega)]⟩
        rw [if_pos (by omega)]
        if c : i + 1 < (trS wh hr p).1 then rw [if_neg (by omega), if_pos c]
        else rw [if_pos (by omega), if_neg c]
      have e2 : (trS wh hr (p + 1)).1 = (trS wh hr p).1 + 1 := by rw [tr_n h]
      rw [e2]
      show dwT (trS wh hr (p + 1)) a L (trS wh hr p).1 + (if (trS wh hr (p + 1)).2.1 (trS wh hr p).1 = a then (if (trS wh hr p).1 + 1 < (trS wh hr (p + 1)).1 then _ else L) - (trS wh hr (p + 1)).2.2.1 (trS wh hr p).1 else 0) = _
      rw [e, ih]
      unfold dwE
      rw [dw_n h, tr_n h]
      show _ + (if upi (trS wh hr p).2.1 (trS wh hr p).1 (wh p) (trS wh hr p).1 = a then (if (trS wh hr p).1 + 1 < (trS wh hr p).1 + 1 then _ else L) - upi (trS wh hr p).2.2.1 (trS wh hr p).1 (hr p) (trS wh hr p).1 else 0) = if wh p = a then (dwS wh hr a p).1 + (if (trS wh hr p).2.2.2 = a then hr p - (dwS wh hr a p).2 else 0) + L - hr p else (dwS wh hr a p).1 + (if (trS wh hr p).2.2.2 = a then hr p - (dwS wh hr a p).2 else 0)
      unfold upi
      rw [if_pos rfl, if_pos rfl, if_neg (show ¬ (trS wh hr p).1 + 1 < (trS wh hr p).1 + 1 by omega)]
      if c : wh p = a then
        rw [if_pos c, if_pos c]
        split <;> omega
      else
        rw [if_neg c, if_neg c]
        split <;> omega
theorem tr_b {wh hr : Nat → Int} : ∀ p, (∀ q, q < p → 0 ≤ hr q ∧ hr q ≤ 999) → ∀ j, j < (trS wh hr p).1 → 0 ≤ (trS wh hr p).2.2.1 j ∧ (trS wh hr p).2.2.1 j ≤ 999
  | 0, _ => fun j hj => absurd hj (Nat.not_lt_zero _)
  | p + 1, hb => by
    have ih := tr_b (wh := wh) (hr := hr) p (fun q hq => hb q (by omega))
    if h : wh p = (trS wh hr p).2.2.2 then rw [tr_s h]; exact ih
    else
      rw [tr_n h]
      intro j hj
      have hj : j < (trS wh hr p).1 + 1 := hj
      show 0 ≤ (if j = (trS wh hr p).1 then hr p else (trS wh hr p).2.2.1 j) ∧ (if j = (trS wh hr p).1 then hr p else (trS wh hr p).2.2.1 j) ≤ 999
      if c : j = (trS wh hr p).1 then rw [if_pos c]; exact hb p (by omega)
      else rw [if_neg c]; exact ih j (by omega)
/-- the greatest of the first n -/
def mxF (f : Nat → Int) : Nat → Int
  | 0 => 0
  | n + 1 => if mxF f n < f n then f n else mxF f n
theorem mx_0 {f : Nat → Int} {n : Nat} {x : Int} (e : n = 0) (h : x = 0) : x = mxF f n := by
  subst e
  exact h
theorem mx_s {f : Nat → Int} {n n2 : Nat} {x x2 : Int} (q : x = mxF f n) (e : n2 = n + 1) (h : (x < f n ∧ x2 = f n) ∨ (f n ≤ x ∧ x2 = x)) : x2 = mxF f n2 := by
  subst e
  show x2 = if mxF f n < f n then f n else mxF f n
  rw [← q]
  rcases h with ⟨h1, h2⟩ | ⟨h1, h2⟩
  · rw [if_pos h1, h2]
  · rw [if_neg (by omega), h2]
theorem mx_cg {f g : Nat → Int} : ∀ n, (∀ k, k < n → f k = g k) → mxF f n = mxF g n
  | 0, _ => rfl
  | n + 1, h => by
    show (if mxF f n < f n then f n else mxF f n) = if mxF g n < g n then g n else mxF g n
    rw [mx_cg n (fun k hk => h k (by omega)), h n (by omega)]
theorem mx_b {f : Nat → Int} : ∀ n, (∀ k, k < n → 0 ≤ f k ∧ f k ≤ 999) → 0 ≤ mxF f n ∧ mxF f n ≤ 999
  | 0, _ => by
    show (0 : Int) ≤ 0 ∧ (0 : Int) ≤ 999
    decide
  | n + 1, h => by
    have ih := mx_b n (fun k hk => h k (by omega))
    have := h n (by omega)
    show 0 ≤ (if mxF f n < f n then f n else mxF f n) ∧ (if mxF f n < f n then f n else mxF f n) ≤ 999
    split <;> omega
