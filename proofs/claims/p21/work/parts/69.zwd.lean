/-! HOW LONG, HOW FAR -/
/-- hours at a, and since when where it is now -/
def dwS (wh hr : Nat → Int) (a : Int) : Nat → Int × Int
  | 0 => (0, 0)
  | p + 1 => if wh p = (trS wh hr p).2.2.2 then dwS wh hr a p else ((dwS wh hr a p).1 + (if (trS wh hr p).2.2.2 = a then hr p - (dwS wh hr a p).2 else 0), hr p)
def dwE (wh hr : Nat → Int) (a L : Int) (p : Nat) : Int := if (trS wh hr p).2.2.2 = a then (dwS wh hr a p).1 + L - (dwS wh hr a p).2 else (dwS wh hr a p).1
/-- the same by the entries of a trail: the first k -/
def dwT (t : Nat × (Nat → Int) × (Nat → Int) × Int) (a L : Int) : Nat → Int
  | 0 => 0
  | k + 1 => dwT t a L k + (if t.2.1 k = a then (if k + 1 < t.1 then t.2.2.1 (k + 1) else L) - t.2.2.1 k else 0)
/-- the greatest of the first n -/
def mxF (f : Nat → Int) : Nat → Int
  | 0 => 0
  | n + 1 => if mxF f n < f n then f n else mxF f n
theorem mx_0 {f : Nat → Int} {n : Nat} {x : Int} (e : n = 0) (h : x = 0) : x = mxF f n := by
  subst e
  exact h
theorem mx_s {f : Nat → Int} {n n2 : Nat} {x x2 : Int} (q : x = mxF f n) (e : n2 = n + 1) (h : (x < f n ∧ x2 = f n) ∨ (f n ≤ x ∧ x2 = x)) : x2 = mxF f n2 := by
  subst e
  show x2 = if mxF f n < f n then f n else mxF f n
  rw [← q]
  rcases h with ⟨h1, h2⟩ | ⟨h1, h2⟩
  · rw [if_pos h1, h2]
  · rw [if_neg (by omega), h2]
theorem mx_cg {f g : Nat → Int} : ∀ n, (∀ k, k < n → f k = g k) → mxF f n = mxF g n
  | 0, _ => rfl
  | n + 1, h => by
    show (if mxF f n < f n then f n else mxF f n) = if mxF g n < g n then g n else mxF g n
    rw [mx_cg n (fun k hk => h k (by omega)), h n (by omega)]
