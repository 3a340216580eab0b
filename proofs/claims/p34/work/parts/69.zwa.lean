/-! SETS AS LONGS -/
/-- a bit of a long -/
def lbi (v : Int64) (k : Nat) : Int := if v.toBitVec.getLsbD k = true then 1 else 0
/-- the first x things that are so -/
def isS (v : Int64) (P : Nat → Prop) (x : Nat) : Prop := ∀ k, k < 64 → (lbi v k = 1 ↔ (k < x ∧ P k))
/-- the i-th number of those that are so -/
def pkF (f : Nat → Int) : Nat → Nat → Int → Int
  | 0, _, _ => -2
  | u + 1, n, i => if f n = 1 then (if i = 0 then (n : Int) else pkF f u (n + 1) (i - 1)) else pkF f u (n + 1) i
theorem pk_y {f : Nat → Int} {u n : Nat} {i : Int} (h : f n = 1) (hi : i = 0) (hu : 0 < u) : pkF f u n i = (n : Int) := by
  obtain ⟨w, rfl⟩ : ∃ w, u = w + 1 := ⟨u - 1, by omega⟩
  unfold pkF
  rw [if_pos h, if_pos hi]
theorem pk_s {f : Nat → Int} {u u2 n n2 : Nat} {i i2 R : Int} (q : pkF f u n i = R) (h : f n = 1) (hi : i ≠ 0) (hu : u = u2 + 1) (hn : n2 = n + 1) (e : i2 = i - 1) : pkF f u2 n2 i2 = R := by
  subst hu hn e
  unfold pkF at q
  rw [if_pos h, if_neg hi] at q
  exact q
theorem pk_n {f : Nat → Int} {u u2 n n2 : Nat} {i i2 R : Int} (q : pkF f u n i = R) (h : ¬ f n = 1) (hu : u = u2 + 1) (hn : n2 = n + 1) (e : i2 = i) : pkF f u2 n2 i2 = R := by
  subst hu hn e
  unfold pkF at q
  rw [if_neg h] at q
  exact q
theorem pk_e {f : Nat → Int} {u n : Nat} {i R : Int} (q : pkF f u n i = R) (h : u = 0) : R = -2 := by
  subst h
  exact q.symm
theorem pk_cg {f g : Nat → Int} : ∀ {u n : Nat} {i : Int}, (∀ k, n ≤ k → k < n + u → (f k = 1 ↔ g k = 1)) → pkF f u n i = pkF g u n i
  | 0, _, _, _ => rfl
  | u + 1, n, i, h => by
    unfold pkF
    have e1 : pkF f u (n + 1) (i - 1) = pkF g u (n + 1) (i - 1) := pk_cg (fun k h1 h2 => h k (by omega) (by omega))
    have e2 : pkF f u (n + 1) i = pkF g u (n + 1) i := pk_cg (fun k h1 h2 => h k (by omega) (by omega))
    rw [e1, e2]
    have z := h n (Nat.le_refl _) (by omega)
    if c : f n = 1 then rw [if_pos c, if_pos (z.mp c)]
    else rw [if_neg c, if_neg (fun y => c (z.mpr y))]
