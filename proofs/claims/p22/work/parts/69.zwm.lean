/-! SINCE WHEN -/
/-- v is the hour of the last of the first p that are so; -2 -/
def stR (Q : Nat → Prop) (hr : Nat → Int) (p : Nat) (v : Int) : Prop := (v = -2 ∧ ∀ q, q < p → ¬ Q q) ∨ ∃ q, q < p ∧ Q q ∧ (∀ r, q < r → r < p → ¬ Q r) ∧ v = hr q
theorem sr_0 {Q : Nat → Prop} {hr : Nat → Int} {p : Nat} {v : Int} (e : p = 0) (h : v = -2) : stR Q hr p v := by
  subst e
  exact Or.inl ⟨h, fun q hq => absurd hq (Nat.not_lt_zero _)⟩
theorem sr_y {Q : Nat → Prop} {hr : Nat → Int} {p p2 : Nat} {w : Int} (e : p2 = p + 1) (h : Q p) (k : w = hr p) : stR Q hr p2 w := by
  subst e
  exact Or.inr ⟨p, Nat.lt_succ_self _, h, fun r h1 h2 => by omega, k⟩
theorem sr_n {Q : Nat → Prop} {hr : Nat → Int} {p p2 : Nat} {v : Int} (q : stR Q hr p v) (e : p2 = p + 1) (h : ¬ Q p) : stR Q hr p2 v := by
  subst e
  rcases q with ⟨q1, q2⟩ | ⟨x, x1, x2, x3, x4⟩
  · refine Or.inl ⟨q1, fun q hq => ?_⟩
    if c : q = p then rw [c]; exact h
    else exact q2 q (by omega)
  · refine Or.inr ⟨x, by omega, x2, fun r h1 h2 => ?_, x4⟩
    if c : r = p then rw [c]; exact h
    else exact x3 r h1 (by omega)
theorem sr_uni {Q R : Nat → Prop} {hr hr2 : Nat → Int} {p : Nat} {v w : Int} (a : stR Q hr p v) (b : stR R hr2 p w) (h : ∀ q, q < p → (Q q ↔ R q) ∧ hr q = hr2 q) : v = w := by
  rcases a with ⟨a1, a2⟩ | ⟨x, x1, x2, x3, x4⟩
  · rcases b with ⟨b1, b2⟩ | ⟨y, y1, y2, y3, y4⟩
    · omega
    · exact absurd ((h y y1).1.mpr y2) (a2 y y1)
  · rcases b with ⟨b1, b2⟩ | ⟨y, y1, y2, y3, y4⟩
    · exact absurd ((h x x1).1.mp x2) (b2 x x1)
    · have e : x = y := by
        if c : x < y then exact absurd ((h y y1).1.mpr y2) (x3 y c y1)
        else
          if d : y < x then exact absurd ((h x x1).1.mp x2) (y3 x d x1)
          else omega
      rw [x4, y4, e, (h y y1).2]
theorem is_cmp {a b : Int64} {P Q : Nat → Prop} {v : Int} (ha : isS a P 40) (hb : isS b Q 40) (z : (v = 0 ∧ a = b) ∨ (v ≠ 0 ∧ a ≠ b)) : v = 0 ↔ ∀ x, x < 40 → (P x ↔ Q x) := by
  constructor
  · intro h x hx
    rcases z with ⟨_, z⟩ | ⟨z, _⟩
    · subst z
      have h1 := ha x (by omega)
      have h2 := hb x (by omega)
      exact ⟨fun p => (h2.mp (h1.mpr ⟨hx, p⟩)).2, fun p => (h1.mp (h2.mpr ⟨hx, p⟩)).2⟩
    · exact absurd h z
  · intro h
    rcases z with ⟨z, _⟩ | ⟨_, z⟩
    · exact z
    · refine absurd (lbi_ext (fun k hk => ?_)) z
      have h1 := ha k hk
      have h2 := hb k hk
      have e : lbi a k = 1 ↔ lbi b k = 1 := by
        rw [h1, h2]
        exact ⟨fun y => ⟨y.1, (h k y.1).mp y.2⟩, fun y => ⟨y.1, (h k y.1).mpr y.2⟩⟩
      rcases lbi_b (v := a) (k := k) with p | p <;> rcases lbi_b (v := b) (k := k) with q | q
      · rw [p, q]
      · rw [e.mpr q] at p
        exact absurd p (by decide)
      · rw [e.mp p] at q
        exact absurd q (by decide)
      · rw [p, q]
theorem inn_mk {P : Int} {s : pS} {x : Nat} {o : Nat} (hw : wfS P s) (hx : x < 40) (h : inn s x (o : Int) = 1) : s.kd o ≠ -1 := by
  unfold inn at h
  split at h
  · rename_i z
    obtain ⟨_, _, a3, _⟩ := hw x hx
    rcases a3 with a | ⟨a1, a2, a3, a4, _⟩
    · omega
    · rcases z.2 with y | ⟨y1, y2⟩
      · rw [y, Int.toNat_natCast] at a4
        omega
      · obtain ⟨_, _, b3, _⟩ := hw (s.ii x).toNat (by omega)
        rcases b3 with b | ⟨b1, b2, b3, b4, _⟩
        · omega
        · rw [y2, Int.toNat_natCast] at b4
          omega
  · exact absurd h (by decide)
