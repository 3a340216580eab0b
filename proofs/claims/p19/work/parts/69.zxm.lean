/-! WHAT DECIDES A VERDICT -/
/-- the verdict on the message at spot s, were message j not told -/
def dcV (H : mzH) (s j : Nat) : Int := vrH H (hoX H) ((olF (s + 1) (odX H)).filter (fun x => decide (¬ (x : Int) = (j : Int))))
theorem dc_0 {v : Int64} {P : Nat → Prop} {t : Nat → Nat} {p : Nat} (o : v = Int64.ofNat 0) (e : p = 0) : ∀ k : Nat, k < 64 → (lbi v k = 1 ↔ ∃ q : Nat, q < p ∧ t q = k ∧ P q) := fun k _ => by
  rw [lbi_0 o]
  exact ⟨fun z => absurd z (by decide), fun ⟨q, z, _⟩ => by omega⟩
theorem dc_y {a s one w : Int64} {b : Int32} {P : Nat → Prop} {t : Nat → Nat} {p p2 : Nat} (h : ∀ k : Nat, k < 64 → (lbi a k = 1 ↔ ∃ q : Nat, q < p ∧ t q = k ∧ P q)) (o1 : s = one <<< (b.toInt64 &&& 63)) (oo : one = Int64.ofNat 1) (ow : w = a ||| s) (hb : 0 ≤ b.toInt ∧ b.toInt ≤ 63) (eb : b.toInt = (t p : Int)) (e : p2 = p + 1) (d : P p) : ∀ k : Nat, k < 64 → (lbi w k = 1 ↔ ∃ q : Nat, q < p2 ∧ t q = k ∧ P q) := fun k hk => by
  rw [is_add h o1 oo ow hb k hk]
  subst e
  constructor
  · rintro (⟨q, h1, h2, h3⟩ | z)
    · exact ⟨q, by omega, h2, h3⟩
    · exact ⟨p, by omega, by omega, d⟩
  · rintro ⟨q, h1, h2, h3⟩
    if c : q = p then
      right
      rw [← h2, c]
      omega
    else
      left
      exact ⟨q, by omega, h2, h3⟩
theorem dc_n {a : Int64} {P : Nat → Prop} {t : Nat → Nat} {p p2 : Nat} (h : ∀ k : Nat, k < 64 → (lbi a k = 1 ↔ ∃ q : Nat, q < p ∧ t q = k ∧ P q)) (e : p2 = p + 1) (d : ¬ P p) : ∀ k : Nat, k < 64 → (lbi a k = 1 ↔ ∃ q : Nat, q < p2 ∧ t q = k ∧ P q) := fun k hk => by
  rw [h k hk]
  subst e
  constructor
  · rintro ⟨q, h1, h2, h3⟩
    exact ⟨q, by omega, h2, h3⟩
  · rintro ⟨q, h1, h2, h3⟩
    if c : q = p then
      rw [c] at h3
      exact absurd h3 d
    else exact ⟨q, by omega, h2, h3⟩
