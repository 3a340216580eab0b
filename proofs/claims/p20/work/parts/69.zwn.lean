/-! FROM AN HOUR TO ANOTHER -/
/-- how far the worlds have gone that began at p and take messages till hour b -/
def ixF (hr : Nat → Int) (b : Int) (p : Nat) : Nat → Nat
  | 0 => p
  | k + 1 => if k = ixF hr b p k ∧ hr k ≤ b then k + 1 else ixF hr b p k
theorem ix_s {hr : Nat → Int} {b : Int} {p k : Nat} (h : k = ixF hr b p k ∧ hr k ≤ b) : ixF hr b p (k + 1) = k + 1 := by
  show (if k = ixF hr b p k ∧ hr k ≤ b then k + 1 else ixF hr b p k) = _
  rw [if_pos h]
theorem ix_n {hr : Nat → Int} {b : Int} {p k : Nat} (h : ¬ (k = ixF hr b p k ∧ hr k ≤ b)) : ixF hr b p (k + 1) = ixF hr b p k := by
  show (if k = ixF hr b p k ∧ hr k ≤ b then k + 1 else ixF hr b p k) = _
  rw [if_neg h]
theorem ix_lo {hr : Nat → Int} {b : Int} {p : Nat} : ∀ k, k ≤ p → ixF hr b p k = p
  | 0, _ => rfl
  | k + 1, h => by
    have e := ix_lo (hr := hr) (b := b) (p := p) k (by omega)
    rw [ix_n (by omega), e]
theorem ix_go {hr : Nat → Int} {b : Int} {p : Nat} : ∀ k, p ≤ k → (∀ q, p ≤ q → q < k → hr q ≤ b) → ixF hr b p k = k
  | 0, h, _ => by
    show p = 0
    omega
  | k + 1, h, g => by
    if c : p = k + 1 then rw [ix_lo _ (by omega), c]
    else
      have e := ix_go k (by omega) (fun q h1 h2 => g q h1 (by omega))
      exact ix_s ⟨e.symm, g k (by omega) (by omega)⟩
theorem ix_up {hr : Nat → Int} {b : Int} {p e : Nat} (he : ixF hr b p e = e) (h : b < hr e) : ∀ k, ixF hr b p (e + k) = e
  | 0 => he
  | k + 1 => by
    have z := ix_up he h k
    rw [← Nat.add_assoc, ix_n, z]
    intro y
    rw [z] at y
    if c : k = 0 then
      rw [c] at y
      have := y.2
      rw [Nat.add_zero] at this
      omega
    else omega
/-- where both stop -/
theorem ix_end {hr : Nat → Int} {b : Int} {p e N : Nat} (h0 : p ≤ e) (h1 : e ≤ N) (h2 : ∀ q, p ≤ q → q < e → hr q ≤ b) (h3 : e = N ∨ b < hr e) : ixF hr b p N = e := by
  have z := ix_go (hr := hr) (b := b) e h0 h2
  rcases h3 with h3 | h3
  · rw [← h3]
    exact z
  · have y := ix_up z h3 (N - e)
    rw [show e + (N - e) = N by omega] at y
    exact y
theorem ix_b {hr : Nat → Int} {b : Int} {p N : Nat} (hp : p ≤ N) : ∀ k, k ≤ N → p ≤ ixF hr b p k ∧ ixF hr b p k ≤ N
  | 0, _ => ⟨Nat.le_refl _, hp⟩
  | k + 1, h => by
    have z := ix_b (hr := hr) (b := b) hp k (by omega)
    show p ≤ (if k = ixF hr b p k ∧ hr k ≤ b then k + 1 else ixF hr b p k) ∧ (if k = ixF hr b p k ∧ hr k ≤ b then k + 1 else ixF hr b p k) ≤ N
    split
    · omega
    · exact z
theorem hq_mono {A : mzH} {i j : Nat} (h : i ≤ j) (hj : j < cnM A) : hqM A i ≤ hqM A j := by
  if c : i = j then rw [c]; exact Int.le_refl _
  else
    have z := (ord2_ok (I := inM A) (hr := hoM A) (aZ A 2 2).toInt.toNat).1 i j (by omega) hj
    unfold hqM
    have e1 : odM A i = (ord2 (inM A) (hoM A) (aZ A 2 2).toInt.toNat).2 i := rfl
    have e2 : odM A j = (ord2 (inM A) (hoM A) (aZ A 2 2).toInt.toNat).2 j := rfl
    rw [e1, e2]
    rcases z with z | ⟨z, _⟩
    · omega
    · omega
theorem ix_in {A : mzH} {a b : Int} {p k : Nat} (st : stM A a p) (hk : k < cnM A) (h1 : a < hqM A k) (h2 : hqM A k ≤ b) : ixF (hqM A) b p k = k := by
  obtain ⟨s1, s2, s3⟩ := st
  refine ix_go k ?_ (fun q _ hq => ?_)
  · if c : p ≤ k then exact c
    else
      have := s2 k (by omega)
      omega
  · have := hq_mono (A := A) (show q ≤ k by omega) hk
    omega
theorem ix_no {A : mzH} {a b : Int} {p k : Nat} (st : stM A a p) (hk : k < cnM A) (h : hqM A k ≤ a ∨ b < hqM A k) : ixF (hqM A) b p (k + 1) = ixF (hqM A) b p k := by
  obtain ⟨s1, s2, s3⟩ := st
  rw [ix_n]
  rintro ⟨z1, z2⟩
  rcases h with h | h
  · if c : p ≤ k then
      rcases s3 with s3 | s3
      · omega
      · have := hq_mono (A := A) c hk
        omega
    else
      rw [ix_lo k (by omega)] at z1
      omega
  · omega
/-- sets put together -/
theorem is_orr {a b w : Int64} {P Q R : Nat → Prop} (ha : isS a P 40) (hb : isS b Q 40) (o : w = a ||| b) (e : ∀ k, R k ↔ (P k ∨ Q k)) : isS w R 40 := fun k hk => by
  rw [lbi_or o, e k]
  have h1 := ha k hk
  have h2 := hb k hk
  if z : lbi a k = 1 ∨ lbi b k = 1 then
    rw [if_pos z]
    exact ⟨fun _ => z.elim (fun y => ⟨(h1.mp y).1, Or.inl (h1.mp y).2⟩) (fun y => ⟨(h2.mp y).1, Or.inr (h2.mp y).2⟩), fun _ => rfl⟩
  else
    rw [if_neg z]
    exact ⟨fun y => absurd y (by decide), fun y => absurd (y.2.elim (fun u => Or.inl (h1.mpr ⟨y.1, u⟩)) (fun u => Or.inr (h2.mpr ⟨y.1, u⟩))) z⟩
/-- so at one of the worlds from p to e -/
def wiP (f : Nat → pS) (o : Int) (p e : Nat) (x : Nat) : Prop := ∃ r, p ≤ r ∧ r ≤ e ∧ inn (f r) x o = 1
theorem wip_0 {f : Nat → pS} {o : Int} {p x : Nat} : wiP f o p p x ↔ inn (f p) x o = 1 := by
  constructor
  · rintro ⟨r, h1, h2, h3⟩
    rw [show p = r by omega]
    exact h3
  · intro h
    exact ⟨p, Nat.le_refl _, Nat.le_refl _, h⟩
theorem wi_s {f : Nat → pS} {o : Int} {p e x : Nat} (h : p ≤ e + 1) : wiP f o p (e + 1) x ↔ (wiP f o p e x ∨ inn (f (e + 1)) x o = 1) := by
  constructor
  · rintro ⟨r, h1, h2, h3⟩
    if c : r = e + 1 then right; rw [← c]; exact h3
    else left; exact ⟨r, h1, by omega, h3⟩
  · rintro (⟨r, h1, h2, h3⟩ | h3)
    · exact ⟨r, h1, by omega, h3⟩
    · exact ⟨e + 1, h, Nat.le_refl _, h3⟩
