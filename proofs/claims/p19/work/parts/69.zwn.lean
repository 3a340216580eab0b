/-! FROM AN HOUR TO ANOTHER -/
/-- how far the worlds have gone that began at p and take messages till hour b -/
def ixF (hr : Nat → Int) (b : Int) (p : Nat) : Nat → Nat
  | 0 => p
  | k + 1 => if k = ixF hr b p k ∧ hr k ≤ b then k + 1 else ixF hr b p k
theorem hq_mono {A : mzH} {i j : Nat} (h : i ≤ j) (hj : j < cnM A) : hqM A i ≤ hqM A j := by
  if c : i = j then rw [c]; exact Int.le_refl _
  else
    have z := (ord2_ok (I := inM A) (hr := hoM A) (aZ A 2 2).toInt.toNat).1 i j (by omega) hj
    unfold hqM
    have e1 : odM A i = (ord2 (inM A) (hoM A) (aZ A 2 2).toInt.toNat).2 i := rfl
    have e2 : odM A j = (ord2 (inM A) (hoM A) (aZ A 2 2).toInt.toNat).2 j := rfl
    rw [e1, e2]
    rcases z with z | ⟨z, _⟩
    · omega
    · omega
/-- so at one of the worlds from p to e -/
def wiP (f : Nat → pS) (o : Int) (p e : Nat) (x : Nat) : Prop := ∃ r, p ≤ r ∧ r ≤ e ∧ inn (f r) x o = 1
