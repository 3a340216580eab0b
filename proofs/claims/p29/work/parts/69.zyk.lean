/-! THE REFERENCE WITHOUT ONE -/
theorem od_mem {H A : mzH} {k : Nat} (e2 : ∀ i, aZ A 2 i = aZ H 2 i) (hk : (k : Int) < (aZ H 2 2).toInt) (hi : inM A k ≠ 0) : ∃ x, x < cnM A ∧ odM A x = k :=
  ((ord2_ok (I := inM A) (hr := hoM A) (aZ A 2 2).toInt.toNat).2 k).mpr ⟨by rw [e2]; omega, hi⟩
