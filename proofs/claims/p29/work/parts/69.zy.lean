/-! QUESTIONS, THE REFERENCE -/
theorem tk_kp {H B A : mzH} (k : kpM H B) (t : tkW B A) : tkW H A := by
  obtain ⟨t1, t2, t3⟩ := t
  refine ⟨kpM_t k t1, fun i => (t2 i).trans (k.1 2 (by decide) i), fun q hq => ?_⟩
  have := t3 q (by rw [k.1 2 (by decide)]; exact hq)
  rw [k.1 2 (by decide)] at this
  exact this
def sooM (r : pS) (md : Nat → Int) (wy : Int → Int → Int) (n : Nat) (h to : Int) : Int := if whM r md n < 0 then whM r md n else if whM r md n = to then h else if 100000 ≤ wy (whM r md n) to then -2 else if h < r.la (tp r n) + wy (whM r md n) to then r.la (tp r n) + wy (whM r md n) to else h
