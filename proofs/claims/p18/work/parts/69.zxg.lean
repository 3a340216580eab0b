theorem gdY_kp {H A : mzH} (fr : kpX H A) (h : gdY H) : gdY A := by
  have e3 := fr 3 (by decide)
  have e25 := fr 25 (by decide)
  have e26 := fr 26 (by decide)
  have e27 := fr 27 (by decide)
  have e6 := fr 6 (by decide)
  have er : roX A = roX H ∨ True := Or.inr trivial
  obtain ⟨⟨h0, h00, h01⟩, h1, h2⟩ := h
  refine ⟨⟨by rw [e25.1]; exact h0, by rw [e25.1, e3.1]; exact h00, fun i => by rw [e26.2, e6.2]; exact h01 i⟩, fun q hq => ?_, fun j hj => ?_⟩
  · rw [e25.1] at hq ⊢
    unfold odX
    rw [e27.2]
    exact h1 q hq
  · rw [e25.1] at hj
    have k := h2 j hj
    have a1 : roX A j 1 = roX H j 1 := by show (aZ A 7 j).toInt = (aZ H 7 j).toInt; rw [(fr 7 (by decide)).2]
    have a2 : roX A j 2 = roX H j 2 := by show (aZ A 8 j).toInt = (aZ H 8 j).toInt; rw [(fr 8 (by decide)).2]
    have a3 : roX A j 3 = roX H j 3 := by show (aZ A 9 j).toInt = (aZ H 9 j).toInt; rw [(fr 9 (by decide)).2]
    have a4 : roX A j 4 = roX H j 4 := by show (aZ A 10 j).toInt = (aZ H 10 j).toInt; rw [(fr 10 (by decide)).2]
    have a5 : hoX A j = hoX H j := by show (aZ A 26 j).toInt = (aZ H 26 j).toInt; rw [e26.2]
    unfold rwO at k ⊢
    rw [a1, a2, a3, a4, a5]
    exact k
