/-! ONE MESSAGE LEFT OUT -/
theorem od_uni {H : mzH} {q p : Nat} (h : cvX H) (hq : q < (fZ H 25 2).toInt.toNat) (hp : p < (fZ H 25 2).toInt.toNat) (e : odX H q = odX H p) : q = p := by
  have e9 := h.1
  rw [e9] at hq hp
  if c : q < p then exact absurd e (od_inj h hp c)
  else
    if d : p < q then exact absurd e.symm (od_inj h hq d)
    else omega
