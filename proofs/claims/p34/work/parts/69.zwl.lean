/-! THE VERDICTS OF BOTH, OF ALL MESSAGES -/
theorem tkQ_W {Hx Hm A : mzH} {c : pB} (h : wrl Hx Hm c) (t : tkW Hm A) : tkQ Hm A := by
  obtain ⟨v, b, w, o, y⟩ := h
  obtain ⟨t1, t2, t3⟩ := t
  refine ⟨t1, t2, fun q hq => ?_⟩
  have n2 : (aZ Hm 2 2).toInt = c.N := w.2.2.1
  have e2 : (aZ Hm 2 (69 + 5 * q)).toInt = c.hr q := (w.2.2.2.2.2.2.2.1 q (by omega)).1
  unfold hoM
  rw [(t3 q hq).1, e2]
  exact (o.2.2 q (by omega)).2.2.2.2.1
