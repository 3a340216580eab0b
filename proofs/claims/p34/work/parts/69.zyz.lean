/-! WHAT IS KEPT OF THE VERDICTS, BOTH SIDES -/
/-- both refuse alike, of all messages -/
theorem wrl_v {Hx Hm A G : mzH} {c : pB} (h : wrl Hx Hm c) (t : tkW Hm A) (hc : clR (rgM G) (mdM G)) : (fZ Hx 25 2).toInt.toNat = cnM A ∧ (∀ q, q < cnM A → odX Hx q = odM A q ∧ vdX Hx q = rvM A G q) ∧ ∀ q, q < cnM A → odX Hx q = ordF (fun i => (aZ Hx 6 i).toInt) (cnM A) q := by
  obtain ⟨o1, o2, o3⟩ := wrl_o h t
  obtain ⟨n1, n2, n3⟩ := wrx_n h
  obtain ⟨x1, x2⟩ := wrx_o h
  have hv : ∀ q, q < cnM A → odX Hx q = ordF (fun i => (aZ Hx 6 i).toInt) (cnM A) q := fun q hq => by
    obtain ⟨v1, v2, v3⟩ := h.1
    have e9 : (fZ Hx 3 9).toInt.toNat = cnM A := by rw [← v1]; omega
    have z := v3 q (by omega)
    unfold odX
    rw [z, e9, Int.toNat_natCast]
  refine ⟨by omega, fun q hq => ⟨o1 q (by omega), ?_⟩, hv⟩
  rw [rv_vd h (tkQ_W h t) hc q hq]
  have g : ∀ p, p ≤ cnM A → olF p (odX Hx) = olF p (odM A) := fun p hp => by
    unfold olF
    refine List.map_congr_left (fun x hx => ?_)
    have := List.mem_range.mp hx
    exact o1 x (by omega)
  have k : (odM A q : Int) < c.N := by rw [← o1 q (by omega)]; exact x1 q (by omega)
  have e1 : rnH Hx (hoX Hx) (olF q (odX Hx)) = rnH Hx (hoM A) (olF q (odM A)) := by
    rw [g q (by omega)]
    refine rnH_cg (fun j hj => ?_)
    obtain ⟨x, hx, rfl⟩ := olF_mem.mp hj
    refine (o3 _ ?_).1
    rw [← o1 x (by omega)]
    exact x1 x (by omega)
  unfold vdX vdH
  rw [fX_rn, e1, o1 q (by omega), (o3 _ k).1]
