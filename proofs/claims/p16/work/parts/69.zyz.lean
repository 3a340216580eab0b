/-! WHAT IS KEPT OF THE VERDICTS, BOTH SIDES -/
/-- both refuse alike, of all messages -/
theorem wrl_v {Hx Hm A G : mzH} {c : pB} (h : wrl Hx Hm c) (t : tkW Hm A) (hc : clR (rgM G) (mdM G)) : (fZ Hx 25 2).toInt.toNat = cnM A ∧ (∀ q, q < cnM A → odX Hx q = odM A q ∧ vdX Hx q = rvM A G q) ∧ ∀ q, q < cnM A → odX Hx q = ordF (fun i => (aZ Hx 6 i).toInt) (cnM A) q := by
  obtain ⟨o1, o2, o3⟩ := wrl_o h t
  obtain ⟨n1, n2, n3⟩ := wrx_n h
  obtain ⟨x1, x2⟩ := wrx_o h
  have hv : ∀ q, q < cnM A → odX Hx q = ordF (fun i => (aZ Hx 6 i).toInt) (cnM A) q := fun q hq => by
    obtain ⟨v1, v2, v3⟩ := h.1
    have e9 : (fZ Hx 3 9).toInt.toNat = cnM A := by rw [← v1]; omega
    have z := v3 q (by omega)
    unfold odX
    rw [z, e9, Int.toNat_natCast]
  refine ⟨by omega, fun q hq => ⟨o1 q (by omega), ?_⟩, hv⟩
  rw [rv_vd h (tkQ_W h t) hc q hq]
  have g : ∀ p, p ≤ cnM A → olF p (odX Hx) = olF p (odM A) := fun p hp => by
    unfold olF
    refine List.map_congr_left (fun x hx => ?_)
    have := List.mem_range.mp hx
    exact o1 x (by omega)
  have k : (odM A q : Int) < c.N := by rw [← o1 q (by omega)]; exact x1 q (by omega)
  have e1 : rnH Hx (hoX Hx) (olF q (odX Hx)) = rnH Hx (hoM A) (olF q (odM A)) := by
    rw [g q (by omega)]
    refine rnH_cg (fun j hj => ?_)
    obtain ⟨x, hx, rfl⟩ := olF_mem.mp hj
    refine (o3 _ ?_).1
    rw [← o1 x (by omega)]
    exact x1 x (by omega)
  unfold vdX vdH
  rw [fX_rn, e1, o1 q (by omega), (o3 _ k).1]
/-- what is kept by messages -/
theorem wq_eq {Hx Hm A G : mzH} {c : pB} {wq : Nat → Int} (h : wrl Hx Hm c) (wh : whE Hx) (t : tkW Hm A) (hc : clR (rgM G) (mdM G)) (hw : ∀ x, x < cnM A → wq (odM A x) = rvM A G x) : ∀ k, k < cnM A → (aZ Hx 42 k).toInt = wq k := fun k hk => by
  obtain ⟨n, v, o⟩ := wrl_v h t hc
  obtain ⟨q, hq, e⟩ := ordF_sur (hr := fun i => (aZ Hx 6 i).toInt) hk
  have z := wh q (by omega)
  rw [o q hq, e, (v q hq).2, ← hw q hq, ← (v q hq).1, o q hq, e] at z
  exact z
