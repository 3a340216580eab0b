/-! BOTH REFUSE ALIKE, OF ANY ORDER -/
theorem rv_vd {Hx Hm A G : mzH} {c : pB} (h : wrl Hx Hm c) (t : tkQ Hm A) (hc : clR (rgM G) (mdM G)) : ∀ x, x < cnM A → rvM A G x = vdH Hx (hoM A) (rnH Hx (hoM A) (olF x (odM A))) (odM A x) := fun x hx => by
  obtain ⟨n, r, ol⟩ := wrl_r h t
  obtain ⟨k1, k2⟩ := wrl_l h t hc x (by omega)
  obtain ⟨z1, z2, z3, z4, z5⟩ := r (odM A x) (ol x hx)
  obtain ⟨y1, y2, y3, y4, y5, y6⟩ := z5
  have eU : (fZ Hx 3 10).toInt = (aZ A 2 3).toInt := by rw [t.2.1]; exact h.2.1.2.2.2.1.trans h.2.2.1.2.2.2.1.symm
  have eC : (fZ Hx 3 11).toInt = (aZ A 2 4).toInt := by rw [t.2.1]; exact h.2.1.2.2.2.2.1.trans h.2.2.1.2.2.2.2.1.symm
  have hy : wyS 8 (wyX Hx) (wyM A) := by rw [wyM_kp t.1]; exact h.2.2.2.2
  unfold rvM vdH
  rw [eU, eC, z1, z2, z3]
  exact rea_obj k1 k2 hy (by omega) y1 y3 (fun z => y4 (by omega)) y5
