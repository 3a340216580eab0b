/-! BOTH REFUSE ALIKE, OF ANY ORDER -/
theorem rv_vd {Hx Hm A G : mzH} {c : pB} (h : wrl Hx Hm c) (t : tkQ Hm A) (hc : clR (rgM G) (mdM G)) : ∀ x, x < cnM A → rvM A G x = vdH Hx (hoM A) (rnH Hx (hoM A) (olF x (odM A))) (odM A x) := fun x hx => by
  obtain ⟨n, r, ol⟩ := wrl_r h t
  obtain ⟨k1, k2⟩ := wrl_l h t hc x (by omega)
  obtain ⟨z1, z2, z3, z4, z5⟩ := r (odM A x) (ol x hx)
  obtain ⟨y1, y2, y3, y4, y5, y6⟩ := z5
  have eU : (fZ Hx 3 10).toInt = (aZ A 2 3).toInt := by rw [t.2.1]; exact h.2.1.2.2.2.1.trans h.2.2.1.2.2.2.1.symm
  have eC : (fZ Hx 3 11).toInt = (aZ A 2 4).toInt := by rw [t.2.1]; exact h.2.1.2.2.2.2.1.trans h.2.2.1.2.2.2.2.1.symm
  have hy : wyS 8 (wyX Hx) (wyM A) := by rw [wyM_kp t.1]; exact h.2.2.2.2
  unfold rvM vdH
  rw [eU, eC, z1, z2, z3]
  exact rea_obj k1 k2 hy (by omega) y1 y3 (fun z => y4 (by omega)) y5
/-- all in, of other hours -/
theorem all_ol {Hx Hm A : mzH} {c : pB} (h : wrl Hx Hm c) (t : tkQ Hm A) (hi : ∀ q : Nat, (q : Int) < (aZ Hm 2 2).toInt → inM A q ≠ 0) : cnM A = c.N.toNat ∧ ∀ p, p ≤ cnM A → olF p (odM A) = olF p (ordF (hoM A) c.N.toNat) := by
  obtain ⟨n, r, ol⟩ := wrl_r h t
  have nm : (aZ Hm 2 2).toInt = c.N := h.2.2.1.2.2.1
  have f := ol_filter (I := inM A) (hr := hoM A) (n := c.N.toNat)
  have g : (olF c.N.toNat (ordF (hoM A) c.N.toNat)).filter (fun k => decide (inM A k ≠ 0)) = olF c.N.toNat (ordF (hoM A) c.N.toNat) := by
    refine List.filter_eq_self.mpr (fun j hj => ?_)
    obtain ⟨x, hx, rfl⟩ := olF_mem.mp hj
    have := ordF_lt (hr := hoM A) c.N.toNat hx
    rw [decide_eq_true_eq]
    exact hi _ (by omega)
  rw [g] at f
  have e : olF c.N.toNat (ordF (hoM A) c.N.toNat) = olF (cnM A) (odM A) := by
    rw [f]
    unfold cnM odM
    rw [n]
  have l : c.N.toNat = cnM A := by
    have := congrArg List.length e
    unfold olF at this
    rw [List.length_map, List.length_map, List.length_range, List.length_range] at this
    exact this
  refine ⟨l.symm, fun p hp => ?_⟩
  unfold olF
  refine List.map_congr_left (fun q hq => ?_)
  have hq := List.mem_range.mp hq
  rw [l] at e
  have z := congrArg (fun l => l[q]?) e
  unfold olF at z
  simp only [List.getElem?_map, List.getElem?_range (show q < cnM A by omega), Option.map_some] at z
  rw [l]
  exact (Option.some.inj z).symm
/-- what would be, by the reference -/
theorem ot_eq {Hx Hm A G : mzH} {c : pB} {hr : Nat → Int} {n : Int} (h : wrl Hx Hm c) (t : tkQ Hm A) (hc : clR (rgM G) (mdM G)) (hi : ∀ q : Nat, (q : Int) < (aZ Hm 2 2).toInt → inM A q ≠ 0 ∧ hoM A q = hr q) (hn : n < 40) : otH Hx hr (fZ Hx 3 9).toInt.toNat n = if n < 0 then cnt (fun x => ¬ rvM A G x = 0) (cnM A) else whM (fM A G (cnM A)).1 (fM A G (cnM A)).2 n.toNat := by
  have nm : (aZ Hm 2 2).toInt = c.N := h.2.2.1.2.2.1
  have nx : (fZ Hx 3 9).toInt = c.N := h.2.1.2.2.1
  obtain ⟨e1, e2⟩ := all_ol h t (fun q hq => (hi q hq).1)
  rw [nx, ot_cg (hr := hr) (hr2 := hoM A) (fun j hj => (hi j (by omega)).2.symm)]
  unfold otH
  if z : n < 0 then
    rw [if_pos z, if_pos z, ← e1]
    unfold rfH
    refine cnt_cg (fun q hq => ?_)
    rw [rv_vd h t hc q hq]
    have o := e2 q (by omega)
    have o1 := e2 (q + 1) (by omega)
    rw [olF_s, olF_s, o] at o1
    have o2 := List.append_cancel_left o1
    rw [o, ← e1] at *
    rw [show odM A q = ordF (hoM A) (cnM A) q from (List.cons.inj o2).1]
  else
    rw [if_neg z, if_neg z]
    obtain ⟨k1, k2⟩ := wrl_l h t hc (cnM A) (Nat.le_refl _)
    rw [e2 (cnM A) (Nat.le_refl _)] at k1 k2
    rw [whM_cg k1 k2 (by omega), e1]
