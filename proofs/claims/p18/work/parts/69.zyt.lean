/-! WHAT IS KEPT OF BLAME, OVER CALLS -/
theorem stH_kw {H B : mzH} (k : kpW H B) : stH B (hoX B) = stH H (hoX H) := by
  obtain ⟨e1, e2, e3⟩ := row_kw k
  funext s j
  obtain ⟨r1, r2, r3, r4⟩ := e3 j
  unfold stH
  rw [wyX_kw k, (k 3 (by decide)).1, (k 3 (by decide)).1, r1, r2, r3, r4, e2]
theorem vdH_kw {H B : mzH} (k : kpW H B) : vdH B (hoX B) = vdH H (hoX H) := by
  obtain ⟨e1, e2, e3⟩ := row_kw k
  funext s j
  obtain ⟨r1, r2, r3, r4⟩ := e3 j
  unfold vdH
  rw [wyX_kw k, (k 3 (by decide)).1, (k 3 (by decide)).1, r1, r2, r3, e2]
theorem rnH_kw {H B : mzH} (k : kpW H B) : rnH B (hoX B) = rnH H (hoX H) := by
  funext l
  unfold rnH
  rw [stH_kw k]
theorem vrH_kw {H B : mzH} (k : kpW H B) {l : List Nat} : vrH B (hoX B) l = vrH H (hoX H) l := by
  unfold vrH
  cases l.getLast? with
  | none => rfl
  | some j =>
    show vdH B (hoX B) (rnH B (hoX B) l.dropLast) j = vdH H (hoX H) (rnH H (hoX H) l.dropLast) j
    rw [vdH_kw k, rnH_kw k]
theorem rfL_kw {H B : mzH} (k : kpW H B) {l : List Nat} : rfL B (hoX B) l = rfL H (hoX H) l := by
  unfold rfL
  exact cnt_cg (fun q _ => by rw [vrH_kw k])
/-- the course is right, what is kept of the one to blame, too -/
def cvB (H : mzH) : Prop := cvX H ∧ blK H H
/-- all but the one at spot s -/
theorem fl_wo {t : Nat → Nat} {s : Nat} : ∀ m, s < m → (∀ q, q < m → q ≠ s → t q ≠ t s) → (olF m t).filter (fun j : Nat => decide (¬ (j : Int) = (t s : Int))) = olF s t ++ (olF m t).drop (s + 1)
  | 0, h, _ => absurd h (Nat.not_lt_zero _)
  | m + 1, h, inj => by
    if c : s = m then
      subst c
      rw [fl_n (by rw [decide_eq_true_eq]; exact fun y => y rfl), olF_d0 (Nat.le_refl _), List.append_nil]
      refine List.filter_eq_self.mpr (fun j hj => ?_)
      obtain ⟨q, hq, rfl⟩ := olF_mem.mp hj
      rw [decide_eq_true_eq]
      have z := inj q (by omega) (by omega)
      omega
    else
      have z := inj m (by omega) (fun y => c y.symm)
      rw [fl_y (by rw [decide_eq_true_eq]; omega), fl_wo m (by omega) (fun q hq hn => inj q (by omega) hn), olF_dr (by omega), List.append_assoc]
theorem rfL_ol {H : mzH} {hr : Nat → Int} {t : Nat → Nat} : ∀ n, rfL H hr (olF n t) = cnt (fun x => ¬ vdH H hr (rnH H hr (olF x t)) (t x) = 0) n
  | 0 => rfl
  | n + 1 => by
    rw [olF_s, rfL_s, rfL_ol n]
    show _ = cnt (fun x => ¬ vdH H hr (rnH H hr (olF x t)) (t x) = 0) n + (if ¬ vdH H hr (rnH H hr (olF n t)) (t n) = 0 then 1 else 0)
    if z : vdH H hr (rnH H hr (olF n t)) (t n) = 0 then rw [if_pos z, if_neg (fun y => y z)]
    else rw [if_neg z, if_pos z]
theorem rfL_cg {H : mzH} {hr hr2 : Nat → Int} {l : List Nat} (h : ∀ j, j ∈ l → hr j = hr2 j) : rfL H hr l = rfL H hr2 l := by
  unfold rfL
  refine cnt_cg (fun q hq => ?_)
  have ht : ∀ j, j ∈ l.take (q + 1) → hr j = hr2 j := fun j hj => h j (List.mem_of_mem_take hj)
  unfold vrH
  cases e : (l.take (q + 1)).getLast? with
  | none => exact Iff.rfl
  | some j =>
    show ¬ vdH H hr (rnH H hr (l.take (q + 1)).dropLast) j = 0 ↔ ¬ vdH H hr2 (rnH H hr2 (l.take (q + 1)).dropLast) j = 0
    have e1 : rnH H hr (l.take (q + 1)).dropLast = rnH H hr2 (l.take (q + 1)).dropLast := rnH_cg (fun i hi => ht i ((List.dropLast_sublist _).subset hi))
    have e2 : hr j = hr2 j := ht j (List.mem_of_getLast? e)
    unfold vdH
    rw [e1, e2]
