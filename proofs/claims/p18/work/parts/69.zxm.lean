/-! WHAT DECIDES A VERDICT -/
/-- the verdict on the message at spot s, were message j not told -/
def dcV (H : mzH) (s j : Nat) : Int := vrH H (hoX H) ((olF (s + 1) (odX H)).filter (fun x => decide (¬ (x : Int) = (j : Int))))
theorem od_kp {H A : mzH} (fr : kpX H A) : odX A = odX H := (row_kw (kpW_X fr)).1
theorem vr_kp {H A : mzH} (fr : kpX H A) {l : List Nat} : vrH A (hoX A) l = vrH H (hoX H) l := by
  have e : hoX A = hoX H := (row_kw (kpW_X fr)).2.1
  unfold vrH
  rw [e]
  cases l.getLast? with
  | none => rfl
  | some j => show vdH A (hoX H) (rnH A (hoX H) l.dropLast) j = _; rw [rnH_kp fr, (stH_kp fr).2]
theorem sp_ex {H : mzH} {k : Int} (cv : cvX H) (h0 : 0 ≤ k ∧ k < (fZ H 3 9).toInt) : ∃ s : Nat, s < (fZ H 25 2).toInt.toNat ∧ odX H s = k.toNat := by
  obtain ⟨c1, c2, c3⟩ := cv
  obtain ⟨q, hq, e⟩ := ordF_sur (hr := fun i => (aZ H 6 i).toInt) (n := (fZ H 3 9).toInt.toNat) (k := k.toNat) (by omega)
  refine ⟨q, by rw [c1]; exact hq, ?_⟩
  unfold odX
  rw [c3 q hq, Int.toNat_natCast, e]
