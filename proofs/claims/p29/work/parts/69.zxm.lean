/-! WHAT DECIDES A VERDICT -/
/-- the verdict on the message at spot s, were message j not told -/
def dcV (H : mzH) (s j : Nat) : Int := vrH H (hoX H) ((olF (s + 1) (odX H)).filter (fun x => decide (¬ (x : Int) = (j : Int))))
theorem sp_ex {H : mzH} {k : Int} (cv : cvX H) (h0 : 0 ≤ k ∧ k < (fZ H 3 9).toInt) : ∃ s : Nat, s < (fZ H 25 2).toInt.toNat ∧ odX H s = k.toNat := by
  obtain ⟨c1, c2, c3⟩ := cv
  obtain ⟨q, hq, e⟩ := ordF_sur (hr := fun i => (aZ H 6 i).toInt) (n := (fZ H 3 9).toInt.toNat) (k := k.toNat) (by omega)
  refine ⟨q, by rw [c1]; exact hq, ?_⟩
  unfold odX
  rw [c3 q hq, Int.toNat_natCast, e]
