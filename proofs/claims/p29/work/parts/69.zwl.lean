/-! THE VERDICTS OF BOTH, OF ALL MESSAGES -/
/-- each message stands somewhere in the order -/
theorem ordF_sur {hr : Nat → Int} {n k : Nat} (h : k < n) : ∃ q, q < n ∧ ordF hr n q = k := by
  have e := ord2_all (I := fun _ => 1) (hr := hr) n (fun _ _ => rfl)
  obtain ⟨a1, a2⟩ := ord2_ok (I := fun _ => 1) (hr := hr) n
  rw [e] at a2
  exact (a2 k).mpr ⟨h, by decide⟩
