/-! ORDERS AS LISTS -/
theorem kLt_irr {hr : Nat → Int} {a : Nat} : ¬ kLt hr a a := fun h => by
  unfold kLt at h
  omega
/-- the list of an order -/
def olF (n : Nat) (t : Nat → Nat) : List Nat := (List.range n).map t
theorem olF_s {n : Nat} {t : Nat → Nat} : olF (n + 1) t = olF n t ++ [t n] := by
  unfold olF
  rw [List.range_succ, List.map_append]
  rfl
theorem olF_mem {n x : Nat} {t : Nat → Nat} : x ∈ olF n t ↔ ∃ q, q < n ∧ t q = x := by
  unfold olF
  rw [List.mem_map]
  exact ⟨fun ⟨q, h1, h2⟩ => ⟨q, List.mem_range.mp h1, h2⟩, fun ⟨q, h1, h2⟩ => ⟨q, List.mem_range.mpr h1, h2⟩⟩
