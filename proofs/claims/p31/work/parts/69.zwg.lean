/-! ORDERS AS LISTS -/
theorem kLt_irr {hr : Nat → Int} {a : Nat} : ¬ kLt hr a a := fun h => by
  unfold kLt at h
  omega
theorem kLt_asy {hr : Nat → Int} {a b : Nat} (h : kLt hr a b) (k : kLt hr b a) : False := by
  unfold kLt at h k
  omega
/-- the list of an order -/
def olF (n : Nat) (t : Nat → Nat) : List Nat := (List.range n).map t
theorem olF_s {n : Nat} {t : Nat → Nat} : olF (n + 1) t = olF n t ++ [t n] := by
  unfold olF
  rw [List.range_succ, List.map_append]
  rfl
theorem olF_mem {n x : Nat} {t : Nat → Nat} : x ∈ olF n t ↔ ∃ q, q < n ∧ t q = x := by
  unfold olF
  rw [List.mem_map]
  exact ⟨fun ⟨q, h1, h2⟩ => ⟨q, List.mem_range.mp h1, h2⟩, fun ⟨q, h1, h2⟩ => ⟨q, List.mem_range.mpr h1, h2⟩⟩
theorem olF_pw {hr : Nat → Int} {t : Nat → Nat} : ∀ {n : Nat}, srt hr n t → (olF n t).Pairwise (kLt hr)
  | 0, _ => List.Pairwise.nil
  | n + 1, h => by
    rw [olF_s, List.pairwise_append]
    refine ⟨olF_pw (fun i j h1 h2 => h i j h1 (by omega)), List.pairwise_singleton _ _, fun a ha b hb => ?_⟩
    obtain ⟨q, hq, rfl⟩ := olF_mem.mp ha
    rw [List.mem_singleton.mp hb]
    exact h q n hq (by omega)
/-- an order is known by what is in it -/
theorem pw_eq {hr : Nat → Int} : ∀ {l m : List Nat}, l.Pairwise (kLt hr) → m.Pairwise (kLt hr) → (∀ x, x ∈ l ↔ x ∈ m) → l = m
  | [], [], _, _, _ => rfl
  | [], b :: m, _, _, h => absurd ((h b).mpr (List.mem_cons_self ..)) (List.not_mem_nil)
  | a :: l, [], _, _, h => absurd ((h a).mp (List.mem_cons_self ..)) (List.not_mem_nil)
  | a :: l, b :: m, p, q, h => by
    obtain ⟨p1, p2⟩ := List.pairwise_cons.mp p
    obtain ⟨q1, q2⟩ := List.pairwise_cons.mp q
    have e : a = b := by
      if z : a = b then exact z
      else
        exfalso
        have h1 : a ∈ m := by
          rcases List.mem_cons.mp ((h a).mp (List.mem_cons_self ..)) with y | y
          · exact absurd y z
          · exact y
        have h2 : b ∈ l := by
          rcases List.mem_cons.mp ((h b).mpr (List.mem_cons_self ..)) with y | y
          · exact absurd y.symm z
          · exact y
        exact kLt_asy (q1 a h1) (p1 b h2)
    subst e
    rw [pw_eq p2 q2 (fun x => ?_)]
    have hx := h x
    rw [List.mem_cons, List.mem_cons] at hx
    constructor
    · intro y
      rcases hx.mp (Or.inr y) with z | z
      · rw [z] at y
        exact absurd (p1 a y) kLt_irr
      · exact z
    · intro y
      rcases hx.mpr (Or.inr y) with z | z
      · rw [z] at y
        exact absurd (q1 a y) kLt_irr
      · exact z
/-- those of the whole order that are in -/
theorem ol_filter {I hr : Nat → Int} {n : Nat} : (olF n (ordF hr n)).filter (fun k => decide (I k ≠ 0)) = olF (ord2 I hr n).1 (ord2 I hr n).2 := by
  have e := ord2_all (I := fun _ => 1) (hr := hr) n (fun _ _ => rfl)
  obtain ⟨a1, a2⟩ := ord2_ok (I := fun _ => 1) (hr := hr) n
  obtain ⟨b1, b2⟩ := ord2_ok (I := I) (hr := hr) n
  rw [e] at a1 a2
  refine pw_eq (hr := hr) ((olF_pw a1).filter _) (olF_pw b1) (fun x => ?_)
  rw [List.mem_filter, olF_mem, olF_mem, b2 x, a2 x, decide_eq_true_eq]
  exact ⟨fun z => ⟨z.1.1, z.2⟩, fun z => ⟨⟨z.1, by decide⟩, z.2⟩⟩
