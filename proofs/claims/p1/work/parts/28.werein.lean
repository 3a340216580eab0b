/-! wereIn: which of two hours is the greater one decides -/
def tId (i : Nat) (lo hi : Int) : Value := .retAddr (i * aI0 + aK lo hi)
set_option maxRecDepth 1000000 in
theorem zc_wereInA : (aProd [tC [0, 40], [tId 2 0 999], [tId 1 0 999], tC [0]]).all (aSame 60000 132 240) = true := by decide +kernel
set_option maxRecDepth 1000000 in
theorem zc_wereInB : (aProd [tC [0, 40], [tId 3 0 999], [tId 4 0 999], tC [0]]).all (aSame 60000 132 240) = true := by decide +kernel
set_option maxRecDepth 1000000 in
theorem zc_wereInC : (aProd [tC [0, 40], [tI (-2147483648) (-1), tI 1000 2147483647], tAny, tC [0]]).all (aSame 60000 132 240) = true := by decide +kernel
set_option maxRecDepth 1000000 in
theorem zc_wereInD : (aProd [tC [0, 40], [tI 0 999], [tI (-2147483648) (-1), tI 1000 2147483647], tC [0]]).all (aSame 60000 132 240) = true := by decide +kernel
theorem tI_in {ρ : Nat → Int32} {lo hi : Int} {x : Int32} (h1 : aLo (aK lo hi) = lo) (h2 : aHi (aK lo hi) = hi) (h3 : aId (aK lo hi) = 0) (a : lo ≤ x.toInt) (b : x.toInt ≤ hi) : aV ρ (tI lo hi) (.int x) := ⟨x, rfl, ⟨by rw [h1]; exact a, by rw [h2]; exact b⟩, Or.inl h3⟩
theorem tId_in {ρ : Nat → Int32} {i : Nat} {lo hi : Int} {x : Int32} (h1 : aLo (i * aI0 + aK lo hi) = lo) (h2 : aHi (i * aI0 + aK lo hi) = hi) (h3 : aId (i * aI0 + aK lo hi) = i) (a : lo ≤ x.toInt) (b : x.toInt ≤ hi) (e : x = ρ i) : aV ρ (tId i lo hi) (.int x) := ⟨x, rfl, ⟨by rw [h1]; exact a, by rw [h2]; exact b⟩, Or.inr (by rw [h3]; exact e)⟩
theorem aProd4 {a b c d : List Value} {x y z u : Value} (h1 : x ∈ a) (h2 : y ∈ b) (h3 : z ∈ c) (h4 : u ∈ d) : [x, y, z, u] ∈ aProd [a, b, c, d] := by
  simp only [aProd, List.mem_flatMap, List.mem_map, List.mem_cons, List.not_mem_nil, or_false]
  exact ⟨x, h1, [y, z, u], ⟨y, h2, [z, u], ⟨z, h3, [u], ⟨u, h4, [], rfl, rfl⟩, rfl⟩, rfl⟩, rfl⟩
theorem aL4 {ρ : Nat → Int32} {x y z u : Value} {n a b i : Int32} (h1 : aV ρ x (.int n)) (h2 : aV ρ y (.int a)) (h3 : aV ρ z (.int b)) (h4 : aV ρ u (.int i)) : aL ρ [x, y, z, u] ([n, a, b, i].map .int) := ⟨_, _, rfl, h1, _, _, rfl, h2, _, _, rfl, h3, _, _, rfl, h4, rfl⟩
theorem zc_wereIn (n a b i : Int32) : zAlike 132 240 [n, a, b, i] := by
  have hT : ∀ ρ : Nat → Int32, ∃ t ∈ tC [0, 40], aV ρ t (.int n) := fun ρ => aCov_at (p := -2147483648) (by decide +kernel) n (Int32.le_toInt n)
  have hI : ∀ ρ : Nat → Int32, ∃ t ∈ tC [0], aV ρ t (.int i) := fun ρ => aCov_at (p := -2147483648) (by decide +kernel) i (Int32.le_toInt i)
  have la := Int32.le_toInt a
  have ga := Int32.toInt_lt a
  have lb := Int32.le_toInt b
  have gb := Int32.toInt_lt b
  by_cases ha : 0 ≤ a.toInt ∧ a.toInt ≤ 999
  · by_cases hb : 0 ≤ b.toInt ∧ b.toInt ≤ 999
    · by_cases hlt : b < a
      · let ρ : Nat → Int32 := fun k => if k = 1 then b else if k = 2 then a else 0
        obtain ⟨t, ht, hv⟩ := hT ρ
        obtain ⟨u, hu, hw⟩ := hI ρ
        exact aSame_at (ρ := ρ) ⟨hlt, (show ¬ (0 : Int32) < 0 by decide)⟩ (List.all_eq_true.mp zc_wereInA _ (aProd4 ht List.mem_cons_self List.mem_cons_self hu)) (aL4 hv (tId_in (by decide +kernel) (by decide +kernel) (by decide +kernel) ha.1 ha.2 rfl) (tId_in (by decide +kernel) (by decide +kernel) (by decide +kernel) hb.1 hb.2 rfl) hw)
      · let ρ : Nat → Int32 := fun k => if k = 1 then 0 else if k = 2 then 1 else if k = 3 then a else if k = 4 then b else 0
        obtain ⟨t, ht, hv⟩ := hT ρ
        obtain ⟨u, hu, hw⟩ := hI ρ
        exact aSame_at (ρ := ρ) ⟨(show (0 : Int32) < 1 by decide), hlt⟩ (List.all_eq_true.mp zc_wereInB _ (aProd4 ht List.mem_cons_self List.mem_cons_self hu)) (aL4 hv (tId_in (by decide +kernel) (by decide +kernel) (by decide +kernel) ha.1 ha.2 rfl) (tId_in (by decide +kernel) (by decide +kernel) (by decide +kernel) hb.1 hb.2 rfl) hw)
    · obtain ⟨t, ht, hv⟩ := hT zρ0
      obtain ⟨u, hu, hw⟩ := hI zρ0
      have h2 : aV zρ0 (tI 0 999) (.int a) := tI_in (by decide +kernel) (by decide +kernel) (by decide +kernel) ha.1 ha.2
      by_cases hb1 : b.toInt < 0
      · exact aSame_at (ρ := zρ0) (by decide) (List.all_eq_true.mp zc_wereInD _ (aProd4 ht List.mem_cons_self List.mem_cons_self hu)) (aL4 hv h2 (tI_in (by decide +kernel) (by decide +kernel) (by decide +kernel) lb (by omega)) hw)
      · exact aSame_at (ρ := zρ0) (by decide) (List.all_eq_true.mp zc_wereInD _ (aProd4 ht List.mem_cons_self (List.mem_cons_of_mem _ List.mem_cons_self) hu)) (aL4 hv h2 (tI_in (by decide +kernel) (by decide +kernel) (by decide +kernel) (by omega) (by omega)) hw)
  · obtain ⟨t, ht, hv⟩ := hT zρ0
    obtain ⟨u, hu, hw⟩ := hI zρ0
    by_cases ha1 : a.toInt < 0
    · exact aSame_at (ρ := zρ0) (by decide) (List.all_eq_true.mp zc_wereInC _ (aProd4 ht List.mem_cons_self List.mem_cons_self hu)) (aL4 hv (tI_in (by decide +kernel) (by decide +kernel) (by decide +kernel) la (by omega)) (a_top b) hw)
    · exact aSame_at (ρ := zρ0) (by decide) (List.all_eq_true.mp zc_wereInC _ (aProd4 ht (List.mem_cons_of_mem _ List.mem_cons_self) List.mem_cons_self hu)) (aL4 hv (tI_in (by decide +kernel) (by decide +kernel) (by decide +kernel) (by omega) (by omega)) (a_top b) hw)
