/-! MESSAGES OF A LIST, RUN -/
/-- one message looked at, told for an hour -/
def stH (H : mzH) (hr : Nat → Int) (s : pS) (j : Nat) : pS := lkS s (wyX H) (fZ H 3 10).toInt (fZ H 3 11).toInt (roX H j 1) (roX H j 2).toNat (roX H j 3) (roX H j 4) (hr j)
def rnH (H : mzH) (hr : Nat → Int) (l : List Nat) : pS := l.foldl (stH H hr) s0X
theorem rnH_s {H : mzH} {hr : Nat → Int} {l : List Nat} {j : Nat} : rnH H hr (l ++ [j]) = stH H hr (rnH H hr l) j := by
  unfold rnH
  rw [List.foldl_append]
  rfl
/-- the verdict on a message behind a list -/
def vdH (H : mzH) (hr : Nat → Int) (s : pS) (j : Nat) : Int := obj s (wyX H) (fZ H 3 10).toInt (fZ H 3 11).toInt (roX H j 1) (roX H j 2).toNat (roX H j 3) (hr j)
theorem rnH_cg {H : mzH} {hr hr2 : Nat → Int} : ∀ {l : List Nat}, (∀ j, j ∈ l → hr j = hr2 j) → rnH H hr l = rnH H hr2 l := by
  intro l
  have g : ∀ (l : List Nat) (s : pS), (∀ j, j ∈ l → hr j = hr2 j) → l.foldl (stH H hr) s = l.foldl (stH H hr2) s := by
    intro l
    induction l with
    | nil => intro s _; rfl
    | cons a l ih =>
      intro s h
      rw [List.foldl_cons, List.foldl_cons, show stH H hr s a = stH H hr2 s a by unfold stH; rw [h a (List.mem_cons_self ..)]]
      exact ih _ (fun j hj => h j (List.mem_cons_of_mem _ hj))
  exact g l s0X
/-- all rows are in order -/
def gdY (H : mzH) : Prop := ((0 ≤ (fZ H 25 2).toInt ∧ (fZ H 25 2).toInt ≤ 60) ∧ (fZ H 25 2).toInt = (fZ H 3 9).toInt ∧ (∀ i, aZ H 26 i = aZ H 6 i)) ∧ (∀ q, q < (fZ H 25 2).toInt.toNat → odX H q < (fZ H 25 2).toInt.toNat) ∧ ∀ j : Nat, j < (fZ H 25 2).toInt.toNat → rwO 8 (roX H) (hoX H) j
theorem rn_wf {H : mzH} {hr : Nat → Int} (h : ∀ j : Nat, j < (fZ H 25 2).toInt.toNat → rwO 8 (roX H) (hoX H) j) (hb : ∀ j, j < (fZ H 25 2).toInt.toNat → 0 ≤ hr j ∧ hr j ≤ 999) : ∀ l : List Nat, (∀ j, j ∈ l → j < (fZ H 25 2).toInt.toNat) → wfS 8 (rnH H hr l) := by
  have g : ∀ (l : List Nat) (s : pS), wfS 8 s → (∀ j, j ∈ l → j < (fZ H 25 2).toInt.toNat) → wfS 8 (l.foldl (stH H hr) s) := by
    intro l
    induction l with
    | nil => intro s hs _; exact hs
    | cons a l ih =>
      intro s hs hl
      rw [List.foldl_cons]
      have ha := hl a (List.mem_cons_self ..)
      obtain ⟨k1, k2, k3, k4, k5, k6⟩ := h a ha
      exact ih _ (f_lk hs (by omega) k1 k3 k4 (hb a ha) k6) (fun j hj => hl j (List.mem_cons_of_mem _ hj))
  exact fun l hl => g l s0X wf_0 hl
/-! the reference, of any order -/
/-- the book is the same, the hours are hours -/
def tkQ (H A : mzH) : Prop := kpM H A ∧ (∀ i, aZ A 2 i = aZ H 2 i) ∧ ∀ q : Nat, (q : Int) < (aZ H 2 2).toInt → 0 ≤ hoM A q ∧ hoM A q ≤ 999
theorem tkQ_kp {H B A : mzH} (k : kpM H B) (t : tkQ B A) : tkQ H A := by
  obtain ⟨t1, t2, t3⟩ := t
  exact ⟨kpM_t k t1, fun i => (t2 i).trans (k.1 2 (by decide) i), fun q hq => t3 q (by rw [k.1 2 (by decide)]; exact hq)⟩
