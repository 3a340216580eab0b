/-! BOTH RUN ALIKE -/
/-- a message's row is in order -/
def rwO (P : Int) (ro : Nat → Nat → Int) (hr : Nat → Int) (k : Nat) : Prop := (0 ≤ ro k 1 ∧ ro k 1 ≤ 10) ∧ (0 ≤ ro k 2 ∧ ro k 2 < 40) ∧ (ro k 1 = 1 → 0 ≤ ro k 3 ∧ ro k 3 < 40) ∧ ((ro k 1 = 0 ∨ ro k 1 = 5 ∨ ro k 1 = 6 ∨ ro k 1 = 8) → 0 ≤ ro k 3 ∧ ro k 3 < P) ∧ (0 ≤ hr k ∧ hr k ≤ 999) ∧ (ro k 1 = 0 → 0 ≤ ro k 4 ∧ ro k 4 ≤ 2)
theorem wf_0 {P : Int} : wfS P s0X := fun n _ => ⟨(show ((0 : Int) ≤ 0 ∧ (0 : Int) ≤ 1) ∧ ((0 : Int) ≤ 0 ∧ (0 : Int) ≤ 1) ∧ ((0 : Int) ≤ 0 ∧ (0 : Int) ≤ 1) ∧ ((0 : Int) ≤ 0 ∧ (0 : Int) ≤ 1) by decide), (show (-1 : Int) ≤ -1 ∧ (-1 : Int) ≤ 2 by decide), Or.inl rfl, fun _ => ⟨rfl, rfl⟩, (show (0 : Int) ≤ 0 ∧ (0 : Int) ≤ 999 by decide), fun h => absurd rfl h, fun h => absurd (show (0 : Int) = 1 from h) (by decide)⟩
theorem wR_0 {r : pS} {m : Nat → Int} (h : clR r m) : wRS s0X r m := fun n hn => by
  obtain ⟨h1, h2, h3, h4, h5, h6, h7⟩ := h n hn
  exact ⟨Or.inl ⟨rfl, h1⟩, h2, h3, h7, h5, fun k => absurd rfl k, fun _ => ⟨h4, h6⟩⟩
theorem q_fold {P U C : Int} {wx wm : Int → Int → Int} {ro : Nat → Nat → Int} {od : Nat → Nat} {hr : Nat → Int} {r0 : pS} {m0 : Nat → Int} (hy : wyS P wx wm) (hc : clR r0 m0) : ∀ p, (∀ q, q < p → rwO P ro hr (od q)) → wRS (fC wx U C ro od hr p) (fR wm U C ro od hr r0 m0 p).1 (fR wm U C ro od hr r0 m0 p).2 ∧ wfS P (fC wx U C ro od hr p)
  | 0, _ => ⟨wR_0 hc, wf_0⟩
  | p + 1, h => by
    obtain ⟨i1, i2⟩ := q_fold (U := U) (C := C) hy hc p (fun q hq => h q (by omega))
    obtain ⟨k1, k2, k3, k4, k5, k6⟩ := h p (by omega)
    exact ⟨q_step i1 i2 hy (by omega) k1 k3 (fun z => k4 (by omega)) k5 (fun z => by have := k6 z; omega), f_lk i2 (by omega) k1 k3 k4 k5 k6⟩
theorem lk_ki {s : pS} {wy : Int → Int → Int} {U C ac se ki ki2 h : Int} {n : Nat} (e : ac = 0 → ki = ki2) : lkS s wy U C ac n se ki h = lkS s wy U C ac n se ki2 h := by
  if z : ac = 0 then rw [e z]
  else
    unfold lkS cO
    rw [if_neg z, if_neg z]
theorem fC_cg {U C : Int} {wx : Int → Int → Int} {ro ro2 : Nat → Nat → Int} {od od2 : Nat → Nat} {hr hr2 : Nat → Int} : ∀ p, (∀ q, q < p → od q = od2 q ∧ ro (od q) 1 = ro2 (od q) 1 ∧ ro (od q) 2 = ro2 (od q) 2 ∧ ro (od q) 3 = ro2 (od q) 3 ∧ (ro2 (od q) 1 = 0 → ro (od q) 4 = ro2 (od q) 4) ∧ hr (od q) = hr2 (od q)) → fC wx U C ro od hr p = fC wx U C ro2 od2 hr2 p
  | 0, _ => rfl
  | p + 1, h => by
    obtain ⟨e, e1, e2, e3, e4, e5⟩ := h p (by omega)
    unfold fC
    rw [fC_cg p (fun q hq => h q (by omega)), e1, e2, e3, e5, ← e]
    exact lk_ki e4
/-- where all are in, the two orders are one -/
theorem ord2_all {I hr : Nat → Int} : ∀ n, (∀ q, q < n → I q = 1) → ord2 I hr n = (n, ordF hr n)
  | 0, _ => rfl
  | n + 1, h => by
    unfold ord2
    rw [if_neg (by rw [h n (by omega)]; decide), ord2_all n (fun q hq => h q (by omega))]
    rfl
/-- what both rest on, when a question is asked -/
def wrl (Hx Hm : mzH) (c : pB) : Prop := cvX Hx ∧ bkX Hx 3 c ∧ bkW Hm c ∧ bOk c ∧ wyS 8 (wyX Hx) (wyM Hm)
