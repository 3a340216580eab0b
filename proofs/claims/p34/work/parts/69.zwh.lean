/-! MESSAGES OF A LIST, RUN -/
/-- one message looked at, told for an hour -/
def stH (H : mzH) (hr : Nat → Int) (s : pS) (j : Nat) : pS := lkS s (wyX H) (fZ H 3 10).toInt (fZ H 3 11).toInt (roX H j 1) (roX H j 2).toNat (roX H j 3) (roX H j 4) (hr j)
def rnH (H : mzH) (hr : Nat → Int) (l : List Nat) : pS := l.foldl (stH H hr) s0X
theorem rnH_s {H : mzH} {hr : Nat → Int} {l : List Nat} {j : Nat} : rnH H hr (l ++ [j]) = stH H hr (rnH H hr l) j := by
  unfold rnH
  rw [List.foldl_append]
  rfl
/-- the verdict on a message behind a list -/
def vdH (H : mzH) (hr : Nat → Int) (s : pS) (j : Nat) : Int := obj s (wyX H) (fZ H 3 10).toInt (fZ H 3 11).toInt (roX H j 1) (roX H j 2).toNat (roX H j 3) (hr j)
theorem fX_rn {H : mzH} : ∀ p, fX H p = rnH H (hoX H) (olF p (odX H))
  | 0 => rfl
  | p + 1 => by
    rw [olF_s, rnH_s, ← fX_rn p]
    rfl
theorem rnH_cg {H : mzH} {hr hr2 : Nat → Int} : ∀ {l : List Nat}, (∀ j, j ∈ l → hr j = hr2 j) → rnH H hr l = rnH H hr2 l := by
  intro l
  have g : ∀ (l : List Nat) (s : pS), (∀ j, j ∈ l → hr j = hr2 j) → l.foldl (stH H hr) s = l.foldl (stH H hr2) s := by
    intro l
    induction l with
    | nil => intro s _; rfl
    | cons a l ih =>
      intro s h
      rw [List.foldl_cons, List.foldl_cons, show stH H hr s a = stH H hr2 s a by unfold stH; rw [h a (List.mem_cons_self ..)]]
      exact ih _ (fun j hj => h j (List.mem_cons_of_mem _ hj))
  exact g l s0X
/-- all rows are in order -/
def gdY (H : mzH) : Prop := ((0 ≤ (fZ H 25 2).toInt ∧ (fZ H 25 2).toInt ≤ 60) ∧ (fZ H 25 2).toInt = (fZ H 3 9).toInt ∧ (∀ i, aZ H 26 i = aZ H 6 i)) ∧ (∀ q, q < (fZ H 25 2).toInt.toNat → odX H q < (fZ H 25 2).toInt.toNat) ∧ ∀ j : Nat, j < (fZ H 25 2).toInt.toNat → rwO 8 (roX H) (hoX H) j
theorem rn_wf {H : mzH} {hr : Nat → Int} (h : ∀ j : Nat, j < (fZ H 25 2).toInt.toNat → rwO 8 (roX H) (hoX H) j) (hb : ∀ j, j < (fZ H 25 2).toInt.toNat → 0 ≤ hr j ∧ hr j ≤ 999) : ∀ l : List Nat, (∀ j, j ∈ l → j < (fZ H 25 2).toInt.toNat) → wfS 8 (rnH H hr l) := by
  have g : ∀ (l : List Nat) (s : pS), wfS 8 s → (∀ j, j ∈ l → j < (fZ H 25 2).toInt.toNat) → wfS 8 (l.foldl (stH H hr) s) := by
    intro l
    induction l with
    | nil => intro s hs _; exact hs
    | cons a l ih =>
      intro s hs hl
      rw [List.foldl_cons]
      have ha := hl a (List.mem_cons_self ..)
      obtain ⟨k1, k2, k3, k4, k5, k6⟩ := h a ha
      exact ih _ (f_lk hs (by omega) k1 k3 k4 (hb a ha) k6) (fun j hj => hl j (List.mem_cons_of_mem _ hj))
  exact fun l hl => g l s0X wf_0 hl
theorem gdY_x {H : mzH} (h : gdY H) : gdX H := by
  obtain ⟨h0, h1, h2⟩ := h
  refine ⟨fun q hq => ?_, fun q hq => ?_⟩
  · obtain ⟨k1, k2, k3, k4, k5, k6⟩ := h2 (odX H q) (h1 q hq)
    exact ⟨k5, k1⟩
  · rw [fX_rn]
    have w := rn_wf (hr := hoX H) h2 (fun j hj => (h2 j hj).2.2.2.2.1) (olF q (odX H)) (fun j hj => by
      obtain ⟨x, hx, rfl⟩ := olF_mem.mp hj
      exact h1 x (by omega))
    exact ⟨wf_la w, wf_kd w⟩
theorem gdY_of {Hx Hm : mzH} {c : pB} (h : wrl Hx Hm c) : gdY Hx := by
  obtain ⟨o1, o2⟩ := wrx_o h
  obtain ⟨n1, n2, n3⟩ := wrx_n h
  refine ⟨⟨by omega, by rw [h.1.1], h.1.2.1⟩, fun q hq => ?_, fun j hj => o2 j (by omega)⟩
  have := o1 q (by omega)
  omega
/-! the reference, of any order -/
/-- the book is the same, the hours are hours -/
def tkQ (H A : mzH) : Prop := kpM H A ∧ (∀ i, aZ A 2 i = aZ H 2 i) ∧ ∀ q : Nat, (q : Int) < (aZ H 2 2).toInt → 0 ≤ hoM A q ∧ hoM A q ≤ 999
theorem fC_ol {wy : Int → Int → Int} {U C : Int} {ro : Nat → Nat → Int} {od : Nat → Nat} {hr : Nat → Int} : ∀ p, fC wy U C ro od hr p = (olF p od).foldl (fun s j => lkS s wy U C (ro j 1) (ro j 2).toNat (ro j 3) (ro j 4) (hr j)) s0X
  | 0 => rfl
  | p + 1 => by
    rw [olF_s, List.foldl_append, ← fC_ol p]
    rfl
/-- the rows alike -/
theorem wrl_r {Hx Hm A : mzH} {c : pB} (h : wrl Hx Hm c) (t : tkQ Hm A) : (aZ A 2 2).toInt = c.N ∧ (∀ k : Nat, (k : Int) < c.N → roX Hx k 1 = roM A k 1 ∧ roX Hx k 2 = roM A k 2 ∧ roX Hx k 3 = roM A k 3 ∧ (roM A k 1 = 0 → roX Hx k 4 = roM A k 4) ∧ rwO 8 (roM A) (hoM A) k) ∧ (∀ q, q < cnM A → (odM A q : Int) < c.N) := by
  obtain ⟨v, b, w, o, y⟩ := h
  obtain ⟨t1, t2, t3⟩ := t
  have nm : (aZ Hm 2 2).toInt = c.N := w.2.2.1
  have bx := b.2.2.2.2.2.2.2.1
  have bm := w.2.2.2.2.2.2.2.1
  have nA : (aZ A 2 2).toInt = c.N := by rw [t2]; exact nm
  refine ⟨nA, fun k hk => ?_, fun q hq => ?_⟩
  · obtain ⟨x0, x1, x2, x3, x4⟩ := bx k hk
    obtain ⟨m0, m1, m2, m3, m4⟩ := bm k hk
    have y1 : roM A k 1 = c.ac k := by show (aZ A 2 (69 + 5 * k + 1)).toInt = _; rw [t2]; exact m1
    have y2 : roM A k 2 = c.fi k := by show (aZ A 2 (69 + 5 * k + 2)).toInt = _; rw [t2]; exact m2
    have y3 : roM A k 3 = c.se k := by show (aZ A 2 (69 + 5 * k + 3)).toInt = _; rw [t2]; exact m3
    have y4 : roM A k 4 = if c.ac k = 0 then c.ki k else -1 := by
      show (aZ A 2 (69 + 5 * k + 4)).toInt = _
      rw [t2]
      exact m4
    obtain ⟨o1, o2, o3⟩ := o
    obtain ⟨a1, a2, a3, a4, a5, a6⟩ := o3 k hk
    refine ⟨by rw [y1]; exact x1, by rw [y2]; exact x2, by rw [y3]; exact x3, ?_, ?_⟩
    · rw [y4, y1]
      intro z
      rw [if_pos z]
      exact x4
    · unfold rwO
      rw [y1, y2, y3, y4]
      exact ⟨a1, a2, a3, a4, t3 k (by omega), fun z => by rw [if_pos z]; exact a6 z⟩
  · have := ((ord2_ok (I := inM A) (hr := hoM A) (aZ A 2 2).toInt.toNat).2 (odM A q)).mp ⟨q, hq, rfl⟩
    have z := o.1.1
    omega
theorem wrl_l {Hx Hm A G : mzH} {c : pB} (h : wrl Hx Hm c) (t : tkQ Hm A) (hc : clR (rgM G) (mdM G)) : ∀ p, p ≤ cnM A → wRS (rnH Hx (hoM A) (olF p (odM A))) (fM A G p).1 (fM A G p).2 ∧ wfS 8 (rnH Hx (hoM A) (olF p (odM A))) := fun p hp => by
  obtain ⟨n, r, ol⟩ := wrl_r h t
  have eU : (fZ Hx 3 10).toInt = (aZ A 2 3).toInt := by rw [t.2.1]; exact h.2.1.2.2.2.1.trans h.2.2.1.2.2.2.1.symm
  have eC : (fZ Hx 3 11).toInt = (aZ A 2 4).toInt := by rw [t.2.1]; exact h.2.1.2.2.2.2.1.trans h.2.2.1.2.2.2.2.1.symm
  have e : rnH Hx (hoM A) (olF p (odM A)) = fC (wyX Hx) (aZ A 2 3).toInt (aZ A 2 4).toInt (roM A) (odM A) (hoM A) p := by
    have e1 : rnH Hx (hoM A) (olF p (odM A)) = fC (wyX Hx) (fZ Hx 3 10).toInt (fZ Hx 3 11).toInt (roX Hx) (odM A) (hoM A) p := by
      rw [fC_ol]
      rfl
    rw [e1, eU, eC]
    exact fC_cg p (fun q hq => by
      obtain ⟨z1, z2, z3, z4, z5⟩ := r (odM A q) (ol q (by omega))
      exact ⟨rfl, z1, z2, z3, z4, rfl⟩)
  have y : wyS 8 (wyX Hx) (wyM A) := by rw [wyM_kp t.1]; exact h.2.2.2.2
  rw [e]
  exact q_fold y hc p (fun q hq => (r (odM A q) (ol q (by omega))).2.2.2.2)
/-- all are run by the last hour -/
theorem st_all {A : mzH} {p : Nat} (hg : gdM A) (s : stM A 999 p) : p = cnM A := by
  obtain ⟨s1, s2, s3⟩ := s
  rcases s3 with z | z
  · exact z
  · if e : p = cnM A then exact e
    else
      have y : hqM A p ≤ 999 := (hg.1 p (by omega)).2
      omega
