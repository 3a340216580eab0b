/-! BOTH RUN ALIKE -/
/-- a message's row is in order -/
def rwO (P : Int) (ro : Nat → Nat → Int) (hr : Nat → Int) (k : Nat) : Prop := (0 ≤ ro k 1 ∧ ro k 1 ≤ 10) ∧ (0 ≤ ro k 2 ∧ ro k 2 < 40) ∧ (ro k 1 = 1 → 0 ≤ ro k 3 ∧ ro k 3 < 40) ∧ ((ro k 1 = 0 ∨ ro k 1 = 5 ∨ ro k 1 = 6 ∨ ro k 1 = 8) → 0 ≤ ro k 3 ∧ ro k 3 < P) ∧ (0 ≤ hr k ∧ hr k ≤ 999) ∧ (ro k 1 = 0 → 0 ≤ ro k 4 ∧ ro k 4 ≤ 2)
theorem wf_0 {P : Int} : wfS P s0X := fun n _ => ⟨(show ((0 : Int) ≤ 0 ∧ (0 : Int) ≤ 1) ∧ ((0 : Int) ≤ 0 ∧ (0 : Int) ≤ 1) ∧ ((0 : Int) ≤ 0 ∧ (0 : Int) ≤ 1) ∧ ((0 : Int) ≤ 0 ∧ (0 : Int) ≤ 1) by decide), (show (-1 : Int) ≤ -1 ∧ (-1 : Int) ≤ 2 by decide), Or.inl rfl, fun _ => ⟨rfl, rfl⟩, (show (0 : Int) ≤ 0 ∧ (0 : Int) ≤ 999 by decide), fun h => absurd rfl h, fun h => absurd (show (0 : Int) = 1 from h) (by decide)⟩
theorem wR_0 {r : pS} {m : Nat → Int} (h : clR r m) : wRS s0X r m := fun n hn => by
  obtain ⟨h1, h2, h3, h4, h5, h6, h7⟩ := h n hn
  exact ⟨Or.inl ⟨rfl, h1⟩, h2, h3, h7, h5, fun k => absurd rfl k, fun _ => ⟨h4, h6⟩⟩
theorem q_fold {P U C : Int} {wx wm : Int → Int → Int} {ro : Nat → Nat → Int} {od : Nat → Nat} {hr : Nat → Int} {r0 : pS} {m0 : Nat → Int} (hy : wyS P wx wm) (hc : clR r0 m0) : ∀ p, (∀ q, q < p → rwO P ro hr (od q)) → wRS (fC wx U C ro od hr p) (fR wm U C ro od hr r0 m0 p).1 (fR wm U C ro od hr r0 m0 p).2 ∧ wfS P (fC wx U C ro od hr p)
  | 0, _ => ⟨wR_0 hc, wf_0⟩
  | p + 1, h => by
    obtain ⟨i1, i2⟩ := q_fold (U := U) (C := C) hy hc p (fun q hq => h q (by omega))
    obtain ⟨k1, k2, k3, k4, k5, k6⟩ := h p (by omega)
    exact ⟨q_step i1 i2 hy (by omega) k1 k3 (fun z => k4 (by omega)) k5 (fun z => by have := k6 z; omega), f_lk i2 (by omega) k1 k3 k4 k5 k6⟩
theorem lk_ki {s : pS} {wy : Int → Int → Int} {U C ac se ki ki2 h : Int} {n : Nat} (e : ac = 0 → ki = ki2) : lkS s wy U C ac n se ki h = lkS s wy U C ac n se ki2 h := by
  if z : ac = 0 then rw [e z]
  else
    unfold lkS cO
    rw [if_neg z, if_neg z]
theorem fC_cg {U C : Int} {wx : Int → Int → Int} {ro ro2 : Nat → Nat → Int} {od od2 : Nat → Nat} {hr hr2 : Nat → Int} : ∀ p, (∀ q, q < p → od q = od2 q ∧ ro (od q) 1 = ro2 (od q) 1 ∧ ro (od q) 2 = ro2 (od q) 2 ∧ ro (od q) 3 = ro2 (od q) 3 ∧ (ro2 (od q) 1 = 0 → ro (od q) 4 = ro2 (od q) 4) ∧ hr (od q) = hr2 (od q)) → fC wx U C ro od hr p = fC wx U C ro2 od2 hr2 p
  | 0, _ => rfl
  | p + 1, h => by
    obtain ⟨e, e1, e2, e3, e4, e5⟩ := h p (by omega)
    unfold fC
    rw [fC_cg p (fun q hq => h q (by omega)), e1, e2, e3, e5, ← e]
    exact lk_ki e4
/-- where all are in, the two orders are one -/
theorem ord2_all {I hr : Nat → Int} : ∀ n, (∀ q, q < n → I q = 1) → ord2 I hr n = (n, ordF hr n)
  | 0, _ => rfl
  | n + 1, h => by
    unfold ord2
    rw [if_neg (by rw [h n (by omega)]; decide), ord2_all n (fun q hq => h q (by omega))]
    rfl
/-- what both rest on, when a question is asked -/
def wrl (Hx Hm : mzH) (c : pB) : Prop := cvX Hx ∧ bkX Hx 3 c ∧ bkW Hm c ∧ bOk c ∧ wyS 8 (wyX Hx) (wyM Hm)
theorem wrl_n {Hx Hm A : mzH} {c : pB} (h : wrl Hx Hm c) (t : tkW Hm A) : (aZ A 2 2).toInt = c.N ∧ (fZ Hx 25 2).toInt = c.N ∧ (aZ A 2 0).toInt = c.P ∧ (fZ Hx 3 7).toInt = c.P := by
  obtain ⟨v, b, w, o, y⟩ := h
  obtain ⟨v1, v2, v3⟩ := v
  refine ⟨by rw [t.2.1]; exact w.2.2.1, by rw [v1]; exact b.2.2.1, by rw [t.2.1]; exact w.1, b.1⟩
theorem wrl_o {Hx Hm A : mzH} {c : pB} (h : wrl Hx Hm c) (t : tkW Hm A) : (∀ q, q < c.N.toNat → odX Hx q = odM A q) ∧ cnM A = c.N.toNat ∧ (∀ k : Nat, (k : Int) < c.N → hoX Hx k = hoM A k ∧ roX Hx k 1 = roM A k 1 ∧ roX Hx k 2 = roM A k 2 ∧ roX Hx k 3 = roM A k 3 ∧ (roM A k 1 = 0 → roX Hx k 4 = roM A k 4) ∧ rwO 8 (roM A) (hoM A) k) := by
  obtain ⟨n1, n2, n3, n4⟩ := wrl_n h t
  obtain ⟨v, b, w, o, y⟩ := h
  obtain ⟨v1, v2, v3⟩ := v
  obtain ⟨t1, t2, t3⟩ := t
  have nm : (aZ Hm 2 2).toInt = c.N := w.2.2.1
  have bx := b.2.2.2.2.2.2.2.1
  have bm := w.2.2.2.2.2.2.2.1
  have nx : (fZ Hx 3 9).toInt = c.N := b.2.2.1
  have eh : ∀ k : Nat, (k : Int) < c.N → (aZ Hx 6 k).toInt = hoM A k := fun k hk => by
    have z1 : (aZ Hx 6 k).toInt = c.hr k := (bx k hk).1
    have z2 : (aZ Hm 2 (69 + 5 * k)).toInt = c.hr k := (bm k hk).1
    show _ = (aZ A 18 k).toInt
    rw [(t3 k (by omega)).1, z2, z1]
  have eo : ord2 (inM A) (hoM A) (aZ A 2 2).toInt.toNat = (c.N.toNat, ordF (hoM A) c.N.toNat) := by
    rw [n1]
    exact ord2_all _ (fun q hq => (t3 q (by omega)).2)
  refine ⟨fun q hq => ?_, ?_, fun k hk => ?_⟩
  · have z := v3 q (by rw [nx]; exact hq)
    unfold odX odM
    rw [eo, z, nx, ordF_cg (hr := fun i => (aZ Hx 6 i).toInt) (hs := hoM A) c.N.toNat (fun x hx => eh x (by omega))]
    exact Int.toNat_natCast _
  · unfold cnM
    rw [eo]
  · obtain ⟨x0, x1, x2, x3, x4⟩ := bx k hk
    obtain ⟨m0, m1, m2, m3, m4⟩ := bm k hk
    have y1 : roM A k 1 = c.ac k := by show (aZ A 2 (69 + 5 * k + 1)).toInt = _; rw [t2]; exact m1
    have y2 : roM A k 2 = c.fi k := by show (aZ A 2 (69 + 5 * k + 2)).toInt = _; rw [t2]; exact m2
    have y3 : roM A k 3 = c.se k := by show (aZ A 2 (69 + 5 * k + 3)).toInt = _; rw [t2]; exact m3
    have y4 : roM A k 4 = if c.ac k = 0 then c.ki k else -1 := by
      show (aZ A 2 (69 + 5 * k + 4)).toInt = _
      rw [t2]
      exact m4
    have yh : hoM A k = c.hr k := by rw [← eh k hk]; exact x0
    obtain ⟨o1, o2, o3⟩ := o
    obtain ⟨a1, a2, a3, a4, a5, a6⟩ := o3 k hk
    refine ⟨?_, ?_, ?_, ?_, ?_, ?_⟩
    · show (aZ Hx 26 k).toInt = _
      rw [v2 k]
      exact eh k hk
    · rw [y1]; exact x1
    · rw [y2]; exact x2
    · rw [y3]; exact x3
    · rw [y4, y1]
      intro z
      rw [if_pos z]
      exact x4
    · unfold rwO
      rw [y1, y2, y3, y4, yh]
      exact ⟨a1, a2, a3, a4, a5, fun z => by rw [if_pos z]; exact a6 z⟩
/-- the class's worlds by the reference's rows; what both have then -/
theorem wrl_f {Hx Hm A G : mzH} {c : pB} (h : wrl Hx Hm c) (t : tkW Hm A) (hc : clR (rgM G) (mdM G)) : ∀ p, p ≤ c.N.toNat → wRS (fX Hx p) (fM A G p).1 (fM A G p).2 ∧ wfS 8 (fX Hx p) := fun p hp => by
  obtain ⟨o1, o2, o3⟩ := wrl_o h t
  have ol : ∀ q, q < c.N.toNat → (odM A q : Int) < c.N := fun q hq => by
    have n1 := (wrl_n h t).1
    have e : odM A q = ordF (hoM A) c.N.toNat q := by
      unfold odM
      rw [n1, ord2_all (I := inM A) (hr := hoM A) c.N.toNat (fun x hx => (t.2.2 x (by have z : (aZ Hm 2 2).toInt = c.N := h.2.2.1.2.2.1; omega)).2)]
    have := ordF_lt (hr := hoM A) c.N.toNat hq
    omega
  have eU : (fZ Hx 3 10).toInt = (aZ A 2 3).toInt := by rw [t.2.1]; exact h.2.1.2.2.2.1.trans h.2.2.1.2.2.2.1.symm
  have eC : (fZ Hx 3 11).toInt = (aZ A 2 4).toInt := by rw [t.2.1]; exact h.2.1.2.2.2.2.1.trans h.2.2.1.2.2.2.2.1.symm
  have e : fX Hx p = fC (wyX Hx) (aZ A 2 3).toInt (aZ A 2 4).toInt (roM A) (odM A) (hoM A) p := by
    unfold fX
    rw [eU, eC]
    refine fC_cg p (fun q hq => ?_)
    obtain ⟨z0, z1, z2, z3, z4, z5⟩ := o3 (odX Hx q) (by rw [o1 q (by omega)]; exact ol q (by omega))
    exact ⟨o1 q (by omega), z1, z2, z3, z4, z0⟩
  have y : wyS 8 (wyX Hx) (wyM A) := by rw [wyM_kp t.1]; exact h.2.2.2.2
  rw [e]
  exact q_fold y hc p (fun q hq => (o3 (odM A q) (ol q (by omega))).2.2.2.2.2)
