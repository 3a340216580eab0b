/-! WHAT IS KEPT OF THE TWO TO BLAME, OVER CALLS -/
theorem tT_kw {H B : mzH} (k : kpW H B) {p q : Nat} : tT B p q = tT H p q := by
  unfold tT
  rw [rfL_kw k, (row_kw k).1, (k 25 (by decide)).1]
theorem blT_kw {H B : mzH} {p q : Nat} {a b c : Int} (k : kpW H B) (h : blT H p q a b c) : blT B p q a b c := by
  have e : odX B = odX H := (row_kw k).1
  have m1 : mnX B = mnX H := by
    funext x y
    unfold mnX
    rw [e]
  have m2 : mxX B = mxX H := by
    funext x y
    unfold mxX
    rw [e]
  have m3 : tT B = tT H := by
    funext x y
    exact tT_kw k
  unfold blT at *
  rw [m1, m2, m3, (k 25 (by decide)).1]
  exact h
theorem btK_kw {H B : mzH} (k : kpW H B) (m6 : fZ B 54 6 = fZ H 54 6) (m9 : fZ B 54 9 = fZ H 54 9) (m10 : fZ B 54 10 = fZ H 54 10) (m11 : fZ B 54 11 = fZ H 54 11) (h : btK H H) : btK B B := fun e => by
  rw [m6] at e
  have z := h e
  rw [(k 25 (by decide)).1, m9, m10, m11]
  exact blT_kw k z
theorem btK_2 {H B : mzH} (k : kpX H B) (h : btK H B) : btK B B := fun e => by
  have z := h e
  rw [(k 25 (by decide)).1]
  exact blT_kw (kpW_X k) z
/-- the course is right, what is kept of the two to blame, too -/
def cvT (H : mzH) : Prop := cvX H ∧ btK H H
theorem cvT_p {H : mzH} (h : cvP H) : cvT H := ⟨h.1, fun e => by
  rw [h.2.2] at e
  exact absurd e (by decide)⟩
theorem cvT_k {H B : mzH} (k : kpX H B) (m : kp54 H B) (h : cvT H) : cvT B := ⟨cvX_kp k h.1, btK_kw (kpW_X k) (m 6) (m 9) (m 10) (m 11) h.2⟩
theorem cvT_3 {H B : mzH} (k : kpX H B) (m6 : fZ B 54 6 = fZ H 54 6) (m9 : fZ B 54 9 = fZ H 54 9) (m10 : fZ B 54 10 = fZ H 54 10) (m11 : fZ B 54 11 = fZ H 54 11) (h : cvT H) : cvT B := ⟨cvX_kp k h.1, btK_kw (kpW_X k) m6 m9 m10 m11 h.2⟩
theorem cvT_2 {H B : mzH} (k : kpX H B) (m : btK H B) (h : cvT H) : cvT B := ⟨cvX_kp k h.1, btK_2 k m⟩
/-- all but those at spots p and q -/
theorem fl_wp {t : Nat → Nat} {p q : Nat} (hpq : p < q) : ∀ m, q < m → (∀ x y, x < m → y < m → x ≠ y → t x ≠ t y) → (olF m t).filter (fun j : Nat => decide (¬ (j : Int) = (t p : Int) ∧ ¬ (j : Int) = (t q : Int))) = bhL (bhL (olF p t) t (p + 1) q) t (q + 1) m
  | 0, h, _ => absurd h (Nat.not_lt_zero _)
  | m + 1, h, inj => by
    if c : q = m then
      subst c
      rw [fl_n (by rw [decide_eq_true_eq]; exact fun y => y.2 rfl), bh_0 (Nat.le_refl _)]
      have z := fl_wo (t := t) (s := p) q hpq (fun x hx hn => inj x p (by omega) (by omega) hn)
      unfold bhL
      rw [← z]
      refine List.filter_congr (fun j hj => ?_)
      obtain ⟨x, hx, rfl⟩ := olF_mem.mp hj
      have d := inj x q (by omega) (by omega) (by omega)
      exact decide_eq_decide.mpr ⟨fun y => y.1, fun y => ⟨y, by omega⟩⟩
    else
      have z := fl_wp hpq m (by omega) (fun x y hx hy hn => inj x y (by omega) (by omega) hn)
      have d1 := inj m p (by omega) (by omega) (by omega)
      have d2 := inj m q (by omega) (by omega) (by omega)
      rw [fl_y (by rw [decide_eq_true_eq]; omega), z, bh_s (by omega)]
theorem tT_eq {H : mzH} {p q : Nat} (cv : cvX H) (hp : p < q) (hq : q < (fZ H 25 2).toInt.toNat) : tT H p q = rfL H (hoX H) ((olF (fZ H 25 2).toInt.toNat (odX H)).filter (fun j : Nat => decide (¬ (j : Int) = mnX H p q ∧ ¬ (j : Int) = mxX H p q))) := by
  have inj : ∀ x y, x < (fZ H 25 2).toInt.toNat → y < (fZ H 25 2).toInt.toNat → x ≠ y → odX H x ≠ odX H y := fun x y hx hy hn e => by
    have e9 := cv.1
    rw [e9] at hx hy
    rcases Nat.lt_or_gt_of_ne hn with z | z
    · exact od_inj cv hy z e
    · exact od_inj cv hx z e.symm
  have k := fl_wp (t := odX H) hp _ hq inj
  unfold tT
  rw [← k]
  refine congrArg (rfL H (hoX H)) (List.filter_congr (fun j hj => decide_eq_decide.mpr ?_))
  if c : (odX H p : Int) ≤ (odX H q : Int) then
    have e1 : mnX H p q = (odX H p : Int) := if_pos c
    have e2 : mxX H p q = (odX H q : Int) := if_pos c
    rw [e1, e2]
  else
    have e1 : mnX H p q = (odX H q : Int) := if_neg c
    have e2 : mxX H p q = (odX H p : Int) := if_neg c
    rw [e1, e2]
    exact ⟨fun y => ⟨y.2, y.1⟩, fun y => ⟨y.2, y.1⟩⟩
/-- the spots of two numbers, in their order -/
theorem mn_sp {H : mzH} {p q : Nat} (cv : cvX H) (h : p < q) (hq : (q : Int) < (fZ H 3 9).toInt) : ∃ i j : Nat, i < j ∧ j < (fZ H 25 2).toInt.toNat ∧ mnX H i j = (p : Int) ∧ mxX H i j = (q : Int) := by
  obtain ⟨s, s1, s2⟩ := sp_ex (k := (p : Int)) cv ⟨by omega, by omega⟩
  obtain ⟨r, r1, r2⟩ := sp_ex (k := (q : Int)) cv ⟨by omega, by omega⟩
  rw [Int.toNat_natCast] at s2 r2
  have ne : s ≠ r := fun z => by
    subst z
    omega
  rcases Nat.lt_or_gt_of_ne ne with z | z
  · have c : (odX H s : Int) ≤ (odX H r : Int) := by omega
    refine ⟨s, r, z, r1, ?_, ?_⟩
    · rw [show mnX H s r = (odX H s : Int) from if_pos c, s2]
    · rw [show mxX H s r = (odX H r : Int) from if_pos c, r2]
  · have c : ¬ (odX H r : Int) ≤ (odX H s : Int) := by omega
    refine ⟨r, s, z, s1, ?_, ?_⟩
    · rw [show mnX H r s = (odX H s : Int) from if_neg c, s2]
    · rw [show mxX H r s = (odX H r : Int) from if_neg c, r2]
/-- the numbers at two spots, in their order -/
theorem mn_nu {H : mzH} {N x y : Nat} (cv : cvX H) (h : x < y) (hy : y < N) (hN : N = (fZ H 25 2).toInt.toNat) (hb : ∀ s, s < N → odX H s < N) : ∃ u v : Nat, u < v ∧ v < N ∧ (u : Int) = mnX H x y ∧ (v : Int) = mxX H x y := by
  have d : odX H x ≠ odX H y := od_inj cv (by
    rw [← cv.1]
    omega) h
  if c : (odX H x : Int) ≤ (odX H y : Int) then exact ⟨odX H x, odX H y, by omega, hb y hy, (if_pos c).symm, (if_pos c).symm⟩
  else exact ⟨odX H y, odX H x, by omega, hb x (by omega), (if_neg c).symm, (if_neg c).symm⟩
/-- the least, the first two: both sides mean them -/
theorem bt_uni {H : mzH} {w : Nat → Nat → Int} {N : Nat} {o1 o2 l u1 u2 l2 : Int} (cv : cvX H) (hN : N = (fZ H 25 2).toInt.toNat) (h2 : 2 ≤ N) (a : blT H N (N + 1) o1 o2 l) (b : bwT w N N (N + 1) u1 u2 l2) (e : ∀ x y, x < y → y < N → ∀ u v : Nat, (u : Int) = mnX H x y → (v : Int) = mxX H x y → tT H x y = w u v) (hb : ∀ s, s < N → odX H s < N) : o1 = u1 ∧ o2 = u2 ∧ l = l2 ∧ ¬ u1 = -1 := by
  have e9 : (fZ H 25 2).toInt = (fZ H 3 9).toInt := by rw [cv.1]
  unfold blT at a
  rw [← hN] at a
  rcases a with ⟨a1, _⟩ | ⟨x, y, x1, x2, x3, x4, x5, x6⟩
  · exact absurd (show prP N (N + 1) 0 1 from Or.inl (by omega)) (a1 0 1 (by omega) (by omega))
  · rcases b with ⟨b1, _⟩ | ⟨p, q, y1, y2, y0, y3, y4, y5, y6⟩
    · exact absurd (show prP N (N + 1) 0 1 from Or.inl (by omega)) (b1 0 1 (by omega) (by omega))
    · obtain ⟨i, j, i1, i2, m1, m2⟩ := mn_sp cv y1 (by omega)
      have k1 := x6 i j i1 (by omega) (Or.inl (by omega))
      rw [e i j i1 (by omega) p q m1.symm m2.symm, m1, m2] at k1
      obtain ⟨u, v, v1, v2, v3, v4⟩ := mn_nu cv x1 x2 hN hb
      have k2 := y6 u v v1 v2 (Or.inl (by omega))
      rw [e x y x1 x2 u v v3 v4] at x5
      rw [← v3] at x3
      rw [← v4] at x4
      refine ⟨by omega, by omega, by omega, by omega⟩
