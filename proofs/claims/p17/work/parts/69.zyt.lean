/-! WHAT IS KEPT OF BLAME, OVER CALLS -/
theorem stH_kw {H B : mzH} (k : kpW H B) : stH B (hoX B) = stH H (hoX H) := by
  obtain ⟨e1, e2, e3⟩ := row_kw k
  funext s j
  obtain ⟨r1, r2, r3, r4⟩ := e3 j
  unfold stH
  rw [wyX_kw k, (k 3 (by decide)).1, (k 3 (by decide)).1, r1, r2, r3, r4, e2]
theorem vdH_kw {H B : mzH} (k : kpW H B) : vdH B (hoX B) = vdH H (hoX H) := by
  obtain ⟨e1, e2, e3⟩ := row_kw k
  funext s j
  obtain ⟨r1, r2, r3, r4⟩ := e3 j
  unfold vdH
  rw [wyX_kw k, (k 3 (by decide)).1, (k 3 (by decide)).1, r1, r2, r3, e2]
theorem rnH_kw {H B : mzH} (k : kpW H B) : rnH B (hoX B) = rnH H (hoX H) := by
  funext l
  unfold rnH
  rw [stH_kw k]
theorem vrH_kw {H B : mzH} (k : kpW H B) {l : List Nat} : vrH B (hoX B) l = vrH H (hoX H) l := by
  unfold vrH
  cases l.getLast? with
  | none => rfl
  | some j =>
    show vdH B (hoX B) (rnH B (hoX B) l.dropLast) j = vdH H (hoX H) (rnH H (hoX H) l.dropLast) j
    rw [vdH_kw k, rnH_kw k]
theorem rfL_kw {H B : mzH} (k : kpW H B) {l : List Nat} : rfL B (hoX B) l = rfL H (hoX H) l := by
  unfold rfL
  exact cnt_cg (fun q _ => by rw [vrH_kw k])
theorem tO_kw {H B : mzH} (k : kpW H B) {s : Nat} : tO B s = tO H s := by
  unfold tO
  rw [rfL_kw k, (row_kw k).1, (k 25 (by decide)).1]
theorem blB_kw {H B : mzH} {p : Nat} {o l : Int} (k : kpW H B) (h : blB H p o l) : blB B p o l := by
  rcases h with h | ⟨s, h1, h2, h3, h4⟩
  · exact Or.inl h
  · refine Or.inr ⟨s, h1, by rw [(row_kw k).1]; exact h2, by rw [tO_kw k]; exact h3, fun q hq => ?_⟩
    rw [tO_kw k, (row_kw k).1]
    exact h4 q hq
theorem blK_kw {H B : mzH} (k : kpW H B) (m5 : fZ B 54 5 = fZ H 54 5) (m7 : fZ B 54 7 = fZ H 54 7) (m8 : fZ B 54 8 = fZ H 54 8) (h : blK H H) : blK B B := fun e => by
  rw [m5] at e
  have z := h e
  rw [(k 25 (by decide)).1, m7, m8]
  exact blB_kw k z
theorem blK_2 {H B : mzH} (k : kpX H B) (h : blK H B) : blK B B := fun e => by
  have z := h e
  rw [(k 25 (by decide)).1]
  exact blB_kw (kpW_X k) z
/-- the course is right, what is kept of the one to blame, too -/
def cvB (H : mzH) : Prop := cvX H ∧ blK H H
theorem cvB_p {H : mzH} (h : cvP H) : cvB H := ⟨h.1, fun e => by
  rw [h.2.1] at e
  exact absurd e (by decide)⟩
theorem cvB_k {H B : mzH} (k : kpX H B) (m : kp54 H B) (h : cvB H) : cvB B := ⟨cvX_kp k h.1, blK_kw (kpW_X k) (m 5) (m 7) (m 8) h.2⟩
theorem cvB_3 {H B : mzH} (k : kpX H B) (m5 : fZ B 54 5 = fZ H 54 5) (m7 : fZ B 54 7 = fZ H 54 7) (m8 : fZ B 54 8 = fZ H 54 8) (h : cvB H) : cvB B := ⟨cvX_kp k h.1, blK_kw (kpW_X k) m5 m7 m8 h.2⟩
theorem cvB_2 {H B : mzH} (k : kpX H B) (m : blK H B) (h : cvB H) : cvB B := ⟨cvX_kp k h.1, blK_2 k m⟩
/-- all but the one at spot s -/
theorem fl_wo {t : Nat → Nat} {s : Nat} : ∀ m, s < m → (∀ q, q < m → q ≠ s → t q ≠ t s) → (olF m t).filter (fun j : Nat => decide (¬ (j : Int) = (t s : Int))) = olF s t ++ (olF m t).drop (s + 1)
  | 0, h, _ => absurd h (Nat.not_lt_zero _)
  | m + 1, h, inj => by
    if c : s = m then
      subst c
      rw [fl_n (by rw [decide_eq_true_eq]; exact fun y => y rfl), olF_d0 (Nat.le_refl _), List.append_nil]
      refine List.filter_eq_self.mpr (fun j hj => ?_)
      obtain ⟨q, hq, rfl⟩ := olF_mem.mp hj
      rw [decide_eq_true_eq]
      have z := inj q (by omega) (by omega)
      omega
    else
      have z := inj m (by omega) (fun y => c y.symm)
      rw [fl_y (by rw [decide_eq_true_eq]; omega), fl_wo m (by omega) (fun q hq hn => inj q (by omega) hn), olF_dr (by omega), List.append_assoc]
theorem tO_eq {H : mzH} {s : Nat} (cv : cvX H) (hs : s < (fZ H 25 2).toInt.toNat) : tO H s = rfL H (hoX H) ((olF (fZ H 25 2).toInt.toNat (odX H)).filter (fun j : Nat => decide (¬ (j : Int) = (odX H s : Int)))) := by
  rw [fl_wo _ hs (fun q hq hn e => ?_)]
  · rfl
  · have e9 := cv.1
    rw [e9] at hs hq
    rcases Nat.lt_or_gt_of_ne hn with z | z
    · exact od_inj cv hs z e
    · exact od_inj cv hq z e.symm
/-- the least, the first: both sides mean one -/
theorem bl_uni {H : mzH} {w : Nat → Int} {N : Nat} {o l o2 l2 : Int} (cv : cvX H) (hN : (fZ H 25 2).toInt.toNat = N) (h0 : ¬ N = 0) (a : blB H N o l) (b : blW w N o2 l2) (e : ∀ s, s < N → tO H s = w (odX H s)) (hb : ∀ s, s < N → odX H s < N) : o = o2 ∧ l = l2 ∧ ¬ o2 = -1 := by
  subst hN
  rcases a with ⟨a1, _⟩ | ⟨s, a1, a2, a3, a4⟩
  · exact absurd a1 h0
  · rcases b with ⟨b1, _⟩ | ⟨k, b1, b2, b3, b4⟩
    · exact absurd b1 h0
    · have e9 := cv.1
      obtain ⟨q, q1, q2⟩ := sp_ex (k := (k : Int)) cv ⟨by omega, by rw [e9] at b1; omega⟩
      rw [Int.toNat_natCast] at q2
      have x := a4 q q1
      have y := b4 (odX H s) (hb s a1)
      rw [e q q1, q2] at x
      have es := e s a1
      omega
theorem rfL_ol {H : mzH} {hr : Nat → Int} {t : Nat → Nat} : ∀ n, rfL H hr (olF n t) = cnt (fun x => ¬ vdH H hr (rnH H hr (olF x t)) (t x) = 0) n
  | 0 => rfl
  | n + 1 => by
    rw [olF_s, rfL_s, rfL_ol n]
    show _ = cnt (fun x => ¬ vdH H hr (rnH H hr (olF x t)) (t x) = 0) n + (if ¬ vdH H hr (rnH H hr (olF n t)) (t n) = 0 then 1 else 0)
    if z : vdH H hr (rnH H hr (olF n t)) (t n) = 0 then rw [if_pos z, if_neg (fun y => y z)]
    else rw [if_neg z, if_pos z]
theorem rfL_cg {H : mzH} {hr hr2 : Nat → Int} {l : List Nat} (h : ∀ j, j ∈ l → hr j = hr2 j) : rfL H hr l = rfL H hr2 l := by
  unfold rfL
  refine cnt_cg (fun q hq => ?_)
  have ht : ∀ j, j ∈ l.take (q + 1) → hr j = hr2 j := fun j hj => h j (List.mem_of_mem_take hj)
  unfold vrH
  cases e : (l.take (q + 1)).getLast? with
  | none => exact Iff.rfl
  | some j =>
    show ¬ vdH H hr (rnH H hr (l.take (q + 1)).dropLast) j = 0 ↔ ¬ vdH H hr2 (rnH H hr2 (l.take (q + 1)).dropLast) j = 0
    have e1 : rnH H hr (l.take (q + 1)).dropLast = rnH H hr2 (l.take (q + 1)).dropLast := rnH_cg (fun i hi => ht i ((List.dropLast_sublist _).subset hi))
    have e2 : hr j = hr2 j := ht j (List.mem_of_getLast? e)
    unfold vdH
    rw [e1, e2]
