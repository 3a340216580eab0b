/-! THE VERDICTS OF BOTH, OF ALL MESSAGES -/
/-- a count over a list into which one is put -/
theorem cnt_ins {P : Nat → Prop} [DecidablePred P] {t : Nat → Nat} {k n sp : Nat} (hs : sp ≤ n) : ∀ m, m ≤ n + 1 → cnt (fun x => P (isr t k n sp x)) m = if m ≤ sp then cnt (fun x => P (t x)) m else cnt (fun x => P (t x)) (m - 1) + (if P k then 1 else 0)
  | 0, _ => by rw [if_pos (Nat.zero_le _)]; rfl
  | m + 1, h => by
    have ih := cnt_ins (P := P) (t := t) (k := k) hs m (by omega)
    show cnt (fun x => P (isr t k n sp x)) m + (if P (isr t k n sp m) then 1 else 0) = _
    rw [ih]
    if c1 : m + 1 ≤ sp then
      have e : isr t k n sp m = t m := by unfold isr; rw [if_pos (by omega)]
      rw [if_pos (by omega), if_pos c1, e]
      rfl
    else
      rw [if_neg c1]
      if c2 : m = sp then
        have e : isr t k n sp m = k := by unfold isr; rw [if_neg (by omega), if_pos c2]
        rw [if_pos (by omega), e]
        rfl
      else
        have e : isr t k n sp m = t (m - 1) := by unfold isr; rw [if_neg (by omega), if_neg c2, if_pos (by omega)]
        rw [if_neg (by omega), e]
        obtain ⟨q, rfl⟩ : ∃ q, m = q + 1 := ⟨m - 1, by omega⟩
        show cnt (fun x => P (t x)) q + _ + _ = cnt (fun x => P (t x)) q + _ + _
        show cnt (fun x => P (t x)) q + (if P k then 1 else 0) + (if P (t q) then 1 else 0) = cnt (fun x => P (t x)) q + (if P (t q) then 1 else 0) + (if P k then 1 else 0)
        omega
theorem cnt_ord {P : Nat → Prop} [DecidablePred P] {hr : Nat → Int} : ∀ n, cnt (fun x => P (ordF hr n x)) n = cnt P n
  | 0 => rfl
  | n + 1 => by
    have z := cnt_ins (P := P) (t := ordF hr n) (k := n) (n := n) (sp := posF hr (ordF hr n) n n) (posF_le n) (n + 1) (Nat.le_refl _)
    rw [if_neg (by have := posF_le (hr := hr) (t := ordF hr n) (k := n) n; omega)] at z
    show cnt (fun x => P (isr (ordF hr n) n n (posF hr (ordF hr n) n n) x)) (n + 1) = cnt P n + (if P n then 1 else 0)
    rw [z]
    show cnt (fun x => P (ordF hr n x)) n + _ = _
    rw [cnt_ord n]
/-- each message stands somewhere in the order -/
theorem ordF_sur {hr : Nat → Int} {n k : Nat} (h : k < n) : ∃ q, q < n ∧ ordF hr n q = k := by
  have e := ord2_all (I := fun _ => 1) (hr := hr) n (fun _ _ => rfl)
  obtain ⟨a1, a2⟩ := ord2_ok (I := fun _ => 1) (hr := hr) n
  rw [e] at a2
  exact (a2 k).mpr ⟨h, by decide⟩
theorem tkQ_W {Hx Hm A : mzH} {c : pB} (h : wrl Hx Hm c) (t : tkW Hm A) : tkQ Hm A := by
  obtain ⟨v, b, w, o, y⟩ := h
  obtain ⟨t1, t2, t3⟩ := t
  refine ⟨t1, t2, fun q hq => ?_⟩
  have n2 : (aZ Hm 2 2).toInt = c.N := w.2.2.1
  have e2 : (aZ Hm 2 (69 + 5 * q)).toInt = c.hr q := (w.2.2.2.2.2.2.2.1 q (by omega)).1
  unfold hoM
  rw [(t3 q hq).1, e2]
  exact (o.2.2 q (by omega)).2.2.2.2.1
/-- both refuse alike, of all messages -/
theorem wrl_v {Hx Hm A G : mzH} {c : pB} (h : wrl Hx Hm c) (t : tkW Hm A) (hc : clR (rgM G) (mdM G)) : (fZ Hx 25 2).toInt.toNat = cnM A ∧ (∀ q, q < cnM A → odX Hx q = odM A q ∧ vdX Hx q = rvM A G q) ∧ ∀ q, q < cnM A → odX Hx q = ordF (fun i => (aZ Hx 6 i).toInt) (cnM A) q := by
  obtain ⟨o1, o2, o3⟩ := wrl_o h t
  obtain ⟨n1, n2, n3⟩ := wrx_n h
  obtain ⟨x1, x2⟩ := wrx_o h
  have hv : ∀ q, q < cnM A → odX Hx q = ordF (fun i => (aZ Hx 6 i).toInt) (cnM A) q := fun q hq => by
    obtain ⟨v1, v2, v3⟩ := h.1
    have e9 : (fZ Hx 3 9).toInt.toNat = cnM A := by rw [← v1]; omega
    have z := v3 q (by omega)
    unfold odX
    rw [z, e9, Int.toNat_natCast]
  refine ⟨by omega, fun q hq => ⟨o1 q (by omega), ?_⟩, hv⟩
  rw [rv_vd h (tkQ_W h t) hc q hq]
  have g : ∀ p, p ≤ cnM A → olF p (odX Hx) = olF p (odM A) := fun p hp => by
    unfold olF
    refine List.map_congr_left (fun x hx => ?_)
    have := List.mem_range.mp hx
    exact o1 x (by omega)
  have k : (odM A q : Int) < c.N := by rw [← o1 q (by omega)]; exact x1 q (by omega)
  have e1 : rnH Hx (hoX Hx) (olF q (odX Hx)) = rnH Hx (hoM A) (olF q (odM A)) := by
    rw [g q (by omega)]
    refine rnH_cg (fun j hj => ?_)
    obtain ⟨x, hx, rfl⟩ := olF_mem.mp hj
    refine (o3 _ ?_).1
    rw [← o1 x (by omega)]
    exact x1 x (by omega)
  unfold vdX vdH
  rw [fX_rn, e1, o1 q (by omega), (o3 _ k).1]
/-- what is kept by messages -/
theorem wq_eq {Hx Hm A G : mzH} {c : pB} {wq : Nat → Int} (h : wrl Hx Hm c) (wh : whE Hx) (t : tkW Hm A) (hc : clR (rgM G) (mdM G)) (hw : ∀ x, x < cnM A → wq (odM A x) = rvM A G x) : ∀ k, k < cnM A → (aZ Hx 42 k).toInt = wq k := fun k hk => by
  obtain ⟨n, v, o⟩ := wrl_v h t hc
  obtain ⟨q, hq, e⟩ := ordF_sur (hr := fun i => (aZ Hx 6 i).toInt) hk
  have z := wh q (by omega)
  rw [o q hq, e, (v q hq).2, ← hw q hq, ← (v q hq).1, o q hq, e] at z
  exact z
