/-! THE VERDICTS OF BOTH, OF ALL MESSAGES -/
/-- a count over a list into which one is put -/
theorem cnt_ins {P : Nat → Prop} [DecidablePred P] {t : Nat → Nat} {k n sp : Nat} (hs : sp ≤ n) : ∀ m, m ≤ n + 1 → cnt (fun x => P (isr t k n sp x)) m = if m ≤ sp then cnt (fun x => P (t x)) m else cnt (fun x => P (t x)) (m - 1) + (if P k then 1 else 0)
  | 0, _ => by rw [if_pos (Nat.zero_le _)]; rfl
  | m + 1, h => by
    have ih := cnt_ins (P := P) (t := t) (k := k) hs m (by omega)
    show cnt (fun x => P (isr t k n sp x)) m + (if P (isr t k n sp m) then 1 else 0) = _
    rw [ih]
    if c1 : m + 1 ≤ sp then
      have e : isr t k n sp m = t m := by unfold isr; rw [if_pos (by omega)]
      rw [if_pos (by omega), if_pos c1, e]
      rfl
    else
      rw [if_neg c1]
      if c2 : m = sp then
        have e : isr t k n sp m = k := by unfold isr; rw [if_neg (by omega), if_pos c2]
        rw [if_pos (by omega), e]
        rfl
      else
        have e : isr t k n sp m = t (m - 1) := by unfold isr; rw [if_neg (by omega), if_neg c2, if_pos (by omega)]
        rw [if_neg (by omega), e]
        obtain ⟨q, rfl⟩ : ∃ q, m = q + 1 := ⟨m - 1, by omega⟩
        show cnt (fun x => P (t x)) q + _ + _ = cnt (fun x => P (t x)) q + _ + _
        show cnt (fun x => P (t x)) q + (if P k then 1 else 0) + (if P (t q) then 1 else 0) = cnt (fun x => P (t x)) q + (if P (t q) then 1 else 0) + (if P k then 1 else 0)
        omega
theorem cnt_ord {P : Nat → Prop} [DecidablePred P] {hr : Nat → Int} : ∀ n, cnt (fun x => P (ordF hr n x)) n = cnt P n
  | 0 => rfl
  | n + 1 => by
    have z := cnt_ins (P := P) (t := ordF hr n) (k := n) (n := n) (sp := posF hr (ordF hr n) n n) (posF_le n) (n + 1) (Nat.le_refl _)
    rw [if_neg (by have := posF_le (hr := hr) (t := ordF hr n) (k := n) n; omega)] at z
    show cnt (fun x => P (isr (ordF hr n) n n (posF hr (ordF hr n) n n) x)) (n + 1) = cnt P n + (if P n then 1 else 0)
    rw [z]
    show cnt (fun x => P (ordF hr n x)) n + _ = _
    rw [cnt_ord n]
/-- each message stands somewhere in the order -/
theorem ordF_sur {hr : Nat → Int} {n k : Nat} (h : k < n) : ∃ q, q < n ∧ ordF hr n q = k := by
  have e := ord2_all (I := fun _ => 1) (hr := hr) n (fun _ _ => rfl)
  obtain ⟨a1, a2⟩ := ord2_ok (I := fun _ => 1) (hr := hr) n
  rw [e] at a2
  exact (a2 k).mpr ⟨h, by decide⟩
theorem tkQ_W {Hx Hm A : mzH} {c : pB} (h : wrl Hx Hm c) (t : tkW Hm A) : tkQ Hm A := by
  obtain ⟨v, b, w, o, y⟩ := h
  obtain ⟨t1, t2, t3⟩ := t
  refine ⟨t1, t2, fun q hq => ?_⟩
  have n2 : (aZ Hm 2 2).toInt = c.N := w.2.2.1
  have e2 : (aZ Hm 2 (69 + 5 * q)).toInt = c.hr q := (w.2.2.2.2.2.2.2.1 q (by omega)).1
  unfold hoM
  rw [(t3 q hq).1, e2]
  exact (o.2.2 q (by omega)).2.2.2.2.1
