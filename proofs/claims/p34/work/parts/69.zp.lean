/-! BOTH WORLDS CHANGE ALIKE -/
section
variable {s r : pS} {md : Nat → Int} {n : Nat} {v : Int}
theorem q_ii (h : wRS s r md) : wRS (sII s n v) (sII r n v) md := fun x hx => by
  obtain ⟨a1, a2, a3, a4, a5, a6, a7⟩ := h x hx
  refine ⟨a1, ?_, a3, a4, a5, a6, a7⟩
  show (if x = n then v else r.ii x) = if x = n then v else s.ii x
  rw [a2]
theorem q_pl (h : wRS s r md) : wRS (sPl s n v) (sPl r n v) md := fun x hx => by
  obtain ⟨a1, a2, a3, a4, a5, a6, a7⟩ := h x hx
  refine ⟨a1, a2, a3, a4, a5, fun k => ⟨(a6 k).1, ?_, (a6 k).2.2⟩, a7⟩
  show (if x = n then v else r.pl x) = if x = n then v else s.pl x
  rw [(a6 k).2.1]
theorem q_la (h : wRS s r md) : wRS (sLa s n v) (sLa r n v) md := fun x hx => by
  obtain ⟨a1, a2, a3, a4, a5, a6, a7⟩ := h x hx
  refine ⟨a1, a2, a3, a4, a5, fun k => ⟨(a6 k).1, (a6 k).2.1, ?_⟩, a7⟩
  show (if x = n then v else r.la x) = if x = n then v else s.la x
  rw [(a6 k).2.2]
theorem q_se (h : wRS s r md) : wRS (sSe s n v) (sSe r n v) md := fun x hx => by
  obtain ⟨a1, a2, a3, a4, a5, a6, a7⟩ := h x hx
  refine ⟨a1, a2, ?_, a4, a5, a6, a7⟩
  show (if x = n then v else r.se x) = if x = n then v else s.se x
  rw [a3]
theorem q_op (h : wRS s r md) : wRS (sOp s n v) (sOp r n v) md := fun x hx => by
  obtain ⟨a1, a2, a3, a4, a5, a6, a7⟩ := h x hx
  refine ⟨a1, a2, a3, a4, a5, a6, fun k => ⟨?_, (a7 k).2⟩⟩
  show (if x = n then v else r.op x) = if x = n then v else s.op x
  rw [(a7 k).1]
theorem q_so (h : wRS s r md) : wRS (sSo s n v) (sSo r n v) md := fun x hx => by
  obtain ⟨a1, a2, a3, a4, a5, a6, a7⟩ := h x hx
  refine ⟨a1, a2, a3, a4, a5, a6, fun k => ⟨(a7 k).1, ?_⟩⟩
  show (if x = n then v else r.so x) = if x = n then v else s.so x
  rw [(a7 k).2]
theorem q_he (h : wRS s r md) : wRS (sHe s n v) (sHe r n v) md := fun x hx => by
  obtain ⟨a1, a2, a3, a4, a5, a6, a7⟩ := h x hx
  refine ⟨a1, a2, a3, a4, ?_, a6, a7⟩
  show (if x = n then v else r.he x) = if x = n then v else s.he x
  rw [a5]
theorem l_ii (h : wRS s r md) (hi : s.ii n = -5) : wRS (sII s n (-5)) r md := fun x hx => by
  obtain ⟨a1, a2, a3, a4, a5, a6, a7⟩ := h x hx
  refine ⟨a1, ?_, a3, a4, a5, a6, a7⟩
  show r.ii x = if x = n then -5 else s.ii x
  rw [a2]
  if e : x = n then
    subst e
    rw [if_pos rfl, hi]
  else rw [if_neg e]
theorem l_pl (h : wRS s r md) (hp : s.pl n = v) : wRS (sPl s n v) r md := fun x hx => by
  obtain ⟨a1, a2, a3, a4, a5, a6, a7⟩ := h x hx
  refine ⟨a1, a2, a3, a4, a5, fun k => ⟨(a6 k).1, ?_, (a6 k).2.2⟩, a7⟩
  show r.pl x = if x = n then v else s.pl x
  rw [(a6 k).2.1]
  if e : x = n then
    subst e
    rw [if_pos rfl, hp]
  else rw [if_neg e]
theorem r_op (h : wRS s r md) (ho : s.op n = 1) : wRS s (sOp r n 1) md := fun x hx => by
  obtain ⟨a1, a2, a3, a4, a5, a6, a7⟩ := h x hx
  refine ⟨a1, a2, a3, a4, a5, a6, fun k => ⟨?_, (a7 k).2⟩⟩
  show (if x = n then 1 else r.op x) = s.op x
  rw [(a7 k).1]
  if e : x = n then
    subst e
    rw [if_pos rfl, ho]
  else rw [if_neg e]
theorem loo_tp (hd : dpt s) (hn : n < 40) (h : s.ii (loo s n) = -5) : loo s n = tp s n := by
  have k := hd n hn
  unfold loo at h ⊢
  unfold tp
  if c1 : s.ii n < 0 ∨ s.op (s.ii n).toNat = 1 then
    rw [if_pos c1] at h ⊢
    rw [if_pos (show s.ii n < 0 by omega)]
  else
    rw [if_neg c1] at h ⊢
    rw [if_neg (show ¬ s.ii n < 0 by omega)]
    if c2 : s.ii (s.ii n).toNat < 0 ∨ s.op (s.ii (s.ii n).toNat).toNat = 1 then
      rw [if_pos c2] at h ⊢
      rw [if_pos (show s.ii (s.ii n).toNat < 0 by omega)]
    else
      rw [if_neg c2] at h ⊢
      rw [if_neg (show ¬ s.ii (s.ii n).toNat < 0 by omega)]
theorem loo_cg (h : wRS s r md) (hd : dpt s) (hn : n < 40) (hw : ∀ x, x < 40 → s.ii x = -5 ∨ s.en (s.ii x).toNat = 0) : loo r n = loo s n := by
  have e1 := (h n hn).2.1
  unfold loo
  rw [e1]
  rcases dpt_1 hd hn with d | ⟨d1, d2⟩
  · rw [if_pos (by omega), if_pos (by omega)]
  · have o1 := ((h (s.ii n).toNat (by omega)).2.2.2.2.2.2 ((hw n hn).resolve_left (by omega))).1
    have e2 := (h (s.ii n).toNat (by omega)).2.1
    rw [o1, e2]
    if c1 : s.ii n < 0 ∨ s.op (s.ii n).toNat = 1 then rw [if_pos c1, if_pos c1]
    else
      rw [if_neg c1, if_neg c1]
      rcases dpt_1 hd (show (s.ii n).toNat < 40 by omega) with f | ⟨f1, f2⟩
      · rw [if_pos (by omega), if_pos (by omega)]
      · have o2 := ((h (s.ii (s.ii n).toNat).toNat (by omega)).2.2.2.2.2.2 ((hw (s.ii n).toNat (by omega)).resolve_left (by omega))).1
        rw [o2]
end
theorem q_st {s r : pS} {md : Nat → Int} {n : Nat} {p h' : Int} (h : wRS s r md) (hi : s.ii n = -5) : wRS (sSt s n p h') (lie r n p h') md := q_la (q_pl (l_ii h hi))
theorem q_mk {s r : pS} {md : Nat → Int} {n : Nat} {ki p h' : Int} (h : wRS s r md) (hi : s.ii n = -5) (hk : ki ≠ -1) : wRS (sSt (sKd s n ki) n p h') (lie (sKd r n ki) n p h') (upi md n 1) := fun x hx => by
  obtain ⟨a1, a2, a3, a4, a5, a6, a7⟩ := h x hx
  if e : x = n then
    subst e
    refine ⟨Or.inr ⟨?_, ?_⟩, ?_, a3, a4, a5, fun _ => ⟨?_, ?_, ?_⟩, a7⟩
    · show (if x = x then ki else s.kd x) ≠ -1
      rw [if_pos rfl]
      exact hk
    · show (if x = x then 1 else md x) = 1
      rw [if_pos rfl]
    · show r.ii x = if x = x then -5 else s.ii x
      rw [if_pos rfl, a2, hi]
    · show (if x = x then ki else r.kd x) = if x = x then ki else s.kd x
      rw [if_pos rfl, if_pos rfl]
    · show (if x = x then p else r.pl x) = if x = x then p else s.pl x
      rw [if_pos rfl, if_pos rfl]
    · show (if x = x then h' else r.la x) = if x = x then h' else s.la x
      rw [if_pos rfl, if_pos rfl]
  else
    have k1 : (sSt (sKd s n ki) n p h').kd x = s.kd x := by show (if x = n then ki else s.kd x) = _; rw [if_neg e]
    rw [show upi md n 1 x = md x by unfold upi; rw [if_neg e], k1]
    refine ⟨a1, ?_, a3, a4, a5, fun k => ⟨?_, ?_, ?_⟩, a7⟩
    · show r.ii x = if x = n then -5 else s.ii x
      rw [if_neg e, a2]
    · show (if x = n then ki else r.kd x) = s.kd x
      rw [if_neg e, (a6 k).1]
    · show (if x = n then p else r.pl x) = if x = n then p else s.pl x
      rw [if_neg e, if_neg e, (a6 k).2.1]
    · show (if x = n then h' else r.la x) = if x = n then h' else s.la x
      rw [if_neg e, if_neg e, (a6 k).2.2]
theorem q_out {s r : pS} {md : Nat → Int} {n : Nat} {p h' : Int} (h : wRS s r md) (hn : n < 40) (hi : 0 ≤ s.ii n) : wRS (sSt (opA s n) n p h') (cou r n p h') md := by
  have e1 := (h n hn).2.1
  unfold opA cou
  rw [if_neg (by omega), e1]
  exact q_la (q_pl (q_ii (q_op h)))
theorem q_scan {P : Int} {s r : pS} {md : Nat → Int} {n : Nat} {p h' : Int} (h : wRS s r md) (hw : wfS P s) (hn : n < 40) (hk : s.kd n ≠ -1) (he : s.en n = 0) : wRS (sSt (sSe s n h') (if (sSe s n h').pl (tp s n) = p then tp s n else loo (sSe s n h') n) p h') (scn r n p h') md := by
  have hd := wf_dpt hw
  have h1 : wRS (sSe s n h') (sSe r n h') md := q_se h
  have hd1 : dpt (sSe s n h') := fun x hx => hd x hx
  obtain ⟨t1, t2, t3, t4⟩ := tp_ok hw hn hk he
  have et : tp (sSe r n h') n = tp s n := (tp_cg (s := sSe s n h') (r := sSe r n h') h1 hd1 hn).trans (show tp (sSe s n h') n = tp s n from rfl)
  have ep : (sSe r n h').pl (tp s n) = (sSe s n h').pl (tp s n) := ((h1 (tp s n) t1).2.2.2.2.2.1 t2).2.1
  have hen : ∀ x, x < 40 → s.ii x = -5 ∨ s.en (s.ii x).toNat = 0 := fun x hx => by
    rcases (hw x hx).2.2.1 with z | z
    · exact Or.inl z
    · exact Or.inr z.2.2.2.2.2
  have el : loo (sSe r n h') n = loo (sSe s n h') n := loo_cg h1 hd1 hn hen
  if c : (sSe s n h').pl (tp s n) = p then
    rw [if_pos c, scn_1 (by rw [et, ep]; exact c), et]
    exact q_la (l_pl (l_ii h1 t4) c)
  else
    rw [if_neg c]
    have lb : loo (sSe s n h') n < 40 := by
      have d1 := dpt_1 hd1 hn
      unfold loo
      split
      · exact hn
      · split
        · omega
        · have d2 := dpt_1 hd1 (n := ((sSe s n h').ii n).toNat) (by omega)
          omega
    have ei := (h1 (loo (sSe s n h') n) lb).2.1
    if d : (sSe s n h').ii (loo (sSe s n h') n) = -5 then
      rw [scn_3 (by rw [et, ep]; exact c) (by rw [el, ei]; exact d), et, loo_tp hd1 hn d]
      exact q_st h1 t4
    else
      rw [scn_2 (by rw [et, ep]; exact c) (by rw [el, ei]; exact d), el]
      have ho : (sSe s n h').op ((sSe s n h').ii (loo (sSe s n h') n)).toNat = 1 := by
        have k := hd1 n hn
        generalize hs1 : sSe s n h' = q at *
        unfold loo at d ⊢
        if c1 : q.ii n < 0 ∨ q.op (q.ii n).toNat = 1 then
          rw [if_pos c1] at d ⊢
          omega
        else
          rw [if_neg c1] at d ⊢
          if c2 : q.ii (q.ii n).toNat < 0 ∨ q.op (q.ii (q.ii n).toNat).toNat = 1 then
            rw [if_pos c2] at d ⊢
            omega
          else
            rw [if_neg c2] at d ⊢
            omega
      unfold cou
      rw [ei]
      exact q_la (q_pl (q_ii (r_op h1 ho)))
