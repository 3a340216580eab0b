/-! THE TWO WORLDS -/
/-- a world of the class is in order; P places -/
def wfS (P : Int) (s : pS) : Prop := ∀ n, n < 40 → bts s n ∧ (-1 ≤ s.kd n ∧ s.kd n ≤ 2) ∧ (s.ii n = -5 ∨ (0 ≤ s.ii n ∧ s.ii n < 40 ∧ 0 ≤ s.kd n ∧ s.kd (s.ii n).toNat = s.kd n + 1 ∧ s.en n = 0 ∧ s.en (s.ii n).toNat = 0)) ∧ (s.kd n = -1 → s.en n = 0 ∧ s.he n = 0) ∧ (0 ≤ s.la n ∧ s.la n ≤ 999) ∧ (s.kd n ≠ -1 → 0 ≤ s.pl n ∧ s.pl n < P) ∧ (s.en n = 1 → s.he n = 0)
/-- the reference's world is the class's -/
def wRS (s r : pS) (md : Nat → Int) : Prop := ∀ n, n < 40 → ((s.kd n = -1 ∧ md n = 0) ∨ (s.kd n ≠ -1 ∧ md n = 1)) ∧ r.ii n = s.ii n ∧ r.se n = s.se n ∧ r.en n = s.en n ∧ r.he n = s.he n ∧ (s.kd n ≠ -1 → r.kd n = s.kd n ∧ r.pl n = s.pl n ∧ r.la n = s.la n) ∧ (s.en n = 0 → r.op n = s.op n ∧ r.so n = s.so n)
theorem wf_dpt {P : Int} {s : pS} (h : wfS P s) : dpt s := fun n hn => by
  obtain ⟨_, _, h3, _⟩ := h n hn
  rcases h3 with h3 | ⟨a1, a2, a3, a4, _⟩
  · exact Or.inl h3
  · refine Or.inr ⟨a1, a2, ?_⟩
    obtain ⟨_, k2, k3, _⟩ := h (s.ii n).toNat (by omega)
    rcases k3 with k3 | ⟨b1, b2, b3, b4, _⟩
    · exact Or.inl k3
    · refine Or.inr ⟨b1, b2, ?_⟩
      obtain ⟨_, l2, l3, _⟩ := h (s.ii (s.ii n).toNat).toNat (by omega)
      rcases l3 with l3 | ⟨c1, c2, c3, c4, _⟩
      · exact l3
      · obtain ⟨_, m2, _⟩ := h (s.ii (s.ii (s.ii n).toNat).toNat).toNat (by omega)
        omega
theorem dpt_cg {s r : pS} {md : Nat → Int} (h : wRS s r md) (hd : dpt s) : dpt r := fun n hn => by
  have e1 := (h n hn).2.1
  rcases hd n hn with k | ⟨k1, k2, k3⟩
  · exact Or.inl (by omega)
  · have e2 := (h (s.ii n).toNat (by omega)).2.1
    rw [e1]
    refine Or.inr ⟨k1, k2, ?_⟩
    rw [e2]
    rcases k3 with k3 | ⟨k3, k4, k5⟩
    · exact Or.inl k3
    · have e3 := (h (s.ii (s.ii n).toNat).toNat (by omega)).2.1
      refine Or.inr ⟨k3, k4, ?_⟩
      rw [e3]
      exact k5
theorem tp_cg {s r : pS} {md : Nat → Int} {n : Nat} (h : wRS s r md) (hd : dpt s) (hn : n < 40) : tp r n = tp s n := by
  have e1 := (h n hn).2.1
  unfold tp
  rw [e1]
  if q : s.ii n < 0 then rw [if_pos q, if_pos q]
  else
    have d := dpt_1 hd hn
    rw [if_neg q, if_neg q, (h (s.ii n).toNat (by omega)).2.1]
theorem inn_cg {s r : pS} {md : Nat → Int} {n : Nat} {o : Int} (h : wRS s r md) (hd : dpt s) (hn : n < 40) : inn r n o = inn s n o := by
  have e1 := (h n hn).2.1
  unfold inn
  rw [e1]
  if q : s.ii n < 0 then rw [if_neg (by omega), if_neg (by omega)]
  else
    have d := dpt_1 hd hn
    rw [(h (s.ii n).toNat (by omega)).2.1]
theorem cnt_cg {p q : Nat → Prop} [DecidablePred p] [DecidablePred q] : ∀ {n : Nat}, (∀ x, x < n → (p x ↔ q x)) → cnt p n = cnt q n
  | 0, _ => rfl
  | n + 1, h => by
    unfold cnt
    rw [cnt_cg (n := n) (fun x hx => h x (by omega))]
    if c : p n then rw [if_pos c, if_pos ((h n (by omega)).mp c)]
    else rw [if_neg c, if_neg (fun z => c ((h n (by omega)).mpr z))]
theorem exi_cg {p q : Nat → Prop} [DecidablePred p] [DecidablePred q] : ∀ {n : Nat}, (∀ x, x < n → (p x ↔ q x)) → exi p n = exi q n
  | 0, _ => rfl
  | n + 1, h => by
    unfold exi
    rw [exi_cg (n := n) (fun x hx => h x (by omega))]
    if c : p n then rw [if_pos c, if_pos ((h n (by omega)).mp c)]
    else rw [if_neg c, if_neg (fun z => c ((h n (by omega)).mpr z))]
theorem hel_cg {s r : pS} {md : Nat → Int} {m : Int} (h : wRS s r md) : hel r m = hel s m := cnt_cg (fun x hx => by rw [(h x hx).2.1])
theorem qwi_cg {s r : pS} {md : Nat → Int} {m : Int} (h : wRS s r md) (hd : dpt s) : qwi r m = qwi s m := exi_cg (fun x hx => by
  unfold qwP
  rw [(h x hx).2.2.2.2.1, inn_cg h hd hx])
/-- the topmost one of what is made and not ended is made, not ended, in none -/
theorem tp_ok {P : Int} {s : pS} {n : Nat} (h : wfS P s) (hn : n < 40) (hm : s.kd n ≠ -1) (he : s.en n = 0) : tp s n < 40 ∧ s.kd (tp s n) ≠ -1 ∧ s.en (tp s n) = 0 ∧ s.ii (tp s n) = -5 := by
  have hd := wf_dpt h
  obtain ⟨_, _, h3, _⟩ := h n hn
  unfold tp
  if q : s.ii n < 0 then
    rw [if_pos q]
    exact ⟨hn, hm, he, by omega⟩
  else
    rw [if_neg q]
    rcases h3 with h3 | ⟨a1, a2, a3, a4, a5, a6⟩
    · omega
    · obtain ⟨_, _, k3, _⟩ := h (s.ii n).toNat (by omega)
      if q2 : s.ii (s.ii n).toNat < 0 then
        rw [if_pos q2]
        exact ⟨by omega, by omega, a6, by omega⟩
      else
        rw [if_neg q2]
        rcases k3 with k3 | ⟨b1, b2, b3, b4, b5, b6⟩
        · omega
        · have d := hd n hn
          exact ⟨by omega, by omega, b6, by omega⟩
/-- the ways alike -/
def wyS (P : Int) (wx wm : Int → Int → Int) : Prop := ∀ a b : Int, a ≠ b → (0 ≤ a ∧ a < P) → (0 ≤ b ∧ b < P) → ((wx a b = -2 ∧ wm a b = 100000) ∨ (wx a b = wm a b ∧ 0 ≤ wm a b ∧ wm a b ≤ 25344))
theorem soo_cg {P : Int} {s r : pS} {md : Nat → Int} {wx wm : Int → Int → Int} {t : Nat} {to hour : Int} (h : wRS s r md) (hw : wfS P s) (hy : wyS P wx wm) (ht : t < 40 ∧ s.kd t ≠ -1) (hto : 0 ≤ to ∧ to < P) (hh : 0 ≤ hour ∧ hour ≤ 999) : soM r wm t to hour = soo s wx t to hour := by
  obtain ⟨_, _, _, _, _, e, _⟩ := h t ht.1
  obtain ⟨e1, e2, e3⟩ := e ht.2
  obtain ⟨_, _, _, _, la, pl, _⟩ := hw t ht.1
  have pl := pl ht.2
  unfold soM soo
  rw [e2, e3]
  if q : s.pl t = to then rw [if_pos q, if_pos q]
  else
    rw [if_neg q, if_neg q]
    have y := hy (s.pl t) to q pl hto
    if z : wx (s.pl t) to = -2 ∨ hour - s.la t < wx (s.pl t) to then rw [if_pos z, if_pos (by omega)]
    else rw [if_neg z, if_neg (by omega)]
