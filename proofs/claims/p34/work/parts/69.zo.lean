theorem rk_1 {s r : pS} {md : Nat → Int} {wx wm : Int → Int → Int} {U C se hour : Int} {n : Nat} (m1 : md n = 1) (m2 : md se.toNat = 1) (hk : s.kd n ≠ -1) (hk2 : s.kd se.toNat ≠ -1) (he : s.en n = 0) (he2 : s.en se.toNat = 0) (a2 : r.ii n = s.ii n) (a4 : r.en n = 0) (a42 : r.en se.toNat = 0) (a8 : r.kd n = s.kd n) (a82 : r.kd se.toNat = s.kd se.toNat) (a9 : r.pl n = s.pl n) (b12 : r.so (tp s n) = s.so (tp s n)) (b122 : r.so (tp s se.toNat) = s.so (tp s se.toNat)) (b9 : r.pl (tp s se.toNat) = s.pl (tp s se.toNat)) (et : tp r n = tp s n) (et2 : tp r se.toNat = tp s se.toNat) (w1 : s.ii n = -5 ∨ 0 ≤ s.ii n) (w2 : 0 ≤ s.so (tp s n) ∧ s.so (tp s n) ≤ 1) (w22 : 0 ≤ s.so (tp s se.toNat) ∧ s.so (tp s se.toNat) ≤ 1) (hl : hel r ((se.toNat : Nat) : Int) = hel s ((se.toNat : Nat) : Int)) (zz : qwi r (n : Int) = qwi s (n : Int)) (z : 0 ≤ qwi s (n : Int) ∧ qwi s (n : Int) ≤ 1) : rea r md wm U C 1 n se hour = obj s wx U C 1 n se hour := by
  have ef : fit r U C se.toNat = fit s U C se.toNat := by
    unfold fit
    rw [a82]
  rw [ob_k1 rfl ⟨hk, hk2⟩ (by omega), rea_u, a4, a42, m1, m2, a8, a82, a2, et, et2, b12, b122, a9, b9, ef, hl, zz]
  have eo : oPk s U C n se.toNat = if s.kd se.toNat ≠ s.kd n + 1 then 4 else if 0 ≤ s.ii n then 5 else if s.so (tp s n) = 1 ∨ s.so (tp s se.toNat) = 1 then 6 else if s.pl (tp s n) ≠ s.pl (tp s se.toNat) ∨ fit s U C se.toNat ≤ hel s ((se.toNat : Nat) : Int) then 7 else 0 := rfl
  clear hk hk2 m1 m2 a2 a4 a42 a8 a82 a9 b12 b122 b9 et et2 ef hl zz he he2
  rw [if_neg (by omega), if_neg (by omega), if_neg (by omega)]
  if c4 : s.kd se.toNat ≠ s.kd n + 1 then
    rw [if_pos ⟨rfl, c4⟩]
    rw [if_pos c4] at eo
    rw [eo, if_neg (by omega)]
  else
    rw [if_neg (fun q => c4 q.2)]
    rw [if_neg c4] at eo
    rcases w1 with v | v
    · rw [if_neg (by omega)]
      rw [if_neg (by omega), top_e v] at eo
      rw [top_e v] at w2 ⊢
      if c6 : s.so n = 1 ∨ s.so (tp s se.toNat) = 1 then
        rw [if_pos (by omega)]
        rw [if_pos c6] at eo
        rw [eo, if_neg (by omega)]
      else
        rw [if_neg (by omega), if_neg (by omega)]
        rw [if_neg c6] at eo
        if c7 : s.pl n ≠ s.pl (tp s se.toNat) ∨ fit s U C se.toNat ≤ hel s ((se.toNat : Nat) : Int) then
          rw [if_pos ⟨rfl, c7⟩]
          rw [if_pos c7] at eo
          rw [eo, if_neg (by omega)]
        else
          rw [if_neg (fun q => c7 q.2)]
          rw [if_neg c7] at eo
          rw [eo, if_neg (by omega), if_neg (by omega), if_neg (by omega)]
          if c : qwi s (n : Int) = 1 then rw [if_pos (by omega), if_pos ⟨rfl, c⟩]
          else rw [if_neg (by omega), if_neg (by omega), if_neg (by omega)]
    · rw [if_pos (by omega)]
      rw [if_pos v] at eo
      rw [eo, if_neg (by omega)]
/-- both refuse alike -/
theorem rea_obj {P : Int} {s r : pS} {md : Nat → Int} {wx wm : Int → Int → Int} {U C ac se hour : Int} {n : Nat} (h : wRS s r md) (hw : wfS P s) (hy : wyS P wx wm) (hn : n < 40) (ha : 0 ≤ ac ∧ ac ≤ 10) (h1 : ac = 1 → 0 ≤ se ∧ se < 40) (h5 : (ac = 5 ∨ ac = 6) → 0 ≤ se ∧ se < P) (hh : 0 ≤ hour ∧ hour ≤ 999) : rea r md wm U C ac n se hour = obj s wx U C ac n se hour := by
  have hd := wf_dpt hw
  obtain ⟨a1, a2, a3, a4, a5, a6, a7⟩ := h n hn
  obtain ⟨c1, c2, c3, c4, c5, c6, c7⟩ := hw n hn
  if q0 : ac = 0 then
    rw [rea_u, if_pos q0, ob_0 q0]
    rcases a1 with ⟨z1, z2⟩ | ⟨z1, z2⟩
    · rw [if_pos z1, z2]
    · rw [if_neg z1, z2]
  else
    if k : s.kd n = -1 then
      have m0 : md n = 0 := (a1.resolve_right (fun z => z.1 k)).2
      rw [rea_u, if_neg q0, if_pos (Or.inl m0)]
      if q1 : ac = 1 then rw [ob_2p q1 (Or.inl k)]
      else rw [ob_2 ⟨q0, q1⟩ k]
    else
      have m1 : md n = 1 := (a1.resolve_left (fun z => k z.1)).2
      if q1 : ac = 1 then
        subst q1
        have hs := h1 rfl
        obtain ⟨x1, x2, x3, x4, x5, x6, x7⟩ := h se.toNat (by omega)
        obtain ⟨y1, y2, y3, y4, y5, y6, y7⟩ := hw se.toNat (by omega)
        if k2 : s.kd se.toNat = -1 then
          have m0 : md se.toNat = 0 := (x1.resolve_right (fun z => z.1 k2)).2
          rw [rea_u, if_neg q0, if_pos (Or.inr ⟨rfl, m0⟩), ob_2p rfl (Or.inr k2)]
        else
          have m2 : md se.toNat = 1 := (x1.resolve_left (fun z => k2 z.1)).2
          if e : s.en n = 1 ∨ s.en se.toNat = 1 then
            rw [ob_3p rfl ⟨k, k2⟩ e, rea_u, if_neg q0, if_neg (by omega), if_pos (by omega)]
          else
            have e1 : s.en n = 0 := by have := c1.2.2.1; omega
            have e2 : s.en se.toNat = 0 := by have := y1.2.2.1; omega
            obtain ⟨t1, t2, t3, t4⟩ := tp_ok hw hn k e1
            obtain ⟨u1, u2, u3, u4⟩ := tp_ok hw (show se.toNat < 40 by omega) k2 e2
            obtain ⟨b1, b2, b3, b4, b5, b6, b7⟩ := h (tp s n) t1
            obtain ⟨d1, d2, d3, d4, d5, d6, d7⟩ := h (tp s se.toNat) u1
            exact rk_1 m1 m2 k k2 e1 e2 a2 (a4.trans e1) (x4.trans e2) (a6 k).1 (x6 k2).1 (a6 k).2.1 (b7 t3).2 (d7 u3).2 (d6 u2).2.1 (tp_cg h hd hn) (tp_cg h hd (by omega)) ((dpt_1 hd hn).imp id (fun z => z.1)) (hw (tp s n) t1).1.2.1 (hw (tp s se.toNat) u1).1.2.1 (hel_cg h) (qwi_cg h hd) ei_b
      else
        if e : s.en n = 1 then
          rw [ob_3 ⟨q0, q1⟩ k e, rea_u, if_neg q0, if_neg (by omega), if_pos (by omega)]
        else
          have e1 : s.en n = 0 := by have := c1.2.2.1; omega
          clear a1 a3 a6 a7 c3 c4 c5 c6 c7
          rcases (show ac = 2 ∨ ac = 3 ∨ ac = 4 ∨ ac = 5 ∨ ac = 6 ∨ ac = 7 ∨ ac = 8 ∨ ac = 9 ∨ ac = 10 by omega) with rfl | rfl | rfl | rfl | rfl | rfl | rfl | rfl | rfl
          · exact ro_2 h hw hy hn k e1 hh
          · exact ro_3 h hw hy hn k e1 hh
          · exact ro_4 h hw hy hn k e1 hh
          · exact ro_5 h hw hy hn k e1 hh (h5 (by decide))
          · exact ro_6 h hw hy hn k e1 hh (h5 (by decide))
          · exact ro_7 h hw hy hn k e1 hh
          · exact ro_8 h hw hy hn k e1 hh
          · exact ro_9 h hw hy hn k e1 hh
          · exact ro_10 h hw hy hn k e1 hh
