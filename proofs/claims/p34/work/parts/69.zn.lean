theorem soo_b {s : pS} {wx : Int → Int → Int} {t : Nat} {to hour : Int} : soo s wx t to hour = 0 ∨ soo s wx t to hour = 1 := by
  unfold soo
  split
  · exact Or.inl rfl
  · split
    · exact Or.inr rfl
    · exact Or.inl rfl
theorem rk_2 {s r : pS} {md : Nat → Int} {wx wm : Int → Int → Int} {U C se hour : Int} {n : Nat} (m1 : md n = 1) (hk : s.kd n ≠ -1) (he : s.en n = 0) (a2 : r.ii n = s.ii n) (a4 : r.en n = 0) (a5 : r.he n = s.he n) (a8 : r.kd n = s.kd n) (a11 : r.op n = s.op n) (a12 : r.so n = s.so n) (b12 : r.so (tp s n) = s.so (tp s n)) (et : tp r n = tp s n) (w1 : s.ii n = -5 ∨ 0 ≤ s.ii n) (w2 : 0 ≤ s.so (tp s n) ∧ s.so (tp s n) ≤ 1) (w3 : 0 ≤ s.op n ∧ s.op n ≤ 1) (w4 : 0 ≤ s.he n ∧ s.he n ≤ 1) (w5 : 0 ≤ s.so n ∧ s.so n ≤ 1) (w6 : -1 ≤ s.kd n) : rea r md wm U C 2 n se hour = obj s wx U C 2 n se hour := by
  rw [ob_k2 rfl hk (by omega), rea_u, a4, m1, a2, et, b12]
  rcases (show s.ii n = -5 ∨ 0 ≤ s.ii n by omega) with v0 | v0 <;> rcases (show s.so (tp s n) = 0 ∨ s.so (tp s n) = 1 by omega) with v1 | v1 <;> (repeat (first | rw [if_pos (by omega)] | rw [if_neg (by omega)]))
theorem ro_2 {P : Int} {s r : pS} {md : Nat → Int} {wx wm : Int → Int → Int} {U C se hour : Int} {n : Nat} (h : wRS s r md) (hw : wfS P s) (hy : wyS P wx wm) (hn : n < 40) (hk : s.kd n ≠ -1) (he : s.en n = 0) (hh : 0 ≤ hour ∧ hour ≤ 999) : rea r md wm U C 2 n se hour = obj s wx U C 2 n se hour := by
  have hd := wf_dpt hw
  obtain ⟨t1, t2, t3, t4⟩ := tp_ok hw hn hk he
  obtain ⟨a1, a2, a3, a4, a5, a6, a7⟩ := h n hn
  obtain ⟨a8, a9, a10⟩ := a6 hk
  obtain ⟨a11, a12⟩ := a7 he
  obtain ⟨b1, b2, b3, b4, b5, b6, b7⟩ := h (tp s n) t1
  obtain ⟨b11, b12⟩ := b7 t3
  obtain ⟨c1, c2, c3, c4, c5, c6, c7⟩ := hw n hn
  obtain ⟨d1, d2, d3, d4, d5, d6, d7⟩ := hw (tp s n) t1
  exact rk_2 ((a1.resolve_left (fun z => hk z.1)).2) hk he a2 (a4.trans he) a5 a8 a11 a12 b12 (tp_cg h hd hn) ((dpt_1 hd hn).imp id (fun z => z.1)) d1.2.1 c1.1 c1.2.2.2 c1.2.1 c2.1
theorem rk_3 {s r : pS} {md : Nat → Int} {wx wm : Int → Int → Int} {U C se hour : Int} {n : Nat} (m1 : md n = 1) (hk : s.kd n ≠ -1) (he : s.en n = 0) (a2 : r.ii n = s.ii n) (a4 : r.en n = 0) (a5 : r.he n = s.he n) (a8 : r.kd n = s.kd n) (a11 : r.op n = s.op n) (a12 : r.so n = s.so n) (b12 : r.so (tp s n) = s.so (tp s n)) (et : tp r n = tp s n) (w1 : s.ii n = -5 ∨ 0 ≤ s.ii n) (w2 : 0 ≤ s.so (tp s n) ∧ s.so (tp s n) ≤ 1) (w3 : 0 ≤ s.op n ∧ s.op n ≤ 1) (w4 : 0 ≤ s.he n ∧ s.he n ≤ 1) (w5 : 0 ≤ s.so n ∧ s.so n ≤ 1) (w6 : -1 ≤ s.kd n) : rea r md wm U C 3 n se hour = obj s wx U C 3 n se hour := by
  rw [ob_k3 rfl hk (by omega), rea_u, a4, m1, et, b12, a2, a11, a8]
  rcases (show s.so (tp s n) = 0 ∨ s.so (tp s n) = 1 by omega) with v0 | v0 <;> rcases (show s.op n = 0 ∨ s.op n = 1 by omega) with v1 | v1 <;> rcases (show s.kd n = 0 ∨ 1 ≤ s.kd n by omega) with v2 | v2 <;> (repeat (first | rw [if_pos (by omega)] | rw [if_neg (by omega)]))
theorem ro_3 {P : Int} {s r : pS} {md : Nat → Int} {wx wm : Int → Int → Int} {U C se hour : Int} {n : Nat} (h : wRS s r md) (hw : wfS P s) (hy : wyS P wx wm) (hn : n < 40) (hk : s.kd n ≠ -1) (he : s.en n = 0) (hh : 0 ≤ hour ∧ hour ≤ 999) : rea r md wm U C 3 n se hour = obj s wx U C 3 n se hour := by
  have hd := wf_dpt hw
  obtain ⟨t1, t2, t3, t4⟩ := tp_ok hw hn hk he
  obtain ⟨a1, a2, a3, a4, a5, a6, a7⟩ := h n hn
  obtain ⟨a8, a9, a10⟩ := a6 hk
  obtain ⟨a11, a12⟩ := a7 he
  obtain ⟨b1, b2, b3, b4, b5, b6, b7⟩ := h (tp s n) t1
  obtain ⟨b11, b12⟩ := b7 t3
  obtain ⟨c1, c2, c3, c4, c5, c6, c7⟩ := hw n hn
  obtain ⟨d1, d2, d3, d4, d5, d6, d7⟩ := hw (tp s n) t1
  exact rk_3 ((a1.resolve_left (fun z => hk z.1)).2) hk he a2 (a4.trans he) a5 a8 a11 a12 b12 (tp_cg h hd hn) ((dpt_1 hd hn).imp id (fun z => z.1)) d1.2.1 c1.1 c1.2.2.2 c1.2.1 c2.1
theorem rk_4 {s r : pS} {md : Nat → Int} {wx wm : Int → Int → Int} {U C se hour : Int} {n : Nat} (m1 : md n = 1) (hk : s.kd n ≠ -1) (he : s.en n = 0) (a2 : r.ii n = s.ii n) (a4 : r.en n = 0) (a5 : r.he n = s.he n) (a8 : r.kd n = s.kd n) (a11 : r.op n = s.op n) (a12 : r.so n = s.so n) (b12 : r.so (tp s n) = s.so (tp s n)) (et : tp r n = tp s n) (w1 : s.ii n = -5 ∨ 0 ≤ s.ii n) (w2 : 0 ≤ s.so (tp s n) ∧ s.so (tp s n) ≤ 1) (w3 : 0 ≤ s.op n ∧ s.op n ≤ 1) (w4 : 0 ≤ s.he n ∧ s.he n ≤ 1) (w5 : 0 ≤ s.so n ∧ s.so n ≤ 1) (w6 : -1 ≤ s.kd n) : rea r md wm U C 4 n se hour = obj s wx U C 4 n se hour := by
  rw [ob_k4 rfl hk (by omega), rea_u, a4, m1, et, b12, a2, a11]
  rcases (show s.so (tp s n) = 0 ∨ s.so (tp s n) = 1 by omega) with v0 | v0 <;> rcases (show s.op n = 0 ∨ s.op n = 1 by omega) with v1 | v1 <;> (repeat (first | rw [if_pos (by omega)] | rw [if_neg (by omega)]))
theorem ro_4 {P : Int} {s r : pS} {md : Nat → Int} {wx wm : Int → Int → Int} {U C se hour : Int} {n : Nat} (h : wRS s r md) (hw : wfS P s) (hy : wyS P wx wm) (hn : n < 40) (hk : s.kd n ≠ -1) (he : s.en n = 0) (hh : 0 ≤ hour ∧ hour ≤ 999) : rea r md wm U C 4 n se hour = obj s wx U C 4 n se hour := by
  have hd := wf_dpt hw
  obtain ⟨t1, t2, t3, t4⟩ := tp_ok hw hn hk he
  obtain ⟨a1, a2, a3, a4, a5, a6, a7⟩ := h n hn
  obtain ⟨a8, a9, a10⟩ := a6 hk
  obtain ⟨a11, a12⟩ := a7 he
  obtain ⟨b1, b2, b3, b4, b5, b6, b7⟩ := h (tp s n) t1
  obtain ⟨b11, b12⟩ := b7 t3
  obtain ⟨c1, c2, c3, c4, c5, c6, c7⟩ := hw n hn
  obtain ⟨d1, d2, d3, d4, d5, d6, d7⟩ := hw (tp s n) t1
  exact rk_4 ((a1.resolve_left (fun z => hk z.1)).2) hk he a2 (a4.trans he) a5 a8 a11 a12 b12 (tp_cg h hd hn) ((dpt_1 hd hn).imp id (fun z => z.1)) d1.2.1 c1.1 c1.2.2.2 c1.2.1 c2.1
theorem rk_5 {s r : pS} {md : Nat → Int} {wx wm : Int → Int → Int} {U C se hour : Int} {n : Nat} (m1 : md n = 1) (hk : s.kd n ≠ -1) (he : s.en n = 0) (a2 : r.ii n = s.ii n) (a4 : r.en n = 0) (a5 : r.he n = s.he n) (a8 : r.kd n = s.kd n) (a11 : r.op n = s.op n) (a12 : r.so n = s.so n) (b12 : r.so (tp s n) = s.so (tp s n)) (et : tp r n = tp s n) (w1 : s.ii n = -5 ∨ 0 ≤ s.ii n) (w2 : 0 ≤ s.so (tp s n) ∧ s.so (tp s n) ≤ 1) (w3 : 0 ≤ s.op n ∧ s.op n ≤ 1) (w4 : 0 ≤ s.he n ∧ s.he n ≤ 1) (w5 : 0 ≤ s.so n ∧ s.so n ≤ 1) (w6 : -1 ≤ s.kd n) (zz : soM r wm (tp s n) se hour = soo s wx (tp s n) se hour) (z : soo s wx (tp s n) se hour = 0 ∨ soo s wx (tp s n) se hour = 1) : rea r md wm U C 5 n se hour = obj s wx U C 5 n se hour := by
  rw [ob_k5 rfl hk (by omega), rea_u, a4, m1, et, b12, a2, zz]
  rcases (show s.so (tp s n) = 0 ∨ s.so (tp s n) = 1 by omega) with v0 | v0 <;> rcases (show s.ii n = -5 ∨ 0 ≤ s.ii n by omega) with v1 | v1 <;> rcases (show soo s wx (tp s n) se hour = 0 ∨ soo s wx (tp s n) se hour = 1 by omega) with v2 | v2 <;> (repeat (first | rw [if_pos (by omega)] | rw [if_neg (by omega)]))
theorem ro_5 {P : Int} {s r : pS} {md : Nat → Int} {wx wm : Int → Int → Int} {U C se hour : Int} {n : Nat} (h : wRS s r md) (hw : wfS P s) (hy : wyS P wx wm) (hn : n < 40) (hk : s.kd n ≠ -1) (he : s.en n = 0) (hh : 0 ≤ hour ∧ hour ≤ 999) (hp : 0 ≤ se ∧ se < P) : rea r md wm U C 5 n se hour = obj s wx U C 5 n se hour := by
  have hd := wf_dpt hw
  obtain ⟨t1, t2, t3, t4⟩ := tp_ok hw hn hk he
  obtain ⟨a1, a2, a3, a4, a5, a6, a7⟩ := h n hn
  obtain ⟨a8, a9, a10⟩ := a6 hk
  obtain ⟨a11, a12⟩ := a7 he
  obtain ⟨b1, b2, b3, b4, b5, b6, b7⟩ := h (tp s n) t1
  obtain ⟨b11, b12⟩ := b7 t3
  obtain ⟨c1, c2, c3, c4, c5, c6, c7⟩ := hw n hn
  obtain ⟨d1, d2, d3, d4, d5, d6, d7⟩ := hw (tp s n) t1
  exact rk_5 ((a1.resolve_left (fun z => hk z.1)).2) hk he a2 (a4.trans he) a5 a8 a11 a12 b12 (tp_cg h hd hn) ((dpt_1 hd hn).imp id (fun z => z.1)) d1.2.1 c1.1 c1.2.2.2 c1.2.1 c2.1 (soo_cg h hw hy ⟨t1, t2⟩ hp hh) soo_b
theorem rk_6 {s r : pS} {md : Nat → Int} {wx wm : Int → Int → Int} {U C se hour : Int} {n : Nat} (m1 : md n = 1) (hk : s.kd n ≠ -1) (he : s.en n = 0) (a2 : r.ii n = s.ii n) (a4 : r.en n = 0) (a5 : r.he n = s.he n) (a8 : r.kd n = s.kd n) (a11 : r.op n = s.op n) (a12 : r.so n = s.so n) (b12 : r.so (tp s n) = s.so (tp s n)) (et : tp r n = tp s n) (w1 : s.ii n = -5 ∨ 0 ≤ s.ii n) (w2 : 0 ≤ s.so (tp s n) ∧ s.so (tp s n) ≤ 1) (w3 : 0 ≤ s.op n ∧ s.op n ≤ 1) (w4 : 0 ≤ s.he n ∧ s.he n ≤ 1) (w5 : 0 ≤ s.so n ∧ s.so n ≤ 1) (w6 : -1 ≤ s.kd n) (zz : soM r wm (tp s n) se hour = soo s wx (tp s n) se hour) (z : soo s wx (tp s n) se hour = 0 ∨ soo s wx (tp s n) se hour = 1) : rea r md wm U C 6 n se hour = obj s wx U C 6 n se hour := by
  rw [ob_k6 rfl hk (by omega), rea_u, a4, m1, et, b12, a2, zz]
  rcases (show s.so (tp s n) = 0 ∨ s.so (tp s n) = 1 by omega) with v0 | v0 <;> rcases (show soo s wx (tp s n) se hour = 0 ∨ soo s wx (tp s n) se hour = 1 by omega) with v1 | v1 <;> (repeat (first | rw [if_pos (by omega)] | rw [if_neg (by omega)]))
theorem ro_6 {P : Int} {s r : pS} {md : Nat → Int} {wx wm : Int → Int → Int} {U C se hour : Int} {n : Nat} (h : wRS s r md) (hw : wfS P s) (hy : wyS P wx wm) (hn : n < 40) (hk : s.kd n ≠ -1) (he : s.en n = 0) (hh : 0 ≤ hour ∧ hour ≤ 999) (hp : 0 ≤ se ∧ se < P) : rea r md wm U C 6 n se hour = obj s wx U C 6 n se hour := by
  have hd := wf_dpt hw
  obtain ⟨t1, t2, t3, t4⟩ := tp_ok hw hn hk he
  obtain ⟨a1, a2, a3, a4, a5, a6, a7⟩ := h n hn
  obtain ⟨a8, a9, a10⟩ := a6 hk
  obtain ⟨a11, a12⟩ := a7 he
  obtain ⟨b1, b2, b3, b4, b5, b6, b7⟩ := h (tp s n) t1
  obtain ⟨b11, b12⟩ := b7 t3
  obtain ⟨c1, c2, c3, c4, c5, c6, c7⟩ := hw n hn
  obtain ⟨d1, d2, d3, d4, d5, d6, d7⟩ := hw (tp s n) t1
  exact rk_6 ((a1.resolve_left (fun z => hk z.1)).2) hk he a2 (a4.trans he) a5 a8 a11 a12 b12 (tp_cg h hd hn) ((dpt_1 hd hn).imp id (fun z => z.1)) d1.2.1 c1.1 c1.2.2.2 c1.2.1 c2.1 (soo_cg h hw hy ⟨t1, t2⟩ hp hh) soo_b
theorem rk_7 {s r : pS} {md : Nat → Int} {wx wm : Int → Int → Int} {U C se hour : Int} {n : Nat} (m1 : md n = 1) (hk : s.kd n ≠ -1) (he : s.en n = 0) (a2 : r.ii n = s.ii n) (a4 : r.en n = 0) (a5 : r.he n = s.he n) (a8 : r.kd n = s.kd n) (a11 : r.op n = s.op n) (a12 : r.so n = s.so n) (b12 : r.so (tp s n) = s.so (tp s n)) (et : tp r n = tp s n) (w1 : s.ii n = -5 ∨ 0 ≤ s.ii n) (w2 : 0 ≤ s.so (tp s n) ∧ s.so (tp s n) ≤ 1) (w3 : 0 ≤ s.op n ∧ s.op n ≤ 1) (w4 : 0 ≤ s.he n ∧ s.he n ≤ 1) (w5 : 0 ≤ s.so n ∧ s.so n ≤ 1) (w6 : -1 ≤ s.kd n) (zz : qwi r (n : Int) = qwi s (n : Int)) (z : 0 ≤ qwi s (n : Int) ∧ qwi s (n : Int) ≤ 1) : rea r md wm U C 7 n se hour = obj s wx U C 7 n se hour := by
  rw [ob_k7 rfl hk (by omega), rea_u, a4, m1, et, b12, a2, zz]
  rcases (show s.so (tp s n) = 0 ∨ s.so (tp s n) = 1 by omega) with v0 | v0 <;> rcases (show s.ii n = -5 ∨ 0 ≤ s.ii n by omega) with v1 | v1 <;> rcases (show qwi s (n : Int) = 0 ∨ qwi s (n : Int) = 1 by omega) with v2 | v2 <;> (repeat (first | rw [if_pos (by omega)] | rw [if_neg (by omega)]))
theorem ro_7 {P : Int} {s r : pS} {md : Nat → Int} {wx wm : Int → Int → Int} {U C se hour : Int} {n : Nat} (h : wRS s r md) (hw : wfS P s) (hy : wyS P wx wm) (hn : n < 40) (hk : s.kd n ≠ -1) (he : s.en n = 0) (hh : 0 ≤ hour ∧ hour ≤ 999) : rea r md wm U C 7 n se hour = obj s wx U C 7 n se hour := by
  have hd := wf_dpt hw
  obtain ⟨t1, t2, t3, t4⟩ := tp_ok hw hn hk he
  obtain ⟨a1, a2, a3, a4, a5, a6, a7⟩ := h n hn
  obtain ⟨a8, a9, a10⟩ := a6 hk
  obtain ⟨a11, a12⟩ := a7 he
  obtain ⟨b1, b2, b3, b4, b5, b6, b7⟩ := h (tp s n) t1
  obtain ⟨b11, b12⟩ := b7 t3
  obtain ⟨c1, c2, c3, c4, c5, c6, c7⟩ := hw n hn
  obtain ⟨d1, d2, d3, d4, d5, d6, d7⟩ := hw (tp s n) t1
  exact rk_7 ((a1.resolve_left (fun z => hk z.1)).2) hk he a2 (a4.trans he) a5 a8 a11 a12 b12 (tp_cg h hd hn) ((dpt_1 hd hn).imp id (fun z => z.1)) d1.2.1 c1.1 c1.2.2.2 c1.2.1 c2.1 (qwi_cg h hd) ei_b
theorem rk_8 {s r : pS} {md : Nat → Int} {wx wm : Int → Int → Int} {U C se hour : Int} {n : Nat} (m1 : md n = 1) (hk : s.kd n ≠ -1) (he : s.en n = 0) (a2 : r.ii n = s.ii n) (a4 : r.en n = 0) (a5 : r.he n = s.he n) (a8 : r.kd n = s.kd n) (a11 : r.op n = s.op n) (a12 : r.so n = s.so n) (b12 : r.so (tp s n) = s.so (tp s n)) (et : tp r n = tp s n) (w1 : s.ii n = -5 ∨ 0 ≤ s.ii n) (w2 : 0 ≤ s.so (tp s n) ∧ s.so (tp s n) ≤ 1) (w3 : 0 ≤ s.op n ∧ s.op n ≤ 1) (w4 : 0 ≤ s.he n ∧ s.he n ≤ 1) (w5 : 0 ≤ s.so n ∧ s.so n ≤ 1) (w6 : -1 ≤ s.kd n) : rea r md wm U C 8 n se hour = obj s wx U C 8 n se hour := by
  rw [ob_k8 rfl hk (by omega), rea_u, a4, m1, a2, a12]
  rcases w1 with v0 | v0
  · rw [top_e v0]
    rcases (show s.so n = 0 ∨ s.so n = 1 by omega) with v1 | v1 <;> (repeat (first | rw [if_pos (by omega)] | rw [if_neg (by omega)]))
  · repeat (first | rw [if_pos (by omega)] | rw [if_neg (by omega)])
theorem ro_8 {P : Int} {s r : pS} {md : Nat → Int} {wx wm : Int → Int → Int} {U C se hour : Int} {n : Nat} (h : wRS s r md) (hw : wfS P s) (hy : wyS P wx wm) (hn : n < 40) (hk : s.kd n ≠ -1) (he : s.en n = 0) (hh : 0 ≤ hour ∧ hour ≤ 999) : rea r md wm U C 8 n se hour = obj s wx U C 8 n se hour := by
  have hd := wf_dpt hw
  obtain ⟨t1, t2, t3, t4⟩ := tp_ok hw hn hk he
  obtain ⟨a1, a2, a3, a4, a5, a6, a7⟩ := h n hn
  obtain ⟨a8, a9, a10⟩ := a6 hk
  obtain ⟨a11, a12⟩ := a7 he
  obtain ⟨b1, b2, b3, b4, b5, b6, b7⟩ := h (tp s n) t1
  obtain ⟨b11, b12⟩ := b7 t3
  obtain ⟨c1, c2, c3, c4, c5, c6, c7⟩ := hw n hn
  obtain ⟨d1, d2, d3, d4, d5, d6, d7⟩ := hw (tp s n) t1
  exact rk_8 ((a1.resolve_left (fun z => hk z.1)).2) hk he a2 (a4.trans he) a5 a8 a11 a12 b12 (tp_cg h hd hn) ((dpt_1 hd hn).imp id (fun z => z.1)) d1.2.1 c1.1 c1.2.2.2 c1.2.1 c2.1
theorem rk_9 {s r : pS} {md : Nat → Int} {wx wm : Int → Int → Int} {U C se hour : Int} {n : Nat} (m1 : md n = 1) (hk : s.kd n ≠ -1) (he : s.en n = 0) (a2 : r.ii n = s.ii n) (a4 : r.en n = 0) (a5 : r.he n = s.he n) (a8 : r.kd n = s.kd n) (a11 : r.op n = s.op n) (a12 : r.so n = s.so n) (b12 : r.so (tp s n) = s.so (tp s n)) (et : tp r n = tp s n) (w1 : s.ii n = -5 ∨ 0 ≤ s.ii n) (w2 : 0 ≤ s.so (tp s n) ∧ s.so (tp s n) ≤ 1) (w3 : 0 ≤ s.op n ∧ s.op n ≤ 1) (w4 : 0 ≤ s.he n ∧ s.he n ≤ 1) (w5 : 0 ≤ s.so n ∧ s.so n ≤ 1) (w6 : -1 ≤ s.kd n) : rea r md wm U C 9 n se hour = obj s wx U C 9 n se hour := by
  rw [ob_k9 rfl hk (by omega), rea_u, a4, m1]
  repeat (first | rw [if_pos (by omega)] | rw [if_neg (by omega)])
theorem ro_9 {P : Int} {s r : pS} {md : Nat → Int} {wx wm : Int → Int → Int} {U C se hour : Int} {n : Nat} (h : wRS s r md) (hw : wfS P s) (hy : wyS P wx wm) (hn : n < 40) (hk : s.kd n ≠ -1) (he : s.en n = 0) (hh : 0 ≤ hour ∧ hour ≤ 999) : rea r md wm U C 9 n se hour = obj s wx U C 9 n se hour := by
  have hd := wf_dpt hw
  obtain ⟨t1, t2, t3, t4⟩ := tp_ok hw hn hk he
  obtain ⟨a1, a2, a3, a4, a5, a6, a7⟩ := h n hn
  obtain ⟨a8, a9, a10⟩ := a6 hk
  obtain ⟨a11, a12⟩ := a7 he
  obtain ⟨b1, b2, b3, b4, b5, b6, b7⟩ := h (tp s n) t1
  obtain ⟨b11, b12⟩ := b7 t3
  obtain ⟨c1, c2, c3, c4, c5, c6, c7⟩ := hw n hn
  obtain ⟨d1, d2, d3, d4, d5, d6, d7⟩ := hw (tp s n) t1
  exact rk_9 ((a1.resolve_left (fun z => hk z.1)).2) hk he a2 (a4.trans he) a5 a8 a11 a12 b12 (tp_cg h hd hn) ((dpt_1 hd hn).imp id (fun z => z.1)) d1.2.1 c1.1 c1.2.2.2 c1.2.1 c2.1
theorem rk_10 {s r : pS} {md : Nat → Int} {wx wm : Int → Int → Int} {U C se hour : Int} {n : Nat} (m1 : md n = 1) (hk : s.kd n ≠ -1) (he : s.en n = 0) (a2 : r.ii n = s.ii n) (a4 : r.en n = 0) (a5 : r.he n = s.he n) (a8 : r.kd n = s.kd n) (a11 : r.op n = s.op n) (a12 : r.so n = s.so n) (b12 : r.so (tp s n) = s.so (tp s n)) (et : tp r n = tp s n) (w1 : s.ii n = -5 ∨ 0 ≤ s.ii n) (w2 : 0 ≤ s.so (tp s n) ∧ s.so (tp s n) ≤ 1) (w3 : 0 ≤ s.op n ∧ s.op n ≤ 1) (w4 : 0 ≤ s.he n ∧ s.he n ≤ 1) (w5 : 0 ≤ s.so n ∧ s.so n ≤ 1) (w6 : -1 ≤ s.kd n) : rea r md wm U C 10 n se hour = obj s wx U C 10 n se hour := by
  rw [ob_k10 rfl hk (by omega), rea_u, a4, m1, a5, a2]
  rcases (show s.he n = 0 ∨ s.he n = 1 by omega) with v0 | v0 <;> (repeat (first | rw [if_pos (by omega)] | rw [if_neg (by omega)]))
theorem ro_10 {P : Int} {s r : pS} {md : Nat → Int} {wx wm : Int → Int → Int} {U C se hour : Int} {n : Nat} (h : wRS s r md) (hw : wfS P s) (hy : wyS P wx wm) (hn : n < 40) (hk : s.kd n ≠ -1) (he : s.en n = 0) (hh : 0 ≤ hour ∧ hour ≤ 999) : rea r md wm U C 10 n se hour = obj s wx U C 10 n se hour := by
  have hd := wf_dpt hw
  obtain ⟨t1, t2, t3, t4⟩ := tp_ok hw hn hk he
  obtain ⟨a1, a2, a3, a4, a5, a6, a7⟩ := h n hn
  obtain ⟨a8, a9, a10⟩ := a6 hk
  obtain ⟨a11, a12⟩ := a7 he
  obtain ⟨b1, b2, b3, b4, b5, b6, b7⟩ := h (tp s n) t1
  obtain ⟨b11, b12⟩ := b7 t3
  obtain ⟨c1, c2, c3, c4, c5, c6, c7⟩ := hw n hn
  obtain ⟨d1, d2, d3, d4, d5, d6, d7⟩ := hw (tp s n) t1
  exact rk_10 ((a1.resolve_left (fun z => hk z.1)).2) hk he a2 (a4.trans he) a5 a8 a11 a12 b12 (tp_cg h hd hn) ((dpt_1 hd hn).imp id (fun z => z.1)) d1.2.1 c1.1 c1.2.2.2 c1.2.1 c2.1
