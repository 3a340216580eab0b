/-! ENDS, AND A LOOK ALIKE -/
theorem gos_cg {s r : pS} {md : Nat → Int} {x : Nat} {n : Int} (h : wRS s r md) (hd : dpt s) (hx : x < 40) : gos r n x = gos s n x := by
  unfold gos
  rw [inn_cg h hd hx]
theorem gos_b {s : pS} {n : Int} {x : Nat} : gos s n x = 1 ↔ ((x : Int) = n ∨ inn s x n = 1) := by
  unfold gos
  if c : (x : Int) = n ∨ inn s x n = 1 then
    rw [if_pos c]
    exact ⟨fun _ => c, fun _ => rfl⟩
  else
    rw [if_neg c]
    exact ⟨fun z => by omega, fun z => (c z).elim⟩
theorem inn_opA {s : pS} {n x : Nat} {o : Int} : inn (opA s n) x o = inn s x o := by
  have e : (opA s n).ii = s.ii := by
    unfold opA
    split <;> rfl
  unfold inn
  rw [e]
theorem q_end {P : Int} {s r : pS} {md : Nat → Int} {n : Nat} (h : wRS s r md) (hw : wfS P s) (hn : n < 40) : wRS (sEnd (opA s n) (n : Int)) (ens r (n : Int)) md := fun x hx => by
  have hd := wf_dpt hw
  have e1 := (h n hn).2.1
  have g := gos_cg (x := x) (n := (n : Int)) h hd hx
  have hq : wRS (opA s n) (opM r n) md := by
    unfold opA opM
    rcases dpt_1 hd hn with d | ⟨d1, d2⟩
    · rw [if_pos (by omega), if_pos (by omega)]
      exact h
    · rw [if_neg (by omega), if_neg (by omega), e1]
      exact q_op h
  obtain ⟨a1, a2, a3, a4, a5, a6, a7⟩ := hq x hx
  obtain ⟨w1, w2, w3, w4, w5, w6, w7⟩ := hw x hx
  have k1 : (opA s n).kd x = s.kd x := by unfold opA; split <;> rfl
  have k2 : (opA s n).ii x = s.ii x := by unfold opA; split <;> rfl
  have k3 : (opA s n).en x = s.en x := by unfold opA; split <;> rfl
  have k4 : (opA s n).he x = s.he x := by unfold opA; split <;> rfl
  have en' : (sE1 (opA s n) (n : Int) 40).en x = if gos s (n : Int) x = 1 then 1 else s.en x := by
    show (if x < 40 ∧ ((x : Int) = (n : Int) ∨ inn (opA s n) x (n : Int) = 1) then 1 else (opA s n).en x) = _
    rw [inn_opA, k3]
    if c : gos s (n : Int) x = 1 then rw [if_pos c, if_pos ⟨hx, gos_b.mp c⟩]
    else rw [if_neg c, if_neg (fun z => c (gos_b.mpr z.2))]
  have s1 : (sEnd (opA s n) (n : Int)).en x = if gos s (n : Int) x = 1 then 1 else s.en x := en'
  have s2 : (sEnd (opA s n) (n : Int)).ii x = if gos s (n : Int) x = 1 then -5 else s.ii x := by
    show (if x < 40 ∧ (sE1 (opA s n) (n : Int) 40).en x = 1 then -5 else (opA s n).ii x) = _
    rw [en', k2]
    if c : gos s (n : Int) x = 1 then rw [if_pos c, if_pos c, if_pos ⟨hx, rfl⟩]
    else
      rw [if_neg c, if_neg c]
      if d : s.en x = 1 then
        rw [if_pos ⟨hx, d⟩]
        omega
      else rw [if_neg (fun z => d z.2)]
  have s3 : (sEnd (opA s n) (n : Int)).he x = if gos s (n : Int) x = 1 then 0 else s.he x := by
    show (if x < 40 ∧ (sE1 (opA s n) (n : Int) 40).en x = 1 then 0 else (opA s n).he x) = _
    rw [en', k4]
    if c : gos s (n : Int) x = 1 then rw [if_pos c, if_pos c, if_pos ⟨hx, rfl⟩]
    else
      rw [if_neg c, if_neg c]
      if d : s.en x = 1 then
        rw [if_pos ⟨hx, d⟩, w7 d]
      else rw [if_neg (fun z => d z.2)]
  have r0 : ens r (n : Int) = sN (gos r (n : Int)) (opM r n) 40 := rfl
  have kk : (sEnd (opA s n) (n : Int)).kd x = (opA s n).kd x := rfl
  rw [s1, s2, s3, r0, kk]
  if c : gos s (n : Int) x = 1 then
    have c' : x < 40 ∧ gos r (n : Int) x = 1 := ⟨hx, by rw [g]; exact c⟩
    rw [if_pos c, if_pos c, if_pos c]
    refine ⟨a1, ?_, a3, ?_, ?_, a6, fun z => by omega⟩
    · show (if x < 40 ∧ gos r (n : Int) x = 1 then -5 else (opM r n).ii x) = -5
      rw [if_pos c']
    · show (if x < 40 ∧ gos r (n : Int) x = 1 then 1 else (opM r n).en x) = 1
      rw [if_pos c']
    · show (if x < 40 ∧ gos r (n : Int) x = 1 then 0 else (opM r n).he x) = 0
      rw [if_pos c']
  else
    have c' : ¬ (x < 40 ∧ gos r (n : Int) x = 1) := fun z => c (by rw [← g]; exact z.2)
    rw [if_neg c, if_neg c, if_neg c]
    refine ⟨a1, ?_, a3, ?_, ?_, a6, fun z => ⟨?_, ?_⟩⟩
    · show (if x < 40 ∧ gos r (n : Int) x = 1 then -5 else (opM r n).ii x) = _
      rw [if_neg c', a2, k2]
    · show (if x < 40 ∧ gos r (n : Int) x = 1 then 1 else (opM r n).en x) = _
      rw [if_neg c', a4, k3]
    · show (if x < 40 ∧ gos r (n : Int) x = 1 then 0 else (opM r n).he x) = _
      rw [if_neg c', a5, k4]
    · show (if x < 40 ∧ gos r (n : Int) x = 1 then 0 else (opM r n).op x) = _
      rw [if_neg c', (a7 (k3.trans z)).1]
      rfl
    · show (if x < 40 ∧ gos r (n : Int) x = 1 then 0 else (opM r n).so x) = _
      rw [if_neg c', (a7 (k3.trans z)).2]
      rfl
/-- what is known of a message that is taken -/
theorem ob_z {P : Int} {s : pS} {wy : Int → Int → Int} {U C ac se hour : Int} {n : Nat} (hw : wfS P s) (hn : n < 40) (h1 : ac = 1 → 0 ≤ se ∧ se < 40) (ha : 0 ≤ ac ∧ ac ≤ 10) (z : obj s wy U C ac n se hour = 0) : (ac = 0 ∧ s.kd n = -1) ∨ (ac ≠ 0 ∧ s.kd n ≠ -1 ∧ s.en n = 0 ∧ (ac = 1 → s.kd se.toNat = s.kd n + 1 ∧ s.en se.toNat = 0 ∧ s.ii n = -5) ∧ (ac = 2 → 0 ≤ s.ii n) ∧ ((ac = 5 ∨ ac = 7 ∨ ac = 8) → s.ii n = -5)) := by
  have b := (hw n hn).1.2.2.1
  have d := (dpt_1 (wf_dpt hw) hn).imp id (fun z => z.1)
  if q0 : ac = 0 then
    rw [ob_0 q0] at z
    if k : s.kd n = -1 then exact Or.inl ⟨q0, k⟩
    else
      rw [if_neg k] at z
      omega
  else
    refine Or.inr ⟨q0, ?_⟩
    if q1 : ac = 1 then
      have hs := h1 q1
      have b2 := (hw se.toNat (by omega)).1.2.2.1
      if k : s.kd n = -1 ∨ s.kd se.toNat = -1 then
        rw [ob_2p q1 k] at z
        omega
      else
        if e : s.en n = 1 ∨ s.en se.toNat = 1 then
          rw [ob_3p q1 (by omega) e] at z
          omega
        else
          rw [ob_k1 q1 (by omega) (by omega)] at z
          have zz : oPk s U C n se.toNat = 0 := by
            if y : oPk s U C n se.toNat = 0 ∧ qwi s (n : Int) = 1 then exact y.1
            else
              rw [if_neg y] at z
              exact z
          unfold oPk at zz
          if c4 : s.kd se.toNat ≠ s.kd n + 1 then
            rw [if_pos c4] at zz
            omega
          else
            rw [if_neg c4] at zz
            if c5 : 0 ≤ s.ii n then
              rw [if_pos c5] at zz
              omega
            else exact ⟨by omega, by omega, fun _ => ⟨by omega, by omega, by omega⟩, fun _ => by omega, fun _ => by omega⟩
    else
      if k : s.kd n = -1 then
        rw [ob_2 ⟨q0, q1⟩ k] at z
        omega
      else
        if e : s.en n = 1 then
          rw [ob_3 ⟨q0, q1⟩ k e] at z
          omega
        else
          refine ⟨k, by omega, fun y => (q1 y).elim, fun y => ?_, fun y => ?_⟩
          · rw [ob_k2 y k e] at z
            if c : s.ii n < 0 then
              rw [if_pos c] at z
              omega
            else omega
          · if c : 0 ≤ s.ii n then
              rcases y with y | y | y
              · rw [ob_k5 y k e] at z
                if c6 : s.so (tp s n) = 1 then
                  rw [if_pos c6] at z
                  omega
                else
                  rw [if_neg c6, if_pos c] at z
                  omega
              · rw [ob_k7 y k e] at z
                if c6 : s.so (tp s n) = 1 then
                  rw [if_pos c6] at z
                  omega
                else
                  rw [if_neg c6, if_pos c] at z
                  omega
              · rw [ob_k8 y k e] at z
                rw [if_pos (Or.inl c)] at z
                omega
            else omega
/-- a refused scan that quarantines is of what is made and not ended -/
theorem ob_y {P : Int} {s : pS} {wy : Int → Int → Int} {U C ac se hour : Int} {n : Nat} (hw : wfS P s) (hn : n < 40) (z : (ac = 0 ∧ s.en n ≠ 1 ∧ obj s wy U C ac n se hour ≠ 0) ∨ (ac = 6 ∧ (obj s wy U C ac n se hour = 6 ∨ obj s wy U C ac n se hour = 10))) : s.kd n ≠ -1 ∧ s.en n = 0 := by
  have b := (hw n hn).1.2.2.1
  rcases z with ⟨q0, q1, q2⟩ | ⟨q6, q⟩
  · rw [ob_0 q0] at q2
    if k : s.kd n = -1 then
      rw [if_pos k] at q2
      omega
    else exact ⟨k, by omega⟩
  · if k : s.kd n = -1 then
      rw [ob_2 ⟨by omega, by omega⟩ k] at q
      omega
    else
      if e : s.en n = 1 then
        rw [ob_3 ⟨by omega, by omega⟩ k e] at q
        omega
      else exact ⟨k, by omega⟩
theorem tks_cg {P : Int} {s r : pS} {md : Nat → Int} {wx : Int → Int → Int} {U C ac se ki hour : Int} {n : Nat} (h : wRS s r md) (hw : wfS P s) (hn : n < 40) (ha : 0 ≤ ac ∧ ac ≤ 10) (h1 : ac = 1 → 0 ≤ se ∧ se < 40) (hk : ac = 0 → ki ≠ -1) (z : obj s wx U C ac n se hour = 0) : wRS (cO s ac n se ki hour) (tks r ac n se hour ki) (tmd md ac n) := by
  have hd := wf_dpt hw
  have w3 := (hw n hn).2.2.1
  unfold tmd
  rcases ob_z hw hn h1 ha z with ⟨q0, k⟩ | ⟨q0, k, e, z1, z2, z5⟩
  · subst q0
    exact q_mk h (by omega) (hk rfl)
  · rw [if_neg q0]
    rcases (show ac = 1 ∨ ac = 2 ∨ ac = 3 ∨ ac = 4 ∨ ac = 5 ∨ ac = 6 ∨ ac = 7 ∨ ac = 8 ∨ ac = 9 ∨ ac = 10 by omega) with rfl | rfl | rfl | rfl | rfl | rfl | rfl | rfl | rfl | rfl
    · exact q_ii h
    · have z2 := z2 rfl
      obtain ⟨t1, t2, t3, t4⟩ := tp_ok hw hn k e
      show wRS (sSt (opA s n) n (s.pl (tp s n)) hour) (cou r n (r.pl (tp r n)) hour) md
      rw [tp_cg h hd hn, ((h (tp s n) t1).2.2.2.2.2.1 t2).2.1]
      exact q_out h hn z2
    · exact q_op h
    · exact q_op h
    · exact q_st h (z5 (by decide))
    · exact q_scan h hw hn k e
    · exact q_so h
    · exact q_st (q_so h) (z5 (by decide))
    · exact q_end h hw hn
    · exact q_he h
/-- the two look alike -/
theorem q_step {P : Int} {s r : pS} {md : Nat → Int} {wx wm : Int → Int → Int} {U C ac se ki hour : Int} {n : Nat} (h : wRS s r md) (hw : wfS P s) (hy : wyS P wx wm) (hn : n < 40) (ha : 0 ≤ ac ∧ ac ≤ 10) (h1 : ac = 1 → 0 ≤ se ∧ se < 40) (h5 : (ac = 5 ∨ ac = 6) → 0 ≤ se ∧ se < P) (hh : 0 ≤ hour ∧ hour ≤ 999) (hk : ac = 0 → ki ≠ -1) : wRS (lkS s wx U C ac n se ki hour) (loS r md wm U C ac n se ki hour) (loM r md wm U C ac n se hour) := by
  have e := rea_obj (U := U) (C := C) h hw hy hn ha h1 h5 hh
  have b := (hw n hn).1.2.2.1
  have ee := (h n hn).2.2.2.1
  unfold lkS loS loM
  rw [e]
  if z : obj s wx U C ac n se hour = 0 then
    rw [if_pos z, if_pos z, if_pos z]
    exact tks_cg h hw hn ha h1 hk z
  else
    rw [if_neg z, if_neg z, if_neg z]
    if c : (ac = 0 ∧ s.en n ≠ 1) ∨ (ac = 6 ∧ (obj s wx U C ac n se hour = 6 ∨ obj s wx U C ac n se hour = 10)) then
      rw [if_pos c, if_pos (by omega)]
      exact q_he h
    else
      rw [if_neg c, if_neg (by omega)]
      exact h
