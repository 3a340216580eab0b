/-! A LOOK KEEPS THE WORLD IN ORDER -/
section
variable {P : Int} {s : pS} {n : Nat} {v : Int}
theorem f_op (h : wfS P s) (hv : v = 0 ∨ v = 1) : wfS P (sOp s n v) := fun x hx => by
  obtain ⟨a1, a2⟩ := h x hx
  refine ⟨⟨?_, a1.2⟩, a2⟩
  show 0 ≤ (if x = n then v else s.op x) ∧ (if x = n then v else s.op x) ≤ 1
  have := a1.1
  split <;> omega
theorem f_so (h : wfS P s) (hv : v = 0 ∨ v = 1) : wfS P (sSo s n v) := fun x hx => by
  obtain ⟨a1, a2⟩ := h x hx
  refine ⟨⟨a1.1, ?_, a1.2.2⟩, a2⟩
  show 0 ≤ (if x = n then v else s.so x) ∧ (if x = n then v else s.so x) ≤ 1
  have := a1.2.1
  split <;> omega
theorem f_se (h : wfS P s) : wfS P (sSe s n v) := fun x hx => h x hx
theorem f_he (h : wfS P s) (hv : v = 0 ∨ (v = 1 ∧ s.kd n ≠ -1 ∧ s.en n = 0)) : wfS P (sHe s n v) := fun x hx => by
  obtain ⟨a1, a2, a3, a4, a5, a6, a7⟩ := h x hx
  have b := a1.2.2.2
  if e : x = n then
    subst e
    have k : (sHe s x v).he x = v := by show (if x = x then v else s.he x) = v; rw [if_pos rfl]
    refine ⟨⟨a1.1, a1.2.1, a1.2.2.1, ?_⟩, a2, a3, ?_, a5, a6, ?_⟩
    · rw [k]; omega
    · rw [k]
      exact fun z => ⟨(a4 z).1, by have z : s.kd x = -1 := z; omega⟩
    · rw [k]
      exact fun z => by have z : s.en x = 1 := z; omega
  else
    have k : (sHe s n v).he x = s.he x := by show (if x = n then v else s.he x) = s.he x; rw [if_neg e]
    refine ⟨⟨a1.1, a1.2.1, a1.2.2.1, ?_⟩, a2, a3, ?_, a5, a6, ?_⟩
    · rw [k]; exact b
    · rw [k]; exact a4
    · rw [k]; exact a7
theorem f_i5 (h : wfS P s) : wfS P (sII s n (-5)) := fun x hx => by
  obtain ⟨a1, a2, a3, a4, a5, a6, a7⟩ := h x hx
  refine ⟨a1, a2, ?_, a4, a5, a6, a7⟩
  if e : x = n then
    left
    show (if x = n then -5 else s.ii x) = -5
    rw [if_pos e]
  else
    have k : (sII s n (-5)).ii x = s.ii x := by show (if x = n then -5 else s.ii x) = s.ii x; rw [if_neg e]
    rw [k]
    exact a3
theorem f_im (h : wfS P s) (hv : 0 ≤ v ∧ v < 40) (h0 : 0 ≤ s.kd n) (h1 : s.kd v.toNat = s.kd n + 1) (h2 : s.en n = 0) (h3 : s.en v.toNat = 0) : wfS P (sII s n v) := fun x hx => by
  obtain ⟨a1, a2, a3, a4, a5, a6, a7⟩ := h x hx
  refine ⟨a1, a2, ?_, a4, a5, a6, a7⟩
  if e : x = n then
    subst e
    right
    have k : (sII s x v).ii x = v := by show (if x = x then v else s.ii x) = v; rw [if_pos rfl]
    rw [k]
    exact ⟨hv.1, hv.2, h0, h1, h2, h3⟩
  else
    have k : (sII s n v).ii x = s.ii x := by show (if x = n then v else s.ii x) = s.ii x; rw [if_neg e]
    rw [k]
    exact a3
theorem f_pl (h : wfS P s) (hv : 0 ≤ v ∧ v < P) : wfS P (sPl s n v) := fun x hx => by
  obtain ⟨a1, a2, a3, a4, a5, a6, a7⟩ := h x hx
  refine ⟨a1, a2, a3, a4, a5, fun k => ?_, a7⟩
  show 0 ≤ (if x = n then v else s.pl x) ∧ (if x = n then v else s.pl x) < P
  have := a6 k
  split <;> omega
theorem f_la (h : wfS P s) (hv : 0 ≤ v ∧ v ≤ 999) : wfS P (sLa s n v) := fun x hx => by
  obtain ⟨a1, a2, a3, a4, a5, a6, a7⟩ := h x hx
  refine ⟨a1, a2, a3, a4, ?_, a6, a7⟩
  show 0 ≤ (if x = n then v else s.la x) ∧ (if x = n then v else s.la x) ≤ 999
  split <;> omega
theorem f_st {p h' : Int} (h : wfS P s) (hp : 0 ≤ p ∧ p < P) (hv : 0 ≤ h' ∧ h' ≤ 999) : wfS P (sSt s n p h') := f_la (f_pl (f_i5 h) hp) hv
theorem f_opA (h : wfS P s) : wfS P (opA s n) := by
  unfold opA
  split
  · exact h
  · exact f_op h (Or.inr rfl)
theorem f_mk {p h' : Int} (h : wfS P s) (hk : s.kd n = -1) (hn : n < 40) (hp : 0 ≤ p ∧ p < P) (hv : 0 ≤ h' ∧ h' ≤ 999) (hi : 0 ≤ v ∧ v ≤ 2) : wfS P (sSt (sKd s n v) n p h') := fun x hx => by
  obtain ⟨a1, a2, a3, a4, a5, a6, a7⟩ := h x hx
  if e : x = n then
    subst e
    have k : (sSt (sKd s x v) x p h').kd x = v := by show (if x = x then v else s.kd x) = v; rw [if_pos rfl]
    have k2 : (sSt (sKd s x v) x p h').ii x = -5 := by show (if x = x then -5 else s.ii x) = -5; rw [if_pos rfl]
    have k3 : (sSt (sKd s x v) x p h').pl x = p := by show (if x = x then p else s.pl x) = p; rw [if_pos rfl]
    have k4 : (sSt (sKd s x v) x p h').la x = h' := by show (if x = x then h' else s.la x) = h'; rw [if_pos rfl]
    rw [k, k2, k3, k4]
    exact ⟨a1, by omega, Or.inl rfl, fun z => by omega, hv, fun _ => hp, a7⟩
  else
    have k : (sSt (sKd s n v) n p h').kd x = s.kd x := by show (if x = n then v else s.kd x) = s.kd x; rw [if_neg e]
    have k2 : (sSt (sKd s n v) n p h').ii x = s.ii x := by show (if x = n then -5 else s.ii x) = s.ii x; rw [if_neg e]
    have k3 : (sSt (sKd s n v) n p h').pl x = s.pl x := by show (if x = n then p else s.pl x) = s.pl x; rw [if_neg e]
    have k4 : (sSt (sKd s n v) n p h').la x = s.la x := by show (if x = n then h' else s.la x) = s.la x; rw [if_neg e]
    rw [k, k2, k3, k4]
    refine ⟨a1, a2, ?_, a4, a5, a6, a7⟩
    rcases a3 with a3 | ⟨b1, b2, b3, b4, b5, b6⟩
    · exact Or.inl a3
    · right
      have ne : (s.ii x).toNat ≠ n := fun z => by rw [z] at b4; omega
      have k5 : (sSt (sKd s n v) n p h').kd (s.ii x).toNat = s.kd (s.ii x).toNat := by show (if (s.ii x).toNat = n then v else s.kd (s.ii x).toNat) = _; rw [if_neg ne]
      rw [k5]
      exact ⟨b1, b2, b3, b4, b5, b6⟩
theorem en_iff (h : wfS P s) {x : Nat} (hx : x < 40) : (sEnd s (n : Int)).en x = (if gos s (n : Int) x = 1 then 1 else s.en x) ∧ (sEnd s (n : Int)).ii x = (if gos s (n : Int) x = 1 then -5 else s.ii x) ∧ (sEnd s (n : Int)).he x = (if gos s (n : Int) x = 1 then 0 else s.he x) := by
  obtain ⟨w1, w2, w3, w4, w5, w6, w7⟩ := h x hx
  have en' : (sE1 s (n : Int) 40).en x = if gos s (n : Int) x = 1 then 1 else s.en x := by
    show (if x < 40 ∧ ((x : Int) = (n : Int) ∨ inn s x (n : Int) = 1) then 1 else s.en x) = _
    if c : gos s (n : Int) x = 1 then rw [if_pos c, if_pos ⟨hx, gos_b.mp c⟩]
    else rw [if_neg c, if_neg (fun z => c (gos_b.mpr z.2))]
  refine ⟨en', ?_, ?_⟩
  · show (if x < 40 ∧ (sE1 s (n : Int) 40).en x = 1 then -5 else s.ii x) = _
    rw [en']
    if c : gos s (n : Int) x = 1 then rw [if_pos c, if_pos c, if_pos ⟨hx, rfl⟩]
    else
      rw [if_neg c, if_neg c]
      if d : s.en x = 1 then
        rw [if_pos ⟨hx, d⟩]
        omega
      else rw [if_neg (fun z => d z.2)]
  · show (if x < 40 ∧ (sE1 s (n : Int) 40).en x = 1 then 0 else s.he x) = _
    rw [en']
    if c : gos s (n : Int) x = 1 then rw [if_pos c, if_pos c, if_pos ⟨hx, rfl⟩]
    else
      rw [if_neg c, if_neg c]
      if d : s.en x = 1 then rw [if_pos ⟨hx, d⟩, w7 d]
      else rw [if_neg (fun z => d z.2)]
theorem f_en (h : wfS P s) (hn : n < 40) (hk : s.kd n ≠ -1) : wfS P (sEnd s (n : Int)) := fun x hx => by
  obtain ⟨w1, w2, w3, w4, w5, w6, w7⟩ := h x hx
  obtain ⟨e1, e2, e3⟩ := en_iff (n := n) h hx
  have o : ∀ y : Nat, (sEnd s (n : Int)).kd y = s.kd y := fun _ => rfl
  have o2 : (sEnd s (n : Int)).op x = s.op x := rfl
  have o3 : (sEnd s (n : Int)).so x = s.so x := rfl
  unfold bts at w1 ⊢
  rw [e1, e2, e3, o, o2, o3]
  if c : gos s (n : Int) x = 1 then
    rw [if_pos c, if_pos c, if_pos c]
    have hkx : s.kd x ≠ -1 := by
      rcases gos_b.mp c with z | z
      · have : x = n := by omega
        rw [this]; exact hk
      · unfold inn at z
        if y : 0 ≤ s.ii x ∧ (s.ii x = (n : Int) ∨ (0 ≤ s.ii (s.ii x).toNat ∧ s.ii (s.ii x).toNat = (n : Int))) then omega
        else
          rw [if_neg y] at z
          omega
    exact ⟨⟨w1.1, w1.2.1, by omega, by omega⟩, w2, Or.inl rfl, fun z => (hkx z).elim, w5, w6, fun _ => rfl⟩
  else
    rw [if_neg c, if_neg c, if_neg c]
    refine ⟨w1, w2, ?_, w4, w5, w6, w7⟩
    rcases w3 with a3 | ⟨b1, b2, b3, b4, b5, b6⟩
    · exact Or.inl a3
    · have ly : (s.ii x).toNat < 40 := by omega
      obtain ⟨f1, _⟩ := en_iff (n := n) h ly
      have ng : ¬ gos s (n : Int) (s.ii x).toNat = 1 := fun z => by
        refine c (gos_b.mpr (Or.inr ?_))
        have dd := wf_dpt h x hx
        rcases gos_b.mp z with z | z
        · unfold inn
          rw [if_pos ⟨b1, Or.inl (by omega)⟩]
        · unfold inn at z ⊢
          if y : 0 ≤ s.ii (s.ii x).toNat ∧ (s.ii (s.ii x).toNat = (n : Int) ∨ (0 ≤ s.ii (s.ii (s.ii x).toNat).toNat ∧ s.ii (s.ii (s.ii x).toNat).toNat = (n : Int))) then
            rw [if_pos ⟨b1, Or.inr (by omega)⟩]
          else
            rw [if_neg y] at z
            omega
      rw [o, f1, if_neg ng]
      exact Or.inr ⟨b1, b2, b3, b4, b5, b6⟩
end
theorem f_cO {P : Int} {s : pS} {wx : Int → Int → Int} {U C ac se ki hour : Int} {n : Nat} (hw : wfS P s) (hn : n < 40) (ha : 0 ≤ ac ∧ ac ≤ 10) (h1 : ac = 1 → 0 ≤ se ∧ se < 40) (h5 : (ac = 0 ∨ ac = 5 ∨ ac = 6 ∨ ac = 8) → 0 ≤ se ∧ se < P) (hh : 0 ≤ hour ∧ hour ≤ 999) (hk : ac = 0 → 0 ≤ ki ∧ ki ≤ 2) (z : obj s wx U C ac n se hour = 0) : wfS P (cO s ac n se ki hour) := by
  rcases ob_z hw hn h1 ha z with ⟨q0, k⟩ | ⟨q0, k, e, z1, z2, z5⟩
  · subst q0
    exact f_mk hw k hn (h5 (Or.inl rfl)) hh (hk rfl)
  · rcases (show ac = 1 ∨ ac = 2 ∨ ac = 3 ∨ ac = 4 ∨ ac = 5 ∨ ac = 6 ∨ ac = 7 ∨ ac = 8 ∨ ac = 9 ∨ ac = 10 by omega) with rfl | rfl | rfl | rfl | rfl | rfl | rfl | rfl | rfl | rfl
    · obtain ⟨y1, y2, y3⟩ := z1 rfl
      have := (hw n hn).2.1
      exact f_im hw (h1 rfl) (by omega) y1 e y2
    · obtain ⟨t1, t2, t3, t4⟩ := tp_ok hw hn k e
      exact f_st (f_opA hw) ((hw (tp s n) t1).2.2.2.2.2.1 t2) hh
    · exact f_op hw (Or.inr rfl)
    · exact f_op hw (Or.inl rfl)
    · exact f_st hw (h5 (by decide)) hh
    · exact f_st (f_se hw) (h5 (by decide)) hh
    · exact f_so hw (Or.inr rfl)
    · exact f_st (f_so hw (Or.inl rfl)) (h5 (by decide)) hh
    · refine f_en (f_opA hw) hn ?_
      have : (opA s n).kd n = s.kd n := by unfold opA; split <;> rfl
      rw [this]; exact k
    · exact f_he hw (Or.inl rfl)
theorem f_lk {P : Int} {s : pS} {wx : Int → Int → Int} {U C ac se ki hour : Int} {n : Nat} (hw : wfS P s) (hn : n < 40) (ha : 0 ≤ ac ∧ ac ≤ 10) (h1 : ac = 1 → 0 ≤ se ∧ se < 40) (h5 : (ac = 0 ∨ ac = 5 ∨ ac = 6 ∨ ac = 8) → 0 ≤ se ∧ se < P) (hh : 0 ≤ hour ∧ hour ≤ 999) (hk : ac = 0 → 0 ≤ ki ∧ ki ≤ 2) : wfS P (lkS s wx U C ac n se ki hour) := by
  unfold lkS
  if z : obj s wx U C ac n se hour = 0 then
    rw [if_pos z]
    exact f_cO hw hn ha h1 h5 hh hk z
  else
    rw [if_neg z]
    if c : (ac = 0 ∧ s.en n ≠ 1) ∨ (ac = 6 ∧ (obj s wx U C ac n se hour = 6 ∨ obj s wx U C ac n se hour = 10)) then
      rw [if_pos c]
      exact f_he hw (Or.inr ⟨rfl, ob_y (U := U) (C := C) (ac := ac) (se := se) (hour := hour) (wy := wx) hw hn (c.imp (fun y => ⟨y.1, y.2, z⟩) id)⟩)
    else
      rw [if_neg c]
      exact hw
