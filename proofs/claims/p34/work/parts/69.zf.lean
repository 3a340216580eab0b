/-! THE ROADS AS THEY ARE READ, on both sides -/
def rE (w : Nat → Int) (a b : Nat) : Int := w (8 * a + b)
def rRw (P : Int) (w m : Nat → Int) : Prop := (0 ≤ P ∧ P ≤ 8) ∧ ∀ a b : Nat, a < 8 → b < 8 → (((a : Int) < P ∧ (b : Int) < P) → ((rE w a b = -2 ∧ rE m a b = 100000) ∨ (rE w a b = rE m a b ∧ 0 ≤ rE m a b ∧ rE m a b ≤ 99))) ∧ (¬ ((a : Int) < P ∧ (b : Int) < P) → rE w a b = -2 ∧ (a ≠ b → rE m a b = 100000)) ∧ (a = b → rE m a b = 0) ∧ rE m a b = rE m b a
theorem rRw_pl {P : Int} {w m : Nat → Int} (h : rRw P w m) (hP : P ≠ 8) : rRw (P + 1) (xPl P w) m := by
  obtain ⟨h0, h⟩ := h
  refine ⟨by omega, fun a b ha hb => ?_⟩
  have ev : rE (xPl P w) a b = if ((8 * a + b : Nat) : Int) = 9 * P then 0 else rE w a b := rfl
  obtain ⟨h1, h2, h3, h4⟩ := h a b ha hb
  rw [ev]
  refine ⟨fun q => ?_, fun q => ?_, h3, h4⟩
  · if e : ((8 * a + b : Nat) : Int) = 9 * P then
      rw [if_pos e]
      have := h3 (by omega)
      omega
    else
      rw [if_neg e]
      if q1 : (a : Int) < P ∧ (b : Int) < P then exact h1 q1
      else
        obtain ⟨k1, k2⟩ := h2 q1
        if z : a = b then
          exfalso
          omega
        else
          have := k2 z
          omega
  · rw [if_neg (by omega)]
    exact h2 (by omega)
theorem rRw_rd {P n : Int} {w m : Nat → Int} {i j : Nat} (h : rRw P w m) (hi : (i : Int) < P) (hj : (j : Int) < P) (hn : i ≠ j) (h9 : 1 ≤ n ∧ n ≤ 99) : rRw P (xRd w i j n) (mRd m i j n) := by
  obtain ⟨h0, h⟩ := h
  have hi8 : i < 8 := by omega
  have hj8 : j < 8 := by omega
  have k1 := (h i j hi8 hj8).1 ⟨hi, hj⟩
  have k2 := (h j i hj8 hi8).1 ⟨hj, hi⟩
  have ks := (h i j hi8 hj8).2.2.2
  have x1 : ∀ a b : Nat, a < 8 → b < 8 → rE (xSh w (8 * i + j) n) a b = if (a = i ∧ b = j) ∧ (rE w i j = -2 ∨ n < rE w i j) then n else rE w a b := fun a b ha hb => by
    show (if 8 * a + b = 8 * i + j ∧ (rE w i j = -2 ∨ n < rE w i j) then n else rE w a b) = _
    if q : a = i ∧ b = j then
      obtain ⟨rfl, rfl⟩ := q
      if z : rE w a b = -2 ∨ n < rE w a b then rw [if_pos ⟨rfl, z⟩, if_pos ⟨⟨rfl, rfl⟩, z⟩]
      else rw [if_neg (fun c => z c.2), if_neg (fun c => z c.2)]
    else rw [if_neg (fun c => q (by omega)), if_neg (fun c => q c.1)]
  have x0 : rE (xSh w (8 * i + j) n) j i = rE w j i := by rw [x1 j i hj8 hi8, if_neg (fun c => hn c.1.1.symm)]
  have x2 : ∀ a b : Nat, a < 8 → b < 8 → rE (xRd w i j n) a b = if (a = j ∧ b = i) ∧ (rE w j i = -2 ∨ n < rE w j i) then n else rE (xSh w (8 * i + j) n) a b := fun a b ha hb => by
    show (if 8 * a + b = 8 * j + i ∧ (rE (xSh w (8 * i + j) n) j i = -2 ∨ n < rE (xSh w (8 * i + j) n) j i) then n else rE (xSh w (8 * i + j) n) a b) = _
    rw [x0]
    if q : a = j ∧ b = i then
      obtain ⟨rfl, rfl⟩ := q
      if z : rE w a b = -2 ∨ n < rE w a b then rw [if_pos ⟨rfl, z⟩, if_pos ⟨⟨rfl, rfl⟩, z⟩]
      else rw [if_neg (fun c => z c.2), if_neg (fun c => z c.2)]
    else rw [if_neg (fun c => q (by omega)), if_neg (fun c => q c.1)]
  have y : ∀ a b : Nat, a < 8 → b < 8 → rE (mRd m i j n) a b = if ((a = j ∧ b = i) ∨ (a = i ∧ b = j)) ∧ n < rE m i j then n else rE m a b := fun a b ha hb => by
    show mRd m i j n (8 * a + b) = _
    unfold mRd
    if z : n < rE m i j then
      have z' : n < m (8 * i + j) := z
      rw [if_pos z']
      show (if 8 * a + b = 8 * j + i then n else if 8 * a + b = 8 * i + j then n else m (8 * a + b)) = _
      if q : a = j ∧ b = i then rw [if_pos (by omega), if_pos ⟨Or.inl q, z⟩]
      else
        if q2 : a = i ∧ b = j then rw [if_neg (by omega), if_pos (by omega), if_pos ⟨Or.inr q2, z⟩]
        else
          rw [if_neg (by omega), if_neg (by omega), if_neg (fun c => by rcases c.1 with c | c; exact q c; exact q2 c)]
          rfl
    else
      have z' : ¬ n < m (8 * i + j) := z
      rw [if_neg z', if_neg (fun c => z c.2)]
      rfl
  refine ⟨h0, fun a b ha hb => ?_⟩
  obtain ⟨h1, h2, h3, h4⟩ := h a b ha hb
  have ya := y a b ha hb
  have yb := y b a hb ha
  have xa := x2 a b ha hb
  have xb := x1 a b ha hb
  refine ⟨fun q => ?_, fun q => ?_, fun e => ?_, ?_⟩
  · have h1 := h1 q
    if q1 : a = j ∧ b = i then
      obtain ⟨rfl, rfl⟩ := q1
      rw [xa, ya, xb]
      split <;> split <;> (try split) <;> omega
    else
      if q2 : a = i ∧ b = j then
        obtain ⟨rfl, rfl⟩ := q2
        rw [xa, ya, xb, if_neg (fun c => hn (by omega))]
        split <;> split <;> omega
      else
        rw [xa, ya, xb, if_neg (fun c => q1 c.1), if_neg (fun c => q2 c.1), if_neg (fun c => by rcases c.1 with c | c; exact q1 c; exact q2 c)]
        exact h1
  · have h2 := h2 q
    rw [xa, ya, xb, if_neg (fun c => by omega), if_neg (fun c => by omega), if_neg (fun c => by omega)]
    exact h2
  · have h3 := h3 e
    rw [ya, if_neg (fun c => by omega)]
    exact h3
  · rw [ya, yb]
    if q : ((a = j ∧ b = i) ∨ (a = i ∧ b = j)) ∧ n < rE m i j then rw [if_pos q, if_pos (by omega)]
    else
      rw [if_neg q, if_neg (by omega)]
      exact h4
theorem rp_8 {b : pB} {T : pT} {g : pG} (h : (pRdP b T g).f = 0) : b.P ≠ 8 := fun e => by
  have h1 : (pRdP1 b T g).f = 0 := by
    unfold pRdP at h
    split at h
    · exact absurd ((pq_T h).1) (pF_ne (by decide)).1
    · exact (pq_T h).1
  unfold pRdP1 at h1
  rw [if_pos e] at h1
  exact absurd ((pq_T h1).1) (pF_ne (by decide)).1
theorem rr_8 {b : pB} {T : pT} {g : pG} (h : (pRdR b T g).f = 0) : (0 ≤ pPl b.nm b.P T (pRdR1 b T g) ∧ pPl b.nm b.P T (pRdR1 b T g) < b.P) ∧ (0 ≤ pPl b.nm b.P T (pRdR2 b T g) ∧ pPl b.nm b.P T (pRdR2 b T g) < b.P) ∧ pPl b.nm b.P T (pRdR2 b T g) ≠ pPl b.nm b.P T (pRdR1 b T g) ∧ (1 ≤ T.V (pRdR3 b T g).t ∧ T.V (pRdR3 b T g).t ≤ 99) := by
  have n1 := (pN_ok (T := T) (lo := 1) (hi := 99) (g := pRdR3 b T g)).resolve_left (fun z => z h)
  have n2 := (pP_ok (nm := b.nm) (P := b.P) (T := T) (but := pPl b.nm b.P T (pRdR1 b T g)) (g := pRdR2 b T g)).resolve_left (fun z => z n1.2.1)
  have n3 := (pP_ok (nm := b.nm) (P := b.P) (T := T) (but := -1) (g := pRdR1 b T g)).resolve_left (fun z => z n2.2.1)
  have r1 := pl_rng (nm := b.nm) (P := b.P) (T := T) (g := pRdR1 b T g)
  have r2 := pl_rng (nm := b.nm) (P := b.P) (T := T) (g := pRdR2 b T g)
  obtain ⟨_, _, _, n4, n5⟩ := n1
  obtain ⟨_, _, _, n6, n7⟩ := n2
  obtain ⟨_, _, _, n8, _⟩ := n3
  exact ⟨r1.resolve_left n8, r2.resolve_left n6, n7, n4, n5⟩
theorem bP_P {b : pB} {T : pT} {g : pG} : (bRdP b T g).P = if (pRdP b T g).f = 0 then b.P + 1 else b.P := by
  unfold bRdP
  split <;> rfl
theorem bR_P {b : pB} {T : pT} {g : pG} : (bRdR b T g).P = b.P := by
  unfold bRdR
  split <;> rfl
theorem bF_P {b : pB} {T : pT} {g : pG} : (bRdF b T g).P = b.P := by
  unfold bRdF
  split <;> rfl
theorem bM_P {b : pB} {T : pT} {g : pG} : (bMg b T g).P = b.P := by
  unfold bMg
  split <;> rfl
theorem rRw_ln {b : pB} {T : pT} {g : pG} {w m : Nat → Int} (h : rRw b.P w m) : rRw (bLn b T g).P (xLn b T g w) (mLn b T g m) := by
  unfold bLn xLn mLn
  if k0 : T.K g.t = 0 then
    rw [if_pos k0, if_pos k0, if_neg (show ¬ T.K g.t = 1 by omega), bP_P]
    if f : (pRdP b T g).f = 0 then
      rw [if_pos f, if_pos f]
      exact rRw_pl h (rp_8 f)
    else
      rw [if_neg f, if_neg f]
      exact h
  else
    rw [if_neg k0, if_neg k0]
    if k1 : T.K g.t = 1 then
      rw [if_pos k1, if_pos k1, if_pos k1, bR_P]
      if f : (pRdR b T g).f = 0 then
        rw [if_pos f, if_pos f]
        obtain ⟨r1, r2, r3, r4⟩ := rr_8 f
        exact rRw_rd h (by omega) (by omega) (by omega) r4
      else
        rw [if_neg f, if_neg f]
        exact h
    else
      rw [if_neg k1, if_neg k1, if_neg k1]
      if k2 : T.K g.t = 2 then
        rw [if_pos k2, bF_P]
        exact h
      else
        rw [if_neg k2]
        if k3 : T.K g.t = 3 then
          rw [if_pos k3, bM_P]
          exact h
        else
          rw [if_neg k3]
          exact h
theorem rRw_it {told : Int} {T : pT} {b : pB} {w m : Nat → Int} (h : rRw b.P w m) : ∀ n, rRw (pIt told T n b).1.P (xIt told T n b w) (mIt told T n b m)
  | 0 => h
  | n + 1 => rRw_ln (rRw_it h n)
/-- told: no place, no road -/
theorem tl_ln {told : Int} {b : pB} {T : pT} {g : pG} {w m : Nat → Int} (ht : told ≠ 0) : (bLn b T (pSg told T g)).P = b.P ∧ xLn b T (pSg told T g) w = w ∧ mLn b T (pSg told T g) m = m := by
  if k3 : T.K g.t = 3 then
    rw [sg_id (Or.inr k3)]
    unfold bLn xLn mLn
    rw [if_neg (show ¬ T.K g.t = 0 by omega), if_neg (show ¬ T.K g.t = 1 by omega), if_neg (show ¬ T.K g.t = 2 by omega), if_pos k3, bM_P, if_neg (show ¬ T.K g.t = 0 by omega), if_neg (show ¬ T.K g.t = 1 by omega), if_neg (show ¬ T.K g.t = 1 by omega)]
    exact ⟨rfl, rfl, rfl⟩
  else
    have e : pSg told T g = pFail T 1 g := by
      unfold pSg
      rw [if_pos ⟨ht, k3⟩]
    have hn : (pFail T 1 g).f ≠ 0 := (pF_ne (by decide)).1
    have f0 : ¬ (pRdP b T (pFail T 1 g)).f = 0 := fun z => hn (pq_1 z).1
    have f1 : ¬ (pRdR b T (pFail T 1 g)).f = 0 := fun z => hn (pq_2 z).1
    rw [e]
    refine ⟨?_, ?_, ?_⟩
    · unfold bLn
      split
      · rw [bP_P, if_neg f0]
      · split
        · rw [bR_P]
        · split
          · rw [bF_P]
          · split
            · rw [bM_P]
            · rfl
    · unfold xLn
      rw [if_neg f0, if_neg f1, ite_self, ite_self]
    · unfold mLn
      rw [if_neg f1, ite_self]
theorem tl_it {told : Int} {T : pT} {b : pB} {w m : Nat → Int} (ht : told ≠ 0) : ∀ n, (pIt told T n b).1.P = b.P ∧ xIt told T n b w = w ∧ mIt told T n b m = m
  | 0 => ⟨rfl, rfl, rfl⟩
  | n + 1 => by
    obtain ⟨h1, h2, h3⟩ := tl_it ht n (w := w) (m := m) (T := T) (b := b)
    obtain ⟨k1, k2, k3⟩ := tl_ln (told := told) (b := (pIt told T n b).1) (T := T) (g := (pIt told T n b).2) (w := w) (m := m) ht
    refine ⟨k1.trans h1, ?_, ?_⟩
    · show xLn (pIt told T n b).1 T (pSg told T (pIt told T n b).2) (xIt told T n b w) = w
      rw [h2, k2]
    · show mLn (pIt told T n b).1 T (pSg told T (pIt told T n b).2) (mIt told T n b m) = m
      rw [h3, k3]
theorem rRw_0 {W : Nat → Int} (h : ∀ q, q < 64 → W q = -2) : rRw pB0.P W w0M := by
  refine ⟨by show (0 : Int) ≤ 0 ∧ (0 : Int) ≤ 8; decide, fun a b ha hb => ⟨fun q => ?_, fun _ => ⟨h _ (by omega), fun e => ?_⟩, fun e => ?_, ?_⟩⟩
  · have : (a : Int) < 0 := q.1
    omega
  · show w0M (8 * a + b) = 100000
    unfold w0M
    rw [if_pos (by omega), if_neg (by omega)]
  · show w0M (8 * a + b) = 0
    unfold w0M
    rw [if_pos (by omega), if_pos (by omega)]
  · show w0M (8 * a + b) = w0M (8 * b + a)
    unfold w0M
    rw [if_pos (show 8 * a + b < 64 by omega), if_pos (show 8 * b + a < 64 by omega)]
    if e : a = b then rw [e]
    else rw [if_neg (show ¬ (8 * a + b) % 9 = 0 by omega), if_neg (show ¬ (8 * b + a) % 9 = 0 by omega)]
theorem wRl_raw {P : Int} {w m : Nat → Int} {D U : Nat → Int32} (h : rRw P w m) (hD : ∀ q, (D q).toInt = w q) (hU : ∀ q, q < 64 → (U q).toInt = m q) : wRl P.toNat 99 D U := fun a b ha hb => by
  obtain ⟨h0, h⟩ := h
  obtain ⟨h1, h2, h3, _⟩ := h a b ha hb
  have e1 : mE D a b = rE w a b := hD _
  have e2 : mE U a b = rE m a b := hU _ (by omega)
  rw [e1, e2]
  exact ⟨fun q => h1 (by omega), fun q e => (h2 (by omega)).2 e, h3⟩
