/-! THE SIMULATION, an instruction a case -/
section
variable {k kt kf : mzK} {lv : mzL} {st : List Value} {H : mzH} {c s : Nat} {q : Option Value × mzH}
theorem aIld_i {i : Nat} (h : aIld i k lv st H c s = some q) : ∃ v, mzGet i lv = some v ∧ aIsI v = true ∧ k lv (v :: st) H c s = some q := by
  unfold aIld at h; split at h
  · rename_i v e; obtain ⟨h1, h2⟩ := z_bif h; exact ⟨v, e, h1, h2⟩
  · cases h
theorem aIst_i {n i : Nat} (h : aIst n i k lv st H c s = some q) : ∃ v r, st = v :: r ∧ aIsI v = true ∧ i < n ∧ k (mzSt1 i v lv) r H c s = some q := by
  unfold aIst at h; split at h
  · rename_i v r; obtain ⟨h1, h2⟩ := z_bif h; rw [Bool.and_eq_true] at h1; exact ⟨v, r, rfl, h1.1, Nat.blt_eq.mp h1.2, h2⟩
  · cases h
theorem aInc_i {n i : Nat} {d : Int} (h : aInc n i d k lv st H c s = some q) : i < n ∧ ((∃ v, mzGet i lv = some (.int v) ∧ k (mzSt1 i (.int (v + Int32.ofInt d)) lv) st H c s = some q) ∨ (∃ m, mzGet i lv = some (.retAddr m) ∧ k (mzSt1 i (.retAddr aT) lv) st H c s = some q)) := by
  unfold aInc at h; split at h
  · rename_i v e; obtain ⟨h1, h2⟩ := z_bif h; exact ⟨Nat.blt_eq.mp h1, Or.inl ⟨v, e, h2⟩⟩
  · rename_i m e; obtain ⟨h1, h2⟩ := z_bif h; exact ⟨Nat.blt_eq.mp h1, Or.inr ⟨m, e, h2⟩⟩
  · cases h
theorem aI2_i {g : Int32 → Int32 → Int32} (h : aI2 g k lv st H c s = some q) : ∃ a b r, st = b :: a :: r ∧ aIsI a = true ∧ aIsI b = true ∧ ((∃ x y, a = .int x ∧ b = .int y ∧ k lv (.int (g x y) :: r) H c s = some q) ∨ k lv (.retAddr aT :: r) H c s = some q) := by
  unfold aI2 at h; split at h
  · rename_i b a r; exact ⟨_, _, r, rfl, rfl, rfl, Or.inl ⟨a, b, rfl, rfl, h⟩⟩
  · rename_i b a r _; obtain ⟨h1, h2⟩ := z_bif h; rw [Bool.and_eq_true] at h1; exact ⟨a, b, r, rfl, h1.1, h1.2, Or.inr h2⟩
  · cases h
theorem aI2b_i (h : aI2b k lv st H c s = some q) : ∃ a r, st = a :: r ∧ ((∃ x, a = .int x ∧ k lv (.int x.toInt8.toInt32 :: r) H c s = some q) ∨ (∃ m, a = .retAddr m ∧ k lv (.retAddr aT :: r) H c s = some q)) := by
  unfold aI2b at h; split at h
  · rename_i a r; exact ⟨_, r, rfl, Or.inl ⟨a, rfl, h⟩⟩
  · rename_i a r; exact ⟨_, r, rfl, Or.inr ⟨a, rfl, h⟩⟩
  · cases h
theorem aIf_i {o : ClassFile.Cond} (h : aIf o kt kf lv st H c s = some q) : ∃ a r, st = a :: r ∧ ((aCmp o a (.int 0) = some true ∧ kt lv r H c s = some q) ∨ (aCmp o a (.int 0) = some false ∧ kf lv r H c s = some q)) := by
  unfold aIf at h; split at h
  · rename_i a r; refine ⟨a, r, rfl, ?_⟩
    split at h
    · rename_i e; exact Or.inl ⟨e, h⟩
    · rename_i e; exact Or.inr ⟨e, h⟩
    · cases h
  · cases h
theorem aIf2_i {o : ClassFile.Cond} (h : aIf2 o kt kf lv st H c s = some q) : ∃ a b r, st = b :: a :: r ∧ ((aCmp o a b = some true ∧ kt lv r H c s = some q) ∨ (aCmp o a b = some false ∧ kf lv r H c s = some q)) := by
  unfold aIf2 at h; split at h
  · rename_i b a r; refine ⟨a, b, r, rfl, ?_⟩
    split at h
    · rename_i e; exact Or.inl ⟨e, h⟩
    · rename_i e; exact Or.inr ⟨e, h⟩
    · cases h
  · cases h
theorem aSw_i {lo hi : Int} {ts : List Nat} {kd : mzK} {kq : Nat → mzK} (h : aSw lo hi ts kd kq lv st H c s = some q) : ∃ a r, st = a :: r ∧ ((∃ z, a = .int z ∧ (decide (z.toInt < lo) || decide (hi < z.toInt)) = true ∧ kd lv r H c s = some q) ∨ (∃ z, a = .int z ∧ (decide (z.toInt < lo) || decide (hi < z.toInt)) = false ∧ ∃ b, mzNq ts (z.toInt - lo).toNat = some b ∧ kq b lv r H c s = some q) ∨ (∃ m, a = .retAddr m ∧ (decide (aHi m < lo) || decide (hi < aLo m)) = true ∧ kd lv r H c s = some q)) := by
  unfold aSw at h; split at h
  · rename_i a r; refine ⟨_, r, rfl, ?_⟩
    rcases z_cond h with ⟨h1, h2⟩ | ⟨h1, h2⟩
    · exact Or.inl ⟨a, rfl, h1, h2⟩
    · split at h2
      · rename_i b e; exact Or.inr (Or.inl ⟨a, rfl, h1, b, e, h2⟩)
      · cases h2
  · rename_i m r; obtain ⟨h1, h2⟩ := z_bif h; exact ⟨_, r, rfl, Or.inr (Or.inr ⟨m, rfl, h1, h2⟩)⟩
  · cases h
theorem aGf_i {ci f : Nat} (h : aGf ci f k lv st H c s = some q) : ∃ a r fs v, st = .ref a :: r ∧ mzNq H a = some (.inr (ci, fs)) ∧ ci < 100 ∧ fs[f]? = some v ∧ k lv (v :: r) H c s = some q := by
  unfold aGf at h; split at h
  · rename_i a r; split at h
    · rename_i d fs e; obtain ⟨h1, h2⟩ := z_bif h
      rw [Bool.and_eq_true] at h1
      split at h2
      · rename_i v e2
        have hd := Nat.eq_of_beq_eq_true h1.2
        subst hd
        rw [mzNq_eq] at e2
        exact ⟨a, r, fs, v, rfl, e, Nat.blt_eq.mp h1.1, e2, h2⟩
      · cases h2
    · cases h
  · cases h
theorem aPf_i {ci f t : Nat} (h : aPf ci f t k lv st H c s = some q) : ∃ a r fs v, st = v :: .ref a :: r ∧ mzNq H a = some (.inr (ci, fs)) ∧ ci < 100 ∧ f < fs.length ∧ aFit t v = true ∧ k lv r (mzSet H a (.inr (ci, fs.set f v))) c s = some q := by
  unfold aPf at h; split at h
  · rename_i v a r; split at h
    · rename_i d fs e; obtain ⟨h1, h2⟩ := z_bif h
      simp only [Bool.and_eq_true] at h1
      have hd := Nat.eq_of_beq_eq_true h1.2.1
      subst hd
      rw [mzSetK_eq, mzSetK_eq, ← mzSet_eq H] at h2
      exact ⟨a, r, fs, v, rfl, e, Nat.blt_eq.mp h1.1, Nat.blt_eq.mp h1.2.2.1, h1.2.2.2, h2⟩
    · cases h
  · cases h
theorem aAl_i {b : Bool} (h : aAl b k lv st H c s = some q) : ∃ i a r cell, st = i :: .ref a :: r ∧ mzNq H a = some cell ∧ ((∃ z d l v, i = .int z ∧ cell = .inl (d, l) ∧ Bool.xor b (Nat.beq d 0) = true ∧ mzIx l z = some v ∧ k lv (.int v :: r) H c s = some q) ∨ (∃ z d n, i = .int z ∧ cell = .inr (d, [.ref n]) ∧ 100 ≤ d ∧ Bool.xor b (Nat.beq (d - 100) 0) = true ∧ 0 ≤ z.toInt ∧ z.toInt < n ∧ k lv (.retAddr aT :: r) H c s = some q) ∨ (∃ m d l v, i = .retAddr m ∧ cell = .inl (d, l) ∧ Bool.xor b (Nat.beq d 0) = true ∧ 0 ≤ aLo m ∧ aHi m < l.length ∧ aAll l = some v ∧ k lv (.int v :: r) H c s = some q)) := by
  unfold aAl at h; split at h
  · rename_i i a r; split at h
    · rename_i d l e; obtain ⟨h1, h2⟩ := z_bif h
      split at h2
      · rename_i v e2; exact ⟨_, a, r, _, rfl, e, Or.inl ⟨i, d, l, v, rfl, rfl, h1, e2, h2⟩⟩
      · cases h2
    · rename_i d n e; obtain ⟨h1, h2⟩ := z_bif h
      simp only [Bool.and_eq_true, decide_eq_true_eq] at h1
      exact ⟨_, a, r, _, rfl, e, Or.inr (Or.inl ⟨i, d, n, rfl, rfl, Nat.le_of_ble_eq_true h1.1, h1.2.1, h1.2.2.1, h1.2.2.2, h2⟩)⟩
    · cases h
  · rename_i m a r; split at h
    · rename_i d l e; obtain ⟨h1, h2⟩ := z_bif h
      simp only [Bool.and_eq_true, decide_eq_true_eq] at h1
      split at h2
      · rename_i v e2; exact ⟨_, a, r, _, rfl, e, Or.inr (Or.inr ⟨m, d, l, v, rfl, rfl, h1.1, h1.2.1, h1.2.2, e2, h2⟩)⟩
      · cases h2
    · cases h
  · cases h
theorem aAs_i {b : Bool} (h : aAs b k lv st H c s = some q) : ∃ v z a r cell, st = v :: .int z :: .ref a :: r ∧ mzNq H a = some cell ∧ 0 ≤ z.toInt ∧ ((∃ d l w, v = .int w ∧ cell = .inl (d, l) ∧ Bool.xor b (Nat.beq d 0) = true ∧ z.toInt < l.length ∧ k lv r (mzSet H a (.inl (d, mzSet l (mzN z) (vp_nar (mzTy d) w)))) c s = some q) ∨ (∃ d l m, v = .retAddr m ∧ cell = .inl (d, l) ∧ Bool.xor b (Nat.beq d 0) = true ∧ d ≤ 2 ∧ z.toInt < l.length ∧ k lv r (mzSet H a (.inr (100 + d, [.ref l.length]))) c s = some q) ∨ (∃ d n, cell = .inr (d, [.ref n]) ∧ aIsI v = true ∧ 100 ≤ d ∧ Bool.xor b (Nat.beq (d - 100) 0) = true ∧ z.toInt < n ∧ k lv r H c s = some q)) := by
  unfold aAs at h; split at h
  · rename_i v z a r; split at h
    · rename_i d l e; obtain ⟨h1, h2⟩ := z_bif h
      simp only [Bool.and_eq_true, decide_eq_true_eq] at h1
      split at h2
      · rename_i w; rw [mzSetK_eq, mzSetK_eq, ← mzSet_eq, ← mzSet_eq] at h2; exact ⟨_, z, a, r, _, rfl, e, h1.2.2.1, Or.inl ⟨d, l, w, rfl, rfl, h1.1, h1.2.2.2, h2⟩⟩
      · rename_i m; rw [mzSetK_eq, ← mzSet_eq] at h2; exact ⟨_, z, a, r, _, rfl, e, h1.2.2.1, Or.inr (Or.inl ⟨d, l, m, rfl, rfl, h1.1, Nat.le_of_ble_eq_true h1.2.1, h1.2.2.2, h2⟩)⟩
      · cases h2
    · rename_i d n e; obtain ⟨h1, h2⟩ := z_bif h
      simp only [Bool.and_eq_true, decide_eq_true_eq] at h1
      exact ⟨_, z, a, r, _, rfl, e, h1.2.2.2.1, Or.inr (Or.inr ⟨d, n, rfl, h1.2.1, Nat.le_of_ble_eq_true h1.1, h1.2.2.1, h1.2.2.2.2, h2⟩)⟩
    · cases h
  · cases h
theorem aIret_i {b : Nat} (h : aIret b lv st H c s = some q) : (∃ v, st = [.int v] ∧ q = (some (.int v), H) ∧ (b = 0 ∨ v = 0 ∨ v = 1)) ∨ (∃ m, st = [.retAddr m] ∧ q = (some (.retAddr m), H) ∧ b = 0) := by
  unfold aIret at h; split at h
  · rename_i v; split at h
    · exact Or.inl ⟨v, rfl, (Option.some.inj h).symm, Or.inl rfl⟩
    · obtain ⟨h1, h2⟩ := z_bif h
      simp only [Bool.or_eq_true, decide_eq_true_eq] at h1
      exact Or.inl ⟨v, rfl, (Option.some.inj h2).symm, Or.inr h1⟩
  · rename_i m; split at h
    · exact Or.inr ⟨m, rfl, (Option.some.inj h).symm, rfl⟩
    · cases h
  · cases h
end
theorem a_fit {ρ : Nat → Int32} {t : Nat} {v w : Value} (h : aFit t v = true) (hv : aV ρ v w) : mzFit t w = true := by
  unfold aFit at h
  split at h
  · obtain ⟨x, rfl, -⟩ := hv
    rfl
  · cases v with
    | retAddr m => cases t with
      | zero => rename_i h9; exact absurd rfl (h9 m rfl)
      | succ t => cases t with
        | zero => cases h
        | succ t => cases t <;> cases h
    | _ =>
      have e : w = _ := hv
      rw [e]
      exact h
theorem a_rcv {ρ : Nat → Int32} {na ci : Nat} {st st' : List Value} {H Hc : mzH} (h : aRcv na ci st H = true) (hL : aL ρ st st') (hH : aH ρ H Hc) : mzRcv na ci st' Hc = true := by
  unfold aRcv at h; split at h
  · rename_i a e; split at h
    · rename_i d fs e2
      rw [Bool.and_eq_true] at h
      rw [mzNq_eq] at e
      obtain ⟨w, hw, rfl⟩ := aL_at hL e
      obtain ⟨cc, h1, ⟨-, fs', rfl, -⟩ | ⟨h2, -⟩⟩ := aH_at hH e2
      · unfold mzRcv
        rw [mzNq_eq, hw]
        dsimp only
        rw [h1]
        exact h.1
      · have := Nat.blt_eq.mp h.2
        omega
    · cases h
  · cases h
theorem z_ble {a b : Nat} (h : a ≤ b) : Nat.ble a b = true := Nat.ble_eq.mpr h
set_option maxHeartbeats 40000000 in
set_option maxRecDepth 100000 in
theorem a_sim {ρ : Nat → Int32} (hr : ρ 1 < ρ 2 ∧ ¬ ρ 4 < ρ 3) : ∀ (f nL : Nat) (bl : mzB) (ops : List mzO) (lv : mzL) (st : List Value) (H : mzH) (c s : Nat) (res : Option Value × mzH), aEx f nL bl ops lv st H c s = some res →
    ∀ (lv' : mzL) (st' : List Value) (Hc : mzH), aM ρ lv lv' → aL ρ st st' → aH ρ H Hc → ∃ (r : Option Value) (H2 : mzH), zEx f nL bl ops lv' st' Hc c s = some (r, H2) ∧ aO ρ res.1 r ∧ aH ρ res.2 H2 := by
  intro f
  induction f with
  | zero =>
    intro nL bl ops lv st H c s res hex
    exact absurd (show (none : mzR) = some res from hex) (by simp)
  | succ f ih =>
    intro nL bl ops lv st H c s res hex lv' st' Hc hM hL hH
    cases ops with
    | nil => exact absurd (show (none : mzR) = some res from hex) (by simp)
    | cons op r =>
      obtain ⟨pc, i, x, y, ts⟩ := op
      cases i with
      | iconst n =>
        have hex2 : aEx f nL bl r lv (.int (Int32.ofInt n) :: st) H c s = some res := hex
        exact ih _ _ _ _ _ _ _ _ _ hex2 _ _ _ hM ⟨_, _, rfl, rfl, hL⟩ hH
      | bipush n =>
        have hex2 : aEx f nL bl r lv (.int (Int8.ofInt n).toInt32 :: st) H c s = some res := hex
        exact ih _ _ _ _ _ _ _ _ _ hex2 _ _ _ hM ⟨_, _, rfl, rfl, hL⟩ hH
      | sipush n =>
        have hex2 : aEx f nL bl r lv (.int (Int16.ofInt n).toInt32 :: st) H c s = some res := hex
        exact ih _ _ _ _ _ _ _ _ _ hex2 _ _ _ hM ⟨_, _, rfl, rfl, hL⟩ hH
      | lconst n =>
        have hex2 : aEx f nL bl r lv (.long (Int64.ofNat (n : Nat)) :: st) H c s = some res := hex
        exact ih _ _ _ _ _ _ _ _ _ hex2 _ _ _ hM ⟨_, _, rfl, rfl, hL⟩ hH
      | nop =>
        have hex2 : aEx f nL bl (mzBlk bl x) lv st H c s = some res := hex
        exact ih _ _ _ _ _ _ _ _ _ hex2 _ _ _ hM hL hH
      | goto d =>
        have hex2 : aEx f nL bl (mzBlk bl x) lv st H c s = some res := hex
        exact ih _ _ _ _ _ _ _ _ _ hex2 _ _ _ hM hL hH
      | ldc k =>
        match ts, hex with
        | [t0], hex =>
          have hex2 : aEx f nL bl r lv (.int (Int32.ofNat x) :: st) H c s = some res := hex
          exact ih _ _ _ _ _ _ _ _ _ hex2 _ _ _ hM ⟨_, _, rfl, rfl, hL⟩ hH
        | [], hex => exact absurd (show (none : mzR) = some res from hex) (by simp)
        | _ :: _ :: _, hex => exact absurd (show (none : mzR) = some res from hex) (by simp)
      | iload k =>
        obtain ⟨v, hg, hi, hex2⟩ := aIld_i (i := k) (k := aEx f nL bl r) hex
        obtain ⟨w, hw, hv⟩ := aM_get hM hg
        obtain ⟨z, rfl⟩ := a_int hi hv
        obtain ⟨r9, H9, g1, g2, g3⟩ := ih _ _ _ _ _ _ _ _ _ hex2 _ _ _ hM ⟨_, _, rfl, hv, hL⟩ hH
        refine ⟨r9, H9, ?_, g2, g3⟩
        show mzIld k (zEx f nL bl r) lv' st' Hc c s = _
        unfold mzIld
        rw [hw]
        exact g1
      | iload_n k =>
        obtain ⟨v, hg, hi, hex2⟩ := aIld_i (i := (k : Nat)) (k := aEx f nL bl r) hex
        obtain ⟨w, hw, hv⟩ := aM_get hM hg
        obtain ⟨z, rfl⟩ := a_int hi hv
        obtain ⟨r9, H9, g1, g2, g3⟩ := ih _ _ _ _ _ _ _ _ _ hex2 _ _ _ hM ⟨_, _, rfl, hv, hL⟩ hH
        refine ⟨r9, H9, ?_, g2, g3⟩
        show mzIld (k : Nat) (zEx f nL bl r) lv' st' Hc c s = _
        unfold mzIld
        rw [hw]
        exact g1
      | lload k =>
        obtain ⟨v, hg, hex2⟩ := mzLld_i (i := k) (k := aEx f nL bl r) hex
        obtain ⟨w, hw, rfl⟩ := aM_get hM hg
        obtain ⟨r9, H9, g1, g2, g3⟩ := ih _ _ _ _ _ _ _ _ _ hex2 _ _ _ hM ⟨_, _, rfl, rfl, hL⟩ hH
        refine ⟨r9, H9, ?_, g2, g3⟩
        show mzLld k (zEx f nL bl r) lv' st' Hc c s = _
        unfold mzLld
        rw [hw]
        exact g1
      | lload_n k =>
        obtain ⟨v, hg, hex2⟩ := mzLld_i (i := (k : Nat)) (k := aEx f nL bl r) hex
        obtain ⟨w, hw, rfl⟩ := aM_get hM hg
        obtain ⟨r9, H9, g1, g2, g3⟩ := ih _ _ _ _ _ _ _ _ _ hex2 _ _ _ hM ⟨_, _, rfl, rfl, hL⟩ hH
        refine ⟨r9, H9, ?_, g2, g3⟩
        show mzLld (k : Nat) (zEx f nL bl r) lv' st' Hc c s = _
        unfold mzLld
        rw [hw]
        exact g1
      | aload k =>
        obtain ⟨v, hg, hex2⟩ := mzAld_i (i := k) (k := aEx f nL bl r) hex
        obtain ⟨w, hw, rfl⟩ := aM_get hM hg
        obtain ⟨r9, H9, g1, g2, g3⟩ := ih _ _ _ _ _ _ _ _ _ hex2 _ _ _ hM ⟨_, _, rfl, rfl, hL⟩ hH
        refine ⟨r9, H9, ?_, g2, g3⟩
        show mzAld k (zEx f nL bl r) lv' st' Hc c s = _
        unfold mzAld
        rw [hw]
        exact g1
      | aload_n k =>
        obtain ⟨v, hg, hex2⟩ := mzAld_i (i := (k : Nat)) (k := aEx f nL bl r) hex
        obtain ⟨w, hw, rfl⟩ := aM_get hM hg
        obtain ⟨r9, H9, g1, g2, g3⟩ := ih _ _ _ _ _ _ _ _ _ hex2 _ _ _ hM ⟨_, _, rfl, rfl, hL⟩ hH
        refine ⟨r9, H9, ?_, g2, g3⟩
        show mzAld (k : Nat) (zEx f nL bl r) lv' st' Hc c s = _
        unfold mzAld
        rw [hw]
        exact g1
      | istore k =>
        obtain ⟨v, r', rfl, hi, hn, hex2⟩ := aIst_i (n := nL) (i := k) (k := aEx f nL bl r) hex
        obtain ⟨w, _, rfl, hv, hL⟩ := hL
        obtain ⟨z, rfl⟩ := a_int hi hv
        obtain ⟨r9, H9, g1, g2, g3⟩ := ih _ _ _ _ _ _ _ _ _ hex2 _ _ _ (aM_st1 hM hv) hL hH
        refine ⟨r9, H9, ?_, g2, g3⟩
        show (bif Nat.blt k nL then _ else none) = _
        rw [Nat.blt_eq.mpr hn]
        exact g1
      | istore_n k =>
        obtain ⟨v, r', rfl, hi, hn, hex2⟩ := aIst_i (n := nL) (i := (k : Nat)) (k := aEx f nL bl r) hex
        obtain ⟨w, _, rfl, hv, hL⟩ := hL
        obtain ⟨z, rfl⟩ := a_int hi hv
        obtain ⟨r9, H9, g1, g2, g3⟩ := ih _ _ _ _ _ _ _ _ _ hex2 _ _ _ (aM_st1 hM hv) hL hH
        refine ⟨r9, H9, ?_, g2, g3⟩
        show (bif Nat.blt (k : Nat) nL then _ else none) = _
        rw [Nat.blt_eq.mpr hn]
        exact g1
      | lstore k =>
        obtain ⟨v, r', rfl, hn, hex2⟩ := mzLst_i (n := nL) (i := k) (k := aEx f nL bl r) hex
        obtain ⟨_, _, rfl, rfl, hL⟩ := hL
        obtain ⟨r9, H9, g1, g2, g3⟩ := ih _ _ _ _ _ _ _ _ _ hex2 _ _ _ (aM_st2 hM rfl) hL hH
        refine ⟨r9, H9, ?_, g2, g3⟩
        show (bif Nat.blt (k + 1) nL then _ else none) = _
        rw [Nat.blt_eq.mpr hn]
        exact g1
      | lstore_n k =>
        obtain ⟨v, r', rfl, hn, hex2⟩ := mzLst_i (n := nL) (i := (k : Nat)) (k := aEx f nL bl r) hex
        obtain ⟨_, _, rfl, rfl, hL⟩ := hL
        obtain ⟨r9, H9, g1, g2, g3⟩ := ih _ _ _ _ _ _ _ _ _ hex2 _ _ _ (aM_st2 hM rfl) hL hH
        refine ⟨r9, H9, ?_, g2, g3⟩
        show (bif Nat.blt ((k : Nat) + 1) nL then _ else none) = _
        rw [Nat.blt_eq.mpr hn]
        exact g1
      | astore k =>
        obtain ⟨v, r', rfl, hn, hex2⟩ := mzAst_i (n := nL) (i := k) (k := aEx f nL bl r) hex
        obtain ⟨_, _, rfl, rfl, hL⟩ := hL
        obtain ⟨r9, H9, g1, g2, g3⟩ := ih _ _ _ _ _ _ _ _ _ hex2 _ _ _ (aM_st1 hM rfl) hL hH
        refine ⟨r9, H9, ?_, g2, g3⟩
        show (bif Nat.blt k nL then _ else none) = _
        rw [Nat.blt_eq.mpr hn]
        exact g1
      | astore_n k =>
        obtain ⟨v, r', rfl, hn, hex2⟩ := mzAst_i (n := nL) (i := (k : Nat)) (k := aEx f nL bl r) hex
        obtain ⟨_, _, rfl, rfl, hL⟩ := hL
        obtain ⟨r9, H9, g1, g2, g3⟩ := ih _ _ _ _ _ _ _ _ _ hex2 _ _ _ (aM_st1 hM rfl) hL hH
        refine ⟨r9, H9, ?_, g2, g3⟩
        show (bif Nat.blt (k : Nat) nL then _ else none) = _
        rw [Nat.blt_eq.mpr hn]
        exact g1
      | iinc k d =>
        obtain ⟨hn, ⟨v, hg, hex2⟩ | ⟨v, hg, hex2⟩⟩ := aInc_i (n := nL) (i := k) (d := d) (k := aEx f nL bl r) hex
        · obtain ⟨w, hw, rfl⟩ := aM_get hM hg
          obtain ⟨r9, H9, g1, g2, g3⟩ := ih _ _ _ _ _ _ _ _ _ hex2 _ _ _ (aM_st1 hM rfl) hL hH
          refine ⟨r9, H9, ?_, g2, g3⟩
          show mzInc nL k d (zEx f nL bl r) lv' st' Hc c s = _
          unfold mzInc
          rw [hw]
          show (bif Nat.blt k nL then _ else none) = _
          rw [Nat.blt_eq.mpr hn]
          exact g1
        · obtain ⟨w, hw, z, rfl, -⟩ := aM_get hM hg
          obtain ⟨r9, H9, g1, g2, g3⟩ := ih _ _ _ _ _ _ _ _ _ hex2 _ _ _ (aM_st1 hM (a_top (z + Int32.ofInt d))) hL hH
          refine ⟨r9, H9, ?_, g2, g3⟩
          show mzInc nL k d (zEx f nL bl r) lv' st' Hc c s = _
          unfold mzInc
          rw [hw]
          show (bif Nat.blt k nL then _ else none) = _
          rw [Nat.blt_eq.mpr hn]
          exact g1
      | iadd =>
        obtain ⟨a, b, r', rfl, ha, hb, hex2⟩ := aI2_i (k := aEx f nL bl r) hex
        obtain ⟨b', _, rfl, hvb, a', _, rfl, hva, hL⟩ := hL
        obtain ⟨z1, rfl⟩ := a_int ha hva
        obtain ⟨z2, rfl⟩ := a_int hb hvb
        rcases hex2 with ⟨w1, w2, rfl, rfl, hex2⟩ | hex2
        · cases hva; cases hvb
          exact ih _ _ _ _ _ _ _ _ _ hex2 _ _ _ hM ⟨_, _, rfl, rfl, hL⟩ hH
        · exact ih _ _ _ _ _ _ _ _ _ hex2 _ _ _ hM ⟨_, _, rfl, a_top _, hL⟩ hH
      | isub =>
        obtain ⟨a, b, r', rfl, ha, hb, hex2⟩ := aI2_i (k := aEx f nL bl r) hex
        obtain ⟨b', _, rfl, hvb, a', _, rfl, hva, hL⟩ := hL
        obtain ⟨z1, rfl⟩ := a_int ha hva
        obtain ⟨z2, rfl⟩ := a_int hb hvb
        rcases hex2 with ⟨w1, w2, rfl, rfl, hex2⟩ | hex2
        · cases hva; cases hvb
          exact ih _ _ _ _ _ _ _ _ _ hex2 _ _ _ hM ⟨_, _, rfl, rfl, hL⟩ hH
        · exact ih _ _ _ _ _ _ _ _ _ hex2 _ _ _ hM ⟨_, _, rfl, a_top _, hL⟩ hH
      | imul =>
        obtain ⟨a, b, r', rfl, ha, hb, hex2⟩ := aI2_i (k := aEx f nL bl r) hex
        obtain ⟨b', _, rfl, hvb, a', _, rfl, hva, hL⟩ := hL
        obtain ⟨z1, rfl⟩ := a_int ha hva
        obtain ⟨z2, rfl⟩ := a_int hb hvb
        rcases hex2 with ⟨w1, w2, rfl, rfl, hex2⟩ | hex2
        · cases hva; cases hvb
          exact ih _ _ _ _ _ _ _ _ _ hex2 _ _ _ hM ⟨_, _, rfl, rfl, hL⟩ hH
        · exact ih _ _ _ _ _ _ _ _ _ hex2 _ _ _ hM ⟨_, _, rfl, a_top _, hL⟩ hH
      | iand =>
        obtain ⟨a, b, r', rfl, ha, hb, hex2⟩ := aI2_i (k := aEx f nL bl r) hex
        obtain ⟨b', _, rfl, hvb, a', _, rfl, hva, hL⟩ := hL
        obtain ⟨z1, rfl⟩ := a_int ha hva
        obtain ⟨z2, rfl⟩ := a_int hb hvb
        rcases hex2 with ⟨w1, w2, rfl, rfl, hex2⟩ | hex2
        · cases hva; cases hvb
          exact ih _ _ _ _ _ _ _ _ _ hex2 _ _ _ hM ⟨_, _, rfl, rfl, hL⟩ hH
        · exact ih _ _ _ _ _ _ _ _ _ hex2 _ _ _ hM ⟨_, _, rfl, a_top _, hL⟩ hH
      | ior =>
        obtain ⟨a, b, r', rfl, ha, hb, hex2⟩ := aI2_i (k := aEx f nL bl r) hex
        obtain ⟨b', _, rfl, hvb, a', _, rfl, hva, hL⟩ := hL
        obtain ⟨z1, rfl⟩ := a_int ha hva
        obtain ⟨z2, rfl⟩ := a_int hb hvb
        rcases hex2 with ⟨w1, w2, rfl, rfl, hex2⟩ | hex2
        · cases hva; cases hvb
          exact ih _ _ _ _ _ _ _ _ _ hex2 _ _ _ hM ⟨_, _, rfl, rfl, hL⟩ hH
        · exact ih _ _ _ _ _ _ _ _ _ hex2 _ _ _ hM ⟨_, _, rfl, a_top _, hL⟩ hH
      | ishl =>
        obtain ⟨a, b, r', rfl, ha, hb, hex2⟩ := aI2_i (k := aEx f nL bl r) hex
        obtain ⟨b', _, rfl, hvb, a', _, rfl, hva, hL⟩ := hL
        obtain ⟨z1, rfl⟩ := a_int ha hva
        obtain ⟨z2, rfl⟩ := a_int hb hvb
        rcases hex2 with ⟨w1, w2, rfl, rfl, hex2⟩ | hex2
        · cases hva; cases hvb
          exact ih _ _ _ _ _ _ _ _ _ hex2 _ _ _ hM ⟨_, _, rfl, rfl, hL⟩ hH
        · exact ih _ _ _ _ _ _ _ _ _ hex2 _ _ _ hM ⟨_, _, rfl, a_top _, hL⟩ hH
      | ishr =>
        obtain ⟨a, b, r', rfl, ha, hb, hex2⟩ := aI2_i (k := aEx f nL bl r) hex
        obtain ⟨b', _, rfl, hvb, a', _, rfl, hva, hL⟩ := hL
        obtain ⟨z1, rfl⟩ := a_int ha hva
        obtain ⟨z2, rfl⟩ := a_int hb hvb
        rcases hex2 with ⟨w1, w2, rfl, rfl, hex2⟩ | hex2
        · cases hva; cases hvb
          exact ih _ _ _ _ _ _ _ _ _ hex2 _ _ _ hM ⟨_, _, rfl, rfl, hL⟩ hH
        · exact ih _ _ _ _ _ _ _ _ _ hex2 _ _ _ hM ⟨_, _, rfl, a_top _, hL⟩ hH
      | iushr =>
        obtain ⟨a, b, r', rfl, ha, hb, hex2⟩ := aI2_i (k := aEx f nL bl r) hex
        obtain ⟨b', _, rfl, hvb, a', _, rfl, hva, hL⟩ := hL
        obtain ⟨z1, rfl⟩ := a_int ha hva
        obtain ⟨z2, rfl⟩ := a_int hb hvb
        rcases hex2 with ⟨w1, w2, rfl, rfl, hex2⟩ | hex2
        · cases hva; cases hvb
          exact ih _ _ _ _ _ _ _ _ _ hex2 _ _ _ hM ⟨_, _, rfl, rfl, hL⟩ hH
        · exact ih _ _ _ _ _ _ _ _ _ hex2 _ _ _ hM ⟨_, _, rfl, a_top _, hL⟩ hH
      | irem =>
        obtain ⟨a, b, r', rfl, hne, hex2⟩ := mzRem_i (k := aEx f nL bl r) hex
        obtain ⟨_, _, rfl, rfl, _, _, rfl, rfl, hL⟩ := hL
        obtain ⟨r9, H9, g1, g2, g3⟩ := ih _ _ _ _ _ _ _ _ _ hex2 _ _ _ hM ⟨_, _, rfl, rfl, hL⟩ hH
        refine ⟨r9, H9, ?_, g2, g3⟩
        show (bif decide (b = 0) then none else _) = _
        rw [decide_eq_false hne]
        exact g1
      | land =>
        obtain ⟨a, b, r', rfl, hex2⟩ := mzL2_i (k := aEx f nL bl r) hex
        obtain ⟨_, _, rfl, rfl, _, _, rfl, rfl, hL⟩ := hL
        exact ih _ _ _ _ _ _ _ _ _ hex2 _ _ _ hM ⟨_, _, rfl, rfl, hL⟩ hH
      | lor =>
        obtain ⟨a, b, r', rfl, hex2⟩ := mzL2_i (k := aEx f nL bl r) hex
        obtain ⟨_, _, rfl, rfl, _, _, rfl, rfl, hL⟩ := hL
        exact ih _ _ _ _ _ _ _ _ _ hex2 _ _ _ hM ⟨_, _, rfl, rfl, hL⟩ hH
      | lushr =>
        obtain ⟨a, b, r', rfl, hex2⟩ := mzLsh_i (k := aEx f nL bl r) hex
        obtain ⟨_, _, rfl, rfl, _, _, rfl, rfl, hL⟩ := hL
        exact ih _ _ _ _ _ _ _ _ _ hex2 _ _ _ hM ⟨_, _, rfl, rfl, hL⟩ hH
      | lcmp =>
        obtain ⟨a, b, r', rfl, hex2⟩ := mzLcmp_i (k := aEx f nL bl r) hex
        obtain ⟨_, _, rfl, rfl, _, _, rfl, rfl, hL⟩ := hL
        exact ih _ _ _ _ _ _ _ _ _ hex2 _ _ _ hM ⟨_, _, rfl, rfl, hL⟩ hH
      | i2b =>
        obtain ⟨a, r', rfl, hex2⟩ := aI2b_i (k := aEx f nL bl r) hex
        obtain ⟨a', _, rfl, hva, hL⟩ := hL
        rcases hex2 with ⟨w1, rfl, hex2⟩ | ⟨w1, rfl, hex2⟩
        · cases hva
          exact ih _ _ _ _ _ _ _ _ _ hex2 _ _ _ hM ⟨_, _, rfl, rfl, hL⟩ hH
        · obtain ⟨z, rfl, -⟩ := hva
          exact ih _ _ _ _ _ _ _ _ _ hex2 _ _ _ hM ⟨_, _, rfl, a_top _, hL⟩ hH
      | dup =>
        obtain ⟨a, r', rfl, hca, hex2⟩ := mzDup_i (k := aEx f nL bl r) hex
        obtain ⟨a', _, rfl, h1, hL⟩ := hL
        obtain ⟨r9, H9, g1, g2, g3⟩ := ih _ _ _ _ _ _ _ _ _ hex2 _ _ _ hM ⟨_, _, rfl, h1, _, _, rfl, h1, hL⟩ hH
        refine ⟨r9, H9, ?_, g2, g3⟩
        show (bif Nat.beq a'.category 1 then _ else none) = _
        rw [aV_cat h1, hca]
        exact g1
      | pop =>
        obtain ⟨a, r', rfl, hca, hex2⟩ := mzPop_i (k := aEx f nL bl r) hex
        obtain ⟨a', _, rfl, h1, hL⟩ := hL
        obtain ⟨r9, H9, g1, g2, g3⟩ := ih _ _ _ _ _ _ _ _ _ hex2 _ _ _ hM hL hH
        refine ⟨r9, H9, ?_, g2, g3⟩
        show (bif Nat.beq a'.category 1 then _ else none) = _
        rw [aV_cat h1, hca]
        exact g1
      | dup2 =>
        obtain ⟨a, b, r', rfl, hca, hcb, hex2⟩ := mzDup2_i (k := aEx f nL bl r) hex
        obtain ⟨a', _, rfl, h1, b', _, rfl, h2, hL⟩ := hL
        obtain ⟨r9, H9, g1, g2, g3⟩ := ih _ _ _ _ _ _ _ _ _ hex2 _ _ _ hM ⟨_, _, rfl, h1, _, _, rfl, h2, _, _, rfl, h1, _, _, rfl, h2, hL⟩ hH
        refine ⟨r9, H9, ?_, g2, g3⟩
        show (bif Nat.beq a'.category 1 && Nat.beq b'.category 1 then _ else none) = _
        rw [aV_cat h1, aV_cat h2, hca, hcb]
        exact g1
      | ifCond o d =>
        obtain ⟨a, r', rfl, hex2⟩ := aIf_i (kt := aEx f nL bl (mzBlk bl x)) (kf := aEx f nL bl r) hex
        obtain ⟨a', _, rfl, hva, hL⟩ := hL
        rcases hex2 with ⟨hc9, hex2⟩ | ⟨hc9, hex2⟩
        · obtain ⟨z1, z2, rfl, e0, hz⟩ := a_cmp hr hc9 hva (show aV ρ (.int 0) (.int 0) from rfl)
          cases e0
          obtain ⟨r9, H9, g1, g2, g3⟩ := ih _ _ _ _ _ _ _ _ _ hex2 _ _ _ hM hL hH
          refine ⟨r9, H9, ?_, g2, g3⟩
          show (bif mzCnd o z1 0 then _ else _) = _
          rw [hz]
          exact g1
        · obtain ⟨z1, z2, rfl, e0, hz⟩ := a_cmp hr hc9 hva (show aV ρ (.int 0) (.int 0) from rfl)
          cases e0
          obtain ⟨r9, H9, g1, g2, g3⟩ := ih _ _ _ _ _ _ _ _ _ hex2 _ _ _ hM hL hH
          refine ⟨r9, H9, ?_, g2, g3⟩
          show (bif mzCnd o z1 0 then _ else _) = _
          rw [hz]
          exact g1
      | if_icmp o d =>
        obtain ⟨a, b, r', rfl, hex2⟩ := aIf2_i (kt := aEx f nL bl (mzBlk bl x)) (kf := aEx f nL bl r) hex
        obtain ⟨b', _, rfl, hvb, a', _, rfl, hva, hL⟩ := hL
        rcases hex2 with ⟨hc9, hex2⟩ | ⟨hc9, hex2⟩
        · obtain ⟨z1, z2, rfl, rfl, hz⟩ := a_cmp hr hc9 hva hvb
          obtain ⟨r9, H9, g1, g2, g3⟩ := ih _ _ _ _ _ _ _ _ _ hex2 _ _ _ hM hL hH
          refine ⟨r9, H9, ?_, g2, g3⟩
          show (bif mzCnd o z1 z2 then _ else _) = _
          rw [hz]
          exact g1
        · obtain ⟨z1, z2, rfl, rfl, hz⟩ := a_cmp hr hc9 hva hvb
          obtain ⟨r9, H9, g1, g2, g3⟩ := ih _ _ _ _ _ _ _ _ _ hex2 _ _ _ hM hL hH
          refine ⟨r9, H9, ?_, g2, g3⟩
          show (bif mzCnd o z1 z2 then _ else _) = _
          rw [hz]
          exact g1
      | tableswitch d lo hi os =>
        obtain ⟨a, r', rfl, hex2⟩ := aSw_i (kd := aEx f nL bl (mzBlk bl x)) (kq := fun b => aEx f nL bl (mzBlk bl b)) hex
        obtain ⟨a', _, rfl, hva, hL⟩ := hL
        rcases hex2 with ⟨z, rfl, h1, hex2⟩ | ⟨z, rfl, h1, b, h2, hex2⟩ | ⟨m, rfl, h1, hex2⟩
        · cases hva
          obtain ⟨r9, H9, g1, g2, g3⟩ := ih _ _ _ _ _ _ _ _ _ hex2 _ _ _ hM hL hH
          refine ⟨r9, H9, ?_, g2, g3⟩
          show (bif decide (z.toInt < lo) || decide (hi < z.toInt) then _ else _) = _
          rw [h1]
          exact g1
        · cases hva
          obtain ⟨r9, H9, g1, g2, g3⟩ := ih _ _ _ _ _ _ _ _ _ hex2 _ _ _ hM hL hH
          refine ⟨r9, H9, ?_, g2, g3⟩
          show (bif decide (z.toInt < lo) || decide (hi < z.toInt) then _ else (match mzNq ts (z.toInt - lo).toNat with | some b => zEx f nL bl (mzBlk bl b) lv' _ Hc c s | none => none)) = _
          rw [h1, h2]
          exact g1
        · obtain ⟨z, rfl, ⟨b1, b2⟩, -⟩ := hva
          obtain ⟨r9, H9, g1, g2, g3⟩ := ih _ _ _ _ _ _ _ _ _ hex2 _ _ _ hM hL hH
          refine ⟨r9, H9, ?_, g2, g3⟩
          have h3 : (decide (z.toInt < lo) || decide (hi < z.toInt)) = true := by
            simp only [Bool.or_eq_true, decide_eq_true_eq] at h1 ⊢
            omega
          show (bif decide (z.toInt < lo) || decide (hi < z.toInt) then _ else _) = _
          rw [h3]
          exact g1
      | getfield k =>
        match ts, hex with
        | [t0], hex =>
          obtain ⟨a, r', fs, v, rfl, hHa, hd, hfv, hex2⟩ := aGf_i (k := aEx f nL bl r) hex
          obtain ⟨_, _, rfl, rfl, hL⟩ := hL
          obtain ⟨cc, hc1, ⟨-, fs', rfl, hfs⟩ | ⟨hd2, -⟩⟩ := aH_at hH hHa
          · obtain ⟨v', hv1, hv2⟩ := aL_at hfs hfv
            obtain ⟨r9, H9, g1, g2, g3⟩ := ih _ _ _ _ _ _ _ _ _ hex2 _ _ _ hM ⟨_, _, rfl, hv2, hL⟩ hH
            refine ⟨r9, H9, ?_, g2, g3⟩
            show mzGf x y (zEx f nL bl r) lv' (.ref a :: _) Hc c s = _
            unfold mzGf
            dsimp only
            rw [hc1]
            dsimp only
            rw [Nat.beq_refl, mzNq_eq, hv1]
            exact g1
          · omega
        | [], hex => exact absurd (show (none : mzR) = some res from hex) (by simp)
        | _ :: _ :: _, hex => exact absurd (show (none : mzR) = some res from hex) (by simp)
      | putfield k =>
        match ts, hex with
        | [t0], hex =>
          obtain ⟨a, r', fs, v, rfl, hHa, hd, hfl, hft, hex2⟩ := aPf_i (k := aEx f nL bl r) hex
          obtain ⟨v', _, rfl, hv, _, _, rfl, rfl, hL⟩ := hL
          obtain ⟨cc, hc1, ⟨-, fs', rfl, hfs⟩ | ⟨hd2, -⟩⟩ := aH_at hH hHa
          · have hft' := a_fit hft hv
            have hlt : Nat.blt y fs'.length = true := by rw [aL_len hfs]; exact Nat.blt_eq.mpr hfl
            obtain ⟨r9, H9, g1, g2, g3⟩ := ih _ _ _ _ _ _ _ _ _ hex2 _ _ _ hM hL (aH_set (k := a) hH (Or.inl ⟨hd, _, rfl, aL_set (k := y) hfs hv⟩))
            refine ⟨r9, H9, ?_, g2, g3⟩
            show mzPf x y t0 (zEx f nL bl r) lv' (v' :: .ref a :: _) Hc c s = _
            unfold mzPf
            dsimp only
            rw [hc1]
            dsimp only
            rw [Nat.beq_refl, hlt, hft', mzSetK_eq, mzSetK_eq]
            rw [mzSet_eq Hc] at g1
            exact g1
          · omega
        | [], hex => exact absurd (show (none : mzR) = some res from hex) (by simp)
        | _ :: _ :: _, hex => exact absurd (show (none : mzR) = some res from hex) (by simp)
      | iaload =>
        obtain ⟨i, a, r', cell, rfl, hHa, hex2⟩ := aAl_i (b := false) (k := aEx f nL bl r) hex
        obtain ⟨i', _, rfl, hvi, _, _, rfl, rfl, hL⟩ := hL
        obtain ⟨cc, hc1, hcc⟩ := aH_at hH hHa
        rcases hex2 with ⟨z, d, l, v, rfl, rfl, hx1, hx2, hex2⟩ | ⟨z, d, n, rfl, rfl, hd, hx1, b1, b2, hex2⟩ | ⟨m, d, l, v, rfl, rfl, hx1, b1, b2, hx2, hex2⟩
        · cases hvi; cases hcc
          obtain ⟨r9, H9, g1, g2, g3⟩ := ih _ _ _ _ _ _ _ _ _ hex2 _ _ _ hM ⟨_, _, rfl, rfl, hL⟩ hH
          refine ⟨r9, H9, ?_, g2, g3⟩
          show mzAl false (zEx f nL bl r) lv' (.int z :: .ref a :: _) Hc c s = _
          unfold mzAl
          dsimp only
          rw [hc1]
          dsimp only
          rw [hx1, hx2]
          exact g1
        · cases hvi
          rcases hcc with ⟨hd2, -⟩ | ⟨-, l, rfl, e9⟩
          · omega
          · cases e9
            obtain ⟨v, hv1, -, -⟩ := a_ix b1 b2
            obtain ⟨r9, H9, g1, g2, g3⟩ := ih _ _ _ _ _ _ _ _ _ hex2 _ _ _ hM ⟨_, _, rfl, a_top v, hL⟩ hH
            refine ⟨r9, H9, ?_, g2, g3⟩
            show mzAl false (zEx f nL bl r) lv' (.int z :: .ref a :: _) Hc c s = _
            unfold mzAl
            dsimp only
            rw [hc1]
            dsimp only
            rw [hx1, hv1]
            exact g1
        · obtain ⟨z, rfl, ⟨c1, c2⟩, -⟩ := hvi
          cases hcc
          obtain ⟨v', hv1, hv2, hv3⟩ := a_ix (l := l) (i := z) (by omega) (by omega)
          cases (aAll_at hx2 hv3).symm.trans hv2
          obtain ⟨r9, H9, g1, g2, g3⟩ := ih _ _ _ _ _ _ _ _ _ hex2 _ _ _ hM ⟨_, _, rfl, rfl, hL⟩ hH
          refine ⟨r9, H9, ?_, g2, g3⟩
          show mzAl false (zEx f nL bl r) lv' (.int z :: .ref a :: _) Hc c s = _
          unfold mzAl
          dsimp only
          rw [hc1]
          dsimp only
          rw [hx1, hv1]
          exact g1
      | baload =>
        obtain ⟨i, a, r', cell, rfl, hHa, hex2⟩ := aAl_i (b := true) (k := aEx f nL bl r) hex
        obtain ⟨i', _, rfl, hvi, _, _, rfl, rfl, hL⟩ := hL
        obtain ⟨cc, hc1, hcc⟩ := aH_at hH hHa
        rcases hex2 with ⟨z, d, l, v, rfl, rfl, hx1, hx2, hex2⟩ | ⟨z, d, n, rfl, rfl, hd, hx1, b1, b2, hex2⟩ | ⟨m, d, l, v, rfl, rfl, hx1, b1, b2, hx2, hex2⟩
        · cases hvi; cases hcc
          obtain ⟨r9, H9, g1, g2, g3⟩ := ih _ _ _ _ _ _ _ _ _ hex2 _ _ _ hM ⟨_, _, rfl, rfl, hL⟩ hH
          refine ⟨r9, H9, ?_, g2, g3⟩
          show mzAl true (zEx f nL bl r) lv' (.int z :: .ref a :: _) Hc c s = _
          unfold mzAl
          dsimp only
          rw [hc1]
          dsimp only
          rw [hx1, hx2]
          exact g1
        · cases hvi
          rcases hcc with ⟨hd2, -⟩ | ⟨-, l, rfl, e9⟩
          · omega
          · cases e9
            obtain ⟨v, hv1, -, -⟩ := a_ix b1 b2
            obtain ⟨r9, H9, g1, g2, g3⟩ := ih _ _ _ _ _ _ _ _ _ hex2 _ _ _ hM ⟨_, _, rfl, a_top v, hL⟩ hH
            refine ⟨r9, H9, ?_, g2, g3⟩
            show mzAl true (zEx f nL bl r) lv' (.int z :: .ref a :: _) Hc c s = _
            unfold mzAl
            dsimp only
            rw [hc1]
            dsimp only
            rw [hx1, hv1]
            exact g1
        · obtain ⟨z, rfl, ⟨c1, c2⟩, -⟩ := hvi
          cases hcc
          obtain ⟨v', hv1, hv2, hv3⟩ := a_ix (l := l) (i := z) (by omega) (by omega)
          cases (aAll_at hx2 hv3).symm.trans hv2
          obtain ⟨r9, H9, g1, g2, g3⟩ := ih _ _ _ _ _ _ _ _ _ hex2 _ _ _ hM ⟨_, _, rfl, rfl, hL⟩ hH
          refine ⟨r9, H9, ?_, g2, g3⟩
          show mzAl true (zEx f nL bl r) lv' (.int z :: .ref a :: _) Hc c s = _
          unfold mzAl
          dsimp only
          rw [hc1]
          dsimp only
          rw [hx1, hv1]
          exact g1
      | iastore =>
        obtain ⟨v0, z, a, r', cell, rfl, hHa, b1, hex2⟩ := aAs_i (b := false) (k := aEx f nL bl r) hex
        obtain ⟨v0', _, rfl, hv0, _, _, rfl, rfl, _, _, rfl, rfl, hL⟩ := hL
        obtain ⟨cc, hc1, hcc⟩ := aH_at hH hHa
        rcases hex2 with ⟨d, l, w, rfl, rfl, hx1, b2, hex2⟩ | ⟨d, l, m, rfl, rfl, hx1, hd, b2, hex2⟩ | ⟨d, n, rfl, hi, hd, hx1, b2, hex2⟩
        · cases hv0; cases hcc
          obtain ⟨v, hv1, -, -⟩ := a_ix b1 b2
          obtain ⟨r9, H9, g1, g2, g3⟩ := ih _ _ _ _ _ _ _ _ _ hex2 _ _ _ hM hL (aH_set hH rfl)
          refine ⟨r9, H9, ?_, g2, g3⟩
          show mzAs false (zEx f nL bl r) lv' (.int w :: .int z :: .ref a :: _) Hc c s = _
          unfold mzAs
          dsimp only
          rw [hc1]
          dsimp only
          rw [hx1, hv1, mzSetK_eq, mzSetK_eq]
          rw [mzSet_eq Hc, mzSet_eq l] at g1
          exact g1
        · obtain ⟨w, rfl, -⟩ := hv0
          cases hcc
          obtain ⟨v, hv1, -, -⟩ := a_ix b1 b2
          obtain ⟨r9, H9, g1, g2, g3⟩ := ih _ _ _ _ _ _ _ _ _ hex2 _ _ _ hM hL (aH_set (b := .inl (d, mzSet l (mzN z) (vp_nar (mzTy d) w))) hH (Or.inr ⟨by omega, _, by rw [Nat.add_sub_cancel_left], by rw [mzSet_eq, List.length_set]⟩))
          refine ⟨r9, H9, ?_, g2, g3⟩
          show mzAs false (zEx f nL bl r) lv' (.int w :: .int z :: .ref a :: _) Hc c s = _
          unfold mzAs
          dsimp only
          rw [hc1]
          dsimp only
          rw [hx1, hv1, mzSetK_eq, mzSetK_eq]
          rw [mzSet_eq Hc, mzSet_eq l] at g1
          exact g1
        · obtain ⟨w, rfl⟩ := a_int hi hv0
          rcases hcc with ⟨hd2, -⟩ | ⟨-, l, rfl, e9⟩
          · omega
          · cases e9
            obtain ⟨v, hv1, -, -⟩ := a_ix b1 b2
            obtain ⟨r9, H9, g1, g2, g3⟩ := ih _ _ _ _ _ _ _ _ _ hex2 _ _ _ hM hL (aH_set0 (k := a) (b := .inl (d - 100, mzSet l (mzN z) (vp_nar (mzTy (d - 100)) w))) hH (fun a9 h9 => by cases hHa.symm.trans h9; exact Or.inr ⟨hd, _, rfl, by rw [mzSet_eq, List.length_set]⟩))
            refine ⟨r9, H9, ?_, g2, g3⟩
            show mzAs false (zEx f nL bl r) lv' (.int w :: .int z :: .ref a :: _) Hc c s = _
            unfold mzAs
            dsimp only
            rw [hc1]
            dsimp only
            rw [hx1, hv1, mzSetK_eq, mzSetK_eq]
            rw [mzSet_eq Hc, mzSet_eq l] at g1
            exact g1
      | bastore =>
        obtain ⟨v0, z, a, r', cell, rfl, hHa, b1, hex2⟩ := aAs_i (b := true) (k := aEx f nL bl r) hex
        obtain ⟨v0', _, rfl, hv0, _, _, rfl, rfl, _, _, rfl, rfl, hL⟩ := hL
        obtain ⟨cc, hc1, hcc⟩ := aH_at hH hHa
        rcases hex2 with ⟨d, l, w, rfl, rfl, hx1, b2, hex2⟩ | ⟨d, l, m, rfl, rfl, hx1, hd, b2, hex2⟩ | ⟨d, n, rfl, hi, hd, hx1, b2, hex2⟩
        · cases hv0; cases hcc
          obtain ⟨v, hv1, -, -⟩ := a_ix b1 b2
          obtain ⟨r9, H9, g1, g2, g3⟩ := ih _ _ _ _ _ _ _ _ _ hex2 _ _ _ hM hL (aH_set hH rfl)
          refine ⟨r9, H9, ?_, g2, g3⟩
          show mzAs true (zEx f nL bl r) lv' (.int w :: .int z :: .ref a :: _) Hc c s = _
          unfold mzAs
          dsimp only
          rw [hc1]
          dsimp only
          rw [hx1, hv1, mzSetK_eq, mzSetK_eq]
          rw [mzSet_eq Hc, mzSet_eq l] at g1
          exact g1
        · obtain ⟨w, rfl, -⟩ := hv0
          cases hcc
          obtain ⟨v, hv1, -, -⟩ := a_ix b1 b2
          obtain ⟨r9, H9, g1, g2, g3⟩ := ih _ _ _ _ _ _ _ _ _ hex2 _ _ _ hM hL (aH_set (b := .inl (d, mzSet l (mzN z) (vp_nar (mzTy d) w))) hH (Or.inr ⟨by omega, _, by rw [Nat.add_sub_cancel_left], by rw [mzSet_eq, List.length_set]⟩))
          refine ⟨r9, H9, ?_, g2, g3⟩
          show mzAs true (zEx f nL bl r) lv' (.int w :: .int z :: .ref a :: _) Hc c s = _
          unfold mzAs
          dsimp only
          rw [hc1]
          dsimp only
          rw [hx1, hv1, mzSetK_eq, mzSetK_eq]
          rw [mzSet_eq Hc, mzSet_eq l] at g1
          exact g1
        · obtain ⟨w, rfl⟩ := a_int hi hv0
          rcases hcc with ⟨hd2, -⟩ | ⟨-, l, rfl, e9⟩
          · omega
          · cases e9
            obtain ⟨v, hv1, -, -⟩ := a_ix b1 b2
            obtain ⟨r9, H9, g1, g2, g3⟩ := ih _ _ _ _ _ _ _ _ _ hex2 _ _ _ hM hL (aH_set0 (k := a) (b := .inl (d - 100, mzSet l (mzN z) (vp_nar (mzTy (d - 100)) w))) hH (fun a9 h9 => by cases hHa.symm.trans h9; exact Or.inr ⟨hd, _, rfl, by rw [mzSet_eq, List.length_set]⟩))
            refine ⟨r9, H9, ?_, g2, g3⟩
            show mzAs true (zEx f nL bl r) lv' (.int w :: .int z :: .ref a :: _) Hc c s = _
            unfold mzAs
            dsimp only
            rw [hc1]
            dsimp only
            rw [hx1, hv1, mzSetK_eq, mzSetK_eq]
            rw [mzSet_eq Hc, mzSet_eq l] at g1
            exact g1
      | arraylength =>
        obtain ⟨a, r', d, l, rfl, hHa, hex2⟩ := mzLen_i (k := aEx f nL bl r) hex
        obtain ⟨_, _, rfl, rfl, hL⟩ := hL
        rw [← mzNq_eq] at hHa
        obtain ⟨cc, hc1, hcc⟩ := aH_at hH hHa
        cases hcc
        obtain ⟨r9, H9, g1, g2, g3⟩ := ih _ _ _ _ _ _ _ _ _ hex2 _ _ _ hM ⟨_, _, rfl, rfl, hL⟩ hH
        refine ⟨r9, H9, ?_, g2, g3⟩
        show mzLen (zEx f nL bl r) lv' (.ref a :: _) Hc c s = _
        unfold mzLen
        dsimp only
        rw [hc1]
        exact g1
      | invokevirtual k =>
        match ts, hex with
        | [na, mc, ms], hex =>
          obtain ⟨hg, hln, hwd, hmc, hms, hwa, o9, H1, hcall, hex2⟩ := mzInv_i (g := aRcv na y) (nl := zN x) (ca := aEx f (zN x) (zB x) (mzBlk (zB x) 0)) (k := aEx f nL bl r) hex
          have hg' : mzRcv na y st' Hc = true := a_rcv hg hL hH
          have hrs := aL_drop na hL
          have hta := aL_take na hL
          obtain ⟨o8, H8, q1, q2, q3⟩ := ih _ _ _ _ _ _ _ _ _ hcall _ _ _ (aM_args 0 (aL_rev hta)) (show aL ρ [] [] from rfl) hH
          obtain ⟨r9, H9, g1, g2, g3⟩ := ih _ _ _ _ _ _ _ _ _ hex2 _ _ _ hM (aL_app (aL_opt q2) hrs) q3
          refine ⟨r9, H9, ?_, g2, g3⟩
          show mzInv (mzRcv na y) (zN x) (zEx f (zN x) (zB x) (mzBlk (zB x) 0)) na mc ms (zEx f nL bl r) lv' st' Hc c s = _
          unfold mzInv
          rw [hg', aL_len hL, aL_wd hrs, aL_wd hta, z_ble hln, z_ble hwd, z_ble hmc, z_ble hms, z_ble hwa, q1]
          exact g1
        | [_], hex => exact absurd (show (none : mzR) = some res from hex) (by simp)
        | [], hex => exact absurd (show (none : mzR) = some res from hex) (by simp)
        | [_, _], hex => exact absurd (show (none : mzR) = some res from hex) (by simp)
        | _ :: _ :: _ :: _ :: _, hex => exact absurd (show (none : mzR) = some res from hex) (by simp)
      | invokestatic k =>
        match ts, hex with
        | [na, mc, ms], hex =>
          obtain ⟨hg, hln, hwd, hmc, hms, hwa, o9, H1, hcall, hex2⟩ := mzInv_i (g := fun _ _ => true) (nl := zN x) (ca := aEx f (zN x) (zB x) (mzBlk (zB x) 0)) (k := aEx f nL bl r) hex
          have hg' : (fun (_ : List Value) (_ : mzH) => true) st' Hc = true := rfl
          have hrs := aL_drop na hL
          have hta := aL_take na hL
          obtain ⟨o8, H8, q1, q2, q3⟩ := ih _ _ _ _ _ _ _ _ _ hcall _ _ _ (aM_args 0 (aL_rev hta)) (show aL ρ [] [] from rfl) hH
          obtain ⟨r9, H9, g1, g2, g3⟩ := ih _ _ _ _ _ _ _ _ _ hex2 _ _ _ hM (aL_app (aL_opt q2) hrs) q3
          refine ⟨r9, H9, ?_, g2, g3⟩
          show mzInv (fun _ _ => true) (zN x) (zEx f (zN x) (zB x) (mzBlk (zB x) 0)) na mc ms (zEx f nL bl r) lv' st' Hc c s = _
          unfold mzInv
          rw [hg', aL_len hL, aL_wd hrs, aL_wd hta, z_ble hln, z_ble hwd, z_ble hmc, z_ble hms, z_ble hwa, q1]
          exact g1
        | [0], hex =>
          obtain ⟨n, dp, a, sp, a0, r', fl, gl, rfl, hH0, hHa, h1, h2, h3, h4, h5, hwd, hex2⟩ := mzAcp_i (k := aEx f nL bl r) hex
          obtain ⟨_, _, rfl, rfl, _, _, rfl, rfl, _, _, rfl, rfl, _, _, rfl, rfl, _, _, rfl, rfl, hL⟩ := hL
          rw [← mzNq_eq] at hH0 hHa
          obtain ⟨cc, hc1, hcc⟩ := aH_at hH hH0
          obtain ⟨cd, hd1, hdd⟩ := aH_at hH hHa
          cases hcc; cases hdd
          rw [← mzSet_eq] at hex2
          obtain ⟨r9, H9, g1, g2, g3⟩ := ih _ _ _ _ _ _ _ _ _ hex2 _ _ _ hM hL (aH_set hH rfl)
          refine ⟨r9, H9, ?_, g2, g3⟩
          show mzAcp (zEx f nL bl r) lv' (.int n :: .int dp :: .ref a :: .int sp :: .ref a0 :: _) Hc c s = _
          unfold mzAcp
          dsimp only
          rw [hc1, hd1]
          show (bif decide (sp < 0) || (decide (dp < 0) || decide (n < 0)) then none else bif Nat.ble (sp.toNatClampNeg + n.toNatClampNeg) fl.length && (Nat.ble (dp.toNatClampNeg + n.toNatClampNeg) gl.length && Nat.ble (mzWd _) 8) then mzSetK _ _ _ (fun G => zEx f nL bl r lv' _ G c s) else none) = _
          rw [decide_eq_false h1, decide_eq_false h2, decide_eq_false h3, z_ble h4, z_ble h5, aL_wd hL, z_ble hwd]
          rw [mzSet_eq Hc] at g1
          show mzSetK _ _ _ _ = _
          rw [mzSetK_eq]
          exact g1
        | [1], hex =>
          obtain ⟨a, b, r', rfl, hwd, hex2⟩ := mzMm_i (k := aEx f nL bl r) hex
          obtain ⟨_, _, rfl, rfl, _, _, rfl, rfl, hL⟩ := hL
          obtain ⟨r9, H9, g1, g2, g3⟩ := ih _ _ _ _ _ _ _ _ _ hex2 _ _ _ hM ⟨_, _, rfl, rfl, hL⟩ hH
          refine ⟨r9, H9, ?_, g2, g3⟩
          show (bif Nat.ble (mzWd _) 8 then _ else none) = _
          rw [aL_wd hL, z_ble hwd]
          exact g1
        | [_ + 2], hex =>
          obtain ⟨a, b, r', rfl, hwd, hex2⟩ := mzMm_i (k := aEx f nL bl r) hex
          obtain ⟨_, _, rfl, rfl, _, _, rfl, rfl, hL⟩ := hL
          obtain ⟨r9, H9, g1, g2, g3⟩ := ih _ _ _ _ _ _ _ _ _ hex2 _ _ _ hM ⟨_, _, rfl, rfl, hL⟩ hH
          refine ⟨r9, H9, ?_, g2, g3⟩
          show (bif Nat.ble (mzWd _) 8 then _ else none) = _
          rw [aL_wd hL, z_ble hwd]
          exact g1
        | [], hex => exact absurd (show (none : mzR) = some res from hex) (by simp)
        | [_, _], hex => exact absurd (show (none : mzR) = some res from hex) (by simp)
        | _ :: _ :: _ :: _ :: _, hex => exact absurd (show (none : mzR) = some res from hex) (by simp)
      | ireturn =>
        rcases aIret_i (lv := lv) (c := c) (s := s) hex with ⟨v, rfl, rfl, hb⟩ | ⟨m, rfl, rfl, rfl⟩
        · obtain ⟨_, _, rfl, rfl, e⟩ := hL
          have e : _ = [] := e
          subst e
          refine ⟨some (.int v), Hc, ?_, ⟨_, rfl, rfl⟩, hH⟩
          show mzIret x lv' [.int v] Hc c s = _
          unfold mzIret
          try dsimp only
          split
          · rfl
          · rcases hb with h | h | h
            · exact absurd h (by assumption)
            · subst h; rfl
            · subst h; rfl
        · obtain ⟨_, _, rfl, hv, e⟩ := hL
          have e : _ = [] := e
          subst e
          obtain ⟨v, rfl, h1⟩ := hv
          exact ⟨some (.int v), Hc, rfl, ⟨_, rfl, v, rfl, h1⟩, hH⟩
      | lreturn =>
        obtain ⟨v, rfl, rfl⟩ := mzLret_i (lv := lv) (c := c) (s := s) hex
        obtain ⟨_, _, rfl, rfl, e⟩ := hL
        have e : _ = [] := e
        subst e
        exact ⟨some (.long v), Hc, rfl, ⟨_, rfl, rfl⟩, hH⟩
      | areturn =>
        obtain ⟨v, rfl, rfl⟩ := mzAret_i (lv := lv) (c := c) (s := s) hex
        obtain ⟨_, _, rfl, rfl, e⟩ := hL
        have e : _ = [] := e
        subst e
        exact ⟨some (.ref v), Hc, rfl, ⟨_, rfl, rfl⟩, hH⟩
      | return_ =>
        obtain ⟨rfl, rfl⟩ := mzVret_i (lv := lv) (c := c) (s := s) hex
        have e : _ = [] := hL
        subst e
        exact ⟨none, Hc, rfl, rfl, hH⟩
      | _ => exact absurd (show (none : mzR) = some res from hex) (by simp)
