/-! HEAPS WITH SOME FIELDS SET -/
theorem sF_same {H : mzH} {a f : Nat} {v w : Int32} : sF (sF H a f v) a f w = sF H a f w := by
  cases h : H[a]? with
  | none => unfold sF; simp only [h]
  | some c =>
    cases c with
    | inl q => unfold sF; simp only [h]
    | inr q =>
      obtain ⟨d, fs⟩ := q
      have hl : a < H.length := (List.getElem?_eq_some_iff.mp h).1
      unfold sF
      simp only [h, List.getElem?_set_self hl, List.set_set]
theorem sF_comm {H : mzH} {a f g : Nat} {v w : Int32} (hn : f ≠ g) : sF (sF H a f v) a g w = sF (sF H a g w) a f v := by
  cases h : H[a]? with
  | none => unfold sF; simp only [h]
  | some c =>
    cases c with
    | inl q => unfold sF; simp only [h]
    | inr q =>
      obtain ⟨d, fs⟩ := q
      have hl : a < H.length := (List.getElem?_eq_some_iff.mp h).1
      unfold sF
      simp only [h, List.getElem?_set_self hl, List.set_set]
      rw [List.set_comm _ _ hn]
def ob (H : mzH) (a n : Nat) : Prop := ∃ d vs, H[a]? = some (.inr (d, vs)) ∧ n ≤ vs.length
theorem ob_of {S : List gSp} {H : mzH} {a d n : Nat} {fs : List gFs} (hI : gI S H) (hs : S[a]? = some (.inr (d, fs))) (hn : n ≤ fs.length) : ob H a n := by
  obtain ⟨vs, h1, h2, -⟩ := gI_obj hI hs
  exact ⟨d, vs, h1, by omega⟩
theorem ob_sF {H : mzH} {a n b g : Nat} {w : Int32} (h : ob H a n) : ob (sF H b g w) a n := by
  obtain ⟨d, vs, h1, h2⟩ := h
  rcases gz_sF (H := H) (a := b) (f := g) (v := w) a with e | ⟨_, d2, fs, e1, e2⟩
  · exact ⟨d, vs, e.trans h1, h2⟩
  · cases e1.symm.trans h1
    exact ⟨d, _, e2, by rw [List.length_set]; exact h2⟩
theorem fZ_sF_ob {H : mzH} {a f n : Nat} {v : Int32} (h : ob H a n) (hf : f < n) : fZ (sF H a f v) a f = v := by
  obtain ⟨d, vs, h1, h2⟩ := h
  have hla : a < H.length := (List.getElem?_eq_some_iff.mp h1).1
  unfold fZ sF
  rw [h1]
  simp only [List.getElem?_set_self hla, List.getElem?_set_self (show f < vs.length by omega)]
def tS (H : mzH) (x0 x1 : Int32) : mzH := (sF (sF H 20 6 x0) 20 7 x1)
theorem tS_s6 {H : mzH} {x0 x1 : Int32} {w : Int32} (_ : gI SX H) : sF (tS H x0 x1) 20 6 w = tS H w x1 := by
  unfold tS
  rw [sF_comm (f := 7) (g := 6) (by decide), sF_same]
theorem tS_g6 {H : mzH} {x0 x1 : Int32} (hI : gI SX H) : x0 = fZ (tS H x0 x1) 20 6 := by
  unfold tS
  rw [fZ_sF_ne (f := 7) (g := 6) (by decide), fZ_sF_ob (ob_of hI sx_20 (n := 8) (by decide)) (by decide)]
theorem tS_s7 {H : mzH} {x0 x1 : Int32} {w : Int32} (_ : gI SX H) : sF (tS H x0 x1) 20 7 w = tS H x0 w := by
  unfold tS
  rw [sF_same]
theorem tS_g7 {H : mzH} {x0 x1 : Int32} (hI : gI SX H) : x1 = fZ (tS H x0 x1) 20 7 := by
  unfold tS
  rw [fZ_sF_ob (ob_sF (ob_of hI sx_20 (n := 8) (by decide))) (by decide)]
theorem tS_I {H : mzH} {x0 x1 : Int32} (hI : gI SX H) (h0 : 0 ≤ x0.toInt ∧ x0.toInt ≤ 900) : gI SX (tS H x0 x1) := (gI_sF (gI_sF hI sx_20 rfl h0) sx_20 rfl (gz_any _))
theorem tS_J {H : mzH} {x0 x1 : Int32} (hJ : JX H) : JX (tS H x0 x1) := (JX_sF rfl (JX_sF rfl hJ))
theorem tS_o {H : mzH} {x0 x1 : Int32} {c f : Nat} (h : c ≠ 20 ∨ (f ≠ 6 ∧ f ≠ 7)) : fZ H c f = fZ (tS H x0 x1) c f := by
  unfold tS
  rcases h with h | h
  · rw [fZ_sF_nc (Ne.symm h), fZ_sF_nc (Ne.symm h)]
  · if hc : c = 20 then
      subst hc
      rw [fZ_sF_ne (f := 7) (by omega), fZ_sF_ne (f := 6) (by omega)]
    else rw [fZ_sF_nc (Ne.symm hc), fZ_sF_nc (Ne.symm hc)]
theorem tS_a {H : mzH} {x0 x1 : Int32} {c i : Nat} : aZ (tS H x0 x1) c i = aZ H c i := by
  unfold tS
  rw [aZ_sF, aZ_sF]
/-- the class's bytes -/
def bX (H : mzH) (k : Nat) : Int := (aZ H 2 k).toInt
/-- blanks so far -/
def skI (b : Nat → Int) (i p : Nat) : Prop := i ≤ p ∧ ∀ k, i ≤ k → k < p → bB (b k)
theorem sk_0 {b : Nat → Int} {i : Nat} : skI b i i := ⟨Nat.le_refl _, fun k h1 h2 => absurd h2 (by omega)⟩
theorem sk_st {b : Nat → Int} {i p q : Nat} (h : skI b i p) (hq : q = p + 1) (hb : bB (b p)) : skI b i q := by
  refine ⟨by have := h.1; omega, fun k h1 h2 => ?_⟩
  if e : k = p then
    subst e
    exact hb
  else exact h.2 k h1 (by omega)
theorem sk_end {b : Nat → Int} {n i p : Nat} (h : skI b i p) (hp : p ≤ n) (hb : p < n → ¬ bB (b p)) : skP b n i p := ⟨h.1, hp, h.2, hb⟩
set_option maxRecDepth 4000 in
set_option maxHeartbeats 4000000 in
/-- X7.isLetter, exactly -/
theorem f_79 (H : mzH) (hI : gI SX H) (hJ : JX H) (x0 x1 : Int32) (hx0 : 0 ≤ x0.toInt ∧ x0.toInt ≤ 900) (hp0 : x0.toInt ≤ 899) : gCall 79 [.ref 20] (tS H x0 x1) (gRi (fun v H' => ∃ y0 y1 : Int32, H' = tS H y0 y1 ∧ (0 ≤ v.toInt ∧ v.toInt ≤ 1) ∧ y0 = x0 ∧ y1 = x1 ∧ (¬ v.toInt = 0 ↔ bL (bX H x0.toInt.toNat)))) := by
  refine gG_call [(0, .ref 20)] ⟨rfl, trivial⟩ ?_
  show gG 1 zB_79 (mzBlk zB_79 0) [(0, .ref 20)] [] (tS H x0 x1) 0 0 _
  refine g_aload_n rfl ?_
  refine g_gfr (tS_I hI (by omega)) sx_20 rfl ?_
  refine g_gfr (tS_I hI (by omega)) sx_1 rfl ?_
  refine g_aload_n rfl ?_
  refine g_gfk (tS_I hI (by omega)) sx_20 rfl (tS_g6 hI) ?_
  refine g_baload (tS_I hI (by omega)) sx_2 rfl (by omega) (fun v33 ev33 lv33 uv33 => ?_)
  have dv33 : v33 = aZ H 2 x0.toInt.toNat := ev33.trans tS_a
  have tv33 : v33.toInt = (aZ H 2 x0.toInt.toNat).toInt := by rw [dv33]
  have sv33 : v33.toInt = bX H x0.toInt.toNat := tv33
  refine g_bipush (by decide) (fun v34 kv34 => ?_)
  refine g_if2_lt (fun c35 => ?_) (fun c35 => ?_)
  · refine g_iconst (by decide) (fun v36 kv36 => ?_)
    refine g_nop ?_
    exact g_zret (by omega) ⟨_, rfl, x0, x1, rfl, (by omega), rfl, rfl, (by unfold bL; omega)⟩
  · refine g_aload_n rfl ?_
    refine g_gfr (tS_I hI (by omega)) sx_20 rfl ?_
    refine g_gfr (tS_I hI (by omega)) sx_1 rfl ?_
    refine g_aload_n rfl ?_
    refine g_gfk (tS_I hI (by omega)) sx_20 rfl (tS_g6 hI) ?_
    refine g_baloadk (tS_I hI (by omega)) sx_2 rfl (by omega) ev33 ?_
    refine g_bipush (by decide) (fun v37 kv37 => ?_)
    refine g_if2_gt (fun c38 => ?_) (fun c38 => ?_)
    · refine g_iconst (by decide) (fun v39 kv39 => ?_)
      refine g_nop ?_
      exact g_zret (by omega) ⟨_, rfl, x0, x1, rfl, (by omega), rfl, rfl, (by unfold bL; omega)⟩
    · refine g_iconst (by decide) (fun v40 kv40 => ?_)
      refine g_goto ?_
      exact g_zret (by omega) ⟨_, rfl, x0, x1, rfl, (by omega), rfl, rfl, (by unfold bL; omega)⟩
set_option maxRecDepth 4000 in
set_option maxHeartbeats 4000000 in
/-- X7.isDigit, exactly -/
theorem f_80 (H : mzH) (hI : gI SX H) (hJ : JX H) (x0 x1 : Int32) (hx0 : 0 ≤ x0.toInt ∧ x0.toInt ≤ 900) (hp0 : x0.toInt ≤ 899) : gCall 80 [.ref 20] (tS H x0 x1) (gRi (fun v H' => ∃ y0 y1 : Int32, H' = tS H y0 y1 ∧ (0 ≤ v.toInt ∧ v.toInt ≤ 1) ∧ y0 = x0 ∧ y1 = x1 ∧ (¬ v.toInt = 0 ↔ bD (bX H x0.toInt.toNat)))) := by
  refine gG_call [(0, .ref 20)] ⟨rfl, trivial⟩ ?_
  show gG 1 zB_80 (mzBlk zB_80 0) [(0, .ref 20)] [] (tS H x0 x1) 0 0 _
  refine g_aload_n rfl ?_
  refine g_gfr (tS_I hI (by omega)) sx_20 rfl ?_
  refine g_gfr (tS_I hI (by omega)) sx_1 rfl ?_
  refine g_aload_n rfl ?_
  refine g_gfk (tS_I hI (by omega)) sx_20 rfl (tS_g6 hI) ?_
  refine g_baload (tS_I hI (by omega)) sx_2 rfl (by omega) (fun v33 ev33 lv33 uv33 => ?_)
  have dv33 : v33 = aZ H 2 x0.toInt.toNat := ev33.trans tS_a
  have tv33 : v33.toInt = (aZ H 2 x0.toInt.toNat).toInt := by rw [dv33]
  have sv33 : v33.toInt = bX H x0.toInt.toNat := tv33
  refine g_bipush (by decide) (fun v34 kv34 => ?_)
  refine g_if2_lt (fun c35 => ?_) (fun c35 => ?_)
  · refine g_iconst (by decide) (fun v36 kv36 => ?_)
    refine g_nop ?_
    exact g_zret (by omega) ⟨_, rfl, x0, x1, rfl, (by omega), rfl, rfl, (by unfold bD; omega)⟩
  · refine g_aload_n rfl ?_
    refine g_gfr (tS_I hI (by omega)) sx_20 rfl ?_
    refine g_gfr (tS_I hI (by omega)) sx_1 rfl ?_
    refine g_aload_n rfl ?_
    refine g_gfk (tS_I hI (by omega)) sx_20 rfl (tS_g6 hI) ?_
    refine g_baloadk (tS_I hI (by omega)) sx_2 rfl (by omega) ev33 ?_
    refine g_bipush (by decide) (fun v37 kv37 => ?_)
    refine g_if2_gt (fun c38 => ?_) (fun c38 => ?_)
    · refine g_iconst (by decide) (fun v39 kv39 => ?_)
      refine g_nop ?_
      exact g_zret (by omega) ⟨_, rfl, x0, x1, rfl, (by omega), rfl, rfl, (by unfold bD; omega)⟩
    · refine g_iconst (by decide) (fun v40 kv40 => ?_)
      refine g_goto ?_
      exact g_zret (by omega) ⟨_, rfl, x0, x1, rfl, (by omega), rfl, rfl, (by unfold bD; omega)⟩
set_option maxRecDepth 4000 in
set_option maxHeartbeats 4000000 in
/-- X7.skipBlanks, exactly -/
theorem f_75 (H : mzH) (hI : gI SX H) (hJ : JX H) (x0 x1 : Int32) (hx0 : 0 ≤ x0.toInt ∧ x0.toInt ≤ 900) (hp0 : x0.toInt ≤ (fZ H 20 5).toInt) : gCall 75 [.ref 20] (tS H x0 x1) (gRv (fun H' => ∃ y0 y1 : Int32, H' = tS H y0 y1 ∧ y1 = x1 ∧ skP (bX H) (fZ H 20 5).toInt.toNat x0.toInt.toNat y0.toInt.toNat)) := by
  have w20_5 : 0 ≤ (fZ H 20 5).toInt ∧ (fZ H 20 5).toInt ≤ 900 := fZ_of hI sx_20 rfl
  refine gG_call [(0, .ref 20)] ⟨rfl, trivial⟩ ?_
  show gG 1 zB_75 (mzBlk zB_75 0) [(0, .ref 20)] [] (tS H x0 x1) 0 0 _
  have L126 : ∀ (N : Nat) (z125 : Int32), (0 ≤ z125.toInt ∧ z125.toInt ≤ 900) → z125.toInt ≤ (fZ H 20 5).toInt → skI (bX H) x0.toInt.toNat z125.toInt.toNat → (900 - z125.toInt).toNat < N → gG 1 zB_75 (mzBlk zB_75 0) [(0, .ref 20)] [] (tS H z125 x1) 0 0 (gRv (fun H' => ∃ y0 y1 : Int32, H' = tS H y0 y1 ∧ y1 = x1 ∧ skP (bX H) (fZ H 20 5).toInt.toNat x0.toInt.toNat y0.toInt.toNat)) := by
    intro N
    induction N with
    | zero => intro z125 bz125 q0 q1 hmL126; exact absurd hmL126 (Nat.not_lt_zero _)
    | succ N ihL126 =>
      intro z125 bz125 q0 q1 hmL126
      refine g_aload_n rfl ?_
      refine g_gfk (tS_I hI (by omega)) sx_20 rfl (tS_g6 hI) ?_
      refine g_aload_n rfl ?_
      refine g_gfk (tS_I hI (by omega)) sx_20 rfl (tS_o (by decide)) ?_
      refine g_if2_ge (fun c127 => ?_) (fun c127 => ?_)
      · exact g_ret ⟨rfl, z125, x1, rfl, rfl, (sk_end q1 (by omega) (fun h => by unfold bB; omega))⟩
      · refine g_aload_n rfl ?_
        refine g_gfr (tS_I hI (by omega)) sx_20 rfl ?_
        refine g_gfr (tS_I hI (by omega)) sx_1 rfl ?_
        refine g_aload_n rfl ?_
        refine g_gfk (tS_I hI (by omega)) sx_20 rfl (tS_g6 hI) ?_
        refine g_baload (tS_I hI (by omega)) sx_2 rfl (by omega) (fun v128 ev128 lv128 uv128 => ?_)
        have dv128 : v128 = aZ H 2 z125.toInt.toNat := ev128.trans tS_a
        have tv128 : v128.toInt = (aZ H 2 z125.toInt.toNat).toInt := by rw [dv128]
        have sv128 : v128.toInt = bX H z125.toInt.toNat := tv128
        refine g_bipush (by decide) (fun v129 kv129 => ?_)
        refine g_if2_eq (fun c130 => ?_) (fun c130 => ?_)
        · refine g_aload_n rfl ?_
          refine g_dup rfl ?_
          refine g_gfk (tS_I hI (by omega)) sx_20 rfl (tS_g6 hI) ?_
          refine g_iconst (by decide) (fun v131 kv131 => ?_)
          refine g_iadd (by omega) (fun v132 ev132 => ?_)
          refine g_pfi (tS_I hI (by omega)) sx_20 rfl (by omega) (fun H133 eH133 hIH133 => ?_)
          obtain rfl : H133 = (tS H v132 x1) := eH133.trans (tS_s6 hI)
          refine g_goto ?_
          exact ihL126 v132 (by omega) (by omega) (sk_st q1 (by omega) (by unfold bB; omega)) (by omega)
        · refine g_aload_n rfl ?_
          refine g_gfr (tS_I hI (by omega)) sx_20 rfl ?_
          refine g_gfr (tS_I hI (by omega)) sx_1 rfl ?_
          refine g_aload_n rfl ?_
          refine g_gfk (tS_I hI (by omega)) sx_20 rfl (tS_g6 hI) ?_
          refine g_baloadk (tS_I hI (by omega)) sx_2 rfl (by omega) ev128 ?_
          refine g_bipush (by decide) (fun v134 kv134 => ?_)
          refine g_if2_ne (fun c135 => ?_) (fun c135 => ?_)
          · exact g_ret ⟨rfl, z125, x1, rfl, rfl, (sk_end q1 (by omega) (fun h => by unfold bB; omega))⟩
          · refine g_nop ?_
            refine g_aload_n rfl ?_
            refine g_dup rfl ?_
            refine g_gfk (tS_I hI (by omega)) sx_20 rfl (tS_g6 hI) ?_
            refine g_iconst (by decide) (fun v136 kv136 => ?_)
            refine g_iadd (by omega) (fun v137 ev137 => ?_)
            refine g_pfi (tS_I hI (by omega)) sx_20 rfl (by omega) (fun H138 eH138 hIH138 => ?_)
            obtain rfl : H138 = (tS H v137 x1) := eH138.trans (tS_s6 hI)
            refine g_goto ?_
            exact ihL126 v137 (by omega) (by omega) (sk_st q1 (by omega) (by unfold bB; omega)) (by omega)
  exact L126 _ x0 (by omega) (by omega) (sk_0) (Nat.lt_succ_self _)
