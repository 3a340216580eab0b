/-! HEAPS WITH SOME FIELDS SET -/
theorem sF_same {H : mzH} {a f : Nat} {v w : Int32} : sF (sF H a f v) a f w = sF H a f w := by
  cases h : H[a]? with
  | none => unfold sF; simp only [h]
  | some c =>
    cases c with
    | inl q => unfold sF; simp only [h]
    | inr q =>
      obtain ⟨d, fs⟩ := q
      have hl : a < H.length := (List.getElem?_eq_some_iff.mp h).1
      unfold sF
      simp only [h, List.getElem?_set_self hl, List.set_set]
theorem sF_comm {H : mzH} {a f g : Nat} {v w : Int32} (hn : f ≠ g) : sF (sF H a f v) a g w = sF (sF H a g w) a f v := by
  cases h : H[a]? with
  | none => unfold sF; simp only [h]
  | some c =>
    cases c with
    | inl q => unfold sF; simp only [h]
    | inr q =>
      obtain ⟨d, fs⟩ := q
      have hl : a < H.length := (List.getElem?_eq_some_iff.mp h).1
      unfold sF
      simp only [h, List.getElem?_set_self hl, List.set_set]
      rw [List.set_comm _ _ hn]
theorem gz_add_of {a b v : Int32} (o : v = a + b) (h : -2147483648 ≤ a.toInt + b.toInt ∧ a.toInt + b.toInt ≤ 2147483647) : v.toInt = a.toInt + b.toInt := by
  rw [o]
  exact gz_add h
theorem gz_sub_of {a b v : Int32} (o : v = a - b) (h : -2147483648 ≤ a.toInt - b.toInt ∧ a.toInt - b.toInt ≤ 2147483647) : v.toInt = a.toInt - b.toInt := by
  rw [o]
  exact gz_sub h
theorem sF_cm2 {H : mzH} {a b f g : Nat} {v w : Int32} (hn : a ≠ b) : sF (sF H a f v) b g w = sF (sF H b g w) a f v := by
  have h1 : (sF H a f v)[b]? = H[b]? := by
    rcases gz_sF (H := H) (a := a) (f := f) (v := v) b with e | ⟨e, _⟩
    · exact e
    · exact absurd e hn
  have h2 : (sF H b g w)[a]? = H[a]? := by
    rcases gz_sF (H := H) (a := b) (f := g) (v := w) a with e | ⟨e, _⟩
    · exact e
    · exact absurd e.symm hn
  cases ha : H[a]? with
  | none =>
    rw [show sF H a f v = H by unfold sF; simp only [ha], show sF (sF H b g w) a f v = sF H b g w by rw [sF.eq_def (sF H b g w), h2]; simp only [ha]]
  | some ca =>
    cases hb : H[b]? with
    | none =>
      rw [show sF H b g w = H by unfold sF; simp only [hb], show sF (sF H a f v) b g w = sF H a f v by rw [sF.eq_def (sF H a f v), h1]; simp only [hb]]
    | some cb =>
      cases ca with
      | inl q => rw [show sF H a f v = H by unfold sF; simp only [ha], show sF (sF H b g w) a f v = sF H b g w by rw [sF.eq_def (sF H b g w), h2]; simp only [ha]]
      | inr q =>
        cases cb with
        | inl p => rw [show sF H b g w = H by unfold sF; simp only [hb], show sF (sF H a f v) b g w = sF H a f v by rw [sF.eq_def (sF H a f v), h1]; simp only [hb]]
        | inr p =>
          rw [sF.eq_def (sF H a f v) b g w, sF.eq_def (sF H b g w) a f v, h1, h2, ha, hb]
          simp only
          rw [show sF H a f v = H.set a (.inr (q.1, q.2.set f (.int v))) by unfold sF; rw [ha], show sF H b g w = H.set b (.inr (p.1, p.2.set g (.int w))) by unfold sF; rw [hb]]
          exact List.set_comm _ _ hn
theorem sA_sF {H : mzH} {a b f i : Nat} {v w : Int32} : sA (sF H a f v) b i w = sF (sA H b i w) a f v := by
  if hn : a = b then
    subst hn
    cases ha : H[a]? with
    | none =>
      rw [show sF H a f v = H by unfold sF; simp only [ha], show sA H a i w = H by unfold sA; simp only [ha], show sF H a f v = H by unfold sF; simp only [ha]]
    | some ca =>
      cases ca with
      | inr q =>
        have hl : a < H.length := (List.getElem?_eq_some_iff.mp ha).1
        rw [show sA H a i w = H by unfold sA; simp only [ha], show sF H a f v = H.set a (.inr (q.1, q.2.set f (.int v))) by unfold sF; simp only [ha]]
        unfold sA
        rw [List.getElem?_set_self hl]
      | inl q =>
        have hl : a < H.length := (List.getElem?_eq_some_iff.mp ha).1
        rw [show sF H a f v = H by unfold sF; simp only [ha], show sA H a i w = H.set a (.inl (q.1, q.2.set i w)) by unfold sA; simp only [ha]]
        unfold sF
        rw [List.getElem?_set_self hl]
  else
    have h1 : (sF H a f v)[b]? = H[b]? := by
      rcases gz_sF (H := H) (a := a) (f := f) (v := v) b with e | ⟨e, _⟩
      · exact e
      · exact absurd e hn
    have h2 : (sA H b i w)[a]? = H[a]? := by
      rcases gz_sA (H := H) (a := b) (i := i) (v := w) a with e | ⟨e, _⟩
      · exact e
      · exact absurd e.symm hn
    rw [sA.eq_def (sF H a f v) b i w, sF.eq_def (sA H b i w) a f v, h1, h2]
    cases ha : H[a]? with
    | none =>
      rw [show sF H a f v = H by unfold sF; simp only [ha]]
      simp only
      rfl
    | some ca =>
      cases hb : H[b]? with
      | none =>
        rw [show sA H b i w = H by unfold sA; simp only [hb]]
        simp only
        unfold sF
        rw [ha]
      | some cb =>
        cases ca with
        | inl q => rw [show sF H a f v = H by unfold sF; simp only [ha]]; simp only; unfold sA; rw [hb]
        | inr q =>
          cases cb with
          | inr p => rw [show sA H b i w = H by unfold sA; simp only [hb]]; simp only; unfold sF; rw [ha]
          | inl p =>
            simp only
            rw [show sF H a f v = H.set a (.inr (q.1, q.2.set f (.int v))) by unfold sF; rw [ha], show sA H b i w = H.set b (.inl (p.1, p.2.set i w)) by unfold sA; rw [hb]]
            exact List.set_comm _ _ hn
def ob (H : mzH) (a n : Nat) : Prop := ∃ d vs, H[a]? = some (.inr (d, vs)) ∧ n ≤ vs.length
theorem ob_of {S : List gSp} {H : mzH} {a d n : Nat} {fs : List gFs} (hI : gI S H) (hs : S[a]? = some (.inr (d, fs))) (hn : n ≤ fs.length) : ob H a n := by
  obtain ⟨vs, h1, h2, -⟩ := gI_obj hI hs
  exact ⟨d, vs, h1, by omega⟩
theorem ob_sF {H : mzH} {a n b g : Nat} {w : Int32} (h : ob H a n) : ob (sF H b g w) a n := by
  obtain ⟨d, vs, h1, h2⟩ := h
  rcases gz_sF (H := H) (a := b) (f := g) (v := w) a with e | ⟨_, d2, fs, e1, e2⟩
  · exact ⟨d, vs, e.trans h1, h2⟩
  · cases e1.symm.trans h1
    exact ⟨d, _, e2, by rw [List.length_set]; exact h2⟩
theorem fZ_sF_ob {H : mzH} {a f n : Nat} {v : Int32} (h : ob H a n) (hf : f < n) : fZ (sF H a f v) a f = v := by
  obtain ⟨d, vs, h1, h2⟩ := h
  have hla : a < H.length := (List.getElem?_eq_some_iff.mp h1).1
  unfold fZ sF
  rw [h1]
  simp only [List.getElem?_set_self hla, List.getElem?_set_self (show f < vs.length by omega)]
def tS (H : mzH) (x0 x1 : Int32) : mzH := (sF (sF H 20 6 x0) 20 7 x1)
theorem tS_s6 {H : mzH} {x0 x1 : Int32} {w : Int32} (_ : gI SX H) : sF (tS H x0 x1) 20 6 w = tS H w x1 := by
  unfold tS
  rw [sF_comm (f := 7) (g := 6) (by decide), sF_same]
theorem tS_g6 {H : mzH} {x0 x1 : Int32} (hI : gI SX H) : x0 = fZ (tS H x0 x1) 20 6 := by
  unfold tS
  rw [fZ_sF_ne (f := 7) (g := 6) (by decide), fZ_sF_ob (ob_of hI sx_20 (n := 8) (by decide)) (by decide)]
theorem tS_s7 {H : mzH} {x0 x1 : Int32} {w : Int32} (_ : gI SX H) : sF (tS H x0 x1) 20 7 w = tS H x0 w := by
  unfold tS
  rw [sF_same]
theorem tS_g7 {H : mzH} {x0 x1 : Int32} (hI : gI SX H) : x1 = fZ (tS H x0 x1) 20 7 := by
  unfold tS
  rw [fZ_sF_ob (ob_sF (ob_of hI sx_20 (n := 8) (by decide))) (by decide)]
theorem tS_I {H : mzH} {x0 x1 : Int32} (hI : gI SX H) (h0 : 0 ≤ x0.toInt ∧ x0.toInt ≤ 900) : gI SX (tS H x0 x1) := (gI_sF (gI_sF hI sx_20 rfl h0) sx_20 rfl (gz_any _))
theorem tS_J {H : mzH} {x0 x1 : Int32} (hJ : JX H) : JX (tS H x0 x1) := (JX_sF rfl (JX_sF rfl hJ))
theorem tS_o {H : mzH} {x0 x1 : Int32} {c f : Nat} (h : c ≠ 20 ∨ (f ≠ 6 ∧ f ≠ 7)) : fZ H c f = fZ (tS H x0 x1) c f := by
  unfold tS
  rcases h with h | h
  · rw [fZ_sF_nc (Ne.symm h), fZ_sF_nc (Ne.symm h)]
  · if hc : c = 20 then
      subst hc
      rw [fZ_sF_ne (f := 7) (by first | with_reducible assumption | omega), fZ_sF_ne (f := 6) (by first | with_reducible assumption | omega)]
    else rw [fZ_sF_nc (Ne.symm hc), fZ_sF_nc (Ne.symm hc)]
theorem tS_a {H : mzH} {x0 x1 : Int32} {c i : Nat} : aZ (tS H x0 x1) c i = aZ H c i := by
  unfold tS
  rw [aZ_sF, aZ_sF]
theorem tS_cA {H : mzH} {x0 x1 : Int32} {c i : Nat} {w : Int32} : sA (tS H x0 x1) c i w = tS (sA H c i w) x0 x1 := by
  unfold tS
  rw [sA_sF, sA_sF]
theorem tS_cF {H : mzH} {x0 x1 : Int32} {c f : Nat} {w : Int32} (h : c ≠ 20 ∨ (f ≠ 6 ∧ f ≠ 7)) : sF (tS H x0 x1) c f w = tS (sF H c f w) x0 x1 := by
  unfold tS
  rcases h with h | h
  · rw [sF_cm2 (a := 20) (b := c) (f := 7) (Ne.symm h), sF_cm2 (a := 20) (b := c) (f := 6) (Ne.symm h)]
  · if hc : c = 20 then
      subst hc
      rw [sF_comm (f := 7) (g := f) (by first | with_reducible assumption | omega), sF_comm (f := 6) (g := f) (by first | with_reducible assumption | omega)]
    else rw [sF_cm2 (a := 20) (b := c) (f := 7) (Ne.symm hc), sF_cm2 (a := 20) (b := c) (f := 6) (Ne.symm hc)]
/-- the class's bytes -/
def bX (H : mzH) (k : Nat) : Int := (aZ H 2 k).toInt
/-- blanks so far -/
def skI (b : Nat → Int) (i p : Nat) : Prop := i ≤ p ∧ ∀ k, i ≤ k → k < p → bB (b k)
theorem sk_0 {b : Nat → Int} {i : Nat} : skI b i i := ⟨Nat.le_refl _, fun k h1 h2 => absurd h2 (by first | with_reducible assumption | omega)⟩
theorem sk_st {b : Nat → Int} {i p q : Nat} (h : skI b i p) (hq : q = p + 1) (hb : bB (b p)) : skI b i q := by
  refine ⟨by have := h.1; omega, fun k h1 h2 => ?_⟩
  if e : k = p then
    subst e
    exact hb
  else exact h.2 k h1 (by first | with_reducible assumption | omega)
theorem sk_end {b : Nat → Int} {n i p : Nat} (h : skI b i p) (hp : p ≤ n) (hb : p < n → ¬ bB (b p)) : skP b n i p := ⟨h.1, hp, h.2, hb⟩
/-- a run so far -/
def rnI (P : Int → Prop) (b : Nat → Int) (s e : Nat) : Prop := s ≤ e ∧ ∀ k, s ≤ k → k < e → P (b k)
theorem rn_0 {P : Int → Prop} {b : Nat → Int} {i : Nat} : rnI P b i i := ⟨Nat.le_refl _, fun k h1 h2 => absurd h2 (by first | with_reducible assumption | omega)⟩
theorem rn_st {P : Int → Prop} {b : Nat → Int} {i p q : Nat} (h : rnI P b i p) (hq : q = p + 1) (hb : P (b p)) : rnI P b i q := by
  refine ⟨by have := h.1; omega, fun k h1 h2 => ?_⟩
  if e : k = p then
    subst e
    exact hb
  else exact h.2 k h1 (by first | with_reducible assumption | omega)
theorem rn_end {P : Int → Prop} {b : Nat → Int} {n i p : Nat} (h : rnI P b i p) (hs : P (b i)) (hi : i < n) (hp : p ≤ n) (hb : p < n → ¬ P (b p)) : rnP P b n i p := by
  refine ⟨?_, hp, h.2, hb⟩
  have := h.1
  if e : i = p then
    subst e
    exact absurd hs (hb hi)
  else omega
theorem sh_5 {a c v : Int32} (o : v = a <<< (c &&& 31)) (k : c.toInt = 5) (h : 0 ≤ a.toInt ∧ a.toInt < 33554432) : v.toInt = a.toInt * 32 := by
  have ec : c = 5 := Int32.toInt_inj.mp k
  subst ec
  subst o
  have e := pk_shl a (5 &&& 31) 5 (by decide)
  have e0 : a.toInt = (a.toBitVec.toNat : Int) := by
    have := BitVec.toInt_eq_toNat_cond a.toBitVec
    have h2 : a.toInt = a.toBitVec.toInt := rfl
    have h3 := a.toBitVec.isLt
    rw [h2] at h ⊢
    split at this <;> omega
  have e1 : (a <<< ((5 : Int32) &&& 31)).toInt = (a <<< ((5 : Int32) &&& 31)).toBitVec.toInt := rfl
  rw [e1, BitVec.toInt_eq_toNat_cond, e]
  split <;> omega
def wdI (b : Nat → Int) (s e : Nat) (v : Int) : Prop := s ≤ e ∧ rnI bL b s e ∧ (e - s ≤ 6 → v = wv b s (e - s))
theorem wd_0 {b : Nat → Int} {i : Nat} {v : Int} (hv : v = 0) : wdI b i i v := ⟨Nat.le_refl _, rn_0, fun _ => by rw [Nat.sub_self]; exact hv⟩
theorem p32 : ∀ k, k ≤ 5 → (32 : Int) ^ k ≤ 33554432 := by decide
theorem wd_st {b : Nat → Int} {i p q : Nat} {v w : Int} (h : wdI b i p v) (hq : q = p + 1) (hb : bL (b p)) (hw : 0 ≤ v → v < 33554432 → w = v * 32 + (b p - 96)) : wdI b i q w := by
  obtain ⟨h1, h2, h3⟩ := h
  refine ⟨by omega, rn_st h2 hq hb, fun h4 => ?_⟩
  have e : q - i = (p - i) + 1 := by omega
  rw [e] at h4 ⊢
  unfold wv
  have h5 := h3 (by first | with_reducible assumption | omega)
  have h6 := wv_bd (b := b) (s := i) (p - i) (fun k hk => h2.2 _ (by first | with_reducible assumption | omega) (by first | with_reducible assumption | omega))
  have h7 := p32 (p - i) (by first | with_reducible assumption | omega)
  rw [← h5] at h6 ⊢
  rw [show i + (p - i) = p by omega]
  exact hw h6.1 (by first | with_reducible assumption | omega)
theorem wd_end {b : Nat → Int} {n i p : Nat} {v : Int} (h : wdI b i p v) (hs : bL (b i)) (hi : i < n ∧ p ≤ n) (hb : p < n → ¬ bL (b p)) : rnP bL b n i p := rn_end h.2.1 hs hi.1 hi.2 hb
/-- a token of the class: where it stands, where it ends, its kind and its value -/
def tkX (b : Nat → Int) (n s e : Nat) (k v : Int) : Prop := (rnP bL b n s e ∧ ((e - s ≤ 6 ∧ v = wv b s (e - s) ∧ kwX k v) ∨ (6 < e - s ∧ k = 22))) ∨ (rnP bD b n s e ∧ k = 19 ∧ v = dC b s (e - s)) ∨ (¬ bL (b s) ∧ ¬ bD (b s) ∧ s < n ∧ e = s + 1 ∧ ((b s = 59 ∧ k = 20) ∨ (b s ≠ 59 ∧ k = 22)))
/-! the class's LANGUAGE, sign by sign -/
def lgC (i : Nat) : Int := (sCh 0 i).toInt
def lgT : Nat → Nat × Int
  | 0 => (0, 0)
  | i + 1 => if lgC i = 32 then ((lgT i).1 + 1, 0) else ((lgT i).1, (lgT i).2 * 32 + (lgC i - 96))
set_option maxRecDepth 100000 in
theorem lg_tb : ∀ i, i < 91 → (lgC i = 32 ∧ (lgT i).1 < 18 ∧ (lgT i).2 = cX.getD (lgT i).1 0) ∨ (97 ≤ lgC i ∧ 0 ≤ (lgT i).2 ∧ (lgT i).2 < 33554432) := by decide +kernel
set_option maxRecDepth 100000 in
theorem lg_91 : (lgT 91).1 = 18 := by decide +kernel
/-- the words so far are others -/
def lgI (x n w : Int) (i : Nat) : Prop := n = ((lgT i).1 : Int) ∧ w = (lgT i).2 ∧ ∀ j : Nat, (j : Int) < n → x ≠ cX.getD j 0
theorem lg_0 {x n w : Int} {i : Nat} (hn : n = 0) (hw : w = 0) (hi : i = 0) : lgI x n w i := by
  subst hi
  exact ⟨hn, hw, fun j hj => by omega⟩
theorem lg_sp {x n w n' w' : Int} {i i' : Nat} (h : lgI x n w i) (hi : i' = i + 1) (hl : i < 91) (hc : lgC i = 32) (hn : n' = n + 1) (hw : w' = 0) (hx : w ≠ x) : lgI x n' w' i' := by
  obtain ⟨h1, h2, h3⟩ := h
  rcases lg_tb i hl with ⟨_, a, b⟩ | ⟨a, _⟩
  · subst hi
    refine ⟨?_, ?_, fun j hj => ?_⟩
    · unfold lgT
      rw [if_pos hc]
      simp only
      omega
    · unfold lgT
      rw [if_pos hc]
      exact hw
    · if e : (j : Int) < n then exact h3 j e
      else
        have ej : j = (lgT i).1 := by omega
        rw [ej, ← b, ← h2]
        exact fun e => hx e.symm
  · omega
theorem lg_ch {x n w w' : Int} {i i' : Nat} (h : lgI x n w i) (hi : i' = i + 1) (hl : i < 91) (hc : ¬ lgC i = 32) (hn : n = n) (hw : 0 ≤ w → w < 33554432 → 97 ≤ lgC i → w' = w * 32 + (lgC i - 96)) : lgI x n w' i' := by
  obtain ⟨h1, h2, h3⟩ := h
  rcases lg_tb i hl with ⟨a, _⟩ | ⟨a, b, d⟩
  · exact absurd a hc
  · subst hi
    refine ⟨?_, ?_, h3⟩
    · unfold lgT
      rw [if_neg hc]
      exact h1
    · unfold lgT
      rw [if_neg hc]
      simp only
      rw [← h2]
      exact hw (by first | with_reducible assumption | omega) (by first | with_reducible assumption | omega) a
theorem lg_hit {x n w : Int} {i : Nat} (h : lgI x n w i) (hl : i < 91) (hc : lgC i = 32) (hx : w = x) : kwX n x := by
  obtain ⟨h1, h2, h3⟩ := h
  rcases lg_tb i hl with ⟨_, a, b⟩ | ⟨a, _⟩
  · refine Or.inr ⟨by omega, by omega, ?_⟩
    rw [show n.toNat = (lgT i).1 by omega, ← b, ← h2]
    exact hx.symm
  · omega
theorem lg_lt {x n w : Int} {i : Nat} (h : lgI x n w i) (hl : i < 91) (hc : lgC i = 32) : n < 18 := by
  obtain ⟨h1, h2, h3⟩ := h
  rcases lg_tb i hl with ⟨_, a, b⟩ | ⟨a, _⟩ <;> omega
theorem lg_end {x n w k : Int} {i : Nat} (h : lgI x n w i) (hl : i = 91) (hk : k = 18) : kwX k x := by
  obtain ⟨h1, h2, h3⟩ := h
  subst hl
  rw [lg_91] at h1
  exact Or.inl ⟨hk, fun j hj => h3 j (by first | with_reducible assumption | omega)⟩
def dgI (b : Nat → Int) (s e : Nat) (v : Int) : Prop := s ≤ e ∧ rnI bD b s e ∧ v = dC b s (e - s)
theorem dg_0 {b : Nat → Int} {i : Nat} {v : Int} (hv : v = 0) : dgI b i i v := ⟨Nat.le_refl _, rn_0, by rw [Nat.sub_self]; exact hv⟩
theorem dg_st {b : Nat → Int} {i p q : Nat} {v w : Int} (h : dgI b i p v) (hq : q = p + 1) (hb : bD (b p)) (hw : w = min (v * 10 + (b p - 48)) 100000) : dgI b i q w := by
  obtain ⟨h1, h2, h3⟩ := h
  refine ⟨by omega, rn_st h2 hq hb, ?_⟩
  have e : q - i = (p - i) + 1 := by omega
  rw [e]
  unfold dC
  rw [← h3, show i + (p - i) = p by omega]
  exact hw
theorem dg_end {b : Nat → Int} {n i p : Nat} {v : Int} (h : dgI b i p v) (hs : bD (b i)) (hi : i < n ∧ p ≤ n) (hb : p < n → ¬ bD (b p)) : rnP bD b n i p := rn_end h.2.1 hs hi.1 hi.2 hb
set_option maxRecDepth 4000 in
set_option maxHeartbeats 4000000 in
/-- X7.isLetter, exactly -/
theorem f_79 (H : mzH) (hI : gI SX H) (hJ : JX H) (x0 x1 : Int32) (hx0 : 0 ≤ x0.toInt ∧ x0.toInt ≤ 900) (hp0 : x0.toInt ≤ 899) : gCall 79 [.ref 20] (tS H x0 x1) (gRi (fun v H' => H' = tS H x0 x1 ∧ (0 ≤ v.toInt ∧ v.toInt ≤ 1) ∧ (¬ v.toInt = 0 ↔ bL (bX H x0.toInt.toNat)))) := by
  refine gG_call [(0, .ref 20)] ⟨rfl, trivial⟩ ?_
  show gG 1 zB_79 (mzBlk zB_79 0) [(0, .ref 20)] [] (tS H x0 x1) 0 0 _
  refine g_aload_n rfl ?_
  refine g_gfr (tS_I hI (by first | with_reducible assumption | omega)) sx_20 rfl ?_
  refine g_gfr (tS_I hI (by first | with_reducible assumption | omega)) sx_1 rfl ?_
  refine g_aload_n rfl ?_
  refine g_gfk (tS_I hI (by first | with_reducible assumption | omega)) sx_20 rfl (tS_g6 hI) ?_
  refine g_baload (tS_I hI (by first | with_reducible assumption | omega)) sx_2 rfl (by first | with_reducible assumption | omega) (fun v33 ev33 lv33 uv33 => ?_)
  have dv33 : v33 = aZ H 2 x0.toInt.toNat := ev33.trans tS_a
  have tv33 : v33.toInt = (aZ H 2 x0.toInt.toNat).toInt := by rw [dv33]
  have sv33 : v33.toInt = bX H x0.toInt.toNat := tv33
  refine g_bipush (by decide) (fun v34 kv34 => ?_)
  refine g_if2_lt (fun c35 => ?_) (fun c35 => ?_)
  · refine g_iconst (by decide) (fun v36 kv36 => ?_)
    refine g_nop ?_
    exact g_zret (by first | with_reducible assumption | omega) ⟨_, rfl, rfl, (by first | with_reducible assumption | omega), (by unfold bL; omega)⟩
  · refine g_aload_n rfl ?_
    refine g_gfr (tS_I hI (by first | with_reducible assumption | omega)) sx_20 rfl ?_
    refine g_gfr (tS_I hI (by first | with_reducible assumption | omega)) sx_1 rfl ?_
    refine g_aload_n rfl ?_
    refine g_gfk (tS_I hI (by first | with_reducible assumption | omega)) sx_20 rfl (tS_g6 hI) ?_
    refine g_baloadk (tS_I hI (by first | with_reducible assumption | omega)) sx_2 rfl (by first | with_reducible assumption | omega) ev33 ?_
    refine g_bipush (by decide) (fun v37 kv37 => ?_)
    refine g_if2_gt (fun c38 => ?_) (fun c38 => ?_)
    · refine g_iconst (by decide) (fun v39 kv39 => ?_)
      refine g_nop ?_
      exact g_zret (by first | with_reducible assumption | omega) ⟨_, rfl, rfl, (by first | with_reducible assumption | omega), (by unfold bL; omega)⟩
    · refine g_iconst (by decide) (fun v40 kv40 => ?_)
      refine g_goto ?_
      exact g_zret (by first | with_reducible assumption | omega) ⟨_, rfl, rfl, (by first | with_reducible assumption | omega), (by unfold bL; omega)⟩
set_option maxRecDepth 4000 in
set_option maxHeartbeats 4000000 in
/-- X7.isDigit, exactly -/
theorem f_80 (H : mzH) (hI : gI SX H) (hJ : JX H) (x0 x1 : Int32) (hx0 : 0 ≤ x0.toInt ∧ x0.toInt ≤ 900) (hp0 : x0.toInt ≤ 899) : gCall 80 [.ref 20] (tS H x0 x1) (gRi (fun v H' => H' = tS H x0 x1 ∧ (0 ≤ v.toInt ∧ v.toInt ≤ 1) ∧ (¬ v.toInt = 0 ↔ bD (bX H x0.toInt.toNat)))) := by
  refine gG_call [(0, .ref 20)] ⟨rfl, trivial⟩ ?_
  show gG 1 zB_80 (mzBlk zB_80 0) [(0, .ref 20)] [] (tS H x0 x1) 0 0 _
  refine g_aload_n rfl ?_
  refine g_gfr (tS_I hI (by first | with_reducible assumption | omega)) sx_20 rfl ?_
  refine g_gfr (tS_I hI (by first | with_reducible assumption | omega)) sx_1 rfl ?_
  refine g_aload_n rfl ?_
  refine g_gfk (tS_I hI (by first | with_reducible assumption | omega)) sx_20 rfl (tS_g6 hI) ?_
  refine g_baload (tS_I hI (by first | with_reducible assumption | omega)) sx_2 rfl (by first | with_reducible assumption | omega) (fun v33 ev33 lv33 uv33 => ?_)
  have dv33 : v33 = aZ H 2 x0.toInt.toNat := ev33.trans tS_a
  have tv33 : v33.toInt = (aZ H 2 x0.toInt.toNat).toInt := by rw [dv33]
  have sv33 : v33.toInt = bX H x0.toInt.toNat := tv33
  refine g_bipush (by decide) (fun v34 kv34 => ?_)
  refine g_if2_lt (fun c35 => ?_) (fun c35 => ?_)
  · refine g_iconst (by decide) (fun v36 kv36 => ?_)
    refine g_nop ?_
    exact g_zret (by first | with_reducible assumption | omega) ⟨_, rfl, rfl, (by first | with_reducible assumption | omega), (by unfold bD; omega)⟩
  · refine g_aload_n rfl ?_
    refine g_gfr (tS_I hI (by first | with_reducible assumption | omega)) sx_20 rfl ?_
    refine g_gfr (tS_I hI (by first | with_reducible assumption | omega)) sx_1 rfl ?_
    refine g_aload_n rfl ?_
    refine g_gfk (tS_I hI (by first | with_reducible assumption | omega)) sx_20 rfl (tS_g6 hI) ?_
    refine g_baloadk (tS_I hI (by first | with_reducible assumption | omega)) sx_2 rfl (by first | with_reducible assumption | omega) ev33 ?_
    refine g_bipush (by decide) (fun v37 kv37 => ?_)
    refine g_if2_gt (fun c38 => ?_) (fun c38 => ?_)
    · refine g_iconst (by decide) (fun v39 kv39 => ?_)
      refine g_nop ?_
      exact g_zret (by first | with_reducible assumption | omega) ⟨_, rfl, rfl, (by first | with_reducible assumption | omega), (by unfold bD; omega)⟩
    · refine g_iconst (by decide) (fun v40 kv40 => ?_)
      refine g_goto ?_
      exact g_zret (by first | with_reducible assumption | omega) ⟨_, rfl, rfl, (by first | with_reducible assumption | omega), (by unfold bD; omega)⟩
set_option maxRecDepth 4000 in
set_option maxHeartbeats 4000000 in
/-- X7.skipBlanks, exactly -/
theorem f_75 (H : mzH) (hI : gI SX H) (hJ : JX H) (x0 x1 : Int32) (hx0 : 0 ≤ x0.toInt ∧ x0.toInt ≤ 900) (hp0 : x0.toInt ≤ (fZ H 20 5).toInt) : gCall 75 [.ref 20] (tS H x0 x1) (gRv (fun H' => ∃ y0 : Int32, H' = tS H y0 x1 ∧ (0 ≤ y0.toInt ∧ y0.toInt ≤ 900) ∧ skP (bX H) (fZ H 20 5).toInt.toNat x0.toInt.toNat y0.toInt.toNat)) := by
  have w20_5 : 0 ≤ (fZ H 20 5).toInt ∧ (fZ H 20 5).toInt ≤ 900 := fZ_of hI sx_20 rfl
  refine gG_call [(0, .ref 20)] ⟨rfl, trivial⟩ ?_
  show gG 1 zB_75 (mzBlk zB_75 0) [(0, .ref 20)] [] (tS H x0 x1) 0 0 _
  have L126 : ∀ (N : Nat) (z125 : Int32), (0 ≤ z125.toInt ∧ z125.toInt ≤ 900) → z125.toInt ≤ (fZ H 20 5).toInt → skI (bX H) x0.toInt.toNat z125.toInt.toNat → (900 - z125.toInt).toNat < N → gG 1 zB_75 (mzBlk zB_75 0) [(0, .ref 20)] [] (tS H z125 x1) 0 0 (gRv (fun H' => ∃ y0 : Int32, H' = tS H y0 x1 ∧ (0 ≤ y0.toInt ∧ y0.toInt ≤ 900) ∧ skP (bX H) (fZ H 20 5).toInt.toNat x0.toInt.toNat y0.toInt.toNat)) := by
    intro N
    induction N with
    | zero => intro z125 bz125 q0 q1 hmL126; exact absurd hmL126 (Nat.not_lt_zero _)
    | succ N ihL126 =>
      intro z125 bz125 q0 q1 hmL126
      refine g_aload_n rfl ?_
      refine g_gfk (tS_I hI (by first | with_reducible assumption | omega)) sx_20 rfl (tS_g6 hI) ?_
      refine g_aload_n rfl ?_
      refine g_gfk (tS_I hI (by first | with_reducible assumption | omega)) sx_20 rfl (tS_o (by decide)) ?_
      refine g_if2_ge (fun c127 => ?_) (fun c127 => ?_)
      · exact g_ret ⟨rfl, z125, rfl, (by first | with_reducible assumption | omega), (sk_end q1 (by first | with_reducible assumption | omega) (fun h => by unfold bB; omega))⟩
      · refine g_aload_n rfl ?_
        refine g_gfr (tS_I hI (by first | with_reducible assumption | omega)) sx_20 rfl ?_
        refine g_gfr (tS_I hI (by first | with_reducible assumption | omega)) sx_1 rfl ?_
        refine g_aload_n rfl ?_
        refine g_gfk (tS_I hI (by first | with_reducible assumption | omega)) sx_20 rfl (tS_g6 hI) ?_
        refine g_baload (tS_I hI (by first | with_reducible assumption | omega)) sx_2 rfl (by first | with_reducible assumption | omega) (fun v128 ev128 lv128 uv128 => ?_)
        have dv128 : v128 = aZ H 2 z125.toInt.toNat := ev128.trans tS_a
        have tv128 : v128.toInt = (aZ H 2 z125.toInt.toNat).toInt := by rw [dv128]
        have sv128 : v128.toInt = bX H z125.toInt.toNat := tv128
        refine g_bipush (by decide) (fun v129 kv129 => ?_)
        refine g_if2_eq (fun c130 => ?_) (fun c130 => ?_)
        · refine g_aload_n rfl ?_
          refine g_dup rfl ?_
          refine g_gfk (tS_I hI (by first | with_reducible assumption | omega)) sx_20 rfl (tS_g6 hI) ?_
          refine g_iconst (by decide) (fun v131 kv131 => ?_)
          refine g_iadd (by first | with_reducible assumption | omega) (fun v132 ev132 => ?_)
          refine g_pfi (tS_I hI (by first | with_reducible assumption | omega)) sx_20 rfl (by first | with_reducible assumption | omega) (fun H133 eH133 hIH133 => ?_)
          obtain rfl : H133 = (tS H v132 x1) := eH133.trans (tS_s6 hI)
          refine g_goto ?_
          exact ihL126 v132 (by first | with_reducible assumption | omega) (by first | with_reducible assumption | omega) (sk_st q1 (by first | with_reducible assumption | omega) (by unfold bB; omega)) (by first | with_reducible assumption | omega)
        · refine g_aload_n rfl ?_
          refine g_gfr (tS_I hI (by first | with_reducible assumption | omega)) sx_20 rfl ?_
          refine g_gfr (tS_I hI (by first | with_reducible assumption | omega)) sx_1 rfl ?_
          refine g_aload_n rfl ?_
          refine g_gfk (tS_I hI (by first | with_reducible assumption | omega)) sx_20 rfl (tS_g6 hI) ?_
          refine g_baloadk (tS_I hI (by first | with_reducible assumption | omega)) sx_2 rfl (by first | with_reducible assumption | omega) ev128 ?_
          refine g_bipush (by decide) (fun v134 kv134 => ?_)
          refine g_if2_ne (fun c135 => ?_) (fun c135 => ?_)
          · exact g_ret ⟨rfl, z125, rfl, (by first | with_reducible assumption | omega), (sk_end q1 (by first | with_reducible assumption | omega) (fun h => by unfold bB; omega))⟩
          · refine g_nop ?_
            refine g_aload_n rfl ?_
            refine g_dup rfl ?_
            refine g_gfk (tS_I hI (by first | with_reducible assumption | omega)) sx_20 rfl (tS_g6 hI) ?_
            refine g_iconst (by decide) (fun v136 kv136 => ?_)
            refine g_iadd (by first | with_reducible assumption | omega) (fun v137 ev137 => ?_)
            refine g_pfi (tS_I hI (by first | with_reducible assumption | omega)) sx_20 rfl (by first | with_reducible assumption | omega) (fun H138 eH138 hIH138 => ?_)
            obtain rfl : H138 = (tS H v137 x1) := eH138.trans (tS_s6 hI)
            refine g_goto ?_
            exact ihL126 v137 (by first | with_reducible assumption | omega) (by first | with_reducible assumption | omega) (sk_st q1 (by first | with_reducible assumption | omega) (by unfold bB; omega)) (by first | with_reducible assumption | omega)
  exact L126 _ x0 (by first | with_reducible assumption | omega) (by first | with_reducible assumption | omega) (sk_0) (Nat.lt_succ_self _)
set_option maxRecDepth 4000 in
set_option maxHeartbeats 4000000 in
/-- X7.passDigits, exactly -/
theorem f_78 (H : mzH) (hI : gI SX H) (hJ : JX H) (x0 x1 : Int32) (hx0 : 0 ≤ x0.toInt ∧ x0.toInt ≤ 900) (hp0 : x0.toInt < (fZ H 20 5).toInt) (hp1 : bD (bX H x0.toInt.toNat)) (hp2 : x1.toInt = 0) : gCall 78 [.ref 20] (tS H x0 x1) (gRv (fun H' => ∃ y0 y1 : Int32, H' = tS H y0 y1 ∧ (0 ≤ y0.toInt ∧ y0.toInt ≤ 900) ∧ (0 ≤ y1.toInt ∧ y1.toInt ≤ 100000) ∧ rnP bD (bX H) (fZ H 20 5).toInt.toNat x0.toInt.toNat y0.toInt.toNat ∧ y1.toInt = dC (bX H) x0.toInt.toNat (y0.toInt.toNat - x0.toInt.toNat))) := by
  have w20_5 : 0 ≤ (fZ H 20 5).toInt ∧ (fZ H 20 5).toInt ≤ 900 := fZ_of hI sx_20 rfl
  refine gG_call [(0, .ref 20)] ⟨rfl, trivial⟩ ?_
  show gG 1 zB_78 (mzBlk zB_78 0) [(0, .ref 20)] [] (tS H x0 x1) 0 0 _
  have L155 : ∀ (N : Nat) (z153 : Int32) (z154 : Int32), (0 ≤ z153.toInt ∧ z153.toInt ≤ 900) → (0 ≤ z154.toInt ∧ z154.toInt ≤ 100000) → z153.toInt ≤ (fZ H 20 5).toInt → dgI (bX H) x0.toInt.toNat z153.toInt.toNat z154.toInt → (900 - z153.toInt).toNat < N → gG 1 zB_78 (mzBlk zB_78 0) [(0, .ref 20)] [] (tS H z153 z154) 0 0 (gRv (fun H' => ∃ y0 y1 : Int32, H' = tS H y0 y1 ∧ (0 ≤ y0.toInt ∧ y0.toInt ≤ 900) ∧ (0 ≤ y1.toInt ∧ y1.toInt ≤ 100000) ∧ rnP bD (bX H) (fZ H 20 5).toInt.toNat x0.toInt.toNat y0.toInt.toNat ∧ y1.toInt = dC (bX H) x0.toInt.toNat (y0.toInt.toNat - x0.toInt.toNat))) := by
    intro N
    induction N with
    | zero => intro z153 z154 bz153 bz154 q0 q1 hmL155; exact absurd hmL155 (Nat.not_lt_zero _)
    | succ N ihL155 =>
      intro z153 z154 bz153 bz154 q0 q1 hmL155
      refine g_aload_n rfl ?_
      refine g_gfk (tS_I hI (by first | with_reducible assumption | omega)) sx_20 rfl (tS_g6 hI) ?_
      refine g_aload_n rfl ?_
      refine g_gfk (tS_I hI (by first | with_reducible assumption | omega)) sx_20 rfl (tS_o (by decide)) ?_
      refine g_if2_ge (fun c156 => ?_) (fun c156 => ?_)
      · exact g_ret ⟨rfl, z153, z154, rfl, (by first | with_reducible assumption | omega), (by first | with_reducible assumption | omega), (dg_end q1 hp1 (by first | with_reducible assumption | omega) (fun h => by unfold bD; omega)), q1.2.2⟩
      · refine g_aload_n rfl ?_
        refine g_invvi (tS_I hI (by first | with_reducible assumption | omega)) sx_20 rfl rfl rfl rfl (f_80 H hI hJ z153 z154 (by first | with_reducible assumption | omega) (by first | with_reducible assumption | omega)) (fun v159 H157 r158 => ?_)
        obtain ⟨rfl, bv159, zp160⟩ := r158
        unfold bD at zp160
        refine g_if_eq (fun c161 => ?_) (fun c161 => ?_)
        · exact g_ret ⟨rfl, z153, z154, rfl, (by first | with_reducible assumption | omega), (by first | with_reducible assumption | omega), (dg_end q1 hp1 (by first | with_reducible assumption | omega) (fun h => by unfold bD; omega)), q1.2.2⟩
        · refine g_aload_n rfl ?_
          refine g_aload_n rfl ?_
          refine g_gfk (tS_I hI (by first | with_reducible assumption | omega)) sx_20 rfl (tS_g7 hI) ?_
          refine g_bipush (by decide) (fun v162 kv162 => ?_)
          refine g_imulk (n := 10) kv162 (by first | with_reducible assumption | omega) (fun v163 ev163 => ?_)
          refine g_aload_n rfl ?_
          refine g_gfr (tS_I hI (by first | with_reducible assumption | omega)) sx_20 rfl ?_
          refine g_gfr (tS_I hI (by first | with_reducible assumption | omega)) sx_1 rfl ?_
          refine g_aload_n rfl ?_
          refine g_gfk (tS_I hI (by first | with_reducible assumption | omega)) sx_20 rfl (tS_g6 hI) ?_
          refine g_baload (tS_I hI (by first | with_reducible assumption | omega)) sx_2 rfl (by first | with_reducible assumption | omega) (fun v164 ev164 lv164 uv164 => ?_)
          have dv164 : v164 = aZ H 2 z153.toInt.toNat := ev164.trans tS_a
          have tv164 : v164.toInt = (aZ H 2 z153.toInt.toNat).toInt := by rw [dv164]
          have sv164 : v164.toInt = bX H z153.toInt.toNat := tv164
          refine g_iadd (by first | with_reducible assumption | omega) (fun v165 ev165 => ?_)
          refine g_bipush (by decide) (fun v166 kv166 => ?_)
          refine g_isub (by first | with_reducible assumption | omega) (fun v167 ev167 => ?_)
          refine g_ldc (by decide) (fun v168 kv168 => ?_)
          refine g_min rfl (fun v169 av169 bv169 dv169 => ?_)
          refine g_pfi (tS_I hI (by first | with_reducible assumption | omega)) sx_20 rfl (gz_any _) (fun H170 eH170 hIH170 => ?_)
          obtain rfl : H170 = (tS H z153 v169) := eH170.trans (tS_s7 hI)
          refine g_aload_n rfl ?_
          refine g_dup rfl ?_
          refine g_gfk (tS_I hI (by first | with_reducible assumption | omega)) sx_20 rfl (tS_g6 hI) ?_
          refine g_iconst (by decide) (fun v171 kv171 => ?_)
          refine g_iadd (by first | with_reducible assumption | omega) (fun v172 ev172 => ?_)
          refine g_pfi (tS_I hI (by first | with_reducible assumption | omega)) sx_20 rfl (by first | with_reducible assumption | omega) (fun H173 eH173 hIH173 => ?_)
          obtain rfl : H173 = (tS H v172 v169) := eH173.trans (tS_s6 hI)
          refine g_goto ?_
          exact ihL155 v172 v169 (by first | with_reducible assumption | omega) (by first | with_reducible assumption | omega) (by first | with_reducible assumption | omega) (dg_st q1 (by first | with_reducible assumption | omega) (by unfold bD; omega) (by first | with_reducible assumption | omega)) (by first | with_reducible assumption | omega)
  exact L155 _ x0 x1 (by first | with_reducible assumption | omega) (by first | with_reducible assumption | omega) (by first | with_reducible assumption | omega) (dg_0 (by first | with_reducible assumption | omega)) (Nat.lt_succ_self _)
set_option maxRecDepth 4000 in
set_option maxHeartbeats 4000000 in
/-- X7.kindOfWord, exactly -/
theorem f_81 (H : mzH) (hI : gI SX H) (hJ : JX H) (x0 x1 : Int32) (hx0 : 0 ≤ x0.toInt ∧ x0.toInt ≤ 900) : gCall 81 [.ref 20] (tS H x0 x1) (gRi (fun v H' => H' = tS H x0 x1 ∧ (0 ≤ v.toInt ∧ v.toInt ≤ 18) ∧ kwX v.toInt x1.toInt)) := by
  refine gG_call [(0, .ref 20)] ⟨rfl, trivial⟩ ?_
  show gG 5 zB_81 (mzBlk zB_81 0) [(0, .ref 20)] [] (tS H x0 x1) 0 0 _
  refine g_iconst (by decide) (fun v437 kv437 => ?_)
  refine g_istore_n (l' := [(0, .ref 20), (1, .int v437)]) rfl rfl ?_
  refine g_iconst (by decide) (fun v438 kv438 => ?_)
  refine g_istore_n (l' := [(0, .ref 20), (1, .int v437), (2, .int v438)]) rfl rfl ?_
  refine g_iconst (by decide) (fun v439 kv439 => ?_)
  refine g_istore_n (l' := [(0, .ref 20), (1, .int v437), (2, .int v438), (3, .int v439)]) rfl rfl ?_
  refine g_nop ?_
  have L443 : ∀ (N : Nat) (v440 : Int32) (v441 : Int32) (v442 : Int32), (0 ≤ v440.toInt ∧ v440.toInt ≤ 18) → (0 ≤ v442.toInt ∧ v442.toInt ≤ 91) → lgI x1.toInt v440.toInt v441.toInt v442.toInt.toNat → (91 - v442.toInt).toNat < N → gG 5 zB_81 (mzBlk zB_81 1) [(0, .ref 20), (1, .int v440), (2, .int v441), (3, .int v442)] [] (tS H x0 x1) 0 0 (gRi (fun v H' => H' = tS H x0 x1 ∧ (0 ≤ v.toInt ∧ v.toInt ≤ 18) ∧ kwX v.toInt x1.toInt)) := by
    intro N
    induction N with
    | zero => intro v440 v441 v442 bv440 bv442 q1 hmL443; exact absurd hmL443 (Nat.not_lt_zero _)
    | succ N ihL443 =>
      intro v440 v441 v442 bv440 bv442 q1 hmL443
      refine g_iload_n rfl ?_
      refine g_strl (by decide) rfl (fun v444 kv444 => ?_)
      refine g_if2_ge (fun c445 => ?_) (fun c445 => ?_)
      · refine g_bipush (by decide) (fun v446 kv446 => ?_)
        exact g_iret ⟨_, rfl, rfl, (by first | with_reducible assumption | omega), (lg_end q1 (by first | with_reducible assumption | omega) (by first | with_reducible assumption | omega))⟩
      · refine g_str1 (by decide) rfl rfl (by first | with_reducible assumption | omega) (fun v447 ev447 lv447 uv447 dv447 => ?_)
        have sv447 : v447.toInt = lgC v442.toInt.toNat := by rw [ev447]; rfl
        refine g_istore (l' := [(0, .ref 20), (1, .int v440), (2, .int v441), (3, .int v442), (4, .int v447)]) rfl rfl ?_
        refine g_iload rfl ?_
        refine g_bipush (by decide) (fun v448 kv448 => ?_)
        refine g_if2_eq (fun c449 => ?_) (fun c449 => ?_)
        · have h17 := lg_lt q1 (by first | with_reducible assumption | omega) (by first | with_reducible assumption | omega)
          refine g_iload_n rfl ?_
          refine g_aload_n rfl ?_
          refine g_gfk (tS_I hI (by first | with_reducible assumption | omega)) sx_20 rfl (tS_g7 hI) ?_
          refine g_if2_ne (fun c450 => ?_) (fun c450 => ?_)
          · refine g_iinc (l' := (fun v451 => [(0, .ref 20), (1, .int v451), (2, .int v441), (3, .int v442), (4, .int v447)])) rfl rfl (by decide) (by first | with_reducible assumption | omega) (fun _ => rfl) (fun v451 ev451 => ?_)
            refine g_iconst (by decide) (fun v452 kv452 => ?_)
            refine g_istore_n (l' := [(0, .ref 20), (1, .int v451), (2, .int v452), (3, .int v442), (4, .int v447)]) rfl rfl ?_
            refine g_nop ?_
            refine g_iinc (l' := (fun v453 => [(0, .ref 20), (1, .int v451), (2, .int v452), (3, .int v453), (4, .int v447)])) rfl rfl (by decide) (by first | with_reducible assumption | omega) (fun _ => rfl) (fun v453 ev453 => ?_)
            refine g_goto ?_
            refine gG_pick [0, 1, 2, 3] (l' := [(0, .ref 20), (1, .int v451), (2, .int v452), (3, .int v453)]) rfl ?_
            exact ihL443 v451 v452 v453 (by first | with_reducible assumption | omega) (by first | with_reducible assumption | omega) (lg_sp q1 (by first | with_reducible assumption | omega) (by first | with_reducible assumption | omega) (by first | with_reducible assumption | omega) (by first | with_reducible assumption | omega) (by first | with_reducible assumption | omega) (by first | with_reducible assumption | omega)) (by first | with_reducible assumption | omega)
          · refine g_iload_n rfl ?_
            exact g_iret ⟨_, rfl, rfl, (by first | with_reducible assumption | omega), (lg_hit q1 (by first | with_reducible assumption | omega) (by first | with_reducible assumption | omega) (by first | with_reducible assumption | omega))⟩
        · refine g_iload_n rfl ?_
          refine g_iconst (by decide) (fun v454 kv454 => ?_)
          refine g_ishl' (fun v455 ov455 => ?_)
          refine g_iload rfl ?_
          refine g_iadd' (fun v456 ov456 => ?_)
          refine g_bipush (by decide) (fun v457 kv457 => ?_)
          refine g_isub' (fun v458 ov458 => ?_)
          refine g_iconst (by decide) (fun v459 kv459 => ?_)
          refine g_iadd' (fun v460 ov460 => ?_)
          refine g_istore_n (l' := [(0, .ref 20), (1, .int v440), (2, .int v460), (3, .int v442), (4, .int v447)]) rfl rfl ?_
          refine g_goto ?_
          refine g_iinc (l' := (fun v461 => [(0, .ref 20), (1, .int v440), (2, .int v460), (3, .int v461), (4, .int v447)])) rfl rfl (by decide) (by first | with_reducible assumption | omega) (fun _ => rfl) (fun v461 ev461 => ?_)
          refine g_goto ?_
          refine gG_pick [0, 1, 2, 3] (l' := [(0, .ref 20), (1, .int v440), (2, .int v460), (3, .int v461)]) rfl ?_
          exact ihL443 v440 v460 v461 (by first | with_reducible assumption | omega) (by first | with_reducible assumption | omega) (lg_ch q1 (by first | with_reducible assumption | omega) (by first | with_reducible assumption | omega) (by first | with_reducible assumption | omega) (by first | with_reducible assumption | omega) (fun h1 h2 h3 => by have sv455 : (0 ≤ v441.toInt ∧ v441.toInt < 33554432) → v455.toInt = v441.toInt * 32 := sh_5 ov455 kv454; have sv456 : (-2147483648 ≤ v455.toInt + v447.toInt ∧ v455.toInt + v447.toInt ≤ 2147483647) → v456.toInt = v455.toInt + v447.toInt := gz_add_of ov456; have sv458 : (-2147483648 ≤ v456.toInt - v457.toInt ∧ v456.toInt - v457.toInt ≤ 2147483647) → v458.toInt = v456.toInt - v457.toInt := gz_sub_of ov458; have sv460 : (-2147483648 ≤ v458.toInt + v459.toInt ∧ v458.toInt + v459.toInt ≤ 2147483647) → v460.toInt = v458.toInt + v459.toInt := gz_add_of ov460; omega)) (by first | with_reducible assumption | omega)
  exact L443 _ v437 v438 v439 (by first | with_reducible assumption | omega) (by first | with_reducible assumption | omega) (lg_0 (by first | with_reducible assumption | omega) (by first | with_reducible assumption | omega) (by first | with_reducible assumption | omega)) (Nat.lt_succ_self _)
set_option maxRecDepth 4000 in
set_option maxHeartbeats 4000000 in
/-- X7.passWord, exactly -/
theorem f_77 (H : mzH) (hI : gI SX H) (hJ : JX H) (x0 x1 : Int32) (hx0 : 0 ≤ x0.toInt ∧ x0.toInt ≤ 900) (hp0 : x0.toInt < (fZ H 20 5).toInt) (hp1 : bL (bX H x0.toInt.toNat)) (hp2 : x1.toInt = 0) : gCall 77 [.ref 20] (tS H x0 x1) (gRi (fun v H' => ∃ y0 y1 : Int32, H' = tS H y0 y1 ∧ (0 ≤ v.toInt ∧ v.toInt ≤ 22) ∧ (0 ≤ y0.toInt ∧ y0.toInt ≤ 900) ∧ rnP bL (bX H) (fZ H 20 5).toInt.toNat x0.toInt.toNat y0.toInt.toNat ∧ ((y0.toInt.toNat - x0.toInt.toNat ≤ 6 ∧ y1.toInt = wv (bX H) x0.toInt.toNat (y0.toInt.toNat - x0.toInt.toNat) ∧ kwX v.toInt y1.toInt) ∨ (6 < y0.toInt.toNat - x0.toInt.toNat ∧ v.toInt = 22)))) := by
  have w20_5 : 0 ≤ (fZ H 20 5).toInt ∧ (fZ H 20 5).toInt ≤ 900 := fZ_of hI sx_20 rfl
  refine gG_call [(0, .ref 20)] ⟨rfl, trivial⟩ ?_
  show gG 2 zB_77 (mzBlk zB_77 0) [(0, .ref 20)] [] (tS H x0 x1) 0 0 _
  refine g_aload_n rfl ?_
  refine g_gfk (tS_I hI (by first | with_reducible assumption | omega)) sx_20 rfl (tS_g6 hI) ?_
  refine g_istore_n (l' := [(0, .ref 20), (1, .int x0)]) rfl rfl ?_
  refine g_nop ?_
  have L155 : ∀ (N : Nat) (z153 : Int32) (z154 : Int32), (0 ≤ z153.toInt ∧ z153.toInt ≤ 900) → z153.toInt ≤ (fZ H 20 5).toInt → wdI (bX H) x0.toInt.toNat z153.toInt.toNat z154.toInt → (900 - z153.toInt).toNat < N → gG 2 zB_77 (mzBlk zB_77 1) [(0, .ref 20), (1, .int x0)] [] (tS H z153 z154) 0 0 (gRi (fun v H' => ∃ y0 y1 : Int32, H' = tS H y0 y1 ∧ (0 ≤ v.toInt ∧ v.toInt ≤ 22) ∧ (0 ≤ y0.toInt ∧ y0.toInt ≤ 900) ∧ rnP bL (bX H) (fZ H 20 5).toInt.toNat x0.toInt.toNat y0.toInt.toNat ∧ ((y0.toInt.toNat - x0.toInt.toNat ≤ 6 ∧ y1.toInt = wv (bX H) x0.toInt.toNat (y0.toInt.toNat - x0.toInt.toNat) ∧ kwX v.toInt y1.toInt) ∨ (6 < y0.toInt.toNat - x0.toInt.toNat ∧ v.toInt = 22)))) := by
    intro N
    induction N with
    | zero => intro z153 z154 bz153 q0 q1 hmL155; exact absurd hmL155 (Nat.not_lt_zero _)
    | succ N ihL155 =>
      intro z153 z154 bz153 q0 q1 hmL155
      refine g_aload_n rfl ?_
      refine g_gfk (tS_I hI (by first | with_reducible assumption | omega)) sx_20 rfl (tS_g6 hI) ?_
      refine g_aload_n rfl ?_
      refine g_gfk (tS_I hI (by first | with_reducible assumption | omega)) sx_20 rfl (tS_o (by decide)) ?_
      refine g_if2_ge (fun c156 => ?_) (fun c156 => ?_)
      · refine g_aload_n rfl ?_
        refine g_gfk (tS_I hI (by first | with_reducible assumption | omega)) sx_20 rfl (tS_g6 hI) ?_
        refine g_iload_n rfl ?_
        refine g_isub (by first | with_reducible assumption | omega) (fun v157 ev157 => ?_)
        refine g_bipush (by decide) (fun v158 kv158 => ?_)
        refine g_if2_le (fun c159 => ?_) (fun c159 => ?_)
        · refine g_aload_n rfl ?_
          refine g_invvi (tS_I hI (by first | with_reducible assumption | omega)) sx_20 rfl rfl rfl rfl (f_81 H hI hJ z153 z154 (by first | with_reducible assumption | omega)) (fun v162 H160 r161 => ?_)
          obtain ⟨rfl, bv162, zp163⟩ := r161
          refine g_nop ?_
          exact g_iret ⟨_, rfl, z153, z154, rfl, (by first | with_reducible assumption | omega), (by first | with_reducible assumption | omega), (wd_end q1 hp1 (by first | with_reducible assumption | omega) (fun h => by unfold bL; omega)), (Or.inl ⟨by omega, q1.2.2 (by first | with_reducible assumption | omega), zp163⟩)⟩
        · refine g_bipush (by decide) (fun v164 kv164 => ?_)
          refine g_goto ?_
          exact g_iret ⟨_, rfl, z153, z154, rfl, (by first | with_reducible assumption | omega), (by first | with_reducible assumption | omega), (wd_end q1 hp1 (by first | with_reducible assumption | omega) (fun h => by unfold bL; omega)), (Or.inr (by first | with_reducible assumption | omega))⟩
      · refine g_aload_n rfl ?_
        refine g_invvi (tS_I hI (by first | with_reducible assumption | omega)) sx_20 rfl rfl rfl rfl (f_79 H hI hJ z153 z154 (by first | with_reducible assumption | omega) (by first | with_reducible assumption | omega)) (fun v167 H165 r166 => ?_)
        obtain ⟨rfl, bv167, zp168⟩ := r166
        unfold bL at zp168
        refine g_if_eq (fun c169 => ?_) (fun c169 => ?_)
        · refine g_aload_n rfl ?_
          refine g_gfk (tS_I hI (by first | with_reducible assumption | omega)) sx_20 rfl (tS_g6 hI) ?_
          refine g_iload_n rfl ?_
          refine g_isub (by first | with_reducible assumption | omega) (fun v170 ev170 => ?_)
          refine g_bipush (by decide) (fun v171 kv171 => ?_)
          refine g_if2_le (fun c172 => ?_) (fun c172 => ?_)
          · refine g_aload_n rfl ?_
            refine g_invvi (tS_I hI (by first | with_reducible assumption | omega)) sx_20 rfl rfl rfl rfl (f_81 H hI hJ z153 z154 (by first | with_reducible assumption | omega)) (fun v175 H173 r174 => ?_)
            obtain ⟨rfl, bv175, zp176⟩ := r174
            refine g_nop ?_
            exact g_iret ⟨_, rfl, z153, z154, rfl, (by first | with_reducible assumption | omega), (by first | with_reducible assumption | omega), (wd_end q1 hp1 (by first | with_reducible assumption | omega) (fun h => by unfold bL; omega)), (Or.inl ⟨by omega, q1.2.2 (by first | with_reducible assumption | omega), zp176⟩)⟩
          · refine g_bipush (by decide) (fun v177 kv177 => ?_)
            refine g_goto ?_
            exact g_iret ⟨_, rfl, z153, z154, rfl, (by first | with_reducible assumption | omega), (by first | with_reducible assumption | omega), (wd_end q1 hp1 (by first | with_reducible assumption | omega) (fun h => by unfold bL; omega)), (Or.inr (by first | with_reducible assumption | omega))⟩
        · refine g_aload_n rfl ?_
          refine g_aload_n rfl ?_
          refine g_gfk (tS_I hI (by first | with_reducible assumption | omega)) sx_20 rfl (tS_g7 hI) ?_
          refine g_iconst (by decide) (fun v178 kv178 => ?_)
          refine g_ishl' (fun v179 ov179 => ?_)
          refine g_aload_n rfl ?_
          refine g_gfr (tS_I hI (by first | with_reducible assumption | omega)) sx_20 rfl ?_
          refine g_gfr (tS_I hI (by first | with_reducible assumption | omega)) sx_1 rfl ?_
          refine g_aload_n rfl ?_
          refine g_gfk (tS_I hI (by first | with_reducible assumption | omega)) sx_20 rfl (tS_g6 hI) ?_
          refine g_baload (tS_I hI (by first | with_reducible assumption | omega)) sx_2 rfl (by first | with_reducible assumption | omega) (fun v180 ev180 lv180 uv180 => ?_)
          have dv180 : v180 = aZ H 2 z153.toInt.toNat := ev180.trans tS_a
          have tv180 : v180.toInt = (aZ H 2 z153.toInt.toNat).toInt := by rw [dv180]
          have sv180 : v180.toInt = bX H z153.toInt.toNat := tv180
          refine g_iadd' (fun v181 ov181 => ?_)
          refine g_bipush (by decide) (fun v182 kv182 => ?_)
          refine g_isub' (fun v183 ov183 => ?_)
          refine g_iconst (by decide) (fun v184 kv184 => ?_)
          refine g_iadd' (fun v185 ov185 => ?_)
          refine g_pfi (tS_I hI (by first | with_reducible assumption | omega)) sx_20 rfl (gz_any _) (fun H186 eH186 hIH186 => ?_)
          obtain rfl : H186 = (tS H z153 v185) := eH186.trans (tS_s7 hI)
          refine g_aload_n rfl ?_
          refine g_dup rfl ?_
          refine g_gfk (tS_I hI (by first | with_reducible assumption | omega)) sx_20 rfl (tS_g6 hI) ?_
          refine g_iconst (by decide) (fun v187 kv187 => ?_)
          refine g_iadd (by first | with_reducible assumption | omega) (fun v188 ev188 => ?_)
          refine g_pfi (tS_I hI (by first | with_reducible assumption | omega)) sx_20 rfl (by first | with_reducible assumption | omega) (fun H189 eH189 hIH189 => ?_)
          obtain rfl : H189 = (tS H v188 v185) := eH189.trans (tS_s6 hI)
          refine g_goto ?_
          exact ihL155 v188 v185 (by first | with_reducible assumption | omega) (by first | with_reducible assumption | omega) (wd_st q1 (by first | with_reducible assumption | omega) (by unfold bL; omega) (fun h1 h2 => by have sv179 : (0 ≤ z154.toInt ∧ z154.toInt < 33554432) → v179.toInt = z154.toInt * 32 := sh_5 ov179 kv178; have sv181 : (-2147483648 ≤ v179.toInt + v180.toInt ∧ v179.toInt + v180.toInt ≤ 2147483647) → v181.toInt = v179.toInt + v180.toInt := gz_add_of ov181; have sv183 : (-2147483648 ≤ v181.toInt - v182.toInt ∧ v181.toInt - v182.toInt ≤ 2147483647) → v183.toInt = v181.toInt - v182.toInt := gz_sub_of ov183; have sv185 : (-2147483648 ≤ v183.toInt + v184.toInt ∧ v183.toInt + v184.toInt ≤ 2147483647) → v185.toInt = v183.toInt + v184.toInt := gz_add_of ov185; omega)) (by first | with_reducible assumption | omega)
  exact L155 _ x0 x1 (by first | with_reducible assumption | omega) (by first | with_reducible assumption | omega) (wd_0 (by first | with_reducible assumption | omega)) (Nat.lt_succ_self _)
set_option maxRecDepth 4000 in
set_option maxHeartbeats 4000000 in
/-- X7.passToken, exactly -/
theorem f_76 (H : mzH) (hI : gI SX H) (hJ : JX H) (x0 x1 : Int32) (hx0 : 0 ≤ x0.toInt ∧ x0.toInt ≤ 900) (hp0 : x0.toInt < (fZ H 20 5).toInt) (hp1 : x1.toInt = 0) : gCall 76 [.ref 20] (tS H x0 x1) (gRi (fun v H' => ∃ y0 y1 : Int32, H' = tS H y0 y1 ∧ (0 ≤ v.toInt ∧ v.toInt ≤ 22) ∧ (0 ≤ y0.toInt ∧ y0.toInt ≤ 900) ∧ tkX (bX H) (fZ H 20 5).toInt.toNat x0.toInt.toNat y0.toInt.toNat v.toInt y1.toInt)) := by
  have w20_5 : 0 ≤ (fZ H 20 5).toInt ∧ (fZ H 20 5).toInt ≤ 900 := fZ_of hI sx_20 rfl
  refine gG_call [(0, .ref 20)] ⟨rfl, trivial⟩ ?_
  show gG 1 zB_76 (mzBlk zB_76 0) [(0, .ref 20)] [] (tS H x0 x1) 0 0 _
  refine g_aload_n rfl ?_
  refine g_invvi (tS_I hI (by first | with_reducible assumption | omega)) sx_20 rfl rfl rfl rfl (f_79 H hI hJ x0 x1 (by first | with_reducible assumption | omega) (by first | with_reducible assumption | omega)) (fun v139 H137 r138 => ?_)
  obtain ⟨rfl, bv139, zp140⟩ := r138
  unfold bL at zp140
  refine g_if_eq (fun c141 => ?_) (fun c141 => ?_)
  · refine g_aload_n rfl ?_
    refine g_invvi (tS_I hI (by first | with_reducible assumption | omega)) sx_20 rfl rfl rfl rfl (f_80 H hI hJ x0 x1 (by first | with_reducible assumption | omega) (by first | with_reducible assumption | omega)) (fun v144 H142 r143 => ?_)
    obtain ⟨rfl, bv144, zp145⟩ := r143
    unfold bD at zp145
    refine g_if_eq (fun c146 => ?_) (fun c146 => ?_)
    · refine g_aload_n rfl ?_
      refine g_dup rfl ?_
      refine g_gfk (tS_I hI (by first | with_reducible assumption | omega)) sx_20 rfl (tS_g6 hI) ?_
      refine g_iconst (by decide) (fun v147 kv147 => ?_)
      refine g_iadd (by first | with_reducible assumption | omega) (fun v148 ev148 => ?_)
      refine g_pfi (tS_I hI (by first | with_reducible assumption | omega)) sx_20 rfl (by first | with_reducible assumption | omega) (fun H149 eH149 hIH149 => ?_)
      obtain rfl : H149 = (tS H v148 x1) := eH149.trans (tS_s6 hI)
      refine g_aload_n rfl ?_
      refine g_gfr (tS_I hI (by first | with_reducible assumption | omega)) sx_20 rfl ?_
      refine g_gfr (tS_I hI (by first | with_reducible assumption | omega)) sx_1 rfl ?_
      refine g_aload_n rfl ?_
      refine g_gfk (tS_I hI (by first | with_reducible assumption | omega)) sx_20 rfl (tS_g6 hI) ?_
      refine g_iconst (by decide) (fun v150 kv150 => ?_)
      refine g_isub (by first | with_reducible assumption | omega) (fun v151 ev151 => ?_)
      refine g_baload (tS_I hI (by first | with_reducible assumption | omega)) sx_2 rfl (by first | with_reducible assumption | omega) (fun v152 ev152 lv152 uv152 => ?_)
      have dv152 : v152 = aZ H 2 v151.toInt.toNat := ev152.trans tS_a
      have tv152 : v152.toInt = (aZ H 2 v151.toInt.toNat).toInt := by rw [dv152]
      have sv152 : v152.toInt = bX H v151.toInt.toNat := tv152
      rw [show v151.toInt.toNat = x0.toInt.toNat by omega] at sv152
      refine g_bipush (by decide) (fun v153 kv153 => ?_)
      refine g_if2_ne (fun c154 => ?_) (fun c154 => ?_)
      · refine g_bipush (by decide) (fun v155 kv155 => ?_)
        refine g_nop ?_
        exact g_iret ⟨_, rfl, v148, x1, rfl, (by first | with_reducible assumption | omega), (by first | with_reducible assumption | omega), (Or.inr (Or.inr ⟨by unfold bL; omega, by unfold bD; omega, by omega, by omega, by omega⟩))⟩
      · refine g_bipush (by decide) (fun v156 kv156 => ?_)
        refine g_goto ?_
        exact g_iret ⟨_, rfl, v148, x1, rfl, (by first | with_reducible assumption | omega), (by first | with_reducible assumption | omega), (Or.inr (Or.inr ⟨by unfold bL; omega, by unfold bD; omega, by omega, by omega, by omega⟩))⟩
    · refine g_aload_n rfl ?_
      refine g_invvv (tS_I hI (by first | with_reducible assumption | omega)) sx_20 rfl rfl rfl rfl (f_78 H hI hJ x0 x1 (by first | with_reducible assumption | omega) (by first | with_reducible assumption | omega) (by unfold bD; omega) (by first | with_reducible assumption | omega)) (fun H157 r158 => ?_)
      obtain ⟨y159, y160, rfl, by159, by160, zp161, zp162⟩ := r158
      refine g_bipush (by decide) (fun v163 kv163 => ?_)
      exact g_iret ⟨_, rfl, y159, y160, rfl, (by first | with_reducible assumption | omega), (by first | with_reducible assumption | omega), (Or.inr (Or.inl ⟨zp161, by omega, zp162⟩))⟩
  · refine g_aload_n rfl ?_
    refine g_invvi (tS_I hI (by first | with_reducible assumption | omega)) sx_20 rfl rfl rfl rfl (f_77 H hI hJ x0 x1 (by first | with_reducible assumption | omega) (by first | with_reducible assumption | omega) (by unfold bL; omega) (by first | with_reducible assumption | omega)) (fun v166 H164 r165 => ?_)
    obtain ⟨y167, y168, rfl, bv166, by167, zp169, zp170⟩ := r165
    exact g_iret ⟨_, rfl, y167, y168, rfl, (by first | with_reducible assumption | omega), (by first | with_reducible assumption | omega), (Or.inl ⟨zp169, zp170⟩)⟩
