theorem sF_self {S : List gSp} {H : mzH} {a d f : Nat} {fs : List gFs} {lo hi : Int} {v : Int32} (hI : gI S H) (hs : S[a]? = some (.inr (d, fs))) (hf : fs[f]? = some (.inr (lo, hi))) (hv : v = fZ H a f) : sF H a f v = H := by
  obtain ⟨vs, h1, h2, h3⟩ := gI_obj hI hs
  obtain ⟨w, h4, z, rfl, h5⟩ := h3 f _ hf
  have e : fZ H a f = z := by
    unfold fZ
    rw [h1]
    simp only [h4]
  rw [hv, e]
  unfold sF
  rw [h1]
  simp only
  have e2 : vs.set f (.int z) = vs := by
    apply List.ext_getElem?
    intro i
    if h : f = i then
      subst h
      rw [List.getElem?_set_self (List.getElem?_eq_some_iff.mp h4).1, h4]
    else rw [List.getElem?_set_ne h]
  rw [e2]
  apply List.ext_getElem?
  intro i
  if h : a = i then
    subst h
    rw [List.getElem?_set_self (List.getElem?_eq_some_iff.mp h1).1, h1]
  else rw [List.getElem?_set_ne h]
theorem tS_self {H : mzH} (hI : gI SX H) : tS H (fZ H 20 6) (fZ H 20 7) = H := by
  unfold tS
  rw [sF_self hI sx_20 rfl rfl, sF_self hI sx_20 rfl rfl]
theorem rS_self {H : mzH} {x0 x1 x2 x3 x4 : Int32} (hI : gI SX H) (h0 : x0 = fZ H 19 2) (h1 : x1 = fZ H 19 3) (h2 : x2 = fZ H 19 4) (h3 : x3 = fZ H 19 5) (h4 : x4 = fZ H 19 6) : rS H x0 x1 x2 x3 x4 = H := by
  unfold rS
  rw [sF_self hI sx_19 rfl h0, sF_self hI sx_19 rfl h1, sF_self hI sx_19 rfl h2, sF_self hI sx_19 rfl h3, sF_self hI sx_19 rfl h4]
def frC (H B : mzH) : Prop := ∀ c, c ≠ 19 → c ≠ 20 → c ≠ 21 → c ≠ 22 → c ≠ 23 → B[c]? = H[c]?
theorem f_73r (a1 : Int32) (ha1 : 0 ≤ a1.toInt ∧ a1.toInt ≤ 900) (H : mzH) (hI : gI SX H) (hJ : JX H) (x0 x1 x2 x3 x4 : Int32) (hx0 : 0 ≤ x0.toInt ∧ x0.toInt ≤ 900) (hp0 : a1.toInt ≤ (fZ H 1 1).toInt) : gCall 73 [.ref 20, .int a1] (rS H x0 x1 x2 x3 x4) (gRv (fun H' => ∃ B : mzH, H' = rS B x0 x1 x2 x3 x4 ∧ gI SX B ∧ JX B ∧ frC H B ∧ 1 ≤ (fZ B 20 4).toInt ∧ tkA (bX H) a1.toInt.toNat (kX B) (sX B) (vX B) ((fZ B 20 4).toInt.toNat - 1))) := by
  have hI1 : gI SX (rS H x0 x1 x2 x3 x4) := rS_I hI hx0
  have key := f_73 a1 ha1 (rS H x0 x1 x2 x3 x4) hI1 (rS_J hJ) (fZ (rS H x0 x1 x2 x3 x4) 20 6) (fZ (rS H x0 x1 x2 x3 x4) 20 7) (fZ_of hI1 sx_20 rfl) (by rw [← rS_o (H := H) (c := 1) (f := 1) (by decide)]; exact hp0)
  rw [tS_self hI1] at key
  refine gGo_mono key ?_
  rintro o H' ⟨rfl, B, y0, y1, rfl, hB, hJB, hy, hf, h1, h2⟩
  have fc : ∀ c, c ≠ 20 → (tS B y0 y1)[c]? = B[c]? := fun c hc => by
    unfold tS
    rw [c_sF hc, c_sF hc]
  have f19 : ∀ f, fZ (tS B y0 y1) 19 f = fZ (rS H x0 x1 x2 x3 x4) 19 f := fun f => by rw [fZ_cg (fc 19 (by decide)), fZ_cg (hf 19 (by decide) (by decide) (by decide) (by decide))]
  have eb : bX (rS H x0 x1 x2 x3 x4) = bX H := by
    funext k
    unfold bX
    rw [rS_a]
  have ek : kX (tS B y0 y1) = kX B := by
    funext k
    unfold kX
    rw [tS_a]
  have es : sX (tS B y0 y1) = sX B := by
    funext k
    unfold sX
    rw [tS_a]
  have ev : vX (tS B y0 y1) = vX B := by
    funext k
    unfold vX
    rw [tS_a]
  refine ⟨rfl, tS B y0 y1, ?_, tS_I hB hy, tS_J hJB, fun c a1 a2 a3 a4 a5 => ?_, ?_, ?_⟩
  · exact (rS_self (tS_I hB hy) (by rw [f19]; exact rS_g2 hI) (by rw [f19]; exact rS_g3 hI) (by rw [f19]; exact rS_g4 hI) (by rw [f19]; exact rS_g5 hI) (by rw [f19]; exact rS_g6 hI)).symm
  · rw [fc c a2, hf c a2 a3 a4 a5]
    unfold rS
    rw [c_sF a1, c_sF a1, c_sF a1, c_sF a1, c_sF a1]
  · rw [← tS_o (by decide)]
    exact h1
  · rw [← tS_o (by decide), ek, es, ev, ← eb]
    exact h2
/-! THE LOOP -/
def frE (H B : mzH) : Prop := ∀ c, (c < 11 ∨ 23 < c) → B[c]? = H[c]?
theorem fr_cut {H B : mzH} (h : frC H B) : frE H B := fun c hc => h c (by first | with_reducible assumption | omega) (by first | with_reducible assumption | omega) (by first | with_reducible assumption | omega) (by first | with_reducible assumption | omega) (by first | with_reducible assumption | omega)
theorem fr_19 {H B B' : mzH} {f : Nat} {v : Int32} (e : B' = sF B 19 f v) (h : frE H B) : frE H B' := fun c hc => by rw [e, c_sF (by first | with_reducible assumption | omega)]; exact h c hc
theorem fr_ln {H B B' : mzH} (h : frE H B) (f : frD B B') : frE H B' := fun c hc => (f c (by first | with_reducible assumption | omega)).trans (h c hc)
theorem tk_19 {B B' : mzH} {T : pT} {f : Nat} {v : Int32} (e : B' = sF B 19 f v) (h : tkH B T) : tkH B' T := by
  refine ⟨fun t ht => ?_, ?_⟩
  · rw [e, aZ_sF, aZ_sF, aZ_sF]
    exact h.1 t ht
  · rw [e, fZ_sF_nc (by decide)]
    exact h.2
theorem tk_new {B : mzH} {T : pT} (e : T = (kX B, sX B, vX B, (fZ B 20 4).toInt.toNat - 1)) (h : 1 ≤ (fZ B 20 4).toInt) : tkH B T := by
  subst e
  refine ⟨fun t _ => ⟨rfl, rfl, rfl⟩, ?_⟩
  show (fZ B 20 4).toInt = (((fZ B 20 4).toInt.toNat - 1 : Nat) : Int) + 1
  omega
theorem bk_fr {H B : mzH} {b : pB} (f : ∀ c, 11 ≤ c → c ≤ 18 → B[c]? = H[c]?) (h : bkX H 11 b) : bkX B 11 b := by
  unfold bkX at h ⊢
  simp only [fZ_cg (f 11 (by decide) (by decide)), aZ_cg (f (11 + 1) (by decide) (by decide)), aZ_cg (f (11 + 3) (by decide) (by decide)), aZ_cg (f (11 + 4) (by decide) (by decide)), aZ_cg (f (11 + 5) (by decide) (by decide)), aZ_cg (f (11 + 6) (by decide) (by decide)), aZ_cg (f (11 + 7) (by decide) (by decide))]
  exact h
theorem bk_19 {B B' : mzH} {b : pB} {f : Nat} {v : Int32} (e : B' = sF B 19 f v) (h : bkX B 11 b) : bkX B' 11 b := bk_fr (fun c _ _ => by rw [e, c_sF (by first | with_reducible assumption | omega)]) h
def g0 : pG := pGm 0 0 (-1)
def pSg (told : Int) (T : pT) (g : pG) : pG := if told ≠ 0 ∧ T.K g.t ≠ 3 then pFail T 1 g else g
def pIt (told : Int) (T : pT) : Nat → pB → pB × pG
  | 0, b => (b, g0)
  | n + 1, b => (bLn (pIt told T n b).1 T (pSg told T (pIt told T n b).2), pLn (pIt told T n b).1 T (pSg told T (pIt told T n b).2))
theorem it_0 {told : Int} {T : pT} {b : pB} {n : Nat} (h : n = 0) : pIt told T n b = (b, g0) := by subst h; rfl
theorem it_st {told : Int} {T : pT} {b : pB} {n n' : Nat} (h : n' = n + 1) : pIt told T n' b = (bLn (pIt told T n b).1 T (pSg told T (pIt told T n b).2), pLn (pIt told T n b).1 T (pSg told T (pIt told T n b).2)) := by subst h; rfl
def pStop (T : pT) (g : pG) : Prop := g.f ≠ 0 ∨ T.K g.t = 21
def pGoes (told : Int) (T : pT) (b : pB) (n : Nat) : Prop := ∀ k, k < n → ¬ pStop T (pIt told T k b).2
theorem gs_0 {told : Int} {T : pT} {b : pB} {n : Nat} (h : n = 0) : pGoes told T b n := fun k hk => by omega
theorem gs_st {told : Int} {T : pT} {b : pB} {n n' : Nat} (h : pGoes told T b n) (hn : n' = n + 1) (hs : ¬ pStop T (pIt told T n b).2) : pGoes told T b n' := fun k hk => by
  if e : k = n then
    rw [e]
    exact hs
  else exact h k (by first | with_reducible assumption | omega)
theorem rd_0 {B : mzH} {T : pT} {a x0 x1 x2 x3 x4 y0 y1 y2 : Int32} (_ : tkH B T) (ha : a.toInt = 0) (h3 : x3.toInt = 0) (h4 : x4.toInt = -1) (hg : gtP T a x0 x1 x2 y0 y1 y2) : rdX T g0 y0 y1 y2 x3 x4 := by
  obtain ⟨e0, e1, e2⟩ := hg.1 (by first | with_reducible assumption | omega)
  rw [show a.toInt.toNat = 0 by omega] at e1 e2
  exact ⟨by rw [e0]; exact ha, e1, e2, h3, h4, Nat.zero_le _⟩
/-- how the tokens go on -/
def tq (T : pT) (g g' : pG) : Prop := g.t ≤ g'.t ∧ (g.t ≤ T.M → g'.t ≤ T.M)
theorem tq_r {T : pT} {g : pG} : tq T g g := ⟨Nat.le_refl _, id⟩
theorem tq_t {T : pT} {a b c : pG} (h : tq T a b) (k : tq T b c) : tq T a c := ⟨Nat.le_trans h.1 k.1, fun z => k.2 (h.2 z)⟩
theorem tq_F {T : pT} {n : Int} {g : pG} : tq T g (pFail T n g) := by
  unfold pFail
  split
  · exact ⟨Nat.le_refl _, id⟩
  · exact tq_r
theorem tq_G {T : pT} {g : pG} : tq T g (pGo T g) := by
  unfold pGo
  split
  · rename_i h
    exact ⟨Nat.le_succ _, fun _ => h⟩
  · exact tq_r
theorem tq_T {T : pT} {lo hi : Int} {g : pG} : tq T g (pTake T lo hi g) := by
  unfold pTake
  split
  · exact tq_F
  · split
    · exact tq_r
    · exact tq_G
theorem tq_N {T : pT} {lo hi : Int} {g : pG} : tq T g (pNumb T lo hi g) := by
  unfold pNumb
  split
  · exact tq_t tq_F tq_T
  · exact tq_T
theorem tq_P {nm : Nat → Int} {P but : Int} {T : pT} {g : pG} : tq T g (pPlc nm P T but g) := by
  unfold pPlc
  split
  · exact tq_t tq_F tq_T
  · split
    · exact tq_t tq_F tq_T
    · exact tq_T
theorem tq_A {T : pT} {g : pG} : tq T g (pAct T g) := by
  unfold pAct
  split <;> exact tq_T
theorem tq_S {b : pB} {T : pT} {a : Int} {g : pG} : tq T g (pSec b T a g) := by
  unfold pSec
  split
  · exact tq_N
  · split
    · exact tq_P
    · exact tq_r
theorem tq_1 {b : pB} {T : pT} {g : pG} : tq T g (pRdP b T g) := by
  have h1 : tq T g (pRdP1 b T g) := by
    unfold pRdP1
    split
    · exact tq_t tq_F tq_T
    · exact tq_T
  unfold pRdP
  split
  · exact tq_t h1 (tq_t tq_F tq_T)
  · exact tq_t h1 tq_T
theorem tq_2 {b : pB} {T : pT} {g : pG} : tq T g (pRdR b T g) := by
  have h1 : tq T g (pRdR1 b T g) := by
    unfold pRdR1
    split
    · exact tq_t tq_F tq_T
    · exact tq_T
  exact tq_t (tq_t (tq_t h1 tq_P) tq_P) tq_N
theorem tq_3 {b : pB} {T : pT} {g : pG} : tq T g (pRdF b T g) := by
  have h1 : tq T g (pRdF1 b T g) := by
    unfold pRdF1
    split
    · exact tq_t tq_F tq_T
    · exact tq_T
  exact tq_t (tq_t h1 tq_N) tq_N
theorem tq_4 {b : pB} {T : pT} {g : pG} : tq T g (pM6 b T g) := by
  have h1 : tq T g (pM1 b T g) := by
    unfold pM1
    split
    · exact tq_t tq_F tq_T
    · exact tq_T
  have h4 : tq T g (pM4 b T g) := tq_t (tq_t (tq_t h1 tq_N) tq_A) tq_N
  have h5 : tq T g (pM5 b T g) := by
    unfold pM5
    split
    · exact tq_t h4 tq_T
    · exact h4
  exact tq_t h5 tq_S
theorem tq_L {b : pB} {T : pT} {g : pG} : tq T g (pLn1 b T g) := by
  unfold pLn1
  split
  · exact tq_1
  · split
    · exact tq_2
    · split
      · exact tq_3
      · split
        · exact tq_4
        · exact tq_F
theorem ln_go {b : pB} {T : pT} {g : pG} (hM : T.K T.M = 21) (ht : g.t ≤ T.M) (hf : (pLn b T g).f = 0) : g.t + 1 ≤ (pLn b T g).t ∧ (pLn b T g).t ≤ T.M := by
  have h1 := tq_L (b := b) (T := T) (g := g)
  have h2 := h1.2 ht
  unfold pLn at hf ⊢
  generalize pLn1 b T g = q at *
  rcases pT_ok (T := T) (lo := 20) (hi := 20) (g := q) with h | ⟨_, h3, h4, h5⟩
  · exact absurd hf h
  · have hne : q.t ≠ T.M := fun e => by
      rw [e] at h4 h5
      omega
    unfold pTake
    rw [if_neg (by first | with_reducible assumption | omega), if_neg (fun c => c h3)]
    unfold pGo
    rw [if_pos (by first | with_reducible assumption | omega)]
    have := h1.1
    exact ⟨by show g.t + 1 ≤ q.t + 1; omega, by show q.t + 1 ≤ T.M; omega⟩
theorem it_t {told : Int} {T : pT} {b : pB} (hM : T.K T.M = 21) : ∀ n, pGoes told T b n → (pIt told T n b).2.f = 0 → n ≤ (pIt told T n b).2.t ∧ (pIt told T n b).2.t ≤ T.M
  | 0, _, _ => ⟨Nat.le_refl _, Nat.zero_le _⟩
  | n + 1, h, hf => by
    have hn := h n (by first | with_reducible assumption | omega)
    unfold pStop at hn
    have h0 : (pIt told T n b).2.f = 0 := by omega
    have ih := it_t hM n (fun k hk => h k (by first | with_reducible assumption | omega)) h0
    have hs : (pSg told T (pIt told T n b).2).t = (pIt told T n b).2.t := by
      unfold pSg
      split
      · exact (pF_ne (by decide)).2
      · rfl
    have hf2 : (pLn (pIt told T n b).1 T (pSg told T (pIt told T n b).2)).f = 0 := hf
    have h3 := ln_go hM (by first | with_reducible assumption | omega) hf2
    rw [hs] at h3
    show n + 1 ≤ (pLn (pIt told T n b).1 T (pSg told T (pIt told T n b).2)).t ∧ (pLn (pIt told T n b).1 T (pSg told T (pIt told T n b).2)).t ≤ T.M
    omega
theorem gs_end {told : Int} {T : pT} {b : pB} {n : Nat} (h : pGoes told T b n) (hM : T.K T.M = 21) (hT : T.M ≤ 900) (hc : 900 ≤ n ∨ (pIt told T n b).2.f ≠ 0 ∨ T.K (pIt told T n b).2.t = 21) : pStop T (pIt told T n b).2 := by
  unfold pStop
  rcases hc with c | c | c
  · if h0 : (pIt told T n b).2.f = 0 then
      right
      have := it_t hM n h h0
      rw [show (pIt told T n b).2.t = T.M by omega]
      exact hM
    else exact Or.inl h0
  · exact Or.inl c
  · exact Or.inr c
/-- what reading comes to -/
def rdE (H B : mzH) (a1 a2 : Int32) (b : pB) (y0 y1 y2 y3 y4 : Int32) : Prop := ∃ (T : pT) (n : Nat), tkA (bX H) a1.toInt.toNat T.K T.S T.V T.M ∧ (pGoes a2.toInt T b n ∧ pStop T (pIt a2.toInt T n b).2) ∧ rdX T (pIt a2.toInt T n b).2 y0 y1 y2 y3 y4 ∧ bkX B 11 (pIt a2.toInt T n b).1 ∧ (fZ B 19 7).toInt = n ∧ frE H B
