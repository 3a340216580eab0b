theorem sF_self {S : List gSp} {H : mzH} {a d f : Nat} {fs : List gFs} {lo hi : Int} {v : Int32} (hI : gI S H) (hs : S[a]? = some (.inr (d, fs))) (hf : fs[f]? = some (.inr (lo, hi))) (hv : v = fZ H a f) : sF H a f v = H := by
  obtain ⟨vs, h1, h2, h3⟩ := gI_obj hI hs
  obtain ⟨w, h4, z, rfl, h5⟩ := h3 f _ hf
  have e : fZ H a f = z := by
    unfold fZ
    rw [h1]
    simp only [h4]
  rw [hv, e]
  unfold sF
  rw [h1]
  simp only
  have e2 : vs.set f (.int z) = vs := by
    apply List.ext_getElem?
    intro i
    if h : f = i then
      subst h
      rw [List.getElem?_set_self (List.getElem?_eq_some_iff.mp h4).1, h4]
    else rw [List.getElem?_set_ne h]
  rw [e2]
  apply List.ext_getElem?
  intro i
  if h : a = i then
    subst h
    rw [List.getElem?_set_self (List.getElem?_eq_some_iff.mp h1).1, h1]
  else rw [List.getElem?_set_ne h]
theorem tS_self {H : mzH} (hI : gI SX H) : tS H (fZ H 20 6) (fZ H 20 7) = H := by
  unfold tS
  rw [sF_self hI sx_20 rfl rfl, sF_self hI sx_20 rfl rfl]
theorem rS_self {H : mzH} {x0 x1 x2 x3 x4 : Int32} (hI : gI SX H) (h0 : x0 = fZ H 19 2) (h1 : x1 = fZ H 19 3) (h2 : x2 = fZ H 19 4) (h3 : x3 = fZ H 19 5) (h4 : x4 = fZ H 19 6) : rS H x0 x1 x2 x3 x4 = H := by
  unfold rS
  rw [sF_self hI sx_19 rfl h0, sF_self hI sx_19 rfl h1, sF_self hI sx_19 rfl h2, sF_self hI sx_19 rfl h3, sF_self hI sx_19 rfl h4]
def frC (H B : mzH) : Prop := ∀ c, c ≠ 19 → c ≠ 20 → c ≠ 21 → c ≠ 22 → c ≠ 23 → B[c]? = H[c]?
theorem f_73r (a1 : Int32) (ha1 : 0 ≤ a1.toInt ∧ a1.toInt ≤ 900) (H : mzH) (hI : gI SX H) (hJ : JX H) (x0 x1 x2 x3 x4 : Int32) (hx0 : 0 ≤ x0.toInt ∧ x0.toInt ≤ 900) (hp0 : a1.toInt ≤ (fZ H 1 1).toInt) : gCall 73 [.ref 20, .int a1] (rS H x0 x1 x2 x3 x4) (gRv (fun H' => ∃ B : mzH, H' = rS B x0 x1 x2 x3 x4 ∧ gI SX B ∧ JX B ∧ frC H B ∧ 1 ≤ (fZ B 20 4).toInt ∧ tkA (bX H) a1.toInt.toNat (kX B) (sX B) (vX B) ((fZ B 20 4).toInt.toNat - 1))) := by
  have hI1 : gI SX (rS H x0 x1 x2 x3 x4) := rS_I hI hx0
  have key := f_73 a1 ha1 (rS H x0 x1 x2 x3 x4) hI1 (rS_J hJ) (fZ (rS H x0 x1 x2 x3 x4) 20 6) (fZ (rS H x0 x1 x2 x3 x4) 20 7) (fZ_of hI1 sx_20 rfl) (by rw [← rS_o (H := H) (c := 1) (f := 1) (by decide)]; exact hp0)
  rw [tS_self hI1] at key
  refine gGo_mono key ?_
  rintro o H' ⟨rfl, B, y0, y1, rfl, hB, hJB, hy, hf, h1, h2⟩
  have fc : ∀ c, c ≠ 20 → (tS B y0 y1)[c]? = B[c]? := fun c hc => by
    unfold tS
    rw [c_sF hc, c_sF hc]
  have f19 : ∀ f, fZ (tS B y0 y1) 19 f = fZ (rS H x0 x1 x2 x3 x4) 19 f := fun f => by rw [fZ_cg (fc 19 (by decide)), fZ_cg (hf 19 (by decide) (by decide) (by decide) (by decide))]
  have eb : bX (rS H x0 x1 x2 x3 x4) = bX H := by
    funext k
    unfold bX
    rw [rS_a]
  have ek : kX (tS B y0 y1) = kX B := by
    funext k
    unfold kX
    rw [tS_a]
  have es : sX (tS B y0 y1) = sX B := by
    funext k
    unfold sX
    rw [tS_a]
  have ev : vX (tS B y0 y1) = vX B := by
    funext k
    unfold vX
    rw [tS_a]
  refine ⟨rfl, tS B y0 y1, ?_, tS_I hB hy, tS_J hJB, fun c a1 a2 a3 a4 a5 => ?_, ?_, ?_⟩
  · exact (rS_self (tS_I hB hy) (by rw [f19]; exact rS_g2 hI) (by rw [f19]; exact rS_g3 hI) (by rw [f19]; exact rS_g4 hI) (by rw [f19]; exact rS_g5 hI) (by rw [f19]; exact rS_g6 hI)).symm
  · rw [fc c a2, hf c a2 a3 a4 a5]
    unfold rS
    rw [c_sF a1, c_sF a1, c_sF a1, c_sF a1, c_sF a1]
  · rw [← tS_o (by decide)]
    exact h1
  · rw [← tS_o (by decide), ek, es, ev, ← eb]
    exact h2
/-! THE LOOP -/
def frE (H B : mzH) : Prop := ∀ c, (c < 11 ∨ 23 < c) → B[c]? = H[c]?
theorem fr_cut {H B : mzH} (h : frC H B) : frE H B := fun c hc => h c (by omega) (by omega) (by omega) (by omega) (by omega)
theorem fr_19 {H B B' : mzH} {f : Nat} {v : Int32} (e : B' = sF B 19 f v) (h : frE H B) : frE H B' := fun c hc => by rw [e, c_sF (by omega)]; exact h c hc
theorem fr_ln {H B B' : mzH} (h : frE H B) (f : frD B B') : frE H B' := fun c hc => (f c (by omega)).trans (h c hc)
theorem tk_19 {B B' : mzH} {T : pT} {f : Nat} {v : Int32} (e : B' = sF B 19 f v) (h : tkH B T) : tkH B' T := by
  refine ⟨fun t ht => ?_, ?_⟩
  · rw [e, aZ_sF, aZ_sF, aZ_sF]
    exact h.1 t ht
  · rw [e, fZ_sF_nc (by decide)]
    exact h.2
theorem tk_new {B : mzH} {T : pT} (e : T = (kX B, sX B, vX B, (fZ B 20 4).toInt.toNat - 1)) (h : 1 ≤ (fZ B 20 4).toInt) : tkH B T := by
  subst e
  refine ⟨fun t _ => ⟨rfl, rfl, rfl⟩, ?_⟩
  show (fZ B 20 4).toInt = (((fZ B 20 4).toInt.toNat - 1 : Nat) : Int) + 1
  omega
theorem bk_fr {H B : mzH} {b : pB} (f : ∀ c, 11 ≤ c → c ≤ 18 → B[c]? = H[c]?) (h : bkX H 11 b) : bkX B 11 b := by
  unfold bkX at h ⊢
  simp only [fZ_cg (f 11 (by decide) (by decide)), aZ_cg (f (11 + 1) (by decide) (by decide)), aZ_cg (f (11 + 3) (by decide) (by decide)), aZ_cg (f (11 + 4) (by decide) (by decide)), aZ_cg (f (11 + 5) (by decide) (by decide)), aZ_cg (f (11 + 6) (by decide) (by decide)), aZ_cg (f (11 + 7) (by decide) (by decide))]
  exact h
theorem bk_19 {B B' : mzH} {b : pB} {f : Nat} {v : Int32} (e : B' = sF B 19 f v) (h : bkX B 11 b) : bkX B' 11 b := bk_fr (fun c _ _ => by rw [e, c_sF (by omega)]) h
def g0 : pG := pGm 0 0 (-1)
def pSg (told : Int) (T : pT) (g : pG) : pG := if told ≠ 0 ∧ T.K g.t ≠ 3 then pFail T 1 g else g
def pIt (told : Int) (T : pT) : Nat → pB → pB × pG
  | 0, b => (b, g0)
  | n + 1, b => (bLn (pIt told T n b).1 T (pSg told T (pIt told T n b).2), pLn (pIt told T n b).1 T (pSg told T (pIt told T n b).2))
theorem it_0 {told : Int} {T : pT} {b : pB} {n : Nat} (h : n = 0) : pIt told T n b = (b, g0) := by subst h; rfl
theorem it_st {told : Int} {T : pT} {b : pB} {n n' : Nat} (h : n' = n + 1) : pIt told T n' b = (bLn (pIt told T n b).1 T (pSg told T (pIt told T n b).2), pLn (pIt told T n b).1 T (pSg told T (pIt told T n b).2)) := by subst h; rfl
def pStop (T : pT) (g : pG) : Prop := g.f ≠ 0 ∨ T.K g.t = 21
def pGoes (told : Int) (T : pT) (b : pB) (n : Nat) : Prop := ∀ k, k < n → ¬ pStop T (pIt told T k b).2
theorem gs_0 {told : Int} {T : pT} {b : pB} {n : Nat} (h : n = 0) : pGoes told T b n := fun k hk => by omega
theorem gs_st {told : Int} {T : pT} {b : pB} {n n' : Nat} (h : pGoes told T b n) (hn : n' = n + 1) (hs : ¬ pStop T (pIt told T n b).2) : pGoes told T b n' := fun k hk => by
  if e : k = n then
    rw [e]
    exact hs
  else exact h k (by omega)
theorem rd_0 {B : mzH} {T : pT} {a x0 x1 x2 x3 x4 y0 y1 y2 : Int32} (_ : tkH B T) (ha : a.toInt = 0) (h3 : x3.toInt = 0) (h4 : x4.toInt = -1) (hg : gtP T a x0 x1 x2 y0 y1 y2) : rdX T g0 y0 y1 y2 x3 x4 := by
  obtain ⟨e0, e1, e2⟩ := hg.1 (by omega)
  rw [show a.toInt.toNat = 0 by omega] at e1 e2
  exact ⟨by rw [e0]; exact ha, e1, e2, h3, h4, Nat.zero_le _⟩
/-- how the tokens go on -/
def tq (T : pT) (g g' : pG) : Prop := g.t ≤ g'.t ∧ (g.t ≤ T.M → g'.t ≤ T.M)
theorem tq_r {T : pT} {g : pG} : tq T g g := ⟨Nat.le_refl _, id⟩
theorem tq_t {T : pT} {a b c : pG} (h : tq T a b) (k : tq T b c) : tq T a c := ⟨Nat.le_trans h.1 k.1, fun z => k.2 (h.2 z)⟩
theorem tq_F {T : pT} {n : Int} {g : pG} : tq T g (pFail T n g) := by
  unfold pFail
  split
  · exact ⟨Nat.le_refl _, id⟩
  · exact tq_r
theorem tq_G {T : pT} {g : pG} : tq T g (pGo T g) := by
  unfold pGo
  split
  · rename_i h
    exact ⟨Nat.le_succ _, fun _ => h⟩
  · exact tq_r
theorem tq_T {T : pT} {lo hi : Int} {g : pG} : tq T g (pTake T lo hi g) := by
  unfold pTake
  split
  · exact tq_F
  · split
    · exact tq_r
    · exact tq_G
theorem tq_N {T : pT} {lo hi : Int} {g : pG} : tq T g (pNumb T lo hi g) := by
  unfold pNumb
  split
  · exact tq_t tq_F tq_T
  · exact tq_T
theorem tq_P {nm : Nat → Int} {P but : Int} {T : pT} {g : pG} : tq T g (pPlc nm P T but g) := by
  unfold pPlc
  split
  · exact tq_t tq_F tq_T
  · split
    · exact tq_t tq_F tq_T
    · exact tq_T
theorem tq_A {T : pT} {g : pG} : tq T g (pAct T g) := by
  unfold pAct
  split <;> exact tq_T
theorem tq_S {b : pB} {T : pT} {a : Int} {g : pG} : tq T g (pSec b T a g) := by
  unfold pSec
  split
  · exact tq_N
  · split
    · exact tq_P
    · exact tq_r
theorem tq_1 {b : pB} {T : pT} {g : pG} : tq T g (pRdP b T g) := by
  have h1 : tq T g (pRdP1 b T g) := by
    unfold pRdP1
    split
    · exact tq_t tq_F tq_T
    · exact tq_T
  unfold pRdP
  split
  · exact tq_t h1 (tq_t tq_F tq_T)
  · exact tq_t h1 tq_T
theorem tq_2 {b : pB} {T : pT} {g : pG} : tq T g (pRdR b T g) := by
  have h1 : tq T g (pRdR1 b T g) := by
    unfold pRdR1
    split
    · exact tq_t tq_F tq_T
    · exact tq_T
  exact tq_t (tq_t (tq_t h1 tq_P) tq_P) tq_N
theorem tq_3 {b : pB} {T : pT} {g : pG} : tq T g (pRdF b T g) := by
  have h1 : tq T g (pRdF1 b T g) := by
    unfold pRdF1
    split
    · exact tq_t tq_F tq_T
    · exact tq_T
  exact tq_t (tq_t h1 tq_N) tq_N
theorem tq_4 {b : pB} {T : pT} {g : pG} : tq T g (pM6 b T g) := by
  have h1 : tq T g (pM1 b T g) := by
    unfold pM1
    split
    · exact tq_t tq_F tq_T
    · exact tq_T
  have h4 : tq T g (pM4 b T g) := tq_t (tq_t (tq_t h1 tq_N) tq_A) tq_N
  have h5 : tq T g (pM5 b T g) := by
    unfold pM5
    split
    · exact tq_t h4 tq_T
    · exact h4
  exact tq_t h5 tq_S
theorem tq_L {b : pB} {T : pT} {g : pG} : tq T g (pLn1 b T g) := by
  unfold pLn1
  split
  · exact tq_1
  · split
    · exact tq_2
    · split
      · exact tq_3
      · split
        · exact tq_4
        · exact tq_F
theorem ln_go {b : pB} {T : pT} {g : pG} (hM : T.K T.M = 21) (ht : g.t ≤ T.M) (hf : (pLn b T g).f = 0) : g.t + 1 ≤ (pLn b T g).t ∧ (pLn b T g).t ≤ T.M := by
  have h1 := tq_L (b := b) (T := T) (g := g)
  have h2 := h1.2 ht
  unfold pLn at hf ⊢
  generalize pLn1 b T g = q at *
  rcases pT_ok (T := T) (lo := 20) (hi := 20) (g := q) with h | ⟨_, h3, h4, h5⟩
  · exact absurd hf h
  · have hne : q.t ≠ T.M := fun e => by
      rw [e] at h4 h5
      omega
    unfold pTake
    rw [if_neg (by omega), if_neg (fun c => c h3)]
    unfold pGo
    rw [if_pos (by omega)]
    have := h1.1
    exact ⟨by show g.t + 1 ≤ q.t + 1; omega, by show q.t + 1 ≤ T.M; omega⟩
theorem it_t {told : Int} {T : pT} {b : pB} (hM : T.K T.M = 21) : ∀ n, pGoes told T b n → (pIt told T n b).2.f = 0 → n ≤ (pIt told T n b).2.t ∧ (pIt told T n b).2.t ≤ T.M
  | 0, _, _ => ⟨Nat.le_refl _, Nat.zero_le _⟩
  | n + 1, h, hf => by
    have hn := h n (by omega)
    unfold pStop at hn
    have h0 : (pIt told T n b).2.f = 0 := by omega
    have ih := it_t hM n (fun k hk => h k (by omega)) h0
    have hs : (pSg told T (pIt told T n b).2).t = (pIt told T n b).2.t := by
      unfold pSg
      split
      · exact (pF_ne (by decide)).2
      · rfl
    have hf2 : (pLn (pIt told T n b).1 T (pSg told T (pIt told T n b).2)).f = 0 := hf
    have h3 := ln_go hM (by omega) hf2
    rw [hs] at h3
    show n + 1 ≤ (pLn (pIt told T n b).1 T (pSg told T (pIt told T n b).2)).t ∧ (pLn (pIt told T n b).1 T (pSg told T (pIt told T n b).2)).t ≤ T.M
    omega
theorem gs_end {told : Int} {T : pT} {b : pB} {n : Nat} (h : pGoes told T b n) (hM : T.K T.M = 21) (hT : T.M ≤ 900) (hc : 900 ≤ n ∨ (pIt told T n b).2.f ≠ 0 ∨ T.K (pIt told T n b).2.t = 21) : pStop T (pIt told T n b).2 := by
  unfold pStop
  rcases hc with c | c | c
  · if h0 : (pIt told T n b).2.f = 0 then
      right
      have := it_t hM n h h0
      rw [show (pIt told T n b).2.t = T.M by omega]
      exact hM
    else exact Or.inl h0
  · exact Or.inl c
  · exact Or.inr c
/-- what reading comes to -/
def rdE (H B : mzH) (a1 a2 : Int32) (b : pB) (y0 y1 y2 y3 y4 : Int32) : Prop := ∃ (T : pT) (n : Nat), tkA (bX H) a1.toInt.toNat T.K T.S T.V T.M ∧ (pGoes a2.toInt T b n ∧ pStop T (pIt a2.toInt T n b).2) ∧ rdX T (pIt a2.toInt T n b).2 y0 y1 y2 y3 y4 ∧ bkX B 11 (pIt a2.toInt T n b).1 ∧ (fZ B 19 7).toInt = n ∧ frE H B
set_option maxRecDepth 4000 in
set_option maxHeartbeats 4000000 in
/-- X4.read, exactly -/
theorem f_38 (a1 : Int32) (ha1 : 0 ≤ a1.toInt ∧ a1.toInt ≤ 900) (a2 : Int32) (ha2 : 0 ≤ a2.toInt ∧ a2.toInt ≤ 1) (H : mzH) (hI : gI SX H) (hJ : JX H) (x0 x1 x2 x3 x4 : Int32) (hx0 : 0 ≤ x0.toInt ∧ x0.toInt ≤ 900) {b : pB} (hp0 : a1.toInt ≤ (fZ H 1 1).toInt) (hp1 : bkX H 11 b) : gCall 38 [.ref 19, .int a1, .int a2] (rS H x0 x1 x2 x3 x4) (gRi (fun v H' => ∃ B : mzH, ∃ y0 y1 y2 y3 y4 : Int32, H' = rS B y0 y1 y2 y3 y4 ∧ gI SX B ∧ JX B ∧ (0 ≤ v.toInt ∧ v.toInt ≤ 1) ∧ (0 ≤ y0.toInt ∧ y0.toInt ≤ 900) ∧ rdE H B a1 a2 b y0 y1 y2 y3 y4 ∧ ((v.toInt = 1 ∧ y3.toInt = 0) ∨ (v.toInt = 0 ∧ ¬ y3.toInt = 0)))) := by
  refine gG_call [(0, .ref 19), (1, .int a1), (2, .int a2)] ⟨rfl, rfl, rfl, trivial⟩ ?_
  show gG 3 zB_38 (mzBlk zB_38 0) [(0, .ref 19), (1, .int a1), (2, .int a2)] [] (rS H x0 x1 x2 x3 x4) 0 0 _
  refine g_aload_n rfl ?_
  refine g_gfr (rS_I hI (by omega)) sx_19 rfl ?_
  refine g_iload_n rfl ?_
  refine g_invvv (rS_I hI (by omega)) sx_20 rfl rfl rfl rfl (f_73r a1 (by omega) H hI hJ x0 x1 x2 x3 x4 (by omega) (by omega)) (fun H413 r414 => ?_)
  obtain ⟨B418, rfl, hIB418, hJB418, zp415, zp416, zp417⟩ := r414
  obtain ⟨T, hT⟩ : ∃ T : pT, T = (kX B418, sX B418, vX B418, (fZ B418 20 4).toInt.toNat - 1) := ⟨_, rfl⟩
  have tkB418 : tkH B418 T := tk_new hT zp416
  have taB418 : tkA (bX H) a1.toInt.toNat T.K T.S T.V T.M := by rw [hT]; exact zp417
  have bkB418 := bk_fr (fun c h1 h2 => zp415 c (by omega) (by omega) (by omega) (by omega) (by omega)) hp1
  have frB418 := fr_cut zp415
  have wM := tkB418.2
  have w4 := fZ_of hIB418 sx_20 (f := 4) rfl
  refine g_aload_n rfl ?_
  refine g_iconst (by decide) (fun v419 kv419 => ?_)
  refine g_pfi (rS_I hIB418 (by omega)) sx_19 rfl (gz_any _) (fun H420 eH420 hIH420 => ?_)
  obtain rfl : H420 = (rS B418 x0 x1 x2 v419 x4) := eH420.trans (rS_s5 hIB418)
  refine g_aload_n rfl ?_
  refine g_iconst (by decide) (fun v421 kv421 => ?_)
  refine g_pfi (rS_I hIB418 (by omega)) sx_19 rfl (gz_any _) (fun H422 eH422 hIH422 => ?_)
  obtain rfl : H422 = (rS B418 x0 x1 x2 v419 v421) := eH422.trans (rS_s6 hIB418)
  refine g_aload_n rfl ?_
  refine g_iconst (by decide) (fun v423 kv423 => ?_)
  refine g_pfi (rS_I hIB418 (by omega)) sx_19 rfl (gz_any _) (fun H424 eH424 hIH424 => ?_)
  obtain ⟨B425, eB425⟩ : ∃ z, z = sF B418 19 7 v423 := ⟨_, rfl⟩
  obtain rfl : H424 = (rS B425 x0 x1 x2 v419 v421) := by rw [eH424, eB425]; exact rS_cF (by decide)
  have hIB425 : gI SX B425 := by rw [eB425]; exact gI_sF hIB418 sx_19 rfl (gz_any _)
  have hJB425 : JX B425 := JX_sF eB425 hJB418
  have tkB425 : tkH B425 T := tk_19 eB425 tkB418
  have bkB425 := bk_19 eB425 bkB418
  have frB425 := fr_19 eB425 frB418
  have jB425_19_7 : (fZ B425 19 7).toInt = v423.toInt := by rw [eB425, fZ_sF_eq hIB418 sx_19 rfl]
  refine g_aload_n rfl ?_
  refine g_iconst (by decide) (fun v426 kv426 => ?_)
  refine g_invvv (rS_I hIB425 (by omega)) sx_19 rfl rfl rfl rfl (f_39 v426 (by omega) B425 hIB425 hJB425 x0 x1 x2 v419 v421 (by omega) tkB425) (fun H427 r428 => ?_)
  obtain ⟨y429, y430, y431, rfl, by429, zp432⟩ := r428
  refine g_nop ?_
  have L439 : ∀ (N : Nat) (z433 : Int32) (z434 : Int32) (z435 : Int32) (z436 : Int32) (z437 : Int32) (B438 : mzH), (0 ≤ z433.toInt ∧ z433.toInt ≤ 900) → gI SX B438 → JX B438 → frE H B438 → tkH B438 T → bkX B438 11 (pIt a2.toInt T (fZ B438 19 7).toInt.toNat b).1 → rdX T (pIt a2.toInt T (fZ B438 19 7).toInt.toNat b).2 z433 z434 z435 z436 z437 → pGoes a2.toInt T b (fZ B438 19 7).toInt.toNat → (0 ≤ (fZ B438 19 7).toInt ∧ (fZ B438 19 7).toInt ≤ 900) → (900 - (fZ B438 19 7).toInt).toNat < N → gG 3 zB_38 (mzBlk zB_38 1) [(0, .ref 19), (1, .int a1), (2, .int a2)] [] (rS B438 z433 z434 z435 z436 z437) 0 0 (gRi (fun v H' => ∃ B : mzH, ∃ y0 y1 y2 y3 y4 : Int32, H' = rS B y0 y1 y2 y3 y4 ∧ gI SX B ∧ JX B ∧ (0 ≤ v.toInt ∧ v.toInt ≤ 1) ∧ (0 ≤ y0.toInt ∧ y0.toInt ≤ 900) ∧ rdE H B a1 a2 b y0 y1 y2 y3 y4 ∧ ((v.toInt = 1 ∧ y3.toInt = 0) ∨ (v.toInt = 0 ∧ ¬ y3.toInt = 0)))) := by
    intro N
    induction N with
    | zero => intro z433 z434 z435 z436 z437 B438 bz433 hIB438 hJB438 q0 q1 q2 q3 q4 q5 hmL439; exact absurd hmL439 (Nat.not_lt_zero _)
    | succ N ihL439 =>
      intro z433 z434 z435 z436 z437 B438 bz433 hIB438 hJB438 q0 q1 q2 q3 q4 q5 hmL439
      obtain ⟨qa, qb, qc, qd, qe, qf⟩ := id q3
      refine g_aload_n rfl ?_
      refine g_gfi (rS_I hIB438 (by omega)) sx_19 rfl (fun v440 ev440 lv440 uv440 => ?_)
      have iv440 : v440.toInt = (fZ B438 19 7).toInt := by rw [ev440, ← rS_o (by decide)]
      refine g_sipush (by decide) (fun v441 kv441 => ?_)
      refine g_if2_ge (fun c442 => ?_) (fun c442 => ?_)
      · refine g_aload_n rfl ?_
        refine g_gfk (rS_I hIB438 (by omega)) sx_19 rfl (rS_g5 hIB438) ?_
        refine g_if_ne (fun c443 => ?_) (fun c443 => ?_)
        · refine g_iconst (by decide) (fun v444 kv444 => ?_)
          refine g_nop ?_
          exact g_zret (by omega) ⟨_, rfl, B438, z433, z434, z435, z436, z437, rfl, hIB438, hJB438, (by omega), (by omega), ⟨T, (fZ B438 19 7).toInt.toNat, taB418, ⟨q4, gs_end q4 taB418.2.1 (by omega) (by omega)⟩, q3, q2, by omega, q0⟩, (by omega)⟩
        · refine g_iconst (by decide) (fun v445 kv445 => ?_)
          refine g_goto ?_
          exact g_zret (by omega) ⟨_, rfl, B438, z433, z434, z435, z436, z437, rfl, hIB438, hJB438, (by omega), (by omega), ⟨T, (fZ B438 19 7).toInt.toNat, taB418, ⟨q4, gs_end q4 taB418.2.1 (by omega) (by omega)⟩, q3, q2, by omega, q0⟩, (by omega)⟩
      · refine g_aload_n rfl ?_
        refine g_gfk (rS_I hIB438 (by omega)) sx_19 rfl (rS_g5 hIB438) ?_
        refine g_if_ne (fun c446 => ?_) (fun c446 => ?_)
        · refine g_aload_n rfl ?_
          refine g_gfk (rS_I hIB438 (by omega)) sx_19 rfl (rS_g5 hIB438) ?_
          refine g_if_ne (fun c447 => ?_) (fun c447 => ?_)
          · refine g_iconst (by decide) (fun v448 kv448 => ?_)
            refine g_nop ?_
            exact g_zret (by omega) ⟨_, rfl, B438, z433, z434, z435, z436, z437, rfl, hIB438, hJB438, (by omega), (by omega), ⟨T, (fZ B438 19 7).toInt.toNat, taB418, ⟨q4, gs_end q4 taB418.2.1 (by omega) (by omega)⟩, q3, q2, by omega, q0⟩, (by omega)⟩
          · refine g_iconst (by decide) (fun v449 kv449 => ?_)
            refine g_goto ?_
            exact g_zret (by omega) ⟨_, rfl, B438, z433, z434, z435, z436, z437, rfl, hIB438, hJB438, (by omega), (by omega), ⟨T, (fZ B438 19 7).toInt.toNat, taB418, ⟨q4, gs_end q4 taB418.2.1 (by omega) (by omega)⟩, q3, q2, by omega, q0⟩, (by omega)⟩
        · refine g_aload_n rfl ?_
          refine g_gfk (rS_I hIB438 (by omega)) sx_19 rfl (rS_g3 hIB438) ?_
          refine g_bipush (by decide) (fun v450 kv450 => ?_)
          refine g_if2_eq (fun c451 => ?_) (fun c451 => ?_)
          · refine g_aload_n rfl ?_
            refine g_gfk (rS_I hIB438 (by omega)) sx_19 rfl (rS_g5 hIB438) ?_
            refine g_if_ne (fun c452 => ?_) (fun c452 => ?_)
            · exfalso; omega
            · refine g_iconst (by decide) (fun v453 kv453 => ?_)
              refine g_goto ?_
              exact g_zret (by omega) ⟨_, rfl, B438, z433, z434, z435, z436, z437, rfl, hIB438, hJB438, (by omega), (by omega), ⟨T, (fZ B438 19 7).toInt.toNat, taB418, ⟨q4, gs_end q4 taB418.2.1 (by omega) (by omega)⟩, q3, q2, by omega, q0⟩, (by omega)⟩
          · refine g_iload_n rfl ?_
            refine g_if_eq (fun c454 => ?_) (fun c454 => ?_)
            · have sg : pSg a2.toInt T (pIt a2.toInt T (fZ B438 19 7).toInt.toNat b).2 = (pIt a2.toInt T (fZ B438 19 7).toInt.toNat b).2 := by unfold pSg; rw [if_neg (by omega)]
              have zq := q3
              rw [← sg] at zq
              refine g_aload_n rfl ?_
              refine g_invvv (rS_I hIB438 (by omega)) sx_19 rfl rfl rfl rfl (f_41 B438 hIB438 hJB438 z433 z434 z435 z436 z437 (by omega) q1 zq q2) (fun H455 r456 => ?_)
              obtain ⟨B466, y457, y458, y459, y460, y461, rfl, hIB466, hJB466, by457, zp462, zp463, zp464, zp465⟩ := r456
              obtain ⟨razp462, rbzp462, rczp462, rdzp462, rezp462, rfzp462⟩ := id zp462
              have f19 : (fZ B466 19 7).toInt = (fZ B438 19 7).toInt := by rw [fZ_cg (zp465 19 (by decide))]
              have frB466 := fr_ln q0 zp465
              refine g_aload_n rfl ?_
              refine g_dup rfl ?_
              refine g_gfi (rS_I hIB466 (by omega)) sx_19 rfl (fun v467 ev467 lv467 uv467 => ?_)
              have iv467 : v467.toInt = (fZ B466 19 7).toInt := by rw [ev467, ← rS_o (by decide)]
              refine g_iconst (by decide) (fun v468 kv468 => ?_)
              refine g_iadd (by omega) (fun v469 ev469 => ?_)
              refine g_pfi (rS_I hIB466 (by omega)) sx_19 rfl (gz_any _) (fun H470 eH470 hIH470 => ?_)
              obtain ⟨B471, eB471⟩ : ∃ z, z = sF B466 19 7 v469 := ⟨_, rfl⟩
              obtain rfl : H470 = (rS B471 y457 y458 y459 y460 y461) := by rw [eH470, eB471]; exact rS_cF (by decide)
              have hIB471 : gI SX B471 := by rw [eB471]; exact gI_sF hIB466 sx_19 rfl (gz_any _)
              have hJB471 : JX B471 := JX_sF eB471 hJB466
              have tkB471 : tkH B471 T := tk_19 eB471 zp463
              have bkB471 := bk_19 eB471 zp464
              have frB471 := fr_19 eB471 frB466
              have jB471_19_7 : (fZ B471 19 7).toInt = v469.toInt := by rw [eB471, fZ_sF_eq hIB466 sx_19 rfl]
              refine g_goto ?_
              exact ihL439 y457 y458 y459 y460 y461 B471 (by omega) hIB471 hJB471 frB471 tkB471 (by rw [it_st (n := (fZ B438 19 7).toInt.toNat) (by omega)]; exact bkB471) (by rw [it_st (n := (fZ B438 19 7).toInt.toNat) (by omega)]; exact zp462) (gs_st q4 (by omega) (fun h => by unfold pStop at h; omega)) (by omega) (by omega)
            · refine g_aload_n rfl ?_
              refine g_gfk (rS_I hIB438 (by omega)) sx_19 rfl (rS_g3 hIB438) ?_
              refine g_iconst (by decide) (fun v472 kv472 => ?_)
              refine g_if2_eq (fun c473 => ?_) (fun c473 => ?_)
              · have sg : pSg a2.toInt T (pIt a2.toInt T (fZ B438 19 7).toInt.toNat b).2 = (pIt a2.toInt T (fZ B438 19 7).toInt.toNat b).2 := by unfold pSg; rw [if_neg (by omega)]
                have zq := q3
                rw [← sg] at zq
                refine g_aload_n rfl ?_
                refine g_invvv (rS_I hIB438 (by omega)) sx_19 rfl rfl rfl rfl (f_41 B438 hIB438 hJB438 z433 z434 z435 z436 z437 (by omega) q1 zq q2) (fun H474 r475 => ?_)
                obtain ⟨B485, y476, y477, y478, y479, y480, rfl, hIB485, hJB485, by476, zp481, zp482, zp483, zp484⟩ := r475
                obtain ⟨razp481, rbzp481, rczp481, rdzp481, rezp481, rfzp481⟩ := id zp481
                have f19 : (fZ B485 19 7).toInt = (fZ B438 19 7).toInt := by rw [fZ_cg (zp484 19 (by decide))]
                have frB485 := fr_ln q0 zp484
                refine g_aload_n rfl ?_
                refine g_dup rfl ?_
                refine g_gfi (rS_I hIB485 (by omega)) sx_19 rfl (fun v486 ev486 lv486 uv486 => ?_)
                have iv486 : v486.toInt = (fZ B485 19 7).toInt := by rw [ev486, ← rS_o (by decide)]
                refine g_iconst (by decide) (fun v487 kv487 => ?_)
                refine g_iadd (by omega) (fun v488 ev488 => ?_)
                refine g_pfi (rS_I hIB485 (by omega)) sx_19 rfl (gz_any _) (fun H489 eH489 hIH489 => ?_)
                obtain ⟨B490, eB490⟩ : ∃ z, z = sF B485 19 7 v488 := ⟨_, rfl⟩
                obtain rfl : H489 = (rS B490 y476 y477 y478 y479 y480) := by rw [eH489, eB490]; exact rS_cF (by decide)
                have hIB490 : gI SX B490 := by rw [eB490]; exact gI_sF hIB485 sx_19 rfl (gz_any _)
                have hJB490 : JX B490 := JX_sF eB490 hJB485
                have tkB490 : tkH B490 T := tk_19 eB490 zp482
                have bkB490 := bk_19 eB490 zp483
                have frB490 := fr_19 eB490 frB485
                have jB490_19_7 : (fZ B490 19 7).toInt = v488.toInt := by rw [eB490, fZ_sF_eq hIB485 sx_19 rfl]
                refine g_goto ?_
                exact ihL439 y476 y477 y478 y479 y480 B490 (by omega) hIB490 hJB490 frB490 tkB490 (by rw [it_st (n := (fZ B438 19 7).toInt.toNat) (by omega)]; exact bkB490) (by rw [it_st (n := (fZ B438 19 7).toInt.toNat) (by omega)]; exact zp481) (gs_st q4 (by omega) (fun h => by unfold pStop at h; omega)) (by omega) (by omega)
              · refine g_aload_n rfl ?_
                refine g_iconst (by decide) (fun v491 kv491 => ?_)
                refine g_invvv (rS_I hIB438 (by omega)) sx_19 rfl rfl rfl rfl (f_40 v491 (by omega) B438 hIB438 hJB438 z433 z434 z435 z436 z437 (by omega) q1 q3) (fun H492 r493 => ?_)
                obtain ⟨y494, y495, rfl, zp496⟩ := r493
                rw [kv491] at zp496
                obtain ⟨razp496, rbzp496, rczp496, rdzp496, rezp496, rfzp496⟩ := id zp496
                have nzp496 := pF_ne (T := T) (g := ((pIt a2.toInt T (fZ B438 19 7).toInt.toNat b)).2) (n := 1) (by omega)
                refine g_nop ?_
                have sg : pSg a2.toInt T (pIt a2.toInt T (fZ B438 19 7).toInt.toNat b).2 = (pFail T 1 ((pIt a2.toInt T (fZ B438 19 7).toInt.toNat b)).2) := by unfold pSg; rw [if_pos (by omega)]
                have zq := zp496
                rw [← sg] at zq
                refine g_aload_n rfl ?_
                refine g_invvv (rS_I hIB438 (by omega)) sx_19 rfl rfl rfl rfl (f_41 B438 hIB438 hJB438 z433 z434 z435 y494 y495 (by omega) q1 zq q2) (fun H497 r498 => ?_)
                obtain ⟨B508, y499, y500, y501, y502, y503, rfl, hIB508, hJB508, by499, zp504, zp505, zp506, zp507⟩ := r498
                obtain ⟨razp504, rbzp504, rczp504, rdzp504, rezp504, rfzp504⟩ := id zp504
                have f19 : (fZ B508 19 7).toInt = (fZ B438 19 7).toInt := by rw [fZ_cg (zp507 19 (by decide))]
                have frB508 := fr_ln q0 zp507
                refine g_aload_n rfl ?_
                refine g_dup rfl ?_
                refine g_gfi (rS_I hIB508 (by omega)) sx_19 rfl (fun v509 ev509 lv509 uv509 => ?_)
                have iv509 : v509.toInt = (fZ B508 19 7).toInt := by rw [ev509, ← rS_o (by decide)]
                refine g_iconst (by decide) (fun v510 kv510 => ?_)
                refine g_iadd (by omega) (fun v511 ev511 => ?_)
                refine g_pfi (rS_I hIB508 (by omega)) sx_19 rfl (gz_any _) (fun H512 eH512 hIH512 => ?_)
                obtain ⟨B513, eB513⟩ : ∃ z, z = sF B508 19 7 v511 := ⟨_, rfl⟩
                obtain rfl : H512 = (rS B513 y499 y500 y501 y502 y503) := by rw [eH512, eB513]; exact rS_cF (by decide)
                have hIB513 : gI SX B513 := by rw [eB513]; exact gI_sF hIB508 sx_19 rfl (gz_any _)
                have hJB513 : JX B513 := JX_sF eB513 hJB508
                have tkB513 : tkH B513 T := tk_19 eB513 zp505
                have bkB513 := bk_19 eB513 zp506
                have frB513 := fr_19 eB513 frB508
                have jB513_19_7 : (fZ B513 19 7).toInt = v511.toInt := by rw [eB513, fZ_sF_eq hIB508 sx_19 rfl]
                refine g_goto ?_
                exact ihL439 y499 y500 y501 y502 y503 B513 (by omega) hIB513 hJB513 frB513 tkB513 (by rw [it_st (n := (fZ B438 19 7).toInt.toNat) (by omega)]; exact bkB513) (by rw [it_st (n := (fZ B438 19 7).toInt.toNat) (by omega)]; exact zp504) (gs_st q4 (by omega) (fun h => by unfold pStop at h; omega)) (by omega) (by omega)
  exact L439 _ y429 y430 y431 v419 v421 B425 (by omega) hIB425 hJB425 frB425 tkB425 (by rw [it_0 (by omega)]; exact bkB425) (by rw [it_0 (by omega)]; exact rd_0 tkB425 (by omega) (by omega) (by omega) zp432) (gs_0 (by omega)) (by omega) (Nat.lt_succ_self _)
