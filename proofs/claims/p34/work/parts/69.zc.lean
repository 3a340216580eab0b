/-! THE WAYS, as the reference reads them -/
def wM (H : mzH) (k : Nat) : Int := if k < 64 then (aZ H 3 (5 + k)).toInt else 0
theorem wM_A {H B : mzH} {a : Nat} {x v : Int32} (e : B = sA H a x.toInt.toNat v) (h : a ≠ 3 ∨ x.toInt < 5 ∨ 69 ≤ x.toInt) : wM B = wM H := by
  funext k
  unfold wM
  if q : k < 64 then
    rw [if_pos q, if_pos q, e]
    if z : a = 3 then
      subst z
      rw [aZ_sA_ne (by first | with_reducible assumption | omega)]
    else rw [aZ_sA_nc z]
  else rw [if_neg q, if_neg q]
theorem wM_F {H B : mzH} {a f : Nat} {v : Int32} (e : B = sF H a f v) : wM B = wM H := by
  funext k
  unfold wM
  rw [e, aZ_sF]
def mRd (w : Nat → Int) (a b : Nat) (n : Int) : Nat → Int := if n < w (8 * a + b) then (fun k => if k = 8 * b + a then n else if k = 8 * a + b then n else w k) else w
theorem mr_n {H B : mzH} {x v : Int32} {a b : Nat} {n w : Int} (e : B = sA H 3 x.toInt.toNat v) (hx : x.toInt = 1) (hab : a < 8 ∧ b < 8) (hw : w = (aZ B 3 (5 + (8 * a + b))).toInt) (hn : ¬ n < w) : wM B = mRd (wM H) a b n := by
  have e1 := wM_A e (by first | with_reducible assumption | omega)
  have e2 : wM H (8 * a + b) = w := by
    rw [← e1]
    unfold wM
    rw [if_pos (by first | with_reducible assumption | omega), hw]
  unfold mRd
  rw [e2, if_neg hn, e1]
theorem mr_y {H B1 B2 B3 : mzH} {x v i j u : Int32} {a b : Nat} {n w : Int} (hI1 : gI SM B1) (hI2 : gI SM B2) (e1 : B1 = sA H 3 x.toInt.toNat v) (e2 : B2 = sA B1 3 i.toInt.toNat u) (e3 : B3 = sA B2 3 j.toInt.toNat u) (hx : x.toInt = 1) (hab : a < 8 ∧ b < 8) (hi : i.toInt.toNat = 5 + (8 * a + b)) (hj : j.toInt.toNat = 5 + (8 * b + a) ∧ u.toInt = n) (hw : w = (aZ B1 3 (5 + (8 * a + b))).toInt) (hn : n < w) : wM B3 = mRd (wM H) a b n := by
  have e0 := wM_A e1 (by first | with_reducible assumption | omega)
  have ew : wM H (8 * a + b) = w := by
    rw [← e0]
    unfold wM
    rw [if_pos (by first | with_reducible assumption | omega), hw]
  unfold mRd
  rw [ew, if_pos hn]
  funext k
  if q : k < 64 then
    show (if k < 64 then (aZ B3 3 (5 + k)).toInt else 0) = _
    rw [if_pos q, e3, aZ_if hI2 sm_3 (by first | with_reducible assumption | omega) hj.1, e2, aZ_if hI1 sm_3 (by first | with_reducible assumption | omega) hi]
    if q1 : k = 8 * b + a then
      rw [if_pos (by first | with_reducible assumption | omega), if_pos q1]
      exact hj.2
    else
      rw [if_neg (by first | with_reducible assumption | omega), if_neg q1]
      if q2 : k = 8 * a + b then
        rw [if_pos (by first | with_reducible assumption | omega), if_pos q2]
        exact hj.2
      else
        rw [if_neg (by first | with_reducible assumption | omega), if_neg q2, ← e0]
        unfold wM
        rw [if_pos q]
  else
    show (if k < 64 then (aZ B3 3 (5 + k)).toInt else 0) = _
    rw [if_neg q, if_neg (by first | with_reducible assumption | omega), if_neg (by first | with_reducible assumption | omega)]
    unfold wM
    rw [if_neg q]
def mLn (c : pB) (T : pT) (g : pG) (w : Nat → Int) : Nat → Int := if T.K g.t = 1 then (if (pRdR c T g).f = 0 then mRd w (pPl c.nm c.P T (pRdR1 c T g)).toNat (pPl c.nm c.P T (pRdR2 c T g)).toNat (T.V (pRdR3 c T g).t) else w) else w
theorem mln_w {c : pB} {T : pT} {g : pG} {told : Int} {w : Nat → Int} (hf : g.f = 0) (h : ¬ T.K g.t = 3 ∧ (told ≠ 0 ∨ ¬ (0 ≤ T.K g.t ∧ T.K g.t ≤ 2))) : mLn c T (pSg told T g) w = w := by
  if q : told = 0 then
    rw [sg_id (Or.inl q)]
    unfold mLn
    rw [if_neg (by first | with_reducible assumption | omega)]
  else
    have e : pSg told T g = pFail T 1 g := by
      unfold pSg
      rw [if_pos ⟨q, h.1⟩]
    have hn : (pFail T 1 g).f ≠ 0 := (pF_ne (by decide)).1
    have hr : (pRdR c T (pFail T 1 g)).f ≠ 0 := fun z => hn (pq_2 z).1
    unfold mLn
    rw [e, if_neg hr, ite_self]
def mIt (told : Int) (T : pT) : Nat → pB → (Nat → Int) → Nat → Int
  | 0, _, w => w
  | n + 1, b, w => mLn (pIt told T n b).1 T (pSg told T (pIt told T n b).2) (mIt told T n b w)
theorem mi_0 {told : Int} {T : pT} {b : pB} {w : Nat → Int} {n : Nat} (h : n = 0) : mIt told T n b w = w := by subst h; rfl
theorem mi_st {told : Int} {T : pT} {b : pB} {w : Nat → Int} {n n' : Nat} (h : n' = n + 1) : mIt told T n' b w = mLn (pIt told T n b).1 T (pSg told T (pIt told T n b).2) (mIt told T n b w) := by subst h; rfl
/-- what the reference's reading comes to, with the ways -/
def rdTw (H B : mzH) (told : Int) (T : pT) (c : pB) (v : Int32) : Prop := ∃ k : Nat, pGoes told T c k ∧ pStop T (pIt told T k c).2 ∧ (fZ B 0 2).toInt = 0 ∧ (fZ B 0 15).toInt = (pIt told T k c).2.f ∧ (((pIt told T k c).2.f ≠ 0 ∧ v.toInt = -1 ∧ (fZ B 0 16).toInt = (pIt told T k c).2.p ∧ kwF H B ∧ (∀ i, aZ B 6 i = aZ H 6 i)) ∨ ((pIt told T k c).2.f = 0 ∧ v.toInt = (k : Int) ∧ (fZ B 0 16).toInt = -1 ∧ bkW B (pIt told T k c).1 ∧ (∀ q, q < 64 → (uW B q).toInt = mIt told T k c (wM H) q) ∧ uX B = fO (uW B) 8))
theorem rd_fin1w {H B B1 B2 B3 : mzH} {u w z v : Int32} {told : Int} {T : pT} {c : pB} {k : Nat} (q0 : frL H B) (e1 : B1 = sF B 0 2 u) (e2 : B2 = sF B1 0 15 w) (e3 : B3 = sF B2 0 16 z) (hI : gI SM B) (hI1 : gI SM B1) (hI2 : gI SM B2) (q4 : pGoes told T c k) (hst : pStop T (pIt told T k c).2) (hu : u.toInt = 0) (hw : w.toInt = (pIt told T k c).2.f) (hz : z.toInt = (pIt told T k c).2.p) (hf : (pIt told T k c).2.f ≠ 0) (hv : v.toInt = -1) : rdTw H B3 told T c v := by
  obtain ⟨t1, t2, t3, t4, t5⟩ := rd_tail q0 e1 e2 e3 hI hI1 hI2
  refine ⟨k, q4, hst, by rw [t2]; exact hu, by rw [t3]; exact hw, Or.inl ⟨hf, hv, by rw [t4]; exact hz, ⟨fun i => ?_, fun i => ?_, ?_⟩, fun i => ?_⟩⟩
  · rw [t1, aZ_cg (q0.1 2 (by decide) (by decide) (by decide))]
  · rw [t1, aZ_cg (q0.1 5 (by decide) (by decide) (by decide))]
  · rw [t5 18 (by decide) (by decide) (by decide), q0.2 18 (by decide) (by decide) (by decide)]
  · rw [t1, aZ_cg (q0.1 6 (by decide) (by decide) (by decide))]
theorem rd_fin2w {H B B1 B2 B3 B4 : mzH} {u w z v : Int32} {told : Int} {T : pT} {c : pB} (q6 : wM B = mIt told T (fZ B 0 19).toInt.toNat c (wM H)) (q0 : frL H B) (e1 : B1 = sF B 0 2 u) (e2 : B2 = sF B1 0 15 w) (e3 : B3 = sF B2 0 16 z) (hI : gI SM B) (hI1 : gI SM B1) (hI2 : gI SM B2) (q4 : pGoes told T c (fZ B 0 19).toInt.toNat) (hst : pStop T (pIt told T (fZ B 0 19).toInt.toNat c).2) (hb : bkM B (pIt told T (fZ B 0 19).toInt.toNat c).1) (hP : 0 ≤ (aZ B 3 0).toInt ∧ (aZ B 3 0).toInt ≤ 8) (hN : 0 ≤ (aZ B 3 2).toInt ∧ (aZ B 3 2).toInt ≤ 60) (hu : u.toInt = 0) (hw : w.toInt = (pIt told T (fZ B 0 19).toInt.toNat c).2.f) (hz : z.toInt = -1) (hf : (pIt told T (fZ B 0 19).toInt.toNat c).2.f = 0 ∧ 0 ≤ (fZ B 0 19).toInt) (hv : v.toInt = (fZ B4 0 19).toInt) (k1 : ∀ i, i < 369 → aZ B4 2 i = aZ B3 3 i) (k2 : ∀ i, i < 8 → aZ B4 5 i = aZ B3 4 i) (k3 : ∀ f, f ≠ 18 → (f < 8 ∨ 14 < f) → fZ B4 0 f = fZ B3 0 f) (k4 : fZ B4 0 18 = fZ B3 0 17) (_ : ∀ i, aZ B4 1 i = aZ B3 1 i) (k6 : uX B4 = fO (uW B4) 8) : rdTw H B4 told T c v := by
  obtain ⟨t1, t2, t3, t4, t5⟩ := rd_tail q0 e1 e2 e3 hI hI1 hI2
  refine ⟨_, q4, hst, by rw [k3 2 (by decide) (by decide), t2]; exact hu, by rw [k3 15 (by decide) (by decide), t3]; exact hw, Or.inr ⟨hf.1, ?_, by rw [k3 16 (by decide) (by decide), t4]; exact hz, ?_, fun q hq => ?_, k6⟩⟩
  · rw [hv, k3 19 (by decide) (by decide), t5 19 (by decide) (by decide) (by decide)]
    omega
  · exact bkG_cg (bkM_G.mp hb) hP.2 hN.2 (fun i hi => by rw [k1 i hi, t1]) (fun i hi => by rw [k2 i hi, t1]) (by rw [k4, t5 17 (by decide) (by decide) (by decide)])
  · rw [← q6]
    unfold uW wM
    rw [if_pos hq, if_pos hq, k1 _ (by first | with_reducible assumption | omega), t1]
set_option maxRecDepth 4000 in
set_option maxHeartbeats 4000000 in
/-- M.readNew, exactly -/
theorem h_166 (H : mzH) (hI : gI SM H) (hJ : JN H) (x0 x1 x2 x3 x4 x5 x6 : Int32) (hx0 : 0 ≤ x0.toInt ∧ x0.toInt ≤ 900) (hx1 : 0 ≤ x1.toInt ∧ x1.toInt ≤ 900) (hx2 : 0 ≤ x2.toInt ∧ x2.toInt ≤ 4) {b : Nat → Int} {n : Nat} {T : pT} {g : pG} {c : pB} (hp0 : tkM H b n T) (hp1 : rdM b n T g x0 x1 x2 x3 x4 x5 x6) (hp2 : bkM H c) (hp3 : g.f = 0 ∧ T.K g.t = 0) : gCall 166 [.ref 0] (mS H x0 x1 x2 x3 x4 x5 x6) (gRv (fun H' => ∃ B : mzH, ∃ y0 y1 y2 y3 y4 y5 y6 : Int32, H' = mS B y0 y1 y2 y3 y4 y5 y6 ∧ gI SM B ∧ JN B ∧ (0 ≤ y0.toInt ∧ y0.toInt ≤ 900) ∧ (0 ≤ y1.toInt ∧ y1.toInt ≤ 900) ∧ (0 ≤ y2.toInt ∧ y2.toInt ≤ 4) ∧ rdM b n T (pRdP c T g) y0 y1 y2 y3 y4 y5 y6 ∧ tkM B b n T ∧ ((pRdP c T g).f ≠ 0 ∨ bkM B (bRdP c T g)) ∧ frM H B ∧ wM B = wM H)) := by
  obtain ⟨-, r1, -, r3, -, -⟩ := id hp1
  have w0 := hp0.2.2
  have w3 := hp2.1
  have w4 := JN_n30 hJ (v := aZ H 3 0) rfl
  refine gG_call [(0, .ref 0)] ⟨rfl, trivial⟩ ?_
  show gG 2 zB_166 (mzBlk zB_166 0) [(0, .ref 0)] [] (mS H x0 x1 x2 x3 x4 x5 x6) 0 0 _
  refine g_aload_n rfl ?_
  refine g_gfr (mS_I hI (by first | with_reducible assumption | omega) (by first | with_reducible assumption | omega) (by first | with_reducible assumption | omega)) sm_0 rfl ?_
  refine g_iconst (by decide) (fun v1241 kv1241 => ?_)
  refine g_iaload (mS_I hI (by first | with_reducible assumption | omega) (by first | with_reducible assumption | omega) (by first | with_reducible assumption | omega)) sm_3 rfl (by first | with_reducible assumption | omega) (fun v1242 ev1242 lv1242 uv1242 => ?_)
  have dv1242 : v1242 = aZ H 3 v1241.toInt.toNat := ev1242.trans mS_a
  have tv1242 : v1242.toInt = (aZ H 3 v1241.toInt.toNat).toInt := by rw [dv1242]
  rw [show v1241.toInt.toNat = 0 from by omega] at tv1242
  have jv1242 := JN_n30 hJ (v := aZ H 3 0) rfl
  refine g_bipush (by decide) (fun v1243 kv1243 => ?_)
  refine g_if2_ne (fun c1244 => ?_) (fun c1244 => ?_)
  · refine g_aload_n rfl ?_
    refine g_invvv (mS_I hI (by first | with_reducible assumption | omega) (by first | with_reducible assumption | omega) (by first | with_reducible assumption | omega)) sm_0 rfl rfl rfl rfl (f_162 H hI hJ x0 x1 x2 x3 x4 x5 x6 (by first | with_reducible assumption | omega) (by first | with_reducible assumption | omega) (by first | with_reducible assumption | omega) hp0 hp1) (fun H1245 r1246 => ?_)
    obtain ⟨y1247, y1248, y1249, y1250, y1251, rfl, by1247, by1248, by1249, zp1252⟩ := r1246
    obtain ⟨-, rbzp1252, -, rdzp1252, -, -⟩ := id zp1252
    have nzp1252 := gn_f (T := T) (g := g)
    have al1253 : pRdP1 c T g = (pGn T g) := by unfold pRdP1; rw [if_neg (by first | with_reducible assumption | omega), tk_y (by first | with_reducible assumption | omega)]
    have zp1254 := zp1252
    rw [← al1253] at zp1254
    rw [← al1253] at nzp1252
    obtain ⟨-, rbzp1254, -, rdzp1254, -, -⟩ := id zp1254
    have knzp1254 := kr_n rbzp1254
    refine g_aload_n rfl ?_
    refine g_gfk (mS_I hI (by first | with_reducible assumption | omega) (by first | with_reducible assumption | omega) (by first | with_reducible assumption | omega)) sm_0 rfl (mS_g13 hI) ?_
    refine g_if_ne (fun c1255 => ?_) (fun c1255 => ?_)
    · refine g_aload_n rfl ?_
      refine g_invvi (mS_I hI (by first | with_reducible assumption | omega) (by first | with_reducible assumption | omega) (by first | with_reducible assumption | omega)) sm_0 rfl rfl rfl rfl (f_164 H hI hJ y1247 y1248 y1249 y1250 y1251 x5 x6 (by first | with_reducible assumption | omega) (by first | with_reducible assumption | omega) (by first | with_reducible assumption | omega) hp0 zp1254 hp2) (fun v1258 H1256 r1257 => ?_)
      obtain ⟨rfl, bv1258, zp1259⟩ := r1257
      have phzp1259 := ph_ok (c := c) (T := T) (g := (pRdP1 c T g))
      refine g_iconst (by decide) (fun v1260 kv1260 => ?_)
      refine g_if2_eq (fun c1261 => ?_) (fun c1261 => ?_)
      · refine g_aload_n rfl ?_
        refine g_gfk (mS_I hI (by first | with_reducible assumption | omega) (by first | with_reducible assumption | omega) (by first | with_reducible assumption | omega)) sm_0 rfl (mS_g12 hI) ?_
        refine g_istore_n (l' := [(0, .ref 0), (1, .int y1251)]) rfl rfl ?_
        refine g_aload_n rfl ?_
        refine g_invvv (mS_I hI (by first | with_reducible assumption | omega) (by first | with_reducible assumption | omega) (by first | with_reducible assumption | omega)) sm_0 rfl rfl rfl rfl (f_162 H hI hJ y1247 y1248 y1249 y1250 y1251 x5 x6 (by first | with_reducible assumption | omega) (by first | with_reducible assumption | omega) (by first | with_reducible assumption | omega) hp0 zp1254) (fun H1262 r1263 => ?_)
        obtain ⟨y1264, y1265, y1266, y1267, y1268, rfl, by1264, by1265, by1266, zp1269⟩ := r1263
        obtain ⟨-, rbzp1269, -, rdzp1269, -, -⟩ := id zp1269
        have nzp1269 := gn_f (T := T) (g := (pRdP1 c T g))
        have al1270 : pRdP c T g = (pGn T (pRdP1 c T g)) := by exact nw_1 (by first | with_reducible assumption | omega)
        have zp1271 := zp1269
        rw [← al1270] at zp1271
        rw [← al1270] at nzp1269
        obtain ⟨-, rbzp1271, -, rdzp1271, -, -⟩ := id zp1271
        refine g_aload_n rfl ?_
        refine g_gfk (mS_I hI (by first | with_reducible assumption | omega) (by first | with_reducible assumption | omega) (by first | with_reducible assumption | omega)) sm_0 rfl (mS_g13 hI) ?_
        refine g_if_eq (fun c1272 => ?_) (fun c1272 => ?_)
        · refine g_aload_n rfl ?_
          refine g_gfr (mS_I hI (by first | with_reducible assumption | omega) (by first | with_reducible assumption | omega) (by first | with_reducible assumption | omega)) sm_0 rfl ?_
          refine g_aload_n rfl ?_
          refine g_gfr (mS_I hI (by first | with_reducible assumption | omega) (by first | with_reducible assumption | omega) (by first | with_reducible assumption | omega)) sm_0 rfl ?_
          refine g_iconst (by decide) (fun v1273 kv1273 => ?_)
          refine g_iaload (mS_I hI (by first | with_reducible assumption | omega) (by first | with_reducible assumption | omega) (by first | with_reducible assumption | omega)) sm_3 rfl (by first | with_reducible assumption | omega) (fun v1274 ev1274 lv1274 uv1274 => ?_)
          have dv1274 : v1274 = aZ H 3 v1273.toInt.toNat := ev1274.trans mS_a
          have tv1274 : v1274.toInt = (aZ H 3 v1273.toInt.toNat).toInt := by rw [dv1274]
          rw [show v1273.toInt.toNat = 0 from by omega] at tv1274
          have jv1274 := JN_n30 hJ (v := aZ H 3 0) rfl
          refine g_iload_n rfl ?_
          refine g_iastore (mS_I hI (by first | with_reducible assumption | omega) (by first | with_reducible assumption | omega) (by first | with_reducible assumption | omega)) sm_4 (by first | with_reducible assumption | omega) (gz_any _) (fun H1275 eH1275 hIH1275 => ?_)
          obtain ⟨B1276, eB1276⟩ : ∃ z, z = sA H 4 v1274.toInt.toNat y1251 := ⟨_, rfl⟩
          obtain rfl : H1275 = (mS B1276 y1264 y1265 y1266 y1267 y1268 x5 x6) := by rw [eH1275, eB1276]; exact mS_cA
          have hIB1276 : gI SM B1276 := by rw [eB1276]; exact gI_sA hI sm_4 (gz_any _)
          have hJB1276 : JN B1276 := JN_sA (by decide) eB1276 hJ
          have z3B1276 : (aZ B1276 3 0).toInt = (aZ H 3 0).toInt := by rw [eB1276, aZ_sA_nc (by decide)]
          have frB1276 : frM H B1276 := frM_A (frM_r) eB1276 (by decide)
          have tkB1276 : tkM B1276 b n T := tkM_fr hp0 frB1276
          refine g_aload_n rfl ?_
          refine g_gfr (mS_I hIB1276 (by first | with_reducible assumption | omega) (by first | with_reducible assumption | omega) (by first | with_reducible assumption | omega)) sm_0 rfl ?_
          refine g_iconst (by decide) (fun v1277 kv1277 => ?_)
          refine g_dup2 rfl ?_
          refine g_iaload (mS_I hIB1276 (by first | with_reducible assumption | omega) (by first | with_reducible assumption | omega) (by first | with_reducible assumption | omega)) sm_3 rfl (by first | with_reducible assumption | omega) (fun v1278 ev1278 lv1278 uv1278 => ?_)
          have dv1278 : v1278 = aZ B1276 3 v1277.toInt.toNat := ev1278.trans mS_a
          have tv1278 : v1278.toInt = (aZ B1276 3 v1277.toInt.toNat).toInt := by rw [dv1278]
          rw [show v1277.toInt.toNat = 0 from by omega] at tv1278
          have jv1278 := JN_n30 hJB1276 (v := aZ B1276 3 0) rfl
          refine g_iconst (by decide) (fun v1279 kv1279 => ?_)
          refine g_iadd (by first | with_reducible assumption | omega) (fun v1280 ev1280 => ?_)
          refine g_iastore (mS_I hIB1276 (by first | with_reducible assumption | omega) (by first | with_reducible assumption | omega) (by first | with_reducible assumption | omega)) sm_3 (by first | with_reducible assumption | omega) (gz_any _) (fun H1281 eH1281 hIH1281 => ?_)
          obtain ⟨B1282, eB1282⟩ : ∃ z, z = sA B1276 3 v1277.toInt.toNat v1280 := ⟨_, rfl⟩
          obtain rfl : H1281 = (mS B1282 y1264 y1265 y1266 y1267 y1268 x5 x6) := by rw [eH1281, eB1282]; exact mS_cA
          have hIB1282 : gI SM B1282 := by rw [eB1282]; exact gI_sA hIB1276 sm_3 (gz_any _)
          have hJB1282 : JN B1282 := JN_s3 hIB1276 hJB1276 (by first | with_reducible assumption | omega) (fun _ => by omega) (fun _ => by omega) eB1282
          have frB1282 : frM H B1282 := frM_A frB1276 eB1282 (by decide)
          have tkB1282 : tkM B1282 b n T := tkM_fr hp0 frB1282
          exact g_ret ⟨rfl, B1282, y1264, y1265, y1266, y1267, y1268, x5, x6, rfl, hIB1282, hJB1282, (by first | with_reducible assumption | omega), (by first | with_reducible assumption | omega), (by first | with_reducible assumption | omega), zp1271, tkB1282, (Or.inr (by unfold bRdP; rw [if_pos (by first | with_reducible assumption | omega)]; exact npl_mk hI hIB1276 hp2 eB1276 eB1282 (by first | with_reducible assumption | omega) (by first | with_reducible assumption | omega) (by first | with_reducible assumption | omega) (by first | with_reducible assumption | omega))), frB1282, ((wM_A eB1282 (by first | with_reducible assumption | omega)).trans (wM_A eB1276 (by first | with_reducible assumption | omega)))⟩
        · exact g_ret ⟨rfl, H, y1264, y1265, y1266, y1267, y1268, x5, x6, rfl, hI, hJ, (by first | with_reducible assumption | omega), (by first | with_reducible assumption | omega), (by first | with_reducible assumption | omega), zp1271, hp0, (Or.inl (by first | with_reducible assumption | omega)), (frM_r), rfl⟩
      · refine g_aload_n rfl ?_
        refine g_iconst (by decide) (fun v1283 kv1283 => ?_)
        refine g_invvv (mS_I hI (by first | with_reducible assumption | omega) (by first | with_reducible assumption | omega) (by first | with_reducible assumption | omega)) sm_0 rfl rfl rfl rfl (f_161 v1283 (by first | with_reducible assumption | omega) H hI hJ y1247 y1248 y1249 y1250 y1251 x5 x6 (by first | with_reducible assumption | omega) (by first | with_reducible assumption | omega) (by first | with_reducible assumption | omega) hp0 zp1254) (fun H1284 r1285 => ?_)
        obtain ⟨y1286, y1287, rfl, zp1288⟩ := r1285
        rw [kv1283] at zp1288
        obtain ⟨-, rbzp1288, -, rdzp1288, -, -⟩ := id zp1288
        have nzp1288 := pF_ne (T := T) (g := (pRdP1 c T g)) (n := 3) (by first | with_reducible assumption | omega)
        refine g_nop ?_
        refine g_aload_n rfl ?_
        refine g_gfk (mS_I hI (by first | with_reducible assumption | omega) (by first | with_reducible assumption | omega) (by first | with_reducible assumption | omega)) sm_0 rfl (mS_g12 hI) ?_
        refine g_istore_n (l' := [(0, .ref 0), (1, .int y1251)]) rfl rfl ?_
        refine g_aload_n rfl ?_
        refine g_invvv (mS_I hI (by first | with_reducible assumption | omega) (by first | with_reducible assumption | omega) (by first | with_reducible assumption | omega)) sm_0 rfl rfl rfl rfl (f_162 H hI hJ y1247 y1248 y1249 y1250 y1251 y1286 y1287 (by first | with_reducible assumption | omega) (by first | with_reducible assumption | omega) (by first | with_reducible assumption | omega) hp0 zp1288) (fun H1289 r1290 => ?_)
        obtain ⟨y1291, y1292, y1293, y1294, y1295, rfl, by1291, by1292, by1293, zp1296⟩ := r1290
        obtain ⟨-, rbzp1296, -, rdzp1296, -, -⟩ := id zp1296
        have nzp1296 := gn_f (T := T) (g := (pFail T 3 (pRdP1 c T g)))
        have al1297 : pRdP c T g = (pGn T (pFail T 3 (pRdP1 c T g))) := by exact nw_3 (by first | with_reducible assumption | omega)
        have zp1298 := zp1296
        rw [← al1297] at zp1298
        rw [← al1297] at nzp1296
        obtain ⟨-, rbzp1298, -, rdzp1298, -, -⟩ := id zp1298
        refine g_aload_n rfl ?_
        refine g_gfk (mS_I hI (by first | with_reducible assumption | omega) (by first | with_reducible assumption | omega) (by first | with_reducible assumption | omega)) sm_0 rfl (mS_g13 hI) ?_
        refine g_if_eq (fun c1299 => ?_) (fun c1299 => ?_)
        · exfalso; omega
        · exact g_ret ⟨rfl, H, y1291, y1292, y1293, y1294, y1295, y1286, y1287, rfl, hI, hJ, (by first | with_reducible assumption | omega), (by first | with_reducible assumption | omega), (by first | with_reducible assumption | omega), zp1298, hp0, (Or.inl (by first | with_reducible assumption | omega)), (frM_r), rfl⟩
    · refine g_aload_n rfl ?_
      refine g_gfk (mS_I hI (by first | with_reducible assumption | omega) (by first | with_reducible assumption | omega) (by first | with_reducible assumption | omega)) sm_0 rfl (mS_g10 hI) ?_
      refine g_if_ne (fun c1300 => ?_) (fun c1300 => ?_)
      · refine g_aload_n rfl ?_
        refine g_iconst (by decide) (fun v1301 kv1301 => ?_)
        refine g_invvv (mS_I hI (by first | with_reducible assumption | omega) (by first | with_reducible assumption | omega) (by first | with_reducible assumption | omega)) sm_0 rfl rfl rfl rfl (f_161 v1301 (by first | with_reducible assumption | omega) H hI hJ y1247 y1248 y1249 y1250 y1251 x5 x6 (by first | with_reducible assumption | omega) (by first | with_reducible assumption | omega) (by first | with_reducible assumption | omega) hp0 zp1254) (fun H1302 r1303 => ?_)
        obtain ⟨y1304, y1305, rfl, zp1306⟩ := r1303
        rw [kv1301] at zp1306
        obtain ⟨-, rbzp1306, -, rdzp1306, -, -⟩ := id zp1306
        have nzp1306 := pF_ne (T := T) (g := (pRdP1 c T g)) (n := 1) (by first | with_reducible assumption | omega)
        refine g_nop ?_
        refine g_aload_n rfl ?_
        refine g_invvi (mS_I hI (by first | with_reducible assumption | omega) (by first | with_reducible assumption | omega) (by first | with_reducible assumption | omega)) sm_0 rfl rfl rfl rfl (f_164 H hI hJ y1247 y1248 y1249 y1250 y1251 y1304 y1305 (by first | with_reducible assumption | omega) (by first | with_reducible assumption | omega) (by first | with_reducible assumption | omega) hp0 zp1306 hp2) (fun v1309 H1307 r1308 => ?_)
        obtain ⟨rfl, bv1309, zp1310⟩ := r1308
        have phzp1310 := ph_ok (c := c) (T := T) (g := (pFail T 1 (pRdP1 c T g)))
        refine g_iconst (by decide) (fun v1311 kv1311 => ?_)
        refine g_if2_eq (fun c1312 => ?_) (fun c1312 => ?_)
        · refine g_aload_n rfl ?_
          refine g_gfk (mS_I hI (by first | with_reducible assumption | omega) (by first | with_reducible assumption | omega) (by first | with_reducible assumption | omega)) sm_0 rfl (mS_g12 hI) ?_
          refine g_istore_n (l' := [(0, .ref 0), (1, .int y1251)]) rfl rfl ?_
          refine g_aload_n rfl ?_
          refine g_invvv (mS_I hI (by first | with_reducible assumption | omega) (by first | with_reducible assumption | omega) (by first | with_reducible assumption | omega)) sm_0 rfl rfl rfl rfl (f_162 H hI hJ y1247 y1248 y1249 y1250 y1251 y1304 y1305 (by first | with_reducible assumption | omega) (by first | with_reducible assumption | omega) (by first | with_reducible assumption | omega) hp0 zp1306) (fun H1313 r1314 => ?_)
          obtain ⟨y1315, y1316, y1317, y1318, y1319, rfl, by1315, by1316, by1317, zp1320⟩ := r1314
          obtain ⟨-, rbzp1320, -, rdzp1320, -, -⟩ := id zp1320
          have nzp1320 := gn_f (T := T) (g := (pFail T 1 (pRdP1 c T g)))
          have al1321 : pRdP c T g = (pGn T (pFail T 1 (pRdP1 c T g))) := by exact nw_2 (by first | with_reducible assumption | omega)
          have zp1322 := zp1320
          rw [← al1321] at zp1322
          rw [← al1321] at nzp1320
          obtain ⟨-, rbzp1322, -, rdzp1322, -, -⟩ := id zp1322
          refine g_aload_n rfl ?_
          refine g_gfk (mS_I hI (by first | with_reducible assumption | omega) (by first | with_reducible assumption | omega) (by first | with_reducible assumption | omega)) sm_0 rfl (mS_g13 hI) ?_
          refine g_if_eq (fun c1323 => ?_) (fun c1323 => ?_)
          · exfalso; omega
          · exact g_ret ⟨rfl, H, y1315, y1316, y1317, y1318, y1319, y1304, y1305, rfl, hI, hJ, (by first | with_reducible assumption | omega), (by first | with_reducible assumption | omega), (by first | with_reducible assumption | omega), zp1322, hp0, (Or.inl (by first | with_reducible assumption | omega)), (frM_r), rfl⟩
        · refine g_aload_n rfl ?_
          refine g_iconst (by decide) (fun v1324 kv1324 => ?_)
          refine g_invvv (mS_I hI (by first | with_reducible assumption | omega) (by first | with_reducible assumption | omega) (by first | with_reducible assumption | omega)) sm_0 rfl rfl rfl rfl (f_161 v1324 (by first | with_reducible assumption | omega) H hI hJ y1247 y1248 y1249 y1250 y1251 y1304 y1305 (by first | with_reducible assumption | omega) (by first | with_reducible assumption | omega) (by first | with_reducible assumption | omega) hp0 zp1306) (fun H1325 r1326 => ?_)
          obtain ⟨y1327, y1328, rfl, zp1329⟩ := r1326
          rw [kv1324] at zp1329
          obtain ⟨-, rbzp1329, -, rdzp1329, -, -⟩ := id zp1329
          have nzp1329 := pF_ne (T := T) (g := (pFail T 1 (pRdP1 c T g))) (n := 3) (by first | with_reducible assumption | omega)
          refine g_nop ?_
          exfalso; omega
      · refine g_aload_n rfl ?_
        refine g_gfk (mS_I hI (by first | with_reducible assumption | omega) (by first | with_reducible assumption | omega) (by first | with_reducible assumption | omega)) sm_0 rfl (mS_g11 hI) ?_
        refine g_iconst (by decide) (fun v1330 kv1330 => ?_)
        refine g_if2_eq (fun c1331 => ?_) (fun c1331 => ?_)
        · refine g_aload_n rfl ?_
          refine g_invvi (mS_I hI (by first | with_reducible assumption | omega) (by first | with_reducible assumption | omega) (by first | with_reducible assumption | omega)) sm_0 rfl rfl rfl rfl (f_164 H hI hJ y1247 y1248 y1249 y1250 y1251 x5 x6 (by first | with_reducible assumption | omega) (by first | with_reducible assumption | omega) (by first | with_reducible assumption | omega) hp0 zp1254 hp2) (fun v1334 H1332 r1333 => ?_)
          obtain ⟨rfl, bv1334, zp1335⟩ := r1333
          have phzp1335 := ph_ok (c := c) (T := T) (g := (pRdP1 c T g))
          refine g_iconst (by decide) (fun v1336 kv1336 => ?_)
          refine g_if2_eq (fun c1337 => ?_) (fun c1337 => ?_)
          · refine g_aload_n rfl ?_
            refine g_gfk (mS_I hI (by first | with_reducible assumption | omega) (by first | with_reducible assumption | omega) (by first | with_reducible assumption | omega)) sm_0 rfl (mS_g12 hI) ?_
            refine g_istore_n (l' := [(0, .ref 0), (1, .int y1251)]) rfl rfl ?_
            refine g_aload_n rfl ?_
            refine g_invvv (mS_I hI (by first | with_reducible assumption | omega) (by first | with_reducible assumption | omega) (by first | with_reducible assumption | omega)) sm_0 rfl rfl rfl rfl (f_162 H hI hJ y1247 y1248 y1249 y1250 y1251 x5 x6 (by first | with_reducible assumption | omega) (by first | with_reducible assumption | omega) (by first | with_reducible assumption | omega) hp0 zp1254) (fun H1338 r1339 => ?_)
            obtain ⟨y1340, y1341, y1342, y1343, y1344, rfl, by1340, by1341, by1342, zp1345⟩ := r1339
            obtain ⟨-, rbzp1345, -, rdzp1345, -, -⟩ := id zp1345
            have nzp1345 := gn_f (T := T) (g := (pRdP1 c T g))
            have al1346 : pRdP c T g = (pGn T (pRdP1 c T g)) := by exact nw_4 (by first | with_reducible assumption | omega) (by first | with_reducible assumption | omega) (by first | with_reducible assumption | omega)
            have zp1347 := zp1345
            rw [← al1346] at zp1347
            rw [← al1346] at nzp1345
            obtain ⟨-, rbzp1347, -, rdzp1347, -, -⟩ := id zp1347
            refine g_aload_n rfl ?_
            refine g_gfk (mS_I hI (by first | with_reducible assumption | omega) (by first | with_reducible assumption | omega) (by first | with_reducible assumption | omega)) sm_0 rfl (mS_g13 hI) ?_
            refine g_if_eq (fun c1348 => ?_) (fun c1348 => ?_)
            · refine g_aload_n rfl ?_
              refine g_gfr (mS_I hI (by first | with_reducible assumption | omega) (by first | with_reducible assumption | omega) (by first | with_reducible assumption | omega)) sm_0 rfl ?_
              refine g_aload_n rfl ?_
              refine g_gfr (mS_I hI (by first | with_reducible assumption | omega) (by first | with_reducible assumption | omega) (by first | with_reducible assumption | omega)) sm_0 rfl ?_
              refine g_iconst (by decide) (fun v1349 kv1349 => ?_)
              refine g_iaload (mS_I hI (by first | with_reducible assumption | omega) (by first | with_reducible assumption | omega) (by first | with_reducible assumption | omega)) sm_3 rfl (by first | with_reducible assumption | omega) (fun v1350 ev1350 lv1350 uv1350 => ?_)
              have dv1350 : v1350 = aZ H 3 v1349.toInt.toNat := ev1350.trans mS_a
              have tv1350 : v1350.toInt = (aZ H 3 v1349.toInt.toNat).toInt := by rw [dv1350]
              rw [show v1349.toInt.toNat = 0 from by omega] at tv1350
              have jv1350 := JN_n30 hJ (v := aZ H 3 0) rfl
              refine g_iload_n rfl ?_
              refine g_iastore (mS_I hI (by first | with_reducible assumption | omega) (by first | with_reducible assumption | omega) (by first | with_reducible assumption | omega)) sm_4 (by first | with_reducible assumption | omega) (gz_any _) (fun H1351 eH1351 hIH1351 => ?_)
              obtain ⟨B1352, eB1352⟩ : ∃ z, z = sA H 4 v1350.toInt.toNat y1251 := ⟨_, rfl⟩
              obtain rfl : H1351 = (mS B1352 y1340 y1341 y1342 y1343 y1344 x5 x6) := by rw [eH1351, eB1352]; exact mS_cA
              have hIB1352 : gI SM B1352 := by rw [eB1352]; exact gI_sA hI sm_4 (gz_any _)
              have hJB1352 : JN B1352 := JN_sA (by decide) eB1352 hJ
              have z3B1352 : (aZ B1352 3 0).toInt = (aZ H 3 0).toInt := by rw [eB1352, aZ_sA_nc (by decide)]
              have frB1352 : frM H B1352 := frM_A (frM_r) eB1352 (by decide)
              have tkB1352 : tkM B1352 b n T := tkM_fr hp0 frB1352
              refine g_aload_n rfl ?_
              refine g_gfr (mS_I hIB1352 (by first | with_reducible assumption | omega) (by first | with_reducible assumption | omega) (by first | with_reducible assumption | omega)) sm_0 rfl ?_
              refine g_iconst (by decide) (fun v1353 kv1353 => ?_)
              refine g_dup2 rfl ?_
              refine g_iaload (mS_I hIB1352 (by first | with_reducible assumption | omega) (by first | with_reducible assumption | omega) (by first | with_reducible assumption | omega)) sm_3 rfl (by first | with_reducible assumption | omega) (fun v1354 ev1354 lv1354 uv1354 => ?_)
              have dv1354 : v1354 = aZ B1352 3 v1353.toInt.toNat := ev1354.trans mS_a
              have tv1354 : v1354.toInt = (aZ B1352 3 v1353.toInt.toNat).toInt := by rw [dv1354]
              rw [show v1353.toInt.toNat = 0 from by omega] at tv1354
              have jv1354 := JN_n30 hJB1352 (v := aZ B1352 3 0) rfl
              refine g_iconst (by decide) (fun v1355 kv1355 => ?_)
              refine g_iadd (by first | with_reducible assumption | omega) (fun v1356 ev1356 => ?_)
              refine g_iastore (mS_I hIB1352 (by first | with_reducible assumption | omega) (by first | with_reducible assumption | omega) (by first | with_reducible assumption | omega)) sm_3 (by first | with_reducible assumption | omega) (gz_any _) (fun H1357 eH1357 hIH1357 => ?_)
              obtain ⟨B1358, eB1358⟩ : ∃ z, z = sA B1352 3 v1353.toInt.toNat v1356 := ⟨_, rfl⟩
              obtain rfl : H1357 = (mS B1358 y1340 y1341 y1342 y1343 y1344 x5 x6) := by rw [eH1357, eB1358]; exact mS_cA
              have hIB1358 : gI SM B1358 := by rw [eB1358]; exact gI_sA hIB1352 sm_3 (gz_any _)
              have hJB1358 : JN B1358 := JN_s3 hIB1352 hJB1352 (by first | with_reducible assumption | omega) (fun _ => by omega) (fun _ => by omega) eB1358
              have frB1358 : frM H B1358 := frM_A frB1352 eB1358 (by decide)
              have tkB1358 : tkM B1358 b n T := tkM_fr hp0 frB1358
              exact g_ret ⟨rfl, B1358, y1340, y1341, y1342, y1343, y1344, x5, x6, rfl, hIB1358, hJB1358, (by first | with_reducible assumption | omega), (by first | with_reducible assumption | omega), (by first | with_reducible assumption | omega), zp1347, tkB1358, (Or.inr (by unfold bRdP; rw [if_pos (by first | with_reducible assumption | omega)]; exact npl_mk hI hIB1352 hp2 eB1352 eB1358 (by first | with_reducible assumption | omega) (by first | with_reducible assumption | omega) (by first | with_reducible assumption | omega) (by first | with_reducible assumption | omega))), frB1358, ((wM_A eB1358 (by first | with_reducible assumption | omega)).trans (wM_A eB1352 (by first | with_reducible assumption | omega)))⟩
            · exfalso; omega
          · refine g_aload_n rfl ?_
            refine g_iconst (by decide) (fun v1359 kv1359 => ?_)
            refine g_invvv (mS_I hI (by first | with_reducible assumption | omega) (by first | with_reducible assumption | omega) (by first | with_reducible assumption | omega)) sm_0 rfl rfl rfl rfl (f_161 v1359 (by first | with_reducible assumption | omega) H hI hJ y1247 y1248 y1249 y1250 y1251 x5 x6 (by first | with_reducible assumption | omega) (by first | with_reducible assumption | omega) (by first | with_reducible assumption | omega) hp0 zp1254) (fun H1360 r1361 => ?_)
            obtain ⟨y1362, y1363, rfl, zp1364⟩ := r1361
            rw [kv1359] at zp1364
            obtain ⟨-, rbzp1364, -, rdzp1364, -, -⟩ := id zp1364
            have nzp1364 := pF_ne (T := T) (g := (pRdP1 c T g)) (n := 3) (by first | with_reducible assumption | omega)
            refine g_nop ?_
            refine g_aload_n rfl ?_
            refine g_gfk (mS_I hI (by first | with_reducible assumption | omega) (by first | with_reducible assumption | omega) (by first | with_reducible assumption | omega)) sm_0 rfl (mS_g12 hI) ?_
            refine g_istore_n (l' := [(0, .ref 0), (1, .int y1251)]) rfl rfl ?_
            refine g_aload_n rfl ?_
            refine g_invvv (mS_I hI (by first | with_reducible assumption | omega) (by first | with_reducible assumption | omega) (by first | with_reducible assumption | omega)) sm_0 rfl rfl rfl rfl (f_162 H hI hJ y1247 y1248 y1249 y1250 y1251 y1362 y1363 (by first | with_reducible assumption | omega) (by first | with_reducible assumption | omega) (by first | with_reducible assumption | omega) hp0 zp1364) (fun H1365 r1366 => ?_)
            obtain ⟨y1367, y1368, y1369, y1370, y1371, rfl, by1367, by1368, by1369, zp1372⟩ := r1366
            obtain ⟨-, rbzp1372, -, rdzp1372, -, -⟩ := id zp1372
            have nzp1372 := gn_f (T := T) (g := (pFail T 3 (pRdP1 c T g)))
            have al1373 : pRdP c T g = (pGn T (pFail T 3 (pRdP1 c T g))) := by exact nw_3 (by first | with_reducible assumption | omega)
            have zp1374 := zp1372
            rw [← al1373] at zp1374
            rw [← al1373] at nzp1372
            obtain ⟨-, rbzp1374, -, rdzp1374, -, -⟩ := id zp1374
            refine g_aload_n rfl ?_
            refine g_gfk (mS_I hI (by first | with_reducible assumption | omega) (by first | with_reducible assumption | omega) (by first | with_reducible assumption | omega)) sm_0 rfl (mS_g13 hI) ?_
            refine g_if_eq (fun c1375 => ?_) (fun c1375 => ?_)
            · exfalso; omega
            · exact g_ret ⟨rfl, H, y1367, y1368, y1369, y1370, y1371, y1362, y1363, rfl, hI, hJ, (by first | with_reducible assumption | omega), (by first | with_reducible assumption | omega), (by first | with_reducible assumption | omega), zp1374, hp0, (Or.inl (by first | with_reducible assumption | omega)), (frM_r), rfl⟩
        · refine g_nop ?_
          refine g_aload_n rfl ?_
          refine g_iconst (by decide) (fun v1376 kv1376 => ?_)
          refine g_invvv (mS_I hI (by first | with_reducible assumption | omega) (by first | with_reducible assumption | omega) (by first | with_reducible assumption | omega)) sm_0 rfl rfl rfl rfl (f_161 v1376 (by first | with_reducible assumption | omega) H hI hJ y1247 y1248 y1249 y1250 y1251 x5 x6 (by first | with_reducible assumption | omega) (by first | with_reducible assumption | omega) (by first | with_reducible assumption | omega) hp0 zp1254) (fun H1377 r1378 => ?_)
          obtain ⟨y1379, y1380, rfl, zp1381⟩ := r1378
          rw [kv1376] at zp1381
          obtain ⟨-, rbzp1381, -, rdzp1381, -, -⟩ := id zp1381
          have nzp1381 := pF_ne (T := T) (g := (pRdP1 c T g)) (n := 1) (by first | with_reducible assumption | omega)
          refine g_nop ?_
          refine g_aload_n rfl ?_
          refine g_invvi (mS_I hI (by first | with_reducible assumption | omega) (by first | with_reducible assumption | omega) (by first | with_reducible assumption | omega)) sm_0 rfl rfl rfl rfl (f_164 H hI hJ y1247 y1248 y1249 y1250 y1251 y1379 y1380 (by first | with_reducible assumption | omega) (by first | with_reducible assumption | omega) (by first | with_reducible assumption | omega) hp0 zp1381 hp2) (fun v1384 H1382 r1383 => ?_)
          obtain ⟨rfl, bv1384, zp1385⟩ := r1383
          have phzp1385 := ph_ok (c := c) (T := T) (g := (pFail T 1 (pRdP1 c T g)))
          refine g_iconst (by decide) (fun v1386 kv1386 => ?_)
          refine g_if2_eq (fun c1387 => ?_) (fun c1387 => ?_)
          · refine g_aload_n rfl ?_
            refine g_gfk (mS_I hI (by first | with_reducible assumption | omega) (by first | with_reducible assumption | omega) (by first | with_reducible assumption | omega)) sm_0 rfl (mS_g12 hI) ?_
            refine g_istore_n (l' := [(0, .ref 0), (1, .int y1251)]) rfl rfl ?_
            refine g_aload_n rfl ?_
            refine g_invvv (mS_I hI (by first | with_reducible assumption | omega) (by first | with_reducible assumption | omega) (by first | with_reducible assumption | omega)) sm_0 rfl rfl rfl rfl (f_162 H hI hJ y1247 y1248 y1249 y1250 y1251 y1379 y1380 (by first | with_reducible assumption | omega) (by first | with_reducible assumption | omega) (by first | with_reducible assumption | omega) hp0 zp1381) (fun H1388 r1389 => ?_)
            obtain ⟨y1390, y1391, y1392, y1393, y1394, rfl, by1390, by1391, by1392, zp1395⟩ := r1389
            obtain ⟨-, rbzp1395, -, rdzp1395, -, -⟩ := id zp1395
            have nzp1395 := gn_f (T := T) (g := (pFail T 1 (pRdP1 c T g)))
            have al1396 : pRdP c T g = (pGn T (pFail T 1 (pRdP1 c T g))) := by exact nw_2 (by first | with_reducible assumption | omega)
            have zp1397 := zp1395
            rw [← al1396] at zp1397
            rw [← al1396] at nzp1395
            obtain ⟨-, rbzp1397, -, rdzp1397, -, -⟩ := id zp1397
            refine g_aload_n rfl ?_
            refine g_gfk (mS_I hI (by first | with_reducible assumption | omega) (by first | with_reducible assumption | omega) (by first | with_reducible assumption | omega)) sm_0 rfl (mS_g13 hI) ?_
            refine g_if_eq (fun c1398 => ?_) (fun c1398 => ?_)
            · exfalso; omega
            · exact g_ret ⟨rfl, H, y1390, y1391, y1392, y1393, y1394, y1379, y1380, rfl, hI, hJ, (by first | with_reducible assumption | omega), (by first | with_reducible assumption | omega), (by first | with_reducible assumption | omega), zp1397, hp0, (Or.inl (by first | with_reducible assumption | omega)), (frM_r), rfl⟩
          · refine g_aload_n rfl ?_
            refine g_iconst (by decide) (fun v1399 kv1399 => ?_)
            refine g_invvv (mS_I hI (by first | with_reducible assumption | omega) (by first | with_reducible assumption | omega) (by first | with_reducible assumption | omega)) sm_0 rfl rfl rfl rfl (f_161 v1399 (by first | with_reducible assumption | omega) H hI hJ y1247 y1248 y1249 y1250 y1251 y1379 y1380 (by first | with_reducible assumption | omega) (by first | with_reducible assumption | omega) (by first | with_reducible assumption | omega) hp0 zp1381) (fun H1400 r1401 => ?_)
            obtain ⟨y1402, y1403, rfl, zp1404⟩ := r1401
            rw [kv1399] at zp1404
            obtain ⟨-, rbzp1404, -, rdzp1404, -, -⟩ := id zp1404
            have nzp1404 := pF_ne (T := T) (g := (pFail T 1 (pRdP1 c T g))) (n := 3) (by first | with_reducible assumption | omega)
            refine g_nop ?_
            exfalso; omega
  · refine g_aload_n rfl ?_
    refine g_iconst (by decide) (fun v1405 kv1405 => ?_)
    refine g_invvv (mS_I hI (by first | with_reducible assumption | omega) (by first | with_reducible assumption | omega) (by first | with_reducible assumption | omega)) sm_0 rfl rfl rfl rfl (f_161 v1405 (by first | with_reducible assumption | omega) H hI hJ x0 x1 x2 x3 x4 x5 x6 (by first | with_reducible assumption | omega) (by first | with_reducible assumption | omega) (by first | with_reducible assumption | omega) hp0 hp1) (fun H1406 r1407 => ?_)
    obtain ⟨y1408, y1409, rfl, zp1410⟩ := r1407
    rw [kv1405] at zp1410
    obtain ⟨-, rbzp1410, -, rdzp1410, -, -⟩ := id zp1410
    have nzp1410 := pF_ne (T := T) (g := g) (n := 2) (by first | with_reducible assumption | omega)
    refine g_nop ?_
    refine g_aload_n rfl ?_
    refine g_invvv (mS_I hI (by first | with_reducible assumption | omega) (by first | with_reducible assumption | omega) (by first | with_reducible assumption | omega)) sm_0 rfl rfl rfl rfl (f_162 H hI hJ x0 x1 x2 x3 x4 y1408 y1409 (by first | with_reducible assumption | omega) (by first | with_reducible assumption | omega) (by first | with_reducible assumption | omega) hp0 zp1410) (fun H1411 r1412 => ?_)
    obtain ⟨y1413, y1414, y1415, y1416, y1417, rfl, by1413, by1414, by1415, zp1418⟩ := r1412
    obtain ⟨-, rbzp1418, -, rdzp1418, -, -⟩ := id zp1418
    have nzp1418 := gn_f (T := T) (g := (pFail T 2 g))
    have al1419 : pRdP1 c T g = (pGn T (pFail T 2 g)) := by unfold pRdP1; rw [if_pos (by first | with_reducible assumption | omega), tk_y (by rw [(pF_ne (by decide)).2]; omega)]
    have zp1420 := zp1418
    rw [← al1419] at zp1420
    rw [← al1419] at nzp1418
    obtain ⟨-, rbzp1420, -, rdzp1420, -, -⟩ := id zp1420
    have knzp1420 := kr_n rbzp1420
    refine g_aload_n rfl ?_
    refine g_gfk (mS_I hI (by first | with_reducible assumption | omega) (by first | with_reducible assumption | omega) (by first | with_reducible assumption | omega)) sm_0 rfl (mS_g13 hI) ?_
    refine g_if_ne (fun c1421 => ?_) (fun c1421 => ?_)
    · refine g_aload_n rfl ?_
      refine g_invvi (mS_I hI (by first | with_reducible assumption | omega) (by first | with_reducible assumption | omega) (by first | with_reducible assumption | omega)) sm_0 rfl rfl rfl rfl (f_164 H hI hJ y1413 y1414 y1415 y1416 y1417 y1408 y1409 (by first | with_reducible assumption | omega) (by first | with_reducible assumption | omega) (by first | with_reducible assumption | omega) hp0 zp1420 hp2) (fun v1424 H1422 r1423 => ?_)
      obtain ⟨rfl, bv1424, zp1425⟩ := r1423
      have phzp1425 := ph_ok (c := c) (T := T) (g := (pRdP1 c T g))
      refine g_iconst (by decide) (fun v1426 kv1426 => ?_)
      refine g_if2_eq (fun c1427 => ?_) (fun c1427 => ?_)
      · refine g_aload_n rfl ?_
        refine g_gfk (mS_I hI (by first | with_reducible assumption | omega) (by first | with_reducible assumption | omega) (by first | with_reducible assumption | omega)) sm_0 rfl (mS_g12 hI) ?_
        refine g_istore_n (l' := [(0, .ref 0), (1, .int y1417)]) rfl rfl ?_
        refine g_aload_n rfl ?_
        refine g_invvv (mS_I hI (by first | with_reducible assumption | omega) (by first | with_reducible assumption | omega) (by first | with_reducible assumption | omega)) sm_0 rfl rfl rfl rfl (f_162 H hI hJ y1413 y1414 y1415 y1416 y1417 y1408 y1409 (by first | with_reducible assumption | omega) (by first | with_reducible assumption | omega) (by first | with_reducible assumption | omega) hp0 zp1420) (fun H1428 r1429 => ?_)
        obtain ⟨y1430, y1431, y1432, y1433, y1434, rfl, by1430, by1431, by1432, zp1435⟩ := r1429
        obtain ⟨-, rbzp1435, -, rdzp1435, -, -⟩ := id zp1435
        have nzp1435 := gn_f (T := T) (g := (pRdP1 c T g))
        have al1436 : pRdP c T g = (pGn T (pRdP1 c T g)) := by exact nw_1 (by first | with_reducible assumption | omega)
        have zp1437 := zp1435
        rw [← al1436] at zp1437
        rw [← al1436] at nzp1435
        obtain ⟨-, rbzp1437, -, rdzp1437, -, -⟩ := id zp1437
        refine g_aload_n rfl ?_
        refine g_gfk (mS_I hI (by first | with_reducible assumption | omega) (by first | with_reducible assumption | omega) (by first | with_reducible assumption | omega)) sm_0 rfl (mS_g13 hI) ?_
        refine g_if_eq (fun c1438 => ?_) (fun c1438 => ?_)
        · exfalso; omega
        · exact g_ret ⟨rfl, H, y1430, y1431, y1432, y1433, y1434, y1408, y1409, rfl, hI, hJ, (by first | with_reducible assumption | omega), (by first | with_reducible assumption | omega), (by first | with_reducible assumption | omega), zp1437, hp0, (Or.inl (by first | with_reducible assumption | omega)), (frM_r), rfl⟩
      · refine g_aload_n rfl ?_
        refine g_iconst (by decide) (fun v1439 kv1439 => ?_)
        refine g_invvv (mS_I hI (by first | with_reducible assumption | omega) (by first | with_reducible assumption | omega) (by first | with_reducible assumption | omega)) sm_0 rfl rfl rfl rfl (f_161 v1439 (by first | with_reducible assumption | omega) H hI hJ y1413 y1414 y1415 y1416 y1417 y1408 y1409 (by first | with_reducible assumption | omega) (by first | with_reducible assumption | omega) (by first | with_reducible assumption | omega) hp0 zp1420) (fun H1440 r1441 => ?_)
        obtain ⟨y1442, y1443, rfl, zp1444⟩ := r1441
        rw [kv1439] at zp1444
        obtain ⟨-, rbzp1444, -, rdzp1444, -, -⟩ := id zp1444
        have nzp1444 := pF_ne (T := T) (g := (pRdP1 c T g)) (n := 3) (by first | with_reducible assumption | omega)
        refine g_nop ?_
        refine g_aload_n rfl ?_
        refine g_gfk (mS_I hI (by first | with_reducible assumption | omega) (by first | with_reducible assumption | omega) (by first | with_reducible assumption | omega)) sm_0 rfl (mS_g12 hI) ?_
        refine g_istore_n (l' := [(0, .ref 0), (1, .int y1417)]) rfl rfl ?_
        refine g_aload_n rfl ?_
        refine g_invvv (mS_I hI (by first | with_reducible assumption | omega) (by first | with_reducible assumption | omega) (by first | with_reducible assumption | omega)) sm_0 rfl rfl rfl rfl (f_162 H hI hJ y1413 y1414 y1415 y1416 y1417 y1442 y1443 (by first | with_reducible assumption | omega) (by first | with_reducible assumption | omega) (by first | with_reducible assumption | omega) hp0 zp1444) (fun H1445 r1446 => ?_)
        obtain ⟨y1447, y1448, y1449, y1450, y1451, rfl, by1447, by1448, by1449, zp1452⟩ := r1446
        obtain ⟨-, rbzp1452, -, rdzp1452, -, -⟩ := id zp1452
        have nzp1452 := gn_f (T := T) (g := (pFail T 3 (pRdP1 c T g)))
        have al1453 : pRdP c T g = (pGn T (pFail T 3 (pRdP1 c T g))) := by exact nw_3 (by first | with_reducible assumption | omega)
        have zp1454 := zp1452
        rw [← al1453] at zp1454
        rw [← al1453] at nzp1452
        obtain ⟨-, rbzp1454, -, rdzp1454, -, -⟩ := id zp1454
        refine g_aload_n rfl ?_
        refine g_gfk (mS_I hI (by first | with_reducible assumption | omega) (by first | with_reducible assumption | omega) (by first | with_reducible assumption | omega)) sm_0 rfl (mS_g13 hI) ?_
        refine g_if_eq (fun c1455 => ?_) (fun c1455 => ?_)
        · exfalso; omega
        · exact g_ret ⟨rfl, H, y1447, y1448, y1449, y1450, y1451, y1442, y1443, rfl, hI, hJ, (by first | with_reducible assumption | omega), (by first | with_reducible assumption | omega), (by first | with_reducible assumption | omega), zp1454, hp0, (Or.inl (by first | with_reducible assumption | omega)), (frM_r), rfl⟩
    · refine g_aload_n rfl ?_
      refine g_gfk (mS_I hI (by first | with_reducible assumption | omega) (by first | with_reducible assumption | omega) (by first | with_reducible assumption | omega)) sm_0 rfl (mS_g10 hI) ?_
      refine g_if_ne (fun c1456 => ?_) (fun c1456 => ?_)
      · refine g_aload_n rfl ?_
        refine g_iconst (by decide) (fun v1457 kv1457 => ?_)
        refine g_invvv (mS_I hI (by first | with_reducible assumption | omega) (by first | with_reducible assumption | omega) (by first | with_reducible assumption | omega)) sm_0 rfl rfl rfl rfl (f_161 v1457 (by first | with_reducible assumption | omega) H hI hJ y1413 y1414 y1415 y1416 y1417 y1408 y1409 (by first | with_reducible assumption | omega) (by first | with_reducible assumption | omega) (by first | with_reducible assumption | omega) hp0 zp1420) (fun H1458 r1459 => ?_)
        obtain ⟨y1460, y1461, rfl, zp1462⟩ := r1459
        rw [kv1457] at zp1462
        obtain ⟨-, rbzp1462, -, rdzp1462, -, -⟩ := id zp1462
        have nzp1462 := pF_ne (T := T) (g := (pRdP1 c T g)) (n := 1) (by first | with_reducible assumption | omega)
        refine g_nop ?_
        refine g_aload_n rfl ?_
        refine g_invvi (mS_I hI (by first | with_reducible assumption | omega) (by first | with_reducible assumption | omega) (by first | with_reducible assumption | omega)) sm_0 rfl rfl rfl rfl (f_164 H hI hJ y1413 y1414 y1415 y1416 y1417 y1460 y1461 (by first | with_reducible assumption | omega) (by first | with_reducible assumption | omega) (by first | with_reducible assumption | omega) hp0 zp1462 hp2) (fun v1465 H1463 r1464 => ?_)
        obtain ⟨rfl, bv1465, zp1466⟩ := r1464
        have phzp1466 := ph_ok (c := c) (T := T) (g := (pFail T 1 (pRdP1 c T g)))
        refine g_iconst (by decide) (fun v1467 kv1467 => ?_)
        refine g_if2_eq (fun c1468 => ?_) (fun c1468 => ?_)
        · refine g_aload_n rfl ?_
          refine g_gfk (mS_I hI (by first | with_reducible assumption | omega) (by first | with_reducible assumption | omega) (by first | with_reducible assumption | omega)) sm_0 rfl (mS_g12 hI) ?_
          refine g_istore_n (l' := [(0, .ref 0), (1, .int y1417)]) rfl rfl ?_
          refine g_aload_n rfl ?_
          refine g_invvv (mS_I hI (by first | with_reducible assumption | omega) (by first | with_reducible assumption | omega) (by first | with_reducible assumption | omega)) sm_0 rfl rfl rfl rfl (f_162 H hI hJ y1413 y1414 y1415 y1416 y1417 y1460 y1461 (by first | with_reducible assumption | omega) (by first | with_reducible assumption | omega) (by first | with_reducible assumption | omega) hp0 zp1462) (fun H1469 r1470 => ?_)
          obtain ⟨y1471, y1472, y1473, y1474, y1475, rfl, by1471, by1472, by1473, zp1476⟩ := r1470
          obtain ⟨-, rbzp1476, -, rdzp1476, -, -⟩ := id zp1476
          have nzp1476 := gn_f (T := T) (g := (pFail T 1 (pRdP1 c T g)))
          have al1477 : pRdP c T g = (pGn T (pFail T 1 (pRdP1 c T g))) := by exact nw_2 (by first | with_reducible assumption | omega)
          have zp1478 := zp1476
          rw [← al1477] at zp1478
          rw [← al1477] at nzp1476
          obtain ⟨-, rbzp1478, -, rdzp1478, -, -⟩ := id zp1478
          refine g_aload_n rfl ?_
          refine g_gfk (mS_I hI (by first | with_reducible assumption | omega) (by first | with_reducible assumption | omega) (by first | with_reducible assumption | omega)) sm_0 rfl (mS_g13 hI) ?_
          refine g_if_eq (fun c1479 => ?_) (fun c1479 => ?_)
          · exfalso; omega
          · exact g_ret ⟨rfl, H, y1471, y1472, y1473, y1474, y1475, y1460, y1461, rfl, hI, hJ, (by first | with_reducible assumption | omega), (by first | with_reducible assumption | omega), (by first | with_reducible assumption | omega), zp1478, hp0, (Or.inl (by first | with_reducible assumption | omega)), (frM_r), rfl⟩
        · refine g_aload_n rfl ?_
          refine g_iconst (by decide) (fun v1480 kv1480 => ?_)
          refine g_invvv (mS_I hI (by first | with_reducible assumption | omega) (by first | with_reducible assumption | omega) (by first | with_reducible assumption | omega)) sm_0 rfl rfl rfl rfl (f_161 v1480 (by first | with_reducible assumption | omega) H hI hJ y1413 y1414 y1415 y1416 y1417 y1460 y1461 (by first | with_reducible assumption | omega) (by first | with_reducible assumption | omega) (by first | with_reducible assumption | omega) hp0 zp1462) (fun H1481 r1482 => ?_)
          obtain ⟨y1483, y1484, rfl, zp1485⟩ := r1482
          rw [kv1480] at zp1485
          obtain ⟨-, rbzp1485, -, rdzp1485, -, -⟩ := id zp1485
          have nzp1485 := pF_ne (T := T) (g := (pFail T 1 (pRdP1 c T g))) (n := 3) (by first | with_reducible assumption | omega)
          refine g_nop ?_
          exfalso; omega
      · refine g_aload_n rfl ?_
        refine g_gfk (mS_I hI (by first | with_reducible assumption | omega) (by first | with_reducible assumption | omega) (by first | with_reducible assumption | omega)) sm_0 rfl (mS_g11 hI) ?_
        refine g_iconst (by decide) (fun v1486 kv1486 => ?_)
        refine g_if2_eq (fun c1487 => ?_) (fun c1487 => ?_)
        · refine g_aload_n rfl ?_
          refine g_invvi (mS_I hI (by first | with_reducible assumption | omega) (by first | with_reducible assumption | omega) (by first | with_reducible assumption | omega)) sm_0 rfl rfl rfl rfl (f_164 H hI hJ y1413 y1414 y1415 y1416 y1417 y1408 y1409 (by first | with_reducible assumption | omega) (by first | with_reducible assumption | omega) (by first | with_reducible assumption | omega) hp0 zp1420 hp2) (fun v1490 H1488 r1489 => ?_)
          obtain ⟨rfl, bv1490, zp1491⟩ := r1489
          have phzp1491 := ph_ok (c := c) (T := T) (g := (pRdP1 c T g))
          refine g_iconst (by decide) (fun v1492 kv1492 => ?_)
          refine g_if2_eq (fun c1493 => ?_) (fun c1493 => ?_)
          · refine g_aload_n rfl ?_
            refine g_gfk (mS_I hI (by first | with_reducible assumption | omega) (by first | with_reducible assumption | omega) (by first | with_reducible assumption | omega)) sm_0 rfl (mS_g12 hI) ?_
            refine g_istore_n (l' := [(0, .ref 0), (1, .int y1417)]) rfl rfl ?_
            refine g_aload_n rfl ?_
            refine g_invvv (mS_I hI (by first | with_reducible assumption | omega) (by first | with_reducible assumption | omega) (by first | with_reducible assumption | omega)) sm_0 rfl rfl rfl rfl (f_162 H hI hJ y1413 y1414 y1415 y1416 y1417 y1408 y1409 (by first | with_reducible assumption | omega) (by first | with_reducible assumption | omega) (by first | with_reducible assumption | omega) hp0 zp1420) (fun H1494 r1495 => ?_)
            obtain ⟨y1496, y1497, y1498, y1499, y1500, rfl, by1496, by1497, by1498, zp1501⟩ := r1495
            obtain ⟨-, rbzp1501, -, rdzp1501, -, -⟩ := id zp1501
            have nzp1501 := gn_f (T := T) (g := (pRdP1 c T g))
            have al1502 : pRdP c T g = (pGn T (pRdP1 c T g)) := by exact nw_4 (by first | with_reducible assumption | omega) (by first | with_reducible assumption | omega) (by first | with_reducible assumption | omega)
            have zp1503 := zp1501
            rw [← al1502] at zp1503
            rw [← al1502] at nzp1501
            obtain ⟨-, rbzp1503, -, rdzp1503, -, -⟩ := id zp1503
            refine g_aload_n rfl ?_
            refine g_gfk (mS_I hI (by first | with_reducible assumption | omega) (by first | with_reducible assumption | omega) (by first | with_reducible assumption | omega)) sm_0 rfl (mS_g13 hI) ?_
            refine g_if_eq (fun c1504 => ?_) (fun c1504 => ?_)
            · exfalso; omega
            · exfalso; omega
          · refine g_aload_n rfl ?_
            refine g_iconst (by decide) (fun v1505 kv1505 => ?_)
            refine g_invvv (mS_I hI (by first | with_reducible assumption | omega) (by first | with_reducible assumption | omega) (by first | with_reducible assumption | omega)) sm_0 rfl rfl rfl rfl (f_161 v1505 (by first | with_reducible assumption | omega) H hI hJ y1413 y1414 y1415 y1416 y1417 y1408 y1409 (by first | with_reducible assumption | omega) (by first | with_reducible assumption | omega) (by first | with_reducible assumption | omega) hp0 zp1420) (fun H1506 r1507 => ?_)
            obtain ⟨y1508, y1509, rfl, zp1510⟩ := r1507
            rw [kv1505] at zp1510
            obtain ⟨-, rbzp1510, -, rdzp1510, -, -⟩ := id zp1510
            have nzp1510 := pF_ne (T := T) (g := (pRdP1 c T g)) (n := 3) (by first | with_reducible assumption | omega)
            refine g_nop ?_
            refine g_aload_n rfl ?_
            refine g_gfk (mS_I hI (by first | with_reducible assumption | omega) (by first | with_reducible assumption | omega) (by first | with_reducible assumption | omega)) sm_0 rfl (mS_g12 hI) ?_
            refine g_istore_n (l' := [(0, .ref 0), (1, .int y1417)]) rfl rfl ?_
            refine g_aload_n rfl ?_
            refine g_invvv (mS_I hI (by first | with_reducible assumption | omega) (by first | with_reducible assumption | omega) (by first | with_reducible assumption | omega)) sm_0 rfl rfl rfl rfl (f_162 H hI hJ y1413 y1414 y1415 y1416 y1417 y1508 y1509 (by first | with_reducible assumption | omega) (by first | with_reducible assumption | omega) (by first | with_reducible assumption | omega) hp0 zp1510) (fun H1511 r1512 => ?_)
            obtain ⟨y1513, y1514, y1515, y1516, y1517, rfl, by1513, by1514, by1515, zp1518⟩ := r1512
            obtain ⟨-, rbzp1518, -, rdzp1518, -, -⟩ := id zp1518
            have nzp1518 := gn_f (T := T) (g := (pFail T 3 (pRdP1 c T g)))
            have al1519 : pRdP c T g = (pGn T (pFail T 3 (pRdP1 c T g))) := by exact nw_3 (by first | with_reducible assumption | omega)
            have zp1520 := zp1518
            rw [← al1519] at zp1520
            rw [← al1519] at nzp1518
            obtain ⟨-, rbzp1520, -, rdzp1520, -, -⟩ := id zp1520
            refine g_aload_n rfl ?_
            refine g_gfk (mS_I hI (by first | with_reducible assumption | omega) (by first | with_reducible assumption | omega) (by first | with_reducible assumption | omega)) sm_0 rfl (mS_g13 hI) ?_
            refine g_if_eq (fun c1521 => ?_) (fun c1521 => ?_)
            · exfalso; omega
            · exact g_ret ⟨rfl, H, y1513, y1514, y1515, y1516, y1517, y1508, y1509, rfl, hI, hJ, (by first | with_reducible assumption | omega), (by first | with_reducible assumption | omega), (by first | with_reducible assumption | omega), zp1520, hp0, (Or.inl (by first | with_reducible assumption | omega)), (frM_r), rfl⟩
        · refine g_nop ?_
          refine g_aload_n rfl ?_
          refine g_iconst (by decide) (fun v1522 kv1522 => ?_)
          refine g_invvv (mS_I hI (by first | with_reducible assumption | omega) (by first | with_reducible assumption | omega) (by first | with_reducible assumption | omega)) sm_0 rfl rfl rfl rfl (f_161 v1522 (by first | with_reducible assumption | omega) H hI hJ y1413 y1414 y1415 y1416 y1417 y1408 y1409 (by first | with_reducible assumption | omega) (by first | with_reducible assumption | omega) (by first | with_reducible assumption | omega) hp0 zp1420) (fun H1523 r1524 => ?_)
          obtain ⟨y1525, y1526, rfl, zp1527⟩ := r1524
          rw [kv1522] at zp1527
          obtain ⟨-, rbzp1527, -, rdzp1527, -, -⟩ := id zp1527
          have nzp1527 := pF_ne (T := T) (g := (pRdP1 c T g)) (n := 1) (by first | with_reducible assumption | omega)
          refine g_nop ?_
          refine g_aload_n rfl ?_
          refine g_invvi (mS_I hI (by first | with_reducible assumption | omega) (by first | with_reducible assumption | omega) (by first | with_reducible assumption | omega)) sm_0 rfl rfl rfl rfl (f_164 H hI hJ y1413 y1414 y1415 y1416 y1417 y1525 y1526 (by first | with_reducible assumption | omega) (by first | with_reducible assumption | omega) (by first | with_reducible assumption | omega) hp0 zp1527 hp2) (fun v1530 H1528 r1529 => ?_)
          obtain ⟨rfl, bv1530, zp1531⟩ := r1529
          have phzp1531 := ph_ok (c := c) (T := T) (g := (pFail T 1 (pRdP1 c T g)))
          refine g_iconst (by decide) (fun v1532 kv1532 => ?_)
          refine g_if2_eq (fun c1533 => ?_) (fun c1533 => ?_)
          · refine g_aload_n rfl ?_
            refine g_gfk (mS_I hI (by first | with_reducible assumption | omega) (by first | with_reducible assumption | omega) (by first | with_reducible assumption | omega)) sm_0 rfl (mS_g12 hI) ?_
            refine g_istore_n (l' := [(0, .ref 0), (1, .int y1417)]) rfl rfl ?_
            refine g_aload_n rfl ?_
            refine g_invvv (mS_I hI (by first | with_reducible assumption | omega) (by first | with_reducible assumption | omega) (by first | with_reducible assumption | omega)) sm_0 rfl rfl rfl rfl (f_162 H hI hJ y1413 y1414 y1415 y1416 y1417 y1525 y1526 (by first | with_reducible assumption | omega) (by first | with_reducible assumption | omega) (by first | with_reducible assumption | omega) hp0 zp1527) (fun H1534 r1535 => ?_)
            obtain ⟨y1536, y1537, y1538, y1539, y1540, rfl, by1536, by1537, by1538, zp1541⟩ := r1535
            obtain ⟨-, rbzp1541, -, rdzp1541, -, -⟩ := id zp1541
            have nzp1541 := gn_f (T := T) (g := (pFail T 1 (pRdP1 c T g)))
            have al1542 : pRdP c T g = (pGn T (pFail T 1 (pRdP1 c T g))) := by exact nw_2 (by first | with_reducible assumption | omega)
            have zp1543 := zp1541
            rw [← al1542] at zp1543
            rw [← al1542] at nzp1541
            obtain ⟨-, rbzp1543, -, rdzp1543, -, -⟩ := id zp1543
            refine g_aload_n rfl ?_
            refine g_gfk (mS_I hI (by first | with_reducible assumption | omega) (by first | with_reducible assumption | omega) (by first | with_reducible assumption | omega)) sm_0 rfl (mS_g13 hI) ?_
            refine g_if_eq (fun c1544 => ?_) (fun c1544 => ?_)
            · exfalso; omega
            · exact g_ret ⟨rfl, H, y1536, y1537, y1538, y1539, y1540, y1525, y1526, rfl, hI, hJ, (by first | with_reducible assumption | omega), (by first | with_reducible assumption | omega), (by first | with_reducible assumption | omega), zp1543, hp0, (Or.inl (by first | with_reducible assumption | omega)), (frM_r), rfl⟩
          · refine g_aload_n rfl ?_
            refine g_iconst (by decide) (fun v1545 kv1545 => ?_)
            refine g_invvv (mS_I hI (by first | with_reducible assumption | omega) (by first | with_reducible assumption | omega) (by first | with_reducible assumption | omega)) sm_0 rfl rfl rfl rfl (f_161 v1545 (by first | with_reducible assumption | omega) H hI hJ y1413 y1414 y1415 y1416 y1417 y1525 y1526 (by first | with_reducible assumption | omega) (by first | with_reducible assumption | omega) (by first | with_reducible assumption | omega) hp0 zp1527) (fun H1546 r1547 => ?_)
            obtain ⟨y1548, y1549, rfl, zp1550⟩ := r1547
            rw [kv1545] at zp1550
            obtain ⟨-, rbzp1550, -, rdzp1550, -, -⟩ := id zp1550
            have nzp1550 := pF_ne (T := T) (g := (pFail T 1 (pRdP1 c T g))) (n := 3) (by first | with_reducible assumption | omega)
            refine g_nop ?_
            exfalso; omega
set_option maxRecDepth 4000 in
set_option maxHeartbeats 4000000 in
/-- M.readRoad, exactly -/
theorem h_167 (H : mzH) (hI : gI SM H) (hJ : JN H) (x0 x1 x2 x3 x4 x5 x6 : Int32) (hx0 : 0 ≤ x0.toInt ∧ x0.toInt ≤ 900) (hx1 : 0 ≤ x1.toInt ∧ x1.toInt ≤ 900) (hx2 : 0 ≤ x2.toInt ∧ x2.toInt ≤ 4) {b : Nat → Int} {n : Nat} {T : pT} {g : pG} {c : pB} (hp0 : tkM H b n T) (hp1 : rdM b n T g x0 x1 x2 x3 x4 x5 x6) (hp2 : bkM H c) (hp3 : g.f = 0 ∧ T.K g.t = 1) : gCall 167 [.ref 0] (mS H x0 x1 x2 x3 x4 x5 x6) (gRv (fun H' => ∃ B : mzH, ∃ y0 y1 y2 y3 y4 y5 y6 : Int32, H' = mS B y0 y1 y2 y3 y4 y5 y6 ∧ gI SM B ∧ JN B ∧ (0 ≤ y0.toInt ∧ y0.toInt ≤ 900) ∧ (0 ≤ y1.toInt ∧ y1.toInt ≤ 900) ∧ (0 ≤ y2.toInt ∧ y2.toInt ≤ 4) ∧ rdM b n T (pRdR c T g) y0 y1 y2 y3 y4 y5 y6 ∧ tkM B b n T ∧ ((pRdR c T g).f ≠ 0 ∨ bkM B (bRdR c T g)) ∧ frM H B ∧ wM B = if (pRdR c T g).f = 0 then mRd (wM H) (pPl c.nm c.P T (pRdR1 c T g)).toNat (pPl c.nm c.P T (pRdR2 c T g)).toNat (T.V (pRdR3 c T g).t) else wM H)) := by
  obtain ⟨-, r1, -, r3, -, -⟩ := id hp1
  have w0 := hp0.2.2
  have w3 := hp2.1
  have w4 := JN_n30 hJ (v := aZ H 3 0) rfl
  have w5 := hp2.2.1
  have w6 := hp2.2.2.2.2.2.2.2.2
  refine gG_call [(0, .ref 0)] ⟨rfl, trivial⟩ ?_
  show gG 4 zB_167 (mzBlk zB_167 0) [(0, .ref 0)] [] (mS H x0 x1 x2 x3 x4 x5 x6) 0 0 _
  refine g_aload_n rfl ?_
  refine g_gfr (mS_I hI (by first | with_reducible assumption | omega) (by first | with_reducible assumption | omega) (by first | with_reducible assumption | omega)) sm_0 rfl ?_
  refine g_iconst (by decide) (fun v1289 kv1289 => ?_)
  refine g_iaload (mS_I hI (by first | with_reducible assumption | omega) (by first | with_reducible assumption | omega) (by first | with_reducible assumption | omega)) sm_3 rfl (by first | with_reducible assumption | omega) (fun v1290 ev1290 lv1290 uv1290 => ?_)
  have dv1290 : v1290 = aZ H 3 v1289.toInt.toNat := ev1290.trans mS_a
  have tv1290 : v1290.toInt = (aZ H 3 v1289.toInt.toNat).toInt := by rw [dv1290]
  rw [show v1289.toInt.toNat = 1 from by omega] at tv1290
  have w6v1290 : 0 ≤ v1290.toInt ∧ v1290.toInt ≤ 12 := by omega
  refine g_bipush (by decide) (fun v1291 kv1291 => ?_)
  refine g_if2_ne (fun c1292 => ?_) (fun c1292 => ?_)
  · refine g_aload_n rfl ?_
    refine g_invvv (mS_I hI (by first | with_reducible assumption | omega) (by first | with_reducible assumption | omega) (by first | with_reducible assumption | omega)) sm_0 rfl rfl rfl rfl (f_162 H hI hJ x0 x1 x2 x3 x4 x5 x6 (by first | with_reducible assumption | omega) (by first | with_reducible assumption | omega) (by first | with_reducible assumption | omega) hp0 hp1) (fun H1293 r1294 => ?_)
    obtain ⟨y1295, y1296, y1297, y1298, y1299, rfl, by1295, by1296, by1297, zp1300⟩ := r1294
    obtain ⟨-, rbzp1300, -, rdzp1300, -, -⟩ := id zp1300
    have nzp1300 := gn_f (T := T) (g := g)
    have al1301 : pRdR1 c T g = (pGn T g) := by unfold pRdR1; rw [if_neg (by first | with_reducible assumption | omega), tk_y (by first | with_reducible assumption | omega)]
    have zp1302 := zp1300
    rw [← al1301] at zp1302
    rw [← al1301] at nzp1300
    obtain ⟨-, rbzp1302, -, rdzp1302, -, -⟩ := id zp1302
    refine g_aload_n rfl ?_
    refine g_invvi (mS_I hI (by first | with_reducible assumption | omega) (by first | with_reducible assumption | omega) (by first | with_reducible assumption | omega)) sm_0 rfl rfl rfl rfl (f_165 H hI hJ y1295 y1296 y1297 y1298 y1299 x5 x6 (by first | with_reducible assumption | omega) (by first | with_reducible assumption | omega) (by first | with_reducible assumption | omega) hp0 zp1302 hp2) (fun v1305 H1303 r1304 => ?_)
    obtain ⟨y1306, y1307, y1308, y1309, y1310, y1311, y1312, rfl, bv1305, by1306, by1307, by1308, zp1313, zp1314⟩ := r1304
    obtain ⟨-, rbzp1313, -, rdzp1313, -, -⟩ := id zp1313
    have nzp1313 := bx.mk (rp_ok (c := c) (T := T) (g := (pRdR1 c T g)))
    have al1315 : pRdR2 c T g = (pPlc c.nm c.P T (-1) (pRdR1 c T g)) := by rfl
    have zp1316 := zp1313
    rw [← al1315] at zp1316
    rw [← al1315] at nzp1313
    obtain ⟨-, rbzp1316, -, rdzp1316, -, -⟩ := id zp1316
    refine g_istore_n (l' := [(0, .ref 0), (1, .int v1305)]) rfl rfl ?_
    refine g_aload_n rfl ?_
    refine g_gfk (mS_I hI (by first | with_reducible assumption | omega) (by first | with_reducible assumption | omega) (by first | with_reducible assumption | omega)) sm_0 rfl (mS_g13 hI) ?_
    refine g_if_ne (fun c1317 => ?_) (fun c1317 => ?_)
    · refine g_aload_n rfl ?_
      refine g_invvi (mS_I hI (by first | with_reducible assumption | omega) (by first | with_reducible assumption | omega) (by first | with_reducible assumption | omega)) sm_0 rfl rfl rfl rfl (f_165 H hI hJ y1306 y1307 y1308 y1309 y1310 y1311 y1312 (by first | with_reducible assumption | omega) (by first | with_reducible assumption | omega) (by first | with_reducible assumption | omega) hp0 zp1316 hp2) (fun v1320 H1318 r1319 => ?_)
      obtain ⟨y1321, y1322, y1323, y1324, y1325, y1326, y1327, rfl, bv1320, by1321, by1322, by1323, zp1328, zp1329⟩ := r1319
      obtain ⟨-, rbzp1328, -, rdzp1328, -, -⟩ := id zp1328
      have nzp1328 := bx.mk (rp_ok (c := c) (T := T) (g := (pRdR2 c T g)))
      have al1330 : pRdR3 c T g = (pPlc c.nm c.P T (-1) (pRdR2 c T g)) := by unfold pRdR3; exact rr_c rfl (by first | with_reducible assumption | omega)
      have zp1331 := zp1328
      rw [← al1330] at zp1331
      rw [← al1330] at nzp1328
      obtain ⟨-, rbzp1331, -, rdzp1331, -, -⟩ := id zp1331
      refine g_istore_n (l' := [(0, .ref 0), (1, .int v1305), (2, .int v1320)]) rfl rfl ?_
      refine g_aload_n rfl ?_
      refine g_iconst (by decide) (fun v1332 kv1332 => ?_)
      refine g_bipush (by decide) (fun v1333 kv1333 => ?_)
      refine g_invvi (mS_I hI (by first | with_reducible assumption | omega) (by first | with_reducible assumption | omega) (by first | with_reducible assumption | omega)) sm_0 rfl rfl rfl rfl (f_163 v1332 (by first | with_reducible assumption | omega) v1333 (by first | with_reducible assumption | omega) H hI hJ y1321 y1322 y1323 y1324 y1325 y1326 y1327 (by first | with_reducible assumption | omega) (by first | with_reducible assumption | omega) (by first | with_reducible assumption | omega) hp0 zp1331) (fun v1336 H1334 r1335 => ?_)
      obtain ⟨y1337, y1338, y1339, y1340, y1341, y1342, y1343, rfl, by1337, by1338, by1339, zp1344, zp1345⟩ := r1335
      rw [kv1332] at zp1344
      rw [kv1332] at zp1345
      rw [kv1333] at zp1344
      rw [kv1333] at zp1345
      obtain ⟨-, rbzp1344, -, rdzp1344, -, -⟩ := id zp1344
      have nzp1344 := bx.mk (pN_ok (T := T) (lo := 1) (hi := 99) (g := (pRdR3 c T g)))
      have al1346 : pRdR c T g = (pNumb T 1 99 (pRdR3 c T g)) := by rfl
      have zp1347 := zp1344
      rw [← al1346] at zp1347
      rw [← al1346] at nzp1344
      rw [← al1346] at zp1345
      obtain ⟨-, rbzp1347, -, rdzp1347, -, -⟩ := id zp1347
      refine g_istore_n (l' := [(0, .ref 0), (1, .int v1305), (2, .int v1320), (3, .int v1336)]) rfl rfl ?_
      refine g_aload_n rfl ?_
      refine g_gfk (mS_I hI (by first | with_reducible assumption | omega) (by first | with_reducible assumption | omega) (by first | with_reducible assumption | omega)) sm_0 rfl (mS_g13 hI) ?_
      refine g_if_eq (fun c1348 => ?_) (fun c1348 => ?_)
      · have onzp1344 := (bx.op nzp1344).resolve_left (by first | with_reducible assumption | omega)
        have onzp1328 := (bx.op nzp1328).resolve_left (by first | with_reducible assumption | omega)
        have onzp1313 := (bx.op nzp1313).resolve_left (by first | with_reducible assumption | omega)
        have pe1 := (pl_ph (c := c) (T := T) (g := pRdR1 c T g) (by first | with_reducible assumption | omega)).2.2.1
        have pe2 := (pl_ph (c := c) (T := T) (g := pRdR2 c T g) (by first | with_reducible assumption | omega)).2.2.1
        refine g_aload_n rfl ?_
        refine g_gfr (mS_I hI (by first | with_reducible assumption | omega) (by first | with_reducible assumption | omega) (by first | with_reducible assumption | omega)) sm_0 rfl ?_
        refine g_iconst (by decide) (fun v1349 kv1349 => ?_)
        refine g_dup2 rfl ?_
        refine g_iaload (mS_I hI (by first | with_reducible assumption | omega) (by first | with_reducible assumption | omega) (by first | with_reducible assumption | omega)) sm_3 rfl (by first | with_reducible assumption | omega) (fun v1350 ev1350 lv1350 uv1350 => ?_)
        have dv1350 : v1350 = aZ H 3 v1349.toInt.toNat := ev1350.trans mS_a
        have tv1350 : v1350.toInt = (aZ H 3 v1349.toInt.toNat).toInt := by rw [dv1350]
        rw [show v1349.toInt.toNat = 1 from by omega] at tv1350
        have w6v1350 : 0 ≤ v1350.toInt ∧ v1350.toInt ≤ 12 := by omega
        refine g_iconst (by decide) (fun v1351 kv1351 => ?_)
        refine g_iadd (by first | with_reducible assumption | omega) (fun v1352 ev1352 => ?_)
        refine g_iastore (mS_I hI (by first | with_reducible assumption | omega) (by first | with_reducible assumption | omega) (by first | with_reducible assumption | omega)) sm_3 (by first | with_reducible assumption | omega) (gz_any _) (fun H1353 eH1353 hIH1353 => ?_)
        obtain ⟨B1354, eB1354⟩ : ∃ z, z = sA H 3 v1349.toInt.toNat v1352 := ⟨_, rfl⟩
        obtain rfl : H1353 = (mS B1354 y1337 y1338 y1339 y1340 y1341 y1342 y1343) := by rw [eH1353, eB1354]; exact mS_cA
        have hIB1354 : gI SM B1354 := by rw [eB1354]; exact gI_sA hI sm_3 (gz_any _)
        have hJB1354 : JN B1354 := JN_s3 hI hJ (by first | with_reducible assumption | omega) (fun _ => by omega) (fun _ => by omega) eB1354
        have frB1354 : frM H B1354 := frM_A (frM_r) eB1354 (by decide)
        have tkB1354 : tkM B1354 b n T := tkM_fr hp0 frB1354
        refine g_iload_n rfl ?_
        refine g_aload_n rfl ?_
        refine g_gfr (mS_I hIB1354 (by first | with_reducible assumption | omega) (by first | with_reducible assumption | omega) (by first | with_reducible assumption | omega)) sm_0 rfl ?_
        refine g_iconst (by decide) (fun v1355 kv1355 => ?_)
        refine g_bipush (by decide) (fun v1356 kv1356 => ?_)
        refine g_iload_n rfl ?_
        refine g_imulk' (n := 8) kv1356 (by first | with_reducible assumption | omega) (fun v1357 ev1357 => ?_)
        refine g_iadd (by first | with_reducible assumption | omega) (fun v1358 ev1358 => ?_)
        refine g_iload_n rfl ?_
        refine g_iadd (by first | with_reducible assumption | omega) (fun v1359 ev1359 => ?_)
        refine g_iaload (mS_I hIB1354 (by first | with_reducible assumption | omega) (by first | with_reducible assumption | omega) (by first | with_reducible assumption | omega)) sm_3 rfl (by first | with_reducible assumption | omega) (fun v1360 ev1360 lv1360 uv1360 => ?_)
        have dv1360 : v1360 = aZ B1354 3 v1359.toInt.toNat := ev1360.trans mS_a
        have tv1360 : v1360.toInt = (aZ B1354 3 v1359.toInt.toNat).toInt := by rw [dv1360]
        refine g_if2_lt (fun c1361 => ?_) (fun c1361 => ?_)
        · refine g_aload_n rfl ?_
          refine g_gfr (mS_I hIB1354 (by first | with_reducible assumption | omega) (by first | with_reducible assumption | omega) (by first | with_reducible assumption | omega)) sm_0 rfl ?_
          refine g_iconst (by decide) (fun v1362 kv1362 => ?_)
          refine g_bipush (by decide) (fun v1363 kv1363 => ?_)
          refine g_iload_n rfl ?_
          refine g_imulk' (n := 8) kv1363 (by first | with_reducible assumption | omega) (fun v1364 ev1364 => ?_)
          refine g_iadd (by first | with_reducible assumption | omega) (fun v1365 ev1365 => ?_)
          refine g_iload_n rfl ?_
          refine g_iadd (by first | with_reducible assumption | omega) (fun v1366 ev1366 => ?_)
          refine g_iload_n rfl ?_
          refine g_iastore (mS_I hIB1354 (by first | with_reducible assumption | omega) (by first | with_reducible assumption | omega) (by first | with_reducible assumption | omega)) sm_3 (by first | with_reducible assumption | omega) (gz_any _) (fun H1367 eH1367 hIH1367 => ?_)
          obtain ⟨B1368, eB1368⟩ : ∃ z, z = sA B1354 3 v1366.toInt.toNat v1336 := ⟨_, rfl⟩
          obtain rfl : H1367 = (mS B1368 y1337 y1338 y1339 y1340 y1341 y1342 y1343) := by rw [eH1367, eB1368]; exact mS_cA
          have hIB1368 : gI SM B1368 := by rw [eB1368]; exact gI_sA hIB1354 sm_3 (gz_any _)
          have hJB1368 : JN B1368 := JN_s3 hIB1354 hJB1354 (by first | with_reducible assumption | omega) (fun _ => by omega) (fun _ => by omega) eB1368
          have frB1368 : frM H B1368 := frM_A frB1354 eB1368 (by decide)
          have tkB1368 : tkM B1368 b n T := tkM_fr hp0 frB1368
          refine g_aload_n rfl ?_
          refine g_gfr (mS_I hIB1368 (by first | with_reducible assumption | omega) (by first | with_reducible assumption | omega) (by first | with_reducible assumption | omega)) sm_0 rfl ?_
          refine g_iconst (by decide) (fun v1369 kv1369 => ?_)
          refine g_bipush (by decide) (fun v1370 kv1370 => ?_)
          refine g_iload_n rfl ?_
          refine g_imulk' (n := 8) kv1370 (by first | with_reducible assumption | omega) (fun v1371 ev1371 => ?_)
          refine g_iadd (by first | with_reducible assumption | omega) (fun v1372 ev1372 => ?_)
          refine g_iload_n rfl ?_
          refine g_iadd (by first | with_reducible assumption | omega) (fun v1373 ev1373 => ?_)
          refine g_iload_n rfl ?_
          refine g_iastore (mS_I hIB1368 (by first | with_reducible assumption | omega) (by first | with_reducible assumption | omega) (by first | with_reducible assumption | omega)) sm_3 (by first | with_reducible assumption | omega) (gz_any _) (fun H1374 eH1374 hIH1374 => ?_)
          obtain ⟨B1375, eB1375⟩ : ∃ z, z = sA B1368 3 v1373.toInt.toNat v1336 := ⟨_, rfl⟩
          obtain rfl : H1374 = (mS B1375 y1337 y1338 y1339 y1340 y1341 y1342 y1343) := by rw [eH1374, eB1375]; exact mS_cA
          have hIB1375 : gI SM B1375 := by rw [eB1375]; exact gI_sA hIB1368 sm_3 (gz_any _)
          have hJB1375 : JN B1375 := JN_s3 hIB1368 hJB1368 (by first | with_reducible assumption | omega) (fun _ => by omega) (fun _ => by omega) eB1375
          have frB1375 : frM H B1375 := frM_A frB1368 eB1375 (by decide)
          have tkB1375 : tkM B1375 b n T := tkM_fr hp0 frB1375
          exact g_ret ⟨rfl, B1375, y1337, y1338, y1339, y1340, y1341, y1342, y1343, rfl, hIB1375, hJB1375, (by first | with_reducible assumption | omega), (by first | with_reducible assumption | omega), (by first | with_reducible assumption | omega), zp1347, tkB1375, (Or.inr (by unfold bRdR; rw [if_pos (by first | with_reducible assumption | omega)]; exact (bkM_w hIB1368 (bkM_w hIB1354 (nrd_mk hI hp2 eB1354 (by first | with_reducible assumption | omega) (by first | with_reducible assumption | omega)) eB1368 (by first | with_reducible assumption | omega)) eB1375 (by first | with_reducible assumption | omega)))), frB1375, (by rw [if_pos (by first | with_reducible assumption | omega), show (pPl c.nm c.P T (pRdR1 c T g)).toNat = v1305.toInt.toNat by omega, show (pPl c.nm c.P T (pRdR2 c T g)).toNat = v1320.toInt.toNat by omega, show T.V (pRdR3 c T g).t = v1336.toInt by omega]; exact mr_y hIB1354 hIB1368 eB1354 eB1368 eB1375 (by first | with_reducible assumption | omega) (by first | with_reducible assumption | omega) (by first | with_reducible assumption | omega) (by first | with_reducible assumption | omega) (tv1360.trans (by rw [show v1359.toInt.toNat = 5 + (8 * v1305.toInt.toNat + v1320.toInt.toNat) by omega])) (by first | with_reducible assumption | omega))⟩
        · exact g_ret ⟨rfl, B1354, y1337, y1338, y1339, y1340, y1341, y1342, y1343, rfl, hIB1354, hJB1354, (by first | with_reducible assumption | omega), (by first | with_reducible assumption | omega), (by first | with_reducible assumption | omega), zp1347, tkB1354, (Or.inr (by unfold bRdR; rw [if_pos (by first | with_reducible assumption | omega)]; exact (nrd_mk hI hp2 eB1354 (by first | with_reducible assumption | omega) (by first | with_reducible assumption | omega)))), frB1354, (by rw [if_pos (by first | with_reducible assumption | omega), show (pPl c.nm c.P T (pRdR1 c T g)).toNat = v1305.toInt.toNat by omega, show (pPl c.nm c.P T (pRdR2 c T g)).toNat = v1320.toInt.toNat by omega, show T.V (pRdR3 c T g).t = v1336.toInt by omega]; exact mr_n eB1354 (by first | with_reducible assumption | omega) (by first | with_reducible assumption | omega) (tv1360.trans (by rw [show v1359.toInt.toNat = 5 + (8 * v1305.toInt.toNat + v1320.toInt.toNat) by omega])) (by first | with_reducible assumption | omega))⟩
      · exact g_ret ⟨rfl, H, y1337, y1338, y1339, y1340, y1341, y1342, y1343, rfl, hI, hJ, (by first | with_reducible assumption | omega), (by first | with_reducible assumption | omega), (by first | with_reducible assumption | omega), zp1347, hp0, (Or.inl (by first | with_reducible assumption | omega)), (frM_r), (by rw [if_neg (by first | with_reducible assumption | omega)])⟩
    · refine g_aload_n rfl ?_
      refine g_invvi (mS_I hI (by first | with_reducible assumption | omega) (by first | with_reducible assumption | omega) (by first | with_reducible assumption | omega)) sm_0 rfl rfl rfl rfl (f_164 H hI hJ y1306 y1307 y1308 y1309 y1310 y1311 y1312 (by first | with_reducible assumption | omega) (by first | with_reducible assumption | omega) (by first | with_reducible assumption | omega) hp0 zp1316 hp2) (fun v1378 H1376 r1377 => ?_)
      obtain ⟨rfl, bv1378, zp1379⟩ := r1377
      have phzp1379 := ph_ok (c := c) (T := T) (g := (pRdR2 c T g))
      refine g_iload_n rfl ?_
      refine g_if2_ne (fun c1380 => ?_) (fun c1380 => ?_)
      · have oonzp1313 := (bx.op nzp1313).resolve_left (by first | with_reducible assumption | omega)
        refine g_aload_n rfl ?_
        refine g_invvi (mS_I hI (by first | with_reducible assumption | omega) (by first | with_reducible assumption | omega) (by first | with_reducible assumption | omega)) sm_0 rfl rfl rfl rfl (f_165 H hI hJ y1306 y1307 y1308 y1309 y1310 y1311 y1312 (by first | with_reducible assumption | omega) (by first | with_reducible assumption | omega) (by first | with_reducible assumption | omega) hp0 zp1316 hp2) (fun v1383 H1381 r1382 => ?_)
        obtain ⟨y1384, y1385, y1386, y1387, y1388, y1389, y1390, rfl, bv1383, by1384, by1385, by1386, zp1391, zp1392⟩ := r1382
        obtain ⟨-, rbzp1391, -, rdzp1391, -, -⟩ := id zp1391
        have nzp1391 := bx.mk (rp_ok (c := c) (T := T) (g := (pRdR2 c T g)))
        have al1393 : pRdR3 c T g = (pPlc c.nm c.P T (-1) (pRdR2 c T g)) := by unfold pRdR3; exact rr_b rfl (by first | with_reducible assumption | omega) (by first | with_reducible assumption | omega)
        have zp1394 := zp1391
        rw [← al1393] at zp1394
        rw [← al1393] at nzp1391
        obtain ⟨-, rbzp1394, -, rdzp1394, -, -⟩ := id zp1394
        refine g_istore_n (l' := [(0, .ref 0), (1, .int v1305), (2, .int v1383)]) rfl rfl ?_
        refine g_aload_n rfl ?_
        refine g_iconst (by decide) (fun v1395 kv1395 => ?_)
        refine g_bipush (by decide) (fun v1396 kv1396 => ?_)
        refine g_invvi (mS_I hI (by first | with_reducible assumption | omega) (by first | with_reducible assumption | omega) (by first | with_reducible assumption | omega)) sm_0 rfl rfl rfl rfl (f_163 v1395 (by first | with_reducible assumption | omega) v1396 (by first | with_reducible assumption | omega) H hI hJ y1384 y1385 y1386 y1387 y1388 y1389 y1390 (by first | with_reducible assumption | omega) (by first | with_reducible assumption | omega) (by first | with_reducible assumption | omega) hp0 zp1394) (fun v1399 H1397 r1398 => ?_)
        obtain ⟨y1400, y1401, y1402, y1403, y1404, y1405, y1406, rfl, by1400, by1401, by1402, zp1407, zp1408⟩ := r1398
        rw [kv1395] at zp1407
        rw [kv1395] at zp1408
        rw [kv1396] at zp1407
        rw [kv1396] at zp1408
        obtain ⟨-, rbzp1407, -, rdzp1407, -, -⟩ := id zp1407
        have nzp1407 := bx.mk (pN_ok (T := T) (lo := 1) (hi := 99) (g := (pRdR3 c T g)))
        have al1409 : pRdR c T g = (pNumb T 1 99 (pRdR3 c T g)) := by rfl
        have zp1410 := zp1407
        rw [← al1409] at zp1410
        rw [← al1409] at nzp1407
        rw [← al1409] at zp1408
        obtain ⟨-, rbzp1410, -, rdzp1410, -, -⟩ := id zp1410
        refine g_istore_n (l' := [(0, .ref 0), (1, .int v1305), (2, .int v1383), (3, .int v1399)]) rfl rfl ?_
        refine g_aload_n rfl ?_
        refine g_gfk (mS_I hI (by first | with_reducible assumption | omega) (by first | with_reducible assumption | omega) (by first | with_reducible assumption | omega)) sm_0 rfl (mS_g13 hI) ?_
        refine g_if_eq (fun c1411 => ?_) (fun c1411 => ?_)
        · have onzp1407 := (bx.op nzp1407).resolve_left (by first | with_reducible assumption | omega)
          have onzp1391 := (bx.op nzp1391).resolve_left (by first | with_reducible assumption | omega)
          have onzp1313 := (bx.op nzp1313).resolve_left (by first | with_reducible assumption | omega)
          have pe1 := (pl_ph (c := c) (T := T) (g := pRdR1 c T g) (by first | with_reducible assumption | omega)).2.2.1
          have pe2 := (pl_ph (c := c) (T := T) (g := pRdR2 c T g) (by first | with_reducible assumption | omega)).2.2.1
          refine g_aload_n rfl ?_
          refine g_gfr (mS_I hI (by first | with_reducible assumption | omega) (by first | with_reducible assumption | omega) (by first | with_reducible assumption | omega)) sm_0 rfl ?_
          refine g_iconst (by decide) (fun v1412 kv1412 => ?_)
          refine g_dup2 rfl ?_
          refine g_iaload (mS_I hI (by first | with_reducible assumption | omega) (by first | with_reducible assumption | omega) (by first | with_reducible assumption | omega)) sm_3 rfl (by first | with_reducible assumption | omega) (fun v1413 ev1413 lv1413 uv1413 => ?_)
          have dv1413 : v1413 = aZ H 3 v1412.toInt.toNat := ev1413.trans mS_a
          have tv1413 : v1413.toInt = (aZ H 3 v1412.toInt.toNat).toInt := by rw [dv1413]
          rw [show v1412.toInt.toNat = 1 from by omega] at tv1413
          have w6v1413 : 0 ≤ v1413.toInt ∧ v1413.toInt ≤ 12 := by omega
          refine g_iconst (by decide) (fun v1414 kv1414 => ?_)
          refine g_iadd (by first | with_reducible assumption | omega) (fun v1415 ev1415 => ?_)
          refine g_iastore (mS_I hI (by first | with_reducible assumption | omega) (by first | with_reducible assumption | omega) (by first | with_reducible assumption | omega)) sm_3 (by first | with_reducible assumption | omega) (gz_any _) (fun H1416 eH1416 hIH1416 => ?_)
          obtain ⟨B1417, eB1417⟩ : ∃ z, z = sA H 3 v1412.toInt.toNat v1415 := ⟨_, rfl⟩
          obtain rfl : H1416 = (mS B1417 y1400 y1401 y1402 y1403 y1404 y1405 y1406) := by rw [eH1416, eB1417]; exact mS_cA
          have hIB1417 : gI SM B1417 := by rw [eB1417]; exact gI_sA hI sm_3 (gz_any _)
          have hJB1417 : JN B1417 := JN_s3 hI hJ (by first | with_reducible assumption | omega) (fun _ => by omega) (fun _ => by omega) eB1417
          have frB1417 : frM H B1417 := frM_A (frM_r) eB1417 (by decide)
          have tkB1417 : tkM B1417 b n T := tkM_fr hp0 frB1417
          refine g_iload_n rfl ?_
          refine g_aload_n rfl ?_
          refine g_gfr (mS_I hIB1417 (by first | with_reducible assumption | omega) (by first | with_reducible assumption | omega) (by first | with_reducible assumption | omega)) sm_0 rfl ?_
          refine g_iconst (by decide) (fun v1418 kv1418 => ?_)
          refine g_bipush (by decide) (fun v1419 kv1419 => ?_)
          refine g_iload_n rfl ?_
          refine g_imulk' (n := 8) kv1419 (by first | with_reducible assumption | omega) (fun v1420 ev1420 => ?_)
          refine g_iadd (by first | with_reducible assumption | omega) (fun v1421 ev1421 => ?_)
          refine g_iload_n rfl ?_
          refine g_iadd (by first | with_reducible assumption | omega) (fun v1422 ev1422 => ?_)
          refine g_iaload (mS_I hIB1417 (by first | with_reducible assumption | omega) (by first | with_reducible assumption | omega) (by first | with_reducible assumption | omega)) sm_3 rfl (by first | with_reducible assumption | omega) (fun v1423 ev1423 lv1423 uv1423 => ?_)
          have dv1423 : v1423 = aZ B1417 3 v1422.toInt.toNat := ev1423.trans mS_a
          have tv1423 : v1423.toInt = (aZ B1417 3 v1422.toInt.toNat).toInt := by rw [dv1423]
          refine g_if2_lt (fun c1424 => ?_) (fun c1424 => ?_)
          · refine g_aload_n rfl ?_
            refine g_gfr (mS_I hIB1417 (by first | with_reducible assumption | omega) (by first | with_reducible assumption | omega) (by first | with_reducible assumption | omega)) sm_0 rfl ?_
            refine g_iconst (by decide) (fun v1425 kv1425 => ?_)
            refine g_bipush (by decide) (fun v1426 kv1426 => ?_)
            refine g_iload_n rfl ?_
            refine g_imulk' (n := 8) kv1426 (by first | with_reducible assumption | omega) (fun v1427 ev1427 => ?_)
            refine g_iadd (by first | with_reducible assumption | omega) (fun v1428 ev1428 => ?_)
            refine g_iload_n rfl ?_
            refine g_iadd (by first | with_reducible assumption | omega) (fun v1429 ev1429 => ?_)
            refine g_iload_n rfl ?_
            refine g_iastore (mS_I hIB1417 (by first | with_reducible assumption | omega) (by first | with_reducible assumption | omega) (by first | with_reducible assumption | omega)) sm_3 (by first | with_reducible assumption | omega) (gz_any _) (fun H1430 eH1430 hIH1430 => ?_)
            obtain ⟨B1431, eB1431⟩ : ∃ z, z = sA B1417 3 v1429.toInt.toNat v1399 := ⟨_, rfl⟩
            obtain rfl : H1430 = (mS B1431 y1400 y1401 y1402 y1403 y1404 y1405 y1406) := by rw [eH1430, eB1431]; exact mS_cA
            have hIB1431 : gI SM B1431 := by rw [eB1431]; exact gI_sA hIB1417 sm_3 (gz_any _)
            have hJB1431 : JN B1431 := JN_s3 hIB1417 hJB1417 (by first | with_reducible assumption | omega) (fun _ => by omega) (fun _ => by omega) eB1431
            have frB1431 : frM H B1431 := frM_A frB1417 eB1431 (by decide)
            have tkB1431 : tkM B1431 b n T := tkM_fr hp0 frB1431
            refine g_aload_n rfl ?_
            refine g_gfr (mS_I hIB1431 (by first | with_reducible assumption | omega) (by first | with_reducible assumption | omega) (by first | with_reducible assumption | omega)) sm_0 rfl ?_
            refine g_iconst (by decide) (fun v1432 kv1432 => ?_)
            refine g_bipush (by decide) (fun v1433 kv1433 => ?_)
            refine g_iload_n rfl ?_
            refine g_imulk' (n := 8) kv1433 (by first | with_reducible assumption | omega) (fun v1434 ev1434 => ?_)
            refine g_iadd (by first | with_reducible assumption | omega) (fun v1435 ev1435 => ?_)
            refine g_iload_n rfl ?_
            refine g_iadd (by first | with_reducible assumption | omega) (fun v1436 ev1436 => ?_)
            refine g_iload_n rfl ?_
            refine g_iastore (mS_I hIB1431 (by first | with_reducible assumption | omega) (by first | with_reducible assumption | omega) (by first | with_reducible assumption | omega)) sm_3 (by first | with_reducible assumption | omega) (gz_any _) (fun H1437 eH1437 hIH1437 => ?_)
            obtain ⟨B1438, eB1438⟩ : ∃ z, z = sA B1431 3 v1436.toInt.toNat v1399 := ⟨_, rfl⟩
            obtain rfl : H1437 = (mS B1438 y1400 y1401 y1402 y1403 y1404 y1405 y1406) := by rw [eH1437, eB1438]; exact mS_cA
            have hIB1438 : gI SM B1438 := by rw [eB1438]; exact gI_sA hIB1431 sm_3 (gz_any _)
            have hJB1438 : JN B1438 := JN_s3 hIB1431 hJB1431 (by first | with_reducible assumption | omega) (fun _ => by omega) (fun _ => by omega) eB1438
            have frB1438 : frM H B1438 := frM_A frB1431 eB1438 (by decide)
            have tkB1438 : tkM B1438 b n T := tkM_fr hp0 frB1438
            exact g_ret ⟨rfl, B1438, y1400, y1401, y1402, y1403, y1404, y1405, y1406, rfl, hIB1438, hJB1438, (by first | with_reducible assumption | omega), (by first | with_reducible assumption | omega), (by first | with_reducible assumption | omega), zp1410, tkB1438, (Or.inr (by unfold bRdR; rw [if_pos (by first | with_reducible assumption | omega)]; exact (bkM_w hIB1431 (bkM_w hIB1417 (nrd_mk hI hp2 eB1417 (by first | with_reducible assumption | omega) (by first | with_reducible assumption | omega)) eB1431 (by first | with_reducible assumption | omega)) eB1438 (by first | with_reducible assumption | omega)))), frB1438, (by rw [if_pos (by first | with_reducible assumption | omega), show (pPl c.nm c.P T (pRdR1 c T g)).toNat = v1305.toInt.toNat by omega, show (pPl c.nm c.P T (pRdR2 c T g)).toNat = v1383.toInt.toNat by omega, show T.V (pRdR3 c T g).t = v1399.toInt by omega]; exact mr_y hIB1417 hIB1431 eB1417 eB1431 eB1438 (by first | with_reducible assumption | omega) (by first | with_reducible assumption | omega) (by first | with_reducible assumption | omega) (by first | with_reducible assumption | omega) (tv1423.trans (by rw [show v1422.toInt.toNat = 5 + (8 * v1305.toInt.toNat + v1383.toInt.toNat) by omega])) (by first | with_reducible assumption | omega))⟩
          · exact g_ret ⟨rfl, B1417, y1400, y1401, y1402, y1403, y1404, y1405, y1406, rfl, hIB1417, hJB1417, (by first | with_reducible assumption | omega), (by first | with_reducible assumption | omega), (by first | with_reducible assumption | omega), zp1410, tkB1417, (Or.inr (by unfold bRdR; rw [if_pos (by first | with_reducible assumption | omega)]; exact (nrd_mk hI hp2 eB1417 (by first | with_reducible assumption | omega) (by first | with_reducible assumption | omega)))), frB1417, (by rw [if_pos (by first | with_reducible assumption | omega), show (pPl c.nm c.P T (pRdR1 c T g)).toNat = v1305.toInt.toNat by omega, show (pPl c.nm c.P T (pRdR2 c T g)).toNat = v1383.toInt.toNat by omega, show T.V (pRdR3 c T g).t = v1399.toInt by omega]; exact mr_n eB1417 (by first | with_reducible assumption | omega) (by first | with_reducible assumption | omega) (tv1423.trans (by rw [show v1422.toInt.toNat = 5 + (8 * v1305.toInt.toNat + v1383.toInt.toNat) by omega])) (by first | with_reducible assumption | omega))⟩
        · exact g_ret ⟨rfl, H, y1400, y1401, y1402, y1403, y1404, y1405, y1406, rfl, hI, hJ, (by first | with_reducible assumption | omega), (by first | with_reducible assumption | omega), (by first | with_reducible assumption | omega), zp1410, hp0, (Or.inl (by first | with_reducible assumption | omega)), (frM_r), (by rw [if_neg (by first | with_reducible assumption | omega)])⟩
      · refine g_aload_n rfl ?_
        refine g_iconst (by decide) (fun v1439 kv1439 => ?_)
        refine g_invvv (mS_I hI (by first | with_reducible assumption | omega) (by first | with_reducible assumption | omega) (by first | with_reducible assumption | omega)) sm_0 rfl rfl rfl rfl (f_161 v1439 (by first | with_reducible assumption | omega) H hI hJ y1306 y1307 y1308 y1309 y1310 y1311 y1312 (by first | with_reducible assumption | omega) (by first | with_reducible assumption | omega) (by first | with_reducible assumption | omega) hp0 zp1316) (fun H1440 r1441 => ?_)
        obtain ⟨y1442, y1443, rfl, zp1444⟩ := r1441
        rw [kv1439] at zp1444
        obtain ⟨-, rbzp1444, -, rdzp1444, -, -⟩ := id zp1444
        have nzp1444 := pF_ne (T := T) (g := (pRdR2 c T g)) (n := 3) (by first | with_reducible assumption | omega)
        refine g_nop ?_
        have oonzp1313 := (bx.op nzp1313).resolve_left (by first | with_reducible assumption | omega)
        refine g_aload_n rfl ?_
        refine g_invvi (mS_I hI (by first | with_reducible assumption | omega) (by first | with_reducible assumption | omega) (by first | with_reducible assumption | omega)) sm_0 rfl rfl rfl rfl (f_165 H hI hJ y1306 y1307 y1308 y1309 y1310 y1442 y1443 (by first | with_reducible assumption | omega) (by first | with_reducible assumption | omega) (by first | with_reducible assumption | omega) hp0 zp1444 hp2) (fun v1447 H1445 r1446 => ?_)
        obtain ⟨y1448, y1449, y1450, y1451, y1452, y1453, y1454, rfl, bv1447, by1448, by1449, by1450, zp1455, zp1456⟩ := r1446
        obtain ⟨-, rbzp1455, -, rdzp1455, -, -⟩ := id zp1455
        have nzp1455 := bx.mk (rp_ok (c := c) (T := T) (g := (pFail T 3 (pRdR2 c T g))))
        have al1457 : pRdR3 c T g = (pPlc c.nm c.P T (-1) (pFail T 3 (pRdR2 c T g))) := by unfold pRdR3; exact rr_a rfl (by first | with_reducible assumption | omega) (by first | with_reducible assumption | omega)
        have zp1458 := zp1455
        rw [← al1457] at zp1458
        rw [← al1457] at nzp1455
        obtain ⟨-, rbzp1458, -, rdzp1458, -, -⟩ := id zp1458
        refine g_istore_n (l' := [(0, .ref 0), (1, .int v1305), (2, .int v1447)]) rfl rfl ?_
        refine g_aload_n rfl ?_
        refine g_iconst (by decide) (fun v1459 kv1459 => ?_)
        refine g_bipush (by decide) (fun v1460 kv1460 => ?_)
        refine g_invvi (mS_I hI (by first | with_reducible assumption | omega) (by first | with_reducible assumption | omega) (by first | with_reducible assumption | omega)) sm_0 rfl rfl rfl rfl (f_163 v1459 (by first | with_reducible assumption | omega) v1460 (by first | with_reducible assumption | omega) H hI hJ y1448 y1449 y1450 y1451 y1452 y1453 y1454 (by first | with_reducible assumption | omega) (by first | with_reducible assumption | omega) (by first | with_reducible assumption | omega) hp0 zp1458) (fun v1463 H1461 r1462 => ?_)
        obtain ⟨y1464, y1465, y1466, y1467, y1468, y1469, y1470, rfl, by1464, by1465, by1466, zp1471, zp1472⟩ := r1462
        rw [kv1459] at zp1471
        rw [kv1459] at zp1472
        rw [kv1460] at zp1471
        rw [kv1460] at zp1472
        obtain ⟨-, rbzp1471, -, rdzp1471, -, -⟩ := id zp1471
        have nzp1471 := bx.mk (pN_ok (T := T) (lo := 1) (hi := 99) (g := (pRdR3 c T g)))
        have al1473 : pRdR c T g = (pNumb T 1 99 (pRdR3 c T g)) := by rfl
        have zp1474 := zp1471
        rw [← al1473] at zp1474
        rw [← al1473] at nzp1471
        rw [← al1473] at zp1472
        obtain ⟨-, rbzp1474, -, rdzp1474, -, -⟩ := id zp1474
        refine g_istore_n (l' := [(0, .ref 0), (1, .int v1305), (2, .int v1447), (3, .int v1463)]) rfl rfl ?_
        refine g_aload_n rfl ?_
        refine g_gfk (mS_I hI (by first | with_reducible assumption | omega) (by first | with_reducible assumption | omega) (by first | with_reducible assumption | omega)) sm_0 rfl (mS_g13 hI) ?_
        refine g_if_eq (fun c1475 => ?_) (fun c1475 => ?_)
        · have onzp1471 := (bx.op nzp1471).resolve_left (by first | with_reducible assumption | omega)
          have onzp1455 := (bx.op nzp1455).resolve_left (by first | with_reducible assumption | omega)
          have onzp1313 := (bx.op nzp1313).resolve_left (by first | with_reducible assumption | omega)
          exfalso; omega
        · exact g_ret ⟨rfl, H, y1464, y1465, y1466, y1467, y1468, y1469, y1470, rfl, hI, hJ, (by first | with_reducible assumption | omega), (by first | with_reducible assumption | omega), (by first | with_reducible assumption | omega), zp1474, hp0, (Or.inl (by first | with_reducible assumption | omega)), (frM_r), (by rw [if_neg (by first | with_reducible assumption | omega)])⟩
  · refine g_aload_n rfl ?_
    refine g_iconst (by decide) (fun v1476 kv1476 => ?_)
    refine g_invvv (mS_I hI (by first | with_reducible assumption | omega) (by first | with_reducible assumption | omega) (by first | with_reducible assumption | omega)) sm_0 rfl rfl rfl rfl (f_161 v1476 (by first | with_reducible assumption | omega) H hI hJ x0 x1 x2 x3 x4 x5 x6 (by first | with_reducible assumption | omega) (by first | with_reducible assumption | omega) (by first | with_reducible assumption | omega) hp0 hp1) (fun H1477 r1478 => ?_)
    obtain ⟨y1479, y1480, rfl, zp1481⟩ := r1478
    rw [kv1476] at zp1481
    obtain ⟨-, rbzp1481, -, rdzp1481, -, -⟩ := id zp1481
    have nzp1481 := pF_ne (T := T) (g := g) (n := 2) (by first | with_reducible assumption | omega)
    refine g_nop ?_
    refine g_aload_n rfl ?_
    refine g_invvv (mS_I hI (by first | with_reducible assumption | omega) (by first | with_reducible assumption | omega) (by first | with_reducible assumption | omega)) sm_0 rfl rfl rfl rfl (f_162 H hI hJ x0 x1 x2 x3 x4 y1479 y1480 (by first | with_reducible assumption | omega) (by first | with_reducible assumption | omega) (by first | with_reducible assumption | omega) hp0 zp1481) (fun H1482 r1483 => ?_)
    obtain ⟨y1484, y1485, y1486, y1487, y1488, rfl, by1484, by1485, by1486, zp1489⟩ := r1483
    obtain ⟨-, rbzp1489, -, rdzp1489, -, -⟩ := id zp1489
    have nzp1489 := gn_f (T := T) (g := (pFail T 2 g))
    have al1490 : pRdR1 c T g = (pGn T (pFail T 2 g)) := by unfold pRdR1; rw [if_pos (by first | with_reducible assumption | omega), tk_y (by rw [(pF_ne (by decide)).2]; omega)]
    have zp1491 := zp1489
    rw [← al1490] at zp1491
    rw [← al1490] at nzp1489
    obtain ⟨-, rbzp1491, -, rdzp1491, -, -⟩ := id zp1491
    refine g_aload_n rfl ?_
    refine g_invvi (mS_I hI (by first | with_reducible assumption | omega) (by first | with_reducible assumption | omega) (by first | with_reducible assumption | omega)) sm_0 rfl rfl rfl rfl (f_165 H hI hJ y1484 y1485 y1486 y1487 y1488 y1479 y1480 (by first | with_reducible assumption | omega) (by first | with_reducible assumption | omega) (by first | with_reducible assumption | omega) hp0 zp1491 hp2) (fun v1494 H1492 r1493 => ?_)
    obtain ⟨y1495, y1496, y1497, y1498, y1499, y1500, y1501, rfl, bv1494, by1495, by1496, by1497, zp1502, zp1503⟩ := r1493
    obtain ⟨-, rbzp1502, -, rdzp1502, -, -⟩ := id zp1502
    have nzp1502 := bx.mk (rp_ok (c := c) (T := T) (g := (pRdR1 c T g)))
    have al1504 : pRdR2 c T g = (pPlc c.nm c.P T (-1) (pRdR1 c T g)) := by rfl
    have zp1505 := zp1502
    rw [← al1504] at zp1505
    rw [← al1504] at nzp1502
    obtain ⟨-, rbzp1505, -, rdzp1505, -, -⟩ := id zp1505
    refine g_istore_n (l' := [(0, .ref 0), (1, .int v1494)]) rfl rfl ?_
    refine g_aload_n rfl ?_
    refine g_gfk (mS_I hI (by first | with_reducible assumption | omega) (by first | with_reducible assumption | omega) (by first | with_reducible assumption | omega)) sm_0 rfl (mS_g13 hI) ?_
    refine g_if_ne (fun c1506 => ?_) (fun c1506 => ?_)
    · refine g_aload_n rfl ?_
      refine g_invvi (mS_I hI (by first | with_reducible assumption | omega) (by first | with_reducible assumption | omega) (by first | with_reducible assumption | omega)) sm_0 rfl rfl rfl rfl (f_165 H hI hJ y1495 y1496 y1497 y1498 y1499 y1500 y1501 (by first | with_reducible assumption | omega) (by first | with_reducible assumption | omega) (by first | with_reducible assumption | omega) hp0 zp1505 hp2) (fun v1509 H1507 r1508 => ?_)
      obtain ⟨y1510, y1511, y1512, y1513, y1514, y1515, y1516, rfl, bv1509, by1510, by1511, by1512, zp1517, zp1518⟩ := r1508
      obtain ⟨-, rbzp1517, -, rdzp1517, -, -⟩ := id zp1517
      have nzp1517 := bx.mk (rp_ok (c := c) (T := T) (g := (pRdR2 c T g)))
      have al1519 : pRdR3 c T g = (pPlc c.nm c.P T (-1) (pRdR2 c T g)) := by unfold pRdR3; exact rr_c rfl (by first | with_reducible assumption | omega)
      have zp1520 := zp1517
      rw [← al1519] at zp1520
      rw [← al1519] at nzp1517
      obtain ⟨-, rbzp1520, -, rdzp1520, -, -⟩ := id zp1520
      refine g_istore_n (l' := [(0, .ref 0), (1, .int v1494), (2, .int v1509)]) rfl rfl ?_
      refine g_aload_n rfl ?_
      refine g_iconst (by decide) (fun v1521 kv1521 => ?_)
      refine g_bipush (by decide) (fun v1522 kv1522 => ?_)
      refine g_invvi (mS_I hI (by first | with_reducible assumption | omega) (by first | with_reducible assumption | omega) (by first | with_reducible assumption | omega)) sm_0 rfl rfl rfl rfl (f_163 v1521 (by first | with_reducible assumption | omega) v1522 (by first | with_reducible assumption | omega) H hI hJ y1510 y1511 y1512 y1513 y1514 y1515 y1516 (by first | with_reducible assumption | omega) (by first | with_reducible assumption | omega) (by first | with_reducible assumption | omega) hp0 zp1520) (fun v1525 H1523 r1524 => ?_)
      obtain ⟨y1526, y1527, y1528, y1529, y1530, y1531, y1532, rfl, by1526, by1527, by1528, zp1533, zp1534⟩ := r1524
      rw [kv1521] at zp1533
      rw [kv1521] at zp1534
      rw [kv1522] at zp1533
      rw [kv1522] at zp1534
      obtain ⟨-, rbzp1533, -, rdzp1533, -, -⟩ := id zp1533
      have nzp1533 := bx.mk (pN_ok (T := T) (lo := 1) (hi := 99) (g := (pRdR3 c T g)))
      have al1535 : pRdR c T g = (pNumb T 1 99 (pRdR3 c T g)) := by rfl
      have zp1536 := zp1533
      rw [← al1535] at zp1536
      rw [← al1535] at nzp1533
      rw [← al1535] at zp1534
      obtain ⟨-, rbzp1536, -, rdzp1536, -, -⟩ := id zp1536
      refine g_istore_n (l' := [(0, .ref 0), (1, .int v1494), (2, .int v1509), (3, .int v1525)]) rfl rfl ?_
      refine g_aload_n rfl ?_
      refine g_gfk (mS_I hI (by first | with_reducible assumption | omega) (by first | with_reducible assumption | omega) (by first | with_reducible assumption | omega)) sm_0 rfl (mS_g13 hI) ?_
      refine g_if_eq (fun c1537 => ?_) (fun c1537 => ?_)
      · have onzp1533 := (bx.op nzp1533).resolve_left (by first | with_reducible assumption | omega)
        have onzp1517 := (bx.op nzp1517).resolve_left (by first | with_reducible assumption | omega)
        have onzp1502 := (bx.op nzp1502).resolve_left (by first | with_reducible assumption | omega)
        exfalso; omega
      · exact g_ret ⟨rfl, H, y1526, y1527, y1528, y1529, y1530, y1531, y1532, rfl, hI, hJ, (by first | with_reducible assumption | omega), (by first | with_reducible assumption | omega), (by first | with_reducible assumption | omega), zp1536, hp0, (Or.inl (by first | with_reducible assumption | omega)), (frM_r), (by rw [if_neg (by first | with_reducible assumption | omega)])⟩
    · refine g_aload_n rfl ?_
      refine g_invvi (mS_I hI (by first | with_reducible assumption | omega) (by first | with_reducible assumption | omega) (by first | with_reducible assumption | omega)) sm_0 rfl rfl rfl rfl (f_164 H hI hJ y1495 y1496 y1497 y1498 y1499 y1500 y1501 (by first | with_reducible assumption | omega) (by first | with_reducible assumption | omega) (by first | with_reducible assumption | omega) hp0 zp1505 hp2) (fun v1540 H1538 r1539 => ?_)
      obtain ⟨rfl, bv1540, zp1541⟩ := r1539
      have phzp1541 := ph_ok (c := c) (T := T) (g := (pRdR2 c T g))
      refine g_iload_n rfl ?_
      refine g_if2_ne (fun c1542 => ?_) (fun c1542 => ?_)
      · have oonzp1502 := (bx.op nzp1502).resolve_left (by first | with_reducible assumption | omega)
        refine g_aload_n rfl ?_
        refine g_invvi (mS_I hI (by first | with_reducible assumption | omega) (by first | with_reducible assumption | omega) (by first | with_reducible assumption | omega)) sm_0 rfl rfl rfl rfl (f_165 H hI hJ y1495 y1496 y1497 y1498 y1499 y1500 y1501 (by first | with_reducible assumption | omega) (by first | with_reducible assumption | omega) (by first | with_reducible assumption | omega) hp0 zp1505 hp2) (fun v1545 H1543 r1544 => ?_)
        obtain ⟨y1546, y1547, y1548, y1549, y1550, y1551, y1552, rfl, bv1545, by1546, by1547, by1548, zp1553, zp1554⟩ := r1544
        obtain ⟨-, rbzp1553, -, rdzp1553, -, -⟩ := id zp1553
        have nzp1553 := bx.mk (rp_ok (c := c) (T := T) (g := (pRdR2 c T g)))
        have al1555 : pRdR3 c T g = (pPlc c.nm c.P T (-1) (pRdR2 c T g)) := by unfold pRdR3; exact rr_b rfl (by first | with_reducible assumption | omega) (by first | with_reducible assumption | omega)
        have zp1556 := zp1553
        rw [← al1555] at zp1556
        rw [← al1555] at nzp1553
        obtain ⟨-, rbzp1556, -, rdzp1556, -, -⟩ := id zp1556
        refine g_istore_n (l' := [(0, .ref 0), (1, .int v1494), (2, .int v1545)]) rfl rfl ?_
        refine g_aload_n rfl ?_
        refine g_iconst (by decide) (fun v1557 kv1557 => ?_)
        refine g_bipush (by decide) (fun v1558 kv1558 => ?_)
        refine g_invvi (mS_I hI (by first | with_reducible assumption | omega) (by first | with_reducible assumption | omega) (by first | with_reducible assumption | omega)) sm_0 rfl rfl rfl rfl (f_163 v1557 (by first | with_reducible assumption | omega) v1558 (by first | with_reducible assumption | omega) H hI hJ y1546 y1547 y1548 y1549 y1550 y1551 y1552 (by first | with_reducible assumption | omega) (by first | with_reducible assumption | omega) (by first | with_reducible assumption | omega) hp0 zp1556) (fun v1561 H1559 r1560 => ?_)
        obtain ⟨y1562, y1563, y1564, y1565, y1566, y1567, y1568, rfl, by1562, by1563, by1564, zp1569, zp1570⟩ := r1560
        rw [kv1557] at zp1569
        rw [kv1557] at zp1570
        rw [kv1558] at zp1569
        rw [kv1558] at zp1570
        obtain ⟨-, rbzp1569, -, rdzp1569, -, -⟩ := id zp1569
        have nzp1569 := bx.mk (pN_ok (T := T) (lo := 1) (hi := 99) (g := (pRdR3 c T g)))
        have al1571 : pRdR c T g = (pNumb T 1 99 (pRdR3 c T g)) := by rfl
        have zp1572 := zp1569
        rw [← al1571] at zp1572
        rw [← al1571] at nzp1569
        rw [← al1571] at zp1570
        obtain ⟨-, rbzp1572, -, rdzp1572, -, -⟩ := id zp1572
        refine g_istore_n (l' := [(0, .ref 0), (1, .int v1494), (2, .int v1545), (3, .int v1561)]) rfl rfl ?_
        refine g_aload_n rfl ?_
        refine g_gfk (mS_I hI (by first | with_reducible assumption | omega) (by first | with_reducible assumption | omega) (by first | with_reducible assumption | omega)) sm_0 rfl (mS_g13 hI) ?_
        refine g_if_eq (fun c1573 => ?_) (fun c1573 => ?_)
        · have onzp1569 := (bx.op nzp1569).resolve_left (by first | with_reducible assumption | omega)
          have onzp1553 := (bx.op nzp1553).resolve_left (by first | with_reducible assumption | omega)
          have onzp1502 := (bx.op nzp1502).resolve_left (by first | with_reducible assumption | omega)
          exfalso; omega
        · exact g_ret ⟨rfl, H, y1562, y1563, y1564, y1565, y1566, y1567, y1568, rfl, hI, hJ, (by first | with_reducible assumption | omega), (by first | with_reducible assumption | omega), (by first | with_reducible assumption | omega), zp1572, hp0, (Or.inl (by first | with_reducible assumption | omega)), (frM_r), (by rw [if_neg (by first | with_reducible assumption | omega)])⟩
      · refine g_aload_n rfl ?_
        refine g_iconst (by decide) (fun v1574 kv1574 => ?_)
        refine g_invvv (mS_I hI (by first | with_reducible assumption | omega) (by first | with_reducible assumption | omega) (by first | with_reducible assumption | omega)) sm_0 rfl rfl rfl rfl (f_161 v1574 (by first | with_reducible assumption | omega) H hI hJ y1495 y1496 y1497 y1498 y1499 y1500 y1501 (by first | with_reducible assumption | omega) (by first | with_reducible assumption | omega) (by first | with_reducible assumption | omega) hp0 zp1505) (fun H1575 r1576 => ?_)
        obtain ⟨y1577, y1578, rfl, zp1579⟩ := r1576
        rw [kv1574] at zp1579
        obtain ⟨-, rbzp1579, -, rdzp1579, -, -⟩ := id zp1579
        have nzp1579 := pF_ne (T := T) (g := (pRdR2 c T g)) (n := 3) (by first | with_reducible assumption | omega)
        refine g_nop ?_
        have oonzp1502 := (bx.op nzp1502).resolve_left (by first | with_reducible assumption | omega)
        refine g_aload_n rfl ?_
        refine g_invvi (mS_I hI (by first | with_reducible assumption | omega) (by first | with_reducible assumption | omega) (by first | with_reducible assumption | omega)) sm_0 rfl rfl rfl rfl (f_165 H hI hJ y1495 y1496 y1497 y1498 y1499 y1577 y1578 (by first | with_reducible assumption | omega) (by first | with_reducible assumption | omega) (by first | with_reducible assumption | omega) hp0 zp1579 hp2) (fun v1582 H1580 r1581 => ?_)
        obtain ⟨y1583, y1584, y1585, y1586, y1587, y1588, y1589, rfl, bv1582, by1583, by1584, by1585, zp1590, zp1591⟩ := r1581
        obtain ⟨-, rbzp1590, -, rdzp1590, -, -⟩ := id zp1590
        have nzp1590 := bx.mk (rp_ok (c := c) (T := T) (g := (pFail T 3 (pRdR2 c T g))))
        have al1592 : pRdR3 c T g = (pPlc c.nm c.P T (-1) (pFail T 3 (pRdR2 c T g))) := by unfold pRdR3; exact rr_a rfl (by first | with_reducible assumption | omega) (by first | with_reducible assumption | omega)
        have zp1593 := zp1590
        rw [← al1592] at zp1593
        rw [← al1592] at nzp1590
        obtain ⟨-, rbzp1593, -, rdzp1593, -, -⟩ := id zp1593
        refine g_istore_n (l' := [(0, .ref 0), (1, .int v1494), (2, .int v1582)]) rfl rfl ?_
        refine g_aload_n rfl ?_
        refine g_iconst (by decide) (fun v1594 kv1594 => ?_)
        refine g_bipush (by decide) (fun v1595 kv1595 => ?_)
        refine g_invvi (mS_I hI (by first | with_reducible assumption | omega) (by first | with_reducible assumption | omega) (by first | with_reducible assumption | omega)) sm_0 rfl rfl rfl rfl (f_163 v1594 (by first | with_reducible assumption | omega) v1595 (by first | with_reducible assumption | omega) H hI hJ y1583 y1584 y1585 y1586 y1587 y1588 y1589 (by first | with_reducible assumption | omega) (by first | with_reducible assumption | omega) (by first | with_reducible assumption | omega) hp0 zp1593) (fun v1598 H1596 r1597 => ?_)
        obtain ⟨y1599, y1600, y1601, y1602, y1603, y1604, y1605, rfl, by1599, by1600, by1601, zp1606, zp1607⟩ := r1597
        rw [kv1594] at zp1606
        rw [kv1594] at zp1607
        rw [kv1595] at zp1606
        rw [kv1595] at zp1607
        obtain ⟨-, rbzp1606, -, rdzp1606, -, -⟩ := id zp1606
        have nzp1606 := bx.mk (pN_ok (T := T) (lo := 1) (hi := 99) (g := (pRdR3 c T g)))
        have al1608 : pRdR c T g = (pNumb T 1 99 (pRdR3 c T g)) := by rfl
        have zp1609 := zp1606
        rw [← al1608] at zp1609
        rw [← al1608] at nzp1606
        rw [← al1608] at zp1607
        obtain ⟨-, rbzp1609, -, rdzp1609, -, -⟩ := id zp1609
        refine g_istore_n (l' := [(0, .ref 0), (1, .int v1494), (2, .int v1582), (3, .int v1598)]) rfl rfl ?_
        refine g_aload_n rfl ?_
        refine g_gfk (mS_I hI (by first | with_reducible assumption | omega) (by first | with_reducible assumption | omega) (by first | with_reducible assumption | omega)) sm_0 rfl (mS_g13 hI) ?_
        refine g_if_eq (fun c1610 => ?_) (fun c1610 => ?_)
        · have onzp1606 := (bx.op nzp1606).resolve_left (by first | with_reducible assumption | omega)
          have onzp1590 := (bx.op nzp1590).resolve_left (by first | with_reducible assumption | omega)
          have onzp1502 := (bx.op nzp1502).resolve_left (by first | with_reducible assumption | omega)
          exfalso; omega
        · exact g_ret ⟨rfl, H, y1599, y1600, y1601, y1602, y1603, y1604, y1605, rfl, hI, hJ, (by first | with_reducible assumption | omega), (by first | with_reducible assumption | omega), (by first | with_reducible assumption | omega), zp1609, hp0, (Or.inl (by first | with_reducible assumption | omega)), (frM_r), (by rw [if_neg (by first | with_reducible assumption | omega)])⟩
set_option maxRecDepth 4000 in
set_option maxHeartbeats 4000000 in
/-- M.readFits, exactly -/
theorem h_168 (H : mzH) (hI : gI SM H) (hJ : JN H) (x0 x1 x2 x3 x4 x5 x6 : Int32) (hx0 : 0 ≤ x0.toInt ∧ x0.toInt ≤ 900) (hx1 : 0 ≤ x1.toInt ∧ x1.toInt ≤ 900) (hx2 : 0 ≤ x2.toInt ∧ x2.toInt ≤ 4) {b : Nat → Int} {n : Nat} {T : pT} {g : pG} {c : pB} (hp0 : tkM H b n T) (hp1 : rdM b n T g x0 x1 x2 x3 x4 x5 x6) (hp2 : bkM H c) (hp3 : g.f = 0 ∧ T.K g.t = 2) : gCall 168 [.ref 0] (mS H x0 x1 x2 x3 x4 x5 x6) (gRv (fun H' => ∃ B : mzH, ∃ y0 y1 y2 y3 y4 y5 y6 : Int32, H' = mS B y0 y1 y2 y3 y4 y5 y6 ∧ gI SM B ∧ JN B ∧ (0 ≤ y0.toInt ∧ y0.toInt ≤ 900) ∧ (0 ≤ y1.toInt ∧ y1.toInt ≤ 900) ∧ (0 ≤ y2.toInt ∧ y2.toInt ≤ 4) ∧ rdM b n T (pRdF c T g) y0 y1 y2 y3 y4 y5 y6 ∧ tkM B b n T ∧ ((pRdF c T g).f ≠ 0 ∨ bkM B (bRdF c T g)) ∧ frM H B ∧ wM B = wM H)) := by
  obtain ⟨-, r1, -, r3, -, -⟩ := id hp1
  have w0 := hp0.2.2
  have w3 := hp2.1
  have w4 := JN_n30 hJ (v := aZ H 3 0) rfl
  have w5 := hp2.2.2.2.2.2.1
  refine gG_call [(0, .ref 0)] ⟨rfl, trivial⟩ ?_
  show gG 3 zB_168 (mzBlk zB_168 0) [(0, .ref 0)] [] (mS H x0 x1 x2 x3 x4 x5 x6) 0 0 _
  refine g_aload_n rfl ?_
  refine g_gfi (mS_I hI (by first | with_reducible assumption | omega) (by first | with_reducible assumption | omega) (by first | with_reducible assumption | omega)) sm_0 rfl (fun v441 ev441 lv441 uv441 => ?_)
  have iv441 : v441.toInt = (fZ H 0 17).toInt := by rw [ev441, ← mS_o (by decide)]
  refine g_if_eq (fun c442 => ?_) (fun c442 => ?_)
  · refine g_aload_n rfl ?_
    refine g_iconst (by decide) (fun v443 kv443 => ?_)
    refine g_pfz (mS_I hI (by first | with_reducible assumption | omega) (by first | with_reducible assumption | omega) (by first | with_reducible assumption | omega)) sm_0 rfl (by first | with_reducible assumption | omega) (fun H444 eH444 hIH444 => ?_)
    obtain ⟨B445, eB445⟩ : ∃ z, z = sF H 0 17 v443 := ⟨_, rfl⟩
    obtain rfl : H444 = (mS B445 x0 x1 x2 x3 x4 x5 x6) := by rw [eH444, eB445]; exact mS_cF (by decide)
    have hIB445 : gI SM B445 := by rw [eB445]; exact gI_sF hI sm_0 rfl (by first | with_reducible assumption | omega)
    have hJB445 : JN B445 := JN_sF eB445 hJ
    have frB445 : frM H B445 := frM_F (frM_r) eB445 (by decide)
    have tkB445 : tkM B445 b n T := tkM_fr hp0 frB445
    refine g_aload_n rfl ?_
    refine g_invvv (mS_I hIB445 (by first | with_reducible assumption | omega) (by first | with_reducible assumption | omega) (by first | with_reducible assumption | omega)) sm_0 rfl rfl rfl rfl (f_162 B445 hIB445 hJB445 x0 x1 x2 x3 x4 x5 x6 (by first | with_reducible assumption | omega) (by first | with_reducible assumption | omega) (by first | with_reducible assumption | omega) tkB445 hp1) (fun H446 r447 => ?_)
    obtain ⟨y448, y449, y450, y451, y452, rfl, by448, by449, by450, zp453⟩ := r447
    obtain ⟨-, rbzp453, -, rdzp453, -, -⟩ := id zp453
    have nzp453 := gn_f (T := T) (g := g)
    have al454 : pRdF1 c T g = (pGn T g) := by unfold pRdF1; rw [if_neg (by first | with_reducible assumption | omega), tk_y (by first | with_reducible assumption | omega)]
    have zp455 := zp453
    rw [← al454] at zp455
    rw [← al454] at nzp453
    obtain ⟨-, rbzp455, -, rdzp455, -, -⟩ := id zp455
    refine g_aload_n rfl ?_
    refine g_iconst (by decide) (fun v456 kv456 => ?_)
    refine g_bipush (by decide) (fun v457 kv457 => ?_)
    refine g_invvi (mS_I hIB445 (by first | with_reducible assumption | omega) (by first | with_reducible assumption | omega) (by first | with_reducible assumption | omega)) sm_0 rfl rfl rfl rfl (f_163 v456 (by first | with_reducible assumption | omega) v457 (by first | with_reducible assumption | omega) B445 hIB445 hJB445 y448 y449 y450 y451 y452 x5 x6 (by first | with_reducible assumption | omega) (by first | with_reducible assumption | omega) (by first | with_reducible assumption | omega) tkB445 zp455) (fun v460 H458 r459 => ?_)
    obtain ⟨y461, y462, y463, y464, y465, y466, y467, rfl, by461, by462, by463, zp468, zp469⟩ := r459
    rw [kv456] at zp468
    rw [kv456] at zp469
    rw [kv457] at zp468
    rw [kv457] at zp469
    obtain ⟨-, rbzp468, -, rdzp468, -, -⟩ := id zp468
    have nzp468 := bx.mk (pN_ok (T := T) (lo := 1) (hi := 20) (g := (pRdF1 c T g)))
    have al470 : pRdF2 c T g = (pNumb T 1 20 (pRdF1 c T g)) := by rfl
    have zp471 := zp468
    rw [← al470] at zp471
    rw [← al470] at nzp468
    rw [← al470] at zp469
    obtain ⟨-, rbzp471, -, rdzp471, -, -⟩ := id zp471
    refine g_istore_n (l' := [(0, .ref 0), (1, .int v460)]) rfl rfl ?_
    refine g_aload_n rfl ?_
    refine g_iconst (by decide) (fun v472 kv472 => ?_)
    refine g_bipush (by decide) (fun v473 kv473 => ?_)
    refine g_invvi (mS_I hIB445 (by first | with_reducible assumption | omega) (by first | with_reducible assumption | omega) (by first | with_reducible assumption | omega)) sm_0 rfl rfl rfl rfl (f_163 v472 (by first | with_reducible assumption | omega) v473 (by first | with_reducible assumption | omega) B445 hIB445 hJB445 y461 y462 y463 y464 y465 y466 y467 (by first | with_reducible assumption | omega) (by first | with_reducible assumption | omega) (by first | with_reducible assumption | omega) tkB445 zp471) (fun v476 H474 r475 => ?_)
    obtain ⟨y477, y478, y479, y480, y481, y482, y483, rfl, by477, by478, by479, zp484, zp485⟩ := r475
    rw [kv472] at zp484
    rw [kv472] at zp485
    rw [kv473] at zp484
    rw [kv473] at zp485
    obtain ⟨-, rbzp484, -, rdzp484, -, -⟩ := id zp484
    have nzp484 := bx.mk (pN_ok (T := T) (lo := 1) (hi := 20) (g := (pRdF2 c T g)))
    have al486 : pRdF c T g = (pNumb T 1 20 (pRdF2 c T g)) := by rfl
    have zp487 := zp484
    rw [← al486] at zp487
    rw [← al486] at nzp484
    rw [← al486] at zp485
    obtain ⟨-, rbzp487, -, rdzp487, -, -⟩ := id zp487
    refine g_istore_n (l' := [(0, .ref 0), (1, .int v460), (2, .int v476)]) rfl rfl ?_
    refine g_aload_n rfl ?_
    refine g_gfr (mS_I hIB445 (by first | with_reducible assumption | omega) (by first | with_reducible assumption | omega) (by first | with_reducible assumption | omega)) sm_0 rfl ?_
    refine g_iconst (by decide) (fun v488 kv488 => ?_)
    refine g_iload_n rfl ?_
    refine g_iastore (mS_I hIB445 (by first | with_reducible assumption | omega) (by first | with_reducible assumption | omega) (by first | with_reducible assumption | omega)) sm_3 (by first | with_reducible assumption | omega) (gz_any _) (fun H489 eH489 hIH489 => ?_)
    obtain ⟨B490, eB490⟩ : ∃ z, z = sA B445 3 v488.toInt.toNat v460 := ⟨_, rfl⟩
    obtain rfl : H489 = (mS B490 y477 y478 y479 y480 y481 y482 y483) := by rw [eH489, eB490]; exact mS_cA
    have hIB490 : gI SM B490 := by rw [eB490]; exact gI_sA hIB445 sm_3 (gz_any _)
    have hJB490 : JN B490 := JN_s3 hIB445 hJB445 (by first | with_reducible assumption | omega) (fun _ => by omega) (fun _ => by omega) eB490
    have frB490 : frM H B490 := frM_A frB445 eB490 (by decide)
    have tkB490 : tkM B490 b n T := tkM_fr hp0 frB490
    refine g_aload_n rfl ?_
    refine g_gfr (mS_I hIB490 (by first | with_reducible assumption | omega) (by first | with_reducible assumption | omega) (by first | with_reducible assumption | omega)) sm_0 rfl ?_
    refine g_iconst (by decide) (fun v491 kv491 => ?_)
    refine g_iload_n rfl ?_
    refine g_iastore (mS_I hIB490 (by first | with_reducible assumption | omega) (by first | with_reducible assumption | omega) (by first | with_reducible assumption | omega)) sm_3 (by first | with_reducible assumption | omega) (gz_any _) (fun H492 eH492 hIH492 => ?_)
    obtain ⟨B493, eB493⟩ : ∃ z, z = sA B490 3 v491.toInt.toNat v476 := ⟨_, rfl⟩
    obtain rfl : H492 = (mS B493 y477 y478 y479 y480 y481 y482 y483) := by rw [eH492, eB493]; exact mS_cA
    have hIB493 : gI SM B493 := by rw [eB493]; exact gI_sA hIB490 sm_3 (gz_any _)
    have hJB493 : JN B493 := JN_s3 hIB490 hJB490 (by first | with_reducible assumption | omega) (fun _ => by omega) (fun _ => by omega) eB493
    have frB493 : frM H B493 := frM_A frB490 eB493 (by decide)
    have tkB493 : tkM B493 b n T := tkM_fr hp0 frB493
    exact g_ret ⟨rfl, B493, y477, y478, y479, y480, y481, y482, y483, rfl, hIB493, hJB493, (by first | with_reducible assumption | omega), (by first | with_reducible assumption | omega), (by first | with_reducible assumption | omega), zp487, tkB493, (by if q : (pRdF c T g).f = 0 then exact Or.inr (by have onzp484 := (bx.op nzp484).resolve_left (by first | with_reducible assumption | omega); have onzp468 := (bx.op nzp468).resolve_left (by first | with_reducible assumption | omega); unfold bRdF; rw [if_pos q]; exact nft_mk hI hIB445 hIB490 hp2 eB445 eB490 eB493 (by first | with_reducible assumption | omega) (by first | with_reducible assumption | omega) (by first | with_reducible assumption | omega) (by first | with_reducible assumption | omega) (by first | with_reducible assumption | omega)) else exact Or.inl q), frB493, ((wM_A eB493 (by first | with_reducible assumption | omega)).trans ((wM_A eB490 (by first | with_reducible assumption | omega)).trans (wM_F eB445)))⟩
  · refine g_aload_n rfl ?_
    refine g_iconst (by decide) (fun v494 kv494 => ?_)
    refine g_invvv (mS_I hI (by first | with_reducible assumption | omega) (by first | with_reducible assumption | omega) (by first | with_reducible assumption | omega)) sm_0 rfl rfl rfl rfl (f_161 v494 (by first | with_reducible assumption | omega) H hI hJ x0 x1 x2 x3 x4 x5 x6 (by first | with_reducible assumption | omega) (by first | with_reducible assumption | omega) (by first | with_reducible assumption | omega) hp0 hp1) (fun H495 r496 => ?_)
    obtain ⟨y497, y498, rfl, zp499⟩ := r496
    rw [kv494] at zp499
    obtain ⟨-, rbzp499, -, rdzp499, -, -⟩ := id zp499
    have nzp499 := pF_ne (T := T) (g := g) (n := 3) (by first | with_reducible assumption | omega)
    refine g_nop ?_
    refine g_aload_n rfl ?_
    refine g_iconst (by decide) (fun v500 kv500 => ?_)
    refine g_pfz (mS_I hI (by first | with_reducible assumption | omega) (by first | with_reducible assumption | omega) (by first | with_reducible assumption | omega)) sm_0 rfl (by first | with_reducible assumption | omega) (fun H501 eH501 hIH501 => ?_)
    obtain ⟨B502, eB502⟩ : ∃ z, z = sF H 0 17 v500 := ⟨_, rfl⟩
    obtain rfl : H501 = (mS B502 x0 x1 x2 x3 x4 y497 y498) := by rw [eH501, eB502]; exact mS_cF (by decide)
    have hIB502 : gI SM B502 := by rw [eB502]; exact gI_sF hI sm_0 rfl (by first | with_reducible assumption | omega)
    have hJB502 : JN B502 := JN_sF eB502 hJ
    have frB502 : frM H B502 := frM_F (frM_r) eB502 (by decide)
    have tkB502 : tkM B502 b n T := tkM_fr hp0 frB502
    refine g_aload_n rfl ?_
    refine g_invvv (mS_I hIB502 (by first | with_reducible assumption | omega) (by first | with_reducible assumption | omega) (by first | with_reducible assumption | omega)) sm_0 rfl rfl rfl rfl (f_162 B502 hIB502 hJB502 x0 x1 x2 x3 x4 y497 y498 (by first | with_reducible assumption | omega) (by first | with_reducible assumption | omega) (by first | with_reducible assumption | omega) tkB502 zp499) (fun H503 r504 => ?_)
    obtain ⟨y505, y506, y507, y508, y509, rfl, by505, by506, by507, zp510⟩ := r504
    obtain ⟨-, rbzp510, -, rdzp510, -, -⟩ := id zp510
    have nzp510 := gn_f (T := T) (g := (pFail T 3 g))
    have al511 : pRdF1 c T g = (pGn T (pFail T 3 g)) := by unfold pRdF1; rw [if_pos (by first | with_reducible assumption | omega), tk_y (by rw [(pF_ne (by decide)).2]; omega)]
    have zp512 := zp510
    rw [← al511] at zp512
    rw [← al511] at nzp510
    obtain ⟨-, rbzp512, -, rdzp512, -, -⟩ := id zp512
    refine g_aload_n rfl ?_
    refine g_iconst (by decide) (fun v513 kv513 => ?_)
    refine g_bipush (by decide) (fun v514 kv514 => ?_)
    refine g_invvi (mS_I hIB502 (by first | with_reducible assumption | omega) (by first | with_reducible assumption | omega) (by first | with_reducible assumption | omega)) sm_0 rfl rfl rfl rfl (f_163 v513 (by first | with_reducible assumption | omega) v514 (by first | with_reducible assumption | omega) B502 hIB502 hJB502 y505 y506 y507 y508 y509 y497 y498 (by first | with_reducible assumption | omega) (by first | with_reducible assumption | omega) (by first | with_reducible assumption | omega) tkB502 zp512) (fun v517 H515 r516 => ?_)
    obtain ⟨y518, y519, y520, y521, y522, y523, y524, rfl, by518, by519, by520, zp525, zp526⟩ := r516
    rw [kv513] at zp525
    rw [kv513] at zp526
    rw [kv514] at zp525
    rw [kv514] at zp526
    obtain ⟨-, rbzp525, -, rdzp525, -, -⟩ := id zp525
    have nzp525 := bx.mk (pN_ok (T := T) (lo := 1) (hi := 20) (g := (pRdF1 c T g)))
    have al527 : pRdF2 c T g = (pNumb T 1 20 (pRdF1 c T g)) := by rfl
    have zp528 := zp525
    rw [← al527] at zp528
    rw [← al527] at nzp525
    rw [← al527] at zp526
    obtain ⟨-, rbzp528, -, rdzp528, -, -⟩ := id zp528
    refine g_istore_n (l' := [(0, .ref 0), (1, .int v517)]) rfl rfl ?_
    refine g_aload_n rfl ?_
    refine g_iconst (by decide) (fun v529 kv529 => ?_)
    refine g_bipush (by decide) (fun v530 kv530 => ?_)
    refine g_invvi (mS_I hIB502 (by first | with_reducible assumption | omega) (by first | with_reducible assumption | omega) (by first | with_reducible assumption | omega)) sm_0 rfl rfl rfl rfl (f_163 v529 (by first | with_reducible assumption | omega) v530 (by first | with_reducible assumption | omega) B502 hIB502 hJB502 y518 y519 y520 y521 y522 y523 y524 (by first | with_reducible assumption | omega) (by first | with_reducible assumption | omega) (by first | with_reducible assumption | omega) tkB502 zp528) (fun v533 H531 r532 => ?_)
    obtain ⟨y534, y535, y536, y537, y538, y539, y540, rfl, by534, by535, by536, zp541, zp542⟩ := r532
    rw [kv529] at zp541
    rw [kv529] at zp542
    rw [kv530] at zp541
    rw [kv530] at zp542
    obtain ⟨-, rbzp541, -, rdzp541, -, -⟩ := id zp541
    have nzp541 := bx.mk (pN_ok (T := T) (lo := 1) (hi := 20) (g := (pRdF2 c T g)))
    have al543 : pRdF c T g = (pNumb T 1 20 (pRdF2 c T g)) := by rfl
    have zp544 := zp541
    rw [← al543] at zp544
    rw [← al543] at nzp541
    rw [← al543] at zp542
    obtain ⟨-, rbzp544, -, rdzp544, -, -⟩ := id zp544
    refine g_istore_n (l' := [(0, .ref 0), (1, .int v517), (2, .int v533)]) rfl rfl ?_
    refine g_aload_n rfl ?_
    refine g_gfr (mS_I hIB502 (by first | with_reducible assumption | omega) (by first | with_reducible assumption | omega) (by first | with_reducible assumption | omega)) sm_0 rfl ?_
    refine g_iconst (by decide) (fun v545 kv545 => ?_)
    refine g_iload_n rfl ?_
    refine g_iastore (mS_I hIB502 (by first | with_reducible assumption | omega) (by first | with_reducible assumption | omega) (by first | with_reducible assumption | omega)) sm_3 (by first | with_reducible assumption | omega) (gz_any _) (fun H546 eH546 hIH546 => ?_)
    obtain ⟨B547, eB547⟩ : ∃ z, z = sA B502 3 v545.toInt.toNat v517 := ⟨_, rfl⟩
    obtain rfl : H546 = (mS B547 y534 y535 y536 y537 y538 y539 y540) := by rw [eH546, eB547]; exact mS_cA
    have hIB547 : gI SM B547 := by rw [eB547]; exact gI_sA hIB502 sm_3 (gz_any _)
    have hJB547 : JN B547 := JN_s3 hIB502 hJB502 (by first | with_reducible assumption | omega) (fun _ => by omega) (fun _ => by omega) eB547
    have frB547 : frM H B547 := frM_A frB502 eB547 (by decide)
    have tkB547 : tkM B547 b n T := tkM_fr hp0 frB547
    refine g_aload_n rfl ?_
    refine g_gfr (mS_I hIB547 (by first | with_reducible assumption | omega) (by first | with_reducible assumption | omega) (by first | with_reducible assumption | omega)) sm_0 rfl ?_
    refine g_iconst (by decide) (fun v548 kv548 => ?_)
    refine g_iload_n rfl ?_
    refine g_iastore (mS_I hIB547 (by first | with_reducible assumption | omega) (by first | with_reducible assumption | omega) (by first | with_reducible assumption | omega)) sm_3 (by first | with_reducible assumption | omega) (gz_any _) (fun H549 eH549 hIH549 => ?_)
    obtain ⟨B550, eB550⟩ : ∃ z, z = sA B547 3 v548.toInt.toNat v533 := ⟨_, rfl⟩
    obtain rfl : H549 = (mS B550 y534 y535 y536 y537 y538 y539 y540) := by rw [eH549, eB550]; exact mS_cA
    have hIB550 : gI SM B550 := by rw [eB550]; exact gI_sA hIB547 sm_3 (gz_any _)
    have hJB550 : JN B550 := JN_s3 hIB547 hJB547 (by first | with_reducible assumption | omega) (fun _ => by omega) (fun _ => by omega) eB550
    have frB550 : frM H B550 := frM_A frB547 eB550 (by decide)
    have tkB550 : tkM B550 b n T := tkM_fr hp0 frB550
    exact g_ret ⟨rfl, B550, y534, y535, y536, y537, y538, y539, y540, rfl, hIB550, hJB550, (by first | with_reducible assumption | omega), (by first | with_reducible assumption | omega), (by first | with_reducible assumption | omega), zp544, tkB550, (by if q : (pRdF c T g).f = 0 then exact Or.inr (by have onzp541 := (bx.op nzp541).resolve_left (by first | with_reducible assumption | omega); have onzp525 := (bx.op nzp525).resolve_left (by first | with_reducible assumption | omega); unfold bRdF; rw [if_pos q]; exact nft_mk hI hIB502 hIB547 hp2 eB502 eB547 eB550 (by first | with_reducible assumption | omega) (by first | with_reducible assumption | omega) (by first | with_reducible assumption | omega) (by first | with_reducible assumption | omega) (by first | with_reducible assumption | omega)) else exact Or.inl q), frB550, ((wM_A eB550 (by first | with_reducible assumption | omega)).trans ((wM_A eB547 (by first | with_reducible assumption | omega)).trans (wM_F eB502)))⟩
set_option maxRecDepth 4000 in
set_option maxHeartbeats 4000000 in
/-- M.readMessage, exactly -/
theorem h_170 (H : mzH) (hI : gI SM H) (hJ : JN H) (x0 x1 x2 x3 x4 x5 x6 : Int32) (hx0 : 0 ≤ x0.toInt ∧ x0.toInt ≤ 900) (hx1 : 0 ≤ x1.toInt ∧ x1.toInt ≤ 900) (hx2 : 0 ≤ x2.toInt ∧ x2.toInt ≤ 4) {b : Nat → Int} {n : Nat} {T : pT} {g : pG} {c : pB} (hp0 : tkM H b n T) (hp1 : rdM b n T g x0 x1 x2 x3 x4 x5 x6) (hp2 : bkM H c) (hp3 : g.f = 0 ∧ T.K g.t = 3) : gCall 170 [.ref 0] (mS H x0 x1 x2 x3 x4 x5 x6) (gRv (fun H' => ∃ B : mzH, ∃ y0 y1 y2 y3 y4 y5 y6 : Int32, H' = mS B y0 y1 y2 y3 y4 y5 y6 ∧ gI SM B ∧ JN B ∧ (0 ≤ y0.toInt ∧ y0.toInt ≤ 900) ∧ (0 ≤ y1.toInt ∧ y1.toInt ≤ 900) ∧ (0 ≤ y2.toInt ∧ y2.toInt ≤ 4) ∧ rdM b n T (pM6 c T g) y0 y1 y2 y3 y4 y5 y6 ∧ tkM B b n T ∧ ((pM6 c T g).f ≠ 0 ∨ bkM B (bMg c T g)) ∧ frM H B ∧ wM B = wM H)) := by
  obtain ⟨-, r1, -, r3, -, -⟩ := id hp1
  have w0 := hp0.2.2
  have w3 := hp2.1
  have w4 := JN_n30 hJ (v := aZ H 3 0) rfl
  have w5 := hp2.2.2.1
  have w6 := JN_n32 hJ (v := aZ H 3 2) rfl
  refine gG_call [(0, .ref 0)] ⟨rfl, trivial⟩ ?_
  show gG 8 zB_170 (mzBlk zB_170 0) [(0, .ref 0)] [] (mS H x0 x1 x2 x3 x4 x5 x6) 0 0 _
  have J795 : ∀ (v781 : Int32) (v782 : Int32) (v783 : Int32) (v784 : Int32) (v785 : Int32) (v786 : Int32) (v787 : Int32) (z788 : Int32) (z789 : Int32) (z790 : Int32) (z791 : Int32) (z792 : Int32) (z793 : Int32) (z794 : Int32), (69 ≤ v781.toInt ∧ v781.toInt ≤ 369) → (0 ≤ v783.toInt ∧ v783.toInt ≤ 1) → (-1 ≤ v787.toInt ∧ v787.toInt ≤ 2) → (0 ≤ z788.toInt ∧ z788.toInt ≤ 900) → (0 ≤ z789.toInt ∧ z789.toInt ≤ 900) → (0 ≤ z790.toInt ∧ z790.toInt ≤ 4) → rdM b n T (pM6 c T g) z788 z789 z790 z791 z792 z793 z794 → (v781.toInt = 69 + 5 * c.N ∧ 0 ≤ c.N ∧ c.N ≤ 60) → bx ((pM6 c T g).f ≠ 0 ∨ ((v782.toInt = T.V (pM1 c T g).t ∧ c.N ≠ 60 ∧ v784.toInt = pActV T (pM2 c T g) ∧ 0 ≤ v784.toInt ∧ v784.toInt ≤ 10 ∧ v785.toInt = T.V (pM3 c T g).t ∧ 0 ≤ v785.toInt ∧ v785.toInt ≤ 39 ∧ ((v784.toInt = 0 ∧ v787.toInt = T.K (pM4 c T g).t - 5 ∧ 0 ≤ v787.toInt ∧ v787.toInt ≤ 2) ∨ (v784.toInt ≠ 0 ∧ v787.toInt = -1))) ∧ v786.toInt = pSecV c T (pActV T (pM2 c T g)) (pM5 c T g) ∧ -2 ≤ v786.toInt ∧ v786.toInt ≤ 39 ∧ ((v784.toInt = 0 ∨ v784.toInt = 5 ∨ v784.toInt = 6 ∨ v784.toInt = 8) → (0 ≤ v786.toInt ∧ v786.toInt ≤ 7)) ∧ (v784.toInt = 1 → (0 ≤ v786.toInt ∧ v786.toInt ≤ 39)))) → gG 8 zB_170 (mzBlk zB_170 8) [(0, .ref 0), (1, .int v781), (2, .int v782), (3, .int v783), (4, .int v784), (5, .int v785), (6, .int v786), (7, .int v787)] [] (mS H z788 z789 z790 z791 z792 z793 z794) 0 0 (gRv (fun H' => ∃ B : mzH, ∃ y0 y1 y2 y3 y4 y5 y6 : Int32, H' = mS B y0 y1 y2 y3 y4 y5 y6 ∧ gI SM B ∧ JN B ∧ (0 ≤ y0.toInt ∧ y0.toInt ≤ 900) ∧ (0 ≤ y1.toInt ∧ y1.toInt ≤ 900) ∧ (0 ≤ y2.toInt ∧ y2.toInt ≤ 4) ∧ rdM b n T (pM6 c T g) y0 y1 y2 y3 y4 y5 y6 ∧ tkM B b n T ∧ ((pM6 c T g).f ≠ 0 ∨ bkM B (bMg c T g)) ∧ frM H B ∧ wM B = wM H)) := by
    intro v781 v782 v783 v784 v785 v786 v787 z788 z789 z790 z791 z792 z793 z794 bv781 bv783 bv787 bz788 bz789 bz790 q0 q1 q2
    obtain ⟨-, rbq, -, rdq, -, -⟩ := id q0
    refine g_aload_n rfl ?_
    refine g_gfk (mS_I hI (by first | with_reducible assumption | omega) (by first | with_reducible assumption | omega) (by first | with_reducible assumption | omega)) sm_0 rfl (mS_g13 hI) ?_
    refine g_if_eq (fun c796 => ?_) (fun c796 => ?_)
    · have o6 := (bx.op q2).resolve_left (by first | with_reducible assumption | omega)
      refine g_aload_n rfl ?_
      refine g_gfr (mS_I hI (by first | with_reducible assumption | omega) (by first | with_reducible assumption | omega) (by first | with_reducible assumption | omega)) sm_0 rfl ?_
      refine g_iload_n rfl ?_
      refine g_iload_n rfl ?_
      refine g_iastore (mS_I hI (by first | with_reducible assumption | omega) (by first | with_reducible assumption | omega) (by first | with_reducible assumption | omega)) sm_3 (by first | with_reducible assumption | omega) (gz_any _) (fun H797 eH797 hIH797 => ?_)
      obtain ⟨B798, eB798⟩ : ∃ z, z = sA H 3 v781.toInt.toNat v782 := ⟨_, rfl⟩
      obtain rfl : H797 = (mS B798 z788 z789 z790 z791 z792 z793 z794) := by rw [eH797, eB798]; exact mS_cA
      have hIB798 : gI SM B798 := by rw [eB798]; exact gI_sA hI sm_3 (gz_any _)
      have frB798 : frM H B798 := frM_A (frM_r) eB798 (by decide)
      have tkB798 : tkM B798 b n T := tkM_fr hp0 frB798
      refine g_aload_n rfl ?_
      refine g_gfr (mS_I hIB798 (by first | with_reducible assumption | omega) (by first | with_reducible assumption | omega) (by first | with_reducible assumption | omega)) sm_0 rfl ?_
      refine g_iload_n rfl ?_
      refine g_iconst (by decide) (fun v799 kv799 => ?_)
      refine g_iadd (by first | with_reducible assumption | omega) (fun v800 ev800 => ?_)
      refine g_iload rfl ?_
      refine g_iastore (mS_I hIB798 (by first | with_reducible assumption | omega) (by first | with_reducible assumption | omega) (by first | with_reducible assumption | omega)) sm_3 (by first | with_reducible assumption | omega) (gz_any _) (fun H801 eH801 hIH801 => ?_)
      obtain ⟨B802, eB802⟩ : ∃ z, z = sA B798 3 v800.toInt.toNat v784 := ⟨_, rfl⟩
      obtain rfl : H801 = (mS B802 z788 z789 z790 z791 z792 z793 z794) := by rw [eH801, eB802]; exact mS_cA
      have hIB802 : gI SM B802 := by rw [eB802]; exact gI_sA hIB798 sm_3 (gz_any _)
      have frB802 : frM H B802 := frM_A frB798 eB802 (by decide)
      have tkB802 : tkM B802 b n T := tkM_fr hp0 frB802
      refine g_aload_n rfl ?_
      refine g_gfr (mS_I hIB802 (by first | with_reducible assumption | omega) (by first | with_reducible assumption | omega) (by first | with_reducible assumption | omega)) sm_0 rfl ?_
      refine g_iload_n rfl ?_
      refine g_iconst (by decide) (fun v803 kv803 => ?_)
      refine g_iadd (by first | with_reducible assumption | omega) (fun v804 ev804 => ?_)
      refine g_iload rfl ?_
      refine g_iastore (mS_I hIB802 (by first | with_reducible assumption | omega) (by first | with_reducible assumption | omega) (by first | with_reducible assumption | omega)) sm_3 (by first | with_reducible assumption | omega) (gz_any _) (fun H805 eH805 hIH805 => ?_)
      obtain ⟨B806, eB806⟩ : ∃ z, z = sA B802 3 v804.toInt.toNat v785 := ⟨_, rfl⟩
      obtain rfl : H805 = (mS B806 z788 z789 z790 z791 z792 z793 z794) := by rw [eH805, eB806]; exact mS_cA
      have hIB806 : gI SM B806 := by rw [eB806]; exact gI_sA hIB802 sm_3 (gz_any _)
      have frB806 : frM H B806 := frM_A frB802 eB806 (by decide)
      have tkB806 : tkM B806 b n T := tkM_fr hp0 frB806
      refine g_aload_n rfl ?_
      refine g_gfr (mS_I hIB806 (by first | with_reducible assumption | omega) (by first | with_reducible assumption | omega) (by first | with_reducible assumption | omega)) sm_0 rfl ?_
      refine g_iload_n rfl ?_
      refine g_iconst (by decide) (fun v807 kv807 => ?_)
      refine g_iadd (by first | with_reducible assumption | omega) (fun v808 ev808 => ?_)
      refine g_iload rfl ?_
      refine g_iastore (mS_I hIB806 (by first | with_reducible assumption | omega) (by first | with_reducible assumption | omega) (by first | with_reducible assumption | omega)) sm_3 (by first | with_reducible assumption | omega) (gz_any _) (fun H809 eH809 hIH809 => ?_)
      obtain ⟨B810, eB810⟩ : ∃ z, z = sA B806 3 v808.toInt.toNat v786 := ⟨_, rfl⟩
      obtain rfl : H809 = (mS B810 z788 z789 z790 z791 z792 z793 z794) := by rw [eH809, eB810]; exact mS_cA
      have hIB810 : gI SM B810 := by rw [eB810]; exact gI_sA hIB806 sm_3 (gz_any _)
      have frB810 : frM H B810 := frM_A frB806 eB810 (by decide)
      have tkB810 : tkM B810 b n T := tkM_fr hp0 frB810
      refine g_aload_n rfl ?_
      refine g_gfr (mS_I hIB810 (by first | with_reducible assumption | omega) (by first | with_reducible assumption | omega) (by first | with_reducible assumption | omega)) sm_0 rfl ?_
      refine g_iload_n rfl ?_
      refine g_iconst (by decide) (fun v811 kv811 => ?_)
      refine g_iadd (by first | with_reducible assumption | omega) (fun v812 ev812 => ?_)
      refine g_iload rfl ?_
      refine g_iastore (mS_I hIB810 (by first | with_reducible assumption | omega) (by first | with_reducible assumption | omega) (by first | with_reducible assumption | omega)) sm_3 (by first | with_reducible assumption | omega) (gz_any _) (fun H813 eH813 hIH813 => ?_)
      obtain ⟨B814, eB814⟩ : ∃ z, z = sA B810 3 v812.toInt.toNat v787 := ⟨_, rfl⟩
      obtain rfl : H813 = (mS B814 z788 z789 z790 z791 z792 z793 z794) := by rw [eH813, eB814]; exact mS_cA
      have hIB814 : gI SM B814 := by rw [eB814]; exact gI_sA hIB810 sm_3 (gz_any _)
      have m32 : aZ B814 3 2 = aZ H 3 2 := JM_row2 (by first | with_reducible assumption | omega) (by first | with_reducible assumption | omega) (by first | with_reducible assumption | omega) (by first | with_reducible assumption | omega) (by first | with_reducible assumption | omega) eB798 eB802 eB806 eB810 eB814
      have n32 : (aZ B814 3 2).toInt = c.N := by rw [m32]; exact hp2.2.2.1
      have hJB814 : JN B814 := JN_row hJ hI hIB798 hIB802 hIB806 hIB810 (by first | with_reducible assumption | omega) (by first | with_reducible assumption | omega) (by first | with_reducible assumption | omega) (by first | with_reducible assumption | omega) (by first | with_reducible assumption | omega) (by first | with_reducible assumption | omega) (by first | with_reducible assumption | omega) (by first | with_reducible assumption | omega) (by first | with_reducible assumption | omega) eB798 eB802 eB806 eB810 eB814
      have frB814 : frM H B814 := frM_A frB810 eB814 (by decide)
      have tkB814 : tkM B814 b n T := tkM_fr hp0 frB814
      refine g_aload_n rfl ?_
      refine g_gfr (mS_I hIB814 (by first | with_reducible assumption | omega) (by first | with_reducible assumption | omega) (by first | with_reducible assumption | omega)) sm_0 rfl ?_
      refine g_iconst (by decide) (fun v815 kv815 => ?_)
      refine g_dup2 rfl ?_
      refine g_iaload (mS_I hIB814 (by first | with_reducible assumption | omega) (by first | with_reducible assumption | omega) (by first | with_reducible assumption | omega)) sm_3 rfl (by first | with_reducible assumption | omega) (fun v816 ev816 lv816 uv816 => ?_)
      have dv816 : v816 = aZ B814 3 v815.toInt.toNat := ev816.trans mS_a
      have tv816 : v816.toInt = (aZ B814 3 v815.toInt.toNat).toInt := by rw [dv816]
      rw [show v815.toInt.toNat = 2 from by omega] at tv816
      have jv816 := JN_n32 hJB814 (v := aZ B814 3 2) rfl
      refine g_iconst (by decide) (fun v817 kv817 => ?_)
      refine g_iadd (by first | with_reducible assumption | omega) (fun v818 ev818 => ?_)
      refine g_iastore (mS_I hIB814 (by first | with_reducible assumption | omega) (by first | with_reducible assumption | omega) (by first | with_reducible assumption | omega)) sm_3 (by first | with_reducible assumption | omega) (gz_any _) (fun H819 eH819 hIH819 => ?_)
      obtain ⟨B820, eB820⟩ : ∃ z, z = sA B814 3 v815.toInt.toNat v818 := ⟨_, rfl⟩
      obtain rfl : H819 = (mS B820 z788 z789 z790 z791 z792 z793 z794) := by rw [eH819, eB820]; exact mS_cA
      have hIB820 : gI SM B820 := by rw [eB820]; exact gI_sA hIB814 sm_3 (gz_any _)
      have hJB820 : JN B820 := JN_s3 hIB814 hJB814 (by first | with_reducible assumption | omega) (fun _ => by omega) (fun _ => by omega) eB820
      have frB820 : frM H B820 := frM_A frB814 eB820 (by decide)
      have tkB820 : tkM B820 b n T := tkM_fr hp0 frB820
      exact g_ret ⟨rfl, B820, z788, z789, z790, z791, z792, z793, z794, rfl, hIB820, hJB820, (by first | with_reducible assumption | omega), (by first | with_reducible assumption | omega), (by first | with_reducible assumption | omega), q0, tkB820, (Or.inr (by unfold bMg; rw [if_pos (by first | with_reducible assumption | omega)]; exact nms_mk hI hIB798 hIB802 hIB806 hIB810 hIB814 hp2 eB798 eB802 eB806 eB810 eB814 eB820 (by first | with_reducible assumption | omega) (by first | with_reducible assumption | omega) (by first | with_reducible assumption | omega) (by first | with_reducible assumption | omega) (by first | with_reducible assumption | omega) (by first | with_reducible assumption | omega) (by first | with_reducible assumption | omega) (by first | with_reducible assumption | omega) (by first | with_reducible assumption | omega) (by first | with_reducible assumption | omega) (by first | with_reducible assumption | omega) (kd_mk (by first | with_reducible assumption | omega)))), frB820, ((wM_A eB820 (by first | with_reducible assumption | omega)).trans ((wM_A eB814 (by first | with_reducible assumption | omega)).trans ((wM_A eB810 (by first | with_reducible assumption | omega)).trans ((wM_A eB806 (by first | with_reducible assumption | omega)).trans ((wM_A eB802 (by first | with_reducible assumption | omega)).trans (wM_A eB798 (by first | with_reducible assumption | omega)))))))⟩
    · exact g_ret ⟨rfl, H, z788, z789, z790, z791, z792, z793, z794, rfl, hI, hJ, (by first | with_reducible assumption | omega), (by first | with_reducible assumption | omega), (by first | with_reducible assumption | omega), q0, hp0, (Or.inl (by first | with_reducible assumption | omega)), (frM_r), rfl⟩
  have J835 : ∀ (v821 : Int32) (v822 : Int32) (v823 : Int32) (v824 : Int32) (v825 : Int32) (v826 : Int32) (v827 : Int32) (z828 : Int32) (z829 : Int32) (z830 : Int32) (z831 : Int32) (z832 : Int32) (z833 : Int32) (z834 : Int32), (69 ≤ v821.toInt ∧ v821.toInt ≤ 369) → (0 ≤ v823.toInt ∧ v823.toInt ≤ 1) → (-2 ≤ v826.toInt ∧ v826.toInt ≤ -2) → (-1 ≤ v827.toInt ∧ v827.toInt ≤ 2) → (0 ≤ z828.toInt ∧ z828.toInt ≤ 900) → (0 ≤ z829.toInt ∧ z829.toInt ≤ 900) → (0 ≤ z830.toInt ∧ z830.toInt ≤ 4) → rdM b n T (pM5 c T g) z828 z829 z830 z831 z832 z833 z834 → (v821.toInt = 69 + 5 * c.N ∧ 0 ≤ c.N ∧ c.N ≤ 60) → bx ((pM5 c T g).f ≠ 0 ∨ (v822.toInt = T.V (pM1 c T g).t ∧ c.N ≠ 60 ∧ v824.toInt = pActV T (pM2 c T g) ∧ 0 ≤ v824.toInt ∧ v824.toInt ≤ 10 ∧ v825.toInt = T.V (pM3 c T g).t ∧ 0 ≤ v825.toInt ∧ v825.toInt ≤ 39 ∧ ((v824.toInt = 0 ∧ v827.toInt = T.K (pM4 c T g).t - 5 ∧ 0 ≤ v827.toInt ∧ v827.toInt ≤ 2) ∨ (v824.toInt ≠ 0 ∧ v827.toInt = -1)))) → gG 8 zB_170 (mzBlk zB_170 5) [(0, .ref 0), (1, .int v821), (2, .int v822), (3, .int v823), (4, .int v824), (5, .int v825), (6, .int v826), (7, .int v827)] [] (mS H z828 z829 z830 z831 z832 z833 z834) 0 0 (gRv (fun H' => ∃ B : mzH, ∃ y0 y1 y2 y3 y4 y5 y6 : Int32, H' = mS B y0 y1 y2 y3 y4 y5 y6 ∧ gI SM B ∧ JN B ∧ (0 ≤ y0.toInt ∧ y0.toInt ≤ 900) ∧ (0 ≤ y1.toInt ∧ y1.toInt ≤ 900) ∧ (0 ≤ y2.toInt ∧ y2.toInt ≤ 4) ∧ rdM b n T (pM6 c T g) y0 y1 y2 y3 y4 y5 y6 ∧ tkM B b n T ∧ ((pM6 c T g).f ≠ 0 ∨ bkM B (bMg c T g)) ∧ frM H B ∧ wM B = wM H)) := by
    intro v821 v822 v823 v824 v825 v826 v827 z828 z829 z830 z831 z832 z833 z834 bv821 bv823 bv826 bv827 bz828 bz829 bz830 q0 q1 q2
    obtain ⟨-, rbq, -, rdq, -, -⟩ := id q0
    refine g_aload_n rfl ?_
    refine g_gfk (mS_I hI (by first | with_reducible assumption | omega) (by first | with_reducible assumption | omega) (by first | with_reducible assumption | omega)) sm_0 rfl (mS_g13 hI) ?_
    refine g_if_ne (fun c836 => ?_) (fun c836 => ?_)
    · refine g_aload_n rfl ?_
      refine g_gfk (mS_I hI (by first | with_reducible assumption | omega) (by first | with_reducible assumption | omega) (by first | with_reducible assumption | omega)) sm_0 rfl (mS_g13 hI) ?_
      refine g_if_ne (fun c837 => ?_) (fun c837 => ?_)
      · exact J795 v821 v822 v823 v824 v825 v826 v827 z828 z829 z830 z831 z832 z833 z834 (by first | with_reducible assumption | omega) (by first | with_reducible assumption | omega) (by first | with_reducible assumption | omega) (by first | with_reducible assumption | omega) (by first | with_reducible assumption | omega) (by first | with_reducible assumption | omega) (by rw [m6_f (by first | with_reducible assumption | omega)]; exact q0) (by first | with_reducible assumption | omega) (bx.mk (Or.inl (by rw [m6_f (by first | with_reducible assumption | omega)]; omega)))
      · refine g_iload rfl ?_
        refine g_if_eq (fun c838 => ?_) (fun c838 => ?_)
        · exfalso; omega
        · refine g_iload rfl ?_
          refine g_iconst (by decide) (fun v839 kv839 => ?_)
          refine g_if2_eq (fun c840 => ?_) (fun c840 => ?_)
          · exfalso; omega
          · refine g_iload rfl ?_
            refine g_bipush (by decide) (fun v841 kv841 => ?_)
            refine g_if2_eq (fun c842 => ?_) (fun c842 => ?_)
            · exfalso; omega
            · refine g_iload rfl ?_
              refine g_bipush (by decide) (fun v843 kv843 => ?_)
              refine g_if2_ne (fun c844 => ?_) (fun c844 => ?_)
              · exact J795 v821 v822 v823 v824 v825 v826 v827 z828 z829 z830 z831 z832 z833 z834 (by first | with_reducible assumption | omega) (by first | with_reducible assumption | omega) (by first | with_reducible assumption | omega) (by first | with_reducible assumption | omega) (by first | with_reducible assumption | omega) (by first | with_reducible assumption | omega) (by exfalso; omega) (by first | with_reducible assumption | omega) (by exfalso; omega)
              · refine g_nop ?_
                exfalso; omega
    · refine g_iload rfl ?_
      refine g_iconst (by decide) (fun v845 kv845 => ?_)
      refine g_if2_ne (fun c846 => ?_) (fun c846 => ?_)
      · refine g_aload_n rfl ?_
        refine g_gfk (mS_I hI (by first | with_reducible assumption | omega) (by first | with_reducible assumption | omega) (by first | with_reducible assumption | omega)) sm_0 rfl (mS_g13 hI) ?_
        refine g_if_ne (fun c847 => ?_) (fun c847 => ?_)
        · exfalso; omega
        · refine g_iload rfl ?_
          refine g_if_eq (fun c848 => ?_) (fun c848 => ?_)
          · refine g_aload_n rfl ?_
            refine g_invvi (mS_I hI (by first | with_reducible assumption | omega) (by first | with_reducible assumption | omega) (by first | with_reducible assumption | omega)) sm_0 rfl rfl rfl rfl (f_165 H hI hJ z828 z829 z830 z831 z832 z833 z834 (by first | with_reducible assumption | omega) (by first | with_reducible assumption | omega) (by first | with_reducible assumption | omega) hp0 q0 hp2) (fun v851 H849 r850 => ?_)
            obtain ⟨y852, y853, y854, y855, y856, y857, y858, rfl, bv851, by852, by853, by854, zp859, zp860⟩ := r850
            obtain ⟨-, rbzp859, -, rdzp859, -, -⟩ := id zp859
            have nzp859 := bx.mk (rp_ok (c := c) (T := T) (g := (pM5 c T g)))
            refine g_istore (l' := [(0, .ref 0), (1, .int v821), (2, .int v822), (3, .int v823), (4, .int v824), (5, .int v825), (6, .int v851), (7, .int v827)]) rfl rfl ?_
            refine g_nop ?_
            exact J795 v821 v822 v823 v824 v825 v851 v827 y852 y853 y854 y855 y856 y857 y858 (by first | with_reducible assumption | omega) (by first | with_reducible assumption | omega) (by first | with_reducible assumption | omega) (by first | with_reducible assumption | omega) (by first | with_reducible assumption | omega) (by first | with_reducible assumption | omega) (by have o5 := bx.op q2; rw [m6_p (by first | with_reducible assumption | omega)]; exact zp859) (by first | with_reducible assumption | omega) (bx.mk (by have o5 := bx.op q2; have oN := bx.op nzp859; have os := sv_p (c := c) (T := T) (g := pM5 c T g) (a := pActV T (pM2 c T g)) (by first | with_reducible assumption | omega); rw [m6_p (by first | with_reducible assumption | omega)]; omega))
          · refine g_iload rfl ?_
            refine g_iconst (by decide) (fun v861 kv861 => ?_)
            refine g_if2_eq (fun c862 => ?_) (fun c862 => ?_)
            · refine g_aload_n rfl ?_
              refine g_invvi (mS_I hI (by first | with_reducible assumption | omega) (by first | with_reducible assumption | omega) (by first | with_reducible assumption | omega)) sm_0 rfl rfl rfl rfl (f_165 H hI hJ z828 z829 z830 z831 z832 z833 z834 (by first | with_reducible assumption | omega) (by first | with_reducible assumption | omega) (by first | with_reducible assumption | omega) hp0 q0 hp2) (fun v865 H863 r864 => ?_)
              obtain ⟨y866, y867, y868, y869, y870, y871, y872, rfl, bv865, by866, by867, by868, zp873, zp874⟩ := r864
              obtain ⟨-, rbzp873, -, rdzp873, -, -⟩ := id zp873
              have nzp873 := bx.mk (rp_ok (c := c) (T := T) (g := (pM5 c T g)))
              refine g_istore (l' := [(0, .ref 0), (1, .int v821), (2, .int v822), (3, .int v823), (4, .int v824), (5, .int v825), (6, .int v865), (7, .int v827)]) rfl rfl ?_
              refine g_nop ?_
              exact J795 v821 v822 v823 v824 v825 v865 v827 y866 y867 y868 y869 y870 y871 y872 (by first | with_reducible assumption | omega) (by first | with_reducible assumption | omega) (by first | with_reducible assumption | omega) (by first | with_reducible assumption | omega) (by first | with_reducible assumption | omega) (by first | with_reducible assumption | omega) (by have o5 := bx.op q2; rw [m6_p (by first | with_reducible assumption | omega)]; exact zp873) (by first | with_reducible assumption | omega) (bx.mk (by have o5 := bx.op q2; have oN := bx.op nzp873; have os := sv_p (c := c) (T := T) (g := pM5 c T g) (a := pActV T (pM2 c T g)) (by first | with_reducible assumption | omega); rw [m6_p (by first | with_reducible assumption | omega)]; omega))
            · refine g_iload rfl ?_
              refine g_bipush (by decide) (fun v875 kv875 => ?_)
              refine g_if2_eq (fun c876 => ?_) (fun c876 => ?_)
              · refine g_aload_n rfl ?_
                refine g_invvi (mS_I hI (by first | with_reducible assumption | omega) (by first | with_reducible assumption | omega) (by first | with_reducible assumption | omega)) sm_0 rfl rfl rfl rfl (f_165 H hI hJ z828 z829 z830 z831 z832 z833 z834 (by first | with_reducible assumption | omega) (by first | with_reducible assumption | omega) (by first | with_reducible assumption | omega) hp0 q0 hp2) (fun v879 H877 r878 => ?_)
                obtain ⟨y880, y881, y882, y883, y884, y885, y886, rfl, bv879, by880, by881, by882, zp887, zp888⟩ := r878
                obtain ⟨-, rbzp887, -, rdzp887, -, -⟩ := id zp887
                have nzp887 := bx.mk (rp_ok (c := c) (T := T) (g := (pM5 c T g)))
                refine g_istore (l' := [(0, .ref 0), (1, .int v821), (2, .int v822), (3, .int v823), (4, .int v824), (5, .int v825), (6, .int v879), (7, .int v827)]) rfl rfl ?_
                refine g_nop ?_
                exact J795 v821 v822 v823 v824 v825 v879 v827 y880 y881 y882 y883 y884 y885 y886 (by first | with_reducible assumption | omega) (by first | with_reducible assumption | omega) (by first | with_reducible assumption | omega) (by first | with_reducible assumption | omega) (by first | with_reducible assumption | omega) (by first | with_reducible assumption | omega) (by have o5 := bx.op q2; rw [m6_p (by first | with_reducible assumption | omega)]; exact zp887) (by first | with_reducible assumption | omega) (bx.mk (by have o5 := bx.op q2; have oN := bx.op nzp887; have os := sv_p (c := c) (T := T) (g := pM5 c T g) (a := pActV T (pM2 c T g)) (by first | with_reducible assumption | omega); rw [m6_p (by first | with_reducible assumption | omega)]; omega))
              · refine g_iload rfl ?_
                refine g_bipush (by decide) (fun v889 kv889 => ?_)
                refine g_if2_ne (fun c890 => ?_) (fun c890 => ?_)
                · exact J795 v821 v822 v823 v824 v825 v826 v827 z828 z829 z830 z831 z832 z833 z834 (by first | with_reducible assumption | omega) (by first | with_reducible assumption | omega) (by first | with_reducible assumption | omega) (by first | with_reducible assumption | omega) (by first | with_reducible assumption | omega) (by first | with_reducible assumption | omega) (by have o5 := bx.op q2; rw [m6_n (by first | with_reducible assumption | omega)]; exact q0) (by first | with_reducible assumption | omega) (bx.mk (by have o5 := bx.op q2; rw [m6_n (by first | with_reducible assumption | omega), sv_n (by first | with_reducible assumption | omega)]; omega))
                · refine g_nop ?_
                  refine g_aload_n rfl ?_
                  refine g_invvi (mS_I hI (by first | with_reducible assumption | omega) (by first | with_reducible assumption | omega) (by first | with_reducible assumption | omega)) sm_0 rfl rfl rfl rfl (f_165 H hI hJ z828 z829 z830 z831 z832 z833 z834 (by first | with_reducible assumption | omega) (by first | with_reducible assumption | omega) (by first | with_reducible assumption | omega) hp0 q0 hp2) (fun v893 H891 r892 => ?_)
                  obtain ⟨y894, y895, y896, y897, y898, y899, y900, rfl, bv893, by894, by895, by896, zp901, zp902⟩ := r892
                  obtain ⟨-, rbzp901, -, rdzp901, -, -⟩ := id zp901
                  have nzp901 := bx.mk (rp_ok (c := c) (T := T) (g := (pM5 c T g)))
                  refine g_istore (l' := [(0, .ref 0), (1, .int v821), (2, .int v822), (3, .int v823), (4, .int v824), (5, .int v825), (6, .int v893), (7, .int v827)]) rfl rfl ?_
                  refine g_nop ?_
                  exact J795 v821 v822 v823 v824 v825 v893 v827 y894 y895 y896 y897 y898 y899 y900 (by first | with_reducible assumption | omega) (by first | with_reducible assumption | omega) (by first | with_reducible assumption | omega) (by first | with_reducible assumption | omega) (by first | with_reducible assumption | omega) (by first | with_reducible assumption | omega) (by have o5 := bx.op q2; rw [m6_p (by first | with_reducible assumption | omega)]; exact zp901) (by first | with_reducible assumption | omega) (bx.mk (by have o5 := bx.op q2; have oN := bx.op nzp901; have os := sv_p (c := c) (T := T) (g := pM5 c T g) (a := pActV T (pM2 c T g)) (by first | with_reducible assumption | omega); rw [m6_p (by first | with_reducible assumption | omega)]; omega))
      · refine g_aload_n rfl ?_
        refine g_iconst (by decide) (fun v903 kv903 => ?_)
        refine g_bipush (by decide) (fun v904 kv904 => ?_)
        refine g_invvi (mS_I hI (by first | with_reducible assumption | omega) (by first | with_reducible assumption | omega) (by first | with_reducible assumption | omega)) sm_0 rfl rfl rfl rfl (f_163 v903 (by first | with_reducible assumption | omega) v904 (by first | with_reducible assumption | omega) H hI hJ z828 z829 z830 z831 z832 z833 z834 (by first | with_reducible assumption | omega) (by first | with_reducible assumption | omega) (by first | with_reducible assumption | omega) hp0 q0) (fun v907 H905 r906 => ?_)
        obtain ⟨y908, y909, y910, y911, y912, y913, y914, rfl, by908, by909, by910, zp915, zp916⟩ := r906
        rw [kv903] at zp915
        rw [kv903] at zp916
        rw [kv904] at zp915
        rw [kv904] at zp916
        obtain ⟨-, rbzp915, -, rdzp915, -, -⟩ := id zp915
        have nzp915 := bx.mk (pN_ok (T := T) (lo := 0) (hi := 39) (g := (pM5 c T g)))
        refine g_istore (l' := [(0, .ref 0), (1, .int v821), (2, .int v822), (3, .int v823), (4, .int v824), (5, .int v825), (6, .int v907), (7, .int v827)]) rfl rfl ?_
        refine g_goto ?_
        exact J795 v821 v822 v823 v824 v825 v907 v827 y908 y909 y910 y911 y912 y913 y914 (by first | with_reducible assumption | omega) (by first | with_reducible assumption | omega) (by first | with_reducible assumption | omega) (by first | with_reducible assumption | omega) (by first | with_reducible assumption | omega) (by first | with_reducible assumption | omega) (by have o5 := bx.op q2; rw [m6_1 (by first | with_reducible assumption | omega)]; exact zp915) (by first | with_reducible assumption | omega) (bx.mk (by have o5 := bx.op q2; have oN := bx.op nzp915; rw [m6_1 (by first | with_reducible assumption | omega), sv_1 (by first | with_reducible assumption | omega)]; omega))
  have J927 : ∀ (v917 : Int32) (v918 : Int32) (v919 : Int32) (z920 : Int32) (z921 : Int32) (z922 : Int32) (z923 : Int32) (z924 : Int32) (z925 : Int32) (z926 : Int32), (69 ≤ v917.toInt ∧ v917.toInt ≤ 369) → (0 ≤ v919.toInt ∧ v919.toInt ≤ 1) → (0 ≤ z920.toInt ∧ z920.toInt ≤ 900) → (0 ≤ z921.toInt ∧ z921.toInt ≤ 900) → (0 ≤ z922.toInt ∧ z922.toInt ≤ 4) → rdM b n T (pActW T (pM2 c T g)) z920 z921 z922 z923 z924 z925 z926 → (v917.toInt = 69 + 5 * c.N ∧ 0 ≤ c.N ∧ c.N ≤ 60) → bx ((pM2 c T g).f ≠ 0 ∨ (v918.toInt = T.V (pM1 c T g).t ∧ c.N ≠ 60)) → bx ((pActW T (pM2 c T g)).f ≠ 0 ∨ ((pM2 c T g).f = 0 ∧ z923.toInt = pActV T (pM2 c T g) ∧ 0 ≤ z923.toInt ∧ z923.toInt ≤ 10)) → gG 8 zB_170 (mzBlk zB_170 4) [(0, .ref 0), (1, .int v917), (2, .int v918), (3, .int v919)] [] (mS H z920 z921 z922 z923 z924 z925 z926) 0 0 (gRv (fun H' => ∃ B : mzH, ∃ y0 y1 y2 y3 y4 y5 y6 : Int32, H' = mS B y0 y1 y2 y3 y4 y5 y6 ∧ gI SM B ∧ JN B ∧ (0 ≤ y0.toInt ∧ y0.toInt ≤ 900) ∧ (0 ≤ y1.toInt ∧ y1.toInt ≤ 900) ∧ (0 ≤ y2.toInt ∧ y2.toInt ≤ 4) ∧ rdM b n T (pM6 c T g) y0 y1 y2 y3 y4 y5 y6 ∧ tkM B b n T ∧ ((pM6 c T g).f ≠ 0 ∨ bkM B (bMg c T g)) ∧ frM H B ∧ wM B = wM H)) := by
    intro v917 v918 v919 z920 z921 z922 z923 z924 z925 z926 bv917 bv919 bz920 bz921 bz922 q0 q1 q2 q3
    obtain ⟨-, rbq, -, rdq, -, -⟩ := id q0
    refine g_aload_n rfl ?_
    refine g_gfk (mS_I hI (by first | with_reducible assumption | omega) (by first | with_reducible assumption | omega) (by first | with_reducible assumption | omega)) sm_0 rfl (mS_g11 hI) ?_
    refine g_istore (l' := [(0, .ref 0), (1, .int v917), (2, .int v918), (3, .int v919), (4, .int z923)]) rfl rfl ?_
    refine g_aload_n rfl ?_
    refine g_invvv (mS_I hI (by first | with_reducible assumption | omega) (by first | with_reducible assumption | omega) (by first | with_reducible assumption | omega)) sm_0 rfl rfl rfl rfl (f_162 H hI hJ z920 z921 z922 z923 z924 z925 z926 (by first | with_reducible assumption | omega) (by first | with_reducible assumption | omega) (by first | with_reducible assumption | omega) hp0 q0) (fun H928 r929 => ?_)
    obtain ⟨y930, y931, y932, y933, y934, rfl, by930, by931, by932, zp935⟩ := r929
    obtain ⟨-, rbzp935, -, rdzp935, -, -⟩ := id zp935
    have nzp935 := gn_f (T := T) (g := (pActW T (pM2 c T g)))
    have al936 : pM3 c T g = (pGn T (pActW T (pM2 c T g))) := by unfold pM3; exact ac_eq
    have zp937 := zp935
    rw [← al936] at zp937
    rw [← al936] at nzp935
    obtain ⟨-, rbzp937, -, rdzp937, -, -⟩ := id zp937
    refine g_aload_n rfl ?_
    refine g_iconst (by decide) (fun v938 kv938 => ?_)
    refine g_bipush (by decide) (fun v939 kv939 => ?_)
    refine g_invvi (mS_I hI (by first | with_reducible assumption | omega) (by first | with_reducible assumption | omega) (by first | with_reducible assumption | omega)) sm_0 rfl rfl rfl rfl (f_163 v938 (by first | with_reducible assumption | omega) v939 (by first | with_reducible assumption | omega) H hI hJ y930 y931 y932 y933 y934 z925 z926 (by first | with_reducible assumption | omega) (by first | with_reducible assumption | omega) (by first | with_reducible assumption | omega) hp0 zp937) (fun v942 H940 r941 => ?_)
    obtain ⟨y943, y944, y945, y946, y947, y948, y949, rfl, by943, by944, by945, zp950, zp951⟩ := r941
    rw [kv938] at zp950
    rw [kv938] at zp951
    rw [kv939] at zp950
    rw [kv939] at zp951
    obtain ⟨-, rbzp950, -, rdzp950, -, -⟩ := id zp950
    have nzp950 := bx.mk (pN_ok (T := T) (lo := 0) (hi := 39) (g := (pM3 c T g)))
    have al952 : pM4 c T g = (pNumb T 0 39 (pM3 c T g)) := by rfl
    have zp953 := zp950
    rw [← al952] at zp953
    rw [← al952] at nzp950
    rw [← al952] at zp951
    obtain ⟨-, rbzp953, -, rdzp953, -, -⟩ := id zp953
    refine g_istore (l' := [(0, .ref 0), (1, .int v917), (2, .int v918), (3, .int v919), (4, .int z923), (5, .int v942)]) rfl rfl ?_
    refine g_bipush (by decide) (fun v954 kv954 => ?_)
    refine g_istore (l' := [(0, .ref 0), (1, .int v917), (2, .int v918), (3, .int v919), (4, .int z923), (5, .int v942), (6, .int v954)]) rfl rfl ?_
    refine g_iconst (by decide) (fun v955 kv955 => ?_)
    refine g_istore (l' := [(0, .ref 0), (1, .int v917), (2, .int v918), (3, .int v919), (4, .int z923), (5, .int v942), (6, .int v954), (7, .int v955)]) rfl rfl ?_
    refine g_aload_n rfl ?_
    refine g_gfk (mS_I hI (by first | with_reducible assumption | omega) (by first | with_reducible assumption | omega) (by first | with_reducible assumption | omega)) sm_0 rfl (mS_g13 hI) ?_
    refine g_if_ne (fun c956 => ?_) (fun c956 => ?_)
    · exact J835 v917 v918 v919 z923 v942 v954 v955 y943 y944 y945 y946 y947 y948 y949 (by first | with_reducible assumption | omega) (by first | with_reducible assumption | omega) (by first | with_reducible assumption | omega) (by first | with_reducible assumption | omega) (by first | with_reducible assumption | omega) (by first | with_reducible assumption | omega) (by first | with_reducible assumption | omega) (by rw [m5_f (by first | with_reducible assumption | omega)]; exact zp953) (by first | with_reducible assumption | omega) (bx.mk (Or.inl (by rw [m5_f (by first | with_reducible assumption | omega)]; omega)))
    · refine g_iload rfl ?_
      refine g_if_ne (fun c957 => ?_) (fun c957 => ?_)
      · exact J835 v917 v918 v919 z923 v942 v954 v955 y943 y944 y945 y946 y947 y948 y949 (by first | with_reducible assumption | omega) (by first | with_reducible assumption | omega) (by first | with_reducible assumption | omega) (by first | with_reducible assumption | omega) (by first | with_reducible assumption | omega) (by first | with_reducible assumption | omega) (by first | with_reducible assumption | omega) (by have o4 := bx.op nzp950; have o3 := bx.op q3; have o2 := bx.op q2; rw [m5_n (by first | with_reducible assumption | omega)]; exact zp953) (by first | with_reducible assumption | omega) (bx.mk (by have o4 := bx.op nzp950; have o3 := bx.op q3; have o2 := bx.op q2; rw [m5_n (by first | with_reducible assumption | omega)]; omega))
      · refine g_aload_n rfl ?_
        refine g_invvi (mS_I hI (by first | with_reducible assumption | omega) (by first | with_reducible assumption | omega) (by first | with_reducible assumption | omega)) sm_0 rfl rfl rfl rfl (f_169 H hI hJ y943 y944 y945 y946 y947 y948 y949 (by first | with_reducible assumption | omega) (by first | with_reducible assumption | omega) (by first | with_reducible assumption | omega) hp0 zp953) (fun v960 H958 r959 => ?_)
        obtain ⟨y961, y962, y963, y964, y965, y966, y967, rfl, bv960, by961, by962, by963, zp968, zp969⟩ := r959
        obtain ⟨-, rbzp968, -, rdzp968, -, -⟩ := id zp968
        have nzp968 := bx.mk (pT_ok (T := T) (lo := 5) (hi := 7) (g := (pM4 c T g)))
        refine g_istore (l' := [(0, .ref 0), (1, .int v917), (2, .int v918), (3, .int v919), (4, .int z923), (5, .int v942), (6, .int v954), (7, .int v960)]) rfl rfl ?_
        refine g_nop ?_
        exact J835 v917 v918 v919 z923 v942 v954 v960 y961 y962 y963 y964 y965 y966 y967 (by first | with_reducible assumption | omega) (by first | with_reducible assumption | omega) (by first | with_reducible assumption | omega) (by first | with_reducible assumption | omega) (by first | with_reducible assumption | omega) (by first | with_reducible assumption | omega) (by first | with_reducible assumption | omega) (by have o4 := bx.op nzp950; have o3 := bx.op q3; have o2 := bx.op q2; rw [m5_y (by first | with_reducible assumption | omega)]; exact zp968) (by first | with_reducible assumption | omega) (bx.mk (by have o4 := bx.op nzp950; have o3 := bx.op q3; have o2 := bx.op q2; have o5 := bx.op nzp968; rw [m5_y (by first | with_reducible assumption | omega)]; omega))
  have J977 : ∀ (z970 : Int32) (z971 : Int32) (z972 : Int32) (z973 : Int32) (z974 : Int32) (z975 : Int32) (z976 : Int32), (0 ≤ z970.toInt ∧ z970.toInt ≤ 900) → (0 ≤ z971.toInt ∧ z971.toInt ≤ 900) → (0 ≤ z972.toInt ∧ z972.toInt ≤ 4) → rdM b n T (pMa c T g) z970 z971 z972 z973 z974 z975 z976 → gG 8 zB_170 (mzBlk zB_170 1) [(0, .ref 0)] [] (mS H z970 z971 z972 z973 z974 z975 z976) 0 0 (gRv (fun H' => ∃ B : mzH, ∃ y0 y1 y2 y3 y4 y5 y6 : Int32, H' = mS B y0 y1 y2 y3 y4 y5 y6 ∧ gI SM B ∧ JN B ∧ (0 ≤ y0.toInt ∧ y0.toInt ≤ 900) ∧ (0 ≤ y1.toInt ∧ y1.toInt ≤ 900) ∧ (0 ≤ y2.toInt ∧ y2.toInt ≤ 4) ∧ rdM b n T (pM6 c T g) y0 y1 y2 y3 y4 y5 y6 ∧ tkM B b n T ∧ ((pM6 c T g).f ≠ 0 ∨ bkM B (bMg c T g)) ∧ frM H B ∧ wM B = wM H)) := by
    intro z970 z971 z972 z973 z974 z975 z976 bz970 bz971 bz972 q0
    obtain ⟨-, rbq, -, rdq, -, -⟩ := id q0
    have ma := bx.mk (ma_ok (c := c) (T := T) (g := g) hp3.1)
    refine g_aload_n rfl ?_
    refine g_invvv (mS_I hI (by first | with_reducible assumption | omega) (by first | with_reducible assumption | omega) (by first | with_reducible assumption | omega)) sm_0 rfl rfl rfl rfl (f_162 H hI hJ z970 z971 z972 z973 z974 z975 z976 (by first | with_reducible assumption | omega) (by first | with_reducible assumption | omega) (by first | with_reducible assumption | omega) hp0 q0) (fun H978 r979 => ?_)
    obtain ⟨y980, y981, y982, y983, y984, rfl, by980, by981, by982, zp985⟩ := r979
    obtain ⟨-, rbzp985, -, rdzp985, -, -⟩ := id zp985
    have nzp985 := gn_f (T := T) (g := (pMa c T g))
    have al986 : pM1 c T g = (pGn T (pMa c T g)) := by exact m1_eq hp3.2
    have zp987 := zp985
    rw [← al986] at zp987
    rw [← al986] at nzp985
    obtain ⟨-, rbzp987, -, rdzp987, -, -⟩ := id zp987
    refine g_bipush (by decide) (fun v988 kv988 => ?_)
    refine g_iconst (by decide) (fun v989 kv989 => ?_)
    refine g_aload_n rfl ?_
    refine g_gfr (mS_I hI (by first | with_reducible assumption | omega) (by first | with_reducible assumption | omega) (by first | with_reducible assumption | omega)) sm_0 rfl ?_
    refine g_iconst (by decide) (fun v990 kv990 => ?_)
    refine g_iaload (mS_I hI (by first | with_reducible assumption | omega) (by first | with_reducible assumption | omega) (by first | with_reducible assumption | omega)) sm_3 rfl (by first | with_reducible assumption | omega) (fun v991 ev991 lv991 uv991 => ?_)
    have dv991 : v991 = aZ H 3 v990.toInt.toNat := ev991.trans mS_a
    have tv991 : v991.toInt = (aZ H 3 v990.toInt.toNat).toInt := by rw [dv991]
    rw [show v990.toInt.toNat = 2 from by omega] at tv991
    have jv991 := JN_n32 hJ (v := aZ H 3 2) rfl
    refine g_imulk' (n := 5) kv989 (by first | with_reducible assumption | omega) (fun v992 ev992 => ?_)
    refine g_iadd (by first | with_reducible assumption | omega) (fun v993 ev993 => ?_)
    refine g_istore_n (l' := [(0, .ref 0), (1, .int v993)]) rfl rfl ?_
    refine g_aload_n rfl ?_
    refine g_iconst (by decide) (fun v994 kv994 => ?_)
    refine g_sipush (by decide) (fun v995 kv995 => ?_)
    refine g_invvi (mS_I hI (by first | with_reducible assumption | omega) (by first | with_reducible assumption | omega) (by first | with_reducible assumption | omega)) sm_0 rfl rfl rfl rfl (f_163 v994 (by first | with_reducible assumption | omega) v995 (by first | with_reducible assumption | omega) H hI hJ y980 y981 y982 y983 y984 z975 z976 (by first | with_reducible assumption | omega) (by first | with_reducible assumption | omega) (by first | with_reducible assumption | omega) hp0 zp987) (fun v998 H996 r997 => ?_)
    obtain ⟨y999, y1000, y1001, y1002, y1003, y1004, y1005, rfl, by999, by1000, by1001, zp1006, zp1007⟩ := r997
    rw [kv994] at zp1006
    rw [kv994] at zp1007
    rw [kv995] at zp1006
    rw [kv995] at zp1007
    obtain ⟨-, rbzp1006, -, rdzp1006, -, -⟩ := id zp1006
    have nzp1006 := bx.mk (pN_ok (T := T) (lo := 0) (hi := 999) (g := (pM1 c T g)))
    have al1008 : pM2 c T g = (pNumb T 0 999 (pM1 c T g)) := by rfl
    have zp1009 := zp1006
    rw [← al1008] at zp1009
    rw [← al1008] at nzp1006
    rw [← al1008] at zp1007
    obtain ⟨-, rbzp1009, -, rdzp1009, -, -⟩ := id zp1009
    have kazp1009 := kr_a rbzp1009
    refine g_istore_n (l' := [(0, .ref 0), (1, .int v993), (2, .int v998)]) rfl rfl ?_
    refine g_aload_n rfl ?_
    refine g_gfk (mS_I hI (by first | with_reducible assumption | omega) (by first | with_reducible assumption | omega) (by first | with_reducible assumption | omega)) sm_0 rfl (mS_g13 hI) ?_
    refine g_if_ne (fun c1010 => ?_) (fun c1010 => ?_)
    · refine g_iconst (by decide) (fun v1011 kv1011 => ?_)
      refine g_nop ?_
      refine g_istore_n (l' := [(0, .ref 0), (1, .int v993), (2, .int v998), (3, .int v1011)]) rfl rfl ?_
      refine g_iload_n rfl ?_
      refine g_if_ne (fun c1012 => ?_) (fun c1012 => ?_)
      · exfalso; omega
      · refine g_aload_n rfl ?_
        refine g_iconst (by decide) (fun v1013 kv1013 => ?_)
        refine g_invvv (mS_I hI (by first | with_reducible assumption | omega) (by first | with_reducible assumption | omega) (by first | with_reducible assumption | omega)) sm_0 rfl rfl rfl rfl (f_161 v1013 (by first | with_reducible assumption | omega) H hI hJ y999 y1000 y1001 y1002 y1003 y1004 y1005 (by first | with_reducible assumption | omega) (by first | with_reducible assumption | omega) (by first | with_reducible assumption | omega) hp0 zp1009) (fun H1014 r1015 => ?_)
        obtain ⟨y1016, y1017, rfl, zp1018⟩ := r1015
        rw [kv1013] at zp1018
        obtain ⟨-, rbzp1018, -, rdzp1018, -, -⟩ := id zp1018
        have nzp1018 := pF_ne (T := T) (g := (pM2 c T g)) (n := 1) (by first | with_reducible assumption | omega)
        refine g_nop ?_
        exact J927 v993 v998 v1011 y999 y1000 y1001 y1002 y1003 y1016 y1017 (by first | with_reducible assumption | omega) (by first | with_reducible assumption | omega) (by first | with_reducible assumption | omega) (by first | with_reducible assumption | omega) (by first | with_reducible assumption | omega) (by unfold pActW; rw [if_neg (by first | with_reducible assumption | omega)]; exact zp1018) (by first | with_reducible assumption | omega) (bx.mk (by have o1 := bx.op nzp1006; have o2 := bx.op ma; omega)) (bx.mk (Or.inl (by unfold pActW; rw [if_neg (by first | with_reducible assumption | omega)]; omega)))
    · refine g_aload_n rfl ?_
      refine g_gfk (mS_I hI (by first | with_reducible assumption | omega) (by first | with_reducible assumption | omega) (by first | with_reducible assumption | omega)) sm_0 rfl (mS_g10 hI) ?_
      refine g_if_ne (fun c1019 => ?_) (fun c1019 => ?_)
      · refine g_iconst (by decide) (fun v1020 kv1020 => ?_)
        refine g_nop ?_
        refine g_istore_n (l' := [(0, .ref 0), (1, .int v993), (2, .int v998), (3, .int v1020)]) rfl rfl ?_
        refine g_iload_n rfl ?_
        refine g_if_ne (fun c1021 => ?_) (fun c1021 => ?_)
        · exfalso; omega
        · refine g_aload_n rfl ?_
          refine g_iconst (by decide) (fun v1022 kv1022 => ?_)
          refine g_invvv (mS_I hI (by first | with_reducible assumption | omega) (by first | with_reducible assumption | omega) (by first | with_reducible assumption | omega)) sm_0 rfl rfl rfl rfl (f_161 v1022 (by first | with_reducible assumption | omega) H hI hJ y999 y1000 y1001 y1002 y1003 y1004 y1005 (by first | with_reducible assumption | omega) (by first | with_reducible assumption | omega) (by first | with_reducible assumption | omega) hp0 zp1009) (fun H1023 r1024 => ?_)
          obtain ⟨y1025, y1026, rfl, zp1027⟩ := r1024
          rw [kv1022] at zp1027
          obtain ⟨-, rbzp1027, -, rdzp1027, -, -⟩ := id zp1027
          have nzp1027 := pF_ne (T := T) (g := (pM2 c T g)) (n := 1) (by first | with_reducible assumption | omega)
          refine g_nop ?_
          exact J927 v993 v998 v1020 y999 y1000 y1001 y1002 y1003 y1025 y1026 (by first | with_reducible assumption | omega) (by first | with_reducible assumption | omega) (by first | with_reducible assumption | omega) (by first | with_reducible assumption | omega) (by first | with_reducible assumption | omega) (by unfold pActW; rw [if_neg (by first | with_reducible assumption | omega)]; exact zp1027) (by first | with_reducible assumption | omega) (bx.mk (by have o1 := bx.op nzp1006; have o2 := bx.op ma; omega)) (bx.mk (Or.inl (by unfold pActW; rw [if_neg (by first | with_reducible assumption | omega)]; omega)))
      · refine g_aload_n rfl ?_
        refine g_gfk (mS_I hI (by first | with_reducible assumption | omega) (by first | with_reducible assumption | omega) (by first | with_reducible assumption | omega)) sm_0 rfl (mS_g11 hI) ?_
        refine g_if_lt (fun c1028 => ?_) (fun c1028 => ?_)
        · refine g_iconst (by decide) (fun v1029 kv1029 => ?_)
          refine g_nop ?_
          refine g_istore_n (l' := [(0, .ref 0), (1, .int v993), (2, .int v998), (3, .int v1029)]) rfl rfl ?_
          refine g_iload_n rfl ?_
          refine g_if_ne (fun c1030 => ?_) (fun c1030 => ?_)
          · exfalso; omega
          · refine g_aload_n rfl ?_
            refine g_iconst (by decide) (fun v1031 kv1031 => ?_)
            refine g_invvv (mS_I hI (by first | with_reducible assumption | omega) (by first | with_reducible assumption | omega) (by first | with_reducible assumption | omega)) sm_0 rfl rfl rfl rfl (f_161 v1031 (by first | with_reducible assumption | omega) H hI hJ y999 y1000 y1001 y1002 y1003 y1004 y1005 (by first | with_reducible assumption | omega) (by first | with_reducible assumption | omega) (by first | with_reducible assumption | omega) hp0 zp1009) (fun H1032 r1033 => ?_)
            obtain ⟨y1034, y1035, rfl, zp1036⟩ := r1033
            rw [kv1031] at zp1036
            obtain ⟨-, rbzp1036, -, rdzp1036, -, -⟩ := id zp1036
            have nzp1036 := pF_ne (T := T) (g := (pM2 c T g)) (n := 1) (by first | with_reducible assumption | omega)
            refine g_nop ?_
            exact J927 v993 v998 v1029 y999 y1000 y1001 y1002 y1003 y1034 y1035 (by first | with_reducible assumption | omega) (by first | with_reducible assumption | omega) (by first | with_reducible assumption | omega) (by first | with_reducible assumption | omega) (by first | with_reducible assumption | omega) (by unfold pActW; rw [if_neg (by first | with_reducible assumption | omega)]; exact zp1036) (by first | with_reducible assumption | omega) (bx.mk (by have o1 := bx.op nzp1006; have o2 := bx.op ma; omega)) (bx.mk (Or.inl (by unfold pActW; rw [if_neg (by first | with_reducible assumption | omega)]; omega)))
        · refine g_aload_n rfl ?_
          refine g_gfk (mS_I hI (by first | with_reducible assumption | omega) (by first | with_reducible assumption | omega) (by first | with_reducible assumption | omega)) sm_0 rfl (mS_g11 hI) ?_
          refine g_bipush (by decide) (fun v1037 kv1037 => ?_)
          refine g_if2_gt (fun c1038 => ?_) (fun c1038 => ?_)
          · refine g_iconst (by decide) (fun v1039 kv1039 => ?_)
            refine g_nop ?_
            refine g_istore_n (l' := [(0, .ref 0), (1, .int v993), (2, .int v998), (3, .int v1039)]) rfl rfl ?_
            refine g_iload_n rfl ?_
            refine g_if_ne (fun c1040 => ?_) (fun c1040 => ?_)
            · exfalso; omega
            · refine g_aload_n rfl ?_
              refine g_iconst (by decide) (fun v1041 kv1041 => ?_)
              refine g_invvv (mS_I hI (by first | with_reducible assumption | omega) (by first | with_reducible assumption | omega) (by first | with_reducible assumption | omega)) sm_0 rfl rfl rfl rfl (f_161 v1041 (by first | with_reducible assumption | omega) H hI hJ y999 y1000 y1001 y1002 y1003 y1004 y1005 (by first | with_reducible assumption | omega) (by first | with_reducible assumption | omega) (by first | with_reducible assumption | omega) hp0 zp1009) (fun H1042 r1043 => ?_)
              obtain ⟨y1044, y1045, rfl, zp1046⟩ := r1043
              rw [kv1041] at zp1046
              obtain ⟨-, rbzp1046, -, rdzp1046, -, -⟩ := id zp1046
              have nzp1046 := pF_ne (T := T) (g := (pM2 c T g)) (n := 1) (by first | with_reducible assumption | omega)
              refine g_nop ?_
              exact J927 v993 v998 v1039 y999 y1000 y1001 y1002 y1003 y1044 y1045 (by first | with_reducible assumption | omega) (by first | with_reducible assumption | omega) (by first | with_reducible assumption | omega) (by first | with_reducible assumption | omega) (by first | with_reducible assumption | omega) (by unfold pActW; rw [if_neg (by first | with_reducible assumption | omega)]; exact zp1046) (by first | with_reducible assumption | omega) (bx.mk (by have o1 := bx.op nzp1006; have o2 := bx.op ma; omega)) (bx.mk (Or.inl (by unfold pActW; rw [if_neg (by first | with_reducible assumption | omega)]; omega)))
          · refine g_iconst (by decide) (fun v1047 kv1047 => ?_)
            refine g_goto ?_
            refine g_istore_n (l' := [(0, .ref 0), (1, .int v993), (2, .int v998), (3, .int v1047)]) rfl rfl ?_
            refine g_iload_n rfl ?_
            refine g_if_ne (fun c1048 => ?_) (fun c1048 => ?_)
            · exact J927 v993 v998 v1047 y999 y1000 y1001 y1002 y1003 y1004 y1005 (by first | with_reducible assumption | omega) (by first | with_reducible assumption | omega) (by first | with_reducible assumption | omega) (by first | with_reducible assumption | omega) (by first | with_reducible assumption | omega) (by unfold pActW; rw [if_pos (by first | with_reducible assumption | omega)]; exact zp1009) (by first | with_reducible assumption | omega) (bx.mk (by have o1 := bx.op nzp1006; have o2 := bx.op ma; omega)) (bx.mk (Or.inr ⟨by omega, av_eq (by first | with_reducible assumption | omega) (by first | with_reducible assumption | omega), by omega, by omega⟩))
            · exfalso; omega
  refine g_aload_n rfl ?_
  refine g_gfr (mS_I hI (by first | with_reducible assumption | omega) (by first | with_reducible assumption | omega) (by first | with_reducible assumption | omega)) sm_0 rfl ?_
  refine g_iconst (by decide) (fun v1049 kv1049 => ?_)
  refine g_iaload (mS_I hI (by first | with_reducible assumption | omega) (by first | with_reducible assumption | omega) (by first | with_reducible assumption | omega)) sm_3 rfl (by first | with_reducible assumption | omega) (fun v1050 ev1050 lv1050 uv1050 => ?_)
  have dv1050 : v1050 = aZ H 3 v1049.toInt.toNat := ev1050.trans mS_a
  have tv1050 : v1050.toInt = (aZ H 3 v1049.toInt.toNat).toInt := by rw [dv1050]
  rw [show v1049.toInt.toNat = 2 from by omega] at tv1050
  have jv1050 := JN_n32 hJ (v := aZ H 3 2) rfl
  refine g_bipush (by decide) (fun v1051 kv1051 => ?_)
  refine g_if2_ne (fun c1052 => ?_) (fun c1052 => ?_)
  · exact J977 x0 x1 x2 x3 x4 x5 x6 (by first | with_reducible assumption | omega) (by first | with_reducible assumption | omega) (by first | with_reducible assumption | omega) (by unfold pMa; rw [if_neg (by first | with_reducible assumption | omega)]; exact hp1)
  · refine g_aload_n rfl ?_
    refine g_iconst (by decide) (fun v1053 kv1053 => ?_)
    refine g_invvv (mS_I hI (by first | with_reducible assumption | omega) (by first | with_reducible assumption | omega) (by first | with_reducible assumption | omega)) sm_0 rfl rfl rfl rfl (f_161 v1053 (by first | with_reducible assumption | omega) H hI hJ x0 x1 x2 x3 x4 x5 x6 (by first | with_reducible assumption | omega) (by first | with_reducible assumption | omega) (by first | with_reducible assumption | omega) hp0 hp1) (fun H1054 r1055 => ?_)
    obtain ⟨y1056, y1057, rfl, zp1058⟩ := r1055
    rw [kv1053] at zp1058
    obtain ⟨-, rbzp1058, -, rdzp1058, -, -⟩ := id zp1058
    have nzp1058 := pF_ne (T := T) (g := g) (n := 2) (by first | with_reducible assumption | omega)
    refine g_nop ?_
    exact J977 x0 x1 x2 x3 x4 y1056 y1057 (by first | with_reducible assumption | omega) (by first | with_reducible assumption | omega) (by first | with_reducible assumption | omega) (by unfold pMa; rw [if_pos (by first | with_reducible assumption | omega)]; exact zp1058)
set_option maxRecDepth 4000 in
set_option maxHeartbeats 4000000 in
/-- M.readLine, exactly -/
theorem h_171 (a1 : Int32) (ha1 : 0 ≤ a1.toInt ∧ a1.toInt ≤ 1) (H : mzH) (hI : gI SM H) (hJ : JN H) (x0 x1 x2 x3 x4 x5 x6 : Int32) (hx0 : 0 ≤ x0.toInt ∧ x0.toInt ≤ 900) (hx1 : 0 ≤ x1.toInt ∧ x1.toInt ≤ 900) (hx2 : 0 ≤ x2.toInt ∧ x2.toInt ≤ 4) {b : Nat → Int} {n : Nat} {T : pT} {g : pG} {c : pB} (hp0 : tkM H b n T) (hp1 : rdM b n T g x0 x1 x2 x3 x4 x5 x6) (hp2 : bkM H c) (hp3 : g.f = 0) (hp4 : (0 ≤ (fZ H 0 19).toInt ∧ (fZ H 0 19).toInt ≤ 900)) : gCall 171 [.ref 0, .int a1] (mS H x0 x1 x2 x3 x4 x5 x6) (gRv (fun H' => ∃ B : mzH, ∃ y0 y1 y2 y3 y4 y5 y6 : Int32, H' = mS B y0 y1 y2 y3 y4 y5 y6 ∧ gI SM B ∧ JN B ∧ (0 ≤ y0.toInt ∧ y0.toInt ≤ 900) ∧ (0 ≤ y1.toInt ∧ y1.toInt ≤ 900) ∧ (0 ≤ y2.toInt ∧ y2.toInt ≤ 4) ∧ rdM b n T (pLn c T (pSg a1.toInt T g)) y0 y1 y2 y3 y4 y5 y6 ∧ tkM B b n T ∧ ((pLn c T (pSg a1.toInt T g)).f ≠ 0 ∨ bkM B (bLn c T (pSg a1.toInt T g))) ∧ frL H B ∧ (fZ B 0 19).toInt = (fZ H 0 19).toInt + 1 ∧ wM B = mLn c T (pSg a1.toInt T g) (wM H))) := by
  obtain ⟨-, r1, -, r3, -, -⟩ := id hp1
  have w0 := hp0.2.2
  have w3 := kr_l r1
  refine gG_call [(0, .ref 0), (1, .int a1)] ⟨rfl, rfl, trivial⟩ ?_
  show gG 3 zB_171 (mzBlk zB_171 0) [(0, .ref 0), (1, .int a1)] [] (mS H x0 x1 x2 x3 x4 x5 x6) 0 0 _
  refine g_aload_n rfl ?_
  refine g_gfk (mS_I hI (by first | with_reducible assumption | omega) (by first | with_reducible assumption | omega) (by first | with_reducible assumption | omega)) sm_0 rfl (mS_g13 hI) ?_
  refine g_if_ne (fun c2249 => ?_) (fun c2249 => ?_)
  · exfalso; omega
  · refine g_aload_n rfl ?_
    refine g_gfk (mS_I hI (by first | with_reducible assumption | omega) (by first | with_reducible assumption | omega) (by first | with_reducible assumption | omega)) sm_0 rfl (mS_g10 hI) ?_
    refine g_if_ne (fun c2250 => ?_) (fun c2250 => ?_)
    · refine g_iconst (by decide) (fun v2251 kv2251 => ?_)
      refine g_nop ?_
      refine g_istore_n (l' := [(0, .ref 0), (1, .int a1), (2, .int v2251)]) rfl rfl ?_
      refine g_iload_n rfl ?_
      refine g_bipush (by decide) (fun v2252 kv2252 => ?_)
      refine g_if2_ne (fun c2253 => ?_) (fun c2253 => ?_)
      · refine g_iload_n rfl ?_
        refine g_bipush (by decide) (fun v2254 kv2254 => ?_)
        refine g_if2_ne (fun c2255 => ?_) (fun c2255 => ?_)
        · refine g_iload_n rfl ?_
          refine g_bipush (by decide) (fun v2256 kv2256 => ?_)
          refine g_if2_ne (fun c2257 => ?_) (fun c2257 => ?_)
          · refine g_iload_n rfl ?_
            refine g_bipush (by decide) (fun v2258 kv2258 => ?_)
            refine g_if2_ne (fun c2259 => ?_) (fun c2259 => ?_)
            · refine g_aload_n rfl ?_
              refine g_iconst (by decide) (fun v2260 kv2260 => ?_)
              refine g_invvv (mS_I hI (by first | with_reducible assumption | omega) (by first | with_reducible assumption | omega) (by first | with_reducible assumption | omega)) sm_0 rfl rfl rfl rfl (f_161 v2260 (by first | with_reducible assumption | omega) H hI hJ x0 x1 x2 x3 x4 x5 x6 (by first | with_reducible assumption | omega) (by first | with_reducible assumption | omega) (by first | with_reducible assumption | omega) hp0 hp1) (fun H2261 r2262 => ?_)
              obtain ⟨y2263, y2264, rfl, zp2265⟩ := r2262
              rw [kv2260] at zp2265
              obtain ⟨-, rbzp2265, -, rdzp2265, -, -⟩ := id zp2265
              have nzp2265 := pF_ne (T := T) (g := g) (n := 1) (by first | with_reducible assumption | omega)
              have al2266 : pLn1 c T (pSg a1.toInt T g) = (pFail T 1 g) := by exact l1_w hp3 (by first | with_reducible assumption | omega)
              have zp2267 := zp2265
              rw [← al2266] at zp2267
              rw [← al2266] at nzp2265
              obtain ⟨-, rbzp2267, -, rdzp2267, -, -⟩ := id zp2267
              have kszp2267 := kr_s rbzp2267
              refine g_nop ?_
              refine g_aload_n rfl ?_
              refine g_gfk (mS_I hI (by first | with_reducible assumption | omega) (by first | with_reducible assumption | omega) (by first | with_reducible assumption | omega)) sm_0 rfl (mS_g13 hI) ?_
              refine g_if_ne (fun c2268 => ?_) (fun c2268 => ?_)
              · refine g_aload_n rfl ?_
                refine g_invvv (mS_I hI (by first | with_reducible assumption | omega) (by first | with_reducible assumption | omega) (by first | with_reducible assumption | omega)) sm_0 rfl rfl rfl rfl (f_162 H hI hJ x0 x1 x2 x3 x4 y2263 y2264 (by first | with_reducible assumption | omega) (by first | with_reducible assumption | omega) (by first | with_reducible assumption | omega) hp0 zp2267) (fun H2269 r2270 => ?_)
                obtain ⟨y2271, y2272, y2273, y2274, y2275, rfl, by2271, by2272, by2273, zp2276⟩ := r2270
                obtain ⟨-, rbzp2276, -, rdzp2276, -, -⟩ := id zp2276
                have nzp2276 := gn_f (T := T) (g := (pLn1 c T (pSg a1.toInt T g)))
                have al2277 : pLn c T (pSg a1.toInt T g) = (pGn T (pLn1 c T (pSg a1.toInt T g))) := by unfold pLn; exact tk_f (by first | with_reducible assumption | omega)
                have zp2278 := zp2276
                rw [← al2277] at zp2278
                rw [← al2277] at nzp2276
                obtain ⟨-, rbzp2278, -, rdzp2278, -, -⟩ := id zp2278
                refine g_aload_n rfl ?_
                refine g_dup rfl ?_
                refine g_gfi (mS_I hI (by first | with_reducible assumption | omega) (by first | with_reducible assumption | omega) (by first | with_reducible assumption | omega)) sm_0 rfl (fun v2279 ev2279 lv2279 uv2279 => ?_)
                have iv2279 : v2279.toInt = (fZ H 0 19).toInt := by rw [ev2279, ← mS_o (by decide)]
                have l19v2279 : (fZ H 0 19).toInt = (fZ H 0 19).toInt := rfl
                refine g_iconst (by decide) (fun v2280 kv2280 => ?_)
                refine g_iadd (by first | with_reducible assumption | omega) (fun v2281 ev2281 => ?_)
                refine g_pfi (mS_I hI (by first | with_reducible assumption | omega) (by first | with_reducible assumption | omega) (by first | with_reducible assumption | omega)) sm_0 rfl (gz_any _) (fun H2282 eH2282 hIH2282 => ?_)
                obtain ⟨B2283, eB2283⟩ : ∃ z, z = sF H 0 19 v2281 := ⟨_, rfl⟩
                obtain rfl : H2282 = (mS B2283 y2271 y2272 y2273 y2274 y2275 y2263 y2264) := by rw [eH2282, eB2283]; exact mS_cF (by decide)
                have hIB2283 : gI SM B2283 := by rw [eB2283]; exact gI_sF hI sm_0 rfl (gz_any _)
                have hJB2283 : JN B2283 := JN_sF eB2283 hJ
                have frB2283 : frL H B2283 := frL_mk (frM_r) eB2283
                have tkB2283 : tkM B2283 b n T := tkM_19 hp0 eB2283
                exact g_ret ⟨rfl, B2283, y2271, y2272, y2273, y2274, y2275, y2263, y2264, rfl, hIB2283, hJB2283, (by first | with_reducible assumption | omega), (by first | with_reducible assumption | omega), (by first | with_reducible assumption | omega), zp2278, tkB2283, (Or.inl (by have o := pT_ok (T := T) (lo := 20) (hi := 20) (g := pLn1 c T (pSg a1.toInt T g)); unfold pLn; omega)), frB2283, (by rw [eB2283, fZ_sF_eq hI sm_0 rfl]; omega), ((wM_F eB2283).trans (mln_w hp3 (by first | with_reducible assumption | omega)).symm)⟩
              · refine g_aload_n rfl ?_
                refine g_gfk (mS_I hI (by first | with_reducible assumption | omega) (by first | with_reducible assumption | omega) (by first | with_reducible assumption | omega)) sm_0 rfl (mS_g10 hI) ?_
                refine g_iconst (by decide) (fun v2284 kv2284 => ?_)
                refine g_if2_eq (fun c2285 => ?_) (fun c2285 => ?_)
                · refine g_aload_n rfl ?_
                  refine g_invvv (mS_I hI (by first | with_reducible assumption | omega) (by first | with_reducible assumption | omega) (by first | with_reducible assumption | omega)) sm_0 rfl rfl rfl rfl (f_162 H hI hJ x0 x1 x2 x3 x4 y2263 y2264 (by first | with_reducible assumption | omega) (by first | with_reducible assumption | omega) (by first | with_reducible assumption | omega) hp0 zp2267) (fun H2286 r2287 => ?_)
                  obtain ⟨y2288, y2289, y2290, y2291, y2292, rfl, by2288, by2289, by2290, zp2293⟩ := r2287
                  obtain ⟨-, rbzp2293, -, rdzp2293, -, -⟩ := id zp2293
                  have nzp2293 := gn_f (T := T) (g := (pLn1 c T (pSg a1.toInt T g)))
                  have al2294 : pLn c T (pSg a1.toInt T g) = (pGn T (pLn1 c T (pSg a1.toInt T g))) := by unfold pLn; exact tk_y (by first | with_reducible assumption | omega)
                  have zp2295 := zp2293
                  rw [← al2294] at zp2295
                  rw [← al2294] at nzp2293
                  obtain ⟨-, rbzp2295, -, rdzp2295, -, -⟩ := id zp2295
                  refine g_aload_n rfl ?_
                  refine g_dup rfl ?_
                  refine g_gfi (mS_I hI (by first | with_reducible assumption | omega) (by first | with_reducible assumption | omega) (by first | with_reducible assumption | omega)) sm_0 rfl (fun v2296 ev2296 lv2296 uv2296 => ?_)
                  have iv2296 : v2296.toInt = (fZ H 0 19).toInt := by rw [ev2296, ← mS_o (by decide)]
                  have l19v2296 : (fZ H 0 19).toInt = (fZ H 0 19).toInt := rfl
                  refine g_iconst (by decide) (fun v2297 kv2297 => ?_)
                  refine g_iadd (by first | with_reducible assumption | omega) (fun v2298 ev2298 => ?_)
                  refine g_pfi (mS_I hI (by first | with_reducible assumption | omega) (by first | with_reducible assumption | omega) (by first | with_reducible assumption | omega)) sm_0 rfl (gz_any _) (fun H2299 eH2299 hIH2299 => ?_)
                  obtain ⟨B2300, eB2300⟩ : ∃ z, z = sF H 0 19 v2298 := ⟨_, rfl⟩
                  obtain rfl : H2299 = (mS B2300 y2288 y2289 y2290 y2291 y2292 y2263 y2264) := by rw [eH2299, eB2300]; exact mS_cF (by decide)
                  have hIB2300 : gI SM B2300 := by rw [eB2300]; exact gI_sF hI sm_0 rfl (gz_any _)
                  have hJB2300 : JN B2300 := JN_sF eB2300 hJ
                  have frB2300 : frL H B2300 := frL_mk (frM_r) eB2300
                  have tkB2300 : tkM B2300 b n T := tkM_19 hp0 eB2300
                  exact g_ret ⟨rfl, B2300, y2288, y2289, y2290, y2291, y2292, y2263, y2264, rfl, hIB2300, hJB2300, (by first | with_reducible assumption | omega), (by first | with_reducible assumption | omega), (by first | with_reducible assumption | omega), zp2295, tkB2300, (Or.inl (by have o := pT_ok (T := T) (lo := 20) (hi := 20) (g := pLn1 c T (pSg a1.toInt T g)); unfold pLn; omega)), frB2300, (by rw [eB2300, fZ_sF_eq hI sm_0 rfl]; omega), ((wM_F eB2300).trans (mln_w hp3 (by first | with_reducible assumption | omega)).symm)⟩
                · refine g_aload_n rfl ?_
                  refine g_iconst (by decide) (fun v2301 kv2301 => ?_)
                  refine g_invvv (mS_I hI (by first | with_reducible assumption | omega) (by first | with_reducible assumption | omega) (by first | with_reducible assumption | omega)) sm_0 rfl rfl rfl rfl (f_161 v2301 (by first | with_reducible assumption | omega) H hI hJ x0 x1 x2 x3 x4 y2263 y2264 (by first | with_reducible assumption | omega) (by first | with_reducible assumption | omega) (by first | with_reducible assumption | omega) hp0 zp2267) (fun H2302 r2303 => ?_)
                  obtain ⟨y2304, y2305, rfl, zp2306⟩ := r2303
                  rw [kv2301] at zp2306
                  obtain ⟨-, rbzp2306, -, rdzp2306, -, -⟩ := id zp2306
                  have nzp2306 := pF_ne (T := T) (g := (pLn1 c T (pSg a1.toInt T g))) (n := 1) (by first | with_reducible assumption | omega)
                  refine g_nop ?_
                  refine g_aload_n rfl ?_
                  refine g_invvv (mS_I hI (by first | with_reducible assumption | omega) (by first | with_reducible assumption | omega) (by first | with_reducible assumption | omega)) sm_0 rfl rfl rfl rfl (f_162 H hI hJ x0 x1 x2 x3 x4 y2304 y2305 (by first | with_reducible assumption | omega) (by first | with_reducible assumption | omega) (by first | with_reducible assumption | omega) hp0 zp2306) (fun H2307 r2308 => ?_)
                  obtain ⟨y2309, y2310, y2311, y2312, y2313, rfl, by2309, by2310, by2311, zp2314⟩ := r2308
                  obtain ⟨-, rbzp2314, -, rdzp2314, -, -⟩ := id zp2314
                  have nzp2314 := gn_f (T := T) (g := (pFail T 1 (pLn1 c T (pSg a1.toInt T g))))
                  have al2315 : pLn c T (pSg a1.toInt T g) = (pGn T (pFail T 1 (pLn1 c T (pSg a1.toInt T g)))) := by unfold pLn; exact tk_n (by first | with_reducible assumption | omega)
                  have zp2316 := zp2314
                  rw [← al2315] at zp2316
                  rw [← al2315] at nzp2314
                  obtain ⟨-, rbzp2316, -, rdzp2316, -, -⟩ := id zp2316
                  refine g_aload_n rfl ?_
                  refine g_dup rfl ?_
                  refine g_gfi (mS_I hI (by first | with_reducible assumption | omega) (by first | with_reducible assumption | omega) (by first | with_reducible assumption | omega)) sm_0 rfl (fun v2317 ev2317 lv2317 uv2317 => ?_)
                  have iv2317 : v2317.toInt = (fZ H 0 19).toInt := by rw [ev2317, ← mS_o (by decide)]
                  have l19v2317 : (fZ H 0 19).toInt = (fZ H 0 19).toInt := rfl
                  refine g_iconst (by decide) (fun v2318 kv2318 => ?_)
                  refine g_iadd (by first | with_reducible assumption | omega) (fun v2319 ev2319 => ?_)
                  refine g_pfi (mS_I hI (by first | with_reducible assumption | omega) (by first | with_reducible assumption | omega) (by first | with_reducible assumption | omega)) sm_0 rfl (gz_any _) (fun H2320 eH2320 hIH2320 => ?_)
                  obtain ⟨B2321, eB2321⟩ : ∃ z, z = sF H 0 19 v2319 := ⟨_, rfl⟩
                  obtain rfl : H2320 = (mS B2321 y2309 y2310 y2311 y2312 y2313 y2304 y2305) := by rw [eH2320, eB2321]; exact mS_cF (by decide)
                  have hIB2321 : gI SM B2321 := by rw [eB2321]; exact gI_sF hI sm_0 rfl (gz_any _)
                  have hJB2321 : JN B2321 := JN_sF eB2321 hJ
                  have frB2321 : frL H B2321 := frL_mk (frM_r) eB2321
                  have tkB2321 : tkM B2321 b n T := tkM_19 hp0 eB2321
                  exact g_ret ⟨rfl, B2321, y2309, y2310, y2311, y2312, y2313, y2304, y2305, rfl, hIB2321, hJB2321, (by first | with_reducible assumption | omega), (by first | with_reducible assumption | omega), (by first | with_reducible assumption | omega), zp2316, tkB2321, (Or.inl (by have o := pT_ok (T := T) (lo := 20) (hi := 20) (g := pLn1 c T (pSg a1.toInt T g)); unfold pLn; omega)), frB2321, (by rw [eB2321, fZ_sF_eq hI sm_0 rfl]; omega), ((wM_F eB2321).trans (mln_w hp3 (by first | with_reducible assumption | omega)).symm)⟩
            · exfalso; omega
          · exfalso; omega
        · exfalso; omega
      · exfalso; omega
    · refine g_aload_n rfl ?_
      refine g_gfk (mS_I hI (by first | with_reducible assumption | omega) (by first | with_reducible assumption | omega) (by first | with_reducible assumption | omega)) sm_0 rfl (mS_g11 hI) ?_
      refine g_goto ?_
      refine g_istore_n (l' := [(0, .ref 0), (1, .int a1), (2, .int x3)]) rfl rfl ?_
      refine g_iload_n rfl ?_
      refine g_bipush (by decide) (fun v2322 kv2322 => ?_)
      refine g_if2_ne (fun c2323 => ?_) (fun c2323 => ?_)
      · refine g_iload_n rfl ?_
        refine g_bipush (by decide) (fun v2324 kv2324 => ?_)
        refine g_if2_ne (fun c2325 => ?_) (fun c2325 => ?_)
        · refine g_iload_n rfl ?_
          refine g_bipush (by decide) (fun v2326 kv2326 => ?_)
          refine g_if2_ne (fun c2327 => ?_) (fun c2327 => ?_)
          · refine g_iload_n rfl ?_
            refine g_bipush (by decide) (fun v2328 kv2328 => ?_)
            refine g_if2_ne (fun c2329 => ?_) (fun c2329 => ?_)
            · refine g_aload_n rfl ?_
              refine g_iconst (by decide) (fun v2330 kv2330 => ?_)
              refine g_invvv (mS_I hI (by first | with_reducible assumption | omega) (by first | with_reducible assumption | omega) (by first | with_reducible assumption | omega)) sm_0 rfl rfl rfl rfl (f_161 v2330 (by first | with_reducible assumption | omega) H hI hJ x0 x1 x2 x3 x4 x5 x6 (by first | with_reducible assumption | omega) (by first | with_reducible assumption | omega) (by first | with_reducible assumption | omega) hp0 hp1) (fun H2331 r2332 => ?_)
              obtain ⟨y2333, y2334, rfl, zp2335⟩ := r2332
              rw [kv2330] at zp2335
              obtain ⟨-, rbzp2335, -, rdzp2335, -, -⟩ := id zp2335
              have nzp2335 := pF_ne (T := T) (g := g) (n := 1) (by first | with_reducible assumption | omega)
              have al2336 : pLn1 c T (pSg a1.toInt T g) = (pFail T 1 g) := by exact l1_w hp3 (by first | with_reducible assumption | omega)
              have zp2337 := zp2335
              rw [← al2336] at zp2337
              rw [← al2336] at nzp2335
              obtain ⟨-, rbzp2337, -, rdzp2337, -, -⟩ := id zp2337
              have kszp2337 := kr_s rbzp2337
              refine g_nop ?_
              refine g_aload_n rfl ?_
              refine g_gfk (mS_I hI (by first | with_reducible assumption | omega) (by first | with_reducible assumption | omega) (by first | with_reducible assumption | omega)) sm_0 rfl (mS_g13 hI) ?_
              refine g_if_ne (fun c2338 => ?_) (fun c2338 => ?_)
              · refine g_aload_n rfl ?_
                refine g_invvv (mS_I hI (by first | with_reducible assumption | omega) (by first | with_reducible assumption | omega) (by first | with_reducible assumption | omega)) sm_0 rfl rfl rfl rfl (f_162 H hI hJ x0 x1 x2 x3 x4 y2333 y2334 (by first | with_reducible assumption | omega) (by first | with_reducible assumption | omega) (by first | with_reducible assumption | omega) hp0 zp2337) (fun H2339 r2340 => ?_)
                obtain ⟨y2341, y2342, y2343, y2344, y2345, rfl, by2341, by2342, by2343, zp2346⟩ := r2340
                obtain ⟨-, rbzp2346, -, rdzp2346, -, -⟩ := id zp2346
                have nzp2346 := gn_f (T := T) (g := (pLn1 c T (pSg a1.toInt T g)))
                have al2347 : pLn c T (pSg a1.toInt T g) = (pGn T (pLn1 c T (pSg a1.toInt T g))) := by unfold pLn; exact tk_f (by first | with_reducible assumption | omega)
                have zp2348 := zp2346
                rw [← al2347] at zp2348
                rw [← al2347] at nzp2346
                obtain ⟨-, rbzp2348, -, rdzp2348, -, -⟩ := id zp2348
                refine g_aload_n rfl ?_
                refine g_dup rfl ?_
                refine g_gfi (mS_I hI (by first | with_reducible assumption | omega) (by first | with_reducible assumption | omega) (by first | with_reducible assumption | omega)) sm_0 rfl (fun v2349 ev2349 lv2349 uv2349 => ?_)
                have iv2349 : v2349.toInt = (fZ H 0 19).toInt := by rw [ev2349, ← mS_o (by decide)]
                have l19v2349 : (fZ H 0 19).toInt = (fZ H 0 19).toInt := rfl
                refine g_iconst (by decide) (fun v2350 kv2350 => ?_)
                refine g_iadd (by first | with_reducible assumption | omega) (fun v2351 ev2351 => ?_)
                refine g_pfi (mS_I hI (by first | with_reducible assumption | omega) (by first | with_reducible assumption | omega) (by first | with_reducible assumption | omega)) sm_0 rfl (gz_any _) (fun H2352 eH2352 hIH2352 => ?_)
                obtain ⟨B2353, eB2353⟩ : ∃ z, z = sF H 0 19 v2351 := ⟨_, rfl⟩
                obtain rfl : H2352 = (mS B2353 y2341 y2342 y2343 y2344 y2345 y2333 y2334) := by rw [eH2352, eB2353]; exact mS_cF (by decide)
                have hIB2353 : gI SM B2353 := by rw [eB2353]; exact gI_sF hI sm_0 rfl (gz_any _)
                have hJB2353 : JN B2353 := JN_sF eB2353 hJ
                have frB2353 : frL H B2353 := frL_mk (frM_r) eB2353
                have tkB2353 : tkM B2353 b n T := tkM_19 hp0 eB2353
                exact g_ret ⟨rfl, B2353, y2341, y2342, y2343, y2344, y2345, y2333, y2334, rfl, hIB2353, hJB2353, (by first | with_reducible assumption | omega), (by first | with_reducible assumption | omega), (by first | with_reducible assumption | omega), zp2348, tkB2353, (Or.inl (by have o := pT_ok (T := T) (lo := 20) (hi := 20) (g := pLn1 c T (pSg a1.toInt T g)); unfold pLn; omega)), frB2353, (by rw [eB2353, fZ_sF_eq hI sm_0 rfl]; omega), ((wM_F eB2353).trans (mln_w hp3 (by first | with_reducible assumption | omega)).symm)⟩
              · refine g_aload_n rfl ?_
                refine g_gfk (mS_I hI (by first | with_reducible assumption | omega) (by first | with_reducible assumption | omega) (by first | with_reducible assumption | omega)) sm_0 rfl (mS_g10 hI) ?_
                refine g_iconst (by decide) (fun v2354 kv2354 => ?_)
                refine g_if2_eq (fun c2355 => ?_) (fun c2355 => ?_)
                · exfalso; omega
                · refine g_aload_n rfl ?_
                  refine g_iconst (by decide) (fun v2356 kv2356 => ?_)
                  refine g_invvv (mS_I hI (by first | with_reducible assumption | omega) (by first | with_reducible assumption | omega) (by first | with_reducible assumption | omega)) sm_0 rfl rfl rfl rfl (f_161 v2356 (by first | with_reducible assumption | omega) H hI hJ x0 x1 x2 x3 x4 y2333 y2334 (by first | with_reducible assumption | omega) (by first | with_reducible assumption | omega) (by first | with_reducible assumption | omega) hp0 zp2337) (fun H2357 r2358 => ?_)
                  obtain ⟨y2359, y2360, rfl, zp2361⟩ := r2358
                  rw [kv2356] at zp2361
                  obtain ⟨-, rbzp2361, -, rdzp2361, -, -⟩ := id zp2361
                  have nzp2361 := pF_ne (T := T) (g := (pLn1 c T (pSg a1.toInt T g))) (n := 1) (by first | with_reducible assumption | omega)
                  refine g_nop ?_
                  refine g_aload_n rfl ?_
                  refine g_invvv (mS_I hI (by first | with_reducible assumption | omega) (by first | with_reducible assumption | omega) (by first | with_reducible assumption | omega)) sm_0 rfl rfl rfl rfl (f_162 H hI hJ x0 x1 x2 x3 x4 y2359 y2360 (by first | with_reducible assumption | omega) (by first | with_reducible assumption | omega) (by first | with_reducible assumption | omega) hp0 zp2361) (fun H2362 r2363 => ?_)
                  obtain ⟨y2364, y2365, y2366, y2367, y2368, rfl, by2364, by2365, by2366, zp2369⟩ := r2363
                  obtain ⟨-, rbzp2369, -, rdzp2369, -, -⟩ := id zp2369
                  have nzp2369 := gn_f (T := T) (g := (pFail T 1 (pLn1 c T (pSg a1.toInt T g))))
                  have al2370 : pLn c T (pSg a1.toInt T g) = (pGn T (pFail T 1 (pLn1 c T (pSg a1.toInt T g)))) := by unfold pLn; exact tk_n (by first | with_reducible assumption | omega)
                  have zp2371 := zp2369
                  rw [← al2370] at zp2371
                  rw [← al2370] at nzp2369
                  obtain ⟨-, rbzp2371, -, rdzp2371, -, -⟩ := id zp2371
                  refine g_aload_n rfl ?_
                  refine g_dup rfl ?_
                  refine g_gfi (mS_I hI (by first | with_reducible assumption | omega) (by first | with_reducible assumption | omega) (by first | with_reducible assumption | omega)) sm_0 rfl (fun v2372 ev2372 lv2372 uv2372 => ?_)
                  have iv2372 : v2372.toInt = (fZ H 0 19).toInt := by rw [ev2372, ← mS_o (by decide)]
                  have l19v2372 : (fZ H 0 19).toInt = (fZ H 0 19).toInt := rfl
                  refine g_iconst (by decide) (fun v2373 kv2373 => ?_)
                  refine g_iadd (by first | with_reducible assumption | omega) (fun v2374 ev2374 => ?_)
                  refine g_pfi (mS_I hI (by first | with_reducible assumption | omega) (by first | with_reducible assumption | omega) (by first | with_reducible assumption | omega)) sm_0 rfl (gz_any _) (fun H2375 eH2375 hIH2375 => ?_)
                  obtain ⟨B2376, eB2376⟩ : ∃ z, z = sF H 0 19 v2374 := ⟨_, rfl⟩
                  obtain rfl : H2375 = (mS B2376 y2364 y2365 y2366 y2367 y2368 y2359 y2360) := by rw [eH2375, eB2376]; exact mS_cF (by decide)
                  have hIB2376 : gI SM B2376 := by rw [eB2376]; exact gI_sF hI sm_0 rfl (gz_any _)
                  have hJB2376 : JN B2376 := JN_sF eB2376 hJ
                  have frB2376 : frL H B2376 := frL_mk (frM_r) eB2376
                  have tkB2376 : tkM B2376 b n T := tkM_19 hp0 eB2376
                  exact g_ret ⟨rfl, B2376, y2364, y2365, y2366, y2367, y2368, y2359, y2360, rfl, hIB2376, hJB2376, (by first | with_reducible assumption | omega), (by first | with_reducible assumption | omega), (by first | with_reducible assumption | omega), zp2371, tkB2376, (Or.inl (by have o := pT_ok (T := T) (lo := 20) (hi := 20) (g := pLn1 c T (pSg a1.toInt T g)); unfold pLn; omega)), frB2376, (by rw [eB2376, fZ_sF_eq hI sm_0 rfl]; omega), ((wM_F eB2376).trans (mln_w hp3 (by first | with_reducible assumption | omega)).symm)⟩
            · refine g_iload_n rfl ?_
              refine g_if_ne (fun c2377 => ?_) (fun c2377 => ?_)
              · refine g_aload_n rfl ?_
                refine g_iconst (by decide) (fun v2378 kv2378 => ?_)
                refine g_invvv (mS_I hI (by first | with_reducible assumption | omega) (by first | with_reducible assumption | omega) (by first | with_reducible assumption | omega)) sm_0 rfl rfl rfl rfl (f_161 v2378 (by first | with_reducible assumption | omega) H hI hJ x0 x1 x2 x3 x4 x5 x6 (by first | with_reducible assumption | omega) (by first | with_reducible assumption | omega) (by first | with_reducible assumption | omega) hp0 hp1) (fun H2379 r2380 => ?_)
                obtain ⟨y2381, y2382, rfl, zp2383⟩ := r2380
                rw [kv2378] at zp2383
                obtain ⟨-, rbzp2383, -, rdzp2383, -, -⟩ := id zp2383
                have nzp2383 := pF_ne (T := T) (g := g) (n := 1) (by first | with_reducible assumption | omega)
                have al2384 : pLn1 c T (pSg a1.toInt T g) = (pFail T 1 g) := by exact l1_w hp3 (by first | with_reducible assumption | omega)
                have zp2385 := zp2383
                rw [← al2384] at zp2385
                rw [← al2384] at nzp2383
                obtain ⟨-, rbzp2385, -, rdzp2385, -, -⟩ := id zp2385
                have kszp2385 := kr_s rbzp2385
                refine g_nop ?_
                refine g_aload_n rfl ?_
                refine g_gfk (mS_I hI (by first | with_reducible assumption | omega) (by first | with_reducible assumption | omega) (by first | with_reducible assumption | omega)) sm_0 rfl (mS_g13 hI) ?_
                refine g_if_ne (fun c2386 => ?_) (fun c2386 => ?_)
                · refine g_aload_n rfl ?_
                  refine g_invvv (mS_I hI (by first | with_reducible assumption | omega) (by first | with_reducible assumption | omega) (by first | with_reducible assumption | omega)) sm_0 rfl rfl rfl rfl (f_162 H hI hJ x0 x1 x2 x3 x4 y2381 y2382 (by first | with_reducible assumption | omega) (by first | with_reducible assumption | omega) (by first | with_reducible assumption | omega) hp0 zp2385) (fun H2387 r2388 => ?_)
                  obtain ⟨y2389, y2390, y2391, y2392, y2393, rfl, by2389, by2390, by2391, zp2394⟩ := r2388
                  obtain ⟨-, rbzp2394, -, rdzp2394, -, -⟩ := id zp2394
                  have nzp2394 := gn_f (T := T) (g := (pLn1 c T (pSg a1.toInt T g)))
                  have al2395 : pLn c T (pSg a1.toInt T g) = (pGn T (pLn1 c T (pSg a1.toInt T g))) := by unfold pLn; exact tk_f (by first | with_reducible assumption | omega)
                  have zp2396 := zp2394
                  rw [← al2395] at zp2396
                  rw [← al2395] at nzp2394
                  obtain ⟨-, rbzp2396, -, rdzp2396, -, -⟩ := id zp2396
                  refine g_aload_n rfl ?_
                  refine g_dup rfl ?_
                  refine g_gfi (mS_I hI (by first | with_reducible assumption | omega) (by first | with_reducible assumption | omega) (by first | with_reducible assumption | omega)) sm_0 rfl (fun v2397 ev2397 lv2397 uv2397 => ?_)
                  have iv2397 : v2397.toInt = (fZ H 0 19).toInt := by rw [ev2397, ← mS_o (by decide)]
                  have l19v2397 : (fZ H 0 19).toInt = (fZ H 0 19).toInt := rfl
                  refine g_iconst (by decide) (fun v2398 kv2398 => ?_)
                  refine g_iadd (by first | with_reducible assumption | omega) (fun v2399 ev2399 => ?_)
                  refine g_pfi (mS_I hI (by first | with_reducible assumption | omega) (by first | with_reducible assumption | omega) (by first | with_reducible assumption | omega)) sm_0 rfl (gz_any _) (fun H2400 eH2400 hIH2400 => ?_)
                  obtain ⟨B2401, eB2401⟩ : ∃ z, z = sF H 0 19 v2399 := ⟨_, rfl⟩
                  obtain rfl : H2400 = (mS B2401 y2389 y2390 y2391 y2392 y2393 y2381 y2382) := by rw [eH2400, eB2401]; exact mS_cF (by decide)
                  have hIB2401 : gI SM B2401 := by rw [eB2401]; exact gI_sF hI sm_0 rfl (gz_any _)
                  have hJB2401 : JN B2401 := JN_sF eB2401 hJ
                  have frB2401 : frL H B2401 := frL_mk (frM_r) eB2401
                  have tkB2401 : tkM B2401 b n T := tkM_19 hp0 eB2401
                  exact g_ret ⟨rfl, B2401, y2389, y2390, y2391, y2392, y2393, y2381, y2382, rfl, hIB2401, hJB2401, (by first | with_reducible assumption | omega), (by first | with_reducible assumption | omega), (by first | with_reducible assumption | omega), zp2396, tkB2401, (Or.inl (by have o := pT_ok (T := T) (lo := 20) (hi := 20) (g := pLn1 c T (pSg a1.toInt T g)); unfold pLn; omega)), frB2401, (by rw [eB2401, fZ_sF_eq hI sm_0 rfl]; omega), ((wM_F eB2401).trans (mln_w hp3 (by first | with_reducible assumption | omega)).symm)⟩
                · refine g_aload_n rfl ?_
                  refine g_gfk (mS_I hI (by first | with_reducible assumption | omega) (by first | with_reducible assumption | omega) (by first | with_reducible assumption | omega)) sm_0 rfl (mS_g10 hI) ?_
                  refine g_iconst (by decide) (fun v2402 kv2402 => ?_)
                  refine g_if2_eq (fun c2403 => ?_) (fun c2403 => ?_)
                  · exfalso; omega
                  · refine g_aload_n rfl ?_
                    refine g_iconst (by decide) (fun v2404 kv2404 => ?_)
                    refine g_invvv (mS_I hI (by first | with_reducible assumption | omega) (by first | with_reducible assumption | omega) (by first | with_reducible assumption | omega)) sm_0 rfl rfl rfl rfl (f_161 v2404 (by first | with_reducible assumption | omega) H hI hJ x0 x1 x2 x3 x4 y2381 y2382 (by first | with_reducible assumption | omega) (by first | with_reducible assumption | omega) (by first | with_reducible assumption | omega) hp0 zp2385) (fun H2405 r2406 => ?_)
                    obtain ⟨y2407, y2408, rfl, zp2409⟩ := r2406
                    rw [kv2404] at zp2409
                    obtain ⟨-, rbzp2409, -, rdzp2409, -, -⟩ := id zp2409
                    have nzp2409 := pF_ne (T := T) (g := (pLn1 c T (pSg a1.toInt T g))) (n := 1) (by first | with_reducible assumption | omega)
                    refine g_nop ?_
                    refine g_aload_n rfl ?_
                    refine g_invvv (mS_I hI (by first | with_reducible assumption | omega) (by first | with_reducible assumption | omega) (by first | with_reducible assumption | omega)) sm_0 rfl rfl rfl rfl (f_162 H hI hJ x0 x1 x2 x3 x4 y2407 y2408 (by first | with_reducible assumption | omega) (by first | with_reducible assumption | omega) (by first | with_reducible assumption | omega) hp0 zp2409) (fun H2410 r2411 => ?_)
                    obtain ⟨y2412, y2413, y2414, y2415, y2416, rfl, by2412, by2413, by2414, zp2417⟩ := r2411
                    obtain ⟨-, rbzp2417, -, rdzp2417, -, -⟩ := id zp2417
                    have nzp2417 := gn_f (T := T) (g := (pFail T 1 (pLn1 c T (pSg a1.toInt T g))))
                    have al2418 : pLn c T (pSg a1.toInt T g) = (pGn T (pFail T 1 (pLn1 c T (pSg a1.toInt T g)))) := by unfold pLn; exact tk_n (by first | with_reducible assumption | omega)
                    have zp2419 := zp2417
                    rw [← al2418] at zp2419
                    rw [← al2418] at nzp2417
                    obtain ⟨-, rbzp2419, -, rdzp2419, -, -⟩ := id zp2419
                    refine g_aload_n rfl ?_
                    refine g_dup rfl ?_
                    refine g_gfi (mS_I hI (by first | with_reducible assumption | omega) (by first | with_reducible assumption | omega) (by first | with_reducible assumption | omega)) sm_0 rfl (fun v2420 ev2420 lv2420 uv2420 => ?_)
                    have iv2420 : v2420.toInt = (fZ H 0 19).toInt := by rw [ev2420, ← mS_o (by decide)]
                    have l19v2420 : (fZ H 0 19).toInt = (fZ H 0 19).toInt := rfl
                    refine g_iconst (by decide) (fun v2421 kv2421 => ?_)
                    refine g_iadd (by first | with_reducible assumption | omega) (fun v2422 ev2422 => ?_)
                    refine g_pfi (mS_I hI (by first | with_reducible assumption | omega) (by first | with_reducible assumption | omega) (by first | with_reducible assumption | omega)) sm_0 rfl (gz_any _) (fun H2423 eH2423 hIH2423 => ?_)
                    obtain ⟨B2424, eB2424⟩ : ∃ z, z = sF H 0 19 v2422 := ⟨_, rfl⟩
                    obtain rfl : H2423 = (mS B2424 y2412 y2413 y2414 y2415 y2416 y2407 y2408) := by rw [eH2423, eB2424]; exact mS_cF (by decide)
                    have hIB2424 : gI SM B2424 := by rw [eB2424]; exact gI_sF hI sm_0 rfl (gz_any _)
                    have hJB2424 : JN B2424 := JN_sF eB2424 hJ
                    have frB2424 : frL H B2424 := frL_mk (frM_r) eB2424
                    have tkB2424 : tkM B2424 b n T := tkM_19 hp0 eB2424
                    exact g_ret ⟨rfl, B2424, y2412, y2413, y2414, y2415, y2416, y2407, y2408, rfl, hIB2424, hJB2424, (by first | with_reducible assumption | omega), (by first | with_reducible assumption | omega), (by first | with_reducible assumption | omega), zp2419, tkB2424, (Or.inl (by have o := pT_ok (T := T) (lo := 20) (hi := 20) (g := pLn1 c T (pSg a1.toInt T g)); unfold pLn; omega)), frB2424, (by rw [eB2424, fZ_sF_eq hI sm_0 rfl]; omega), ((wM_F eB2424).trans (mln_w hp3 (by first | with_reducible assumption | omega)).symm)⟩
              · refine g_aload_n rfl ?_
                refine g_invvv (mS_I hI (by first | with_reducible assumption | omega) (by first | with_reducible assumption | omega) (by first | with_reducible assumption | omega)) sm_0 rfl rfl rfl rfl (h_168 H hI hJ x0 x1 x2 x3 x4 x5 x6 (by first | with_reducible assumption | omega) (by first | with_reducible assumption | omega) (by first | with_reducible assumption | omega) hp0 hp1 hp2 (by first | with_reducible assumption | omega)) (fun H2425 r2426 => ?_)
                obtain ⟨B2439, y2427, y2428, y2429, y2430, y2431, y2432, y2433, rfl, hIB2439, hJB2439, by2427, by2428, by2429, zp2434, zp2435, zp2436, zp2437, zp2438⟩ := r2426
                obtain ⟨-, rbzp2434, -, rdzp2434, -, -⟩ := id zp2434
                have al2440 : pLn1 c T (pSg a1.toInt T g) = (pRdF c T g) := by rw [sg_id (by first | with_reducible assumption | omega), l1_2 (by first | with_reducible assumption | omega)]
                have zp2441 := zp2434
                rw [← al2440] at zp2441
                obtain ⟨-, rbzp2441, -, rdzp2441, -, -⟩ := id zp2441
                have kszp2441 := kr_s rbzp2441
                refine g_goto ?_
                refine g_aload_n rfl ?_
                refine g_gfk (mS_I hIB2439 (by first | with_reducible assumption | omega) (by first | with_reducible assumption | omega) (by first | with_reducible assumption | omega)) sm_0 rfl (mS_g13 hIB2439) ?_
                refine g_if_ne (fun c2442 => ?_) (fun c2442 => ?_)
                · refine g_aload_n rfl ?_
                  refine g_invvv (mS_I hIB2439 (by first | with_reducible assumption | omega) (by first | with_reducible assumption | omega) (by first | with_reducible assumption | omega)) sm_0 rfl rfl rfl rfl (f_162 B2439 hIB2439 hJB2439 y2427 y2428 y2429 y2430 y2431 y2432 y2433 (by first | with_reducible assumption | omega) (by first | with_reducible assumption | omega) (by first | with_reducible assumption | omega) zp2435 zp2441) (fun H2443 r2444 => ?_)
                  obtain ⟨y2445, y2446, y2447, y2448, y2449, rfl, by2445, by2446, by2447, zp2450⟩ := r2444
                  obtain ⟨-, rbzp2450, -, rdzp2450, -, -⟩ := id zp2450
                  have nzp2450 := gn_f (T := T) (g := (pLn1 c T (pSg a1.toInt T g)))
                  have al2451 : pLn c T (pSg a1.toInt T g) = (pGn T (pLn1 c T (pSg a1.toInt T g))) := by unfold pLn; exact tk_f (by first | with_reducible assumption | omega)
                  have zp2452 := zp2450
                  rw [← al2451] at zp2452
                  rw [← al2451] at nzp2450
                  obtain ⟨-, rbzp2452, -, rdzp2452, -, -⟩ := id zp2452
                  refine g_aload_n rfl ?_
                  refine g_dup rfl ?_
                  refine g_gfi (mS_I hIB2439 (by first | with_reducible assumption | omega) (by first | with_reducible assumption | omega) (by first | with_reducible assumption | omega)) sm_0 rfl (fun v2453 ev2453 lv2453 uv2453 => ?_)
                  have iv2453 : v2453.toInt = (fZ B2439 0 19).toInt := by rw [ev2453, ← mS_o (by decide)]
                  have l19v2453 : (fZ B2439 0 19).toInt = (fZ H 0 19).toInt := by rw [zp2437.2 19 (by decide)]
                  refine g_iconst (by decide) (fun v2454 kv2454 => ?_)
                  refine g_iadd (by first | with_reducible assumption | omega) (fun v2455 ev2455 => ?_)
                  refine g_pfi (mS_I hIB2439 (by first | with_reducible assumption | omega) (by first | with_reducible assumption | omega) (by first | with_reducible assumption | omega)) sm_0 rfl (gz_any _) (fun H2456 eH2456 hIH2456 => ?_)
                  obtain ⟨B2457, eB2457⟩ : ∃ z, z = sF B2439 0 19 v2455 := ⟨_, rfl⟩
                  obtain rfl : H2456 = (mS B2457 y2445 y2446 y2447 y2448 y2449 y2432 y2433) := by rw [eH2456, eB2457]; exact mS_cF (by decide)
                  have hIB2457 : gI SM B2457 := by rw [eB2457]; exact gI_sF hIB2439 sm_0 rfl (gz_any _)
                  have hJB2457 : JN B2457 := JN_sF eB2457 hJB2439
                  have frB2457 : frL H B2457 := frL_mk zp2437 eB2457
                  have tkB2457 : tkM B2457 b n T := tkM_19 zp2435 eB2457
                  exact g_ret ⟨rfl, B2457, y2445, y2446, y2447, y2448, y2449, y2432, y2433, rfl, hIB2457, hJB2457, (by first | with_reducible assumption | omega), (by first | with_reducible assumption | omega), (by first | with_reducible assumption | omega), zp2452, tkB2457, (bkl zp2436 eB2457 (by rw [sg_id (by first | with_reducible assumption | omega), l1_2 (by first | with_reducible assumption | omega)]) (by rw [sg_id (by first | with_reducible assumption | omega), b1_2 (by first | with_reducible assumption | omega)])), frB2457, (by rw [eB2457, fZ_sF_eq hIB2439 sm_0 rfl]; omega), ((wM_F eB2457).trans (by unfold mLn; rw [sg_id (by first | with_reducible assumption | omega), if_neg (by first | with_reducible assumption | omega)]; exact zp2438))⟩
                · refine g_aload_n rfl ?_
                  refine g_gfk (mS_I hIB2439 (by first | with_reducible assumption | omega) (by first | with_reducible assumption | omega) (by first | with_reducible assumption | omega)) sm_0 rfl (mS_g10 hIB2439) ?_
                  refine g_iconst (by decide) (fun v2458 kv2458 => ?_)
                  refine g_if2_eq (fun c2459 => ?_) (fun c2459 => ?_)
                  · refine g_aload_n rfl ?_
                    refine g_invvv (mS_I hIB2439 (by first | with_reducible assumption | omega) (by first | with_reducible assumption | omega) (by first | with_reducible assumption | omega)) sm_0 rfl rfl rfl rfl (f_162 B2439 hIB2439 hJB2439 y2427 y2428 y2429 y2430 y2431 y2432 y2433 (by first | with_reducible assumption | omega) (by first | with_reducible assumption | omega) (by first | with_reducible assumption | omega) zp2435 zp2441) (fun H2460 r2461 => ?_)
                    obtain ⟨y2462, y2463, y2464, y2465, y2466, rfl, by2462, by2463, by2464, zp2467⟩ := r2461
                    obtain ⟨-, rbzp2467, -, rdzp2467, -, -⟩ := id zp2467
                    have nzp2467 := gn_f (T := T) (g := (pLn1 c T (pSg a1.toInt T g)))
                    have al2468 : pLn c T (pSg a1.toInt T g) = (pGn T (pLn1 c T (pSg a1.toInt T g))) := by unfold pLn; exact tk_y (by first | with_reducible assumption | omega)
                    have zp2469 := zp2467
                    rw [← al2468] at zp2469
                    rw [← al2468] at nzp2467
                    obtain ⟨-, rbzp2469, -, rdzp2469, -, -⟩ := id zp2469
                    refine g_aload_n rfl ?_
                    refine g_dup rfl ?_
                    refine g_gfi (mS_I hIB2439 (by first | with_reducible assumption | omega) (by first | with_reducible assumption | omega) (by first | with_reducible assumption | omega)) sm_0 rfl (fun v2470 ev2470 lv2470 uv2470 => ?_)
                    have iv2470 : v2470.toInt = (fZ B2439 0 19).toInt := by rw [ev2470, ← mS_o (by decide)]
                    have l19v2470 : (fZ B2439 0 19).toInt = (fZ H 0 19).toInt := by rw [zp2437.2 19 (by decide)]
                    refine g_iconst (by decide) (fun v2471 kv2471 => ?_)
                    refine g_iadd (by first | with_reducible assumption | omega) (fun v2472 ev2472 => ?_)
                    refine g_pfi (mS_I hIB2439 (by first | with_reducible assumption | omega) (by first | with_reducible assumption | omega) (by first | with_reducible assumption | omega)) sm_0 rfl (gz_any _) (fun H2473 eH2473 hIH2473 => ?_)
                    obtain ⟨B2474, eB2474⟩ : ∃ z, z = sF B2439 0 19 v2472 := ⟨_, rfl⟩
                    obtain rfl : H2473 = (mS B2474 y2462 y2463 y2464 y2465 y2466 y2432 y2433) := by rw [eH2473, eB2474]; exact mS_cF (by decide)
                    have hIB2474 : gI SM B2474 := by rw [eB2474]; exact gI_sF hIB2439 sm_0 rfl (gz_any _)
                    have hJB2474 : JN B2474 := JN_sF eB2474 hJB2439
                    have frB2474 : frL H B2474 := frL_mk zp2437 eB2474
                    have tkB2474 : tkM B2474 b n T := tkM_19 zp2435 eB2474
                    exact g_ret ⟨rfl, B2474, y2462, y2463, y2464, y2465, y2466, y2432, y2433, rfl, hIB2474, hJB2474, (by first | with_reducible assumption | omega), (by first | with_reducible assumption | omega), (by first | with_reducible assumption | omega), zp2469, tkB2474, (bkl zp2436 eB2474 (by rw [sg_id (by first | with_reducible assumption | omega), l1_2 (by first | with_reducible assumption | omega)]) (by rw [sg_id (by first | with_reducible assumption | omega), b1_2 (by first | with_reducible assumption | omega)])), frB2474, (by rw [eB2474, fZ_sF_eq hIB2439 sm_0 rfl]; omega), ((wM_F eB2474).trans (by unfold mLn; rw [sg_id (by first | with_reducible assumption | omega), if_neg (by first | with_reducible assumption | omega)]; exact zp2438))⟩
                  · refine g_aload_n rfl ?_
                    refine g_iconst (by decide) (fun v2475 kv2475 => ?_)
                    refine g_invvv (mS_I hIB2439 (by first | with_reducible assumption | omega) (by first | with_reducible assumption | omega) (by first | with_reducible assumption | omega)) sm_0 rfl rfl rfl rfl (f_161 v2475 (by first | with_reducible assumption | omega) B2439 hIB2439 hJB2439 y2427 y2428 y2429 y2430 y2431 y2432 y2433 (by first | with_reducible assumption | omega) (by first | with_reducible assumption | omega) (by first | with_reducible assumption | omega) zp2435 zp2441) (fun H2476 r2477 => ?_)
                    obtain ⟨y2478, y2479, rfl, zp2480⟩ := r2477
                    rw [kv2475] at zp2480
                    obtain ⟨-, rbzp2480, -, rdzp2480, -, -⟩ := id zp2480
                    have nzp2480 := pF_ne (T := T) (g := (pLn1 c T (pSg a1.toInt T g))) (n := 1) (by first | with_reducible assumption | omega)
                    refine g_nop ?_
                    refine g_aload_n rfl ?_
                    refine g_invvv (mS_I hIB2439 (by first | with_reducible assumption | omega) (by first | with_reducible assumption | omega) (by first | with_reducible assumption | omega)) sm_0 rfl rfl rfl rfl (f_162 B2439 hIB2439 hJB2439 y2427 y2428 y2429 y2430 y2431 y2478 y2479 (by first | with_reducible assumption | omega) (by first | with_reducible assumption | omega) (by first | with_reducible assumption | omega) zp2435 zp2480) (fun H2481 r2482 => ?_)
                    obtain ⟨y2483, y2484, y2485, y2486, y2487, rfl, by2483, by2484, by2485, zp2488⟩ := r2482
                    obtain ⟨-, rbzp2488, -, rdzp2488, -, -⟩ := id zp2488
                    have nzp2488 := gn_f (T := T) (g := (pFail T 1 (pLn1 c T (pSg a1.toInt T g))))
                    have al2489 : pLn c T (pSg a1.toInt T g) = (pGn T (pFail T 1 (pLn1 c T (pSg a1.toInt T g)))) := by unfold pLn; exact tk_n (by first | with_reducible assumption | omega)
                    have zp2490 := zp2488
                    rw [← al2489] at zp2490
                    rw [← al2489] at nzp2488
                    obtain ⟨-, rbzp2490, -, rdzp2490, -, -⟩ := id zp2490
                    refine g_aload_n rfl ?_
                    refine g_dup rfl ?_
                    refine g_gfi (mS_I hIB2439 (by first | with_reducible assumption | omega) (by first | with_reducible assumption | omega) (by first | with_reducible assumption | omega)) sm_0 rfl (fun v2491 ev2491 lv2491 uv2491 => ?_)
                    have iv2491 : v2491.toInt = (fZ B2439 0 19).toInt := by rw [ev2491, ← mS_o (by decide)]
                    have l19v2491 : (fZ B2439 0 19).toInt = (fZ H 0 19).toInt := by rw [zp2437.2 19 (by decide)]
                    refine g_iconst (by decide) (fun v2492 kv2492 => ?_)
                    refine g_iadd (by first | with_reducible assumption | omega) (fun v2493 ev2493 => ?_)
                    refine g_pfi (mS_I hIB2439 (by first | with_reducible assumption | omega) (by first | with_reducible assumption | omega) (by first | with_reducible assumption | omega)) sm_0 rfl (gz_any _) (fun H2494 eH2494 hIH2494 => ?_)
                    obtain ⟨B2495, eB2495⟩ : ∃ z, z = sF B2439 0 19 v2493 := ⟨_, rfl⟩
                    obtain rfl : H2494 = (mS B2495 y2483 y2484 y2485 y2486 y2487 y2478 y2479) := by rw [eH2494, eB2495]; exact mS_cF (by decide)
                    have hIB2495 : gI SM B2495 := by rw [eB2495]; exact gI_sF hIB2439 sm_0 rfl (gz_any _)
                    have hJB2495 : JN B2495 := JN_sF eB2495 hJB2439
                    have frB2495 : frL H B2495 := frL_mk zp2437 eB2495
                    have tkB2495 : tkM B2495 b n T := tkM_19 zp2435 eB2495
                    exact g_ret ⟨rfl, B2495, y2483, y2484, y2485, y2486, y2487, y2478, y2479, rfl, hIB2495, hJB2495, (by first | with_reducible assumption | omega), (by first | with_reducible assumption | omega), (by first | with_reducible assumption | omega), zp2490, tkB2495, (bkl zp2436 eB2495 (by rw [sg_id (by first | with_reducible assumption | omega), l1_2 (by first | with_reducible assumption | omega)]) (by rw [sg_id (by first | with_reducible assumption | omega), b1_2 (by first | with_reducible assumption | omega)])), frB2495, (by rw [eB2495, fZ_sF_eq hIB2439 sm_0 rfl]; omega), ((wM_F eB2495).trans (by unfold mLn; rw [sg_id (by first | with_reducible assumption | omega), if_neg (by first | with_reducible assumption | omega)]; exact zp2438))⟩
          · refine g_iload_n rfl ?_
            refine g_if_ne (fun c2496 => ?_) (fun c2496 => ?_)
            · refine g_iload_n rfl ?_
              refine g_bipush (by decide) (fun v2497 kv2497 => ?_)
              refine g_if2_ne (fun c2498 => ?_) (fun c2498 => ?_)
              · refine g_aload_n rfl ?_
                refine g_iconst (by decide) (fun v2499 kv2499 => ?_)
                refine g_invvv (mS_I hI (by first | with_reducible assumption | omega) (by first | with_reducible assumption | omega) (by first | with_reducible assumption | omega)) sm_0 rfl rfl rfl rfl (f_161 v2499 (by first | with_reducible assumption | omega) H hI hJ x0 x1 x2 x3 x4 x5 x6 (by first | with_reducible assumption | omega) (by first | with_reducible assumption | omega) (by first | with_reducible assumption | omega) hp0 hp1) (fun H2500 r2501 => ?_)
                obtain ⟨y2502, y2503, rfl, zp2504⟩ := r2501
                rw [kv2499] at zp2504
                obtain ⟨-, rbzp2504, -, rdzp2504, -, -⟩ := id zp2504
                have nzp2504 := pF_ne (T := T) (g := g) (n := 1) (by first | with_reducible assumption | omega)
                have al2505 : pLn1 c T (pSg a1.toInt T g) = (pFail T 1 g) := by exact l1_w hp3 (by first | with_reducible assumption | omega)
                have zp2506 := zp2504
                rw [← al2505] at zp2506
                rw [← al2505] at nzp2504
                obtain ⟨-, rbzp2506, -, rdzp2506, -, -⟩ := id zp2506
                have kszp2506 := kr_s rbzp2506
                refine g_nop ?_
                refine g_aload_n rfl ?_
                refine g_gfk (mS_I hI (by first | with_reducible assumption | omega) (by first | with_reducible assumption | omega) (by first | with_reducible assumption | omega)) sm_0 rfl (mS_g13 hI) ?_
                refine g_if_ne (fun c2507 => ?_) (fun c2507 => ?_)
                · refine g_aload_n rfl ?_
                  refine g_invvv (mS_I hI (by first | with_reducible assumption | omega) (by first | with_reducible assumption | omega) (by first | with_reducible assumption | omega)) sm_0 rfl rfl rfl rfl (f_162 H hI hJ x0 x1 x2 x3 x4 y2502 y2503 (by first | with_reducible assumption | omega) (by first | with_reducible assumption | omega) (by first | with_reducible assumption | omega) hp0 zp2506) (fun H2508 r2509 => ?_)
                  obtain ⟨y2510, y2511, y2512, y2513, y2514, rfl, by2510, by2511, by2512, zp2515⟩ := r2509
                  obtain ⟨-, rbzp2515, -, rdzp2515, -, -⟩ := id zp2515
                  have nzp2515 := gn_f (T := T) (g := (pLn1 c T (pSg a1.toInt T g)))
                  have al2516 : pLn c T (pSg a1.toInt T g) = (pGn T (pLn1 c T (pSg a1.toInt T g))) := by unfold pLn; exact tk_f (by first | with_reducible assumption | omega)
                  have zp2517 := zp2515
                  rw [← al2516] at zp2517
                  rw [← al2516] at nzp2515
                  obtain ⟨-, rbzp2517, -, rdzp2517, -, -⟩ := id zp2517
                  refine g_aload_n rfl ?_
                  refine g_dup rfl ?_
                  refine g_gfi (mS_I hI (by first | with_reducible assumption | omega) (by first | with_reducible assumption | omega) (by first | with_reducible assumption | omega)) sm_0 rfl (fun v2518 ev2518 lv2518 uv2518 => ?_)
                  have iv2518 : v2518.toInt = (fZ H 0 19).toInt := by rw [ev2518, ← mS_o (by decide)]
                  have l19v2518 : (fZ H 0 19).toInt = (fZ H 0 19).toInt := rfl
                  refine g_iconst (by decide) (fun v2519 kv2519 => ?_)
                  refine g_iadd (by first | with_reducible assumption | omega) (fun v2520 ev2520 => ?_)
                  refine g_pfi (mS_I hI (by first | with_reducible assumption | omega) (by first | with_reducible assumption | omega) (by first | with_reducible assumption | omega)) sm_0 rfl (gz_any _) (fun H2521 eH2521 hIH2521 => ?_)
                  obtain ⟨B2522, eB2522⟩ : ∃ z, z = sF H 0 19 v2520 := ⟨_, rfl⟩
                  obtain rfl : H2521 = (mS B2522 y2510 y2511 y2512 y2513 y2514 y2502 y2503) := by rw [eH2521, eB2522]; exact mS_cF (by decide)
                  have hIB2522 : gI SM B2522 := by rw [eB2522]; exact gI_sF hI sm_0 rfl (gz_any _)
                  have hJB2522 : JN B2522 := JN_sF eB2522 hJ
                  have frB2522 : frL H B2522 := frL_mk (frM_r) eB2522
                  have tkB2522 : tkM B2522 b n T := tkM_19 hp0 eB2522
                  exact g_ret ⟨rfl, B2522, y2510, y2511, y2512, y2513, y2514, y2502, y2503, rfl, hIB2522, hJB2522, (by first | with_reducible assumption | omega), (by first | with_reducible assumption | omega), (by first | with_reducible assumption | omega), zp2517, tkB2522, (Or.inl (by have o := pT_ok (T := T) (lo := 20) (hi := 20) (g := pLn1 c T (pSg a1.toInt T g)); unfold pLn; omega)), frB2522, (by rw [eB2522, fZ_sF_eq hI sm_0 rfl]; omega), ((wM_F eB2522).trans (mln_w hp3 (by first | with_reducible assumption | omega)).symm)⟩
                · refine g_aload_n rfl ?_
                  refine g_gfk (mS_I hI (by first | with_reducible assumption | omega) (by first | with_reducible assumption | omega) (by first | with_reducible assumption | omega)) sm_0 rfl (mS_g10 hI) ?_
                  refine g_iconst (by decide) (fun v2523 kv2523 => ?_)
                  refine g_if2_eq (fun c2524 => ?_) (fun c2524 => ?_)
                  · exfalso; omega
                  · refine g_aload_n rfl ?_
                    refine g_iconst (by decide) (fun v2525 kv2525 => ?_)
                    refine g_invvv (mS_I hI (by first | with_reducible assumption | omega) (by first | with_reducible assumption | omega) (by first | with_reducible assumption | omega)) sm_0 rfl rfl rfl rfl (f_161 v2525 (by first | with_reducible assumption | omega) H hI hJ x0 x1 x2 x3 x4 y2502 y2503 (by first | with_reducible assumption | omega) (by first | with_reducible assumption | omega) (by first | with_reducible assumption | omega) hp0 zp2506) (fun H2526 r2527 => ?_)
                    obtain ⟨y2528, y2529, rfl, zp2530⟩ := r2527
                    rw [kv2525] at zp2530
                    obtain ⟨-, rbzp2530, -, rdzp2530, -, -⟩ := id zp2530
                    have nzp2530 := pF_ne (T := T) (g := (pLn1 c T (pSg a1.toInt T g))) (n := 1) (by first | with_reducible assumption | omega)
                    refine g_nop ?_
                    refine g_aload_n rfl ?_
                    refine g_invvv (mS_I hI (by first | with_reducible assumption | omega) (by first | with_reducible assumption | omega) (by first | with_reducible assumption | omega)) sm_0 rfl rfl rfl rfl (f_162 H hI hJ x0 x1 x2 x3 x4 y2528 y2529 (by first | with_reducible assumption | omega) (by first | with_reducible assumption | omega) (by first | with_reducible assumption | omega) hp0 zp2530) (fun H2531 r2532 => ?_)
                    obtain ⟨y2533, y2534, y2535, y2536, y2537, rfl, by2533, by2534, by2535, zp2538⟩ := r2532
                    obtain ⟨-, rbzp2538, -, rdzp2538, -, -⟩ := id zp2538
                    have nzp2538 := gn_f (T := T) (g := (pFail T 1 (pLn1 c T (pSg a1.toInt T g))))
                    have al2539 : pLn c T (pSg a1.toInt T g) = (pGn T (pFail T 1 (pLn1 c T (pSg a1.toInt T g)))) := by unfold pLn; exact tk_n (by first | with_reducible assumption | omega)
                    have zp2540 := zp2538
                    rw [← al2539] at zp2540
                    rw [← al2539] at nzp2538
                    obtain ⟨-, rbzp2540, -, rdzp2540, -, -⟩ := id zp2540
                    refine g_aload_n rfl ?_
                    refine g_dup rfl ?_
                    refine g_gfi (mS_I hI (by first | with_reducible assumption | omega) (by first | with_reducible assumption | omega) (by first | with_reducible assumption | omega)) sm_0 rfl (fun v2541 ev2541 lv2541 uv2541 => ?_)
                    have iv2541 : v2541.toInt = (fZ H 0 19).toInt := by rw [ev2541, ← mS_o (by decide)]
                    have l19v2541 : (fZ H 0 19).toInt = (fZ H 0 19).toInt := rfl
                    refine g_iconst (by decide) (fun v2542 kv2542 => ?_)
                    refine g_iadd (by first | with_reducible assumption | omega) (fun v2543 ev2543 => ?_)
                    refine g_pfi (mS_I hI (by first | with_reducible assumption | omega) (by first | with_reducible assumption | omega) (by first | with_reducible assumption | omega)) sm_0 rfl (gz_any _) (fun H2544 eH2544 hIH2544 => ?_)
                    obtain ⟨B2545, eB2545⟩ : ∃ z, z = sF H 0 19 v2543 := ⟨_, rfl⟩
                    obtain rfl : H2544 = (mS B2545 y2533 y2534 y2535 y2536 y2537 y2528 y2529) := by rw [eH2544, eB2545]; exact mS_cF (by decide)
                    have hIB2545 : gI SM B2545 := by rw [eB2545]; exact gI_sF hI sm_0 rfl (gz_any _)
                    have hJB2545 : JN B2545 := JN_sF eB2545 hJ
                    have frB2545 : frL H B2545 := frL_mk (frM_r) eB2545
                    have tkB2545 : tkM B2545 b n T := tkM_19 hp0 eB2545
                    exact g_ret ⟨rfl, B2545, y2533, y2534, y2535, y2536, y2537, y2528, y2529, rfl, hIB2545, hJB2545, (by first | with_reducible assumption | omega), (by first | with_reducible assumption | omega), (by first | with_reducible assumption | omega), zp2540, tkB2545, (Or.inl (by have o := pT_ok (T := T) (lo := 20) (hi := 20) (g := pLn1 c T (pSg a1.toInt T g)); unfold pLn; omega)), frB2545, (by rw [eB2545, fZ_sF_eq hI sm_0 rfl]; omega), ((wM_F eB2545).trans (mln_w hp3 (by first | with_reducible assumption | omega)).symm)⟩
              · exfalso; omega
            · refine g_aload_n rfl ?_
              refine g_invvv (mS_I hI (by first | with_reducible assumption | omega) (by first | with_reducible assumption | omega) (by first | with_reducible assumption | omega)) sm_0 rfl rfl rfl rfl (h_167 H hI hJ x0 x1 x2 x3 x4 x5 x6 (by first | with_reducible assumption | omega) (by first | with_reducible assumption | omega) (by first | with_reducible assumption | omega) hp0 hp1 hp2 (by first | with_reducible assumption | omega)) (fun H2546 r2547 => ?_)
              obtain ⟨B2560, y2548, y2549, y2550, y2551, y2552, y2553, y2554, rfl, hIB2560, hJB2560, by2548, by2549, by2550, zp2555, zp2556, zp2557, zp2558, zp2559⟩ := r2547
              obtain ⟨-, rbzp2555, -, rdzp2555, -, -⟩ := id zp2555
              have al2561 : pLn1 c T (pSg a1.toInt T g) = (pRdR c T g) := by rw [sg_id (by first | with_reducible assumption | omega), l1_1 (by first | with_reducible assumption | omega)]
              have zp2562 := zp2555
              rw [← al2561] at zp2562
              obtain ⟨-, rbzp2562, -, rdzp2562, -, -⟩ := id zp2562
              have kszp2562 := kr_s rbzp2562
              refine g_goto ?_
              refine g_aload_n rfl ?_
              refine g_gfk (mS_I hIB2560 (by first | with_reducible assumption | omega) (by first | with_reducible assumption | omega) (by first | with_reducible assumption | omega)) sm_0 rfl (mS_g13 hIB2560) ?_
              refine g_if_ne (fun c2563 => ?_) (fun c2563 => ?_)
              · refine g_aload_n rfl ?_
                refine g_invvv (mS_I hIB2560 (by first | with_reducible assumption | omega) (by first | with_reducible assumption | omega) (by first | with_reducible assumption | omega)) sm_0 rfl rfl rfl rfl (f_162 B2560 hIB2560 hJB2560 y2548 y2549 y2550 y2551 y2552 y2553 y2554 (by first | with_reducible assumption | omega) (by first | with_reducible assumption | omega) (by first | with_reducible assumption | omega) zp2556 zp2562) (fun H2564 r2565 => ?_)
                obtain ⟨y2566, y2567, y2568, y2569, y2570, rfl, by2566, by2567, by2568, zp2571⟩ := r2565
                obtain ⟨-, rbzp2571, -, rdzp2571, -, -⟩ := id zp2571
                have nzp2571 := gn_f (T := T) (g := (pLn1 c T (pSg a1.toInt T g)))
                have al2572 : pLn c T (pSg a1.toInt T g) = (pGn T (pLn1 c T (pSg a1.toInt T g))) := by unfold pLn; exact tk_f (by first | with_reducible assumption | omega)
                have zp2573 := zp2571
                rw [← al2572] at zp2573
                rw [← al2572] at nzp2571
                obtain ⟨-, rbzp2573, -, rdzp2573, -, -⟩ := id zp2573
                refine g_aload_n rfl ?_
                refine g_dup rfl ?_
                refine g_gfi (mS_I hIB2560 (by first | with_reducible assumption | omega) (by first | with_reducible assumption | omega) (by first | with_reducible assumption | omega)) sm_0 rfl (fun v2574 ev2574 lv2574 uv2574 => ?_)
                have iv2574 : v2574.toInt = (fZ B2560 0 19).toInt := by rw [ev2574, ← mS_o (by decide)]
                have l19v2574 : (fZ B2560 0 19).toInt = (fZ H 0 19).toInt := by rw [zp2558.2 19 (by decide)]
                refine g_iconst (by decide) (fun v2575 kv2575 => ?_)
                refine g_iadd (by first | with_reducible assumption | omega) (fun v2576 ev2576 => ?_)
                refine g_pfi (mS_I hIB2560 (by first | with_reducible assumption | omega) (by first | with_reducible assumption | omega) (by first | with_reducible assumption | omega)) sm_0 rfl (gz_any _) (fun H2577 eH2577 hIH2577 => ?_)
                obtain ⟨B2578, eB2578⟩ : ∃ z, z = sF B2560 0 19 v2576 := ⟨_, rfl⟩
                obtain rfl : H2577 = (mS B2578 y2566 y2567 y2568 y2569 y2570 y2553 y2554) := by rw [eH2577, eB2578]; exact mS_cF (by decide)
                have hIB2578 : gI SM B2578 := by rw [eB2578]; exact gI_sF hIB2560 sm_0 rfl (gz_any _)
                have hJB2578 : JN B2578 := JN_sF eB2578 hJB2560
                have frB2578 : frL H B2578 := frL_mk zp2558 eB2578
                have tkB2578 : tkM B2578 b n T := tkM_19 zp2556 eB2578
                exact g_ret ⟨rfl, B2578, y2566, y2567, y2568, y2569, y2570, y2553, y2554, rfl, hIB2578, hJB2578, (by first | with_reducible assumption | omega), (by first | with_reducible assumption | omega), (by first | with_reducible assumption | omega), zp2573, tkB2578, (bkl zp2557 eB2578 (by rw [sg_id (by first | with_reducible assumption | omega), l1_1 (by first | with_reducible assumption | omega)]) (by rw [sg_id (by first | with_reducible assumption | omega), b1_1 (by first | with_reducible assumption | omega)])), frB2578, (by rw [eB2578, fZ_sF_eq hIB2560 sm_0 rfl]; omega), ((wM_F eB2578).trans (by unfold mLn; rw [sg_id (by first | with_reducible assumption | omega), if_pos (by first | with_reducible assumption | omega)]; exact zp2559))⟩
              · refine g_aload_n rfl ?_
                refine g_gfk (mS_I hIB2560 (by first | with_reducible assumption | omega) (by first | with_reducible assumption | omega) (by first | with_reducible assumption | omega)) sm_0 rfl (mS_g10 hIB2560) ?_
                refine g_iconst (by decide) (fun v2579 kv2579 => ?_)
                refine g_if2_eq (fun c2580 => ?_) (fun c2580 => ?_)
                · refine g_aload_n rfl ?_
                  refine g_invvv (mS_I hIB2560 (by first | with_reducible assumption | omega) (by first | with_reducible assumption | omega) (by first | with_reducible assumption | omega)) sm_0 rfl rfl rfl rfl (f_162 B2560 hIB2560 hJB2560 y2548 y2549 y2550 y2551 y2552 y2553 y2554 (by first | with_reducible assumption | omega) (by first | with_reducible assumption | omega) (by first | with_reducible assumption | omega) zp2556 zp2562) (fun H2581 r2582 => ?_)
                  obtain ⟨y2583, y2584, y2585, y2586, y2587, rfl, by2583, by2584, by2585, zp2588⟩ := r2582
                  obtain ⟨-, rbzp2588, -, rdzp2588, -, -⟩ := id zp2588
                  have nzp2588 := gn_f (T := T) (g := (pLn1 c T (pSg a1.toInt T g)))
                  have al2589 : pLn c T (pSg a1.toInt T g) = (pGn T (pLn1 c T (pSg a1.toInt T g))) := by unfold pLn; exact tk_y (by first | with_reducible assumption | omega)
                  have zp2590 := zp2588
                  rw [← al2589] at zp2590
                  rw [← al2589] at nzp2588
                  obtain ⟨-, rbzp2590, -, rdzp2590, -, -⟩ := id zp2590
                  refine g_aload_n rfl ?_
                  refine g_dup rfl ?_
                  refine g_gfi (mS_I hIB2560 (by first | with_reducible assumption | omega) (by first | with_reducible assumption | omega) (by first | with_reducible assumption | omega)) sm_0 rfl (fun v2591 ev2591 lv2591 uv2591 => ?_)
                  have iv2591 : v2591.toInt = (fZ B2560 0 19).toInt := by rw [ev2591, ← mS_o (by decide)]
                  have l19v2591 : (fZ B2560 0 19).toInt = (fZ H 0 19).toInt := by rw [zp2558.2 19 (by decide)]
                  refine g_iconst (by decide) (fun v2592 kv2592 => ?_)
                  refine g_iadd (by first | with_reducible assumption | omega) (fun v2593 ev2593 => ?_)
                  refine g_pfi (mS_I hIB2560 (by first | with_reducible assumption | omega) (by first | with_reducible assumption | omega) (by first | with_reducible assumption | omega)) sm_0 rfl (gz_any _) (fun H2594 eH2594 hIH2594 => ?_)
                  obtain ⟨B2595, eB2595⟩ : ∃ z, z = sF B2560 0 19 v2593 := ⟨_, rfl⟩
                  obtain rfl : H2594 = (mS B2595 y2583 y2584 y2585 y2586 y2587 y2553 y2554) := by rw [eH2594, eB2595]; exact mS_cF (by decide)
                  have hIB2595 : gI SM B2595 := by rw [eB2595]; exact gI_sF hIB2560 sm_0 rfl (gz_any _)
                  have hJB2595 : JN B2595 := JN_sF eB2595 hJB2560
                  have frB2595 : frL H B2595 := frL_mk zp2558 eB2595
                  have tkB2595 : tkM B2595 b n T := tkM_19 zp2556 eB2595
                  exact g_ret ⟨rfl, B2595, y2583, y2584, y2585, y2586, y2587, y2553, y2554, rfl, hIB2595, hJB2595, (by first | with_reducible assumption | omega), (by first | with_reducible assumption | omega), (by first | with_reducible assumption | omega), zp2590, tkB2595, (bkl zp2557 eB2595 (by rw [sg_id (by first | with_reducible assumption | omega), l1_1 (by first | with_reducible assumption | omega)]) (by rw [sg_id (by first | with_reducible assumption | omega), b1_1 (by first | with_reducible assumption | omega)])), frB2595, (by rw [eB2595, fZ_sF_eq hIB2560 sm_0 rfl]; omega), ((wM_F eB2595).trans (by unfold mLn; rw [sg_id (by first | with_reducible assumption | omega), if_pos (by first | with_reducible assumption | omega)]; exact zp2559))⟩
                · refine g_aload_n rfl ?_
                  refine g_iconst (by decide) (fun v2596 kv2596 => ?_)
                  refine g_invvv (mS_I hIB2560 (by first | with_reducible assumption | omega) (by first | with_reducible assumption | omega) (by first | with_reducible assumption | omega)) sm_0 rfl rfl rfl rfl (f_161 v2596 (by first | with_reducible assumption | omega) B2560 hIB2560 hJB2560 y2548 y2549 y2550 y2551 y2552 y2553 y2554 (by first | with_reducible assumption | omega) (by first | with_reducible assumption | omega) (by first | with_reducible assumption | omega) zp2556 zp2562) (fun H2597 r2598 => ?_)
                  obtain ⟨y2599, y2600, rfl, zp2601⟩ := r2598
                  rw [kv2596] at zp2601
                  obtain ⟨-, rbzp2601, -, rdzp2601, -, -⟩ := id zp2601
                  have nzp2601 := pF_ne (T := T) (g := (pLn1 c T (pSg a1.toInt T g))) (n := 1) (by first | with_reducible assumption | omega)
                  refine g_nop ?_
                  refine g_aload_n rfl ?_
                  refine g_invvv (mS_I hIB2560 (by first | with_reducible assumption | omega) (by first | with_reducible assumption | omega) (by first | with_reducible assumption | omega)) sm_0 rfl rfl rfl rfl (f_162 B2560 hIB2560 hJB2560 y2548 y2549 y2550 y2551 y2552 y2599 y2600 (by first | with_reducible assumption | omega) (by first | with_reducible assumption | omega) (by first | with_reducible assumption | omega) zp2556 zp2601) (fun H2602 r2603 => ?_)
                  obtain ⟨y2604, y2605, y2606, y2607, y2608, rfl, by2604, by2605, by2606, zp2609⟩ := r2603
                  obtain ⟨-, rbzp2609, -, rdzp2609, -, -⟩ := id zp2609
                  have nzp2609 := gn_f (T := T) (g := (pFail T 1 (pLn1 c T (pSg a1.toInt T g))))
                  have al2610 : pLn c T (pSg a1.toInt T g) = (pGn T (pFail T 1 (pLn1 c T (pSg a1.toInt T g)))) := by unfold pLn; exact tk_n (by first | with_reducible assumption | omega)
                  have zp2611 := zp2609
                  rw [← al2610] at zp2611
                  rw [← al2610] at nzp2609
                  obtain ⟨-, rbzp2611, -, rdzp2611, -, -⟩ := id zp2611
                  refine g_aload_n rfl ?_
                  refine g_dup rfl ?_
                  refine g_gfi (mS_I hIB2560 (by first | with_reducible assumption | omega) (by first | with_reducible assumption | omega) (by first | with_reducible assumption | omega)) sm_0 rfl (fun v2612 ev2612 lv2612 uv2612 => ?_)
                  have iv2612 : v2612.toInt = (fZ B2560 0 19).toInt := by rw [ev2612, ← mS_o (by decide)]
                  have l19v2612 : (fZ B2560 0 19).toInt = (fZ H 0 19).toInt := by rw [zp2558.2 19 (by decide)]
                  refine g_iconst (by decide) (fun v2613 kv2613 => ?_)
                  refine g_iadd (by first | with_reducible assumption | omega) (fun v2614 ev2614 => ?_)
                  refine g_pfi (mS_I hIB2560 (by first | with_reducible assumption | omega) (by first | with_reducible assumption | omega) (by first | with_reducible assumption | omega)) sm_0 rfl (gz_any _) (fun H2615 eH2615 hIH2615 => ?_)
                  obtain ⟨B2616, eB2616⟩ : ∃ z, z = sF B2560 0 19 v2614 := ⟨_, rfl⟩
                  obtain rfl : H2615 = (mS B2616 y2604 y2605 y2606 y2607 y2608 y2599 y2600) := by rw [eH2615, eB2616]; exact mS_cF (by decide)
                  have hIB2616 : gI SM B2616 := by rw [eB2616]; exact gI_sF hIB2560 sm_0 rfl (gz_any _)
                  have hJB2616 : JN B2616 := JN_sF eB2616 hJB2560
                  have frB2616 : frL H B2616 := frL_mk zp2558 eB2616
                  have tkB2616 : tkM B2616 b n T := tkM_19 zp2556 eB2616
                  exact g_ret ⟨rfl, B2616, y2604, y2605, y2606, y2607, y2608, y2599, y2600, rfl, hIB2616, hJB2616, (by first | with_reducible assumption | omega), (by first | with_reducible assumption | omega), (by first | with_reducible assumption | omega), zp2611, tkB2616, (bkl zp2557 eB2616 (by rw [sg_id (by first | with_reducible assumption | omega), l1_1 (by first | with_reducible assumption | omega)]) (by rw [sg_id (by first | with_reducible assumption | omega), b1_1 (by first | with_reducible assumption | omega)])), frB2616, (by rw [eB2616, fZ_sF_eq hIB2560 sm_0 rfl]; omega), ((wM_F eB2616).trans (by unfold mLn; rw [sg_id (by first | with_reducible assumption | omega), if_pos (by first | with_reducible assumption | omega)]; exact zp2559))⟩
        · refine g_iload_n rfl ?_
          refine g_if_ne (fun c2617 => ?_) (fun c2617 => ?_)
          · refine g_iload_n rfl ?_
            refine g_bipush (by decide) (fun v2618 kv2618 => ?_)
            refine g_if2_ne (fun c2619 => ?_) (fun c2619 => ?_)
            · refine g_iload_n rfl ?_
              refine g_bipush (by decide) (fun v2620 kv2620 => ?_)
              refine g_if2_ne (fun c2621 => ?_) (fun c2621 => ?_)
              · refine g_aload_n rfl ?_
                refine g_iconst (by decide) (fun v2622 kv2622 => ?_)
                refine g_invvv (mS_I hI (by first | with_reducible assumption | omega) (by first | with_reducible assumption | omega) (by first | with_reducible assumption | omega)) sm_0 rfl rfl rfl rfl (f_161 v2622 (by first | with_reducible assumption | omega) H hI hJ x0 x1 x2 x3 x4 x5 x6 (by first | with_reducible assumption | omega) (by first | with_reducible assumption | omega) (by first | with_reducible assumption | omega) hp0 hp1) (fun H2623 r2624 => ?_)
                obtain ⟨y2625, y2626, rfl, zp2627⟩ := r2624
                rw [kv2622] at zp2627
                obtain ⟨-, rbzp2627, -, rdzp2627, -, -⟩ := id zp2627
                have nzp2627 := pF_ne (T := T) (g := g) (n := 1) (by first | with_reducible assumption | omega)
                have al2628 : pLn1 c T (pSg a1.toInt T g) = (pFail T 1 g) := by exact l1_w hp3 (by first | with_reducible assumption | omega)
                have zp2629 := zp2627
                rw [← al2628] at zp2629
                rw [← al2628] at nzp2627
                obtain ⟨-, rbzp2629, -, rdzp2629, -, -⟩ := id zp2629
                have kszp2629 := kr_s rbzp2629
                refine g_nop ?_
                refine g_aload_n rfl ?_
                refine g_gfk (mS_I hI (by first | with_reducible assumption | omega) (by first | with_reducible assumption | omega) (by first | with_reducible assumption | omega)) sm_0 rfl (mS_g13 hI) ?_
                refine g_if_ne (fun c2630 => ?_) (fun c2630 => ?_)
                · refine g_aload_n rfl ?_
                  refine g_invvv (mS_I hI (by first | with_reducible assumption | omega) (by first | with_reducible assumption | omega) (by first | with_reducible assumption | omega)) sm_0 rfl rfl rfl rfl (f_162 H hI hJ x0 x1 x2 x3 x4 y2625 y2626 (by first | with_reducible assumption | omega) (by first | with_reducible assumption | omega) (by first | with_reducible assumption | omega) hp0 zp2629) (fun H2631 r2632 => ?_)
                  obtain ⟨y2633, y2634, y2635, y2636, y2637, rfl, by2633, by2634, by2635, zp2638⟩ := r2632
                  obtain ⟨-, rbzp2638, -, rdzp2638, -, -⟩ := id zp2638
                  have nzp2638 := gn_f (T := T) (g := (pLn1 c T (pSg a1.toInt T g)))
                  have al2639 : pLn c T (pSg a1.toInt T g) = (pGn T (pLn1 c T (pSg a1.toInt T g))) := by unfold pLn; exact tk_f (by first | with_reducible assumption | omega)
                  have zp2640 := zp2638
                  rw [← al2639] at zp2640
                  rw [← al2639] at nzp2638
                  obtain ⟨-, rbzp2640, -, rdzp2640, -, -⟩ := id zp2640
                  refine g_aload_n rfl ?_
                  refine g_dup rfl ?_
                  refine g_gfi (mS_I hI (by first | with_reducible assumption | omega) (by first | with_reducible assumption | omega) (by first | with_reducible assumption | omega)) sm_0 rfl (fun v2641 ev2641 lv2641 uv2641 => ?_)
                  have iv2641 : v2641.toInt = (fZ H 0 19).toInt := by rw [ev2641, ← mS_o (by decide)]
                  have l19v2641 : (fZ H 0 19).toInt = (fZ H 0 19).toInt := rfl
                  refine g_iconst (by decide) (fun v2642 kv2642 => ?_)
                  refine g_iadd (by first | with_reducible assumption | omega) (fun v2643 ev2643 => ?_)
                  refine g_pfi (mS_I hI (by first | with_reducible assumption | omega) (by first | with_reducible assumption | omega) (by first | with_reducible assumption | omega)) sm_0 rfl (gz_any _) (fun H2644 eH2644 hIH2644 => ?_)
                  obtain ⟨B2645, eB2645⟩ : ∃ z, z = sF H 0 19 v2643 := ⟨_, rfl⟩
                  obtain rfl : H2644 = (mS B2645 y2633 y2634 y2635 y2636 y2637 y2625 y2626) := by rw [eH2644, eB2645]; exact mS_cF (by decide)
                  have hIB2645 : gI SM B2645 := by rw [eB2645]; exact gI_sF hI sm_0 rfl (gz_any _)
                  have hJB2645 : JN B2645 := JN_sF eB2645 hJ
                  have frB2645 : frL H B2645 := frL_mk (frM_r) eB2645
                  have tkB2645 : tkM B2645 b n T := tkM_19 hp0 eB2645
                  exact g_ret ⟨rfl, B2645, y2633, y2634, y2635, y2636, y2637, y2625, y2626, rfl, hIB2645, hJB2645, (by first | with_reducible assumption | omega), (by first | with_reducible assumption | omega), (by first | with_reducible assumption | omega), zp2640, tkB2645, (Or.inl (by have o := pT_ok (T := T) (lo := 20) (hi := 20) (g := pLn1 c T (pSg a1.toInt T g)); unfold pLn; omega)), frB2645, (by rw [eB2645, fZ_sF_eq hI sm_0 rfl]; omega), ((wM_F eB2645).trans (mln_w hp3 (by first | with_reducible assumption | omega)).symm)⟩
                · refine g_aload_n rfl ?_
                  refine g_gfk (mS_I hI (by first | with_reducible assumption | omega) (by first | with_reducible assumption | omega) (by first | with_reducible assumption | omega)) sm_0 rfl (mS_g10 hI) ?_
                  refine g_iconst (by decide) (fun v2646 kv2646 => ?_)
                  refine g_if2_eq (fun c2647 => ?_) (fun c2647 => ?_)
                  · exfalso; omega
                  · refine g_aload_n rfl ?_
                    refine g_iconst (by decide) (fun v2648 kv2648 => ?_)
                    refine g_invvv (mS_I hI (by first | with_reducible assumption | omega) (by first | with_reducible assumption | omega) (by first | with_reducible assumption | omega)) sm_0 rfl rfl rfl rfl (f_161 v2648 (by first | with_reducible assumption | omega) H hI hJ x0 x1 x2 x3 x4 y2625 y2626 (by first | with_reducible assumption | omega) (by first | with_reducible assumption | omega) (by first | with_reducible assumption | omega) hp0 zp2629) (fun H2649 r2650 => ?_)
                    obtain ⟨y2651, y2652, rfl, zp2653⟩ := r2650
                    rw [kv2648] at zp2653
                    obtain ⟨-, rbzp2653, -, rdzp2653, -, -⟩ := id zp2653
                    have nzp2653 := pF_ne (T := T) (g := (pLn1 c T (pSg a1.toInt T g))) (n := 1) (by first | with_reducible assumption | omega)
                    refine g_nop ?_
                    refine g_aload_n rfl ?_
                    refine g_invvv (mS_I hI (by first | with_reducible assumption | omega) (by first | with_reducible assumption | omega) (by first | with_reducible assumption | omega)) sm_0 rfl rfl rfl rfl (f_162 H hI hJ x0 x1 x2 x3 x4 y2651 y2652 (by first | with_reducible assumption | omega) (by first | with_reducible assumption | omega) (by first | with_reducible assumption | omega) hp0 zp2653) (fun H2654 r2655 => ?_)
                    obtain ⟨y2656, y2657, y2658, y2659, y2660, rfl, by2656, by2657, by2658, zp2661⟩ := r2655
                    obtain ⟨-, rbzp2661, -, rdzp2661, -, -⟩ := id zp2661
                    have nzp2661 := gn_f (T := T) (g := (pFail T 1 (pLn1 c T (pSg a1.toInt T g))))
                    have al2662 : pLn c T (pSg a1.toInt T g) = (pGn T (pFail T 1 (pLn1 c T (pSg a1.toInt T g)))) := by unfold pLn; exact tk_n (by first | with_reducible assumption | omega)
                    have zp2663 := zp2661
                    rw [← al2662] at zp2663
                    rw [← al2662] at nzp2661
                    obtain ⟨-, rbzp2663, -, rdzp2663, -, -⟩ := id zp2663
                    refine g_aload_n rfl ?_
                    refine g_dup rfl ?_
                    refine g_gfi (mS_I hI (by first | with_reducible assumption | omega) (by first | with_reducible assumption | omega) (by first | with_reducible assumption | omega)) sm_0 rfl (fun v2664 ev2664 lv2664 uv2664 => ?_)
                    have iv2664 : v2664.toInt = (fZ H 0 19).toInt := by rw [ev2664, ← mS_o (by decide)]
                    have l19v2664 : (fZ H 0 19).toInt = (fZ H 0 19).toInt := rfl
                    refine g_iconst (by decide) (fun v2665 kv2665 => ?_)
                    refine g_iadd (by first | with_reducible assumption | omega) (fun v2666 ev2666 => ?_)
                    refine g_pfi (mS_I hI (by first | with_reducible assumption | omega) (by first | with_reducible assumption | omega) (by first | with_reducible assumption | omega)) sm_0 rfl (gz_any _) (fun H2667 eH2667 hIH2667 => ?_)
                    obtain ⟨B2668, eB2668⟩ : ∃ z, z = sF H 0 19 v2666 := ⟨_, rfl⟩
                    obtain rfl : H2667 = (mS B2668 y2656 y2657 y2658 y2659 y2660 y2651 y2652) := by rw [eH2667, eB2668]; exact mS_cF (by decide)
                    have hIB2668 : gI SM B2668 := by rw [eB2668]; exact gI_sF hI sm_0 rfl (gz_any _)
                    have hJB2668 : JN B2668 := JN_sF eB2668 hJ
                    have frB2668 : frL H B2668 := frL_mk (frM_r) eB2668
                    have tkB2668 : tkM B2668 b n T := tkM_19 hp0 eB2668
                    exact g_ret ⟨rfl, B2668, y2656, y2657, y2658, y2659, y2660, y2651, y2652, rfl, hIB2668, hJB2668, (by first | with_reducible assumption | omega), (by first | with_reducible assumption | omega), (by first | with_reducible assumption | omega), zp2663, tkB2668, (Or.inl (by have o := pT_ok (T := T) (lo := 20) (hi := 20) (g := pLn1 c T (pSg a1.toInt T g)); unfold pLn; omega)), frB2668, (by rw [eB2668, fZ_sF_eq hI sm_0 rfl]; omega), ((wM_F eB2668).trans (mln_w hp3 (by first | with_reducible assumption | omega)).symm)⟩
              · exfalso; omega
            · exfalso; omega
          · refine g_aload_n rfl ?_
            refine g_invvv (mS_I hI (by first | with_reducible assumption | omega) (by first | with_reducible assumption | omega) (by first | with_reducible assumption | omega)) sm_0 rfl rfl rfl rfl (h_166 H hI hJ x0 x1 x2 x3 x4 x5 x6 (by first | with_reducible assumption | omega) (by first | with_reducible assumption | omega) (by first | with_reducible assumption | omega) hp0 hp1 hp2 (by first | with_reducible assumption | omega)) (fun H2669 r2670 => ?_)
            obtain ⟨B2683, y2671, y2672, y2673, y2674, y2675, y2676, y2677, rfl, hIB2683, hJB2683, by2671, by2672, by2673, zp2678, zp2679, zp2680, zp2681, zp2682⟩ := r2670
            obtain ⟨-, rbzp2678, -, rdzp2678, -, -⟩ := id zp2678
            have al2684 : pLn1 c T (pSg a1.toInt T g) = (pRdP c T g) := by rw [sg_id (by first | with_reducible assumption | omega), l1_0 (by first | with_reducible assumption | omega)]
            have zp2685 := zp2678
            rw [← al2684] at zp2685
            obtain ⟨-, rbzp2685, -, rdzp2685, -, -⟩ := id zp2685
            have kszp2685 := kr_s rbzp2685
            refine g_goto ?_
            refine g_aload_n rfl ?_
            refine g_gfk (mS_I hIB2683 (by first | with_reducible assumption | omega) (by first | with_reducible assumption | omega) (by first | with_reducible assumption | omega)) sm_0 rfl (mS_g13 hIB2683) ?_
            refine g_if_ne (fun c2686 => ?_) (fun c2686 => ?_)
            · refine g_aload_n rfl ?_
              refine g_invvv (mS_I hIB2683 (by first | with_reducible assumption | omega) (by first | with_reducible assumption | omega) (by first | with_reducible assumption | omega)) sm_0 rfl rfl rfl rfl (f_162 B2683 hIB2683 hJB2683 y2671 y2672 y2673 y2674 y2675 y2676 y2677 (by first | with_reducible assumption | omega) (by first | with_reducible assumption | omega) (by first | with_reducible assumption | omega) zp2679 zp2685) (fun H2687 r2688 => ?_)
              obtain ⟨y2689, y2690, y2691, y2692, y2693, rfl, by2689, by2690, by2691, zp2694⟩ := r2688
              obtain ⟨-, rbzp2694, -, rdzp2694, -, -⟩ := id zp2694
              have nzp2694 := gn_f (T := T) (g := (pLn1 c T (pSg a1.toInt T g)))
              have al2695 : pLn c T (pSg a1.toInt T g) = (pGn T (pLn1 c T (pSg a1.toInt T g))) := by unfold pLn; exact tk_f (by first | with_reducible assumption | omega)
              have zp2696 := zp2694
              rw [← al2695] at zp2696
              rw [← al2695] at nzp2694
              obtain ⟨-, rbzp2696, -, rdzp2696, -, -⟩ := id zp2696
              refine g_aload_n rfl ?_
              refine g_dup rfl ?_
              refine g_gfi (mS_I hIB2683 (by first | with_reducible assumption | omega) (by first | with_reducible assumption | omega) (by first | with_reducible assumption | omega)) sm_0 rfl (fun v2697 ev2697 lv2697 uv2697 => ?_)
              have iv2697 : v2697.toInt = (fZ B2683 0 19).toInt := by rw [ev2697, ← mS_o (by decide)]
              have l19v2697 : (fZ B2683 0 19).toInt = (fZ H 0 19).toInt := by rw [zp2681.2 19 (by decide)]
              refine g_iconst (by decide) (fun v2698 kv2698 => ?_)
              refine g_iadd (by first | with_reducible assumption | omega) (fun v2699 ev2699 => ?_)
              refine g_pfi (mS_I hIB2683 (by first | with_reducible assumption | omega) (by first | with_reducible assumption | omega) (by first | with_reducible assumption | omega)) sm_0 rfl (gz_any _) (fun H2700 eH2700 hIH2700 => ?_)
              obtain ⟨B2701, eB2701⟩ : ∃ z, z = sF B2683 0 19 v2699 := ⟨_, rfl⟩
              obtain rfl : H2700 = (mS B2701 y2689 y2690 y2691 y2692 y2693 y2676 y2677) := by rw [eH2700, eB2701]; exact mS_cF (by decide)
              have hIB2701 : gI SM B2701 := by rw [eB2701]; exact gI_sF hIB2683 sm_0 rfl (gz_any _)
              have hJB2701 : JN B2701 := JN_sF eB2701 hJB2683
              have frB2701 : frL H B2701 := frL_mk zp2681 eB2701
              have tkB2701 : tkM B2701 b n T := tkM_19 zp2679 eB2701
              exact g_ret ⟨rfl, B2701, y2689, y2690, y2691, y2692, y2693, y2676, y2677, rfl, hIB2701, hJB2701, (by first | with_reducible assumption | omega), (by first | with_reducible assumption | omega), (by first | with_reducible assumption | omega), zp2696, tkB2701, (bkl zp2680 eB2701 (by rw [sg_id (by first | with_reducible assumption | omega), l1_0 (by first | with_reducible assumption | omega)]) (by rw [sg_id (by first | with_reducible assumption | omega), b1_0 (by first | with_reducible assumption | omega)])), frB2701, (by rw [eB2701, fZ_sF_eq hIB2683 sm_0 rfl]; omega), ((wM_F eB2701).trans (by unfold mLn; rw [sg_id (by first | with_reducible assumption | omega), if_neg (by first | with_reducible assumption | omega)]; exact zp2682))⟩
            · refine g_aload_n rfl ?_
              refine g_gfk (mS_I hIB2683 (by first | with_reducible assumption | omega) (by first | with_reducible assumption | omega) (by first | with_reducible assumption | omega)) sm_0 rfl (mS_g10 hIB2683) ?_
              refine g_iconst (by decide) (fun v2702 kv2702 => ?_)
              refine g_if2_eq (fun c2703 => ?_) (fun c2703 => ?_)
              · refine g_aload_n rfl ?_
                refine g_invvv (mS_I hIB2683 (by first | with_reducible assumption | omega) (by first | with_reducible assumption | omega) (by first | with_reducible assumption | omega)) sm_0 rfl rfl rfl rfl (f_162 B2683 hIB2683 hJB2683 y2671 y2672 y2673 y2674 y2675 y2676 y2677 (by first | with_reducible assumption | omega) (by first | with_reducible assumption | omega) (by first | with_reducible assumption | omega) zp2679 zp2685) (fun H2704 r2705 => ?_)
                obtain ⟨y2706, y2707, y2708, y2709, y2710, rfl, by2706, by2707, by2708, zp2711⟩ := r2705
                obtain ⟨-, rbzp2711, -, rdzp2711, -, -⟩ := id zp2711
                have nzp2711 := gn_f (T := T) (g := (pLn1 c T (pSg a1.toInt T g)))
                have al2712 : pLn c T (pSg a1.toInt T g) = (pGn T (pLn1 c T (pSg a1.toInt T g))) := by unfold pLn; exact tk_y (by first | with_reducible assumption | omega)
                have zp2713 := zp2711
                rw [← al2712] at zp2713
                rw [← al2712] at nzp2711
                obtain ⟨-, rbzp2713, -, rdzp2713, -, -⟩ := id zp2713
                refine g_aload_n rfl ?_
                refine g_dup rfl ?_
                refine g_gfi (mS_I hIB2683 (by first | with_reducible assumption | omega) (by first | with_reducible assumption | omega) (by first | with_reducible assumption | omega)) sm_0 rfl (fun v2714 ev2714 lv2714 uv2714 => ?_)
                have iv2714 : v2714.toInt = (fZ B2683 0 19).toInt := by rw [ev2714, ← mS_o (by decide)]
                have l19v2714 : (fZ B2683 0 19).toInt = (fZ H 0 19).toInt := by rw [zp2681.2 19 (by decide)]
                refine g_iconst (by decide) (fun v2715 kv2715 => ?_)
                refine g_iadd (by first | with_reducible assumption | omega) (fun v2716 ev2716 => ?_)
                refine g_pfi (mS_I hIB2683 (by first | with_reducible assumption | omega) (by first | with_reducible assumption | omega) (by first | with_reducible assumption | omega)) sm_0 rfl (gz_any _) (fun H2717 eH2717 hIH2717 => ?_)
                obtain ⟨B2718, eB2718⟩ : ∃ z, z = sF B2683 0 19 v2716 := ⟨_, rfl⟩
                obtain rfl : H2717 = (mS B2718 y2706 y2707 y2708 y2709 y2710 y2676 y2677) := by rw [eH2717, eB2718]; exact mS_cF (by decide)
                have hIB2718 : gI SM B2718 := by rw [eB2718]; exact gI_sF hIB2683 sm_0 rfl (gz_any _)
                have hJB2718 : JN B2718 := JN_sF eB2718 hJB2683
                have frB2718 : frL H B2718 := frL_mk zp2681 eB2718
                have tkB2718 : tkM B2718 b n T := tkM_19 zp2679 eB2718
                exact g_ret ⟨rfl, B2718, y2706, y2707, y2708, y2709, y2710, y2676, y2677, rfl, hIB2718, hJB2718, (by first | with_reducible assumption | omega), (by first | with_reducible assumption | omega), (by first | with_reducible assumption | omega), zp2713, tkB2718, (bkl zp2680 eB2718 (by rw [sg_id (by first | with_reducible assumption | omega), l1_0 (by first | with_reducible assumption | omega)]) (by rw [sg_id (by first | with_reducible assumption | omega), b1_0 (by first | with_reducible assumption | omega)])), frB2718, (by rw [eB2718, fZ_sF_eq hIB2683 sm_0 rfl]; omega), ((wM_F eB2718).trans (by unfold mLn; rw [sg_id (by first | with_reducible assumption | omega), if_neg (by first | with_reducible assumption | omega)]; exact zp2682))⟩
              · refine g_aload_n rfl ?_
                refine g_iconst (by decide) (fun v2719 kv2719 => ?_)
                refine g_invvv (mS_I hIB2683 (by first | with_reducible assumption | omega) (by first | with_reducible assumption | omega) (by first | with_reducible assumption | omega)) sm_0 rfl rfl rfl rfl (f_161 v2719 (by first | with_reducible assumption | omega) B2683 hIB2683 hJB2683 y2671 y2672 y2673 y2674 y2675 y2676 y2677 (by first | with_reducible assumption | omega) (by first | with_reducible assumption | omega) (by first | with_reducible assumption | omega) zp2679 zp2685) (fun H2720 r2721 => ?_)
                obtain ⟨y2722, y2723, rfl, zp2724⟩ := r2721
                rw [kv2719] at zp2724
                obtain ⟨-, rbzp2724, -, rdzp2724, -, -⟩ := id zp2724
                have nzp2724 := pF_ne (T := T) (g := (pLn1 c T (pSg a1.toInt T g))) (n := 1) (by first | with_reducible assumption | omega)
                refine g_nop ?_
                refine g_aload_n rfl ?_
                refine g_invvv (mS_I hIB2683 (by first | with_reducible assumption | omega) (by first | with_reducible assumption | omega) (by first | with_reducible assumption | omega)) sm_0 rfl rfl rfl rfl (f_162 B2683 hIB2683 hJB2683 y2671 y2672 y2673 y2674 y2675 y2722 y2723 (by first | with_reducible assumption | omega) (by first | with_reducible assumption | omega) (by first | with_reducible assumption | omega) zp2679 zp2724) (fun H2725 r2726 => ?_)
                obtain ⟨y2727, y2728, y2729, y2730, y2731, rfl, by2727, by2728, by2729, zp2732⟩ := r2726
                obtain ⟨-, rbzp2732, -, rdzp2732, -, -⟩ := id zp2732
                have nzp2732 := gn_f (T := T) (g := (pFail T 1 (pLn1 c T (pSg a1.toInt T g))))
                have al2733 : pLn c T (pSg a1.toInt T g) = (pGn T (pFail T 1 (pLn1 c T (pSg a1.toInt T g)))) := by unfold pLn; exact tk_n (by first | with_reducible assumption | omega)
                have zp2734 := zp2732
                rw [← al2733] at zp2734
                rw [← al2733] at nzp2732
                obtain ⟨-, rbzp2734, -, rdzp2734, -, -⟩ := id zp2734
                refine g_aload_n rfl ?_
                refine g_dup rfl ?_
                refine g_gfi (mS_I hIB2683 (by first | with_reducible assumption | omega) (by first | with_reducible assumption | omega) (by first | with_reducible assumption | omega)) sm_0 rfl (fun v2735 ev2735 lv2735 uv2735 => ?_)
                have iv2735 : v2735.toInt = (fZ B2683 0 19).toInt := by rw [ev2735, ← mS_o (by decide)]
                have l19v2735 : (fZ B2683 0 19).toInt = (fZ H 0 19).toInt := by rw [zp2681.2 19 (by decide)]
                refine g_iconst (by decide) (fun v2736 kv2736 => ?_)
                refine g_iadd (by first | with_reducible assumption | omega) (fun v2737 ev2737 => ?_)
                refine g_pfi (mS_I hIB2683 (by first | with_reducible assumption | omega) (by first | with_reducible assumption | omega) (by first | with_reducible assumption | omega)) sm_0 rfl (gz_any _) (fun H2738 eH2738 hIH2738 => ?_)
                obtain ⟨B2739, eB2739⟩ : ∃ z, z = sF B2683 0 19 v2737 := ⟨_, rfl⟩
                obtain rfl : H2738 = (mS B2739 y2727 y2728 y2729 y2730 y2731 y2722 y2723) := by rw [eH2738, eB2739]; exact mS_cF (by decide)
                have hIB2739 : gI SM B2739 := by rw [eB2739]; exact gI_sF hIB2683 sm_0 rfl (gz_any _)
                have hJB2739 : JN B2739 := JN_sF eB2739 hJB2683
                have frB2739 : frL H B2739 := frL_mk zp2681 eB2739
                have tkB2739 : tkM B2739 b n T := tkM_19 zp2679 eB2739
                exact g_ret ⟨rfl, B2739, y2727, y2728, y2729, y2730, y2731, y2722, y2723, rfl, hIB2739, hJB2739, (by first | with_reducible assumption | omega), (by first | with_reducible assumption | omega), (by first | with_reducible assumption | omega), zp2734, tkB2739, (bkl zp2680 eB2739 (by rw [sg_id (by first | with_reducible assumption | omega), l1_0 (by first | with_reducible assumption | omega)]) (by rw [sg_id (by first | with_reducible assumption | omega), b1_0 (by first | with_reducible assumption | omega)])), frB2739, (by rw [eB2739, fZ_sF_eq hIB2683 sm_0 rfl]; omega), ((wM_F eB2739).trans (by unfold mLn; rw [sg_id (by first | with_reducible assumption | omega), if_neg (by first | with_reducible assumption | omega)]; exact zp2682))⟩
      · refine g_aload_n rfl ?_
        refine g_invvv (mS_I hI (by first | with_reducible assumption | omega) (by first | with_reducible assumption | omega) (by first | with_reducible assumption | omega)) sm_0 rfl rfl rfl rfl (h_170 H hI hJ x0 x1 x2 x3 x4 x5 x6 (by first | with_reducible assumption | omega) (by first | with_reducible assumption | omega) (by first | with_reducible assumption | omega) hp0 hp1 hp2 (by first | with_reducible assumption | omega)) (fun H2740 r2741 => ?_)
        obtain ⟨B2754, y2742, y2743, y2744, y2745, y2746, y2747, y2748, rfl, hIB2754, hJB2754, by2742, by2743, by2744, zp2749, zp2750, zp2751, zp2752, zp2753⟩ := r2741
        obtain ⟨-, rbzp2749, -, rdzp2749, -, -⟩ := id zp2749
        have al2755 : pLn1 c T (pSg a1.toInt T g) = (pM6 c T g) := by rw [sg_id (by first | with_reducible assumption | omega), l1_3 (by first | with_reducible assumption | omega)]
        have zp2756 := zp2749
        rw [← al2755] at zp2756
        obtain ⟨-, rbzp2756, -, rdzp2756, -, -⟩ := id zp2756
        have kszp2756 := kr_s rbzp2756
        refine g_goto ?_
        refine g_aload_n rfl ?_
        refine g_gfk (mS_I hIB2754 (by first | with_reducible assumption | omega) (by first | with_reducible assumption | omega) (by first | with_reducible assumption | omega)) sm_0 rfl (mS_g13 hIB2754) ?_
        refine g_if_ne (fun c2757 => ?_) (fun c2757 => ?_)
        · refine g_aload_n rfl ?_
          refine g_invvv (mS_I hIB2754 (by first | with_reducible assumption | omega) (by first | with_reducible assumption | omega) (by first | with_reducible assumption | omega)) sm_0 rfl rfl rfl rfl (f_162 B2754 hIB2754 hJB2754 y2742 y2743 y2744 y2745 y2746 y2747 y2748 (by first | with_reducible assumption | omega) (by first | with_reducible assumption | omega) (by first | with_reducible assumption | omega) zp2750 zp2756) (fun H2758 r2759 => ?_)
          obtain ⟨y2760, y2761, y2762, y2763, y2764, rfl, by2760, by2761, by2762, zp2765⟩ := r2759
          obtain ⟨-, rbzp2765, -, rdzp2765, -, -⟩ := id zp2765
          have nzp2765 := gn_f (T := T) (g := (pLn1 c T (pSg a1.toInt T g)))
          have al2766 : pLn c T (pSg a1.toInt T g) = (pGn T (pLn1 c T (pSg a1.toInt T g))) := by unfold pLn; exact tk_f (by first | with_reducible assumption | omega)
          have zp2767 := zp2765
          rw [← al2766] at zp2767
          rw [← al2766] at nzp2765
          obtain ⟨-, rbzp2767, -, rdzp2767, -, -⟩ := id zp2767
          refine g_aload_n rfl ?_
          refine g_dup rfl ?_
          refine g_gfi (mS_I hIB2754 (by first | with_reducible assumption | omega) (by first | with_reducible assumption | omega) (by first | with_reducible assumption | omega)) sm_0 rfl (fun v2768 ev2768 lv2768 uv2768 => ?_)
          have iv2768 : v2768.toInt = (fZ B2754 0 19).toInt := by rw [ev2768, ← mS_o (by decide)]
          have l19v2768 : (fZ B2754 0 19).toInt = (fZ H 0 19).toInt := by rw [zp2752.2 19 (by decide)]
          refine g_iconst (by decide) (fun v2769 kv2769 => ?_)
          refine g_iadd (by first | with_reducible assumption | omega) (fun v2770 ev2770 => ?_)
          refine g_pfi (mS_I hIB2754 (by first | with_reducible assumption | omega) (by first | with_reducible assumption | omega) (by first | with_reducible assumption | omega)) sm_0 rfl (gz_any _) (fun H2771 eH2771 hIH2771 => ?_)
          obtain ⟨B2772, eB2772⟩ : ∃ z, z = sF B2754 0 19 v2770 := ⟨_, rfl⟩
          obtain rfl : H2771 = (mS B2772 y2760 y2761 y2762 y2763 y2764 y2747 y2748) := by rw [eH2771, eB2772]; exact mS_cF (by decide)
          have hIB2772 : gI SM B2772 := by rw [eB2772]; exact gI_sF hIB2754 sm_0 rfl (gz_any _)
          have hJB2772 : JN B2772 := JN_sF eB2772 hJB2754
          have frB2772 : frL H B2772 := frL_mk zp2752 eB2772
          have tkB2772 : tkM B2772 b n T := tkM_19 zp2750 eB2772
          exact g_ret ⟨rfl, B2772, y2760, y2761, y2762, y2763, y2764, y2747, y2748, rfl, hIB2772, hJB2772, (by first | with_reducible assumption | omega), (by first | with_reducible assumption | omega), (by first | with_reducible assumption | omega), zp2767, tkB2772, (bkl zp2751 eB2772 (by rw [sg_id (by first | with_reducible assumption | omega), l1_3 (by first | with_reducible assumption | omega)]) (by rw [sg_id (by first | with_reducible assumption | omega), b1_3 (by first | with_reducible assumption | omega)])), frB2772, (by rw [eB2772, fZ_sF_eq hIB2754 sm_0 rfl]; omega), ((wM_F eB2772).trans (by unfold mLn; rw [sg_id (by first | with_reducible assumption | omega), if_neg (by first | with_reducible assumption | omega)]; exact zp2753))⟩
        · refine g_aload_n rfl ?_
          refine g_gfk (mS_I hIB2754 (by first | with_reducible assumption | omega) (by first | with_reducible assumption | omega) (by first | with_reducible assumption | omega)) sm_0 rfl (mS_g10 hIB2754) ?_
          refine g_iconst (by decide) (fun v2773 kv2773 => ?_)
          refine g_if2_eq (fun c2774 => ?_) (fun c2774 => ?_)
          · refine g_aload_n rfl ?_
            refine g_invvv (mS_I hIB2754 (by first | with_reducible assumption | omega) (by first | with_reducible assumption | omega) (by first | with_reducible assumption | omega)) sm_0 rfl rfl rfl rfl (f_162 B2754 hIB2754 hJB2754 y2742 y2743 y2744 y2745 y2746 y2747 y2748 (by first | with_reducible assumption | omega) (by first | with_reducible assumption | omega) (by first | with_reducible assumption | omega) zp2750 zp2756) (fun H2775 r2776 => ?_)
            obtain ⟨y2777, y2778, y2779, y2780, y2781, rfl, by2777, by2778, by2779, zp2782⟩ := r2776
            obtain ⟨-, rbzp2782, -, rdzp2782, -, -⟩ := id zp2782
            have nzp2782 := gn_f (T := T) (g := (pLn1 c T (pSg a1.toInt T g)))
            have al2783 : pLn c T (pSg a1.toInt T g) = (pGn T (pLn1 c T (pSg a1.toInt T g))) := by unfold pLn; exact tk_y (by first | with_reducible assumption | omega)
            have zp2784 := zp2782
            rw [← al2783] at zp2784
            rw [← al2783] at nzp2782
            obtain ⟨-, rbzp2784, -, rdzp2784, -, -⟩ := id zp2784
            refine g_aload_n rfl ?_
            refine g_dup rfl ?_
            refine g_gfi (mS_I hIB2754 (by first | with_reducible assumption | omega) (by first | with_reducible assumption | omega) (by first | with_reducible assumption | omega)) sm_0 rfl (fun v2785 ev2785 lv2785 uv2785 => ?_)
            have iv2785 : v2785.toInt = (fZ B2754 0 19).toInt := by rw [ev2785, ← mS_o (by decide)]
            have l19v2785 : (fZ B2754 0 19).toInt = (fZ H 0 19).toInt := by rw [zp2752.2 19 (by decide)]
            refine g_iconst (by decide) (fun v2786 kv2786 => ?_)
            refine g_iadd (by first | with_reducible assumption | omega) (fun v2787 ev2787 => ?_)
            refine g_pfi (mS_I hIB2754 (by first | with_reducible assumption | omega) (by first | with_reducible assumption | omega) (by first | with_reducible assumption | omega)) sm_0 rfl (gz_any _) (fun H2788 eH2788 hIH2788 => ?_)
            obtain ⟨B2789, eB2789⟩ : ∃ z, z = sF B2754 0 19 v2787 := ⟨_, rfl⟩
            obtain rfl : H2788 = (mS B2789 y2777 y2778 y2779 y2780 y2781 y2747 y2748) := by rw [eH2788, eB2789]; exact mS_cF (by decide)
            have hIB2789 : gI SM B2789 := by rw [eB2789]; exact gI_sF hIB2754 sm_0 rfl (gz_any _)
            have hJB2789 : JN B2789 := JN_sF eB2789 hJB2754
            have frB2789 : frL H B2789 := frL_mk zp2752 eB2789
            have tkB2789 : tkM B2789 b n T := tkM_19 zp2750 eB2789
            exact g_ret ⟨rfl, B2789, y2777, y2778, y2779, y2780, y2781, y2747, y2748, rfl, hIB2789, hJB2789, (by first | with_reducible assumption | omega), (by first | with_reducible assumption | omega), (by first | with_reducible assumption | omega), zp2784, tkB2789, (bkl zp2751 eB2789 (by rw [sg_id (by first | with_reducible assumption | omega), l1_3 (by first | with_reducible assumption | omega)]) (by rw [sg_id (by first | with_reducible assumption | omega), b1_3 (by first | with_reducible assumption | omega)])), frB2789, (by rw [eB2789, fZ_sF_eq hIB2754 sm_0 rfl]; omega), ((wM_F eB2789).trans (by unfold mLn; rw [sg_id (by first | with_reducible assumption | omega), if_neg (by first | with_reducible assumption | omega)]; exact zp2753))⟩
          · refine g_aload_n rfl ?_
            refine g_iconst (by decide) (fun v2790 kv2790 => ?_)
            refine g_invvv (mS_I hIB2754 (by first | with_reducible assumption | omega) (by first | with_reducible assumption | omega) (by first | with_reducible assumption | omega)) sm_0 rfl rfl rfl rfl (f_161 v2790 (by first | with_reducible assumption | omega) B2754 hIB2754 hJB2754 y2742 y2743 y2744 y2745 y2746 y2747 y2748 (by first | with_reducible assumption | omega) (by first | with_reducible assumption | omega) (by first | with_reducible assumption | omega) zp2750 zp2756) (fun H2791 r2792 => ?_)
            obtain ⟨y2793, y2794, rfl, zp2795⟩ := r2792
            rw [kv2790] at zp2795
            obtain ⟨-, rbzp2795, -, rdzp2795, -, -⟩ := id zp2795
            have nzp2795 := pF_ne (T := T) (g := (pLn1 c T (pSg a1.toInt T g))) (n := 1) (by first | with_reducible assumption | omega)
            refine g_nop ?_
            refine g_aload_n rfl ?_
            refine g_invvv (mS_I hIB2754 (by first | with_reducible assumption | omega) (by first | with_reducible assumption | omega) (by first | with_reducible assumption | omega)) sm_0 rfl rfl rfl rfl (f_162 B2754 hIB2754 hJB2754 y2742 y2743 y2744 y2745 y2746 y2793 y2794 (by first | with_reducible assumption | omega) (by first | with_reducible assumption | omega) (by first | with_reducible assumption | omega) zp2750 zp2795) (fun H2796 r2797 => ?_)
            obtain ⟨y2798, y2799, y2800, y2801, y2802, rfl, by2798, by2799, by2800, zp2803⟩ := r2797
            obtain ⟨-, rbzp2803, -, rdzp2803, -, -⟩ := id zp2803
            have nzp2803 := gn_f (T := T) (g := (pFail T 1 (pLn1 c T (pSg a1.toInt T g))))
            have al2804 : pLn c T (pSg a1.toInt T g) = (pGn T (pFail T 1 (pLn1 c T (pSg a1.toInt T g)))) := by unfold pLn; exact tk_n (by first | with_reducible assumption | omega)
            have zp2805 := zp2803
            rw [← al2804] at zp2805
            rw [← al2804] at nzp2803
            obtain ⟨-, rbzp2805, -, rdzp2805, -, -⟩ := id zp2805
            refine g_aload_n rfl ?_
            refine g_dup rfl ?_
            refine g_gfi (mS_I hIB2754 (by first | with_reducible assumption | omega) (by first | with_reducible assumption | omega) (by first | with_reducible assumption | omega)) sm_0 rfl (fun v2806 ev2806 lv2806 uv2806 => ?_)
            have iv2806 : v2806.toInt = (fZ B2754 0 19).toInt := by rw [ev2806, ← mS_o (by decide)]
            have l19v2806 : (fZ B2754 0 19).toInt = (fZ H 0 19).toInt := by rw [zp2752.2 19 (by decide)]
            refine g_iconst (by decide) (fun v2807 kv2807 => ?_)
            refine g_iadd (by first | with_reducible assumption | omega) (fun v2808 ev2808 => ?_)
            refine g_pfi (mS_I hIB2754 (by first | with_reducible assumption | omega) (by first | with_reducible assumption | omega) (by first | with_reducible assumption | omega)) sm_0 rfl (gz_any _) (fun H2809 eH2809 hIH2809 => ?_)
            obtain ⟨B2810, eB2810⟩ : ∃ z, z = sF B2754 0 19 v2808 := ⟨_, rfl⟩
            obtain rfl : H2809 = (mS B2810 y2798 y2799 y2800 y2801 y2802 y2793 y2794) := by rw [eH2809, eB2810]; exact mS_cF (by decide)
            have hIB2810 : gI SM B2810 := by rw [eB2810]; exact gI_sF hIB2754 sm_0 rfl (gz_any _)
            have hJB2810 : JN B2810 := JN_sF eB2810 hJB2754
            have frB2810 : frL H B2810 := frL_mk zp2752 eB2810
            have tkB2810 : tkM B2810 b n T := tkM_19 zp2750 eB2810
            exact g_ret ⟨rfl, B2810, y2798, y2799, y2800, y2801, y2802, y2793, y2794, rfl, hIB2810, hJB2810, (by first | with_reducible assumption | omega), (by first | with_reducible assumption | omega), (by first | with_reducible assumption | omega), zp2805, tkB2810, (bkl zp2751 eB2810 (by rw [sg_id (by first | with_reducible assumption | omega), l1_3 (by first | with_reducible assumption | omega)]) (by rw [sg_id (by first | with_reducible assumption | omega), b1_3 (by first | with_reducible assumption | omega)])), frB2810, (by rw [eB2810, fZ_sF_eq hIB2754 sm_0 rfl]; omega), ((wM_F eB2810).trans (by unfold mLn; rw [sg_id (by first | with_reducible assumption | omega), if_neg (by first | with_reducible assumption | omega)]; exact zp2753))⟩
theorem uW_cg {H B : mzH} (h : ∀ i, aZ B 2 i = aZ H 2 i) : uW B = uW H := by
  funext k
  unfold uW
  rw [h]
set_option maxRecDepth 4000 in
set_option maxHeartbeats 4000000 in
/-- M.becomes -/
theorem h_174 (H : mzH) (hI : gI SM H) (hJ : JN H) : gCall 174 [.ref 0] H (gRv (fun H' => gI SM H' ∧ JN H' ∧ fZ H' 0 2 = fZ H 0 2 ∧ (∀ i, i < 369 → aZ H' 2 i = aZ H 3 i) ∧ (∀ i, i < 8 → aZ H' 5 i = aZ H 4 i) ∧ (∀ f, f ≠ 18 → fZ H' 0 f = fZ H 0 f) ∧ fZ H' 0 18 = fZ H 0 17 ∧ (∀ i, aZ H' 1 i = aZ H 1 i) ∧ uX H' = fO (uW H') 8)) := by
  obtain ⟨k0_2, ek0_2⟩ : ∃ z, z = fZ H 0 2 := ⟨_, rfl⟩
  have ik0_2 : k0_2.toInt = (fZ H 0 2).toInt := by rw [← ek0_2]
  have bk0_2 : 0 ≤ k0_2.toInt ∧ k0_2.toInt ≤ 900 := by rw [ek0_2]; exact fZ_of hI sm_0 rfl
  have mkF : ∀ a f, fZ H a f = fZ H a f := fun _ _ => rfl
  have mk1 : ∀ i, aZ H 1 i = aZ H 1 i := fun _ => rfl
  have mk3 : ∀ i, aZ H 3 i = aZ H 3 i := fun _ => rfl
  have mk4 : ∀ i, aZ H 4 i = aZ H 4 i := fun _ => rfl
  have mk7 : ∀ i, aZ H 7 i = aZ H 7 i := fun _ => rfl
  have mk8 : ∀ i, aZ H 8 i = aZ H 8 i := fun _ => rfl
  have mk9 : ∀ i, aZ H 9 i = aZ H 9 i := fun _ => rfl
  refine gG_call [(0, .ref 0)] ⟨rfl, trivial⟩ ?_
  show gG 2 zB_174 (mzBlk zB_174 0) [(0, .ref 0)] [] H 0 0 _
  refine g_iconst (by decide) (fun v487 kv487 => ?_)
  refine g_istore_n (l' := [(0, .ref 0), (1, .int v487)]) rfl rfl ?_
  refine g_nop ?_
  have L498 : ∀ (N : Nat) (v488 : Int32) (H489 : mzH), gI SM H489 → k0_2 = fZ H489 0 2 → (∀ a f, fZ H489 a f = fZ H a f) → (∀ i, aZ H489 1 i = aZ H 1 i) → (∀ i, aZ H489 3 i = aZ H 3 i) → (∀ i, aZ H489 4 i = aZ H 4 i) → (∀ i, aZ H489 7 i = aZ H 7 i) → (∀ i, aZ H489 8 i = aZ H 8 i) → (∀ i, aZ H489 9 i = aZ H 9 i) → (0 ≤ v488.toInt ∧ v488.toInt ≤ 369) → (∀ i, i < v488.toInt.toNat → aZ H489 2 i = aZ H 3 i) → (369 - v488.toInt).toNat < N → gG 2 zB_174 (mzBlk zB_174 1) [(0, .ref 0), (1, .int v488)] [] H489 0 0 (gRv (fun H' => gI SM H' ∧ JN H' ∧ fZ H' 0 2 = fZ H 0 2 ∧ (∀ i, i < 369 → aZ H' 2 i = aZ H 3 i) ∧ (∀ i, i < 8 → aZ H' 5 i = aZ H 4 i) ∧ (∀ f, f ≠ 18 → fZ H' 0 f = fZ H 0 f) ∧ fZ H' 0 18 = fZ H 0 17 ∧ (∀ i, aZ H' 1 i = aZ H 1 i) ∧ uX H' = fO (uW H') 8)) := by
    intro N
    induction N with
    | zero => intro v488 H489 hIH489 e490 m491 m492 m493 m494 m495 m496 m497 bv488 q1 hmL498; exact absurd hmL498 (Nat.not_lt_zero _)
    | succ N ihL498 =>
      intro v488 H489 hIH489 e490 m491 m492 m493 m494 m495 m496 m497 bv488 q1 hmL498
      refine g_iload_n rfl ?_
      refine g_sipush (by decide) (fun v499 kv499 => ?_)
      refine g_if2_ge (fun c500 => ?_) (fun c500 => ?_)
      · have hJ501 : JN H489 := JN_cp2 hJ (fun i hi => q1 i (by first | with_reducible assumption | omega)) m493
        refine g_iconst (by decide) (fun v502 kv502 => ?_)
        refine g_istore_n (l' := [(0, .ref 0), (1, .int v502)]) rfl rfl ?_
        refine g_nop ?_
        have L513 : ∀ (N : Nat) (v503 : Int32) (H504 : mzH), gI SM H504 → JN H504 → k0_2 = fZ H504 0 2 → (∀ a f, fZ H504 a f = fZ H a f) → (∀ i, aZ H504 1 i = aZ H 1 i) → (∀ i, aZ H504 3 i = aZ H 3 i) → (∀ i, aZ H504 4 i = aZ H 4 i) → (∀ i, aZ H504 7 i = aZ H 7 i) → (∀ i, aZ H504 8 i = aZ H 8 i) → (∀ i, aZ H504 9 i = aZ H 9 i) → (0 ≤ v503.toInt ∧ v503.toInt ≤ 8) → (∀ i, i < 369 → aZ H504 2 i = aZ H 3 i) → (∀ i, i < v503.toInt.toNat → aZ H504 5 i = aZ H 4 i) → (8 - v503.toInt).toNat < N → gG 2 zB_174 (mzBlk zB_174 3) [(0, .ref 0), (1, .int v503)] [] H504 0 0 (gRv (fun H' => gI SM H' ∧ JN H' ∧ fZ H' 0 2 = fZ H 0 2 ∧ (∀ i, i < 369 → aZ H' 2 i = aZ H 3 i) ∧ (∀ i, i < 8 → aZ H' 5 i = aZ H 4 i) ∧ (∀ f, f ≠ 18 → fZ H' 0 f = fZ H 0 f) ∧ fZ H' 0 18 = fZ H 0 17 ∧ (∀ i, aZ H' 1 i = aZ H 1 i) ∧ uX H' = fO (uW H') 8)) := by
          intro N
          induction N with
          | zero => intro v503 H504 hIH504 hJH504 e505 m506 m507 m508 m509 m510 m511 m512 bv503 q1 q2 hmL513; exact absurd hmL513 (Nat.not_lt_zero _)
          | succ N ihL513 =>
            intro v503 H504 hIH504 hJH504 e505 m506 m507 m508 m509 m510 m511 m512 bv503 q1 q2 hmL513
            refine g_iload_n rfl ?_
            refine g_bipush (by decide) (fun v514 kv514 => ?_)
            refine g_if2_ge (fun c515 => ?_) (fun c515 => ?_)
            · refine g_aload_n rfl ?_
              refine g_aload_n rfl ?_
              refine g_gfi hIH504 sm_0 rfl (fun v516 ev516 lv516 uv516 => ?_)
              refine g_pfz hIH504 sm_0 rfl (by first | with_reducible assumption | omega) (fun H517 eH517 hIH517 => ?_)
              have hJH517 : JN H517 := JN_sF eH517 hJH504
              have e518 : k0_2 = fZ H517 0 2 := by rw [eH517, fZ_sF_ne (by decide)]; exact e505
              have m520 : ∀ i, aZ H517 1 i = aZ H 1 i := fun i => (by rw [eH517, aZ_sF] : aZ H517 1 i = aZ H504 1 i).trans (m507 i)
              have m521 : ∀ i, aZ H517 3 i = aZ H 3 i := fun i => (by rw [eH517, aZ_sF] : aZ H517 3 i = aZ H504 3 i).trans (m508 i)
              have m522 : ∀ i, aZ H517 4 i = aZ H 4 i := fun i => (by rw [eH517, aZ_sF] : aZ H517 4 i = aZ H504 4 i).trans (m509 i)
              have m523 : ∀ i, aZ H517 7 i = aZ H 7 i := fun i => (by rw [eH517, aZ_sF] : aZ H517 7 i = aZ H504 7 i).trans (m510 i)
              have m524 : ∀ i, aZ H517 8 i = aZ H 8 i := fun i => (by rw [eH517, aZ_sF] : aZ H517 8 i = aZ H504 8 i).trans (m511 i)
              have m525 : ∀ i, aZ H517 9 i = aZ H 9 i := fun i => (by rw [eH517, aZ_sF] : aZ H517 9 i = aZ H504 9 i).trans (m512 i)
              refine g_aload_n rfl ?_
              refine g_invvv hIH517 sm_0 rfl rfl rfl rfl (j_178 H517 hIH517 hJH517) (fun H526 r527 => ?_)
              obtain ⟨hIH526, hJH526, m528, m529, m530, m531, m532, m533, p534⟩ := r527
              have e535 : k0_2 = fZ H526 0 2 := e518.trans (m528 0 2).symm
              have m536 : ∀ i, aZ H526 1 i = aZ H 1 i := fun i => (m529 i).trans (m520 i)
              have m537 : ∀ i, aZ H526 3 i = aZ H 3 i := fun i => (m531 i).trans (m521 i)
              have m538 : ∀ i, aZ H526 4 i = aZ H 4 i := fun i => (m532 i).trans (m522 i)
              exact g_ret ⟨rfl, hIH526, hJH526, (e535.symm.trans ek0_2), (fun i hi => (m530 i).trans ((by rw [eH517, aZ_sF] : aZ H517 2 i = aZ H504 2 i).trans (q1 i hi))), (fun i hi => (m533 i).trans ((by rw [eH517, aZ_sF] : aZ H517 5 i = aZ H504 5 i).trans (q2 i (by first | with_reducible assumption | omega)))), (fun f hf => (m528 0 f).trans ((by rw [eH517, fZ_sF_ne (Ne.symm hf)] : fZ H517 0 f = fZ H504 0 f).trans (m506 0 f))), ((m528 0 18).trans ((by rw [eH517, fZ_sF_eq hIH504 sm_0 rfl] : fZ H517 0 18 = v516).trans (ev516.trans (m506 0 17)))), m536, (by rw [show uW H526 = uW H517 from uW_cg m530]; exact p534)⟩
            · refine g_aload_n rfl ?_
              refine g_gfr hIH504 sm_0 rfl ?_
              refine g_iload_n rfl ?_
              refine g_aload_n rfl ?_
              refine g_gfr hIH504 sm_0 rfl ?_
              refine g_iload_n rfl ?_
              refine g_iaload hIH504 sm_4 rfl (by first | with_reducible assumption | omega) (fun v539 ev539 lv539 uv539 => ?_)
              refine g_iastore hIH504 sm_5 (by first | with_reducible assumption | omega) (gz_any _) (fun H540 eH540 hIH540 => ?_)
              have hJH540 : JN H540 := JN_sA (by decide) eH540 hJH504
              have e541 : k0_2 = fZ H540 0 2 := by rw [eH540, fZ_sA]; exact e505
              have m542 : ∀ a f, fZ H540 a f = fZ H a f := fun a f => (by rw [eH540, fZ_sA] : fZ H540 a f = fZ H504 a f).trans (m506 a f)
              have m543 : ∀ i, aZ H540 1 i = aZ H 1 i := fun i => (by rw [eH540, aZ_sA_nc (by first | with_reducible assumption | omega)] : aZ H540 1 i = aZ H504 1 i).trans (m507 i)
              have m544 : ∀ i, aZ H540 3 i = aZ H 3 i := fun i => (by rw [eH540, aZ_sA_nc (by first | with_reducible assumption | omega)] : aZ H540 3 i = aZ H504 3 i).trans (m508 i)
              have m545 : ∀ i, aZ H540 4 i = aZ H 4 i := fun i => (by rw [eH540, aZ_sA_nc (by first | with_reducible assumption | omega)] : aZ H540 4 i = aZ H504 4 i).trans (m509 i)
              have m546 : ∀ i, aZ H540 7 i = aZ H 7 i := fun i => (by rw [eH540, aZ_sA_nc (by first | with_reducible assumption | omega)] : aZ H540 7 i = aZ H504 7 i).trans (m510 i)
              have m547 : ∀ i, aZ H540 8 i = aZ H 8 i := fun i => (by rw [eH540, aZ_sA_nc (by first | with_reducible assumption | omega)] : aZ H540 8 i = aZ H504 8 i).trans (m511 i)
              have m548 : ∀ i, aZ H540 9 i = aZ H 9 i := fun i => (by rw [eH540, aZ_sA_nc (by first | with_reducible assumption | omega)] : aZ H540 9 i = aZ H504 9 i).trans (m512 i)
              refine g_iinc (l' := (fun v549 => [(0, .ref 0), (1, .int v549)])) rfl rfl (by decide) (by first | with_reducible assumption | omega) (fun _ => rfl) (fun v549 ev549 => ?_)
              refine g_goto ?_
              exact ihL513 v549 H540 hIH540 hJH540 e541 m542 m543 m544 m545 m546 m547 m548 (by first | with_reducible assumption | omega) (fun i hi => by rw [eH540, aZ_sA_nc (by decide)]; exact q1 i hi) (fun q hq => by rw [eH540]; if e : v503.toInt.toNat = q then (subst e; rw [aZ_sA_eq hIH504 sm_5 (by first | with_reducible assumption | omega), ev539, m509]) else (rw [aZ_sA_ne e]; exact q2 q (by first | with_reducible assumption | omega))) (by first | with_reducible assumption | omega)
        exact L513 _ v502 H489 hIH489 hJ501 e490 m491 m492 m493 m494 m495 m496 m497 (by first | with_reducible assumption | omega) (fun i hi => q1 i (by first | with_reducible assumption | omega)) (fun i hi => absurd hi (by first | with_reducible assumption | omega)) (Nat.lt_succ_self _)
      · refine g_aload_n rfl ?_
        refine g_gfr hIH489 sm_0 rfl ?_
        refine g_iload_n rfl ?_
        refine g_aload_n rfl ?_
        refine g_gfr hIH489 sm_0 rfl ?_
        refine g_iload_n rfl ?_
        refine g_iaload hIH489 sm_3 rfl (by first | with_reducible assumption | omega) (fun v550 ev550 lv550 uv550 => ?_)
        refine g_iastore hIH489 sm_2 (by first | with_reducible assumption | omega) (gz_any _) (fun H551 eH551 hIH551 => ?_)
        have e552 : k0_2 = fZ H551 0 2 := by rw [eH551, fZ_sA]; exact e490
        have m553 : ∀ a f, fZ H551 a f = fZ H a f := fun a f => (by rw [eH551, fZ_sA] : fZ H551 a f = fZ H489 a f).trans (m491 a f)
        have m554 : ∀ i, aZ H551 1 i = aZ H 1 i := fun i => (by rw [eH551, aZ_sA_nc (by first | with_reducible assumption | omega)] : aZ H551 1 i = aZ H489 1 i).trans (m492 i)
        have m555 : ∀ i, aZ H551 3 i = aZ H 3 i := fun i => (by rw [eH551, aZ_sA_nc (by first | with_reducible assumption | omega)] : aZ H551 3 i = aZ H489 3 i).trans (m493 i)
        have m556 : ∀ i, aZ H551 4 i = aZ H 4 i := fun i => (by rw [eH551, aZ_sA_nc (by first | with_reducible assumption | omega)] : aZ H551 4 i = aZ H489 4 i).trans (m494 i)
        have m557 : ∀ i, aZ H551 7 i = aZ H 7 i := fun i => (by rw [eH551, aZ_sA_nc (by first | with_reducible assumption | omega)] : aZ H551 7 i = aZ H489 7 i).trans (m495 i)
        have m558 : ∀ i, aZ H551 8 i = aZ H 8 i := fun i => (by rw [eH551, aZ_sA_nc (by first | with_reducible assumption | omega)] : aZ H551 8 i = aZ H489 8 i).trans (m496 i)
        have m559 : ∀ i, aZ H551 9 i = aZ H 9 i := fun i => (by rw [eH551, aZ_sA_nc (by first | with_reducible assumption | omega)] : aZ H551 9 i = aZ H489 9 i).trans (m497 i)
        refine g_iinc (l' := (fun v560 => [(0, .ref 0), (1, .int v560)])) rfl rfl (by decide) (by first | with_reducible assumption | omega) (fun _ => rfl) (fun v560 ev560 => ?_)
        refine g_goto ?_
        exact ihL498 v560 H551 hIH551 e552 m553 m554 m555 m556 m557 m558 m559 (by first | with_reducible assumption | omega) (fun q hq => by rw [eH551]; if e : v488.toInt.toNat = q then (subst e; rw [aZ_sA_eq hIH489 sm_2 (by first | with_reducible assumption | omega), ev550, m493]) else (rw [aZ_sA_ne e]; exact q1 q (by first | with_reducible assumption | omega))) (by first | with_reducible assumption | omega)
  exact L498 _ v487 H hI ek0_2 mkF mk1 mk3 mk4 mk7 mk8 mk9 (by first | with_reducible assumption | omega) (fun q hq => absurd hq (by first | with_reducible assumption | omega)) (Nat.lt_succ_self _)
theorem h_174m (H : mzH) (hI : gI SM H) (hJ : JN H) (x0 x1 x2 x3 x4 x5 x6 : Int32) (hx0 : 0 ≤ x0.toInt ∧ x0.toInt ≤ 900) (hx1 : 0 ≤ x1.toInt ∧ x1.toInt ≤ 900) (hx2 : 0 ≤ x2.toInt ∧ x2.toInt ≤ 4) : gCall 174 [.ref 0] (mS H x0 x1 x2 x3 x4 x5 x6) (gRv (fun H' => ∃ B : mzH, H' = mS B x0 x1 x2 x3 x4 x5 x6 ∧ gI SM B ∧ JN B ∧ (∀ i, i < 369 → aZ B 2 i = aZ H 3 i) ∧ (∀ i, i < 8 → aZ B 5 i = aZ H 4 i) ∧ (∀ f, f ≠ 18 → (f < 8 ∨ 14 < f) → fZ B 0 f = fZ H 0 f) ∧ fZ B 0 18 = fZ H 0 17 ∧ (∀ i, aZ B 1 i = aZ H 1 i) ∧ uX B = fO (uW B) 8)) := by
  have hI1 : gI SM (mS H x0 x1 x2 x3 x4 x5 x6) := mS_I hI hx0 hx1 hx2
  refine gGo_mono (h_174 _ hI1 (mS_J hJ)) ?_
  rintro o H' ⟨rfl, hB, hJB, _, k1, k2, k3, k4, k5, k6⟩
  refine ⟨rfl, H', (mS_self hB ?_ ?_ ?_ ?_ ?_ ?_ ?_).symm, hB, hJB, fun i hi => ?_, fun i hi => ?_, fun f h1 h2 => ?_, ?_, fun i => ?_, k6⟩
  · rw [k3 8 (by decide)]; exact mS_g8 hI
  · rw [k3 9 (by decide)]; exact mS_g9 hI
  · rw [k3 10 (by decide)]; exact mS_g10 hI
  · rw [k3 11 (by decide)]; exact mS_g11 hI
  · rw [k3 12 (by decide)]; exact mS_g12 hI
  · rw [k3 13 (by decide)]; exact mS_g13 hI
  · rw [k3 14 (by decide)]; exact mS_g14 hI
  · rw [k1 i hi, mS_a]
  · rw [k2 i hi, mS_a]
  · rw [k3 f h1]; exact (mS_o (Or.inr ⟨by omega, by omega, by omega, by omega, by omega, by omega, by omega⟩)).symm
  · rw [k4]; exact (mS_o (by decide)).symm
  · rw [k5, mS_a]
set_option maxRecDepth 4000 in
set_option maxHeartbeats 4000000 in
/-- M.reads, exactly -/
theorem h_173 (a1 : Int32) (ha1 : 0 ≤ a1.toInt ∧ a1.toInt ≤ 900) (a2 : Int32) (ha2 : 0 ≤ a2.toInt ∧ a2.toInt ≤ 1) (H : mzH) (hI : gI SM H) (hJ : JN H) (x0 x1 x2 x3 x4 x5 x6 : Int32) (hx0 : 0 ≤ x0.toInt ∧ x0.toInt ≤ 900) (hx1 : 0 ≤ x1.toInt ∧ x1.toInt ≤ 900) (hx2 : 0 ≤ x2.toInt ∧ x2.toInt ≤ 4) {b : Nat → Int} {n : Nat} {T : pT} {c : pB} (hp0 : (∀ q, q < n → sgB (b q) (bM H q)) ∧ tkA b n T.K T.S T.V T.M) (hp1 : a1.toInt = (n : Int)) (hp2 : bkM H c) : gCall 173 [.ref 0, .int a1, .int a2] (mS H x0 x1 x2 x3 x4 x5 x6) (gRi (fun v H' => ∃ B : mzH, ∃ y0 y1 y2 y3 y4 y5 y6 : Int32, H' = mS B y0 y1 y2 y3 y4 y5 y6 ∧ gI SM B ∧ JN B ∧ (0 ≤ y0.toInt ∧ y0.toInt ≤ 900) ∧ (0 ≤ y1.toInt ∧ y1.toInt ≤ 900) ∧ (0 ≤ y2.toInt ∧ y2.toInt ≤ 4) ∧ rdTw H B a2.toInt T c v)) := by
  refine gG_call [(0, .ref 0), (1, .int a1), (2, .int a2)] ⟨rfl, rfl, rfl, trivial⟩ ?_
  show gG 3 zB_173 (mzBlk zB_173 0) [(0, .ref 0), (1, .int a1), (2, .int a2)] [] (mS H x0 x1 x2 x3 x4 x5 x6) 0 0 _
  refine g_aload_n rfl ?_
  refine g_iload_n rfl ?_
  refine g_pfi (mS_I hI (by first | with_reducible assumption | omega) (by first | with_reducible assumption | omega) (by first | with_reducible assumption | omega)) sm_0 rfl (by first | with_reducible assumption | omega) (fun H321 eH321 hIH321 => ?_)
  obtain ⟨B322, eB322⟩ : ∃ z, z = sF H 0 7 a1 := ⟨_, rfl⟩
  obtain rfl : H321 = (mS B322 x0 x1 x2 x3 x4 x5 x6) := by rw [eH321, eB322]; exact mS_cF (by decide)
  have hIB322 : gI SM B322 := by rw [eB322]; exact gI_sF hI sm_0 rfl (by first | with_reducible assumption | omega)
  have hJB322 : JN B322 := JN_sF eB322 hJ
  have frB322 : frL H B322 := frL_F frL_r eB322 (by decide)
  have bkB322 : bkM B322 c := bkM_F hp2 eB322 (by decide)
  have wmB322 : wM B322 = wM H := wM_F eB322
  have jB322_0_7 : (fZ B322 0 7).toInt = a1.toInt := by rw [eB322, fZ_sF_eq hI sm_0 rfl]
  have jB322_0_19 : (fZ B322 0 19).toInt = (fZ H 0 19).toInt := by rw [eB322, fZ_sF_ne (by decide)]
  refine g_aload_n rfl ?_
  refine g_iconst (by decide) (fun v323 kv323 => ?_)
  refine g_pfi (mS_I hIB322 (by first | with_reducible assumption | omega) (by first | with_reducible assumption | omega) (by first | with_reducible assumption | omega)) sm_0 rfl (by first | with_reducible assumption | omega) (fun H324 eH324 hIH324 => ?_)
  obtain rfl : H324 = (mS B322 v323 x1 x2 x3 x4 x5 x6) := eH324.trans (mS_s8 hIB322)
  refine g_aload_n rfl ?_
  refine g_iconst (by decide) (fun v325 kv325 => ?_)
  refine g_pfi (mS_I hIB322 (by first | with_reducible assumption | omega) (by first | with_reducible assumption | omega) (by first | with_reducible assumption | omega)) sm_0 rfl (gz_any _) (fun H326 eH326 hIH326 => ?_)
  obtain rfl : H326 = (mS B322 v323 x1 x2 x3 x4 v325 x6) := eH326.trans (mS_s13 hIB322)
  refine g_aload_n rfl ?_
  refine g_iconst (by decide) (fun v327 kv327 => ?_)
  refine g_pfi (mS_I hIB322 (by first | with_reducible assumption | omega) (by first | with_reducible assumption | omega) (by first | with_reducible assumption | omega)) sm_0 rfl (gz_any _) (fun H328 eH328 hIH328 => ?_)
  obtain ⟨B329, eB329⟩ : ∃ z, z = sF B322 0 19 v327 := ⟨_, rfl⟩
  obtain rfl : H328 = (mS B329 v323 x1 x2 x3 x4 v325 x6) := by rw [eH328, eB329]; exact mS_cF (by decide)
  have hIB329 : gI SM B329 := by rw [eB329]; exact gI_sF hIB322 sm_0 rfl (gz_any _)
  have hJB329 : JN B329 := JN_sF eB329 hJB322
  have frB329 : frL H B329 := frL_F frB322 eB329 (by decide)
  have bkB329 : bkM B329 c := bkM_F bkB322 eB329 (by decide)
  have wmB329 : wM B329 = wM B322 := wM_F eB329
  have jB329_0_7 : (fZ B329 0 7).toInt = (fZ B322 0 7).toInt := by rw [eB329, fZ_sF_ne (by decide)]
  have jB329_0_19 : (fZ B329 0 19).toInt = v327.toInt := by rw [eB329, fZ_sF_eq hIB322 sm_0 rfl]
  refine g_aload_n rfl ?_
  refine g_invvv (mS_I hIB329 (by first | with_reducible assumption | omega) (by first | with_reducible assumption | omega) (by first | with_reducible assumption | omega)) sm_0 rfl rfl rfl rfl (f_159 B329 hIB329 hJB329 v323 x1 x2 x3 x4 v325 x6 (by first | with_reducible assumption | omega) (by first | with_reducible assumption | omega) (by first | with_reducible assumption | omega) (by first | with_reducible assumption | omega)) (fun H330 r331 => ?_)
  obtain ⟨y332, y333, y334, y335, y336, rfl, by332, by333, by334, zp337⟩ := r331
  refine g_nop ?_
  have L346 : ∀ (N : Nat) (z338 : Int32) (z339 : Int32) (z340 : Int32) (z341 : Int32) (z342 : Int32) (z343 : Int32) (z344 : Int32) (B345 : mzH), (0 ≤ z338.toInt ∧ z338.toInt ≤ 900) → (0 ≤ z339.toInt ∧ z339.toInt ≤ 900) → (0 ≤ z340.toInt ∧ z340.toInt ≤ 4) → gI SM B345 → JN B345 → frL H B345 → tkM B345 b n T → ((pIt a2.toInt T (fZ B345 0 19).toInt.toNat c).2.f ≠ 0 ∨ bkM B345 (pIt a2.toInt T (fZ B345 0 19).toInt.toNat c).1) → rdM b n T (pIt a2.toInt T (fZ B345 0 19).toInt.toNat c).2 z338 z339 z340 z341 z342 z343 z344 → pGoes a2.toInt T c (fZ B345 0 19).toInt.toNat → (0 ≤ (fZ B345 0 19).toInt ∧ (fZ B345 0 19).toInt ≤ 900) → wM B345 = mIt a2.toInt T (fZ B345 0 19).toInt.toNat c (wM H) → (900 - (fZ B345 0 19).toInt).toNat < N → gG 3 zB_173 (mzBlk zB_173 1) [(0, .ref 0), (1, .int a1), (2, .int a2)] [] (mS B345 z338 z339 z340 z341 z342 z343 z344) 0 0 (gRi (fun v H' => ∃ B : mzH, ∃ y0 y1 y2 y3 y4 y5 y6 : Int32, H' = mS B y0 y1 y2 y3 y4 y5 y6 ∧ gI SM B ∧ JN B ∧ (0 ≤ y0.toInt ∧ y0.toInt ≤ 900) ∧ (0 ≤ y1.toInt ∧ y1.toInt ≤ 900) ∧ (0 ≤ y2.toInt ∧ y2.toInt ≤ 4) ∧ rdTw H B a2.toInt T c v)) := by
    intro N
    induction N with
    | zero => intro z338 z339 z340 z341 z342 z343 z344 B345 bz338 bz339 bz340 hIB345 hJB345 q0 q1 q2 q3 q4 q5 q6 hmL346; exact absurd hmL346 (Nat.not_lt_zero _)
    | succ N ihL346 =>
      intro z338 z339 z340 z341 z342 z343 z344 B345 bz338 bz339 bz340 hIB345 hJB345 q0 q1 q2 q3 q4 q5 q6 hmL346
      obtain ⟨-, rbq, -, rdq, rpq, -⟩ := id q3
      have rpq := bx.mk rpq
      have ke := kr_e rbq
      refine g_aload_n rfl ?_
      refine g_gfk (mS_I hIB345 (by first | with_reducible assumption | omega) (by first | with_reducible assumption | omega) (by first | with_reducible assumption | omega)) sm_0 rfl (mS_g13 hIB345) ?_
      refine g_if_ne (fun c347 => ?_) (fun c347 => ?_)
      · have hst : pStop T (pIt a2.toInt T (fZ B345 0 19).toInt.toNat c).2 := Or.inl (by first | with_reducible assumption | omega)
        refine g_aload_n rfl ?_
        refine g_iconst (by decide) (fun v348 kv348 => ?_)
        refine g_pfi (mS_I hIB345 (by first | with_reducible assumption | omega) (by first | with_reducible assumption | omega) (by first | with_reducible assumption | omega)) sm_0 rfl (by first | with_reducible assumption | omega) (fun H349 eH349 hIH349 => ?_)
        obtain ⟨B350, eB350⟩ : ∃ z, z = sF B345 0 2 v348 := ⟨_, rfl⟩
        obtain rfl : H349 = (mS B350 z338 z339 z340 z341 z342 z343 z344) := by rw [eH349, eB350]; exact mS_cF (by decide)
        have hIB350 : gI SM B350 := by rw [eB350]; exact gI_sF hIB345 sm_0 rfl (by first | with_reducible assumption | omega)
        have hJB350 : JN B350 := JN_sF eB350 hJB345
        have jB350_0_7 : (fZ B350 0 7).toInt = (fZ B345 0 7).toInt := by rw [eB350, fZ_sF_ne (by decide)]
        have jB350_0_19 : (fZ B350 0 19).toInt = (fZ B345 0 19).toInt := by rw [eB350, fZ_sF_ne (by decide)]
        refine g_aload_n rfl ?_
        refine g_aload_n rfl ?_
        refine g_gfk (mS_I hIB350 (by first | with_reducible assumption | omega) (by first | with_reducible assumption | omega) (by first | with_reducible assumption | omega)) sm_0 rfl (mS_g13 hIB350) ?_
        refine g_pfi (mS_I hIB350 (by first | with_reducible assumption | omega) (by first | with_reducible assumption | omega) (by first | with_reducible assumption | omega)) sm_0 rfl (gz_any _) (fun H351 eH351 hIH351 => ?_)
        obtain ⟨B352, eB352⟩ : ∃ z, z = sF B350 0 15 z343 := ⟨_, rfl⟩
        obtain rfl : H351 = (mS B352 z338 z339 z340 z341 z342 z343 z344) := by rw [eH351, eB352]; exact mS_cF (by decide)
        have hIB352 : gI SM B352 := by rw [eB352]; exact gI_sF hIB350 sm_0 rfl (gz_any _)
        have hJB352 : JN B352 := JN_sF eB352 hJB350
        have jB352_0_7 : (fZ B352 0 7).toInt = (fZ B350 0 7).toInt := by rw [eB352, fZ_sF_ne (by decide)]
        have jB352_0_19 : (fZ B352 0 19).toInt = (fZ B350 0 19).toInt := by rw [eB352, fZ_sF_ne (by decide)]
        refine g_aload_n rfl ?_
        refine g_aload_n rfl ?_
        refine g_gfk (mS_I hIB352 (by first | with_reducible assumption | omega) (by first | with_reducible assumption | omega) (by first | with_reducible assumption | omega)) sm_0 rfl (mS_g13 hIB352) ?_
        refine g_if_ne (fun c353 => ?_) (fun c353 => ?_)
        · refine g_aload_n rfl ?_
          refine g_gfk (mS_I hIB352 (by first | with_reducible assumption | omega) (by first | with_reducible assumption | omega) (by first | with_reducible assumption | omega)) sm_0 rfl (mS_g14 hIB352) ?_
          refine g_nop ?_
          refine g_pfi (mS_I hIB352 (by first | with_reducible assumption | omega) (by first | with_reducible assumption | omega) (by first | with_reducible assumption | omega)) sm_0 rfl (gz_any _) (fun H354 eH354 hIH354 => ?_)
          obtain ⟨B355, eB355⟩ : ∃ z, z = sF B352 0 16 z344 := ⟨_, rfl⟩
          obtain rfl : H354 = (mS B355 z338 z339 z340 z341 z342 z343 z344) := by rw [eH354, eB355]; exact mS_cF (by decide)
          have hIB355 : gI SM B355 := by rw [eB355]; exact gI_sF hIB352 sm_0 rfl (gz_any _)
          have hJB355 : JN B355 := JN_sF eB355 hJB352
          have jB355_0_7 : (fZ B355 0 7).toInt = (fZ B352 0 7).toInt := by rw [eB355, fZ_sF_ne (by decide)]
          have jB355_0_19 : (fZ B355 0 19).toInt = (fZ B352 0 19).toInt := by rw [eB355, fZ_sF_ne (by decide)]
          refine g_aload_n rfl ?_
          refine g_gfk (mS_I hIB355 (by first | with_reducible assumption | omega) (by first | with_reducible assumption | omega) (by first | with_reducible assumption | omega)) sm_0 rfl (mS_g13 hIB355) ?_
          refine g_if_eq (fun c356 => ?_) (fun c356 => ?_)
          · exfalso; omega
          · refine g_iconst (by decide) (fun v357 kv357 => ?_)
            exact g_iret ⟨_, rfl, B355, z338, z339, z340, z341, z342, z343, z344, rfl, hIB355, hJB355, (by first | with_reducible assumption | omega), (by first | with_reducible assumption | omega), (by first | with_reducible assumption | omega), (rd_fin1w q0 eB350 eB352 eB355 hIB345 hIB350 hIB352 q4 hst (by first | with_reducible assumption | omega) (by first | with_reducible assumption | omega) (by have := bx.op rpq; omega) (by first | with_reducible assumption | omega) (by first | with_reducible assumption | omega))⟩
        · refine g_iconst (by decide) (fun v358 kv358 => ?_)
          refine g_goto ?_
          refine g_pfi (mS_I hIB352 (by first | with_reducible assumption | omega) (by first | with_reducible assumption | omega) (by first | with_reducible assumption | omega)) sm_0 rfl (gz_any _) (fun H359 eH359 hIH359 => ?_)
          obtain ⟨B360, eB360⟩ : ∃ z, z = sF B352 0 16 v358 := ⟨_, rfl⟩
          obtain rfl : H359 = (mS B360 z338 z339 z340 z341 z342 z343 z344) := by rw [eH359, eB360]; exact mS_cF (by decide)
          have hIB360 : gI SM B360 := by rw [eB360]; exact gI_sF hIB352 sm_0 rfl (gz_any _)
          have hJB360 : JN B360 := JN_sF eB360 hJB352
          have jB360_0_7 : (fZ B360 0 7).toInt = (fZ B352 0 7).toInt := by rw [eB360, fZ_sF_ne (by decide)]
          have jB360_0_19 : (fZ B360 0 19).toInt = (fZ B352 0 19).toInt := by rw [eB360, fZ_sF_ne (by decide)]
          refine g_aload_n rfl ?_
          refine g_gfk (mS_I hIB360 (by first | with_reducible assumption | omega) (by first | with_reducible assumption | omega) (by first | with_reducible assumption | omega)) sm_0 rfl (mS_g13 hIB360) ?_
          refine g_if_eq (fun c361 => ?_) (fun c361 => ?_)
          · exfalso; omega
          · exfalso; omega
      · refine g_aload_n rfl ?_
        refine g_gfk (mS_I hIB345 (by first | with_reducible assumption | omega) (by first | with_reducible assumption | omega) (by first | with_reducible assumption | omega)) sm_0 rfl (mS_g10 hIB345) ?_
        refine g_iconst (by decide) (fun v362 kv362 => ?_)
        refine g_if2_eq (fun c363 => ?_) (fun c363 => ?_)
        · have hst : pStop T (pIt a2.toInt T (fZ B345 0 19).toInt.toNat c).2 := Or.inr (by first | with_reducible assumption | omega)
          refine g_aload_n rfl ?_
          refine g_iconst (by decide) (fun v364 kv364 => ?_)
          refine g_pfi (mS_I hIB345 (by first | with_reducible assumption | omega) (by first | with_reducible assumption | omega) (by first | with_reducible assumption | omega)) sm_0 rfl (by first | with_reducible assumption | omega) (fun H365 eH365 hIH365 => ?_)
          obtain ⟨B366, eB366⟩ : ∃ z, z = sF B345 0 2 v364 := ⟨_, rfl⟩
          obtain rfl : H365 = (mS B366 z338 z339 z340 z341 z342 z343 z344) := by rw [eH365, eB366]; exact mS_cF (by decide)
          have hIB366 : gI SM B366 := by rw [eB366]; exact gI_sF hIB345 sm_0 rfl (by first | with_reducible assumption | omega)
          have hJB366 : JN B366 := JN_sF eB366 hJB345
          have jB366_0_7 : (fZ B366 0 7).toInt = (fZ B345 0 7).toInt := by rw [eB366, fZ_sF_ne (by decide)]
          have jB366_0_19 : (fZ B366 0 19).toInt = (fZ B345 0 19).toInt := by rw [eB366, fZ_sF_ne (by decide)]
          refine g_aload_n rfl ?_
          refine g_aload_n rfl ?_
          refine g_gfk (mS_I hIB366 (by first | with_reducible assumption | omega) (by first | with_reducible assumption | omega) (by first | with_reducible assumption | omega)) sm_0 rfl (mS_g13 hIB366) ?_
          refine g_pfi (mS_I hIB366 (by first | with_reducible assumption | omega) (by first | with_reducible assumption | omega) (by first | with_reducible assumption | omega)) sm_0 rfl (gz_any _) (fun H367 eH367 hIH367 => ?_)
          obtain ⟨B368, eB368⟩ : ∃ z, z = sF B366 0 15 z343 := ⟨_, rfl⟩
          obtain rfl : H367 = (mS B368 z338 z339 z340 z341 z342 z343 z344) := by rw [eH367, eB368]; exact mS_cF (by decide)
          have hIB368 : gI SM B368 := by rw [eB368]; exact gI_sF hIB366 sm_0 rfl (gz_any _)
          have hJB368 : JN B368 := JN_sF eB368 hJB366
          have jB368_0_7 : (fZ B368 0 7).toInt = (fZ B366 0 7).toInt := by rw [eB368, fZ_sF_ne (by decide)]
          have jB368_0_19 : (fZ B368 0 19).toInt = (fZ B366 0 19).toInt := by rw [eB368, fZ_sF_ne (by decide)]
          refine g_aload_n rfl ?_
          refine g_aload_n rfl ?_
          refine g_gfk (mS_I hIB368 (by first | with_reducible assumption | omega) (by first | with_reducible assumption | omega) (by first | with_reducible assumption | omega)) sm_0 rfl (mS_g13 hIB368) ?_
          refine g_if_ne (fun c369 => ?_) (fun c369 => ?_)
          · exfalso; omega
          · refine g_iconst (by decide) (fun v370 kv370 => ?_)
            refine g_goto ?_
            refine g_pfi (mS_I hIB368 (by first | with_reducible assumption | omega) (by first | with_reducible assumption | omega) (by first | with_reducible assumption | omega)) sm_0 rfl (gz_any _) (fun H371 eH371 hIH371 => ?_)
            obtain ⟨B372, eB372⟩ : ∃ z, z = sF B368 0 16 v370 := ⟨_, rfl⟩
            obtain rfl : H371 = (mS B372 z338 z339 z340 z341 z342 z343 z344) := by rw [eH371, eB372]; exact mS_cF (by decide)
            have hIB372 : gI SM B372 := by rw [eB372]; exact gI_sF hIB368 sm_0 rfl (gz_any _)
            have hJB372 : JN B372 := JN_sF eB372 hJB368
            have jB372_0_7 : (fZ B372 0 7).toInt = (fZ B368 0 7).toInt := by rw [eB372, fZ_sF_ne (by decide)]
            have jB372_0_19 : (fZ B372 0 19).toInt = (fZ B368 0 19).toInt := by rw [eB372, fZ_sF_ne (by decide)]
            refine g_aload_n rfl ?_
            refine g_gfk (mS_I hIB372 (by first | with_reducible assumption | omega) (by first | with_reducible assumption | omega) (by first | with_reducible assumption | omega)) sm_0 rfl (mS_g13 hIB372) ?_
            refine g_if_eq (fun c373 => ?_) (fun c373 => ?_)
            · refine g_aload_n rfl ?_
              refine g_invvv (mS_I hIB372 (by first | with_reducible assumption | omega) (by first | with_reducible assumption | omega) (by first | with_reducible assumption | omega)) sm_0 rfl rfl rfl rfl (h_174m B372 hIB372 hJB372 z338 z339 z340 z341 z342 z343 z344 (by first | with_reducible assumption | omega) (by first | with_reducible assumption | omega) (by first | with_reducible assumption | omega)) (fun H374 r375 => ?_)
              obtain ⟨B382, rfl, hIB382, hJB382, zp376, zp377, zp378, zp379, zp380, zp381⟩ := r375
              refine g_aload_n rfl ?_
              refine g_gfi (mS_I hIB382 (by first | with_reducible assumption | omega) (by first | with_reducible assumption | omega) (by first | with_reducible assumption | omega)) sm_0 rfl (fun v383 ev383 lv383 uv383 => ?_)
              have iv383 : v383.toInt = (fZ B382 0 19).toInt := by rw [ev383, ← mS_o (by decide)]
              exact g_iret ⟨_, rfl, B382, z338, z339, z340, z341, z342, z343, z344, rfl, hIB382, hJB382, (by first | with_reducible assumption | omega), (by first | with_reducible assumption | omega), (by first | with_reducible assumption | omega), (rd_fin2w q6 q0 eB366 eB368 eB372 hIB345 hIB366 hIB368 q4 hst (q2.resolve_left (by first | with_reducible assumption | omega)) (JN_n30 hJB345 rfl) (JN_n32 hJB345 rfl) (by first | with_reducible assumption | omega) (by first | with_reducible assumption | omega) (by first | with_reducible assumption | omega) (by first | with_reducible assumption | omega) (by first | with_reducible assumption | omega) zp376 zp377 zp378 zp379 zp380 zp381)⟩
            · exfalso; omega
        · refine g_aload_n rfl ?_
          refine g_iload_n rfl ?_
          refine g_invvv (mS_I hIB345 (by first | with_reducible assumption | omega) (by first | with_reducible assumption | omega) (by first | with_reducible assumption | omega)) sm_0 rfl rfl rfl rfl (h_171 a2 (by first | with_reducible assumption | omega) B345 hIB345 hJB345 z338 z339 z340 z341 z342 z343 z344 (by first | with_reducible assumption | omega) (by first | with_reducible assumption | omega) (by first | with_reducible assumption | omega) q1 q3 (q2.resolve_left (by first | with_reducible assumption | omega)) (by first | with_reducible assumption | omega) (by first | with_reducible assumption | omega)) (fun H384 r385 => ?_)
          obtain ⟨B399, y386, y387, y388, y389, y390, y391, y392, rfl, hIB399, hJB399, by386, by387, by388, zp393, zp394, zp395, zp396, zp397, zp398⟩ := r385
          obtain ⟨-, rbzp393, -, rdzp393, -, -⟩ := id zp393
          have lim := it_lim q4 hp0.2 (by first | with_reducible assumption | omega) (by first | with_reducible assumption | omega)
          refine g_goto ?_
          exact ihL346 y386 y387 y388 y389 y390 y391 y392 B399 (by first | with_reducible assumption | omega) (by first | with_reducible assumption | omega) (by first | with_reducible assumption | omega) hIB399 hJB399 (frL_t q0 zp396) zp394 (by rw [it_st (n := (fZ B345 0 19).toInt.toNat) (by first | with_reducible assumption | omega)]; exact zp395) (by rw [it_st (n := (fZ B345 0 19).toInt.toNat) (by first | with_reducible assumption | omega)]; exact zp393) (gs_st q4 (by first | with_reducible assumption | omega) (fun h => by unfold pStop at h; omega)) (by first | with_reducible assumption | omega) (by rw [mi_st (n := (fZ B345 0 19).toInt.toNat) (by first | with_reducible assumption | omega), zp398, q6]) (by first | with_reducible assumption | omega)
  exact L346 _ y332 y333 y334 y335 y336 v325 x6 B329 (by first | with_reducible assumption | omega) (by first | with_reducible assumption | omega) (by first | with_reducible assumption | omega) hIB329 hJB329 frB329 (tk_0m hp0 frB329 (by first | with_reducible assumption | omega)) (Or.inr (by rw [it_0 (by first | with_reducible assumption | omega)]; exact bkB329)) (by rw [it_0 (by first | with_reducible assumption | omega)]; exact rd_0m (tk_0m hp0 frB329 (by first | with_reducible assumption | omega)) (by first | with_reducible assumption | omega) (by first | with_reducible assumption | omega) (by first | with_reducible assumption | omega) zp337) (gs_0 (by first | with_reducible assumption | omega)) (by first | with_reducible assumption | omega) (by rw [mi_0 (by first | with_reducible assumption | omega), wmB329, wmB322]) (Nat.lt_succ_self _)
theorem rdTw_mS {H B : mzH} {told : Int} {T : pT} {c : pB} {v x0 x1 x2 x3 x4 x5 x6 : Int32} (h : rdTw H B told T c v) : rdTw H (mS B x0 x1 x2 x3 x4 x5 x6) told T c v := by
  have o : ∀ f, (f ≠ 8 ∧ f ≠ 9 ∧ f ≠ 10 ∧ f ≠ 11 ∧ f ≠ 12 ∧ f ≠ 13 ∧ f ≠ 14) → fZ (mS B x0 x1 x2 x3 x4 x5 x6) 0 f = fZ B 0 f := fun f hf => (mS_o (Or.inr hf)).symm
  have oW : uW (mS B x0 x1 x2 x3 x4 x5 x6) = uW B := by
    funext k
    unfold uW
    rw [mS_a]
  have oX : uX (mS B x0 x1 x2 x3 x4 x5 x6) = uX B := by
    funext k
    unfold uX
    rw [mS_a]
  obtain ⟨k, h1, h2, h3, h4, h5⟩ := h
  refine ⟨k, h1, h2, by rw [o 2 (by decide)]; exact h3, by rw [o 15 (by decide)]; exact h4, ?_⟩
  rcases h5 with ⟨a1, a2, a3, ⟨a4, a5, a6⟩, a7⟩ | ⟨a1, a2, a3, a4, a5, a6⟩
  · exact Or.inl ⟨a1, a2, by rw [o 16 (by decide)]; exact a3, ⟨fun i => by rw [mS_a]; exact a4 i, fun i => by rw [mS_a]; exact a5 i, by rw [o 18 (by decide)]; exact a6⟩, fun i => by rw [mS_a]; exact a7 i⟩
  · refine Or.inr ⟨a1, a2, by rw [o 16 (by decide)]; exact a3, ?_, fun q hq => by rw [oW]; exact a5 q hq, by rw [oX, oW]; exact a6⟩
    unfold bkW bkG at a4 ⊢
    simp only [mS_a, o 18 (by decide)]
    exact a4
theorem k_173 {b : Nat → Int} {n : Nat} {T : pT} {c : pB} (a1 : Int32) (ha1 : 0 ≤ a1.toInt ∧ a1.toInt ≤ 900) (a2 : Int32) (ha2 : 0 ≤ a2.toInt ∧ a2.toInt ≤ 1) (H : mzH) (hI : gI SM H) (hJ : JN H) (hp0 : (∀ q, q < n → sgB (b q) (bM H q)) ∧ tkA b n T.K T.S T.V T.M) (hp1 : a1.toInt = (n : Int)) (hp2 : bkM H c) : gCall 173 [.ref 0, .int a1, .int a2] H (gRi (fun v H' => gI SM H' ∧ JN H' ∧ rdTw H H' a2.toInt T c v)) := by
  have key := h_173 a1 ha1 a2 ha2 H hI hJ (fZ H 0 8) (fZ H 0 9) (fZ H 0 10) (fZ H 0 11) (fZ H 0 12) (fZ H 0 13) (fZ H 0 14) (fZ_of hI sm_0 rfl) (fZ_of hI sm_0 rfl) (fZ_of hI sm_0 rfl) hp0 hp1 hp2
  rw [mS_self hI rfl rfl rfl rfl rfl rfl rfl] at key
  refine gGo_mono key ?_
  rintro o H' ⟨v, rfl, B, y0, y1, y2, y3, y4, y5, y6, rfl, hB, hJB, b0, b1, b2, h⟩
  exact ⟨v, rfl, mS_I hB b0 b1 b2, mS_J hJB, rdTw_mS h⟩
