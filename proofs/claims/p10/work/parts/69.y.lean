/-- a fact kept shut -/
def bx (p : Prop) : Prop := p
theorem bx.mk {p : Prop} (h : p) : bx p := h
theorem bx.op {p : Prop} (h : bx p) : p := h
/-- what a line may touch -/
def frM (H B : mzH) : Prop := (∀ c, c ≠ 0 → c ≠ 3 → c ≠ 4 → B[c]? = H[c]?) ∧ ∀ f, f ≠ 17 → fZ B 0 f = fZ H 0 f
theorem frM_r {H : mzH} : frM H H := ⟨fun _ _ _ _ => rfl, fun _ _ => rfl⟩
theorem frM_t {H B B1 : mzH} (h : frM H B) (g : frM B B1) : frM H B1 := ⟨fun c a b d => (g.1 c a b d).trans (h.1 c a b d), fun f hf => (g.2 f hf).trans (h.2 f hf)⟩
theorem frM_A {H B B1 : mzH} {a i : Nat} {v : Int32} (m : frM H B) (e : B1 = sA B a i v) (h : a = 3 ∨ a = 4) : frM H B1 := frM_t m ⟨fun c _ _ _ => by rw [e, c_sA (by omega)], fun f _ => by rw [e, fZ_sA]⟩
theorem frM_F {H B B1 : mzH} {f : Nat} {v : Int32} (m : frM H B) (e : B1 = sF B 0 f v) (h : f = 17) : frM H B1 := frM_t m ⟨fun c _ _ _ => by rw [e, c_sF (by omega)], fun g _ => by rw [e, fZ_sF_ne (by omega)]⟩
theorem tkM_fr {H B : mzH} {b : Nat → Int} {n : Nat} {T : pT} (h : tkM H b n T) (f : frM H B) : tkM B b n T := by
  refine ⟨fun q hq => ?_, h.2.1, ?_⟩
  · unfold bM
    rw [aZ_cg (f.1 1 (by decide) (by decide) (by decide))]
    exact h.1 q hq
  · rw [f.2 7 (by decide)]
    exact h.2.2
theorem ph_ok {c : pB} {T : pT} {g : pG} : (g.f = 0 ∧ T.K g.t = 18 ∧ pPh c T g ≠ -1) ∨ pPh c T g = -1 := by
  if h : g.f = 0 ∧ T.K g.t = 18 then
    if q : pPh c T g = -1 then exact Or.inr q
    else exact Or.inl ⟨h.1, h.2, q⟩
  else
    refine Or.inr (ph_0 ?_ rfl).symm
    if q : g.f = 0 then exact Or.inr (fun z => h ⟨q, z⟩)
    else exact Or.inl q
theorem pl_ph {c : pB} {T : pT} {g : pG} (h : pPh c T g ≠ -1) : g.f = 0 ∧ T.K g.t = 18 ∧ pPl c.nm c.P T g = pPh c T g ∧ pPl c.nm c.P T g ≠ -2 ∧ pPl c.nm c.P T g ≠ -1 := by
  have hk := (ph_ok (c := c) (T := T) (g := g)).resolve_right h
  unfold pPh at h ⊢
  if q : g.f = 0 ∧ pPl c.nm c.P T g ≠ -2 then
    rw [if_pos q] at h ⊢
    exact ⟨hk.1, hk.2.1, rfl, q.2, h⟩
  else
    rw [if_neg q] at h
    exact absurd rfl h
theorem pl_no {c : pB} {T : pT} {g : pG} (hf : g.f = 0) (h : pPh c T g = -1) : pPl c.nm c.P T g = -2 := by
  unfold pPh at h
  if q : pPl c.nm c.P T g = -2 then exact q
  else
    rw [if_pos ⟨hf, q⟩] at h
    unfold pPl at h q
    split at h
    · have := pn_ge (nm := c.nm) (w := T.V g.t) (P := c.P.toNat)
      rw [if_pos (by assumption)] at q
      omega
    · omega
theorem rp_ok {c : pB} {T : pT} {g : pG} : (pPlc c.nm c.P T (-1) g).f ≠ 0 ∨ ((pPlc c.nm c.P T (-1) g).f = 0 ∧ g.f = 0 ∧ pPh c T g ≠ -1) := by
  if h : pPh c T g = -1 then
    left
    rw [rp_1 h, gn_f]
    exact (pF_ne (by decide)).1
  else
    right
    rw [rp_2 h, gn_f]
    exact ⟨(pl_ph h).1, (pl_ph h).1, h⟩
theorem pPlc_no {nm : Nat → Int} {P but : Int} {T : pT} {g : pG} (h : g.f ≠ 0) : pPlc nm P T but g = g := by
  unfold pPlc
  rw [pF_neg h, pF_neg h, pT_no h, ite_self, ite_self]
theorem nw_1 {c : pB} {T : pT} {g : pG} (h : (pRdP1 c T g).f ≠ 0) : pRdP c T g = pGn T (pRdP1 c T g) := by
  unfold pRdP
  rw [pF_neg h, pT_no h, ite_self, gn_no h]
theorem nw_2 {c : pB} {T : pT} {g : pG} (h : T.K (pRdP1 c T g).t ≠ 18) : pRdP c T g = pGn T (pFail T 1 (pRdP1 c T g)) := by
  unfold pRdP
  rw [if_neg (fun z => h z.1), tk_n (by omega)]
theorem nw_3 {c : pB} {T : pT} {g : pG} (h : pPh c T (pRdP1 c T g) ≠ -1) : pRdP c T g = pGn T (pFail T 3 (pRdP1 c T g)) := by
  obtain ⟨h1, h2, h3, h4, h5⟩ := pl_ph h
  unfold pRdP
  unfold pPl at h4
  rw [if_pos h2] at h4
  rw [if_pos ⟨h2, h4⟩, tk_y (by rw [(pF_ne (by decide)).2]; omega)]
theorem nw_4 {c : pB} {T : pT} {g : pG} (h : pPh c T (pRdP1 c T g) = -1) (hf : (pRdP1 c T g).f = 0) (hk : T.K (pRdP1 c T g).t = 18) : pRdP c T g = pGn T (pRdP1 c T g) := by
  have h4 := pl_no hf h
  unfold pPl at h4
  rw [if_pos hk] at h4
  unfold pRdP
  rw [if_neg (fun z => z.2 h4), tk_y (by omega)]
theorem rr_a {c : pB} {T : pT} {g g1 g2 : pG} (e : g = pFail T 3 g2) (h0 : pPh c T g2 = pPh c T g1) (h1 : pPh c T g1 ≠ -1) : pPlc c.nm c.P T (pPl c.nm c.P T g1) g2 = pPlc c.nm c.P T (-1) g := by
  have k1 := pl_ph h1
  have k2 := pl_ph (show pPh c T g2 ≠ -1 by omega)
  have e2 : pPl c.nm c.P T g = pPl c.nm c.P T g2 := by
    unfold pPl
    rw [e, (pF_ne (by decide)).2]
  unfold pPlc
  rw [if_neg (by omega), if_pos (by omega), if_neg (by omega), if_neg (by omega), e]
theorem rr_b {c : pB} {T : pT} {g g1 g2 : pG} (e : g = g2) (h0 : pPh c T g2 ≠ pPh c T g1) (h1 : g2.f = 0 ∧ pPh c T g1 ≠ -1) : pPlc c.nm c.P T (pPl c.nm c.P T g1) g2 = pPlc c.nm c.P T (-1) g := by
  subst e
  have k1 := pl_ph h1.2
  if q : pPh c T g = -1 then
    have k2 := pl_no h1.1 q
    unfold pPlc
    rw [if_pos k2, if_pos k2]
  else
    have k2 := pl_ph q
    unfold pPlc
    rw [if_neg (by omega), if_neg (by omega), if_neg (by omega), if_neg (by omega)]
theorem rr_c {c : pB} {T : pT} {g g2 : pG} {but : Int} (e : g = g2) (h : g2.f ≠ 0) : pPlc c.nm c.P T but g2 = pPlc c.nm c.P T (-1) g := by
  subst e
  rw [pPlc_no h, pPlc_no h]
theorem bkM_up {H B : mzH} {c : pB} {P R U C F : Int} {nm : Nat → Int} (hb : bkM H c) (h69 : ∀ i, 69 ≤ i → aZ B 3 i = aZ H 3 i) (h0 : (aZ B 3 0).toInt = P) (h1 : (aZ B 3 1).toInt = R) (h2 : aZ B 3 2 = aZ H 3 2) (h3 : (aZ B 3 3).toInt = U) (h4 : (aZ B 3 4).toInt = C) (hF : (fZ B 0 17).toInt = F) (hn : ∀ p : Nat, (p : Int) < P → (aZ B 4 p).toInt = nm p) (hR : 0 ≤ R ∧ R ≤ 12) : bkM B (pBm P R c.N U C F nm c.hr c.ac c.fi c.se c.ki) := by
  obtain ⟨g0, g1, g2, g3, g4, g5, g6, g7, g8⟩ := hb
  refine ⟨h0, h1, by rw [h2]; exact g2, h3, h4, hF, hn, fun k hk => ?_, hR⟩
  rw [h69 _ (by omega), h69 _ (by omega), h69 _ (by omega), h69 _ (by omega), h69 _ (by omega)]
  exact g7 k hk
theorem npl_mk {H B1 B2 : mzH} {c : pB} {i w x v : Int32} {u : Int} (hI : gI SM H) (hI1 : gI SM B1) (hb : bkM H c) (e1 : B1 = sA H 4 i.toInt.toNat w) (e2 : B2 = sA B1 3 x.toInt.toNat v) (hi : i.toInt = c.P ∧ 0 ≤ c.P ∧ c.P < 8) (hx : x.toInt = 0) (hv : v.toInt = c.P + 1) (hw : w.toInt = u) : bkM B2 (bPl c u) := by
  have a3 : ∀ k, k ≠ 0 → aZ B2 3 k = aZ H 3 k := fun k hk => by rw [e2, aZ_sA_ne (by omega), e1, aZ_sA_nc (by decide)]
  have hb' := hb
  obtain ⟨g0, g1, g2, g3, g4, g5, g6, g7, g8⟩ := hb'
  refine bkM_up hb (fun i h => a3 i (by omega)) ?_ (by rw [a3 1 (by decide)]; exact g1) (a3 2 (by decide)) (by rw [a3 3 (by decide)]; exact g3) (by rw [a3 4 (by decide)]; exact g4) (by rw [e2, fZ_sA, e1, fZ_sA]; exact g5) (fun p hp => ?_) g8
  · rw [e2, show x.toInt.toNat = 0 by omega, aZ_sA_eq hI1 sm_3 (by decide)]
    exact hv
  · rw [e2, aZ_sA_nc (by decide), e1, aZ_if hI sm_4 (by omega) (show i.toInt.toNat = c.P.toNat by omega)]
    if q : p = c.P.toNat then
      rw [if_pos q, if_pos (by omega)]
      exact hw
    else
      rw [if_neg q, if_neg (by omega)]
      exact g6 p (by omega)
theorem nrd_mk {H B : mzH} {c : pB} {x v : Int32} (hI : gI SM H) (hb : bkM H c) (e : B = sA H 3 x.toInt.toNat v) (hx : x.toInt = 1) (hv : v.toInt = c.R + 1 ∧ 0 ≤ c.R ∧ c.R < 12) : bkM B (bRd c) := by
  have a3 : ∀ k, k ≠ 1 → aZ B 3 k = aZ H 3 k := fun k hk => by rw [e, aZ_sA_ne (by omega)]
  have hb' := hb
  obtain ⟨g0, g1, g2, g3, g4, g5, g6, g7, g8⟩ := hb'
  refine bkM_up hb (fun i h => a3 i (by omega)) (by rw [a3 0 (by decide)]; exact g0) ?_ (a3 2 (by decide)) (by rw [a3 3 (by decide)]; exact g3) (by rw [a3 4 (by decide)]; exact g4) (by rw [e, fZ_sA]; exact g5) (fun p hp => ?_) ⟨by omega, by omega⟩
  · rw [e, show x.toInt.toNat = 1 by omega, aZ_sA_eq hI sm_3 (by decide)]
    exact hv.1
  · rw [e, aZ_sA_nc (by decide)]
    exact g6 p hp
theorem bkM_w {H B : mzH} {c : pB} {x v : Int32} (_ : gI SM H) (hb : bkM H c) (e : B = sA H 3 x.toInt.toNat v) (hx : 5 ≤ x.toInt ∧ x.toInt < 69) : bkM B c := by
  have a3 : ∀ k, (k < 5 ∨ 69 ≤ k) → aZ B 3 k = aZ H 3 k := fun k hk => by rw [e, aZ_sA_ne (by omega)]
  have hb' := hb
  obtain ⟨g0, g1, g2, g3, g4, g5, g6, g7, g8⟩ := hb'
  exact bkM_up hb (fun i h => a3 i (by omega)) (by rw [a3 0 (by decide)]; exact g0) (by rw [a3 1 (by decide)]; exact g1) (a3 2 (by decide)) (by rw [a3 3 (by decide)]; exact g3) (by rw [a3 4 (by decide)]; exact g4) (by rw [e, fZ_sA]; exact g5) (fun p hp => by rw [e, aZ_sA_nc (by decide)]; exact g6 p hp) g8
theorem nft_mk {H B1 B2 B3 : mzH} {c : pB} {t x u y w : Int32} {U C : Int} (hI : gI SM H) (hI1 : gI SM B1) (hI2 : gI SM B2) (hb : bkM H c) (e1 : B1 = sF H 0 17 t) (e2 : B2 = sA B1 3 x.toInt.toNat u) (e3 : B3 = sA B2 3 y.toInt.toNat w) (ht : t.toInt = 1) (hx : x.toInt = 3) (hy : y.toInt = 4) (hu : u.toInt = U) (hw : w.toInt = C) : bkM B3 (bFt c U C) := by
  have a3 : ∀ k, k ≠ 3 → k ≠ 4 → aZ B3 3 k = aZ H 3 k := fun k hk h4 => by rw [e3, aZ_sA_ne (by omega), e2, aZ_sA_ne (by omega), e1, aZ_sF]
  have hb' := hb
  obtain ⟨g0, g1, g2, g3, g4, g5, g6, g7, g8⟩ := hb'
  refine bkM_up hb (fun i h => a3 i (by omega) (by omega)) (by rw [a3 0 (by decide) (by decide)]; exact g0) (by rw [a3 1 (by decide) (by decide)]; exact g1) (a3 2 (by decide) (by decide)) ?_ ?_ (by rw [e3, fZ_sA, e2, fZ_sA, e1, fZ_sF_eq hI sm_0 rfl]; exact ht) (fun p hp => by rw [e3, aZ_sA_nc (by decide), e2, aZ_sA_nc (by decide), e1, aZ_sF]; exact g6 p hp) g8
  · rw [e3, aZ_sA_ne (by omega), e2, show x.toInt.toNat = 3 by omega, aZ_sA_eq hI1 sm_3 (by decide)]
    exact hu
  · rw [e3, show y.toInt.toNat = 4 by omega, aZ_sA_eq hI2 sm_3 (by decide)]
    exact hw
set_option maxRecDepth 4000 in
set_option maxHeartbeats 4000000 in
/-- M.readNew, exactly -/
theorem f_166 (H : mzH) (hI : gI SM H) (hJ : JN H) (x0 x1 x2 x3 x4 x5 x6 : Int32) (hx0 : 0 ≤ x0.toInt ∧ x0.toInt ≤ 900) (hx1 : 0 ≤ x1.toInt ∧ x1.toInt ≤ 900) (hx2 : 0 ≤ x2.toInt ∧ x2.toInt ≤ 4) {b : Nat → Int} {n : Nat} {T : pT} {g : pG} {c : pB} (hp0 : tkM H b n T) (hp1 : rdM b n T g x0 x1 x2 x3 x4 x5 x6) (hp2 : bkM H c) (hp3 : g.f = 0 ∧ T.K g.t = 0) : gCall 166 [.ref 0] (mS H x0 x1 x2 x3 x4 x5 x6) (gRv (fun H' => ∃ B : mzH, ∃ y0 y1 y2 y3 y4 y5 y6 : Int32, H' = mS B y0 y1 y2 y3 y4 y5 y6 ∧ gI SM B ∧ JN B ∧ (0 ≤ y0.toInt ∧ y0.toInt ≤ 900) ∧ (0 ≤ y1.toInt ∧ y1.toInt ≤ 900) ∧ (0 ≤ y2.toInt ∧ y2.toInt ≤ 4) ∧ rdM b n T (pRdP c T g) y0 y1 y2 y3 y4 y5 y6 ∧ tkM B b n T ∧ ((pRdP c T g).f ≠ 0 ∨ bkM B (bRdP c T g)) ∧ frM H B)) := by
  obtain ⟨-, r1, -, r3, -, -⟩ := id hp1
  have w0 := hp0.2.2
  have w3 := hp2.1
  have w4 := JN_n30 hJ (v := aZ H 3 0) rfl
  refine gG_call [(0, .ref 0)] ⟨rfl, trivial⟩ ?_
  show gG 2 zB_166 (mzBlk zB_166 0) [(0, .ref 0)] [] (mS H x0 x1 x2 x3 x4 x5 x6) 0 0 _
  refine g_aload_n rfl ?_
  refine g_gfr (mS_I hI (by omega) (by omega) (by omega)) sm_0 rfl ?_
  refine g_iconst (by decide) (fun v1241 kv1241 => ?_)
  refine g_iaload (mS_I hI (by omega) (by omega) (by omega)) sm_3 rfl (by omega) (fun v1242 ev1242 lv1242 uv1242 => ?_)
  have dv1242 : v1242 = aZ H 3 v1241.toInt.toNat := ev1242.trans mS_a
  have tv1242 : v1242.toInt = (aZ H 3 v1241.toInt.toNat).toInt := by rw [dv1242]
  rw [show v1241.toInt.toNat = 0 from by omega] at tv1242
  have jv1242 := JN_n30 hJ (v := aZ H 3 0) rfl
  refine g_bipush (by decide) (fun v1243 kv1243 => ?_)
  refine g_if2_ne (fun c1244 => ?_) (fun c1244 => ?_)
  · refine g_aload_n rfl ?_
    refine g_invvv (mS_I hI (by omega) (by omega) (by omega)) sm_0 rfl rfl rfl rfl (f_162 H hI hJ x0 x1 x2 x3 x4 x5 x6 (by omega) (by omega) (by omega) hp0 hp1) (fun H1245 r1246 => ?_)
    obtain ⟨y1247, y1248, y1249, y1250, y1251, rfl, by1247, by1248, by1249, zp1252⟩ := r1246
    obtain ⟨-, rbzp1252, -, rdzp1252, -, -⟩ := id zp1252
    have nzp1252 := gn_f (T := T) (g := g)
    have al1253 : pRdP1 c T g = (pGn T g) := by unfold pRdP1; rw [if_neg (by omega), tk_y (by omega)]
    have zp1254 := zp1252
    rw [← al1253] at zp1254
    rw [← al1253] at nzp1252
    obtain ⟨-, rbzp1254, -, rdzp1254, -, -⟩ := id zp1254
    have knzp1254 := kr_n rbzp1254
    refine g_aload_n rfl ?_
    refine g_gfk (mS_I hI (by omega) (by omega) (by omega)) sm_0 rfl (mS_g13 hI) ?_
    refine g_if_ne (fun c1255 => ?_) (fun c1255 => ?_)
    · refine g_aload_n rfl ?_
      refine g_invvi (mS_I hI (by omega) (by omega) (by omega)) sm_0 rfl rfl rfl rfl (f_164 H hI hJ y1247 y1248 y1249 y1250 y1251 x5 x6 (by omega) (by omega) (by omega) hp0 zp1254 hp2) (fun v1258 H1256 r1257 => ?_)
      obtain ⟨rfl, bv1258, zp1259⟩ := r1257
      have phzp1259 := ph_ok (c := c) (T := T) (g := (pRdP1 c T g))
      refine g_iconst (by decide) (fun v1260 kv1260 => ?_)
      refine g_if2_eq (fun c1261 => ?_) (fun c1261 => ?_)
      · refine g_aload_n rfl ?_
        refine g_gfk (mS_I hI (by omega) (by omega) (by omega)) sm_0 rfl (mS_g12 hI) ?_
        refine g_istore_n (l' := [(0, .ref 0), (1, .int y1251)]) rfl rfl ?_
        refine g_aload_n rfl ?_
        refine g_invvv (mS_I hI (by omega) (by omega) (by omega)) sm_0 rfl rfl rfl rfl (f_162 H hI hJ y1247 y1248 y1249 y1250 y1251 x5 x6 (by omega) (by omega) (by omega) hp0 zp1254) (fun H1262 r1263 => ?_)
        obtain ⟨y1264, y1265, y1266, y1267, y1268, rfl, by1264, by1265, by1266, zp1269⟩ := r1263
        obtain ⟨-, rbzp1269, -, rdzp1269, -, -⟩ := id zp1269
        have nzp1269 := gn_f (T := T) (g := (pRdP1 c T g))
        have al1270 : pRdP c T g = (pGn T (pRdP1 c T g)) := by exact nw_1 (by omega)
        have zp1271 := zp1269
        rw [← al1270] at zp1271
        rw [← al1270] at nzp1269
        obtain ⟨-, rbzp1271, -, rdzp1271, -, -⟩ := id zp1271
        refine g_aload_n rfl ?_
        refine g_gfk (mS_I hI (by omega) (by omega) (by omega)) sm_0 rfl (mS_g13 hI) ?_
        refine g_if_eq (fun c1272 => ?_) (fun c1272 => ?_)
        · refine g_aload_n rfl ?_
          refine g_gfr (mS_I hI (by omega) (by omega) (by omega)) sm_0 rfl ?_
          refine g_aload_n rfl ?_
          refine g_gfr (mS_I hI (by omega) (by omega) (by omega)) sm_0 rfl ?_
          refine g_iconst (by decide) (fun v1273 kv1273 => ?_)
          refine g_iaload (mS_I hI (by omega) (by omega) (by omega)) sm_3 rfl (by omega) (fun v1274 ev1274 lv1274 uv1274 => ?_)
          have dv1274 : v1274 = aZ H 3 v1273.toInt.toNat := ev1274.trans mS_a
          have tv1274 : v1274.toInt = (aZ H 3 v1273.toInt.toNat).toInt := by rw [dv1274]
          rw [show v1273.toInt.toNat = 0 from by omega] at tv1274
          have jv1274 := JN_n30 hJ (v := aZ H 3 0) rfl
          refine g_iload_n rfl ?_
          refine g_iastore (mS_I hI (by omega) (by omega) (by omega)) sm_4 (by omega) (gz_any _) (fun H1275 eH1275 hIH1275 => ?_)
          obtain ⟨B1276, eB1276⟩ : ∃ z, z = sA H 4 v1274.toInt.toNat y1251 := ⟨_, rfl⟩
          obtain rfl : H1275 = (mS B1276 y1264 y1265 y1266 y1267 y1268 x5 x6) := by rw [eH1275, eB1276]; exact mS_cA
          have hIB1276 : gI SM B1276 := by rw [eB1276]; exact gI_sA hI sm_4 (gz_any _)
          have hJB1276 : JN B1276 := JN_sA (by decide) eB1276 hJ
          have z3B1276 : (aZ B1276 3 0).toInt = (aZ H 3 0).toInt := by rw [eB1276, aZ_sA_nc (by decide)]
          have frB1276 : frM H B1276 := frM_A (frM_r) eB1276 (by decide)
          have tkB1276 : tkM B1276 b n T := tkM_fr hp0 frB1276
          refine g_aload_n rfl ?_
          refine g_gfr (mS_I hIB1276 (by omega) (by omega) (by omega)) sm_0 rfl ?_
          refine g_iconst (by decide) (fun v1277 kv1277 => ?_)
          refine g_dup2 rfl ?_
          refine g_iaload (mS_I hIB1276 (by omega) (by omega) (by omega)) sm_3 rfl (by omega) (fun v1278 ev1278 lv1278 uv1278 => ?_)
          have dv1278 : v1278 = aZ B1276 3 v1277.toInt.toNat := ev1278.trans mS_a
          have tv1278 : v1278.toInt = (aZ B1276 3 v1277.toInt.toNat).toInt := by rw [dv1278]
          rw [show v1277.toInt.toNat = 0 from by omega] at tv1278
          have jv1278 := JN_n30 hJB1276 (v := aZ B1276 3 0) rfl
          refine g_iconst (by decide) (fun v1279 kv1279 => ?_)
          refine g_iadd (by omega) (fun v1280 ev1280 => ?_)
          refine g_iastore (mS_I hIB1276 (by omega) (by omega) (by omega)) sm_3 (by omega) (gz_any _) (fun H1281 eH1281 hIH1281 => ?_)
          obtain ⟨B1282, eB1282⟩ : ∃ z, z = sA B1276 3 v1277.toInt.toNat v1280 := ⟨_, rfl⟩
          obtain rfl : H1281 = (mS B1282 y1264 y1265 y1266 y1267 y1268 x5 x6) := by rw [eH1281, eB1282]; exact mS_cA
          have hIB1282 : gI SM B1282 := by rw [eB1282]; exact gI_sA hIB1276 sm_3 (gz_any _)
          have hJB1282 : JN B1282 := JN_s3 hIB1276 hJB1276 (by omega) (fun _ => by omega) (fun _ => by omega) eB1282
          have frB1282 : frM H B1282 := frM_A frB1276 eB1282 (by decide)
          have tkB1282 : tkM B1282 b n T := tkM_fr hp0 frB1282
          exact g_ret ⟨rfl, B1282, y1264, y1265, y1266, y1267, y1268, x5, x6, rfl, hIB1282, hJB1282, (by omega), (by omega), (by omega), zp1271, tkB1282, (Or.inr (by unfold bRdP; rw [if_pos (by omega)]; exact npl_mk hI hIB1276 hp2 eB1276 eB1282 (by omega) (by omega) (by omega) (by omega))), frB1282⟩
        · exact g_ret ⟨rfl, H, y1264, y1265, y1266, y1267, y1268, x5, x6, rfl, hI, hJ, (by omega), (by omega), (by omega), zp1271, hp0, (Or.inl (by omega)), (frM_r)⟩
      · refine g_aload_n rfl ?_
        refine g_iconst (by decide) (fun v1283 kv1283 => ?_)
        refine g_invvv (mS_I hI (by omega) (by omega) (by omega)) sm_0 rfl rfl rfl rfl (f_161 v1283 (by omega) H hI hJ y1247 y1248 y1249 y1250 y1251 x5 x6 (by omega) (by omega) (by omega) hp0 zp1254) (fun H1284 r1285 => ?_)
        obtain ⟨y1286, y1287, rfl, zp1288⟩ := r1285
        rw [kv1283] at zp1288
        obtain ⟨-, rbzp1288, -, rdzp1288, -, -⟩ := id zp1288
        have nzp1288 := pF_ne (T := T) (g := (pRdP1 c T g)) (n := 3) (by omega)
        refine g_nop ?_
        refine g_aload_n rfl ?_
        refine g_gfk (mS_I hI (by omega) (by omega) (by omega)) sm_0 rfl (mS_g12 hI) ?_
        refine g_istore_n (l' := [(0, .ref 0), (1, .int y1251)]) rfl rfl ?_
        refine g_aload_n rfl ?_
        refine g_invvv (mS_I hI (by omega) (by omega) (by omega)) sm_0 rfl rfl rfl rfl (f_162 H hI hJ y1247 y1248 y1249 y1250 y1251 y1286 y1287 (by omega) (by omega) (by omega) hp0 zp1288) (fun H1289 r1290 => ?_)
        obtain ⟨y1291, y1292, y1293, y1294, y1295, rfl, by1291, by1292, by1293, zp1296⟩ := r1290
        obtain ⟨-, rbzp1296, -, rdzp1296, -, -⟩ := id zp1296
        have nzp1296 := gn_f (T := T) (g := (pFail T 3 (pRdP1 c T g)))
        have al1297 : pRdP c T g = (pGn T (pFail T 3 (pRdP1 c T g))) := by exact nw_3 (by omega)
        have zp1298 := zp1296
        rw [← al1297] at zp1298
        rw [← al1297] at nzp1296
        obtain ⟨-, rbzp1298, -, rdzp1298, -, -⟩ := id zp1298
        refine g_aload_n rfl ?_
        refine g_gfk (mS_I hI (by omega) (by omega) (by omega)) sm_0 rfl (mS_g13 hI) ?_
        refine g_if_eq (fun c1299 => ?_) (fun c1299 => ?_)
        · exfalso; omega
        · exact g_ret ⟨rfl, H, y1291, y1292, y1293, y1294, y1295, y1286, y1287, rfl, hI, hJ, (by omega), (by omega), (by omega), zp1298, hp0, (Or.inl (by omega)), (frM_r)⟩
    · refine g_aload_n rfl ?_
      refine g_gfk (mS_I hI (by omega) (by omega) (by omega)) sm_0 rfl (mS_g10 hI) ?_
      refine g_if_ne (fun c1300 => ?_) (fun c1300 => ?_)
      · refine g_aload_n rfl ?_
        refine g_iconst (by decide) (fun v1301 kv1301 => ?_)
        refine g_invvv (mS_I hI (by omega) (by omega) (by omega)) sm_0 rfl rfl rfl rfl (f_161 v1301 (by omega) H hI hJ y1247 y1248 y1249 y1250 y1251 x5 x6 (by omega) (by omega) (by omega) hp0 zp1254) (fun H1302 r1303 => ?_)
        obtain ⟨y1304, y1305, rfl, zp1306⟩ := r1303
        rw [kv1301] at zp1306
        obtain ⟨-, rbzp1306, -, rdzp1306, -, -⟩ := id zp1306
        have nzp1306 := pF_ne (T := T) (g := (pRdP1 c T g)) (n := 1) (by omega)
        refine g_nop ?_
        refine g_aload_n rfl ?_
        refine g_invvi (mS_I hI (by omega) (by omega) (by omega)) sm_0 rfl rfl rfl rfl (f_164 H hI hJ y1247 y1248 y1249 y1250 y1251 y1304 y1305 (by omega) (by omega) (by omega) hp0 zp1306 hp2) (fun v1309 H1307 r1308 => ?_)
        obtain ⟨rfl, bv1309, zp1310⟩ := r1308
        have phzp1310 := ph_ok (c := c) (T := T) (g := (pFail T 1 (pRdP1 c T g)))
        refine g_iconst (by decide) (fun v1311 kv1311 => ?_)
        refine g_if2_eq (fun c1312 => ?_) (fun c1312 => ?_)
        · refine g_aload_n rfl ?_
          refine g_gfk (mS_I hI (by omega) (by omega) (by omega)) sm_0 rfl (mS_g12 hI) ?_
          refine g_istore_n (l' := [(0, .ref 0), (1, .int y1251)]) rfl rfl ?_
          refine g_aload_n rfl ?_
          refine g_invvv (mS_I hI (by omega) (by omega) (by omega)) sm_0 rfl rfl rfl rfl (f_162 H hI hJ y1247 y1248 y1249 y1250 y1251 y1304 y1305 (by omega) (by omega) (by omega) hp0 zp1306) (fun H1313 r1314 => ?_)
          obtain ⟨y1315, y1316, y1317, y1318, y1319, rfl, by1315, by1316, by1317, zp1320⟩ := r1314
          obtain ⟨-, rbzp1320, -, rdzp1320, -, -⟩ := id zp1320
          have nzp1320 := gn_f (T := T) (g := (pFail T 1 (pRdP1 c T g)))
          have al1321 : pRdP c T g = (pGn T (pFail T 1 (pRdP1 c T g))) := by exact nw_2 (by omega)
          have zp1322 := zp1320
          rw [← al1321] at zp1322
          rw [← al1321] at nzp1320
          obtain ⟨-, rbzp1322, -, rdzp1322, -, -⟩ := id zp1322
          refine g_aload_n rfl ?_
          refine g_gfk (mS_I hI (by omega) (by omega) (by omega)) sm_0 rfl (mS_g13 hI) ?_
          refine g_if_eq (fun c1323 => ?_) (fun c1323 => ?_)
          · exfalso; omega
          · exact g_ret ⟨rfl, H, y1315, y1316, y1317, y1318, y1319, y1304, y1305, rfl, hI, hJ, (by omega), (by omega), (by omega), zp1322, hp0, (Or.inl (by omega)), (frM_r)⟩
        · refine g_aload_n rfl ?_
          refine g_iconst (by decide) (fun v1324 kv1324 => ?_)
          refine g_invvv (mS_I hI (by omega) (by omega) (by omega)) sm_0 rfl rfl rfl rfl (f_161 v1324 (by omega) H hI hJ y1247 y1248 y1249 y1250 y1251 y1304 y1305 (by omega) (by omega) (by omega) hp0 zp1306) (fun H1325 r1326 => ?_)
          obtain ⟨y1327, y1328, rfl, zp1329⟩ := r1326
          rw [kv1324] at zp1329
          obtain ⟨-, rbzp1329, -, rdzp1329, -, -⟩ := id zp1329
          have nzp1329 := pF_ne (T := T) (g := (pFail T 1 (pRdP1 c T g))) (n := 3) (by omega)
          refine g_nop ?_
          exfalso; omega
      · refine g_aload_n rfl ?_
        refine g_gfk (mS_I hI (by omega) (by omega) (by omega)) sm_0 rfl (mS_g11 hI) ?_
        refine g_iconst (by decide) (fun v1330 kv1330 => ?_)
        refine g_if2_eq (fun c1331 => ?_) (fun c1331 => ?_)
        · refine g_aload_n rfl ?_
          refine g_invvi (mS_I hI (by omega) (by omega) (by omega)) sm_0 rfl rfl rfl rfl (f_164 H hI hJ y1247 y1248 y1249 y1250 y1251 x5 x6 (by omega) (by omega) (by omega) hp0 zp1254 hp2) (fun v1334 H1332 r1333 => ?_)
          obtain ⟨rfl, bv1334, zp1335⟩ := r1333
          have phzp1335 := ph_ok (c := c) (T := T) (g := (pRdP1 c T g))
          refine g_iconst (by decide) (fun v1336 kv1336 => ?_)
          refine g_if2_eq (fun c1337 => ?_) (fun c1337 => ?_)
          · refine g_aload_n rfl ?_
            refine g_gfk (mS_I hI (by omega) (by omega) (by omega)) sm_0 rfl (mS_g12 hI) ?_
            refine g_istore_n (l' := [(0, .ref 0), (1, .int y1251)]) rfl rfl ?_
            refine g_aload_n rfl ?_
            refine g_invvv (mS_I hI (by omega) (by omega) (by omega)) sm_0 rfl rfl rfl rfl (f_162 H hI hJ y1247 y1248 y1249 y1250 y1251 x5 x6 (by omega) (by omega) (by omega) hp0 zp1254) (fun H1338 r1339 => ?_)
            obtain ⟨y1340, y1341, y1342, y1343, y1344, rfl, by1340, by1341, by1342, zp1345⟩ := r1339
            obtain ⟨-, rbzp1345, -, rdzp1345, -, -⟩ := id zp1345
            have nzp1345 := gn_f (T := T) (g := (pRdP1 c T g))
            have al1346 : pRdP c T g = (pGn T (pRdP1 c T g)) := by exact nw_4 (by omega) (by omega) (by omega)
            have zp1347 := zp1345
            rw [← al1346] at zp1347
            rw [← al1346] at nzp1345
            obtain ⟨-, rbzp1347, -, rdzp1347, -, -⟩ := id zp1347
            refine g_aload_n rfl ?_
            refine g_gfk (mS_I hI (by omega) (by omega) (by omega)) sm_0 rfl (mS_g13 hI) ?_
            refine g_if_eq (fun c1348 => ?_) (fun c1348 => ?_)
            · refine g_aload_n rfl ?_
              refine g_gfr (mS_I hI (by omega) (by omega) (by omega)) sm_0 rfl ?_
              refine g_aload_n rfl ?_
              refine g_gfr (mS_I hI (by omega) (by omega) (by omega)) sm_0 rfl ?_
              refine g_iconst (by decide) (fun v1349 kv1349 => ?_)
              refine g_iaload (mS_I hI (by omega) (by omega) (by omega)) sm_3 rfl (by omega) (fun v1350 ev1350 lv1350 uv1350 => ?_)
              have dv1350 : v1350 = aZ H 3 v1349.toInt.toNat := ev1350.trans mS_a
              have tv1350 : v1350.toInt = (aZ H 3 v1349.toInt.toNat).toInt := by rw [dv1350]
              rw [show v1349.toInt.toNat = 0 from by omega] at tv1350
              have jv1350 := JN_n30 hJ (v := aZ H 3 0) rfl
              refine g_iload_n rfl ?_
              refine g_iastore (mS_I hI (by omega) (by omega) (by omega)) sm_4 (by omega) (gz_any _) (fun H1351 eH1351 hIH1351 => ?_)
              obtain ⟨B1352, eB1352⟩ : ∃ z, z = sA H 4 v1350.toInt.toNat y1251 := ⟨_, rfl⟩
              obtain rfl : H1351 = (mS B1352 y1340 y1341 y1342 y1343 y1344 x5 x6) := by rw [eH1351, eB1352]; exact mS_cA
              have hIB1352 : gI SM B1352 := by rw [eB1352]; exact gI_sA hI sm_4 (gz_any _)
              have hJB1352 : JN B1352 := JN_sA (by decide) eB1352 hJ
              have z3B1352 : (aZ B1352 3 0).toInt = (aZ H 3 0).toInt := by rw [eB1352, aZ_sA_nc (by decide)]
              have frB1352 : frM H B1352 := frM_A (frM_r) eB1352 (by decide)
              have tkB1352 : tkM B1352 b n T := tkM_fr hp0 frB1352
              refine g_aload_n rfl ?_
              refine g_gfr (mS_I hIB1352 (by omega) (by omega) (by omega)) sm_0 rfl ?_
              refine g_iconst (by decide) (fun v1353 kv1353 => ?_)
              refine g_dup2 rfl ?_
              refine g_iaload (mS_I hIB1352 (by omega) (by omega) (by omega)) sm_3 rfl (by omega) (fun v1354 ev1354 lv1354 uv1354 => ?_)
              have dv1354 : v1354 = aZ B1352 3 v1353.toInt.toNat := ev1354.trans mS_a
              have tv1354 : v1354.toInt = (aZ B1352 3 v1353.toInt.toNat).toInt := by rw [dv1354]
              rw [show v1353.toInt.toNat = 0 from by omega] at tv1354
              have jv1354 := JN_n30 hJB1352 (v := aZ B1352 3 0) rfl
              refine g_iconst (by decide) (fun v1355 kv1355 => ?_)
              refine g_iadd (by omega) (fun v1356 ev1356 => ?_)
              refine g_iastore (mS_I hIB1352 (by omega) (by omega) (by omega)) sm_3 (by omega) (gz_any _) (fun H1357 eH1357 hIH1357 => ?_)
              obtain ⟨B1358, eB1358⟩ : ∃ z, z = sA B1352 3 v1353.toInt.toNat v1356 := ⟨_, rfl⟩
              obtain rfl : H1357 = (mS B1358 y1340 y1341 y1342 y1343 y1344 x5 x6) := by rw [eH1357, eB1358]; exact mS_cA
              have hIB1358 : gI SM B1358 := by rw [eB1358]; exact gI_sA hIB1352 sm_3 (gz_any _)
              have hJB1358 : JN B1358 := JN_s3 hIB1352 hJB1352 (by omega) (fun _ => by omega) (fun _ => by omega) eB1358
              have frB1358 : frM H B1358 := frM_A frB1352 eB1358 (by decide)
              have tkB1358 : tkM B1358 b n T := tkM_fr hp0 frB1358
              exact g_ret ⟨rfl, B1358, y1340, y1341, y1342, y1343, y1344, x5, x6, rfl, hIB1358, hJB1358, (by omega), (by omega), (by omega), zp1347, tkB1358, (Or.inr (by unfold bRdP; rw [if_pos (by omega)]; exact npl_mk hI hIB1352 hp2 eB1352 eB1358 (by omega) (by omega) (by omega) (by omega))), frB1358⟩
            · exfalso; omega
          · refine g_aload_n rfl ?_
            refine g_iconst (by decide) (fun v1359 kv1359 => ?_)
            refine g_invvv (mS_I hI (by omega) (by omega) (by omega)) sm_0 rfl rfl rfl rfl (f_161 v1359 (by omega) H hI hJ y1247 y1248 y1249 y1250 y1251 x5 x6 (by omega) (by omega) (by omega) hp0 zp1254) (fun H1360 r1361 => ?_)
            obtain ⟨y1362, y1363, rfl, zp1364⟩ := r1361
            rw [kv1359] at zp1364
            obtain ⟨-, rbzp1364, -, rdzp1364, -, -⟩ := id zp1364
            have nzp1364 := pF_ne (T := T) (g := (pRdP1 c T g)) (n := 3) (by omega)
            refine g_nop ?_
            refine g_aload_n rfl ?_
            refine g_gfk (mS_I hI (by omega) (by omega) (by omega)) sm_0 rfl (mS_g12 hI) ?_
            refine g_istore_n (l' := [(0, .ref 0), (1, .int y1251)]) rfl rfl ?_
            refine g_aload_n rfl ?_
            refine g_invvv (mS_I hI (by omega) (by omega) (by omega)) sm_0 rfl rfl rfl rfl (f_162 H hI hJ y1247 y1248 y1249 y1250 y1251 y1362 y1363 (by omega) (by omega) (by omega) hp0 zp1364) (fun H1365 r1366 => ?_)
            obtain ⟨y1367, y1368, y1369, y1370, y1371, rfl, by1367, by1368, by1369, zp1372⟩ := r1366
            obtain ⟨-, rbzp1372, -, rdzp1372, -, -⟩ := id zp1372
            have nzp1372 := gn_f (T := T) (g := (pFail T 3 (pRdP1 c T g)))
            have al1373 : pRdP c T g = (pGn T (pFail T 3 (pRdP1 c T g))) := by exact nw_3 (by omega)
            have zp1374 := zp1372
            rw [← al1373] at zp1374
            rw [← al1373] at nzp1372
            obtain ⟨-, rbzp1374, -, rdzp1374, -, -⟩ := id zp1374
            refine g_aload_n rfl ?_
            refine g_gfk (mS_I hI (by omega) (by omega) (by omega)) sm_0 rfl (mS_g13 hI) ?_
            refine g_if_eq (fun c1375 => ?_) (fun c1375 => ?_)
            · exfalso; omega
            · exact g_ret ⟨rfl, H, y1367, y1368, y1369, y1370, y1371, y1362, y1363, rfl, hI, hJ, (by omega), (by omega), (by omega), zp1374, hp0, (Or.inl (by omega)), (frM_r)⟩
        · refine g_nop ?_
          refine g_aload_n rfl ?_
          refine g_iconst (by decide) (fun v1376 kv1376 => ?_)
          refine g_invvv (mS_I hI (by omega) (by omega) (by omega)) sm_0 rfl rfl rfl rfl (f_161 v1376 (by omega) H hI hJ y1247 y1248 y1249 y1250 y1251 x5 x6 (by omega) (by omega) (by omega) hp0 zp1254) (fun H1377 r1378 => ?_)
          obtain ⟨y1379, y1380, rfl, zp1381⟩ := r1378
          rw [kv1376] at zp1381
          obtain ⟨-, rbzp1381, -, rdzp1381, -, -⟩ := id zp1381
          have nzp1381 := pF_ne (T := T) (g := (pRdP1 c T g)) (n := 1) (by omega)
          refine g_nop ?_
          refine g_aload_n rfl ?_
          refine g_invvi (mS_I hI (by omega) (by omega) (by omega)) sm_0 rfl rfl rfl rfl (f_164 H hI hJ y1247 y1248 y1249 y1250 y1251 y1379 y1380 (by omega) (by omega) (by omega) hp0 zp1381 hp2) (fun v1384 H1382 r1383 => ?_)
          obtain ⟨rfl, bv1384, zp1385⟩ := r1383
          have phzp1385 := ph_ok (c := c) (T := T) (g := (pFail T 1 (pRdP1 c T g)))
          refine g_iconst (by decide) (fun v1386 kv1386 => ?_)
          refine g_if2_eq (fun c1387 => ?_) (fun c1387 => ?_)
          · refine g_aload_n rfl ?_
            refine g_gfk (mS_I hI (by omega) (by omega) (by omega)) sm_0 rfl (mS_g12 hI) ?_
            refine g_istore_n (l' := [(0, .ref 0), (1, .int y1251)]) rfl rfl ?_
            refine g_aload_n rfl ?_
            refine g_invvv (mS_I hI (by omega) (by omega) (by omega)) sm_0 rfl rfl rfl rfl (f_162 H hI hJ y1247 y1248 y1249 y1250 y1251 y1379 y1380 (by omega) (by omega) (by omega) hp0 zp1381) (fun H1388 r1389 => ?_)
            obtain ⟨y1390, y1391, y1392, y1393, y1394, rfl, by1390, by1391, by1392, zp1395⟩ := r1389
            obtain ⟨-, rbzp1395, -, rdzp1395, -, -⟩ := id zp1395
            have nzp1395 := gn_f (T := T) (g := (pFail T 1 (pRdP1 c T g)))
            have al1396 : pRdP c T g = (pGn T (pFail T 1 (pRdP1 c T g))) := by exact nw_2 (by omega)
            have zp1397 := zp1395
            rw [← al1396] at zp1397
            rw [← al1396] at nzp1395
            obtain ⟨-, rbzp1397, -, rdzp1397, -, -⟩ := id zp1397
            refine g_aload_n rfl ?_
            refine g_gfk (mS_I hI (by omega) (by omega) (by omega)) sm_0 rfl (mS_g13 hI) ?_
            refine g_if_eq (fun c1398 => ?_) (fun c1398 => ?_)
            · exfalso; omega
            · exact g_ret ⟨rfl, H, y1390, y1391, y1392, y1393, y1394, y1379, y1380, rfl, hI, hJ, (by omega), (by omega), (by omega), zp1397, hp0, (Or.inl (by omega)), (frM_r)⟩
          · refine g_aload_n rfl ?_
            refine g_iconst (by decide) (fun v1399 kv1399 => ?_)
            refine g_invvv (mS_I hI (by omega) (by omega) (by omega)) sm_0 rfl rfl rfl rfl (f_161 v1399 (by omega) H hI hJ y1247 y1248 y1249 y1250 y1251 y1379 y1380 (by omega) (by omega) (by omega) hp0 zp1381) (fun H1400 r1401 => ?_)
            obtain ⟨y1402, y1403, rfl, zp1404⟩ := r1401
            rw [kv1399] at zp1404
            obtain ⟨-, rbzp1404, -, rdzp1404, -, -⟩ := id zp1404
            have nzp1404 := pF_ne (T := T) (g := (pFail T 1 (pRdP1 c T g))) (n := 3) (by omega)
            refine g_nop ?_
            exfalso; omega
  · refine g_aload_n rfl ?_
    refine g_iconst (by decide) (fun v1405 kv1405 => ?_)
    refine g_invvv (mS_I hI (by omega) (by omega) (by omega)) sm_0 rfl rfl rfl rfl (f_161 v1405 (by omega) H hI hJ x0 x1 x2 x3 x4 x5 x6 (by omega) (by omega) (by omega) hp0 hp1) (fun H1406 r1407 => ?_)
    obtain ⟨y1408, y1409, rfl, zp1410⟩ := r1407
    rw [kv1405] at zp1410
    obtain ⟨-, rbzp1410, -, rdzp1410, -, -⟩ := id zp1410
    have nzp1410 := pF_ne (T := T) (g := g) (n := 2) (by omega)
    refine g_nop ?_
    refine g_aload_n rfl ?_
    refine g_invvv (mS_I hI (by omega) (by omega) (by omega)) sm_0 rfl rfl rfl rfl (f_162 H hI hJ x0 x1 x2 x3 x4 y1408 y1409 (by omega) (by omega) (by omega) hp0 zp1410) (fun H1411 r1412 => ?_)
    obtain ⟨y1413, y1414, y1415, y1416, y1417, rfl, by1413, by1414, by1415, zp1418⟩ := r1412
    obtain ⟨-, rbzp1418, -, rdzp1418, -, -⟩ := id zp1418
    have nzp1418 := gn_f (T := T) (g := (pFail T 2 g))
    have al1419 : pRdP1 c T g = (pGn T (pFail T 2 g)) := by unfold pRdP1; rw [if_pos (by omega), tk_y (by rw [(pF_ne (by decide)).2]; omega)]
    have zp1420 := zp1418
    rw [← al1419] at zp1420
    rw [← al1419] at nzp1418
    obtain ⟨-, rbzp1420, -, rdzp1420, -, -⟩ := id zp1420
    have knzp1420 := kr_n rbzp1420
    refine g_aload_n rfl ?_
    refine g_gfk (mS_I hI (by omega) (by omega) (by omega)) sm_0 rfl (mS_g13 hI) ?_
    refine g_if_ne (fun c1421 => ?_) (fun c1421 => ?_)
    · refine g_aload_n rfl ?_
      refine g_invvi (mS_I hI (by omega) (by omega) (by omega)) sm_0 rfl rfl rfl rfl (f_164 H hI hJ y1413 y1414 y1415 y1416 y1417 y1408 y1409 (by omega) (by omega) (by omega) hp0 zp1420 hp2) (fun v1424 H1422 r1423 => ?_)
      obtain ⟨rfl, bv1424, zp1425⟩ := r1423
      have phzp1425 := ph_ok (c := c) (T := T) (g := (pRdP1 c T g))
      refine g_iconst (by decide) (fun v1426 kv1426 => ?_)
      refine g_if2_eq (fun c1427 => ?_) (fun c1427 => ?_)
      · refine g_aload_n rfl ?_
        refine g_gfk (mS_I hI (by omega) (by omega) (by omega)) sm_0 rfl (mS_g12 hI) ?_
        refine g_istore_n (l' := [(0, .ref 0), (1, .int y1417)]) rfl rfl ?_
        refine g_aload_n rfl ?_
        refine g_invvv (mS_I hI (by omega) (by omega) (by omega)) sm_0 rfl rfl rfl rfl (f_162 H hI hJ y1413 y1414 y1415 y1416 y1417 y1408 y1409 (by omega) (by omega) (by omega) hp0 zp1420) (fun H1428 r1429 => ?_)
        obtain ⟨y1430, y1431, y1432, y1433, y1434, rfl, by1430, by1431, by1432, zp1435⟩ := r1429
        obtain ⟨-, rbzp1435, -, rdzp1435, -, -⟩ := id zp1435
        have nzp1435 := gn_f (T := T) (g := (pRdP1 c T g))
        have al1436 : pRdP c T g = (pGn T (pRdP1 c T g)) := by exact nw_1 (by omega)
        have zp1437 := zp1435
        rw [← al1436] at zp1437
        rw [← al1436] at nzp1435
        obtain ⟨-, rbzp1437, -, rdzp1437, -, -⟩ := id zp1437
        refine g_aload_n rfl ?_
        refine g_gfk (mS_I hI (by omega) (by omega) (by omega)) sm_0 rfl (mS_g13 hI) ?_
        refine g_if_eq (fun c1438 => ?_) (fun c1438 => ?_)
        · exfalso; omega
        · exact g_ret ⟨rfl, H, y1430, y1431, y1432, y1433, y1434, y1408, y1409, rfl, hI, hJ, (by omega), (by omega), (by omega), zp1437, hp0, (Or.inl (by omega)), (frM_r)⟩
      · refine g_aload_n rfl ?_
        refine g_iconst (by decide) (fun v1439 kv1439 => ?_)
        refine g_invvv (mS_I hI (by omega) (by omega) (by omega)) sm_0 rfl rfl rfl rfl (f_161 v1439 (by omega) H hI hJ y1413 y1414 y1415 y1416 y1417 y1408 y1409 (by omega) (by omega) (by omega) hp0 zp1420) (fun H1440 r1441 => ?_)
        obtain ⟨y1442, y1443, rfl, zp1444⟩ := r1441
        rw [kv1439] at zp1444
        obtain ⟨-, rbzp1444, -, rdzp1444, -, -⟩ := id zp1444
        have nzp1444 := pF_ne (T := T) (g := (pRdP1 c T g)) (n := 3) (by omega)
        refine g_nop ?_
        refine g_aload_n rfl ?_
        refine g_gfk (mS_I hI (by omega) (by omega) (by omega)) sm_0 rfl (mS_g12 hI) ?_
        refine g_istore_n (l' := [(0, .ref 0), (1, .int y1417)]) rfl rfl ?_
        refine g_aload_n rfl ?_
        refine g_invvv (mS_I hI (by omega) (by omega) (by omega)) sm_0 rfl rfl rfl rfl (f_162 H hI hJ y1413 y1414 y1415 y1416 y1417 y1442 y1443 (by omega) (by omega) (by omega) hp0 zp1444) (fun H1445 r1446 => ?_)
        obtain ⟨y1447, y1448, y1449, y1450, y1451, rfl, by1447, by1448, by1449, zp1452⟩ := r1446
        obtain ⟨-, rbzp1452, -, rdzp1452, -, -⟩ := id zp1452
        have nzp1452 := gn_f (T := T) (g := (pFail T 3 (pRdP1 c T g)))
        have al1453 : pRdP c T g = (pGn T (pFail T 3 (pRdP1 c T g))) := by exact nw_3 (by omega)
        have zp1454 := zp1452
        rw [← al1453] at zp1454
        rw [← al1453] at nzp1452
        obtain ⟨-, rbzp1454, -, rdzp1454, -, -⟩ := id zp1454
        refine g_aload_n rfl ?_
        refine g_gfk (mS_I hI (by omega) (by omega) (by omega)) sm_0 rfl (mS_g13 hI) ?_
        refine g_if_eq (fun c1455 => ?_) (fun c1455 => ?_)
        · exfalso; omega
        · exact g_ret ⟨rfl, H, y1447, y1448, y1449, y1450, y1451, y1442, y1443, rfl, hI, hJ, (by omega), (by omega), (by omega), zp1454, hp0, (Or.inl (by omega)), (frM_r)⟩
    · refine g_aload_n rfl ?_
      refine g_gfk (mS_I hI (by omega) (by omega) (by omega)) sm_0 rfl (mS_g10 hI) ?_
      refine g_if_ne (fun c1456 => ?_) (fun c1456 => ?_)
      · refine g_aload_n rfl ?_
        refine g_iconst (by decide) (fun v1457 kv1457 => ?_)
        refine g_invvv (mS_I hI (by omega) (by omega) (by omega)) sm_0 rfl rfl rfl rfl (f_161 v1457 (by omega) H hI hJ y1413 y1414 y1415 y1416 y1417 y1408 y1409 (by omega) (by omega) (by omega) hp0 zp1420) (fun H1458 r1459 => ?_)
        obtain ⟨y1460, y1461, rfl, zp1462⟩ := r1459
        rw [kv1457] at zp1462
        obtain ⟨-, rbzp1462, -, rdzp1462, -, -⟩ := id zp1462
        have nzp1462 := pF_ne (T := T) (g := (pRdP1 c T g)) (n := 1) (by omega)
        refine g_nop ?_
        refine g_aload_n rfl ?_
        refine g_invvi (mS_I hI (by omega) (by omega) (by omega)) sm_0 rfl rfl rfl rfl (f_164 H hI hJ y1413 y1414 y1415 y1416 y1417 y1460 y1461 (by omega) (by omega) (by omega) hp0 zp1462 hp2) (fun v1465 H1463 r1464 => ?_)
        obtain ⟨rfl, bv1465, zp1466⟩ := r1464
        have phzp1466 := ph_ok (c := c) (T := T) (g := (pFail T 1 (pRdP1 c T g)))
        refine g_iconst (by decide) (fun v1467 kv1467 => ?_)
        refine g_if2_eq (fun c1468 => ?_) (fun c1468 => ?_)
        · refine g_aload_n rfl ?_
          refine g_gfk (mS_I hI (by omega) (by omega) (by omega)) sm_0 rfl (mS_g12 hI) ?_
          refine g_istore_n (l' := [(0, .ref 0), (1, .int y1417)]) rfl rfl ?_
          refine g_aload_n rfl ?_
          refine g_invvv (mS_I hI (by omega) (by omega) (by omega)) sm_0 rfl rfl rfl rfl (f_162 H hI hJ y1413 y1414 y1415 y1416 y1417 y1460 y1461 (by omega) (by omega) (by omega) hp0 zp1462) (fun H1469 r1470 => ?_)
          obtain ⟨y1471, y1472, y1473, y1474, y1475, rfl, by1471, by1472, by1473, zp1476⟩ := r1470
          obtain ⟨-, rbzp1476, -, rdzp1476, -, -⟩ := id zp1476
          have nzp1476 := gn_f (T := T) (g := (pFail T 1 (pRdP1 c T g)))
          have al1477 : pRdP c T g = (pGn T (pFail T 1 (pRdP1 c T g))) := by exact nw_2 (by omega)
          have zp1478 := zp1476
          rw [← al1477] at zp1478
          rw [← al1477] at nzp1476
          obtain ⟨-, rbzp1478, -, rdzp1478, -, -⟩ := id zp1478
          refine g_aload_n rfl ?_
          refine g_gfk (mS_I hI (by omega) (by omega) (by omega)) sm_0 rfl (mS_g13 hI) ?_
          refine g_if_eq (fun c1479 => ?_) (fun c1479 => ?_)
          · exfalso; omega
          · exact g_ret ⟨rfl, H, y1471, y1472, y1473, y1474, y1475, y1460, y1461, rfl, hI, hJ, (by omega), (by omega), (by omega), zp1478, hp0, (Or.inl (by omega)), (frM_r)⟩
        · refine g_aload_n rfl ?_
          refine g_iconst (by decide) (fun v1480 kv1480 => ?_)
          refine g_invvv (mS_I hI (by omega) (by omega) (by omega)) sm_0 rfl rfl rfl rfl (f_161 v1480 (by omega) H hI hJ y1413 y1414 y1415 y1416 y1417 y1460 y1461 (by omega) (by omega) (by omega) hp0 zp1462) (fun H1481 r1482 => ?_)
          obtain ⟨y1483, y1484, rfl, zp1485⟩ := r1482
          rw [kv1480] at zp1485
          obtain ⟨-, rbzp1485, -, rdzp1485, -, -⟩ := id zp1485
          have nzp1485 := pF_ne (T := T) (g := (pFail T 1 (pRdP1 c T g))) (n := 3) (by omega)
          refine g_nop ?_
          exfalso; omega
      · refine g_aload_n rfl ?_
        refine g_gfk (mS_I hI (by omega) (by omega) (by omega)) sm_0 rfl (mS_g11 hI) ?_
        refine g_iconst (by decide) (fun v1486 kv1486 => ?_)
        refine g_if2_eq (fun c1487 => ?_) (fun c1487 => ?_)
        · refine g_aload_n rfl ?_
          refine g_invvi (mS_I hI (by omega) (by omega) (by omega)) sm_0 rfl rfl rfl rfl (f_164 H hI hJ y1413 y1414 y1415 y1416 y1417 y1408 y1409 (by omega) (by omega) (by omega) hp0 zp1420 hp2) (fun v1490 H1488 r1489 => ?_)
          obtain ⟨rfl, bv1490, zp1491⟩ := r1489
          have phzp1491 := ph_ok (c := c) (T := T) (g := (pRdP1 c T g))
          refine g_iconst (by decide) (fun v1492 kv1492 => ?_)
          refine g_if2_eq (fun c1493 => ?_) (fun c1493 => ?_)
          · refine g_aload_n rfl ?_
            refine g_gfk (mS_I hI (by omega) (by omega) (by omega)) sm_0 rfl (mS_g12 hI) ?_
            refine g_istore_n (l' := [(0, .ref 0), (1, .int y1417)]) rfl rfl ?_
            refine g_aload_n rfl ?_
            refine g_invvv (mS_I hI (by omega) (by omega) (by omega)) sm_0 rfl rfl rfl rfl (f_162 H hI hJ y1413 y1414 y1415 y1416 y1417 y1408 y1409 (by omega) (by omega) (by omega) hp0 zp1420) (fun H1494 r1495 => ?_)
            obtain ⟨y1496, y1497, y1498, y1499, y1500, rfl, by1496, by1497, by1498, zp1501⟩ := r1495
            obtain ⟨-, rbzp1501, -, rdzp1501, -, -⟩ := id zp1501
            have nzp1501 := gn_f (T := T) (g := (pRdP1 c T g))
            have al1502 : pRdP c T g = (pGn T (pRdP1 c T g)) := by exact nw_4 (by omega) (by omega) (by omega)
            have zp1503 := zp1501
            rw [← al1502] at zp1503
            rw [← al1502] at nzp1501
            obtain ⟨-, rbzp1503, -, rdzp1503, -, -⟩ := id zp1503
            refine g_aload_n rfl ?_
            refine g_gfk (mS_I hI (by omega) (by omega) (by omega)) sm_0 rfl (mS_g13 hI) ?_
            refine g_if_eq (fun c1504 => ?_) (fun c1504 => ?_)
            · exfalso; omega
            · exfalso; omega
          · refine g_aload_n rfl ?_
            refine g_iconst (by decide) (fun v1505 kv1505 => ?_)
            refine g_invvv (mS_I hI (by omega) (by omega) (by omega)) sm_0 rfl rfl rfl rfl (f_161 v1505 (by omega) H hI hJ y1413 y1414 y1415 y1416 y1417 y1408 y1409 (by omega) (by omega) (by omega) hp0 zp1420) (fun H1506 r1507 => ?_)
            obtain ⟨y1508, y1509, rfl, zp1510⟩ := r1507
            rw [kv1505] at zp1510
            obtain ⟨-, rbzp1510, -, rdzp1510, -, -⟩ := id zp1510
            have nzp1510 := pF_ne (T := T) (g := (pRdP1 c T g)) (n := 3) (by omega)
            refine g_nop ?_
            refine g_aload_n rfl ?_
            refine g_gfk (mS_I hI (by omega) (by omega) (by omega)) sm_0 rfl (mS_g12 hI) ?_
            refine g_istore_n (l' := [(0, .ref 0), (1, .int y1417)]) rfl rfl ?_
            refine g_aload_n rfl ?_
            refine g_invvv (mS_I hI (by omega) (by omega) (by omega)) sm_0 rfl rfl rfl rfl (f_162 H hI hJ y1413 y1414 y1415 y1416 y1417 y1508 y1509 (by omega) (by omega) (by omega) hp0 zp1510) (fun H1511 r1512 => ?_)
            obtain ⟨y1513, y1514, y1515, y1516, y1517, rfl, by1513, by1514, by1515, zp1518⟩ := r1512
            obtain ⟨-, rbzp1518, -, rdzp1518, -, -⟩ := id zp1518
            have nzp1518 := gn_f (T := T) (g := (pFail T 3 (pRdP1 c T g)))
            have al1519 : pRdP c T g = (pGn T (pFail T 3 (pRdP1 c T g))) := by exact nw_3 (by omega)
            have zp1520 := zp1518
            rw [← al1519] at zp1520
            rw [← al1519] at nzp1518
            obtain ⟨-, rbzp1520, -, rdzp1520, -, -⟩ := id zp1520
            refine g_aload_n rfl ?_
            refine g_gfk (mS_I hI (by omega) (by omega) (by omega)) sm_0 rfl (mS_g13 hI) ?_
            refine g_if_eq (fun c1521 => ?_) (fun c1521 => ?_)
            · exfalso; omega
            · exact g_ret ⟨rfl, H, y1513, y1514, y1515, y1516, y1517, y1508, y1509, rfl, hI, hJ, (by omega), (by omega), (by omega), zp1520, hp0, (Or.inl (by omega)), (frM_r)⟩
        · refine g_nop ?_
          refine g_aload_n rfl ?_
          refine g_iconst (by decide) (fun v1522 kv1522 => ?_)
          refine g_invvv (mS_I hI (by omega) (by omega) (by omega)) sm_0 rfl rfl rfl rfl (f_161 v1522 (by omega) H hI hJ y1413 y1414 y1415 y1416 y1417 y1408 y1409 (by omega) (by omega) (by omega) hp0 zp1420) (fun H1523 r1524 => ?_)
          obtain ⟨y1525, y1526, rfl, zp1527⟩ := r1524
          rw [kv1522] at zp1527
          obtain ⟨-, rbzp1527, -, rdzp1527, -, -⟩ := id zp1527
          have nzp1527 := pF_ne (T := T) (g := (pRdP1 c T g)) (n := 1) (by omega)
          refine g_nop ?_
          refine g_aload_n rfl ?_
          refine g_invvi (mS_I hI (by omega) (by omega) (by omega)) sm_0 rfl rfl rfl rfl (f_164 H hI hJ y1413 y1414 y1415 y1416 y1417 y1525 y1526 (by omega) (by omega) (by omega) hp0 zp1527 hp2) (fun v1530 H1528 r1529 => ?_)
          obtain ⟨rfl, bv1530, zp1531⟩ := r1529
          have phzp1531 := ph_ok (c := c) (T := T) (g := (pFail T 1 (pRdP1 c T g)))
          refine g_iconst (by decide) (fun v1532 kv1532 => ?_)
          refine g_if2_eq (fun c1533 => ?_) (fun c1533 => ?_)
          · refine g_aload_n rfl ?_
            refine g_gfk (mS_I hI (by omega) (by omega) (by omega)) sm_0 rfl (mS_g12 hI) ?_
            refine g_istore_n (l' := [(0, .ref 0), (1, .int y1417)]) rfl rfl ?_
            refine g_aload_n rfl ?_
            refine g_invvv (mS_I hI (by omega) (by omega) (by omega)) sm_0 rfl rfl rfl rfl (f_162 H hI hJ y1413 y1414 y1415 y1416 y1417 y1525 y1526 (by omega) (by omega) (by omega) hp0 zp1527) (fun H1534 r1535 => ?_)
            obtain ⟨y1536, y1537, y1538, y1539, y1540, rfl, by1536, by1537, by1538, zp1541⟩ := r1535
            obtain ⟨-, rbzp1541, -, rdzp1541, -, -⟩ := id zp1541
            have nzp1541 := gn_f (T := T) (g := (pFail T 1 (pRdP1 c T g)))
            have al1542 : pRdP c T g = (pGn T (pFail T 1 (pRdP1 c T g))) := by exact nw_2 (by omega)
            have zp1543 := zp1541
            rw [← al1542] at zp1543
            rw [← al1542] at nzp1541
            obtain ⟨-, rbzp1543, -, rdzp1543, -, -⟩ := id zp1543
            refine g_aload_n rfl ?_
            refine g_gfk (mS_I hI (by omega) (by omega) (by omega)) sm_0 rfl (mS_g13 hI) ?_
            refine g_if_eq (fun c1544 => ?_) (fun c1544 => ?_)
            · exfalso; omega
            · exact g_ret ⟨rfl, H, y1536, y1537, y1538, y1539, y1540, y1525, y1526, rfl, hI, hJ, (by omega), (by omega), (by omega), zp1543, hp0, (Or.inl (by omega)), (frM_r)⟩
          · refine g_aload_n rfl ?_
            refine g_iconst (by decide) (fun v1545 kv1545 => ?_)
            refine g_invvv (mS_I hI (by omega) (by omega) (by omega)) sm_0 rfl rfl rfl rfl (f_161 v1545 (by omega) H hI hJ y1413 y1414 y1415 y1416 y1417 y1525 y1526 (by omega) (by omega) (by omega) hp0 zp1527) (fun H1546 r1547 => ?_)
            obtain ⟨y1548, y1549, rfl, zp1550⟩ := r1547
            rw [kv1545] at zp1550
            obtain ⟨-, rbzp1550, -, rdzp1550, -, -⟩ := id zp1550
            have nzp1550 := pF_ne (T := T) (g := (pFail T 1 (pRdP1 c T g))) (n := 3) (by omega)
            refine g_nop ?_
            exfalso; omega
set_option maxRecDepth 4000 in
set_option maxHeartbeats 4000000 in
/-- M.readRoad, exactly -/
theorem f_167 (H : mzH) (hI : gI SM H) (hJ : JN H) (x0 x1 x2 x3 x4 x5 x6 : Int32) (hx0 : 0 ≤ x0.toInt ∧ x0.toInt ≤ 900) (hx1 : 0 ≤ x1.toInt ∧ x1.toInt ≤ 900) (hx2 : 0 ≤ x2.toInt ∧ x2.toInt ≤ 4) {b : Nat → Int} {n : Nat} {T : pT} {g : pG} {c : pB} (hp0 : tkM H b n T) (hp1 : rdM b n T g x0 x1 x2 x3 x4 x5 x6) (hp2 : bkM H c) (hp3 : g.f = 0 ∧ T.K g.t = 1) : gCall 167 [.ref 0] (mS H x0 x1 x2 x3 x4 x5 x6) (gRv (fun H' => ∃ B : mzH, ∃ y0 y1 y2 y3 y4 y5 y6 : Int32, H' = mS B y0 y1 y2 y3 y4 y5 y6 ∧ gI SM B ∧ JN B ∧ (0 ≤ y0.toInt ∧ y0.toInt ≤ 900) ∧ (0 ≤ y1.toInt ∧ y1.toInt ≤ 900) ∧ (0 ≤ y2.toInt ∧ y2.toInt ≤ 4) ∧ rdM b n T (pRdR c T g) y0 y1 y2 y3 y4 y5 y6 ∧ tkM B b n T ∧ ((pRdR c T g).f ≠ 0 ∨ bkM B (bRdR c T g)) ∧ frM H B)) := by
  obtain ⟨-, r1, -, r3, -, -⟩ := id hp1
  have w0 := hp0.2.2
  have w3 := hp2.1
  have w4 := JN_n30 hJ (v := aZ H 3 0) rfl
  have w5 := hp2.2.1
  have w6 := hp2.2.2.2.2.2.2.2.2
  refine gG_call [(0, .ref 0)] ⟨rfl, trivial⟩ ?_
  show gG 4 zB_167 (mzBlk zB_167 0) [(0, .ref 0)] [] (mS H x0 x1 x2 x3 x4 x5 x6) 0 0 _
  refine g_aload_n rfl ?_
  refine g_gfr (mS_I hI (by omega) (by omega) (by omega)) sm_0 rfl ?_
  refine g_iconst (by decide) (fun v1289 kv1289 => ?_)
  refine g_iaload (mS_I hI (by omega) (by omega) (by omega)) sm_3 rfl (by omega) (fun v1290 ev1290 lv1290 uv1290 => ?_)
  have dv1290 : v1290 = aZ H 3 v1289.toInt.toNat := ev1290.trans mS_a
  have tv1290 : v1290.toInt = (aZ H 3 v1289.toInt.toNat).toInt := by rw [dv1290]
  rw [show v1289.toInt.toNat = 1 from by omega] at tv1290
  have w6v1290 : 0 ≤ v1290.toInt ∧ v1290.toInt ≤ 12 := by omega
  refine g_bipush (by decide) (fun v1291 kv1291 => ?_)
  refine g_if2_ne (fun c1292 => ?_) (fun c1292 => ?_)
  · refine g_aload_n rfl ?_
    refine g_invvv (mS_I hI (by omega) (by omega) (by omega)) sm_0 rfl rfl rfl rfl (f_162 H hI hJ x0 x1 x2 x3 x4 x5 x6 (by omega) (by omega) (by omega) hp0 hp1) (fun H1293 r1294 => ?_)
    obtain ⟨y1295, y1296, y1297, y1298, y1299, rfl, by1295, by1296, by1297, zp1300⟩ := r1294
    obtain ⟨-, rbzp1300, -, rdzp1300, -, -⟩ := id zp1300
    have nzp1300 := gn_f (T := T) (g := g)
    have al1301 : pRdR1 c T g = (pGn T g) := by unfold pRdR1; rw [if_neg (by omega), tk_y (by omega)]
    have zp1302 := zp1300
    rw [← al1301] at zp1302
    rw [← al1301] at nzp1300
    obtain ⟨-, rbzp1302, -, rdzp1302, -, -⟩ := id zp1302
    refine g_aload_n rfl ?_
    refine g_invvi (mS_I hI (by omega) (by omega) (by omega)) sm_0 rfl rfl rfl rfl (f_165 H hI hJ y1295 y1296 y1297 y1298 y1299 x5 x6 (by omega) (by omega) (by omega) hp0 zp1302 hp2) (fun v1305 H1303 r1304 => ?_)
    obtain ⟨y1306, y1307, y1308, y1309, y1310, y1311, y1312, rfl, bv1305, by1306, by1307, by1308, zp1313, zp1314⟩ := r1304
    obtain ⟨-, rbzp1313, -, rdzp1313, -, -⟩ := id zp1313
    have nzp1313 := bx.mk (rp_ok (c := c) (T := T) (g := (pRdR1 c T g)))
    have al1315 : pRdR2 c T g = (pPlc c.nm c.P T (-1) (pRdR1 c T g)) := by rfl
    have zp1316 := zp1313
    rw [← al1315] at zp1316
    rw [← al1315] at nzp1313
    obtain ⟨-, rbzp1316, -, rdzp1316, -, -⟩ := id zp1316
    refine g_istore_n (l' := [(0, .ref 0), (1, .int v1305)]) rfl rfl ?_
    refine g_aload_n rfl ?_
    refine g_gfk (mS_I hI (by omega) (by omega) (by omega)) sm_0 rfl (mS_g13 hI) ?_
    refine g_if_ne (fun c1317 => ?_) (fun c1317 => ?_)
    · refine g_aload_n rfl ?_
      refine g_invvi (mS_I hI (by omega) (by omega) (by omega)) sm_0 rfl rfl rfl rfl (f_165 H hI hJ y1306 y1307 y1308 y1309 y1310 y1311 y1312 (by omega) (by omega) (by omega) hp0 zp1316 hp2) (fun v1320 H1318 r1319 => ?_)
      obtain ⟨y1321, y1322, y1323, y1324, y1325, y1326, y1327, rfl, bv1320, by1321, by1322, by1323, zp1328, zp1329⟩ := r1319
      obtain ⟨-, rbzp1328, -, rdzp1328, -, -⟩ := id zp1328
      have nzp1328 := bx.mk (rp_ok (c := c) (T := T) (g := (pRdR2 c T g)))
      have al1330 : pRdR3 c T g = (pPlc c.nm c.P T (-1) (pRdR2 c T g)) := by unfold pRdR3; exact rr_c rfl (by omega)
      have zp1331 := zp1328
      rw [← al1330] at zp1331
      rw [← al1330] at nzp1328
      obtain ⟨-, rbzp1331, -, rdzp1331, -, -⟩ := id zp1331
      refine g_istore_n (l' := [(0, .ref 0), (1, .int v1305), (2, .int v1320)]) rfl rfl ?_
      refine g_aload_n rfl ?_
      refine g_iconst (by decide) (fun v1332 kv1332 => ?_)
      refine g_bipush (by decide) (fun v1333 kv1333 => ?_)
      refine g_invvi (mS_I hI (by omega) (by omega) (by omega)) sm_0 rfl rfl rfl rfl (f_163 v1332 (by omega) v1333 (by omega) H hI hJ y1321 y1322 y1323 y1324 y1325 y1326 y1327 (by omega) (by omega) (by omega) hp0 zp1331) (fun v1336 H1334 r1335 => ?_)
      obtain ⟨y1337, y1338, y1339, y1340, y1341, y1342, y1343, rfl, by1337, by1338, by1339, zp1344, zp1345⟩ := r1335
      rw [kv1332] at zp1344
      rw [kv1332] at zp1345
      rw [kv1333] at zp1344
      rw [kv1333] at zp1345
      obtain ⟨-, rbzp1344, -, rdzp1344, -, -⟩ := id zp1344
      have nzp1344 := bx.mk (pN_ok (T := T) (lo := 1) (hi := 99) (g := (pRdR3 c T g)))
      have al1346 : pRdR c T g = (pNumb T 1 99 (pRdR3 c T g)) := by rfl
      have zp1347 := zp1344
      rw [← al1346] at zp1347
      rw [← al1346] at nzp1344
      rw [← al1346] at zp1345
      obtain ⟨-, rbzp1347, -, rdzp1347, -, -⟩ := id zp1347
      refine g_istore_n (l' := [(0, .ref 0), (1, .int v1305), (2, .int v1320), (3, .int v1336)]) rfl rfl ?_
      refine g_aload_n rfl ?_
      refine g_gfk (mS_I hI (by omega) (by omega) (by omega)) sm_0 rfl (mS_g13 hI) ?_
      refine g_if_eq (fun c1348 => ?_) (fun c1348 => ?_)
      · have onzp1344 := (bx.op nzp1344).resolve_left (by omega)
        have onzp1328 := (bx.op nzp1328).resolve_left (by omega)
        have onzp1313 := (bx.op nzp1313).resolve_left (by omega)
        refine g_aload_n rfl ?_
        refine g_gfr (mS_I hI (by omega) (by omega) (by omega)) sm_0 rfl ?_
        refine g_iconst (by decide) (fun v1349 kv1349 => ?_)
        refine g_dup2 rfl ?_
        refine g_iaload (mS_I hI (by omega) (by omega) (by omega)) sm_3 rfl (by omega) (fun v1350 ev1350 lv1350 uv1350 => ?_)
        have dv1350 : v1350 = aZ H 3 v1349.toInt.toNat := ev1350.trans mS_a
        have tv1350 : v1350.toInt = (aZ H 3 v1349.toInt.toNat).toInt := by rw [dv1350]
        rw [show v1349.toInt.toNat = 1 from by omega] at tv1350
        have w6v1350 : 0 ≤ v1350.toInt ∧ v1350.toInt ≤ 12 := by omega
        refine g_iconst (by decide) (fun v1351 kv1351 => ?_)
        refine g_iadd (by omega) (fun v1352 ev1352 => ?_)
        refine g_iastore (mS_I hI (by omega) (by omega) (by omega)) sm_3 (by omega) (gz_any _) (fun H1353 eH1353 hIH1353 => ?_)
        obtain ⟨B1354, eB1354⟩ : ∃ z, z = sA H 3 v1349.toInt.toNat v1352 := ⟨_, rfl⟩
        obtain rfl : H1353 = (mS B1354 y1337 y1338 y1339 y1340 y1341 y1342 y1343) := by rw [eH1353, eB1354]; exact mS_cA
        have hIB1354 : gI SM B1354 := by rw [eB1354]; exact gI_sA hI sm_3 (gz_any _)
        have hJB1354 : JN B1354 := JN_s3 hI hJ (by omega) (fun _ => by omega) (fun _ => by omega) eB1354
        have frB1354 : frM H B1354 := frM_A (frM_r) eB1354 (by decide)
        have tkB1354 : tkM B1354 b n T := tkM_fr hp0 frB1354
        refine g_iload_n rfl ?_
        refine g_aload_n rfl ?_
        refine g_gfr (mS_I hIB1354 (by omega) (by omega) (by omega)) sm_0 rfl ?_
        refine g_iconst (by decide) (fun v1355 kv1355 => ?_)
        refine g_bipush (by decide) (fun v1356 kv1356 => ?_)
        refine g_iload_n rfl ?_
        refine g_imulk' (n := 8) kv1356 (by omega) (fun v1357 ev1357 => ?_)
        refine g_iadd (by omega) (fun v1358 ev1358 => ?_)
        refine g_iload_n rfl ?_
        refine g_iadd (by omega) (fun v1359 ev1359 => ?_)
        refine g_iaload (mS_I hIB1354 (by omega) (by omega) (by omega)) sm_3 rfl (by omega) (fun v1360 ev1360 lv1360 uv1360 => ?_)
        have dv1360 : v1360 = aZ B1354 3 v1359.toInt.toNat := ev1360.trans mS_a
        have tv1360 : v1360.toInt = (aZ B1354 3 v1359.toInt.toNat).toInt := by rw [dv1360]
        refine g_if2_lt (fun c1361 => ?_) (fun c1361 => ?_)
        · refine g_aload_n rfl ?_
          refine g_gfr (mS_I hIB1354 (by omega) (by omega) (by omega)) sm_0 rfl ?_
          refine g_iconst (by decide) (fun v1362 kv1362 => ?_)
          refine g_bipush (by decide) (fun v1363 kv1363 => ?_)
          refine g_iload_n rfl ?_
          refine g_imulk' (n := 8) kv1363 (by omega) (fun v1364 ev1364 => ?_)
          refine g_iadd (by omega) (fun v1365 ev1365 => ?_)
          refine g_iload_n rfl ?_
          refine g_iadd (by omega) (fun v1366 ev1366 => ?_)
          refine g_iload_n rfl ?_
          refine g_iastore (mS_I hIB1354 (by omega) (by omega) (by omega)) sm_3 (by omega) (gz_any _) (fun H1367 eH1367 hIH1367 => ?_)
          obtain ⟨B1368, eB1368⟩ : ∃ z, z = sA B1354 3 v1366.toInt.toNat v1336 := ⟨_, rfl⟩
          obtain rfl : H1367 = (mS B1368 y1337 y1338 y1339 y1340 y1341 y1342 y1343) := by rw [eH1367, eB1368]; exact mS_cA
          have hIB1368 : gI SM B1368 := by rw [eB1368]; exact gI_sA hIB1354 sm_3 (gz_any _)
          have hJB1368 : JN B1368 := JN_s3 hIB1354 hJB1354 (by omega) (fun _ => by omega) (fun _ => by omega) eB1368
          have frB1368 : frM H B1368 := frM_A frB1354 eB1368 (by decide)
          have tkB1368 : tkM B1368 b n T := tkM_fr hp0 frB1368
          refine g_aload_n rfl ?_
          refine g_gfr (mS_I hIB1368 (by omega) (by omega) (by omega)) sm_0 rfl ?_
          refine g_iconst (by decide) (fun v1369 kv1369 => ?_)
          refine g_bipush (by decide) (fun v1370 kv1370 => ?_)
          refine g_iload_n rfl ?_
          refine g_imulk' (n := 8) kv1370 (by omega) (fun v1371 ev1371 => ?_)
          refine g_iadd (by omega) (fun v1372 ev1372 => ?_)
          refine g_iload_n rfl ?_
          refine g_iadd (by omega) (fun v1373 ev1373 => ?_)
          refine g_iload_n rfl ?_
          refine g_iastore (mS_I hIB1368 (by omega) (by omega) (by omega)) sm_3 (by omega) (gz_any _) (fun H1374 eH1374 hIH1374 => ?_)
          obtain ⟨B1375, eB1375⟩ : ∃ z, z = sA B1368 3 v1373.toInt.toNat v1336 := ⟨_, rfl⟩
          obtain rfl : H1374 = (mS B1375 y1337 y1338 y1339 y1340 y1341 y1342 y1343) := by rw [eH1374, eB1375]; exact mS_cA
          have hIB1375 : gI SM B1375 := by rw [eB1375]; exact gI_sA hIB1368 sm_3 (gz_any _)
          have hJB1375 : JN B1375 := JN_s3 hIB1368 hJB1368 (by omega) (fun _ => by omega) (fun _ => by omega) eB1375
          have frB1375 : frM H B1375 := frM_A frB1368 eB1375 (by decide)
          have tkB1375 : tkM B1375 b n T := tkM_fr hp0 frB1375
          exact g_ret ⟨rfl, B1375, y1337, y1338, y1339, y1340, y1341, y1342, y1343, rfl, hIB1375, hJB1375, (by omega), (by omega), (by omega), zp1347, tkB1375, (Or.inr (by unfold bRdR; rw [if_pos (by omega)]; exact (bkM_w hIB1368 (bkM_w hIB1354 (nrd_mk hI hp2 eB1354 (by omega) (by omega)) eB1368 (by omega)) eB1375 (by omega)))), frB1375⟩
        · exact g_ret ⟨rfl, B1354, y1337, y1338, y1339, y1340, y1341, y1342, y1343, rfl, hIB1354, hJB1354, (by omega), (by omega), (by omega), zp1347, tkB1354, (Or.inr (by unfold bRdR; rw [if_pos (by omega)]; exact (nrd_mk hI hp2 eB1354 (by omega) (by omega)))), frB1354⟩
      · exact g_ret ⟨rfl, H, y1337, y1338, y1339, y1340, y1341, y1342, y1343, rfl, hI, hJ, (by omega), (by omega), (by omega), zp1347, hp0, (Or.inl (by omega)), (frM_r)⟩
    · refine g_aload_n rfl ?_
      refine g_invvi (mS_I hI (by omega) (by omega) (by omega)) sm_0 rfl rfl rfl rfl (f_164 H hI hJ y1306 y1307 y1308 y1309 y1310 y1311 y1312 (by omega) (by omega) (by omega) hp0 zp1316 hp2) (fun v1378 H1376 r1377 => ?_)
      obtain ⟨rfl, bv1378, zp1379⟩ := r1377
      have phzp1379 := ph_ok (c := c) (T := T) (g := (pRdR2 c T g))
      refine g_iload_n rfl ?_
      refine g_if2_ne (fun c1380 => ?_) (fun c1380 => ?_)
      · have oonzp1313 := (bx.op nzp1313).resolve_left (by omega)
        refine g_aload_n rfl ?_
        refine g_invvi (mS_I hI (by omega) (by omega) (by omega)) sm_0 rfl rfl rfl rfl (f_165 H hI hJ y1306 y1307 y1308 y1309 y1310 y1311 y1312 (by omega) (by omega) (by omega) hp0 zp1316 hp2) (fun v1383 H1381 r1382 => ?_)
        obtain ⟨y1384, y1385, y1386, y1387, y1388, y1389, y1390, rfl, bv1383, by1384, by1385, by1386, zp1391, zp1392⟩ := r1382
        obtain ⟨-, rbzp1391, -, rdzp1391, -, -⟩ := id zp1391
        have nzp1391 := bx.mk (rp_ok (c := c) (T := T) (g := (pRdR2 c T g)))
        have al1393 : pRdR3 c T g = (pPlc c.nm c.P T (-1) (pRdR2 c T g)) := by unfold pRdR3; exact rr_b rfl (by omega) (by omega)
        have zp1394 := zp1391
        rw [← al1393] at zp1394
        rw [← al1393] at nzp1391
        obtain ⟨-, rbzp1394, -, rdzp1394, -, -⟩ := id zp1394
        refine g_istore_n (l' := [(0, .ref 0), (1, .int v1305), (2, .int v1383)]) rfl rfl ?_
        refine g_aload_n rfl ?_
        refine g_iconst (by decide) (fun v1395 kv1395 => ?_)
        refine g_bipush (by decide) (fun v1396 kv1396 => ?_)
        refine g_invvi (mS_I hI (by omega) (by omega) (by omega)) sm_0 rfl rfl rfl rfl (f_163 v1395 (by omega) v1396 (by omega) H hI hJ y1384 y1385 y1386 y1387 y1388 y1389 y1390 (by omega) (by omega) (by omega) hp0 zp1394) (fun v1399 H1397 r1398 => ?_)
        obtain ⟨y1400, y1401, y1402, y1403, y1404, y1405, y1406, rfl, by1400, by1401, by1402, zp1407, zp1408⟩ := r1398
        rw [kv1395] at zp1407
        rw [kv1395] at zp1408
        rw [kv1396] at zp1407
        rw [kv1396] at zp1408
        obtain ⟨-, rbzp1407, -, rdzp1407, -, -⟩ := id zp1407
        have nzp1407 := bx.mk (pN_ok (T := T) (lo := 1) (hi := 99) (g := (pRdR3 c T g)))
        have al1409 : pRdR c T g = (pNumb T 1 99 (pRdR3 c T g)) := by rfl
        have zp1410 := zp1407
        rw [← al1409] at zp1410
        rw [← al1409] at nzp1407
        rw [← al1409] at zp1408
        obtain ⟨-, rbzp1410, -, rdzp1410, -, -⟩ := id zp1410
        refine g_istore_n (l' := [(0, .ref 0), (1, .int v1305), (2, .int v1383), (3, .int v1399)]) rfl rfl ?_
        refine g_aload_n rfl ?_
        refine g_gfk (mS_I hI (by omega) (by omega) (by omega)) sm_0 rfl (mS_g13 hI) ?_
        refine g_if_eq (fun c1411 => ?_) (fun c1411 => ?_)
        · have onzp1407 := (bx.op nzp1407).resolve_left (by omega)
          have onzp1391 := (bx.op nzp1391).resolve_left (by omega)
          have onzp1313 := (bx.op nzp1313).resolve_left (by omega)
          refine g_aload_n rfl ?_
          refine g_gfr (mS_I hI (by omega) (by omega) (by omega)) sm_0 rfl ?_
          refine g_iconst (by decide) (fun v1412 kv1412 => ?_)
          refine g_dup2 rfl ?_
          refine g_iaload (mS_I hI (by omega) (by omega) (by omega)) sm_3 rfl (by omega) (fun v1413 ev1413 lv1413 uv1413 => ?_)
          have dv1413 : v1413 = aZ H 3 v1412.toInt.toNat := ev1413.trans mS_a
          have tv1413 : v1413.toInt = (aZ H 3 v1412.toInt.toNat).toInt := by rw [dv1413]
          rw [show v1412.toInt.toNat = 1 from by omega] at tv1413
          have w6v1413 : 0 ≤ v1413.toInt ∧ v1413.toInt ≤ 12 := by omega
          refine g_iconst (by decide) (fun v1414 kv1414 => ?_)
          refine g_iadd (by omega) (fun v1415 ev1415 => ?_)
          refine g_iastore (mS_I hI (by omega) (by omega) (by omega)) sm_3 (by omega) (gz_any _) (fun H1416 eH1416 hIH1416 => ?_)
          obtain ⟨B1417, eB1417⟩ : ∃ z, z = sA H 3 v1412.toInt.toNat v1415 := ⟨_, rfl⟩
          obtain rfl : H1416 = (mS B1417 y1400 y1401 y1402 y1403 y1404 y1405 y1406) := by rw [eH1416, eB1417]; exact mS_cA
          have hIB1417 : gI SM B1417 := by rw [eB1417]; exact gI_sA hI sm_3 (gz_any _)
          have hJB1417 : JN B1417 := JN_s3 hI hJ (by omega) (fun _ => by omega) (fun _ => by omega) eB1417
          have frB1417 : frM H B1417 := frM_A (frM_r) eB1417 (by decide)
          have tkB1417 : tkM B1417 b n T := tkM_fr hp0 frB1417
          refine g_iload_n rfl ?_
          refine g_aload_n rfl ?_
          refine g_gfr (mS_I hIB1417 (by omega) (by omega) (by omega)) sm_0 rfl ?_
          refine g_iconst (by decide) (fun v1418 kv1418 => ?_)
          refine g_bipush (by decide) (fun v1419 kv1419 => ?_)
          refine g_iload_n rfl ?_
          refine g_imulk' (n := 8) kv1419 (by omega) (fun v1420 ev1420 => ?_)
          refine g_iadd (by omega) (fun v1421 ev1421 => ?_)
          refine g_iload_n rfl ?_
          refine g_iadd (by omega) (fun v1422 ev1422 => ?_)
          refine g_iaload (mS_I hIB1417 (by omega) (by omega) (by omega)) sm_3 rfl (by omega) (fun v1423 ev1423 lv1423 uv1423 => ?_)
          have dv1423 : v1423 = aZ B1417 3 v1422.toInt.toNat := ev1423.trans mS_a
          have tv1423 : v1423.toInt = (aZ B1417 3 v1422.toInt.toNat).toInt := by rw [dv1423]
          refine g_if2_lt (fun c1424 => ?_) (fun c1424 => ?_)
          · refine g_aload_n rfl ?_
            refine g_gfr (mS_I hIB1417 (by omega) (by omega) (by omega)) sm_0 rfl ?_
            refine g_iconst (by decide) (fun v1425 kv1425 => ?_)
            refine g_bipush (by decide) (fun v1426 kv1426 => ?_)
            refine g_iload_n rfl ?_
            refine g_imulk' (n := 8) kv1426 (by omega) (fun v1427 ev1427 => ?_)
            refine g_iadd (by omega) (fun v1428 ev1428 => ?_)
            refine g_iload_n rfl ?_
            refine g_iadd (by omega) (fun v1429 ev1429 => ?_)
            refine g_iload_n rfl ?_
            refine g_iastore (mS_I hIB1417 (by omega) (by omega) (by omega)) sm_3 (by omega) (gz_any _) (fun H1430 eH1430 hIH1430 => ?_)
            obtain ⟨B1431, eB1431⟩ : ∃ z, z = sA B1417 3 v1429.toInt.toNat v1399 := ⟨_, rfl⟩
            obtain rfl : H1430 = (mS B1431 y1400 y1401 y1402 y1403 y1404 y1405 y1406) := by rw [eH1430, eB1431]; exact mS_cA
            have hIB1431 : gI SM B1431 := by rw [eB1431]; exact gI_sA hIB1417 sm_3 (gz_any _)
            have hJB1431 : JN B1431 := JN_s3 hIB1417 hJB1417 (by omega) (fun _ => by omega) (fun _ => by omega) eB1431
            have frB1431 : frM H B1431 := frM_A frB1417 eB1431 (by decide)
            have tkB1431 : tkM B1431 b n T := tkM_fr hp0 frB1431
            refine g_aload_n rfl ?_
            refine g_gfr (mS_I hIB1431 (by omega) (by omega) (by omega)) sm_0 rfl ?_
            refine g_iconst (by decide) (fun v1432 kv1432 => ?_)
            refine g_bipush (by decide) (fun v1433 kv1433 => ?_)
            refine g_iload_n rfl ?_
            refine g_imulk' (n := 8) kv1433 (by omega) (fun v1434 ev1434 => ?_)
            refine g_iadd (by omega) (fun v1435 ev1435 => ?_)
            refine g_iload_n rfl ?_
            refine g_iadd (by omega) (fun v1436 ev1436 => ?_)
            refine g_iload_n rfl ?_
            refine g_iastore (mS_I hIB1431 (by omega) (by omega) (by omega)) sm_3 (by omega) (gz_any _) (fun H1437 eH1437 hIH1437 => ?_)
            obtain ⟨B1438, eB1438⟩ : ∃ z, z = sA B1431 3 v1436.toInt.toNat v1399 := ⟨_, rfl⟩
            obtain rfl : H1437 = (mS B1438 y1400 y1401 y1402 y1403 y1404 y1405 y1406) := by rw [eH1437, eB1438]; exact mS_cA
            have hIB1438 : gI SM B1438 := by rw [eB1438]; exact gI_sA hIB1431 sm_3 (gz_any _)
            have hJB1438 : JN B1438 := JN_s3 hIB1431 hJB1431 (by omega) (fun _ => by omega) (fun _ => by omega) eB1438
            have frB1438 : frM H B1438 := frM_A frB1431 eB1438 (by decide)
            have tkB1438 : tkM B1438 b n T := tkM_fr hp0 frB1438
            exact g_ret ⟨rfl, B1438, y1400, y1401, y1402, y1403, y1404, y1405, y1406, rfl, hIB1438, hJB1438, (by omega), (by omega), (by omega), zp1410, tkB1438, (Or.inr (by unfold bRdR; rw [if_pos (by omega)]; exact (bkM_w hIB1431 (bkM_w hIB1417 (nrd_mk hI hp2 eB1417 (by omega) (by omega)) eB1431 (by omega)) eB1438 (by omega)))), frB1438⟩
          · exact g_ret ⟨rfl, B1417, y1400, y1401, y1402, y1403, y1404, y1405, y1406, rfl, hIB1417, hJB1417, (by omega), (by omega), (by omega), zp1410, tkB1417, (Or.inr (by unfold bRdR; rw [if_pos (by omega)]; exact (nrd_mk hI hp2 eB1417 (by omega) (by omega)))), frB1417⟩
        · exact g_ret ⟨rfl, H, y1400, y1401, y1402, y1403, y1404, y1405, y1406, rfl, hI, hJ, (by omega), (by omega), (by omega), zp1410, hp0, (Or.inl (by omega)), (frM_r)⟩
      · refine g_aload_n rfl ?_
        refine g_iconst (by decide) (fun v1439 kv1439 => ?_)
        refine g_invvv (mS_I hI (by omega) (by omega) (by omega)) sm_0 rfl rfl rfl rfl (f_161 v1439 (by omega) H hI hJ y1306 y1307 y1308 y1309 y1310 y1311 y1312 (by omega) (by omega) (by omega) hp0 zp1316) (fun H1440 r1441 => ?_)
        obtain ⟨y1442, y1443, rfl, zp1444⟩ := r1441
        rw [kv1439] at zp1444
        obtain ⟨-, rbzp1444, -, rdzp1444, -, -⟩ := id zp1444
        have nzp1444 := pF_ne (T := T) (g := (pRdR2 c T g)) (n := 3) (by omega)
        refine g_nop ?_
        have oonzp1313 := (bx.op nzp1313).resolve_left (by omega)
        refine g_aload_n rfl ?_
        refine g_invvi (mS_I hI (by omega) (by omega) (by omega)) sm_0 rfl rfl rfl rfl (f_165 H hI hJ y1306 y1307 y1308 y1309 y1310 y1442 y1443 (by omega) (by omega) (by omega) hp0 zp1444 hp2) (fun v1447 H1445 r1446 => ?_)
        obtain ⟨y1448, y1449, y1450, y1451, y1452, y1453, y1454, rfl, bv1447, by1448, by1449, by1450, zp1455, zp1456⟩ := r1446
        obtain ⟨-, rbzp1455, -, rdzp1455, -, -⟩ := id zp1455
        have nzp1455 := bx.mk (rp_ok (c := c) (T := T) (g := (pFail T 3 (pRdR2 c T g))))
        have al1457 : pRdR3 c T g = (pPlc c.nm c.P T (-1) (pFail T 3 (pRdR2 c T g))) := by unfold pRdR3; exact rr_a rfl (by omega) (by omega)
        have zp1458 := zp1455
        rw [← al1457] at zp1458
        rw [← al1457] at nzp1455
        obtain ⟨-, rbzp1458, -, rdzp1458, -, -⟩ := id zp1458
        refine g_istore_n (l' := [(0, .ref 0), (1, .int v1305), (2, .int v1447)]) rfl rfl ?_
        refine g_aload_n rfl ?_
        refine g_iconst (by decide) (fun v1459 kv1459 => ?_)
        refine g_bipush (by decide) (fun v1460 kv1460 => ?_)
        refine g_invvi (mS_I hI (by omega) (by omega) (by omega)) sm_0 rfl rfl rfl rfl (f_163 v1459 (by omega) v1460 (by omega) H hI hJ y1448 y1449 y1450 y1451 y1452 y1453 y1454 (by omega) (by omega) (by omega) hp0 zp1458) (fun v1463 H1461 r1462 => ?_)
        obtain ⟨y1464, y1465, y1466, y1467, y1468, y1469, y1470, rfl, by1464, by1465, by1466, zp1471, zp1472⟩ := r1462
        rw [kv1459] at zp1471
        rw [kv1459] at zp1472
        rw [kv1460] at zp1471
        rw [kv1460] at zp1472
        obtain ⟨-, rbzp1471, -, rdzp1471, -, -⟩ := id zp1471
        have nzp1471 := bx.mk (pN_ok (T := T) (lo := 1) (hi := 99) (g := (pRdR3 c T g)))
        have al1473 : pRdR c T g = (pNumb T 1 99 (pRdR3 c T g)) := by rfl
        have zp1474 := zp1471
        rw [← al1473] at zp1474
        rw [← al1473] at nzp1471
        rw [← al1473] at zp1472
        obtain ⟨-, rbzp1474, -, rdzp1474, -, -⟩ := id zp1474
        refine g_istore_n (l' := [(0, .ref 0), (1, .int v1305), (2, .int v1447), (3, .int v1463)]) rfl rfl ?_
        refine g_aload_n rfl ?_
        refine g_gfk (mS_I hI (by omega) (by omega) (by omega)) sm_0 rfl (mS_g13 hI) ?_
        refine g_if_eq (fun c1475 => ?_) (fun c1475 => ?_)
        · have onzp1471 := (bx.op nzp1471).resolve_left (by omega)
          have onzp1455 := (bx.op nzp1455).resolve_left (by omega)
          have onzp1313 := (bx.op nzp1313).resolve_left (by omega)
          exfalso; omega
        · exact g_ret ⟨rfl, H, y1464, y1465, y1466, y1467, y1468, y1469, y1470, rfl, hI, hJ, (by omega), (by omega), (by omega), zp1474, hp0, (Or.inl (by omega)), (frM_r)⟩
  · refine g_aload_n rfl ?_
    refine g_iconst (by decide) (fun v1476 kv1476 => ?_)
    refine g_invvv (mS_I hI (by omega) (by omega) (by omega)) sm_0 rfl rfl rfl rfl (f_161 v1476 (by omega) H hI hJ x0 x1 x2 x3 x4 x5 x6 (by omega) (by omega) (by omega) hp0 hp1) (fun H1477 r1478 => ?_)
    obtain ⟨y1479, y1480, rfl, zp1481⟩ := r1478
    rw [kv1476] at zp1481
    obtain ⟨-, rbzp1481, -, rdzp1481, -, -⟩ := id zp1481
    have nzp1481 := pF_ne (T := T) (g := g) (n := 2) (by omega)
    refine g_nop ?_
    refine g_aload_n rfl ?_
    refine g_invvv (mS_I hI (by omega) (by omega) (by omega)) sm_0 rfl rfl rfl rfl (f_162 H hI hJ x0 x1 x2 x3 x4 y1479 y1480 (by omega) (by omega) (by omega) hp0 zp1481) (fun H1482 r1483 => ?_)
    obtain ⟨y1484, y1485, y1486, y1487, y1488, rfl, by1484, by1485, by1486, zp1489⟩ := r1483
    obtain ⟨-, rbzp1489, -, rdzp1489, -, -⟩ := id zp1489
    have nzp1489 := gn_f (T := T) (g := (pFail T 2 g))
    have al1490 : pRdR1 c T g = (pGn T (pFail T 2 g)) := by unfold pRdR1; rw [if_pos (by omega), tk_y (by rw [(pF_ne (by decide)).2]; omega)]
    have zp1491 := zp1489
    rw [← al1490] at zp1491
    rw [← al1490] at nzp1489
    obtain ⟨-, rbzp1491, -, rdzp1491, -, -⟩ := id zp1491
    refine g_aload_n rfl ?_
    refine g_invvi (mS_I hI (by omega) (by omega) (by omega)) sm_0 rfl rfl rfl rfl (f_165 H hI hJ y1484 y1485 y1486 y1487 y1488 y1479 y1480 (by omega) (by omega) (by omega) hp0 zp1491 hp2) (fun v1494 H1492 r1493 => ?_)
    obtain ⟨y1495, y1496, y1497, y1498, y1499, y1500, y1501, rfl, bv1494, by1495, by1496, by1497, zp1502, zp1503⟩ := r1493
    obtain ⟨-, rbzp1502, -, rdzp1502, -, -⟩ := id zp1502
    have nzp1502 := bx.mk (rp_ok (c := c) (T := T) (g := (pRdR1 c T g)))
    have al1504 : pRdR2 c T g = (pPlc c.nm c.P T (-1) (pRdR1 c T g)) := by rfl
    have zp1505 := zp1502
    rw [← al1504] at zp1505
    rw [← al1504] at nzp1502
    obtain ⟨-, rbzp1505, -, rdzp1505, -, -⟩ := id zp1505
    refine g_istore_n (l' := [(0, .ref 0), (1, .int v1494)]) rfl rfl ?_
    refine g_aload_n rfl ?_
    refine g_gfk (mS_I hI (by omega) (by omega) (by omega)) sm_0 rfl (mS_g13 hI) ?_
    refine g_if_ne (fun c1506 => ?_) (fun c1506 => ?_)
    · refine g_aload_n rfl ?_
      refine g_invvi (mS_I hI (by omega) (by omega) (by omega)) sm_0 rfl rfl rfl rfl (f_165 H hI hJ y1495 y1496 y1497 y1498 y1499 y1500 y1501 (by omega) (by omega) (by omega) hp0 zp1505 hp2) (fun v1509 H1507 r1508 => ?_)
      obtain ⟨y1510, y1511, y1512, y1513, y1514, y1515, y1516, rfl, bv1509, by1510, by1511, by1512, zp1517, zp1518⟩ := r1508
      obtain ⟨-, rbzp1517, -, rdzp1517, -, -⟩ := id zp1517
      have nzp1517 := bx.mk (rp_ok (c := c) (T := T) (g := (pRdR2 c T g)))
      have al1519 : pRdR3 c T g = (pPlc c.nm c.P T (-1) (pRdR2 c T g)) := by unfold pRdR3; exact rr_c rfl (by omega)
      have zp1520 := zp1517
      rw [← al1519] at zp1520
      rw [← al1519] at nzp1517
      obtain ⟨-, rbzp1520, -, rdzp1520, -, -⟩ := id zp1520
      refine g_istore_n (l' := [(0, .ref 0), (1, .int v1494), (2, .int v1509)]) rfl rfl ?_
      refine g_aload_n rfl ?_
      refine g_iconst (by decide) (fun v1521 kv1521 => ?_)
      refine g_bipush (by decide) (fun v1522 kv1522 => ?_)
      refine g_invvi (mS_I hI (by omega) (by omega) (by omega)) sm_0 rfl rfl rfl rfl (f_163 v1521 (by omega) v1522 (by omega) H hI hJ y1510 y1511 y1512 y1513 y1514 y1515 y1516 (by omega) (by omega) (by omega) hp0 zp1520) (fun v1525 H1523 r1524 => ?_)
      obtain ⟨y1526, y1527, y1528, y1529, y1530, y1531, y1532, rfl, by1526, by1527, by1528, zp1533, zp1534⟩ := r1524
      rw [kv1521] at zp1533
      rw [kv1521] at zp1534
      rw [kv1522] at zp1533
      rw [kv1522] at zp1534
      obtain ⟨-, rbzp1533, -, rdzp1533, -, -⟩ := id zp1533
      have nzp1533 := bx.mk (pN_ok (T := T) (lo := 1) (hi := 99) (g := (pRdR3 c T g)))
      have al1535 : pRdR c T g = (pNumb T 1 99 (pRdR3 c T g)) := by rfl
      have zp1536 := zp1533
      rw [← al1535] at zp1536
      rw [← al1535] at nzp1533
      rw [← al1535] at zp1534
      obtain ⟨-, rbzp1536, -, rdzp1536, -, -⟩ := id zp1536
      refine g_istore_n (l' := [(0, .ref 0), (1, .int v1494), (2, .int v1509), (3, .int v1525)]) rfl rfl ?_
      refine g_aload_n rfl ?_
      refine g_gfk (mS_I hI (by omega) (by omega) (by omega)) sm_0 rfl (mS_g13 hI) ?_
      refine g_if_eq (fun c1537 => ?_) (fun c1537 => ?_)
      · have onzp1533 := (bx.op nzp1533).resolve_left (by omega)
        have onzp1517 := (bx.op nzp1517).resolve_left (by omega)
        have onzp1502 := (bx.op nzp1502).resolve_left (by omega)
        exfalso; omega
      · exact g_ret ⟨rfl, H, y1526, y1527, y1528, y1529, y1530, y1531, y1532, rfl, hI, hJ, (by omega), (by omega), (by omega), zp1536, hp0, (Or.inl (by omega)), (frM_r)⟩
    · refine g_aload_n rfl ?_
      refine g_invvi (mS_I hI (by omega) (by omega) (by omega)) sm_0 rfl rfl rfl rfl (f_164 H hI hJ y1495 y1496 y1497 y1498 y1499 y1500 y1501 (by omega) (by omega) (by omega) hp0 zp1505 hp2) (fun v1540 H1538 r1539 => ?_)
      obtain ⟨rfl, bv1540, zp1541⟩ := r1539
      have phzp1541 := ph_ok (c := c) (T := T) (g := (pRdR2 c T g))
      refine g_iload_n rfl ?_
      refine g_if2_ne (fun c1542 => ?_) (fun c1542 => ?_)
      · have oonzp1502 := (bx.op nzp1502).resolve_left (by omega)
        refine g_aload_n rfl ?_
        refine g_invvi (mS_I hI (by omega) (by omega) (by omega)) sm_0 rfl rfl rfl rfl (f_165 H hI hJ y1495 y1496 y1497 y1498 y1499 y1500 y1501 (by omega) (by omega) (by omega) hp0 zp1505 hp2) (fun v1545 H1543 r1544 => ?_)
        obtain ⟨y1546, y1547, y1548, y1549, y1550, y1551, y1552, rfl, bv1545, by1546, by1547, by1548, zp1553, zp1554⟩ := r1544
        obtain ⟨-, rbzp1553, -, rdzp1553, -, -⟩ := id zp1553
        have nzp1553 := bx.mk (rp_ok (c := c) (T := T) (g := (pRdR2 c T g)))
        have al1555 : pRdR3 c T g = (pPlc c.nm c.P T (-1) (pRdR2 c T g)) := by unfold pRdR3; exact rr_b rfl (by omega) (by omega)
        have zp1556 := zp1553
        rw [← al1555] at zp1556
        rw [← al1555] at nzp1553
        obtain ⟨-, rbzp1556, -, rdzp1556, -, -⟩ := id zp1556
        refine g_istore_n (l' := [(0, .ref 0), (1, .int v1494), (2, .int v1545)]) rfl rfl ?_
        refine g_aload_n rfl ?_
        refine g_iconst (by decide) (fun v1557 kv1557 => ?_)
        refine g_bipush (by decide) (fun v1558 kv1558 => ?_)
        refine g_invvi (mS_I hI (by omega) (by omega) (by omega)) sm_0 rfl rfl rfl rfl (f_163 v1557 (by omega) v1558 (by omega) H hI hJ y1546 y1547 y1548 y1549 y1550 y1551 y1552 (by omega) (by omega) (by omega) hp0 zp1556) (fun v1561 H1559 r1560 => ?_)
        obtain ⟨y1562, y1563, y1564, y1565, y1566, y1567, y1568, rfl, by1562, by1563, by1564, zp1569, zp1570⟩ := r1560
        rw [kv1557] at zp1569
        rw [kv1557] at zp1570
        rw [kv1558] at zp1569
        rw [kv1558] at zp1570
        obtain ⟨-, rbzp1569, -, rdzp1569, -, -⟩ := id zp1569
        have nzp1569 := bx.mk (pN_ok (T := T) (lo := 1) (hi := 99) (g := (pRdR3 c T g)))
        have al1571 : pRdR c T g = (pNumb T 1 99 (pRdR3 c T g)) := by rfl
        have zp1572 := zp1569
        rw [← al1571] at zp1572
        rw [← al1571] at nzp1569
        rw [← al1571] at zp1570
        obtain ⟨-, rbzp1572, -, rdzp1572, -, -⟩ := id zp1572
        refine g_istore_n (l' := [(0, .ref 0), (1, .int v1494), (2, .int v1545), (3, .int v1561)]) rfl rfl ?_
        refine g_aload_n rfl ?_
        refine g_gfk (mS_I hI (by omega) (by omega) (by omega)) sm_0 rfl (mS_g13 hI) ?_
        refine g_if_eq (fun c1573 => ?_) (fun c1573 => ?_)
        · have onzp1569 := (bx.op nzp1569).resolve_left (by omega)
          have onzp1553 := (bx.op nzp1553).resolve_left (by omega)
          have onzp1502 := (bx.op nzp1502).resolve_left (by omega)
          exfalso; omega
        · exact g_ret ⟨rfl, H, y1562, y1563, y1564, y1565, y1566, y1567, y1568, rfl, hI, hJ, (by omega), (by omega), (by omega), zp1572, hp0, (Or.inl (by omega)), (frM_r)⟩
      · refine g_aload_n rfl ?_
        refine g_iconst (by decide) (fun v1574 kv1574 => ?_)
        refine g_invvv (mS_I hI (by omega) (by omega) (by omega)) sm_0 rfl rfl rfl rfl (f_161 v1574 (by omega) H hI hJ y1495 y1496 y1497 y1498 y1499 y1500 y1501 (by omega) (by omega) (by omega) hp0 zp1505) (fun H1575 r1576 => ?_)
        obtain ⟨y1577, y1578, rfl, zp1579⟩ := r1576
        rw [kv1574] at zp1579
        obtain ⟨-, rbzp1579, -, rdzp1579, -, -⟩ := id zp1579
        have nzp1579 := pF_ne (T := T) (g := (pRdR2 c T g)) (n := 3) (by omega)
        refine g_nop ?_
        have oonzp1502 := (bx.op nzp1502).resolve_left (by omega)
        refine g_aload_n rfl ?_
        refine g_invvi (mS_I hI (by omega) (by omega) (by omega)) sm_0 rfl rfl rfl rfl (f_165 H hI hJ y1495 y1496 y1497 y1498 y1499 y1577 y1578 (by omega) (by omega) (by omega) hp0 zp1579 hp2) (fun v1582 H1580 r1581 => ?_)
        obtain ⟨y1583, y1584, y1585, y1586, y1587, y1588, y1589, rfl, bv1582, by1583, by1584, by1585, zp1590, zp1591⟩ := r1581
        obtain ⟨-, rbzp1590, -, rdzp1590, -, -⟩ := id zp1590
        have nzp1590 := bx.mk (rp_ok (c := c) (T := T) (g := (pFail T 3 (pRdR2 c T g))))
        have al1592 : pRdR3 c T g = (pPlc c.nm c.P T (-1) (pFail T 3 (pRdR2 c T g))) := by unfold pRdR3; exact rr_a rfl (by omega) (by omega)
        have zp1593 := zp1590
        rw [← al1592] at zp1593
        rw [← al1592] at nzp1590
        obtain ⟨-, rbzp1593, -, rdzp1593, -, -⟩ := id zp1593
        refine g_istore_n (l' := [(0, .ref 0), (1, .int v1494), (2, .int v1582)]) rfl rfl ?_
        refine g_aload_n rfl ?_
        refine g_iconst (by decide) (fun v1594 kv1594 => ?_)
        refine g_bipush (by decide) (fun v1595 kv1595 => ?_)
        refine g_invvi (mS_I hI (by omega) (by omega) (by omega)) sm_0 rfl rfl rfl rfl (f_163 v1594 (by omega) v1595 (by omega) H hI hJ y1583 y1584 y1585 y1586 y1587 y1588 y1589 (by omega) (by omega) (by omega) hp0 zp1593) (fun v1598 H1596 r1597 => ?_)
        obtain ⟨y1599, y1600, y1601, y1602, y1603, y1604, y1605, rfl, by1599, by1600, by1601, zp1606, zp1607⟩ := r1597
        rw [kv1594] at zp1606
        rw [kv1594] at zp1607
        rw [kv1595] at zp1606
        rw [kv1595] at zp1607
        obtain ⟨-, rbzp1606, -, rdzp1606, -, -⟩ := id zp1606
        have nzp1606 := bx.mk (pN_ok (T := T) (lo := 1) (hi := 99) (g := (pRdR3 c T g)))
        have al1608 : pRdR c T g = (pNumb T 1 99 (pRdR3 c T g)) := by rfl
        have zp1609 := zp1606
        rw [← al1608] at zp1609
        rw [← al1608] at nzp1606
        rw [← al1608] at zp1607
        obtain ⟨-, rbzp1609, -, rdzp1609, -, -⟩ := id zp1609
        refine g_istore_n (l' := [(0, .ref 0), (1, .int v1494), (2, .int v1582), (3, .int v1598)]) rfl rfl ?_
        refine g_aload_n rfl ?_
        refine g_gfk (mS_I hI (by omega) (by omega) (by omega)) sm_0 rfl (mS_g13 hI) ?_
        refine g_if_eq (fun c1610 => ?_) (fun c1610 => ?_)
        · have onzp1606 := (bx.op nzp1606).resolve_left (by omega)
          have onzp1590 := (bx.op nzp1590).resolve_left (by omega)
          have onzp1502 := (bx.op nzp1502).resolve_left (by omega)
          exfalso; omega
        · exact g_ret ⟨rfl, H, y1599, y1600, y1601, y1602, y1603, y1604, y1605, rfl, hI, hJ, (by omega), (by omega), (by omega), zp1609, hp0, (Or.inl (by omega)), (frM_r)⟩
set_option maxRecDepth 4000 in
set_option maxHeartbeats 4000000 in
/-- M.readFits, exactly -/
theorem f_168 (H : mzH) (hI : gI SM H) (hJ : JN H) (x0 x1 x2 x3 x4 x5 x6 : Int32) (hx0 : 0 ≤ x0.toInt ∧ x0.toInt ≤ 900) (hx1 : 0 ≤ x1.toInt ∧ x1.toInt ≤ 900) (hx2 : 0 ≤ x2.toInt ∧ x2.toInt ≤ 4) {b : Nat → Int} {n : Nat} {T : pT} {g : pG} {c : pB} (hp0 : tkM H b n T) (hp1 : rdM b n T g x0 x1 x2 x3 x4 x5 x6) (hp2 : bkM H c) (hp3 : g.f = 0 ∧ T.K g.t = 2) : gCall 168 [.ref 0] (mS H x0 x1 x2 x3 x4 x5 x6) (gRv (fun H' => ∃ B : mzH, ∃ y0 y1 y2 y3 y4 y5 y6 : Int32, H' = mS B y0 y1 y2 y3 y4 y5 y6 ∧ gI SM B ∧ JN B ∧ (0 ≤ y0.toInt ∧ y0.toInt ≤ 900) ∧ (0 ≤ y1.toInt ∧ y1.toInt ≤ 900) ∧ (0 ≤ y2.toInt ∧ y2.toInt ≤ 4) ∧ rdM b n T (pRdF c T g) y0 y1 y2 y3 y4 y5 y6 ∧ tkM B b n T ∧ ((pRdF c T g).f ≠ 0 ∨ bkM B (bRdF c T g)) ∧ frM H B)) := by
  obtain ⟨-, r1, -, r3, -, -⟩ := id hp1
  have w0 := hp0.2.2
  have w3 := hp2.1
  have w4 := JN_n30 hJ (v := aZ H 3 0) rfl
  have w5 := hp2.2.2.2.2.2.1
  refine gG_call [(0, .ref 0)] ⟨rfl, trivial⟩ ?_
  show gG 3 zB_168 (mzBlk zB_168 0) [(0, .ref 0)] [] (mS H x0 x1 x2 x3 x4 x5 x6) 0 0 _
  refine g_aload_n rfl ?_
  refine g_gfi (mS_I hI (by omega) (by omega) (by omega)) sm_0 rfl (fun v441 ev441 lv441 uv441 => ?_)
  have iv441 : v441.toInt = (fZ H 0 17).toInt := by rw [ev441, ← mS_o (by decide)]
  refine g_if_eq (fun c442 => ?_) (fun c442 => ?_)
  · refine g_aload_n rfl ?_
    refine g_iconst (by decide) (fun v443 kv443 => ?_)
    refine g_pfz (mS_I hI (by omega) (by omega) (by omega)) sm_0 rfl (by omega) (fun H444 eH444 hIH444 => ?_)
    obtain ⟨B445, eB445⟩ : ∃ z, z = sF H 0 17 v443 := ⟨_, rfl⟩
    obtain rfl : H444 = (mS B445 x0 x1 x2 x3 x4 x5 x6) := by rw [eH444, eB445]; exact mS_cF (by decide)
    have hIB445 : gI SM B445 := by rw [eB445]; exact gI_sF hI sm_0 rfl (by omega)
    have hJB445 : JN B445 := JN_sF eB445 hJ
    have frB445 : frM H B445 := frM_F (frM_r) eB445 (by decide)
    have tkB445 : tkM B445 b n T := tkM_fr hp0 frB445
    refine g_aload_n rfl ?_
    refine g_invvv (mS_I hIB445 (by omega) (by omega) (by omega)) sm_0 rfl rfl rfl rfl (f_162 B445 hIB445 hJB445 x0 x1 x2 x3 x4 x5 x6 (by omega) (by omega) (by omega) tkB445 hp1) (fun H446 r447 => ?_)
    obtain ⟨y448, y449, y450, y451, y452, rfl, by448, by449, by450, zp453⟩ := r447
    obtain ⟨-, rbzp453, -, rdzp453, -, -⟩ := id zp453
    have nzp453 := gn_f (T := T) (g := g)
    have al454 : pRdF1 c T g = (pGn T g) := by unfold pRdF1; rw [if_neg (by omega), tk_y (by omega)]
    have zp455 := zp453
    rw [← al454] at zp455
    rw [← al454] at nzp453
    obtain ⟨-, rbzp455, -, rdzp455, -, -⟩ := id zp455
    refine g_aload_n rfl ?_
    refine g_iconst (by decide) (fun v456 kv456 => ?_)
    refine g_bipush (by decide) (fun v457 kv457 => ?_)
    refine g_invvi (mS_I hIB445 (by omega) (by omega) (by omega)) sm_0 rfl rfl rfl rfl (f_163 v456 (by omega) v457 (by omega) B445 hIB445 hJB445 y448 y449 y450 y451 y452 x5 x6 (by omega) (by omega) (by omega) tkB445 zp455) (fun v460 H458 r459 => ?_)
    obtain ⟨y461, y462, y463, y464, y465, y466, y467, rfl, by461, by462, by463, zp468, zp469⟩ := r459
    rw [kv456] at zp468
    rw [kv456] at zp469
    rw [kv457] at zp468
    rw [kv457] at zp469
    obtain ⟨-, rbzp468, -, rdzp468, -, -⟩ := id zp468
    have nzp468 := bx.mk (pN_ok (T := T) (lo := 1) (hi := 20) (g := (pRdF1 c T g)))
    have al470 : pRdF2 c T g = (pNumb T 1 20 (pRdF1 c T g)) := by rfl
    have zp471 := zp468
    rw [← al470] at zp471
    rw [← al470] at nzp468
    rw [← al470] at zp469
    obtain ⟨-, rbzp471, -, rdzp471, -, -⟩ := id zp471
    refine g_istore_n (l' := [(0, .ref 0), (1, .int v460)]) rfl rfl ?_
    refine g_aload_n rfl ?_
    refine g_iconst (by decide) (fun v472 kv472 => ?_)
    refine g_bipush (by decide) (fun v473 kv473 => ?_)
    refine g_invvi (mS_I hIB445 (by omega) (by omega) (by omega)) sm_0 rfl rfl rfl rfl (f_163 v472 (by omega) v473 (by omega) B445 hIB445 hJB445 y461 y462 y463 y464 y465 y466 y467 (by omega) (by omega) (by omega) tkB445 zp471) (fun v476 H474 r475 => ?_)
    obtain ⟨y477, y478, y479, y480, y481, y482, y483, rfl, by477, by478, by479, zp484, zp485⟩ := r475
    rw [kv472] at zp484
    rw [kv472] at zp485
    rw [kv473] at zp484
    rw [kv473] at zp485
    obtain ⟨-, rbzp484, -, rdzp484, -, -⟩ := id zp484
    have nzp484 := bx.mk (pN_ok (T := T) (lo := 1) (hi := 20) (g := (pRdF2 c T g)))
    have al486 : pRdF c T g = (pNumb T 1 20 (pRdF2 c T g)) := by rfl
    have zp487 := zp484
    rw [← al486] at zp487
    rw [← al486] at nzp484
    rw [← al486] at zp485
    obtain ⟨-, rbzp487, -, rdzp487, -, -⟩ := id zp487
    refine g_istore_n (l' := [(0, .ref 0), (1, .int v460), (2, .int v476)]) rfl rfl ?_
    refine g_aload_n rfl ?_
    refine g_gfr (mS_I hIB445 (by omega) (by omega) (by omega)) sm_0 rfl ?_
    refine g_iconst (by decide) (fun v488 kv488 => ?_)
    refine g_iload_n rfl ?_
    refine g_iastore (mS_I hIB445 (by omega) (by omega) (by omega)) sm_3 (by omega) (gz_any _) (fun H489 eH489 hIH489 => ?_)
    obtain ⟨B490, eB490⟩ : ∃ z, z = sA B445 3 v488.toInt.toNat v460 := ⟨_, rfl⟩
    obtain rfl : H489 = (mS B490 y477 y478 y479 y480 y481 y482 y483) := by rw [eH489, eB490]; exact mS_cA
    have hIB490 : gI SM B490 := by rw [eB490]; exact gI_sA hIB445 sm_3 (gz_any _)
    have hJB490 : JN B490 := JN_s3 hIB445 hJB445 (by omega) (fun _ => by omega) (fun _ => by omega) eB490
    have frB490 : frM H B490 := frM_A frB445 eB490 (by decide)
    have tkB490 : tkM B490 b n T := tkM_fr hp0 frB490
    refine g_aload_n rfl ?_
    refine g_gfr (mS_I hIB490 (by omega) (by omega) (by omega)) sm_0 rfl ?_
    refine g_iconst (by decide) (fun v491 kv491 => ?_)
    refine g_iload_n rfl ?_
    refine g_iastore (mS_I hIB490 (by omega) (by omega) (by omega)) sm_3 (by omega) (gz_any _) (fun H492 eH492 hIH492 => ?_)
    obtain ⟨B493, eB493⟩ : ∃ z, z = sA B490 3 v491.toInt.toNat v476 := ⟨_, rfl⟩
    obtain rfl : H492 = (mS B493 y477 y478 y479 y480 y481 y482 y483) := by rw [eH492, eB493]; exact mS_cA
    have hIB493 : gI SM B493 := by rw [eB493]; exact gI_sA hIB490 sm_3 (gz_any _)
    have hJB493 : JN B493 := JN_s3 hIB490 hJB490 (by omega) (fun _ => by omega) (fun _ => by omega) eB493
    have frB493 : frM H B493 := frM_A frB490 eB493 (by decide)
    have tkB493 : tkM B493 b n T := tkM_fr hp0 frB493
    exact g_ret ⟨rfl, B493, y477, y478, y479, y480, y481, y482, y483, rfl, hIB493, hJB493, (by omega), (by omega), (by omega), zp487, tkB493, (by if q : (pRdF c T g).f = 0 then exact Or.inr (by have onzp484 := (bx.op nzp484).resolve_left (by omega); have onzp468 := (bx.op nzp468).resolve_left (by omega); unfold bRdF; rw [if_pos q]; exact nft_mk hI hIB445 hIB490 hp2 eB445 eB490 eB493 (by omega) (by omega) (by omega) (by omega) (by omega)) else exact Or.inl q), frB493⟩
  · refine g_aload_n rfl ?_
    refine g_iconst (by decide) (fun v494 kv494 => ?_)
    refine g_invvv (mS_I hI (by omega) (by omega) (by omega)) sm_0 rfl rfl rfl rfl (f_161 v494 (by omega) H hI hJ x0 x1 x2 x3 x4 x5 x6 (by omega) (by omega) (by omega) hp0 hp1) (fun H495 r496 => ?_)
    obtain ⟨y497, y498, rfl, zp499⟩ := r496
    rw [kv494] at zp499
    obtain ⟨-, rbzp499, -, rdzp499, -, -⟩ := id zp499
    have nzp499 := pF_ne (T := T) (g := g) (n := 3) (by omega)
    refine g_nop ?_
    refine g_aload_n rfl ?_
    refine g_iconst (by decide) (fun v500 kv500 => ?_)
    refine g_pfz (mS_I hI (by omega) (by omega) (by omega)) sm_0 rfl (by omega) (fun H501 eH501 hIH501 => ?_)
    obtain ⟨B502, eB502⟩ : ∃ z, z = sF H 0 17 v500 := ⟨_, rfl⟩
    obtain rfl : H501 = (mS B502 x0 x1 x2 x3 x4 y497 y498) := by rw [eH501, eB502]; exact mS_cF (by decide)
    have hIB502 : gI SM B502 := by rw [eB502]; exact gI_sF hI sm_0 rfl (by omega)
    have hJB502 : JN B502 := JN_sF eB502 hJ
    have frB502 : frM H B502 := frM_F (frM_r) eB502 (by decide)
    have tkB502 : tkM B502 b n T := tkM_fr hp0 frB502
    refine g_aload_n rfl ?_
    refine g_invvv (mS_I hIB502 (by omega) (by omega) (by omega)) sm_0 rfl rfl rfl rfl (f_162 B502 hIB502 hJB502 x0 x1 x2 x3 x4 y497 y498 (by omega) (by omega) (by omega) tkB502 zp499) (fun H503 r504 => ?_)
    obtain ⟨y505, y506, y507, y508, y509, rfl, by505, by506, by507, zp510⟩ := r504
    obtain ⟨-, rbzp510, -, rdzp510, -, -⟩ := id zp510
    have nzp510 := gn_f (T := T) (g := (pFail T 3 g))
    have al511 : pRdF1 c T g = (pGn T (pFail T 3 g)) := by unfold pRdF1; rw [if_pos (by omega), tk_y (by rw [(pF_ne (by decide)).2]; omega)]
    have zp512 := zp510
    rw [← al511] at zp512
    rw [← al511] at nzp510
    obtain ⟨-, rbzp512, -, rdzp512, -, -⟩ := id zp512
    refine g_aload_n rfl ?_
    refine g_iconst (by decide) (fun v513 kv513 => ?_)
    refine g_bipush (by decide) (fun v514 kv514 => ?_)
    refine g_invvi (mS_I hIB502 (by omega) (by omega) (by omega)) sm_0 rfl rfl rfl rfl (f_163 v513 (by omega) v514 (by omega) B502 hIB502 hJB502 y505 y506 y507 y508 y509 y497 y498 (by omega) (by omega) (by omega) tkB502 zp512) (fun v517 H515 r516 => ?_)
    obtain ⟨y518, y519, y520, y521, y522, y523, y524, rfl, by518, by519, by520, zp525, zp526⟩ := r516
    rw [kv513] at zp525
    rw [kv513] at zp526
    rw [kv514] at zp525
    rw [kv514] at zp526
    obtain ⟨-, rbzp525, -, rdzp525, -, -⟩ := id zp525
    have nzp525 := bx.mk (pN_ok (T := T) (lo := 1) (hi := 20) (g := (pRdF1 c T g)))
    have al527 : pRdF2 c T g = (pNumb T 1 20 (pRdF1 c T g)) := by rfl
    have zp528 := zp525
    rw [← al527] at zp528
    rw [← al527] at nzp525
    rw [← al527] at zp526
    obtain ⟨-, rbzp528, -, rdzp528, -, -⟩ := id zp528
    refine g_istore_n (l' := [(0, .ref 0), (1, .int v517)]) rfl rfl ?_
    refine g_aload_n rfl ?_
    refine g_iconst (by decide) (fun v529 kv529 => ?_)
    refine g_bipush (by decide) (fun v530 kv530 => ?_)
    refine g_invvi (mS_I hIB502 (by omega) (by omega) (by omega)) sm_0 rfl rfl rfl rfl (f_163 v529 (by omega) v530 (by omega) B502 hIB502 hJB502 y518 y519 y520 y521 y522 y523 y524 (by omega) (by omega) (by omega) tkB502 zp528) (fun v533 H531 r532 => ?_)
    obtain ⟨y534, y535, y536, y537, y538, y539, y540, rfl, by534, by535, by536, zp541, zp542⟩ := r532
    rw [kv529] at zp541
    rw [kv529] at zp542
    rw [kv530] at zp541
    rw [kv530] at zp542
    obtain ⟨-, rbzp541, -, rdzp541, -, -⟩ := id zp541
    have nzp541 := bx.mk (pN_ok (T := T) (lo := 1) (hi := 20) (g := (pRdF2 c T g)))
    have al543 : pRdF c T g = (pNumb T 1 20 (pRdF2 c T g)) := by rfl
    have zp544 := zp541
    rw [← al543] at zp544
    rw [← al543] at nzp541
    rw [← al543] at zp542
    obtain ⟨-, rbzp544, -, rdzp544, -, -⟩ := id zp544
    refine g_istore_n (l' := [(0, .ref 0), (1, .int v517), (2, .int v533)]) rfl rfl ?_
    refine g_aload_n rfl ?_
    refine g_gfr (mS_I hIB502 (by omega) (by omega) (by omega)) sm_0 rfl ?_
    refine g_iconst (by decide) (fun v545 kv545 => ?_)
    refine g_iload_n rfl ?_
    refine g_iastore (mS_I hIB502 (by omega) (by omega) (by omega)) sm_3 (by omega) (gz_any _) (fun H546 eH546 hIH546 => ?_)
    obtain ⟨B547, eB547⟩ : ∃ z, z = sA B502 3 v545.toInt.toNat v517 := ⟨_, rfl⟩
    obtain rfl : H546 = (mS B547 y534 y535 y536 y537 y538 y539 y540) := by rw [eH546, eB547]; exact mS_cA
    have hIB547 : gI SM B547 := by rw [eB547]; exact gI_sA hIB502 sm_3 (gz_any _)
    have hJB547 : JN B547 := JN_s3 hIB502 hJB502 (by omega) (fun _ => by omega) (fun _ => by omega) eB547
    have frB547 : frM H B547 := frM_A frB502 eB547 (by decide)
    have tkB547 : tkM B547 b n T := tkM_fr hp0 frB547
    refine g_aload_n rfl ?_
    refine g_gfr (mS_I hIB547 (by omega) (by omega) (by omega)) sm_0 rfl ?_
    refine g_iconst (by decide) (fun v548 kv548 => ?_)
    refine g_iload_n rfl ?_
    refine g_iastore (mS_I hIB547 (by omega) (by omega) (by omega)) sm_3 (by omega) (gz_any _) (fun H549 eH549 hIH549 => ?_)
    obtain ⟨B550, eB550⟩ : ∃ z, z = sA B547 3 v548.toInt.toNat v533 := ⟨_, rfl⟩
    obtain rfl : H549 = (mS B550 y534 y535 y536 y537 y538 y539 y540) := by rw [eH549, eB550]; exact mS_cA
    have hIB550 : gI SM B550 := by rw [eB550]; exact gI_sA hIB547 sm_3 (gz_any _)
    have hJB550 : JN B550 := JN_s3 hIB547 hJB547 (by omega) (fun _ => by omega) (fun _ => by omega) eB550
    have frB550 : frM H B550 := frM_A frB547 eB550 (by decide)
    have tkB550 : tkM B550 b n T := tkM_fr hp0 frB550
    exact g_ret ⟨rfl, B550, y534, y535, y536, y537, y538, y539, y540, rfl, hIB550, hJB550, (by omega), (by omega), (by omega), zp544, tkB550, (by if q : (pRdF c T g).f = 0 then exact Or.inr (by have onzp541 := (bx.op nzp541).resolve_left (by omega); have onzp525 := (bx.op nzp525).resolve_left (by omega); unfold bRdF; rw [if_pos q]; exact nft_mk hI hIB502 hIB547 hp2 eB502 eB547 eB550 (by omega) (by omega) (by omega) (by omega) (by omega)) else exact Or.inl q), frB550⟩
