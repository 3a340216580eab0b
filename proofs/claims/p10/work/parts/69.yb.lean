theorem kr_l {K V so va wo : Int} (h : kR K V so va wo) : (0 ≤ K ∧ K ≤ 3 ∧ so = 0 ∧ va = K + 11) ∨ (¬ (0 ≤ K ∧ K ≤ 3) ∧ ¬ (so = 0 ∧ 11 ≤ va ∧ va ≤ 14)) := by
  unfold kR kwR nmR at h
  omega
theorem kr_s {K V so va wo : Int} (h : kR K V so va wo) : (K = 20 ∧ so = 2) ∨ (¬ K = 20 ∧ ¬ so = 2) := by
  unfold kR kwR nmR at h
  omega
theorem tk_f {T : pT} {lo hi : Int} {g : pG} (h : g.f ≠ 0) : pTake T lo hi g = pGn T g := by rw [pT_no h, gn_no h]
/-- what reading may touch -/
def frL (H B : mzH) : Prop := (∀ c, c ≠ 0 → c ≠ 3 → c ≠ 4 → B[c]? = H[c]?) ∧ ∀ f, f ≠ 7 → f ≠ 17 → f ≠ 19 → fZ B 0 f = fZ H 0 f
theorem frL_t {H B B1 : mzH} (h : frL H B) (g : frL B B1) : frL H B1 := ⟨fun c a b d => (g.1 c a b d).trans (h.1 c a b d), fun f f1 f2 f3 => (g.2 f f1 f2 f3).trans (h.2 f f1 f2 f3)⟩
theorem frL_mk {H B B1 : mzH} {v : Int32} (m : frM H B) (e : B1 = sF B 0 19 v) : frL H B1 := ⟨fun c a b d => by rw [e, c_sF a]; exact m.1 c a b d, fun f f1 f2 f3 => by rw [e, fZ_sF_ne (by omega)]; exact m.2 f f2⟩
theorem tkM_19 {B B1 : mzH} {b : Nat → Int} {n : Nat} {T : pT} {v : Int32} (h : tkM B b n T) (e : B1 = sF B 0 19 v) : tkM B1 b n T := by
  refine ⟨fun q hq => ?_, h.2.1, ?_⟩
  · unfold bM
    rw [e, aZ_sF]
    exact h.1 q hq
  · rw [e, fZ_sF_ne (by decide)]
    exact h.2.2
theorem bkM_F {B B1 : mzH} {c : pB} {f : Nat} {v : Int32} (h : bkM B c) (e : B1 = sF B 0 f v) (hf : f ≠ 17) : bkM B1 c := by
  unfold bkM at h ⊢
  rw [e]
  simp only [aZ_sF, fZ_sF_ne hf]
  exact h
theorem sg_id {told : Int} {T : pT} {g : pG} (h : told = 0 ∨ T.K g.t = 3) : pSg told T g = g := by
  unfold pSg
  rw [if_neg (by omega)]
theorem l1_0 {c : pB} {T : pT} {g : pG} (h : T.K g.t = 0) : pLn1 c T g = pRdP c T g := by unfold pLn1; rw [if_pos h]
theorem l1_1 {c : pB} {T : pT} {g : pG} (h : T.K g.t = 1) : pLn1 c T g = pRdR c T g := by unfold pLn1; rw [if_neg (by omega), if_pos h]
theorem l1_2 {c : pB} {T : pT} {g : pG} (h : T.K g.t = 2) : pLn1 c T g = pRdF c T g := by unfold pLn1; rw [if_neg (by omega), if_neg (by omega), if_pos h]
theorem l1_3 {c : pB} {T : pT} {g : pG} (h : T.K g.t = 3) : pLn1 c T g = pM6 c T g := by unfold pLn1; rw [if_neg (by omega), if_neg (by omega), if_neg (by omega), if_pos h]
theorem b1_0 {c : pB} {T : pT} {g : pG} (h : T.K g.t = 0) : bLn c T g = bRdP c T g := by unfold bLn; rw [if_pos h]
theorem b1_1 {c : pB} {T : pT} {g : pG} (h : T.K g.t = 1) : bLn c T g = bRdR c T g := by unfold bLn; rw [if_neg (by omega), if_pos h]
theorem b1_2 {c : pB} {T : pT} {g : pG} (h : T.K g.t = 2) : bLn c T g = bRdF c T g := by unfold bLn; rw [if_neg (by omega), if_neg (by omega), if_pos h]
theorem b1_3 {c : pB} {T : pT} {g : pG} (h : T.K g.t = 3) : bLn c T g = bMg c T g := by unfold bLn; rw [if_neg (by omega), if_neg (by omega), if_neg (by omega), if_pos h]
theorem ln_no {c : pB} {T : pT} {g : pG} (h : g.f ≠ 0) : pLn1 c T g = g := by
  have e1 : pRdP1 c T g = g := by unfold pRdP1; rw [pF_neg h, pT_no h, ite_self]
  have a0 : pRdP c T g = g := by rw [nw_1 (by rw [e1]; exact h), e1, gn_no h]
  have e2 : pRdR1 c T g = g := by unfold pRdR1; rw [pF_neg h, pT_no h, ite_self]
  have a1 : pRdR c T g = g := by
    unfold pRdR pRdR3 pRdR2
    rw [e2, pPlc_no h, pPlc_no h, pN_0 h]
  have e3 : pRdF1 c T g = g := by unfold pRdF1; rw [pF_neg h, pT_no h, ite_self]
  have a2 : pRdF c T g = g := by
    unfold pRdF pRdF2
    rw [e3, pN_0 h, pN_0 h]
  have e4 : pM1 c T g = g := by unfold pM1; rw [pF_neg h, pT_no h, ite_self]
  have e5 : pM2 c T g = g := by unfold pM2; rw [e4, pN_0 h]
  have e6 : pM3 c T g = g := by
    unfold pM3
    rw [e5, ac_eq]
    unfold pActW
    rw [pF_neg h, ite_self, gn_no h]
  have e7 : pM4 c T g = g := by unfold pM4; rw [e6, pN_0 h]
  have e8 : pM5 c T g = g := by rw [m5_f (by rw [e7]; exact h), e7]
  have a3 : pM6 c T g = g := by rw [m6_f (by rw [e8]; exact h), e8]
  unfold pLn1
  rw [a0, a1, a2, a3, pF_neg h, ite_self, ite_self, ite_self, ite_self]
theorem l1_w {c : pB} {T : pT} {g : pG} {told : Int} (hf : g.f = 0) (h : ¬ T.K g.t = 3 ∧ (told ≠ 0 ∨ ¬ (0 ≤ T.K g.t ∧ T.K g.t ≤ 2))) : pLn1 c T (pSg told T g) = pFail T 1 g := by
  if q : told = 0 then
    rw [sg_id (Or.inl q)]
    unfold pLn1
    rw [if_neg (by omega), if_neg (by omega), if_neg (by omega), if_neg (by omega)]
  else
    have e : pSg told T g = pFail T 1 g := by
      unfold pSg
      rw [if_pos ⟨q, h.1⟩]
    rw [e, ln_no (pF_ne (by decide)).1]
theorem bkl {B B1 : mzH} {c X : pB} {T : pT} {G g : pG} {v : Int32} (h : G.f ≠ 0 ∨ bkM B X) (e : B1 = sF B 0 19 v) (h1 : pLn1 c T g = G) (h2 : bLn c T g = X) : (pLn c T g).f ≠ 0 ∨ bkM B1 (bLn c T g) := by
  rcases h with h | h
  · left
    unfold pLn
    rw [h1, pT_no h]
    exact h
  · right
    rw [h2]
    exact bkM_F h e (by decide)
set_option maxRecDepth 4000 in
set_option maxHeartbeats 4000000 in
/-- M.readLine, exactly -/
theorem f_171 (a1 : Int32) (ha1 : 0 ≤ a1.toInt ∧ a1.toInt ≤ 1) (H : mzH) (hI : gI SM H) (hJ : JN H) (x0 x1 x2 x3 x4 x5 x6 : Int32) (hx0 : 0 ≤ x0.toInt ∧ x0.toInt ≤ 900) (hx1 : 0 ≤ x1.toInt ∧ x1.toInt ≤ 900) (hx2 : 0 ≤ x2.toInt ∧ x2.toInt ≤ 4) {b : Nat → Int} {n : Nat} {T : pT} {g : pG} {c : pB} (hp0 : tkM H b n T) (hp1 : rdM b n T g x0 x1 x2 x3 x4 x5 x6) (hp2 : bkM H c) (hp3 : g.f = 0) (hp4 : (0 ≤ (fZ H 0 19).toInt ∧ (fZ H 0 19).toInt ≤ 900)) : gCall 171 [.ref 0, .int a1] (mS H x0 x1 x2 x3 x4 x5 x6) (gRv (fun H' => ∃ B : mzH, ∃ y0 y1 y2 y3 y4 y5 y6 : Int32, H' = mS B y0 y1 y2 y3 y4 y5 y6 ∧ gI SM B ∧ JN B ∧ (0 ≤ y0.toInt ∧ y0.toInt ≤ 900) ∧ (0 ≤ y1.toInt ∧ y1.toInt ≤ 900) ∧ (0 ≤ y2.toInt ∧ y2.toInt ≤ 4) ∧ rdM b n T (pLn c T (pSg a1.toInt T g)) y0 y1 y2 y3 y4 y5 y6 ∧ tkM B b n T ∧ ((pLn c T (pSg a1.toInt T g)).f ≠ 0 ∨ bkM B (bLn c T (pSg a1.toInt T g))) ∧ frL H B ∧ (fZ B 0 19).toInt = (fZ H 0 19).toInt + 1)) := by
  obtain ⟨-, r1, -, r3, -, -⟩ := id hp1
  have w0 := hp0.2.2
  have w3 := kr_l r1
  refine gG_call [(0, .ref 0), (1, .int a1)] ⟨rfl, rfl, trivial⟩ ?_
  show gG 3 zB_171 (mzBlk zB_171 0) [(0, .ref 0), (1, .int a1)] [] (mS H x0 x1 x2 x3 x4 x5 x6) 0 0 _
  refine g_aload_n rfl ?_
  refine g_gfk (mS_I hI (by omega) (by omega) (by omega)) sm_0 rfl (mS_g13 hI) ?_
  refine g_if_ne (fun c2233 => ?_) (fun c2233 => ?_)
  · exfalso; omega
  · refine g_aload_n rfl ?_
    refine g_gfk (mS_I hI (by omega) (by omega) (by omega)) sm_0 rfl (mS_g10 hI) ?_
    refine g_if_ne (fun c2234 => ?_) (fun c2234 => ?_)
    · refine g_iconst (by decide) (fun v2235 kv2235 => ?_)
      refine g_nop ?_
      refine g_istore_n (l' := [(0, .ref 0), (1, .int a1), (2, .int v2235)]) rfl rfl ?_
      refine g_iload_n rfl ?_
      refine g_bipush (by decide) (fun v2236 kv2236 => ?_)
      refine g_if2_ne (fun c2237 => ?_) (fun c2237 => ?_)
      · refine g_iload_n rfl ?_
        refine g_bipush (by decide) (fun v2238 kv2238 => ?_)
        refine g_if2_ne (fun c2239 => ?_) (fun c2239 => ?_)
        · refine g_iload_n rfl ?_
          refine g_bipush (by decide) (fun v2240 kv2240 => ?_)
          refine g_if2_ne (fun c2241 => ?_) (fun c2241 => ?_)
          · refine g_iload_n rfl ?_
            refine g_bipush (by decide) (fun v2242 kv2242 => ?_)
            refine g_if2_ne (fun c2243 => ?_) (fun c2243 => ?_)
            · refine g_aload_n rfl ?_
              refine g_iconst (by decide) (fun v2244 kv2244 => ?_)
              refine g_invvv (mS_I hI (by omega) (by omega) (by omega)) sm_0 rfl rfl rfl rfl (f_161 v2244 (by omega) H hI hJ x0 x1 x2 x3 x4 x5 x6 (by omega) (by omega) (by omega) hp0 hp1) (fun H2245 r2246 => ?_)
              obtain ⟨y2247, y2248, rfl, zp2249⟩ := r2246
              rw [kv2244] at zp2249
              obtain ⟨-, rbzp2249, -, rdzp2249, -, -⟩ := id zp2249
              have nzp2249 := pF_ne (T := T) (g := g) (n := 1) (by omega)
              have al2250 : pLn1 c T (pSg a1.toInt T g) = (pFail T 1 g) := by exact l1_w hp3 (by omega)
              have zp2251 := zp2249
              rw [← al2250] at zp2251
              rw [← al2250] at nzp2249
              obtain ⟨-, rbzp2251, -, rdzp2251, -, -⟩ := id zp2251
              have kszp2251 := kr_s rbzp2251
              refine g_nop ?_
              refine g_aload_n rfl ?_
              refine g_gfk (mS_I hI (by omega) (by omega) (by omega)) sm_0 rfl (mS_g13 hI) ?_
              refine g_if_ne (fun c2252 => ?_) (fun c2252 => ?_)
              · refine g_aload_n rfl ?_
                refine g_invvv (mS_I hI (by omega) (by omega) (by omega)) sm_0 rfl rfl rfl rfl (f_162 H hI hJ x0 x1 x2 x3 x4 y2247 y2248 (by omega) (by omega) (by omega) hp0 zp2251) (fun H2253 r2254 => ?_)
                obtain ⟨y2255, y2256, y2257, y2258, y2259, rfl, by2255, by2256, by2257, zp2260⟩ := r2254
                obtain ⟨-, rbzp2260, -, rdzp2260, -, -⟩ := id zp2260
                have nzp2260 := gn_f (T := T) (g := (pLn1 c T (pSg a1.toInt T g)))
                have al2261 : pLn c T (pSg a1.toInt T g) = (pGn T (pLn1 c T (pSg a1.toInt T g))) := by unfold pLn; exact tk_f (by omega)
                have zp2262 := zp2260
                rw [← al2261] at zp2262
                rw [← al2261] at nzp2260
                obtain ⟨-, rbzp2262, -, rdzp2262, -, -⟩ := id zp2262
                refine g_aload_n rfl ?_
                refine g_dup rfl ?_
                refine g_gfi (mS_I hI (by omega) (by omega) (by omega)) sm_0 rfl (fun v2263 ev2263 lv2263 uv2263 => ?_)
                have iv2263 : v2263.toInt = (fZ H 0 19).toInt := by rw [ev2263, ← mS_o (by decide)]
                have l19v2263 : (fZ H 0 19).toInt = (fZ H 0 19).toInt := rfl
                refine g_iconst (by decide) (fun v2264 kv2264 => ?_)
                refine g_iadd (by omega) (fun v2265 ev2265 => ?_)
                refine g_pfi (mS_I hI (by omega) (by omega) (by omega)) sm_0 rfl (gz_any _) (fun H2266 eH2266 hIH2266 => ?_)
                obtain ⟨B2267, eB2267⟩ : ∃ z, z = sF H 0 19 v2265 := ⟨_, rfl⟩
                obtain rfl : H2266 = (mS B2267 y2255 y2256 y2257 y2258 y2259 y2247 y2248) := by rw [eH2266, eB2267]; exact mS_cF (by decide)
                have hIB2267 : gI SM B2267 := by rw [eB2267]; exact gI_sF hI sm_0 rfl (gz_any _)
                have hJB2267 : JN B2267 := JN_sF eB2267 hJ
                have frB2267 : frL H B2267 := frL_mk (frM_r) eB2267
                have tkB2267 : tkM B2267 b n T := tkM_19 hp0 eB2267
                exact g_ret ⟨rfl, B2267, y2255, y2256, y2257, y2258, y2259, y2247, y2248, rfl, hIB2267, hJB2267, (by omega), (by omega), (by omega), zp2262, tkB2267, (Or.inl (by have o := pT_ok (T := T) (lo := 20) (hi := 20) (g := pLn1 c T (pSg a1.toInt T g)); unfold pLn; omega)), frB2267, (by rw [eB2267, fZ_sF_eq hI sm_0 rfl]; omega)⟩
              · refine g_aload_n rfl ?_
                refine g_gfk (mS_I hI (by omega) (by omega) (by omega)) sm_0 rfl (mS_g10 hI) ?_
                refine g_iconst (by decide) (fun v2268 kv2268 => ?_)
                refine g_if2_eq (fun c2269 => ?_) (fun c2269 => ?_)
                · refine g_aload_n rfl ?_
                  refine g_invvv (mS_I hI (by omega) (by omega) (by omega)) sm_0 rfl rfl rfl rfl (f_162 H hI hJ x0 x1 x2 x3 x4 y2247 y2248 (by omega) (by omega) (by omega) hp0 zp2251) (fun H2270 r2271 => ?_)
                  obtain ⟨y2272, y2273, y2274, y2275, y2276, rfl, by2272, by2273, by2274, zp2277⟩ := r2271
                  obtain ⟨-, rbzp2277, -, rdzp2277, -, -⟩ := id zp2277
                  have nzp2277 := gn_f (T := T) (g := (pLn1 c T (pSg a1.toInt T g)))
                  have al2278 : pLn c T (pSg a1.toInt T g) = (pGn T (pLn1 c T (pSg a1.toInt T g))) := by unfold pLn; exact tk_y (by omega)
                  have zp2279 := zp2277
                  rw [← al2278] at zp2279
                  rw [← al2278] at nzp2277
                  obtain ⟨-, rbzp2279, -, rdzp2279, -, -⟩ := id zp2279
                  refine g_aload_n rfl ?_
                  refine g_dup rfl ?_
                  refine g_gfi (mS_I hI (by omega) (by omega) (by omega)) sm_0 rfl (fun v2280 ev2280 lv2280 uv2280 => ?_)
                  have iv2280 : v2280.toInt = (fZ H 0 19).toInt := by rw [ev2280, ← mS_o (by decide)]
                  have l19v2280 : (fZ H 0 19).toInt = (fZ H 0 19).toInt := rfl
                  refine g_iconst (by decide) (fun v2281 kv2281 => ?_)
                  refine g_iadd (by omega) (fun v2282 ev2282 => ?_)
                  refine g_pfi (mS_I hI (by omega) (by omega) (by omega)) sm_0 rfl (gz_any _) (fun H2283 eH2283 hIH2283 => ?_)
                  obtain ⟨B2284, eB2284⟩ : ∃ z, z = sF H 0 19 v2282 := ⟨_, rfl⟩
                  obtain rfl : H2283 = (mS B2284 y2272 y2273 y2274 y2275 y2276 y2247 y2248) := by rw [eH2283, eB2284]; exact mS_cF (by decide)
                  have hIB2284 : gI SM B2284 := by rw [eB2284]; exact gI_sF hI sm_0 rfl (gz_any _)
                  have hJB2284 : JN B2284 := JN_sF eB2284 hJ
                  have frB2284 : frL H B2284 := frL_mk (frM_r) eB2284
                  have tkB2284 : tkM B2284 b n T := tkM_19 hp0 eB2284
                  exact g_ret ⟨rfl, B2284, y2272, y2273, y2274, y2275, y2276, y2247, y2248, rfl, hIB2284, hJB2284, (by omega), (by omega), (by omega), zp2279, tkB2284, (Or.inl (by have o := pT_ok (T := T) (lo := 20) (hi := 20) (g := pLn1 c T (pSg a1.toInt T g)); unfold pLn; omega)), frB2284, (by rw [eB2284, fZ_sF_eq hI sm_0 rfl]; omega)⟩
                · refine g_aload_n rfl ?_
                  refine g_iconst (by decide) (fun v2285 kv2285 => ?_)
                  refine g_invvv (mS_I hI (by omega) (by omega) (by omega)) sm_0 rfl rfl rfl rfl (f_161 v2285 (by omega) H hI hJ x0 x1 x2 x3 x4 y2247 y2248 (by omega) (by omega) (by omega) hp0 zp2251) (fun H2286 r2287 => ?_)
                  obtain ⟨y2288, y2289, rfl, zp2290⟩ := r2287
                  rw [kv2285] at zp2290
                  obtain ⟨-, rbzp2290, -, rdzp2290, -, -⟩ := id zp2290
                  have nzp2290 := pF_ne (T := T) (g := (pLn1 c T (pSg a1.toInt T g))) (n := 1) (by omega)
                  refine g_nop ?_
                  refine g_aload_n rfl ?_
                  refine g_invvv (mS_I hI (by omega) (by omega) (by omega)) sm_0 rfl rfl rfl rfl (f_162 H hI hJ x0 x1 x2 x3 x4 y2288 y2289 (by omega) (by omega) (by omega) hp0 zp2290) (fun H2291 r2292 => ?_)
                  obtain ⟨y2293, y2294, y2295, y2296, y2297, rfl, by2293, by2294, by2295, zp2298⟩ := r2292
                  obtain ⟨-, rbzp2298, -, rdzp2298, -, -⟩ := id zp2298
                  have nzp2298 := gn_f (T := T) (g := (pFail T 1 (pLn1 c T (pSg a1.toInt T g))))
                  have al2299 : pLn c T (pSg a1.toInt T g) = (pGn T (pFail T 1 (pLn1 c T (pSg a1.toInt T g)))) := by unfold pLn; exact tk_n (by omega)
                  have zp2300 := zp2298
                  rw [← al2299] at zp2300
                  rw [← al2299] at nzp2298
                  obtain ⟨-, rbzp2300, -, rdzp2300, -, -⟩ := id zp2300
                  refine g_aload_n rfl ?_
                  refine g_dup rfl ?_
                  refine g_gfi (mS_I hI (by omega) (by omega) (by omega)) sm_0 rfl (fun v2301 ev2301 lv2301 uv2301 => ?_)
                  have iv2301 : v2301.toInt = (fZ H 0 19).toInt := by rw [ev2301, ← mS_o (by decide)]
                  have l19v2301 : (fZ H 0 19).toInt = (fZ H 0 19).toInt := rfl
                  refine g_iconst (by decide) (fun v2302 kv2302 => ?_)
                  refine g_iadd (by omega) (fun v2303 ev2303 => ?_)
                  refine g_pfi (mS_I hI (by omega) (by omega) (by omega)) sm_0 rfl (gz_any _) (fun H2304 eH2304 hIH2304 => ?_)
                  obtain ⟨B2305, eB2305⟩ : ∃ z, z = sF H 0 19 v2303 := ⟨_, rfl⟩
                  obtain rfl : H2304 = (mS B2305 y2293 y2294 y2295 y2296 y2297 y2288 y2289) := by rw [eH2304, eB2305]; exact mS_cF (by decide)
                  have hIB2305 : gI SM B2305 := by rw [eB2305]; exact gI_sF hI sm_0 rfl (gz_any _)
                  have hJB2305 : JN B2305 := JN_sF eB2305 hJ
                  have frB2305 : frL H B2305 := frL_mk (frM_r) eB2305
                  have tkB2305 : tkM B2305 b n T := tkM_19 hp0 eB2305
                  exact g_ret ⟨rfl, B2305, y2293, y2294, y2295, y2296, y2297, y2288, y2289, rfl, hIB2305, hJB2305, (by omega), (by omega), (by omega), zp2300, tkB2305, (Or.inl (by have o := pT_ok (T := T) (lo := 20) (hi := 20) (g := pLn1 c T (pSg a1.toInt T g)); unfold pLn; omega)), frB2305, (by rw [eB2305, fZ_sF_eq hI sm_0 rfl]; omega)⟩
            · exfalso; omega
          · exfalso; omega
        · exfalso; omega
      · exfalso; omega
    · refine g_aload_n rfl ?_
      refine g_gfk (mS_I hI (by omega) (by omega) (by omega)) sm_0 rfl (mS_g11 hI) ?_
      refine g_goto ?_
      refine g_istore_n (l' := [(0, .ref 0), (1, .int a1), (2, .int x3)]) rfl rfl ?_
      refine g_iload_n rfl ?_
      refine g_bipush (by decide) (fun v2306 kv2306 => ?_)
      refine g_if2_ne (fun c2307 => ?_) (fun c2307 => ?_)
      · refine g_iload_n rfl ?_
        refine g_bipush (by decide) (fun v2308 kv2308 => ?_)
        refine g_if2_ne (fun c2309 => ?_) (fun c2309 => ?_)
        · refine g_iload_n rfl ?_
          refine g_bipush (by decide) (fun v2310 kv2310 => ?_)
          refine g_if2_ne (fun c2311 => ?_) (fun c2311 => ?_)
          · refine g_iload_n rfl ?_
            refine g_bipush (by decide) (fun v2312 kv2312 => ?_)
            refine g_if2_ne (fun c2313 => ?_) (fun c2313 => ?_)
            · refine g_aload_n rfl ?_
              refine g_iconst (by decide) (fun v2314 kv2314 => ?_)
              refine g_invvv (mS_I hI (by omega) (by omega) (by omega)) sm_0 rfl rfl rfl rfl (f_161 v2314 (by omega) H hI hJ x0 x1 x2 x3 x4 x5 x6 (by omega) (by omega) (by omega) hp0 hp1) (fun H2315 r2316 => ?_)
              obtain ⟨y2317, y2318, rfl, zp2319⟩ := r2316
              rw [kv2314] at zp2319
              obtain ⟨-, rbzp2319, -, rdzp2319, -, -⟩ := id zp2319
              have nzp2319 := pF_ne (T := T) (g := g) (n := 1) (by omega)
              have al2320 : pLn1 c T (pSg a1.toInt T g) = (pFail T 1 g) := by exact l1_w hp3 (by omega)
              have zp2321 := zp2319
              rw [← al2320] at zp2321
              rw [← al2320] at nzp2319
              obtain ⟨-, rbzp2321, -, rdzp2321, -, -⟩ := id zp2321
              have kszp2321 := kr_s rbzp2321
              refine g_nop ?_
              refine g_aload_n rfl ?_
              refine g_gfk (mS_I hI (by omega) (by omega) (by omega)) sm_0 rfl (mS_g13 hI) ?_
              refine g_if_ne (fun c2322 => ?_) (fun c2322 => ?_)
              · refine g_aload_n rfl ?_
                refine g_invvv (mS_I hI (by omega) (by omega) (by omega)) sm_0 rfl rfl rfl rfl (f_162 H hI hJ x0 x1 x2 x3 x4 y2317 y2318 (by omega) (by omega) (by omega) hp0 zp2321) (fun H2323 r2324 => ?_)
                obtain ⟨y2325, y2326, y2327, y2328, y2329, rfl, by2325, by2326, by2327, zp2330⟩ := r2324
                obtain ⟨-, rbzp2330, -, rdzp2330, -, -⟩ := id zp2330
                have nzp2330 := gn_f (T := T) (g := (pLn1 c T (pSg a1.toInt T g)))
                have al2331 : pLn c T (pSg a1.toInt T g) = (pGn T (pLn1 c T (pSg a1.toInt T g))) := by unfold pLn; exact tk_f (by omega)
                have zp2332 := zp2330
                rw [← al2331] at zp2332
                rw [← al2331] at nzp2330
                obtain ⟨-, rbzp2332, -, rdzp2332, -, -⟩ := id zp2332
                refine g_aload_n rfl ?_
                refine g_dup rfl ?_
                refine g_gfi (mS_I hI (by omega) (by omega) (by omega)) sm_0 rfl (fun v2333 ev2333 lv2333 uv2333 => ?_)
                have iv2333 : v2333.toInt = (fZ H 0 19).toInt := by rw [ev2333, ← mS_o (by decide)]
                have l19v2333 : (fZ H 0 19).toInt = (fZ H 0 19).toInt := rfl
                refine g_iconst (by decide) (fun v2334 kv2334 => ?_)
                refine g_iadd (by omega) (fun v2335 ev2335 => ?_)
                refine g_pfi (mS_I hI (by omega) (by omega) (by omega)) sm_0 rfl (gz_any _) (fun H2336 eH2336 hIH2336 => ?_)
                obtain ⟨B2337, eB2337⟩ : ∃ z, z = sF H 0 19 v2335 := ⟨_, rfl⟩
                obtain rfl : H2336 = (mS B2337 y2325 y2326 y2327 y2328 y2329 y2317 y2318) := by rw [eH2336, eB2337]; exact mS_cF (by decide)
                have hIB2337 : gI SM B2337 := by rw [eB2337]; exact gI_sF hI sm_0 rfl (gz_any _)
                have hJB2337 : JN B2337 := JN_sF eB2337 hJ
                have frB2337 : frL H B2337 := frL_mk (frM_r) eB2337
                have tkB2337 : tkM B2337 b n T := tkM_19 hp0 eB2337
                exact g_ret ⟨rfl, B2337, y2325, y2326, y2327, y2328, y2329, y2317, y2318, rfl, hIB2337, hJB2337, (by omega), (by omega), (by omega), zp2332, tkB2337, (Or.inl (by have o := pT_ok (T := T) (lo := 20) (hi := 20) (g := pLn1 c T (pSg a1.toInt T g)); unfold pLn; omega)), frB2337, (by rw [eB2337, fZ_sF_eq hI sm_0 rfl]; omega)⟩
              · refine g_aload_n rfl ?_
                refine g_gfk (mS_I hI (by omega) (by omega) (by omega)) sm_0 rfl (mS_g10 hI) ?_
                refine g_iconst (by decide) (fun v2338 kv2338 => ?_)
                refine g_if2_eq (fun c2339 => ?_) (fun c2339 => ?_)
                · exfalso; omega
                · refine g_aload_n rfl ?_
                  refine g_iconst (by decide) (fun v2340 kv2340 => ?_)
                  refine g_invvv (mS_I hI (by omega) (by omega) (by omega)) sm_0 rfl rfl rfl rfl (f_161 v2340 (by omega) H hI hJ x0 x1 x2 x3 x4 y2317 y2318 (by omega) (by omega) (by omega) hp0 zp2321) (fun H2341 r2342 => ?_)
                  obtain ⟨y2343, y2344, rfl, zp2345⟩ := r2342
                  rw [kv2340] at zp2345
                  obtain ⟨-, rbzp2345, -, rdzp2345, -, -⟩ := id zp2345
                  have nzp2345 := pF_ne (T := T) (g := (pLn1 c T (pSg a1.toInt T g))) (n := 1) (by omega)
                  refine g_nop ?_
                  refine g_aload_n rfl ?_
                  refine g_invvv (mS_I hI (by omega) (by omega) (by omega)) sm_0 rfl rfl rfl rfl (f_162 H hI hJ x0 x1 x2 x3 x4 y2343 y2344 (by omega) (by omega) (by omega) hp0 zp2345) (fun H2346 r2347 => ?_)
                  obtain ⟨y2348, y2349, y2350, y2351, y2352, rfl, by2348, by2349, by2350, zp2353⟩ := r2347
                  obtain ⟨-, rbzp2353, -, rdzp2353, -, -⟩ := id zp2353
                  have nzp2353 := gn_f (T := T) (g := (pFail T 1 (pLn1 c T (pSg a1.toInt T g))))
                  have al2354 : pLn c T (pSg a1.toInt T g) = (pGn T (pFail T 1 (pLn1 c T (pSg a1.toInt T g)))) := by unfold pLn; exact tk_n (by omega)
                  have zp2355 := zp2353
                  rw [← al2354] at zp2355
                  rw [← al2354] at nzp2353
                  obtain ⟨-, rbzp2355, -, rdzp2355, -, -⟩ := id zp2355
                  refine g_aload_n rfl ?_
                  refine g_dup rfl ?_
                  refine g_gfi (mS_I hI (by omega) (by omega) (by omega)) sm_0 rfl (fun v2356 ev2356 lv2356 uv2356 => ?_)
                  have iv2356 : v2356.toInt = (fZ H 0 19).toInt := by rw [ev2356, ← mS_o (by decide)]
                  have l19v2356 : (fZ H 0 19).toInt = (fZ H 0 19).toInt := rfl
                  refine g_iconst (by decide) (fun v2357 kv2357 => ?_)
                  refine g_iadd (by omega) (fun v2358 ev2358 => ?_)
                  refine g_pfi (mS_I hI (by omega) (by omega) (by omega)) sm_0 rfl (gz_any _) (fun H2359 eH2359 hIH2359 => ?_)
                  obtain ⟨B2360, eB2360⟩ : ∃ z, z = sF H 0 19 v2358 := ⟨_, rfl⟩
                  obtain rfl : H2359 = (mS B2360 y2348 y2349 y2350 y2351 y2352 y2343 y2344) := by rw [eH2359, eB2360]; exact mS_cF (by decide)
                  have hIB2360 : gI SM B2360 := by rw [eB2360]; exact gI_sF hI sm_0 rfl (gz_any _)
                  have hJB2360 : JN B2360 := JN_sF eB2360 hJ
                  have frB2360 : frL H B2360 := frL_mk (frM_r) eB2360
                  have tkB2360 : tkM B2360 b n T := tkM_19 hp0 eB2360
                  exact g_ret ⟨rfl, B2360, y2348, y2349, y2350, y2351, y2352, y2343, y2344, rfl, hIB2360, hJB2360, (by omega), (by omega), (by omega), zp2355, tkB2360, (Or.inl (by have o := pT_ok (T := T) (lo := 20) (hi := 20) (g := pLn1 c T (pSg a1.toInt T g)); unfold pLn; omega)), frB2360, (by rw [eB2360, fZ_sF_eq hI sm_0 rfl]; omega)⟩
            · refine g_iload_n rfl ?_
              refine g_if_ne (fun c2361 => ?_) (fun c2361 => ?_)
              · refine g_aload_n rfl ?_
                refine g_iconst (by decide) (fun v2362 kv2362 => ?_)
                refine g_invvv (mS_I hI (by omega) (by omega) (by omega)) sm_0 rfl rfl rfl rfl (f_161 v2362 (by omega) H hI hJ x0 x1 x2 x3 x4 x5 x6 (by omega) (by omega) (by omega) hp0 hp1) (fun H2363 r2364 => ?_)
                obtain ⟨y2365, y2366, rfl, zp2367⟩ := r2364
                rw [kv2362] at zp2367
                obtain ⟨-, rbzp2367, -, rdzp2367, -, -⟩ := id zp2367
                have nzp2367 := pF_ne (T := T) (g := g) (n := 1) (by omega)
                have al2368 : pLn1 c T (pSg a1.toInt T g) = (pFail T 1 g) := by exact l1_w hp3 (by omega)
                have zp2369 := zp2367
                rw [← al2368] at zp2369
                rw [← al2368] at nzp2367
                obtain ⟨-, rbzp2369, -, rdzp2369, -, -⟩ := id zp2369
                have kszp2369 := kr_s rbzp2369
                refine g_nop ?_
                refine g_aload_n rfl ?_
                refine g_gfk (mS_I hI (by omega) (by omega) (by omega)) sm_0 rfl (mS_g13 hI) ?_
                refine g_if_ne (fun c2370 => ?_) (fun c2370 => ?_)
                · refine g_aload_n rfl ?_
                  refine g_invvv (mS_I hI (by omega) (by omega) (by omega)) sm_0 rfl rfl rfl rfl (f_162 H hI hJ x0 x1 x2 x3 x4 y2365 y2366 (by omega) (by omega) (by omega) hp0 zp2369) (fun H2371 r2372 => ?_)
                  obtain ⟨y2373, y2374, y2375, y2376, y2377, rfl, by2373, by2374, by2375, zp2378⟩ := r2372
                  obtain ⟨-, rbzp2378, -, rdzp2378, -, -⟩ := id zp2378
                  have nzp2378 := gn_f (T := T) (g := (pLn1 c T (pSg a1.toInt T g)))
                  have al2379 : pLn c T (pSg a1.toInt T g) = (pGn T (pLn1 c T (pSg a1.toInt T g))) := by unfold pLn; exact tk_f (by omega)
                  have zp2380 := zp2378
                  rw [← al2379] at zp2380
                  rw [← al2379] at nzp2378
                  obtain ⟨-, rbzp2380, -, rdzp2380, -, -⟩ := id zp2380
                  refine g_aload_n rfl ?_
                  refine g_dup rfl ?_
                  refine g_gfi (mS_I hI (by omega) (by omega) (by omega)) sm_0 rfl (fun v2381 ev2381 lv2381 uv2381 => ?_)
                  have iv2381 : v2381.toInt = (fZ H 0 19).toInt := by rw [ev2381, ← mS_o (by decide)]
                  have l19v2381 : (fZ H 0 19).toInt = (fZ H 0 19).toInt := rfl
                  refine g_iconst (by decide) (fun v2382 kv2382 => ?_)
                  refine g_iadd (by omega) (fun v2383 ev2383 => ?_)
                  refine g_pfi (mS_I hI (by omega) (by omega) (by omega)) sm_0 rfl (gz_any _) (fun H2384 eH2384 hIH2384 => ?_)
                  obtain ⟨B2385, eB2385⟩ : ∃ z, z = sF H 0 19 v2383 := ⟨_, rfl⟩
                  obtain rfl : H2384 = (mS B2385 y2373 y2374 y2375 y2376 y2377 y2365 y2366) := by rw [eH2384, eB2385]; exact mS_cF (by decide)
                  have hIB2385 : gI SM B2385 := by rw [eB2385]; exact gI_sF hI sm_0 rfl (gz_any _)
                  have hJB2385 : JN B2385 := JN_sF eB2385 hJ
                  have frB2385 : frL H B2385 := frL_mk (frM_r) eB2385
                  have tkB2385 : tkM B2385 b n T := tkM_19 hp0 eB2385
                  exact g_ret ⟨rfl, B2385, y2373, y2374, y2375, y2376, y2377, y2365, y2366, rfl, hIB2385, hJB2385, (by omega), (by omega), (by omega), zp2380, tkB2385, (Or.inl (by have o := pT_ok (T := T) (lo := 20) (hi := 20) (g := pLn1 c T (pSg a1.toInt T g)); unfold pLn; omega)), frB2385, (by rw [eB2385, fZ_sF_eq hI sm_0 rfl]; omega)⟩
                · refine g_aload_n rfl ?_
                  refine g_gfk (mS_I hI (by omega) (by omega) (by omega)) sm_0 rfl (mS_g10 hI) ?_
                  refine g_iconst (by decide) (fun v2386 kv2386 => ?_)
                  refine g_if2_eq (fun c2387 => ?_) (fun c2387 => ?_)
                  · exfalso; omega
                  · refine g_aload_n rfl ?_
                    refine g_iconst (by decide) (fun v2388 kv2388 => ?_)
                    refine g_invvv (mS_I hI (by omega) (by omega) (by omega)) sm_0 rfl rfl rfl rfl (f_161 v2388 (by omega) H hI hJ x0 x1 x2 x3 x4 y2365 y2366 (by omega) (by omega) (by omega) hp0 zp2369) (fun H2389 r2390 => ?_)
                    obtain ⟨y2391, y2392, rfl, zp2393⟩ := r2390
                    rw [kv2388] at zp2393
                    obtain ⟨-, rbzp2393, -, rdzp2393, -, -⟩ := id zp2393
                    have nzp2393 := pF_ne (T := T) (g := (pLn1 c T (pSg a1.toInt T g))) (n := 1) (by omega)
                    refine g_nop ?_
                    refine g_aload_n rfl ?_
                    refine g_invvv (mS_I hI (by omega) (by omega) (by omega)) sm_0 rfl rfl rfl rfl (f_162 H hI hJ x0 x1 x2 x3 x4 y2391 y2392 (by omega) (by omega) (by omega) hp0 zp2393) (fun H2394 r2395 => ?_)
                    obtain ⟨y2396, y2397, y2398, y2399, y2400, rfl, by2396, by2397, by2398, zp2401⟩ := r2395
                    obtain ⟨-, rbzp2401, -, rdzp2401, -, -⟩ := id zp2401
                    have nzp2401 := gn_f (T := T) (g := (pFail T 1 (pLn1 c T (pSg a1.toInt T g))))
                    have al2402 : pLn c T (pSg a1.toInt T g) = (pGn T (pFail T 1 (pLn1 c T (pSg a1.toInt T g)))) := by unfold pLn; exact tk_n (by omega)
                    have zp2403 := zp2401
                    rw [← al2402] at zp2403
                    rw [← al2402] at nzp2401
                    obtain ⟨-, rbzp2403, -, rdzp2403, -, -⟩ := id zp2403
                    refine g_aload_n rfl ?_
                    refine g_dup rfl ?_
                    refine g_gfi (mS_I hI (by omega) (by omega) (by omega)) sm_0 rfl (fun v2404 ev2404 lv2404 uv2404 => ?_)
                    have iv2404 : v2404.toInt = (fZ H 0 19).toInt := by rw [ev2404, ← mS_o (by decide)]
                    have l19v2404 : (fZ H 0 19).toInt = (fZ H 0 19).toInt := rfl
                    refine g_iconst (by decide) (fun v2405 kv2405 => ?_)
                    refine g_iadd (by omega) (fun v2406 ev2406 => ?_)
                    refine g_pfi (mS_I hI (by omega) (by omega) (by omega)) sm_0 rfl (gz_any _) (fun H2407 eH2407 hIH2407 => ?_)
                    obtain ⟨B2408, eB2408⟩ : ∃ z, z = sF H 0 19 v2406 := ⟨_, rfl⟩
                    obtain rfl : H2407 = (mS B2408 y2396 y2397 y2398 y2399 y2400 y2391 y2392) := by rw [eH2407, eB2408]; exact mS_cF (by decide)
                    have hIB2408 : gI SM B2408 := by rw [eB2408]; exact gI_sF hI sm_0 rfl (gz_any _)
                    have hJB2408 : JN B2408 := JN_sF eB2408 hJ
                    have frB2408 : frL H B2408 := frL_mk (frM_r) eB2408
                    have tkB2408 : tkM B2408 b n T := tkM_19 hp0 eB2408
                    exact g_ret ⟨rfl, B2408, y2396, y2397, y2398, y2399, y2400, y2391, y2392, rfl, hIB2408, hJB2408, (by omega), (by omega), (by omega), zp2403, tkB2408, (Or.inl (by have o := pT_ok (T := T) (lo := 20) (hi := 20) (g := pLn1 c T (pSg a1.toInt T g)); unfold pLn; omega)), frB2408, (by rw [eB2408, fZ_sF_eq hI sm_0 rfl]; omega)⟩
              · refine g_aload_n rfl ?_
                refine g_invvv (mS_I hI (by omega) (by omega) (by omega)) sm_0 rfl rfl rfl rfl (f_168 H hI hJ x0 x1 x2 x3 x4 x5 x6 (by omega) (by omega) (by omega) hp0 hp1 hp2 (by omega)) (fun H2409 r2410 => ?_)
                obtain ⟨B2422, y2411, y2412, y2413, y2414, y2415, y2416, y2417, rfl, hIB2422, hJB2422, by2411, by2412, by2413, zp2418, zp2419, zp2420, zp2421⟩ := r2410
                obtain ⟨-, rbzp2418, -, rdzp2418, -, -⟩ := id zp2418
                have al2423 : pLn1 c T (pSg a1.toInt T g) = (pRdF c T g) := by rw [sg_id (by omega), l1_2 (by omega)]
                have zp2424 := zp2418
                rw [← al2423] at zp2424
                obtain ⟨-, rbzp2424, -, rdzp2424, -, -⟩ := id zp2424
                have kszp2424 := kr_s rbzp2424
                refine g_goto ?_
                refine g_aload_n rfl ?_
                refine g_gfk (mS_I hIB2422 (by omega) (by omega) (by omega)) sm_0 rfl (mS_g13 hIB2422) ?_
                refine g_if_ne (fun c2425 => ?_) (fun c2425 => ?_)
                · refine g_aload_n rfl ?_
                  refine g_invvv (mS_I hIB2422 (by omega) (by omega) (by omega)) sm_0 rfl rfl rfl rfl (f_162 B2422 hIB2422 hJB2422 y2411 y2412 y2413 y2414 y2415 y2416 y2417 (by omega) (by omega) (by omega) zp2419 zp2424) (fun H2426 r2427 => ?_)
                  obtain ⟨y2428, y2429, y2430, y2431, y2432, rfl, by2428, by2429, by2430, zp2433⟩ := r2427
                  obtain ⟨-, rbzp2433, -, rdzp2433, -, -⟩ := id zp2433
                  have nzp2433 := gn_f (T := T) (g := (pLn1 c T (pSg a1.toInt T g)))
                  have al2434 : pLn c T (pSg a1.toInt T g) = (pGn T (pLn1 c T (pSg a1.toInt T g))) := by unfold pLn; exact tk_f (by omega)
                  have zp2435 := zp2433
                  rw [← al2434] at zp2435
                  rw [← al2434] at nzp2433
                  obtain ⟨-, rbzp2435, -, rdzp2435, -, -⟩ := id zp2435
                  refine g_aload_n rfl ?_
                  refine g_dup rfl ?_
                  refine g_gfi (mS_I hIB2422 (by omega) (by omega) (by omega)) sm_0 rfl (fun v2436 ev2436 lv2436 uv2436 => ?_)
                  have iv2436 : v2436.toInt = (fZ B2422 0 19).toInt := by rw [ev2436, ← mS_o (by decide)]
                  have l19v2436 : (fZ B2422 0 19).toInt = (fZ H 0 19).toInt := by rw [zp2421.2 19 (by decide)]
                  refine g_iconst (by decide) (fun v2437 kv2437 => ?_)
                  refine g_iadd (by omega) (fun v2438 ev2438 => ?_)
                  refine g_pfi (mS_I hIB2422 (by omega) (by omega) (by omega)) sm_0 rfl (gz_any _) (fun H2439 eH2439 hIH2439 => ?_)
                  obtain ⟨B2440, eB2440⟩ : ∃ z, z = sF B2422 0 19 v2438 := ⟨_, rfl⟩
                  obtain rfl : H2439 = (mS B2440 y2428 y2429 y2430 y2431 y2432 y2416 y2417) := by rw [eH2439, eB2440]; exact mS_cF (by decide)
                  have hIB2440 : gI SM B2440 := by rw [eB2440]; exact gI_sF hIB2422 sm_0 rfl (gz_any _)
                  have hJB2440 : JN B2440 := JN_sF eB2440 hJB2422
                  have frB2440 : frL H B2440 := frL_mk zp2421 eB2440
                  have tkB2440 : tkM B2440 b n T := tkM_19 zp2419 eB2440
                  exact g_ret ⟨rfl, B2440, y2428, y2429, y2430, y2431, y2432, y2416, y2417, rfl, hIB2440, hJB2440, (by omega), (by omega), (by omega), zp2435, tkB2440, (bkl zp2420 eB2440 (by rw [sg_id (by omega), l1_2 (by omega)]) (by rw [sg_id (by omega), b1_2 (by omega)])), frB2440, (by rw [eB2440, fZ_sF_eq hIB2422 sm_0 rfl]; omega)⟩
                · refine g_aload_n rfl ?_
                  refine g_gfk (mS_I hIB2422 (by omega) (by omega) (by omega)) sm_0 rfl (mS_g10 hIB2422) ?_
                  refine g_iconst (by decide) (fun v2441 kv2441 => ?_)
                  refine g_if2_eq (fun c2442 => ?_) (fun c2442 => ?_)
                  · refine g_aload_n rfl ?_
                    refine g_invvv (mS_I hIB2422 (by omega) (by omega) (by omega)) sm_0 rfl rfl rfl rfl (f_162 B2422 hIB2422 hJB2422 y2411 y2412 y2413 y2414 y2415 y2416 y2417 (by omega) (by omega) (by omega) zp2419 zp2424) (fun H2443 r2444 => ?_)
                    obtain ⟨y2445, y2446, y2447, y2448, y2449, rfl, by2445, by2446, by2447, zp2450⟩ := r2444
                    obtain ⟨-, rbzp2450, -, rdzp2450, -, -⟩ := id zp2450
                    have nzp2450 := gn_f (T := T) (g := (pLn1 c T (pSg a1.toInt T g)))
                    have al2451 : pLn c T (pSg a1.toInt T g) = (pGn T (pLn1 c T (pSg a1.toInt T g))) := by unfold pLn; exact tk_y (by omega)
                    have zp2452 := zp2450
                    rw [← al2451] at zp2452
                    rw [← al2451] at nzp2450
                    obtain ⟨-, rbzp2452, -, rdzp2452, -, -⟩ := id zp2452
                    refine g_aload_n rfl ?_
                    refine g_dup rfl ?_
                    refine g_gfi (mS_I hIB2422 (by omega) (by omega) (by omega)) sm_0 rfl (fun v2453 ev2453 lv2453 uv2453 => ?_)
                    have iv2453 : v2453.toInt = (fZ B2422 0 19).toInt := by rw [ev2453, ← mS_o (by decide)]
                    have l19v2453 : (fZ B2422 0 19).toInt = (fZ H 0 19).toInt := by rw [zp2421.2 19 (by decide)]
                    refine g_iconst (by decide) (fun v2454 kv2454 => ?_)
                    refine g_iadd (by omega) (fun v2455 ev2455 => ?_)
                    refine g_pfi (mS_I hIB2422 (by omega) (by omega) (by omega)) sm_0 rfl (gz_any _) (fun H2456 eH2456 hIH2456 => ?_)
                    obtain ⟨B2457, eB2457⟩ : ∃ z, z = sF B2422 0 19 v2455 := ⟨_, rfl⟩
                    obtain rfl : H2456 = (mS B2457 y2445 y2446 y2447 y2448 y2449 y2416 y2417) := by rw [eH2456, eB2457]; exact mS_cF (by decide)
                    have hIB2457 : gI SM B2457 := by rw [eB2457]; exact gI_sF hIB2422 sm_0 rfl (gz_any _)
                    have hJB2457 : JN B2457 := JN_sF eB2457 hJB2422
                    have frB2457 : frL H B2457 := frL_mk zp2421 eB2457
                    have tkB2457 : tkM B2457 b n T := tkM_19 zp2419 eB2457
                    exact g_ret ⟨rfl, B2457, y2445, y2446, y2447, y2448, y2449, y2416, y2417, rfl, hIB2457, hJB2457, (by omega), (by omega), (by omega), zp2452, tkB2457, (bkl zp2420 eB2457 (by rw [sg_id (by omega), l1_2 (by omega)]) (by rw [sg_id (by omega), b1_2 (by omega)])), frB2457, (by rw [eB2457, fZ_sF_eq hIB2422 sm_0 rfl]; omega)⟩
                  · refine g_aload_n rfl ?_
                    refine g_iconst (by decide) (fun v2458 kv2458 => ?_)
                    refine g_invvv (mS_I hIB2422 (by omega) (by omega) (by omega)) sm_0 rfl rfl rfl rfl (f_161 v2458 (by omega) B2422 hIB2422 hJB2422 y2411 y2412 y2413 y2414 y2415 y2416 y2417 (by omega) (by omega) (by omega) zp2419 zp2424) (fun H2459 r2460 => ?_)
                    obtain ⟨y2461, y2462, rfl, zp2463⟩ := r2460
                    rw [kv2458] at zp2463
                    obtain ⟨-, rbzp2463, -, rdzp2463, -, -⟩ := id zp2463
                    have nzp2463 := pF_ne (T := T) (g := (pLn1 c T (pSg a1.toInt T g))) (n := 1) (by omega)
                    refine g_nop ?_
                    refine g_aload_n rfl ?_
                    refine g_invvv (mS_I hIB2422 (by omega) (by omega) (by omega)) sm_0 rfl rfl rfl rfl (f_162 B2422 hIB2422 hJB2422 y2411 y2412 y2413 y2414 y2415 y2461 y2462 (by omega) (by omega) (by omega) zp2419 zp2463) (fun H2464 r2465 => ?_)
                    obtain ⟨y2466, y2467, y2468, y2469, y2470, rfl, by2466, by2467, by2468, zp2471⟩ := r2465
                    obtain ⟨-, rbzp2471, -, rdzp2471, -, -⟩ := id zp2471
                    have nzp2471 := gn_f (T := T) (g := (pFail T 1 (pLn1 c T (pSg a1.toInt T g))))
                    have al2472 : pLn c T (pSg a1.toInt T g) = (pGn T (pFail T 1 (pLn1 c T (pSg a1.toInt T g)))) := by unfold pLn; exact tk_n (by omega)
                    have zp2473 := zp2471
                    rw [← al2472] at zp2473
                    rw [← al2472] at nzp2471
                    obtain ⟨-, rbzp2473, -, rdzp2473, -, -⟩ := id zp2473
                    refine g_aload_n rfl ?_
                    refine g_dup rfl ?_
                    refine g_gfi (mS_I hIB2422 (by omega) (by omega) (by omega)) sm_0 rfl (fun v2474 ev2474 lv2474 uv2474 => ?_)
                    have iv2474 : v2474.toInt = (fZ B2422 0 19).toInt := by rw [ev2474, ← mS_o (by decide)]
                    have l19v2474 : (fZ B2422 0 19).toInt = (fZ H 0 19).toInt := by rw [zp2421.2 19 (by decide)]
                    refine g_iconst (by decide) (fun v2475 kv2475 => ?_)
                    refine g_iadd (by omega) (fun v2476 ev2476 => ?_)
                    refine g_pfi (mS_I hIB2422 (by omega) (by omega) (by omega)) sm_0 rfl (gz_any _) (fun H2477 eH2477 hIH2477 => ?_)
                    obtain ⟨B2478, eB2478⟩ : ∃ z, z = sF B2422 0 19 v2476 := ⟨_, rfl⟩
                    obtain rfl : H2477 = (mS B2478 y2466 y2467 y2468 y2469 y2470 y2461 y2462) := by rw [eH2477, eB2478]; exact mS_cF (by decide)
                    have hIB2478 : gI SM B2478 := by rw [eB2478]; exact gI_sF hIB2422 sm_0 rfl (gz_any _)
                    have hJB2478 : JN B2478 := JN_sF eB2478 hJB2422
                    have frB2478 : frL H B2478 := frL_mk zp2421 eB2478
                    have tkB2478 : tkM B2478 b n T := tkM_19 zp2419 eB2478
                    exact g_ret ⟨rfl, B2478, y2466, y2467, y2468, y2469, y2470, y2461, y2462, rfl, hIB2478, hJB2478, (by omega), (by omega), (by omega), zp2473, tkB2478, (bkl zp2420 eB2478 (by rw [sg_id (by omega), l1_2 (by omega)]) (by rw [sg_id (by omega), b1_2 (by omega)])), frB2478, (by rw [eB2478, fZ_sF_eq hIB2422 sm_0 rfl]; omega)⟩
          · refine g_iload_n rfl ?_
            refine g_if_ne (fun c2479 => ?_) (fun c2479 => ?_)
            · refine g_iload_n rfl ?_
              refine g_bipush (by decide) (fun v2480 kv2480 => ?_)
              refine g_if2_ne (fun c2481 => ?_) (fun c2481 => ?_)
              · refine g_aload_n rfl ?_
                refine g_iconst (by decide) (fun v2482 kv2482 => ?_)
                refine g_invvv (mS_I hI (by omega) (by omega) (by omega)) sm_0 rfl rfl rfl rfl (f_161 v2482 (by omega) H hI hJ x0 x1 x2 x3 x4 x5 x6 (by omega) (by omega) (by omega) hp0 hp1) (fun H2483 r2484 => ?_)
                obtain ⟨y2485, y2486, rfl, zp2487⟩ := r2484
                rw [kv2482] at zp2487
                obtain ⟨-, rbzp2487, -, rdzp2487, -, -⟩ := id zp2487
                have nzp2487 := pF_ne (T := T) (g := g) (n := 1) (by omega)
                have al2488 : pLn1 c T (pSg a1.toInt T g) = (pFail T 1 g) := by exact l1_w hp3 (by omega)
                have zp2489 := zp2487
                rw [← al2488] at zp2489
                rw [← al2488] at nzp2487
                obtain ⟨-, rbzp2489, -, rdzp2489, -, -⟩ := id zp2489
                have kszp2489 := kr_s rbzp2489
                refine g_nop ?_
                refine g_aload_n rfl ?_
                refine g_gfk (mS_I hI (by omega) (by omega) (by omega)) sm_0 rfl (mS_g13 hI) ?_
                refine g_if_ne (fun c2490 => ?_) (fun c2490 => ?_)
                · refine g_aload_n rfl ?_
                  refine g_invvv (mS_I hI (by omega) (by omega) (by omega)) sm_0 rfl rfl rfl rfl (f_162 H hI hJ x0 x1 x2 x3 x4 y2485 y2486 (by omega) (by omega) (by omega) hp0 zp2489) (fun H2491 r2492 => ?_)
                  obtain ⟨y2493, y2494, y2495, y2496, y2497, rfl, by2493, by2494, by2495, zp2498⟩ := r2492
                  obtain ⟨-, rbzp2498, -, rdzp2498, -, -⟩ := id zp2498
                  have nzp2498 := gn_f (T := T) (g := (pLn1 c T (pSg a1.toInt T g)))
                  have al2499 : pLn c T (pSg a1.toInt T g) = (pGn T (pLn1 c T (pSg a1.toInt T g))) := by unfold pLn; exact tk_f (by omega)
                  have zp2500 := zp2498
                  rw [← al2499] at zp2500
                  rw [← al2499] at nzp2498
                  obtain ⟨-, rbzp2500, -, rdzp2500, -, -⟩ := id zp2500
                  refine g_aload_n rfl ?_
                  refine g_dup rfl ?_
                  refine g_gfi (mS_I hI (by omega) (by omega) (by omega)) sm_0 rfl (fun v2501 ev2501 lv2501 uv2501 => ?_)
                  have iv2501 : v2501.toInt = (fZ H 0 19).toInt := by rw [ev2501, ← mS_o (by decide)]
                  have l19v2501 : (fZ H 0 19).toInt = (fZ H 0 19).toInt := rfl
                  refine g_iconst (by decide) (fun v2502 kv2502 => ?_)
                  refine g_iadd (by omega) (fun v2503 ev2503 => ?_)
                  refine g_pfi (mS_I hI (by omega) (by omega) (by omega)) sm_0 rfl (gz_any _) (fun H2504 eH2504 hIH2504 => ?_)
                  obtain ⟨B2505, eB2505⟩ : ∃ z, z = sF H 0 19 v2503 := ⟨_, rfl⟩
                  obtain rfl : H2504 = (mS B2505 y2493 y2494 y2495 y2496 y2497 y2485 y2486) := by rw [eH2504, eB2505]; exact mS_cF (by decide)
                  have hIB2505 : gI SM B2505 := by rw [eB2505]; exact gI_sF hI sm_0 rfl (gz_any _)
                  have hJB2505 : JN B2505 := JN_sF eB2505 hJ
                  have frB2505 : frL H B2505 := frL_mk (frM_r) eB2505
                  have tkB2505 : tkM B2505 b n T := tkM_19 hp0 eB2505
                  exact g_ret ⟨rfl, B2505, y2493, y2494, y2495, y2496, y2497, y2485, y2486, rfl, hIB2505, hJB2505, (by omega), (by omega), (by omega), zp2500, tkB2505, (Or.inl (by have o := pT_ok (T := T) (lo := 20) (hi := 20) (g := pLn1 c T (pSg a1.toInt T g)); unfold pLn; omega)), frB2505, (by rw [eB2505, fZ_sF_eq hI sm_0 rfl]; omega)⟩
                · refine g_aload_n rfl ?_
                  refine g_gfk (mS_I hI (by omega) (by omega) (by omega)) sm_0 rfl (mS_g10 hI) ?_
                  refine g_iconst (by decide) (fun v2506 kv2506 => ?_)
                  refine g_if2_eq (fun c2507 => ?_) (fun c2507 => ?_)
                  · exfalso; omega
                  · refine g_aload_n rfl ?_
                    refine g_iconst (by decide) (fun v2508 kv2508 => ?_)
                    refine g_invvv (mS_I hI (by omega) (by omega) (by omega)) sm_0 rfl rfl rfl rfl (f_161 v2508 (by omega) H hI hJ x0 x1 x2 x3 x4 y2485 y2486 (by omega) (by omega) (by omega) hp0 zp2489) (fun H2509 r2510 => ?_)
                    obtain ⟨y2511, y2512, rfl, zp2513⟩ := r2510
                    rw [kv2508] at zp2513
                    obtain ⟨-, rbzp2513, -, rdzp2513, -, -⟩ := id zp2513
                    have nzp2513 := pF_ne (T := T) (g := (pLn1 c T (pSg a1.toInt T g))) (n := 1) (by omega)
                    refine g_nop ?_
                    refine g_aload_n rfl ?_
                    refine g_invvv (mS_I hI (by omega) (by omega) (by omega)) sm_0 rfl rfl rfl rfl (f_162 H hI hJ x0 x1 x2 x3 x4 y2511 y2512 (by omega) (by omega) (by omega) hp0 zp2513) (fun H2514 r2515 => ?_)
                    obtain ⟨y2516, y2517, y2518, y2519, y2520, rfl, by2516, by2517, by2518, zp2521⟩ := r2515
                    obtain ⟨-, rbzp2521, -, rdzp2521, -, -⟩ := id zp2521
                    have nzp2521 := gn_f (T := T) (g := (pFail T 1 (pLn1 c T (pSg a1.toInt T g))))
                    have al2522 : pLn c T (pSg a1.toInt T g) = (pGn T (pFail T 1 (pLn1 c T (pSg a1.toInt T g)))) := by unfold pLn; exact tk_n (by omega)
                    have zp2523 := zp2521
                    rw [← al2522] at zp2523
                    rw [← al2522] at nzp2521
                    obtain ⟨-, rbzp2523, -, rdzp2523, -, -⟩ := id zp2523
                    refine g_aload_n rfl ?_
                    refine g_dup rfl ?_
                    refine g_gfi (mS_I hI (by omega) (by omega) (by omega)) sm_0 rfl (fun v2524 ev2524 lv2524 uv2524 => ?_)
                    have iv2524 : v2524.toInt = (fZ H 0 19).toInt := by rw [ev2524, ← mS_o (by decide)]
                    have l19v2524 : (fZ H 0 19).toInt = (fZ H 0 19).toInt := rfl
                    refine g_iconst (by decide) (fun v2525 kv2525 => ?_)
                    refine g_iadd (by omega) (fun v2526 ev2526 => ?_)
                    refine g_pfi (mS_I hI (by omega) (by omega) (by omega)) sm_0 rfl (gz_any _) (fun H2527 eH2527 hIH2527 => ?_)
                    obtain ⟨B2528, eB2528⟩ : ∃ z, z = sF H 0 19 v2526 := ⟨_, rfl⟩
                    obtain rfl : H2527 = (mS B2528 y2516 y2517 y2518 y2519 y2520 y2511 y2512) := by rw [eH2527, eB2528]; exact mS_cF (by decide)
                    have hIB2528 : gI SM B2528 := by rw [eB2528]; exact gI_sF hI sm_0 rfl (gz_any _)
                    have hJB2528 : JN B2528 := JN_sF eB2528 hJ
                    have frB2528 : frL H B2528 := frL_mk (frM_r) eB2528
                    have tkB2528 : tkM B2528 b n T := tkM_19 hp0 eB2528
                    exact g_ret ⟨rfl, B2528, y2516, y2517, y2518, y2519, y2520, y2511, y2512, rfl, hIB2528, hJB2528, (by omega), (by omega), (by omega), zp2523, tkB2528, (Or.inl (by have o := pT_ok (T := T) (lo := 20) (hi := 20) (g := pLn1 c T (pSg a1.toInt T g)); unfold pLn; omega)), frB2528, (by rw [eB2528, fZ_sF_eq hI sm_0 rfl]; omega)⟩
              · exfalso; omega
            · refine g_aload_n rfl ?_
              refine g_invvv (mS_I hI (by omega) (by omega) (by omega)) sm_0 rfl rfl rfl rfl (f_167 H hI hJ x0 x1 x2 x3 x4 x5 x6 (by omega) (by omega) (by omega) hp0 hp1 hp2 (by omega)) (fun H2529 r2530 => ?_)
              obtain ⟨B2542, y2531, y2532, y2533, y2534, y2535, y2536, y2537, rfl, hIB2542, hJB2542, by2531, by2532, by2533, zp2538, zp2539, zp2540, zp2541⟩ := r2530
              obtain ⟨-, rbzp2538, -, rdzp2538, -, -⟩ := id zp2538
              have al2543 : pLn1 c T (pSg a1.toInt T g) = (pRdR c T g) := by rw [sg_id (by omega), l1_1 (by omega)]
              have zp2544 := zp2538
              rw [← al2543] at zp2544
              obtain ⟨-, rbzp2544, -, rdzp2544, -, -⟩ := id zp2544
              have kszp2544 := kr_s rbzp2544
              refine g_goto ?_
              refine g_aload_n rfl ?_
              refine g_gfk (mS_I hIB2542 (by omega) (by omega) (by omega)) sm_0 rfl (mS_g13 hIB2542) ?_
              refine g_if_ne (fun c2545 => ?_) (fun c2545 => ?_)
              · refine g_aload_n rfl ?_
                refine g_invvv (mS_I hIB2542 (by omega) (by omega) (by omega)) sm_0 rfl rfl rfl rfl (f_162 B2542 hIB2542 hJB2542 y2531 y2532 y2533 y2534 y2535 y2536 y2537 (by omega) (by omega) (by omega) zp2539 zp2544) (fun H2546 r2547 => ?_)
                obtain ⟨y2548, y2549, y2550, y2551, y2552, rfl, by2548, by2549, by2550, zp2553⟩ := r2547
                obtain ⟨-, rbzp2553, -, rdzp2553, -, -⟩ := id zp2553
                have nzp2553 := gn_f (T := T) (g := (pLn1 c T (pSg a1.toInt T g)))
                have al2554 : pLn c T (pSg a1.toInt T g) = (pGn T (pLn1 c T (pSg a1.toInt T g))) := by unfold pLn; exact tk_f (by omega)
                have zp2555 := zp2553
                rw [← al2554] at zp2555
                rw [← al2554] at nzp2553
                obtain ⟨-, rbzp2555, -, rdzp2555, -, -⟩ := id zp2555
                refine g_aload_n rfl ?_
                refine g_dup rfl ?_
                refine g_gfi (mS_I hIB2542 (by omega) (by omega) (by omega)) sm_0 rfl (fun v2556 ev2556 lv2556 uv2556 => ?_)
                have iv2556 : v2556.toInt = (fZ B2542 0 19).toInt := by rw [ev2556, ← mS_o (by decide)]
                have l19v2556 : (fZ B2542 0 19).toInt = (fZ H 0 19).toInt := by rw [zp2541.2 19 (by decide)]
                refine g_iconst (by decide) (fun v2557 kv2557 => ?_)
                refine g_iadd (by omega) (fun v2558 ev2558 => ?_)
                refine g_pfi (mS_I hIB2542 (by omega) (by omega) (by omega)) sm_0 rfl (gz_any _) (fun H2559 eH2559 hIH2559 => ?_)
                obtain ⟨B2560, eB2560⟩ : ∃ z, z = sF B2542 0 19 v2558 := ⟨_, rfl⟩
                obtain rfl : H2559 = (mS B2560 y2548 y2549 y2550 y2551 y2552 y2536 y2537) := by rw [eH2559, eB2560]; exact mS_cF (by decide)
                have hIB2560 : gI SM B2560 := by rw [eB2560]; exact gI_sF hIB2542 sm_0 rfl (gz_any _)
                have hJB2560 : JN B2560 := JN_sF eB2560 hJB2542
                have frB2560 : frL H B2560 := frL_mk zp2541 eB2560
                have tkB2560 : tkM B2560 b n T := tkM_19 zp2539 eB2560
                exact g_ret ⟨rfl, B2560, y2548, y2549, y2550, y2551, y2552, y2536, y2537, rfl, hIB2560, hJB2560, (by omega), (by omega), (by omega), zp2555, tkB2560, (bkl zp2540 eB2560 (by rw [sg_id (by omega), l1_1 (by omega)]) (by rw [sg_id (by omega), b1_1 (by omega)])), frB2560, (by rw [eB2560, fZ_sF_eq hIB2542 sm_0 rfl]; omega)⟩
              · refine g_aload_n rfl ?_
                refine g_gfk (mS_I hIB2542 (by omega) (by omega) (by omega)) sm_0 rfl (mS_g10 hIB2542) ?_
                refine g_iconst (by decide) (fun v2561 kv2561 => ?_)
                refine g_if2_eq (fun c2562 => ?_) (fun c2562 => ?_)
                · refine g_aload_n rfl ?_
                  refine g_invvv (mS_I hIB2542 (by omega) (by omega) (by omega)) sm_0 rfl rfl rfl rfl (f_162 B2542 hIB2542 hJB2542 y2531 y2532 y2533 y2534 y2535 y2536 y2537 (by omega) (by omega) (by omega) zp2539 zp2544) (fun H2563 r2564 => ?_)
                  obtain ⟨y2565, y2566, y2567, y2568, y2569, rfl, by2565, by2566, by2567, zp2570⟩ := r2564
                  obtain ⟨-, rbzp2570, -, rdzp2570, -, -⟩ := id zp2570
                  have nzp2570 := gn_f (T := T) (g := (pLn1 c T (pSg a1.toInt T g)))
                  have al2571 : pLn c T (pSg a1.toInt T g) = (pGn T (pLn1 c T (pSg a1.toInt T g))) := by unfold pLn; exact tk_y (by omega)
                  have zp2572 := zp2570
                  rw [← al2571] at zp2572
                  rw [← al2571] at nzp2570
                  obtain ⟨-, rbzp2572, -, rdzp2572, -, -⟩ := id zp2572
                  refine g_aload_n rfl ?_
                  refine g_dup rfl ?_
                  refine g_gfi (mS_I hIB2542 (by omega) (by omega) (by omega)) sm_0 rfl (fun v2573 ev2573 lv2573 uv2573 => ?_)
                  have iv2573 : v2573.toInt = (fZ B2542 0 19).toInt := by rw [ev2573, ← mS_o (by decide)]
                  have l19v2573 : (fZ B2542 0 19).toInt = (fZ H 0 19).toInt := by rw [zp2541.2 19 (by decide)]
                  refine g_iconst (by decide) (fun v2574 kv2574 => ?_)
                  refine g_iadd (by omega) (fun v2575 ev2575 => ?_)
                  refine g_pfi (mS_I hIB2542 (by omega) (by omega) (by omega)) sm_0 rfl (gz_any _) (fun H2576 eH2576 hIH2576 => ?_)
                  obtain ⟨B2577, eB2577⟩ : ∃ z, z = sF B2542 0 19 v2575 := ⟨_, rfl⟩
                  obtain rfl : H2576 = (mS B2577 y2565 y2566 y2567 y2568 y2569 y2536 y2537) := by rw [eH2576, eB2577]; exact mS_cF (by decide)
                  have hIB2577 : gI SM B2577 := by rw [eB2577]; exact gI_sF hIB2542 sm_0 rfl (gz_any _)
                  have hJB2577 : JN B2577 := JN_sF eB2577 hJB2542
                  have frB2577 : frL H B2577 := frL_mk zp2541 eB2577
                  have tkB2577 : tkM B2577 b n T := tkM_19 zp2539 eB2577
                  exact g_ret ⟨rfl, B2577, y2565, y2566, y2567, y2568, y2569, y2536, y2537, rfl, hIB2577, hJB2577, (by omega), (by omega), (by omega), zp2572, tkB2577, (bkl zp2540 eB2577 (by rw [sg_id (by omega), l1_1 (by omega)]) (by rw [sg_id (by omega), b1_1 (by omega)])), frB2577, (by rw [eB2577, fZ_sF_eq hIB2542 sm_0 rfl]; omega)⟩
                · refine g_aload_n rfl ?_
                  refine g_iconst (by decide) (fun v2578 kv2578 => ?_)
                  refine g_invvv (mS_I hIB2542 (by omega) (by omega) (by omega)) sm_0 rfl rfl rfl rfl (f_161 v2578 (by omega) B2542 hIB2542 hJB2542 y2531 y2532 y2533 y2534 y2535 y2536 y2537 (by omega) (by omega) (by omega) zp2539 zp2544) (fun H2579 r2580 => ?_)
                  obtain ⟨y2581, y2582, rfl, zp2583⟩ := r2580
                  rw [kv2578] at zp2583
                  obtain ⟨-, rbzp2583, -, rdzp2583, -, -⟩ := id zp2583
                  have nzp2583 := pF_ne (T := T) (g := (pLn1 c T (pSg a1.toInt T g))) (n := 1) (by omega)
                  refine g_nop ?_
                  refine g_aload_n rfl ?_
                  refine g_invvv (mS_I hIB2542 (by omega) (by omega) (by omega)) sm_0 rfl rfl rfl rfl (f_162 B2542 hIB2542 hJB2542 y2531 y2532 y2533 y2534 y2535 y2581 y2582 (by omega) (by omega) (by omega) zp2539 zp2583) (fun H2584 r2585 => ?_)
                  obtain ⟨y2586, y2587, y2588, y2589, y2590, rfl, by2586, by2587, by2588, zp2591⟩ := r2585
                  obtain ⟨-, rbzp2591, -, rdzp2591, -, -⟩ := id zp2591
                  have nzp2591 := gn_f (T := T) (g := (pFail T 1 (pLn1 c T (pSg a1.toInt T g))))
                  have al2592 : pLn c T (pSg a1.toInt T g) = (pGn T (pFail T 1 (pLn1 c T (pSg a1.toInt T g)))) := by unfold pLn; exact tk_n (by omega)
                  have zp2593 := zp2591
                  rw [← al2592] at zp2593
                  rw [← al2592] at nzp2591
                  obtain ⟨-, rbzp2593, -, rdzp2593, -, -⟩ := id zp2593
                  refine g_aload_n rfl ?_
                  refine g_dup rfl ?_
                  refine g_gfi (mS_I hIB2542 (by omega) (by omega) (by omega)) sm_0 rfl (fun v2594 ev2594 lv2594 uv2594 => ?_)
                  have iv2594 : v2594.toInt = (fZ B2542 0 19).toInt := by rw [ev2594, ← mS_o (by decide)]
                  have l19v2594 : (fZ B2542 0 19).toInt = (fZ H 0 19).toInt := by rw [zp2541.2 19 (by decide)]
                  refine g_iconst (by decide) (fun v2595 kv2595 => ?_)
                  refine g_iadd (by omega) (fun v2596 ev2596 => ?_)
                  refine g_pfi (mS_I hIB2542 (by omega) (by omega) (by omega)) sm_0 rfl (gz_any _) (fun H2597 eH2597 hIH2597 => ?_)
                  obtain ⟨B2598, eB2598⟩ : ∃ z, z = sF B2542 0 19 v2596 := ⟨_, rfl⟩
                  obtain rfl : H2597 = (mS B2598 y2586 y2587 y2588 y2589 y2590 y2581 y2582) := by rw [eH2597, eB2598]; exact mS_cF (by decide)
                  have hIB2598 : gI SM B2598 := by rw [eB2598]; exact gI_sF hIB2542 sm_0 rfl (gz_any _)
                  have hJB2598 : JN B2598 := JN_sF eB2598 hJB2542
                  have frB2598 : frL H B2598 := frL_mk zp2541 eB2598
                  have tkB2598 : tkM B2598 b n T := tkM_19 zp2539 eB2598
                  exact g_ret ⟨rfl, B2598, y2586, y2587, y2588, y2589, y2590, y2581, y2582, rfl, hIB2598, hJB2598, (by omega), (by omega), (by omega), zp2593, tkB2598, (bkl zp2540 eB2598 (by rw [sg_id (by omega), l1_1 (by omega)]) (by rw [sg_id (by omega), b1_1 (by omega)])), frB2598, (by rw [eB2598, fZ_sF_eq hIB2542 sm_0 rfl]; omega)⟩
        · refine g_iload_n rfl ?_
          refine g_if_ne (fun c2599 => ?_) (fun c2599 => ?_)
          · refine g_iload_n rfl ?_
            refine g_bipush (by decide) (fun v2600 kv2600 => ?_)
            refine g_if2_ne (fun c2601 => ?_) (fun c2601 => ?_)
            · refine g_iload_n rfl ?_
              refine g_bipush (by decide) (fun v2602 kv2602 => ?_)
              refine g_if2_ne (fun c2603 => ?_) (fun c2603 => ?_)
              · refine g_aload_n rfl ?_
                refine g_iconst (by decide) (fun v2604 kv2604 => ?_)
                refine g_invvv (mS_I hI (by omega) (by omega) (by omega)) sm_0 rfl rfl rfl rfl (f_161 v2604 (by omega) H hI hJ x0 x1 x2 x3 x4 x5 x6 (by omega) (by omega) (by omega) hp0 hp1) (fun H2605 r2606 => ?_)
                obtain ⟨y2607, y2608, rfl, zp2609⟩ := r2606
                rw [kv2604] at zp2609
                obtain ⟨-, rbzp2609, -, rdzp2609, -, -⟩ := id zp2609
                have nzp2609 := pF_ne (T := T) (g := g) (n := 1) (by omega)
                have al2610 : pLn1 c T (pSg a1.toInt T g) = (pFail T 1 g) := by exact l1_w hp3 (by omega)
                have zp2611 := zp2609
                rw [← al2610] at zp2611
                rw [← al2610] at nzp2609
                obtain ⟨-, rbzp2611, -, rdzp2611, -, -⟩ := id zp2611
                have kszp2611 := kr_s rbzp2611
                refine g_nop ?_
                refine g_aload_n rfl ?_
                refine g_gfk (mS_I hI (by omega) (by omega) (by omega)) sm_0 rfl (mS_g13 hI) ?_
                refine g_if_ne (fun c2612 => ?_) (fun c2612 => ?_)
                · refine g_aload_n rfl ?_
                  refine g_invvv (mS_I hI (by omega) (by omega) (by omega)) sm_0 rfl rfl rfl rfl (f_162 H hI hJ x0 x1 x2 x3 x4 y2607 y2608 (by omega) (by omega) (by omega) hp0 zp2611) (fun H2613 r2614 => ?_)
                  obtain ⟨y2615, y2616, y2617, y2618, y2619, rfl, by2615, by2616, by2617, zp2620⟩ := r2614
                  obtain ⟨-, rbzp2620, -, rdzp2620, -, -⟩ := id zp2620
                  have nzp2620 := gn_f (T := T) (g := (pLn1 c T (pSg a1.toInt T g)))
                  have al2621 : pLn c T (pSg a1.toInt T g) = (pGn T (pLn1 c T (pSg a1.toInt T g))) := by unfold pLn; exact tk_f (by omega)
                  have zp2622 := zp2620
                  rw [← al2621] at zp2622
                  rw [← al2621] at nzp2620
                  obtain ⟨-, rbzp2622, -, rdzp2622, -, -⟩ := id zp2622
                  refine g_aload_n rfl ?_
                  refine g_dup rfl ?_
                  refine g_gfi (mS_I hI (by omega) (by omega) (by omega)) sm_0 rfl (fun v2623 ev2623 lv2623 uv2623 => ?_)
                  have iv2623 : v2623.toInt = (fZ H 0 19).toInt := by rw [ev2623, ← mS_o (by decide)]
                  have l19v2623 : (fZ H 0 19).toInt = (fZ H 0 19).toInt := rfl
                  refine g_iconst (by decide) (fun v2624 kv2624 => ?_)
                  refine g_iadd (by omega) (fun v2625 ev2625 => ?_)
                  refine g_pfi (mS_I hI (by omega) (by omega) (by omega)) sm_0 rfl (gz_any _) (fun H2626 eH2626 hIH2626 => ?_)
                  obtain ⟨B2627, eB2627⟩ : ∃ z, z = sF H 0 19 v2625 := ⟨_, rfl⟩
                  obtain rfl : H2626 = (mS B2627 y2615 y2616 y2617 y2618 y2619 y2607 y2608) := by rw [eH2626, eB2627]; exact mS_cF (by decide)
                  have hIB2627 : gI SM B2627 := by rw [eB2627]; exact gI_sF hI sm_0 rfl (gz_any _)
                  have hJB2627 : JN B2627 := JN_sF eB2627 hJ
                  have frB2627 : frL H B2627 := frL_mk (frM_r) eB2627
                  have tkB2627 : tkM B2627 b n T := tkM_19 hp0 eB2627
                  exact g_ret ⟨rfl, B2627, y2615, y2616, y2617, y2618, y2619, y2607, y2608, rfl, hIB2627, hJB2627, (by omega), (by omega), (by omega), zp2622, tkB2627, (Or.inl (by have o := pT_ok (T := T) (lo := 20) (hi := 20) (g := pLn1 c T (pSg a1.toInt T g)); unfold pLn; omega)), frB2627, (by rw [eB2627, fZ_sF_eq hI sm_0 rfl]; omega)⟩
                · refine g_aload_n rfl ?_
                  refine g_gfk (mS_I hI (by omega) (by omega) (by omega)) sm_0 rfl (mS_g10 hI) ?_
                  refine g_iconst (by decide) (fun v2628 kv2628 => ?_)
                  refine g_if2_eq (fun c2629 => ?_) (fun c2629 => ?_)
                  · exfalso; omega
                  · refine g_aload_n rfl ?_
                    refine g_iconst (by decide) (fun v2630 kv2630 => ?_)
                    refine g_invvv (mS_I hI (by omega) (by omega) (by omega)) sm_0 rfl rfl rfl rfl (f_161 v2630 (by omega) H hI hJ x0 x1 x2 x3 x4 y2607 y2608 (by omega) (by omega) (by omega) hp0 zp2611) (fun H2631 r2632 => ?_)
                    obtain ⟨y2633, y2634, rfl, zp2635⟩ := r2632
                    rw [kv2630] at zp2635
                    obtain ⟨-, rbzp2635, -, rdzp2635, -, -⟩ := id zp2635
                    have nzp2635 := pF_ne (T := T) (g := (pLn1 c T (pSg a1.toInt T g))) (n := 1) (by omega)
                    refine g_nop ?_
                    refine g_aload_n rfl ?_
                    refine g_invvv (mS_I hI (by omega) (by omega) (by omega)) sm_0 rfl rfl rfl rfl (f_162 H hI hJ x0 x1 x2 x3 x4 y2633 y2634 (by omega) (by omega) (by omega) hp0 zp2635) (fun H2636 r2637 => ?_)
                    obtain ⟨y2638, y2639, y2640, y2641, y2642, rfl, by2638, by2639, by2640, zp2643⟩ := r2637
                    obtain ⟨-, rbzp2643, -, rdzp2643, -, -⟩ := id zp2643
                    have nzp2643 := gn_f (T := T) (g := (pFail T 1 (pLn1 c T (pSg a1.toInt T g))))
                    have al2644 : pLn c T (pSg a1.toInt T g) = (pGn T (pFail T 1 (pLn1 c T (pSg a1.toInt T g)))) := by unfold pLn; exact tk_n (by omega)
                    have zp2645 := zp2643
                    rw [← al2644] at zp2645
                    rw [← al2644] at nzp2643
                    obtain ⟨-, rbzp2645, -, rdzp2645, -, -⟩ := id zp2645
                    refine g_aload_n rfl ?_
                    refine g_dup rfl ?_
                    refine g_gfi (mS_I hI (by omega) (by omega) (by omega)) sm_0 rfl (fun v2646 ev2646 lv2646 uv2646 => ?_)
                    have iv2646 : v2646.toInt = (fZ H 0 19).toInt := by rw [ev2646, ← mS_o (by decide)]
                    have l19v2646 : (fZ H 0 19).toInt = (fZ H 0 19).toInt := rfl
                    refine g_iconst (by decide) (fun v2647 kv2647 => ?_)
                    refine g_iadd (by omega) (fun v2648 ev2648 => ?_)
                    refine g_pfi (mS_I hI (by omega) (by omega) (by omega)) sm_0 rfl (gz_any _) (fun H2649 eH2649 hIH2649 => ?_)
                    obtain ⟨B2650, eB2650⟩ : ∃ z, z = sF H 0 19 v2648 := ⟨_, rfl⟩
                    obtain rfl : H2649 = (mS B2650 y2638 y2639 y2640 y2641 y2642 y2633 y2634) := by rw [eH2649, eB2650]; exact mS_cF (by decide)
                    have hIB2650 : gI SM B2650 := by rw [eB2650]; exact gI_sF hI sm_0 rfl (gz_any _)
                    have hJB2650 : JN B2650 := JN_sF eB2650 hJ
                    have frB2650 : frL H B2650 := frL_mk (frM_r) eB2650
                    have tkB2650 : tkM B2650 b n T := tkM_19 hp0 eB2650
                    exact g_ret ⟨rfl, B2650, y2638, y2639, y2640, y2641, y2642, y2633, y2634, rfl, hIB2650, hJB2650, (by omega), (by omega), (by omega), zp2645, tkB2650, (Or.inl (by have o := pT_ok (T := T) (lo := 20) (hi := 20) (g := pLn1 c T (pSg a1.toInt T g)); unfold pLn; omega)), frB2650, (by rw [eB2650, fZ_sF_eq hI sm_0 rfl]; omega)⟩
              · exfalso; omega
            · exfalso; omega
          · refine g_aload_n rfl ?_
            refine g_invvv (mS_I hI (by omega) (by omega) (by omega)) sm_0 rfl rfl rfl rfl (f_166 H hI hJ x0 x1 x2 x3 x4 x5 x6 (by omega) (by omega) (by omega) hp0 hp1 hp2 (by omega)) (fun H2651 r2652 => ?_)
            obtain ⟨B2664, y2653, y2654, y2655, y2656, y2657, y2658, y2659, rfl, hIB2664, hJB2664, by2653, by2654, by2655, zp2660, zp2661, zp2662, zp2663⟩ := r2652
            obtain ⟨-, rbzp2660, -, rdzp2660, -, -⟩ := id zp2660
            have al2665 : pLn1 c T (pSg a1.toInt T g) = (pRdP c T g) := by rw [sg_id (by omega), l1_0 (by omega)]
            have zp2666 := zp2660
            rw [← al2665] at zp2666
            obtain ⟨-, rbzp2666, -, rdzp2666, -, -⟩ := id zp2666
            have kszp2666 := kr_s rbzp2666
            refine g_goto ?_
            refine g_aload_n rfl ?_
            refine g_gfk (mS_I hIB2664 (by omega) (by omega) (by omega)) sm_0 rfl (mS_g13 hIB2664) ?_
            refine g_if_ne (fun c2667 => ?_) (fun c2667 => ?_)
            · refine g_aload_n rfl ?_
              refine g_invvv (mS_I hIB2664 (by omega) (by omega) (by omega)) sm_0 rfl rfl rfl rfl (f_162 B2664 hIB2664 hJB2664 y2653 y2654 y2655 y2656 y2657 y2658 y2659 (by omega) (by omega) (by omega) zp2661 zp2666) (fun H2668 r2669 => ?_)
              obtain ⟨y2670, y2671, y2672, y2673, y2674, rfl, by2670, by2671, by2672, zp2675⟩ := r2669
              obtain ⟨-, rbzp2675, -, rdzp2675, -, -⟩ := id zp2675
              have nzp2675 := gn_f (T := T) (g := (pLn1 c T (pSg a1.toInt T g)))
              have al2676 : pLn c T (pSg a1.toInt T g) = (pGn T (pLn1 c T (pSg a1.toInt T g))) := by unfold pLn; exact tk_f (by omega)
              have zp2677 := zp2675
              rw [← al2676] at zp2677
              rw [← al2676] at nzp2675
              obtain ⟨-, rbzp2677, -, rdzp2677, -, -⟩ := id zp2677
              refine g_aload_n rfl ?_
              refine g_dup rfl ?_
              refine g_gfi (mS_I hIB2664 (by omega) (by omega) (by omega)) sm_0 rfl (fun v2678 ev2678 lv2678 uv2678 => ?_)
              have iv2678 : v2678.toInt = (fZ B2664 0 19).toInt := by rw [ev2678, ← mS_o (by decide)]
              have l19v2678 : (fZ B2664 0 19).toInt = (fZ H 0 19).toInt := by rw [zp2663.2 19 (by decide)]
              refine g_iconst (by decide) (fun v2679 kv2679 => ?_)
              refine g_iadd (by omega) (fun v2680 ev2680 => ?_)
              refine g_pfi (mS_I hIB2664 (by omega) (by omega) (by omega)) sm_0 rfl (gz_any _) (fun H2681 eH2681 hIH2681 => ?_)
              obtain ⟨B2682, eB2682⟩ : ∃ z, z = sF B2664 0 19 v2680 := ⟨_, rfl⟩
              obtain rfl : H2681 = (mS B2682 y2670 y2671 y2672 y2673 y2674 y2658 y2659) := by rw [eH2681, eB2682]; exact mS_cF (by decide)
              have hIB2682 : gI SM B2682 := by rw [eB2682]; exact gI_sF hIB2664 sm_0 rfl (gz_any _)
              have hJB2682 : JN B2682 := JN_sF eB2682 hJB2664
              have frB2682 : frL H B2682 := frL_mk zp2663 eB2682
              have tkB2682 : tkM B2682 b n T := tkM_19 zp2661 eB2682
              exact g_ret ⟨rfl, B2682, y2670, y2671, y2672, y2673, y2674, y2658, y2659, rfl, hIB2682, hJB2682, (by omega), (by omega), (by omega), zp2677, tkB2682, (bkl zp2662 eB2682 (by rw [sg_id (by omega), l1_0 (by omega)]) (by rw [sg_id (by omega), b1_0 (by omega)])), frB2682, (by rw [eB2682, fZ_sF_eq hIB2664 sm_0 rfl]; omega)⟩
            · refine g_aload_n rfl ?_
              refine g_gfk (mS_I hIB2664 (by omega) (by omega) (by omega)) sm_0 rfl (mS_g10 hIB2664) ?_
              refine g_iconst (by decide) (fun v2683 kv2683 => ?_)
              refine g_if2_eq (fun c2684 => ?_) (fun c2684 => ?_)
              · refine g_aload_n rfl ?_
                refine g_invvv (mS_I hIB2664 (by omega) (by omega) (by omega)) sm_0 rfl rfl rfl rfl (f_162 B2664 hIB2664 hJB2664 y2653 y2654 y2655 y2656 y2657 y2658 y2659 (by omega) (by omega) (by omega) zp2661 zp2666) (fun H2685 r2686 => ?_)
                obtain ⟨y2687, y2688, y2689, y2690, y2691, rfl, by2687, by2688, by2689, zp2692⟩ := r2686
                obtain ⟨-, rbzp2692, -, rdzp2692, -, -⟩ := id zp2692
                have nzp2692 := gn_f (T := T) (g := (pLn1 c T (pSg a1.toInt T g)))
                have al2693 : pLn c T (pSg a1.toInt T g) = (pGn T (pLn1 c T (pSg a1.toInt T g))) := by unfold pLn; exact tk_y (by omega)
                have zp2694 := zp2692
                rw [← al2693] at zp2694
                rw [← al2693] at nzp2692
                obtain ⟨-, rbzp2694, -, rdzp2694, -, -⟩ := id zp2694
                refine g_aload_n rfl ?_
                refine g_dup rfl ?_
                refine g_gfi (mS_I hIB2664 (by omega) (by omega) (by omega)) sm_0 rfl (fun v2695 ev2695 lv2695 uv2695 => ?_)
                have iv2695 : v2695.toInt = (fZ B2664 0 19).toInt := by rw [ev2695, ← mS_o (by decide)]
                have l19v2695 : (fZ B2664 0 19).toInt = (fZ H 0 19).toInt := by rw [zp2663.2 19 (by decide)]
                refine g_iconst (by decide) (fun v2696 kv2696 => ?_)
                refine g_iadd (by omega) (fun v2697 ev2697 => ?_)
                refine g_pfi (mS_I hIB2664 (by omega) (by omega) (by omega)) sm_0 rfl (gz_any _) (fun H2698 eH2698 hIH2698 => ?_)
                obtain ⟨B2699, eB2699⟩ : ∃ z, z = sF B2664 0 19 v2697 := ⟨_, rfl⟩
                obtain rfl : H2698 = (mS B2699 y2687 y2688 y2689 y2690 y2691 y2658 y2659) := by rw [eH2698, eB2699]; exact mS_cF (by decide)
                have hIB2699 : gI SM B2699 := by rw [eB2699]; exact gI_sF hIB2664 sm_0 rfl (gz_any _)
                have hJB2699 : JN B2699 := JN_sF eB2699 hJB2664
                have frB2699 : frL H B2699 := frL_mk zp2663 eB2699
                have tkB2699 : tkM B2699 b n T := tkM_19 zp2661 eB2699
                exact g_ret ⟨rfl, B2699, y2687, y2688, y2689, y2690, y2691, y2658, y2659, rfl, hIB2699, hJB2699, (by omega), (by omega), (by omega), zp2694, tkB2699, (bkl zp2662 eB2699 (by rw [sg_id (by omega), l1_0 (by omega)]) (by rw [sg_id (by omega), b1_0 (by omega)])), frB2699, (by rw [eB2699, fZ_sF_eq hIB2664 sm_0 rfl]; omega)⟩
              · refine g_aload_n rfl ?_
                refine g_iconst (by decide) (fun v2700 kv2700 => ?_)
                refine g_invvv (mS_I hIB2664 (by omega) (by omega) (by omega)) sm_0 rfl rfl rfl rfl (f_161 v2700 (by omega) B2664 hIB2664 hJB2664 y2653 y2654 y2655 y2656 y2657 y2658 y2659 (by omega) (by omega) (by omega) zp2661 zp2666) (fun H2701 r2702 => ?_)
                obtain ⟨y2703, y2704, rfl, zp2705⟩ := r2702
                rw [kv2700] at zp2705
                obtain ⟨-, rbzp2705, -, rdzp2705, -, -⟩ := id zp2705
                have nzp2705 := pF_ne (T := T) (g := (pLn1 c T (pSg a1.toInt T g))) (n := 1) (by omega)
                refine g_nop ?_
                refine g_aload_n rfl ?_
                refine g_invvv (mS_I hIB2664 (by omega) (by omega) (by omega)) sm_0 rfl rfl rfl rfl (f_162 B2664 hIB2664 hJB2664 y2653 y2654 y2655 y2656 y2657 y2703 y2704 (by omega) (by omega) (by omega) zp2661 zp2705) (fun H2706 r2707 => ?_)
                obtain ⟨y2708, y2709, y2710, y2711, y2712, rfl, by2708, by2709, by2710, zp2713⟩ := r2707
                obtain ⟨-, rbzp2713, -, rdzp2713, -, -⟩ := id zp2713
                have nzp2713 := gn_f (T := T) (g := (pFail T 1 (pLn1 c T (pSg a1.toInt T g))))
                have al2714 : pLn c T (pSg a1.toInt T g) = (pGn T (pFail T 1 (pLn1 c T (pSg a1.toInt T g)))) := by unfold pLn; exact tk_n (by omega)
                have zp2715 := zp2713
                rw [← al2714] at zp2715
                rw [← al2714] at nzp2713
                obtain ⟨-, rbzp2715, -, rdzp2715, -, -⟩ := id zp2715
                refine g_aload_n rfl ?_
                refine g_dup rfl ?_
                refine g_gfi (mS_I hIB2664 (by omega) (by omega) (by omega)) sm_0 rfl (fun v2716 ev2716 lv2716 uv2716 => ?_)
                have iv2716 : v2716.toInt = (fZ B2664 0 19).toInt := by rw [ev2716, ← mS_o (by decide)]
                have l19v2716 : (fZ B2664 0 19).toInt = (fZ H 0 19).toInt := by rw [zp2663.2 19 (by decide)]
                refine g_iconst (by decide) (fun v2717 kv2717 => ?_)
                refine g_iadd (by omega) (fun v2718 ev2718 => ?_)
                refine g_pfi (mS_I hIB2664 (by omega) (by omega) (by omega)) sm_0 rfl (gz_any _) (fun H2719 eH2719 hIH2719 => ?_)
                obtain ⟨B2720, eB2720⟩ : ∃ z, z = sF B2664 0 19 v2718 := ⟨_, rfl⟩
                obtain rfl : H2719 = (mS B2720 y2708 y2709 y2710 y2711 y2712 y2703 y2704) := by rw [eH2719, eB2720]; exact mS_cF (by decide)
                have hIB2720 : gI SM B2720 := by rw [eB2720]; exact gI_sF hIB2664 sm_0 rfl (gz_any _)
                have hJB2720 : JN B2720 := JN_sF eB2720 hJB2664
                have frB2720 : frL H B2720 := frL_mk zp2663 eB2720
                have tkB2720 : tkM B2720 b n T := tkM_19 zp2661 eB2720
                exact g_ret ⟨rfl, B2720, y2708, y2709, y2710, y2711, y2712, y2703, y2704, rfl, hIB2720, hJB2720, (by omega), (by omega), (by omega), zp2715, tkB2720, (bkl zp2662 eB2720 (by rw [sg_id (by omega), l1_0 (by omega)]) (by rw [sg_id (by omega), b1_0 (by omega)])), frB2720, (by rw [eB2720, fZ_sF_eq hIB2664 sm_0 rfl]; omega)⟩
      · refine g_aload_n rfl ?_
        refine g_invvv (mS_I hI (by omega) (by omega) (by omega)) sm_0 rfl rfl rfl rfl (f_170 H hI hJ x0 x1 x2 x3 x4 x5 x6 (by omega) (by omega) (by omega) hp0 hp1 hp2 (by omega)) (fun H2721 r2722 => ?_)
        obtain ⟨B2734, y2723, y2724, y2725, y2726, y2727, y2728, y2729, rfl, hIB2734, hJB2734, by2723, by2724, by2725, zp2730, zp2731, zp2732, zp2733⟩ := r2722
        obtain ⟨-, rbzp2730, -, rdzp2730, -, -⟩ := id zp2730
        have al2735 : pLn1 c T (pSg a1.toInt T g) = (pM6 c T g) := by rw [sg_id (by omega), l1_3 (by omega)]
        have zp2736 := zp2730
        rw [← al2735] at zp2736
        obtain ⟨-, rbzp2736, -, rdzp2736, -, -⟩ := id zp2736
        have kszp2736 := kr_s rbzp2736
        refine g_goto ?_
        refine g_aload_n rfl ?_
        refine g_gfk (mS_I hIB2734 (by omega) (by omega) (by omega)) sm_0 rfl (mS_g13 hIB2734) ?_
        refine g_if_ne (fun c2737 => ?_) (fun c2737 => ?_)
        · refine g_aload_n rfl ?_
          refine g_invvv (mS_I hIB2734 (by omega) (by omega) (by omega)) sm_0 rfl rfl rfl rfl (f_162 B2734 hIB2734 hJB2734 y2723 y2724 y2725 y2726 y2727 y2728 y2729 (by omega) (by omega) (by omega) zp2731 zp2736) (fun H2738 r2739 => ?_)
          obtain ⟨y2740, y2741, y2742, y2743, y2744, rfl, by2740, by2741, by2742, zp2745⟩ := r2739
          obtain ⟨-, rbzp2745, -, rdzp2745, -, -⟩ := id zp2745
          have nzp2745 := gn_f (T := T) (g := (pLn1 c T (pSg a1.toInt T g)))
          have al2746 : pLn c T (pSg a1.toInt T g) = (pGn T (pLn1 c T (pSg a1.toInt T g))) := by unfold pLn; exact tk_f (by omega)
          have zp2747 := zp2745
          rw [← al2746] at zp2747
          rw [← al2746] at nzp2745
          obtain ⟨-, rbzp2747, -, rdzp2747, -, -⟩ := id zp2747
          refine g_aload_n rfl ?_
          refine g_dup rfl ?_
          refine g_gfi (mS_I hIB2734 (by omega) (by omega) (by omega)) sm_0 rfl (fun v2748 ev2748 lv2748 uv2748 => ?_)
          have iv2748 : v2748.toInt = (fZ B2734 0 19).toInt := by rw [ev2748, ← mS_o (by decide)]
          have l19v2748 : (fZ B2734 0 19).toInt = (fZ H 0 19).toInt := by rw [zp2733.2 19 (by decide)]
          refine g_iconst (by decide) (fun v2749 kv2749 => ?_)
          refine g_iadd (by omega) (fun v2750 ev2750 => ?_)
          refine g_pfi (mS_I hIB2734 (by omega) (by omega) (by omega)) sm_0 rfl (gz_any _) (fun H2751 eH2751 hIH2751 => ?_)
          obtain ⟨B2752, eB2752⟩ : ∃ z, z = sF B2734 0 19 v2750 := ⟨_, rfl⟩
          obtain rfl : H2751 = (mS B2752 y2740 y2741 y2742 y2743 y2744 y2728 y2729) := by rw [eH2751, eB2752]; exact mS_cF (by decide)
          have hIB2752 : gI SM B2752 := by rw [eB2752]; exact gI_sF hIB2734 sm_0 rfl (gz_any _)
          have hJB2752 : JN B2752 := JN_sF eB2752 hJB2734
          have frB2752 : frL H B2752 := frL_mk zp2733 eB2752
          have tkB2752 : tkM B2752 b n T := tkM_19 zp2731 eB2752
          exact g_ret ⟨rfl, B2752, y2740, y2741, y2742, y2743, y2744, y2728, y2729, rfl, hIB2752, hJB2752, (by omega), (by omega), (by omega), zp2747, tkB2752, (bkl zp2732 eB2752 (by rw [sg_id (by omega), l1_3 (by omega)]) (by rw [sg_id (by omega), b1_3 (by omega)])), frB2752, (by rw [eB2752, fZ_sF_eq hIB2734 sm_0 rfl]; omega)⟩
        · refine g_aload_n rfl ?_
          refine g_gfk (mS_I hIB2734 (by omega) (by omega) (by omega)) sm_0 rfl (mS_g10 hIB2734) ?_
          refine g_iconst (by decide) (fun v2753 kv2753 => ?_)
          refine g_if2_eq (fun c2754 => ?_) (fun c2754 => ?_)
          · refine g_aload_n rfl ?_
            refine g_invvv (mS_I hIB2734 (by omega) (by omega) (by omega)) sm_0 rfl rfl rfl rfl (f_162 B2734 hIB2734 hJB2734 y2723 y2724 y2725 y2726 y2727 y2728 y2729 (by omega) (by omega) (by omega) zp2731 zp2736) (fun H2755 r2756 => ?_)
            obtain ⟨y2757, y2758, y2759, y2760, y2761, rfl, by2757, by2758, by2759, zp2762⟩ := r2756
            obtain ⟨-, rbzp2762, -, rdzp2762, -, -⟩ := id zp2762
            have nzp2762 := gn_f (T := T) (g := (pLn1 c T (pSg a1.toInt T g)))
            have al2763 : pLn c T (pSg a1.toInt T g) = (pGn T (pLn1 c T (pSg a1.toInt T g))) := by unfold pLn; exact tk_y (by omega)
            have zp2764 := zp2762
            rw [← al2763] at zp2764
            rw [← al2763] at nzp2762
            obtain ⟨-, rbzp2764, -, rdzp2764, -, -⟩ := id zp2764
            refine g_aload_n rfl ?_
            refine g_dup rfl ?_
            refine g_gfi (mS_I hIB2734 (by omega) (by omega) (by omega)) sm_0 rfl (fun v2765 ev2765 lv2765 uv2765 => ?_)
            have iv2765 : v2765.toInt = (fZ B2734 0 19).toInt := by rw [ev2765, ← mS_o (by decide)]
            have l19v2765 : (fZ B2734 0 19).toInt = (fZ H 0 19).toInt := by rw [zp2733.2 19 (by decide)]
            refine g_iconst (by decide) (fun v2766 kv2766 => ?_)
            refine g_iadd (by omega) (fun v2767 ev2767 => ?_)
            refine g_pfi (mS_I hIB2734 (by omega) (by omega) (by omega)) sm_0 rfl (gz_any _) (fun H2768 eH2768 hIH2768 => ?_)
            obtain ⟨B2769, eB2769⟩ : ∃ z, z = sF B2734 0 19 v2767 := ⟨_, rfl⟩
            obtain rfl : H2768 = (mS B2769 y2757 y2758 y2759 y2760 y2761 y2728 y2729) := by rw [eH2768, eB2769]; exact mS_cF (by decide)
            have hIB2769 : gI SM B2769 := by rw [eB2769]; exact gI_sF hIB2734 sm_0 rfl (gz_any _)
            have hJB2769 : JN B2769 := JN_sF eB2769 hJB2734
            have frB2769 : frL H B2769 := frL_mk zp2733 eB2769
            have tkB2769 : tkM B2769 b n T := tkM_19 zp2731 eB2769
            exact g_ret ⟨rfl, B2769, y2757, y2758, y2759, y2760, y2761, y2728, y2729, rfl, hIB2769, hJB2769, (by omega), (by omega), (by omega), zp2764, tkB2769, (bkl zp2732 eB2769 (by rw [sg_id (by omega), l1_3 (by omega)]) (by rw [sg_id (by omega), b1_3 (by omega)])), frB2769, (by rw [eB2769, fZ_sF_eq hIB2734 sm_0 rfl]; omega)⟩
          · refine g_aload_n rfl ?_
            refine g_iconst (by decide) (fun v2770 kv2770 => ?_)
            refine g_invvv (mS_I hIB2734 (by omega) (by omega) (by omega)) sm_0 rfl rfl rfl rfl (f_161 v2770 (by omega) B2734 hIB2734 hJB2734 y2723 y2724 y2725 y2726 y2727 y2728 y2729 (by omega) (by omega) (by omega) zp2731 zp2736) (fun H2771 r2772 => ?_)
            obtain ⟨y2773, y2774, rfl, zp2775⟩ := r2772
            rw [kv2770] at zp2775
            obtain ⟨-, rbzp2775, -, rdzp2775, -, -⟩ := id zp2775
            have nzp2775 := pF_ne (T := T) (g := (pLn1 c T (pSg a1.toInt T g))) (n := 1) (by omega)
            refine g_nop ?_
            refine g_aload_n rfl ?_
            refine g_invvv (mS_I hIB2734 (by omega) (by omega) (by omega)) sm_0 rfl rfl rfl rfl (f_162 B2734 hIB2734 hJB2734 y2723 y2724 y2725 y2726 y2727 y2773 y2774 (by omega) (by omega) (by omega) zp2731 zp2775) (fun H2776 r2777 => ?_)
            obtain ⟨y2778, y2779, y2780, y2781, y2782, rfl, by2778, by2779, by2780, zp2783⟩ := r2777
            obtain ⟨-, rbzp2783, -, rdzp2783, -, -⟩ := id zp2783
            have nzp2783 := gn_f (T := T) (g := (pFail T 1 (pLn1 c T (pSg a1.toInt T g))))
            have al2784 : pLn c T (pSg a1.toInt T g) = (pGn T (pFail T 1 (pLn1 c T (pSg a1.toInt T g)))) := by unfold pLn; exact tk_n (by omega)
            have zp2785 := zp2783
            rw [← al2784] at zp2785
            rw [← al2784] at nzp2783
            obtain ⟨-, rbzp2785, -, rdzp2785, -, -⟩ := id zp2785
            refine g_aload_n rfl ?_
            refine g_dup rfl ?_
            refine g_gfi (mS_I hIB2734 (by omega) (by omega) (by omega)) sm_0 rfl (fun v2786 ev2786 lv2786 uv2786 => ?_)
            have iv2786 : v2786.toInt = (fZ B2734 0 19).toInt := by rw [ev2786, ← mS_o (by decide)]
            have l19v2786 : (fZ B2734 0 19).toInt = (fZ H 0 19).toInt := by rw [zp2733.2 19 (by decide)]
            refine g_iconst (by decide) (fun v2787 kv2787 => ?_)
            refine g_iadd (by omega) (fun v2788 ev2788 => ?_)
            refine g_pfi (mS_I hIB2734 (by omega) (by omega) (by omega)) sm_0 rfl (gz_any _) (fun H2789 eH2789 hIH2789 => ?_)
            obtain ⟨B2790, eB2790⟩ : ∃ z, z = sF B2734 0 19 v2788 := ⟨_, rfl⟩
            obtain rfl : H2789 = (mS B2790 y2778 y2779 y2780 y2781 y2782 y2773 y2774) := by rw [eH2789, eB2790]; exact mS_cF (by decide)
            have hIB2790 : gI SM B2790 := by rw [eB2790]; exact gI_sF hIB2734 sm_0 rfl (gz_any _)
            have hJB2790 : JN B2790 := JN_sF eB2790 hJB2734
            have frB2790 : frL H B2790 := frL_mk zp2733 eB2790
            have tkB2790 : tkM B2790 b n T := tkM_19 zp2731 eB2790
            exact g_ret ⟨rfl, B2790, y2778, y2779, y2780, y2781, y2782, y2773, y2774, rfl, hIB2790, hJB2790, (by omega), (by omega), (by omega), zp2785, tkB2790, (bkl zp2732 eB2790 (by rw [sg_id (by omega), l1_3 (by omega)]) (by rw [sg_id (by omega), b1_3 (by omega)])), frB2790, (by rw [eB2790, fZ_sF_eq hIB2734 sm_0 rfl]; omega)⟩
