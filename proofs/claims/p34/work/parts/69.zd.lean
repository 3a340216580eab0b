set_option maxRecDepth 4000 in
set_option maxHeartbeats 4000000 in
/-- X1.clear -/
theorem k_9 (H : mzH) (hI : gI SX H) (hJ : JX H) : gCall 9 [.ref 11] H (gRv (fun H' => gI SX H' ∧ JX H' ∧ fZ H' 1 1 = fZ H 1 1 ∧ kpN 11 18 H H' ∧ (fZ H' 11 7).toInt = 0 ∧ (fZ H' 11 8).toInt = 0 ∧ (fZ H' 11 9).toInt = 0 ∧ (fZ H' 11 10).toInt = 10 ∧ (fZ H' 11 11).toInt = 10 ∧ (fZ H' 11 12).toInt = 0 ∧ (∀ k, k < 64 → wX H' k = -2))) := by
  obtain ⟨k1_1, ek1_1⟩ : ∃ z, z = fZ H 1 1 := ⟨_, rfl⟩
  have ik1_1 : k1_1.toInt = (fZ H 1 1).toInt := by rw [← ek1_1]
  have bk1_1 : 0 ≤ k1_1.toInt ∧ k1_1.toInt ≤ 900 := by rw [ek1_1]; exact fZ_of hI sx_1 rfl
  have mkfr : kpN 11 18 H H := kpN_r
  refine gG_call [(0, .ref 11)] ⟨rfl, trivial⟩ ?_
  show gG 1 zB_9 (mzBlk zB_9 0) [(0, .ref 11)] [] H 0 0 _
  refine g_aload_n rfl ?_
  refine g_iconst (by decide) (fun v229 kv229 => ?_)
  refine g_pfi hI sx_11 rfl (by omega) (fun H230 eH230 hIH230 => ?_)
  have hJH230 : JX H230 := JX_sF eH230 hJ
  have e231 : k1_1 = fZ H230 1 1 := by rw [eH230, fZ_sF_nc (by omega)]; exact ek1_1
  have e232 : v229 = fZ H230 11 7 := by rw [eH230, fZ_sF_eq hI sx_11 rfl]
  have m233 : kpN 11 18 H H230 := kpN_F mkfr eH230 (by omega)
  refine g_aload_n rfl ?_
  refine g_iconst (by decide) (fun v234 kv234 => ?_)
  refine g_pfi hIH230 sx_11 rfl (gz_any _) (fun H235 eH235 hIH235 => ?_)
  have hJH235 : JX H235 := JX_sF eH235 hJH230
  have e236 : k1_1 = fZ H235 1 1 := by rw [eH235, fZ_sF_nc (by omega)]; exact e231
  have e237 : v229 = fZ H235 11 7 := by rw [eH235, fZ_sF_ne (by decide)]; exact e232
  have e238 : v234 = fZ H235 11 8 := by rw [eH235, fZ_sF_eq hIH230 sx_11 rfl]
  have m239 : kpN 11 18 H H235 := kpN_F m233 eH235 (by omega)
  refine g_aload_n rfl ?_
  refine g_iconst (by decide) (fun v240 kv240 => ?_)
  refine g_pfi hIH235 sx_11 rfl (by omega) (fun H241 eH241 hIH241 => ?_)
  have hJH241 : JX H241 := JX_sF eH241 hJH235
  have e242 : k1_1 = fZ H241 1 1 := by rw [eH241, fZ_sF_nc (by omega)]; exact e236
  have e243 : v229 = fZ H241 11 7 := by rw [eH241, fZ_sF_ne (by decide)]; exact e237
  have e244 : v234 = fZ H241 11 8 := by rw [eH241, fZ_sF_ne (by decide)]; exact e238
  have e245 : v240 = fZ H241 11 9 := by rw [eH241, fZ_sF_eq hIH235 sx_11 rfl]
  have m246 : kpN 11 18 H H241 := kpN_F m239 eH241 (by omega)
  refine g_aload_n rfl ?_
  refine g_bipush (by decide) (fun v247 kv247 => ?_)
  refine g_pfi hIH241 sx_11 rfl (gz_any _) (fun H248 eH248 hIH248 => ?_)
  have hJH248 : JX H248 := JX_sF eH248 hJH241
  have e249 : k1_1 = fZ H248 1 1 := by rw [eH248, fZ_sF_nc (by omega)]; exact e242
  have e250 : v229 = fZ H248 11 7 := by rw [eH248, fZ_sF_ne (by decide)]; exact e243
  have e251 : v234 = fZ H248 11 8 := by rw [eH248, fZ_sF_ne (by decide)]; exact e244
  have e252 : v240 = fZ H248 11 9 := by rw [eH248, fZ_sF_ne (by decide)]; exact e245
  have e253 : v247 = fZ H248 11 10 := by rw [eH248, fZ_sF_eq hIH241 sx_11 rfl]
  have m254 : kpN 11 18 H H248 := kpN_F m246 eH248 (by omega)
  refine g_aload_n rfl ?_
  refine g_bipush (by decide) (fun v255 kv255 => ?_)
  refine g_pfi hIH248 sx_11 rfl (gz_any _) (fun H256 eH256 hIH256 => ?_)
  have hJH256 : JX H256 := JX_sF eH256 hJH248
  have e257 : k1_1 = fZ H256 1 1 := by rw [eH256, fZ_sF_nc (by omega)]; exact e249
  have e258 : v229 = fZ H256 11 7 := by rw [eH256, fZ_sF_ne (by decide)]; exact e250
  have e259 : v234 = fZ H256 11 8 := by rw [eH256, fZ_sF_ne (by decide)]; exact e251
  have e260 : v240 = fZ H256 11 9 := by rw [eH256, fZ_sF_ne (by decide)]; exact e252
  have e261 : v247 = fZ H256 11 10 := by rw [eH256, fZ_sF_ne (by decide)]; exact e253
  have e262 : v255 = fZ H256 11 11 := by rw [eH256, fZ_sF_eq hIH248 sx_11 rfl]
  have m263 : kpN 11 18 H H256 := kpN_F m254 eH256 (by omega)
  refine g_aload_n rfl ?_
  refine g_iconst (by decide) (fun v264 kv264 => ?_)
  refine g_pfz hIH256 sx_11 rfl (by omega) (fun H265 eH265 hIH265 => ?_)
  have hJH265 : JX H265 := JX_sF eH265 hJH256
  have e266 : k1_1 = fZ H265 1 1 := by rw [eH265, fZ_sF_nc (by omega)]; exact e257
  have e267 : v229 = fZ H265 11 7 := by rw [eH265, fZ_sF_ne (by decide)]; exact e258
  have e268 : v234 = fZ H265 11 8 := by rw [eH265, fZ_sF_ne (by decide)]; exact e259
  have e269 : v240 = fZ H265 11 9 := by rw [eH265, fZ_sF_ne (by decide)]; exact e260
  have e270 : v247 = fZ H265 11 10 := by rw [eH265, fZ_sF_ne (by decide)]; exact e261
  have e271 : v255 = fZ H265 11 11 := by rw [eH265, fZ_sF_ne (by decide)]; exact e262
  have e272 : v264 = fZ H265 11 12 := by rw [eH265, fZ_sF_eq hIH256 sx_11 rfl]
  have m273 : kpN 11 18 H H265 := kpN_F m263 eH265 (by omega)
  refine g_aload_n rfl ?_
  refine g_gfr hIH265 sx_11 rfl ?_
  refine g_bipush (by decide) (fun v274 kv274 => ?_)
  refine g_invtv rfl rfl rfl (s_fill 13 sx_13 (by decide) v274 (by omega) H265 hIH265) (fun H275 r276 => ?_)
  obtain ⟨hIH275, fH275, mH275, gH275⟩ := r276
  have hJH275 : JX H275 := JX_of hJH265 (fun k => ⟨mH275 (by omega), mH275 (by omega), mH275 (by omega), mH275 (by omega)⟩)
  have e278 : k1_1 = fZ H275 1 1 := e266.trans (fH275 _ _).symm
  have e279 : v229 = fZ H275 11 7 := e267.trans (fH275 _ _).symm
  have e280 : v234 = fZ H275 11 8 := e268.trans (fH275 _ _).symm
  have e281 : v240 = fZ H275 11 9 := e269.trans (fH275 _ _).symm
  have e282 : v247 = fZ H275 11 10 := e270.trans (fH275 _ _).symm
  have e283 : v255 = fZ H275 11 11 := e271.trans (fH275 _ _).symm
  have e284 : v264 = fZ H275 11 12 := e272.trans (fH275 _ _).symm
  have m285 : kpN 11 18 H H275 := kpN_t m273 (fun _ _ => ⟨fH275 _, fun _ => mH275 (by omega)⟩)
  exact g_ret ⟨rfl, hIH275, hJH275, (e278.symm.trans ek1_1), m285, (by rw [← e279]; omega), (by rw [← e280]; omega), (by rw [← e281]; omega), (by rw [← e282]; omega), (by rw [← e283]; omega), (by rw [← e284]; omega), (fun k hk => by unfold wX; rw [gH275 k hk]; omega)⟩
theorem cl_w {H H1 H2 H3 H5 : mzH} {u : Int32} (e1 : H1 = sF H 1 1 u) (j : vW H2 = jO (vW H1) (fZ H1 11 7).toInt.toNat (fZ H1 11 7).toInt.toNat) (c2 : ∀ k i, 1 ≤ k → k ≤ 7 → aZ H3 (3 + k) i = aZ H2 (11 + k) i) (k5 : kpB H3 H5) : ∀ q, aZ H5 5 q = jO (vW H) (fZ H 11 7).toInt.toNat (fZ H 11 7).toInt.toNat q := fun q => by
  have e2 : vW H1 = vW H := by
    funext k
    unfold vW
    rw [e1, aZ_sF]
  have e3 : fZ H1 11 7 = fZ H 11 7 := by rw [e1, fZ_sF_nc (by decide)]
  rw [(k5 5 (by decide)).2, show aZ H3 5 q = aZ H2 13 q from c2 2 q (by decide) (by decide), ← e2, ← e3, ← j]
  rfl
/-- what reading comes to, with the ways -/
def rdYw (H B : mzH) (a1 a2 : Int32) (b : pB) (v : Int32) : Prop := ∃ (T : pT) (k : Nat), tkA (bX H) a1.toInt.toNat T.K T.S T.V T.M ∧ pGoes a2.toInt T b k ∧ pStop T (pIt a2.toInt T k b).2 ∧ (fZ B 19 5).toInt = (pIt a2.toInt T k b).2.f ∧ (fZ B 19 6).toInt = (pIt a2.toInt T k b).2.p ∧ bkX B 11 (pIt a2.toInt T k b).1 ∧ (fZ B 19 7).toInt = (k : Int) ∧ frE H B ∧ ((v.toInt = 1 ∧ (pIt a2.toInt T k b).2.f = 0) ∨ (v.toInt = 0 ∧ (pIt a2.toInt T k b).2.f ≠ 0)) ∧ wX B = xIt a2.toInt T k b (wX H)
theorem k_38 {b : pB} (a1 : Int32) (ha1 : 0 ≤ a1.toInt ∧ a1.toInt ≤ 900) (a2 : Int32) (ha2 : 0 ≤ a2.toInt ∧ a2.toInt ≤ 1) (H : mzH) (hI : gI SX H) (hJ : JX H) (hp0 : a1.toInt ≤ (fZ H 1 1).toInt) (hp1 : bkX H 11 b) : gCall 38 [.ref 19, .int a1, .int a2] H (gRi (fun v H' => gI SX H' ∧ JX H' ∧ (0 ≤ v.toInt ∧ v.toInt ≤ 1) ∧ rdYw H H' a1 a2 b v)) := by
  have key := h_38 a1 ha1 a2 ha2 H hI hJ (fZ H 19 2) (fZ H 19 3) (fZ H 19 4) (fZ H 19 5) (fZ H 19 6) (fZ_of hI sx_19 rfl) hp0 hp1
  rw [rS_self hI rfl rfl rfl rfl rfl] at key
  refine gGo_mono key ?_
  rintro o H' ⟨v, rfl, B, y0, y1, y2, y3, y4, rfl, hB, hJB, bv, b0, ⟨T, k, h1, h2, h3, h4, h5, h6, h8⟩, h7⟩
  have fc : ∀ c, c ≠ 19 → (rS B y0 y1 y2 y3 y4)[c]? = B[c]? := fun c hc => by
    unfold rS
    rw [c_sF hc, c_sF hc, c_sF hc, c_sF hc, c_sF hc]
  refine ⟨v, rfl, rS_I hB b0, rS_J hJB, bv, T, k, h1, h2.1, h2.2, ?_, ?_, bk_fr (fun c _ _ => fc c (by omega)) h4, ?_, fun c hc => ?_, ?_, ?_⟩
  · rw [← rS_g5 hB]; exact h3.2.2.2.1
  · rw [← rS_g6 hB]; exact h3.2.2.2.2.1
  · rw [← rS_o (by decide)]; exact h5
  · rw [fc c (by omega)]; exact h6 c hc
  · have := h3.2.2.2.1
    omega
  · rw [wX_cg (fc 13 (by decide))]; exact h8
/-- what a text comes to, with the ways -/
def txW (H B : mzH) (n : Nat) (told : Int) (c : pB) (v : Int32) (W : Nat → Int) : Prop := ∃ (T : pT) (k : Nat), tkA (bX H) n T.K T.S T.V T.M ∧ pGoes told T c k ∧ pStop T (pIt told T k c).2 ∧ (fZ B 1 1).toInt = 0 ∧ (fZ B 19 5).toInt = (pIt told T k c).2.f ∧ (fZ B 19 6).toInt = (pIt told T k c).2.p ∧ (((pIt told T k c).2.f ≠ 0 ∧ v.toInt = -1 ∧ kpC H B) ∨ ((pIt told T k c).2.f = 0 ∧ v.toInt = (k : Int) ∧ bkX B 3 (pIt told T k c).1 ∧ ∃ D : Nat → Int32, (∀ q, (D q).toInt = xIt told T k c W q) ∧ ∀ q, aZ B 5 q = jO D (pIt told T k c).1.P.toNat (pIt told T k c).1.P.toNat q))
theorem tx_mkw {H H1 H2 H3 : mzH} {n : Nat} {a2 told : Int} {c : pB} {T : pT} {k : Nat} {w v : Int32} (ht : a2 = told) (k1 : kpN 11 18 H H1) (t1 : tkA (bX H1) n T.K T.S T.V T.M) (t2 : pGoes a2 T c k) (t3 : pStop T (pIt a2 T k c).2) (t4 : (fZ H2 19 5).toInt = (pIt a2 T k c).2.f) (t5 : (fZ H2 19 6).toInt = (pIt a2 T k c).2.p) (t6 : bkX H2 11 (pIt a2 T k c).1) (t7 : (fZ H2 19 7).toInt = (k : Int)) (t8 : frE H1 H2) (t9 : (w.toInt = 1 ∧ (pIt a2 T k c).2.f = 0) ∨ (w.toInt = 0 ∧ (pIt a2 T k c).2.f ≠ 0)) (t10 : wX H2 = xIt a2 T k c (wX H1)) (c0 : (fZ H3 1 1).toInt = 0) (cl : clE H2 H3 w.toInt (pIt a2 T k c).1 v) (cw : ¬ w.toInt = 0 → ∀ q, aZ H3 5 q = jO (vW H2) (fZ H2 11 7).toInt.toNat (fZ H2 11 7).toInt.toNat q) : txW H H3 n told c v (wX H1) := by
  subst ht
  have eb : bX H1 = bX H := by
    funext q
    unfold bX
    rw [(k1 2 (by decide)).2]
  obtain ⟨c1, c2, c3⟩ := cl
  refine ⟨T, k, by rw [← eb]; exact t1, t2, t3, c0, by rw [c1]; exact t4, by rw [c2]; exact t5, ?_⟩
  rcases c3 with ⟨d1, d2, d3⟩ | ⟨d1, d2, d3⟩
  · exact Or.inl ⟨by omega, d2, fun q hq => ⟨fun f => by rw [(d3 q hq).1, fZ_cg (t8 q (by omega)), (k1 q (by omega)).1], fun i => by rw [(d3 q hq).2, aZ_cg (t8 q (by omega)), (k1 q (by omega)).2]⟩⟩
  · refine Or.inr ⟨by omega, by rw [d2]; exact t7, d3, vW H2, fun q => ?_, fun q => ?_⟩
    · rw [← t10]
      rfl
    · rw [cw d1 q, ← t6.1]
set_option maxRecDepth 4000 in
set_option maxHeartbeats 4000000 in
/-- X1.way -/
theorem k_17 (a1 : Int32) (a2 : Int32) (H : mzH) (hI : gI SX H) (hJ : JX H) : gCall 17 [.ref 3, .int a1, .int a2] H (gRi (fun v H' => H = H' ∧ (((0 ≤ a1.toInt ∧ a1.toInt < (fZ H 3 7).toInt ∧ 0 ≤ a2.toInt ∧ a2.toInt < (fZ H 3 7).toInt) ∧ v = aZ H 5 (8 * a1.toInt.toNat + a2.toInt.toNat)) ∨ (¬ (0 ≤ a1.toInt ∧ a1.toInt < (fZ H 3 7).toInt ∧ 0 ≤ a2.toInt ∧ a2.toInt < (fZ H 3 7).toInt) ∧ v.toInt = -2)))) := by
  obtain ⟨k3_7, ek3_7⟩ : ∃ z, z = fZ H 3 7 := ⟨_, rfl⟩
  have ik3_7 : k3_7.toInt = (fZ H 3 7).toInt := by rw [← ek3_7]
  have bk3_7 : 0 ≤ k3_7.toInt ∧ k3_7.toInt ≤ 8 := by rw [ek3_7]; exact fZ_of hI sx_3 rfl
  refine gG_call [(0, .ref 3), (1, .int a1), (2, .int a2)] ⟨rfl, rfl, rfl, trivial⟩ ?_
  show gG 4 zB_17 (mzBlk zB_17 0) [(0, .ref 3), (1, .int a1), (2, .int a2)] [] H 0 0 _
  refine g_iload_n rfl ?_
  refine g_if_lt (fun c89 => ?_) (fun c89 => ?_)
  · refine g_iconst (by decide) (fun v90 kv90 => ?_)
    refine g_nop ?_
    refine g_istore_n (l' := [(0, .ref 3), (1, .int a1), (2, .int a2), (3, .int v90)]) rfl rfl ?_
    refine g_iload_n rfl ?_
    refine g_if_eq (fun c91 => ?_) (fun c91 => ?_)
    · refine g_bipush (by decide) (fun v92 kv92 => ?_)
      refine g_nop ?_
      exact g_iret ⟨_, rfl, rfl, (Or.inr ⟨by omega, by omega⟩)⟩
    · exfalso; omega
  · refine g_iload_n rfl ?_
    refine g_aload_n rfl ?_
    refine g_gfk hI sx_3 rfl ek3_7 ?_
    refine g_if2_ge (fun c93 => ?_) (fun c93 => ?_)
    · refine g_iconst (by decide) (fun v94 kv94 => ?_)
      refine g_nop ?_
      refine g_istore_n (l' := [(0, .ref 3), (1, .int a1), (2, .int a2), (3, .int v94)]) rfl rfl ?_
      refine g_iload_n rfl ?_
      refine g_if_eq (fun c95 => ?_) (fun c95 => ?_)
      · refine g_bipush (by decide) (fun v96 kv96 => ?_)
        refine g_nop ?_
        exact g_iret ⟨_, rfl, rfl, (Or.inr ⟨by omega, by omega⟩)⟩
      · exfalso; omega
    · refine g_iload_n rfl ?_
      refine g_if_lt (fun c97 => ?_) (fun c97 => ?_)
      · refine g_iconst (by decide) (fun v98 kv98 => ?_)
        refine g_nop ?_
        refine g_istore_n (l' := [(0, .ref 3), (1, .int a1), (2, .int a2), (3, .int v98)]) rfl rfl ?_
        refine g_iload_n rfl ?_
        refine g_if_eq (fun c99 => ?_) (fun c99 => ?_)
        · refine g_bipush (by decide) (fun v100 kv100 => ?_)
          refine g_nop ?_
          exact g_iret ⟨_, rfl, rfl, (Or.inr ⟨by omega, by omega⟩)⟩
        · exfalso; omega
      · refine g_iload_n rfl ?_
        refine g_aload_n rfl ?_
        refine g_gfk hI sx_3 rfl ek3_7 ?_
        refine g_if2_ge (fun c101 => ?_) (fun c101 => ?_)
        · refine g_iconst (by decide) (fun v102 kv102 => ?_)
          refine g_nop ?_
          refine g_istore_n (l' := [(0, .ref 3), (1, .int a1), (2, .int a2), (3, .int v102)]) rfl rfl ?_
          refine g_iload_n rfl ?_
          refine g_if_eq (fun c103 => ?_) (fun c103 => ?_)
          · refine g_bipush (by decide) (fun v104 kv104 => ?_)
            refine g_nop ?_
            exact g_iret ⟨_, rfl, rfl, (Or.inr ⟨by omega, by omega⟩)⟩
          · exfalso; omega
        · refine g_iconst (by decide) (fun v105 kv105 => ?_)
          refine g_goto ?_
          refine g_istore_n (l' := [(0, .ref 3), (1, .int a1), (2, .int a2), (3, .int v105)]) rfl rfl ?_
          refine g_iload_n rfl ?_
          refine g_if_eq (fun c106 => ?_) (fun c106 => ?_)
          · exfalso; omega
          · refine g_aload_n rfl ?_
            refine g_gfr hI sx_3 rfl ?_
            refine g_iload_n rfl ?_
            refine g_bipush (by decide) (fun v107 kv107 => ?_)
            refine g_imulk (n := 8) kv107 (by omega) (fun v108 ev108 => ?_)
            refine g_iload_n rfl ?_
            refine g_iadd (by omega) (fun v109 ev109 => ?_)
            refine g_iaload hI sx_5 rfl (by omega) (fun v110 ev110 lv110 uv110 => ?_)
            refine g_goto ?_
            exact g_iret ⟨_, rfl, rfl, (Or.inl ⟨by omega, by rw [show (8 * a1.toInt.toNat + a2.toInt.toNat) = v109.toInt.toNat by omega]; exact ev110⟩)⟩
def w0M : Nat → Int := fun k => if k < 64 then (if k % 9 = 0 then 0 else 100000) else 0
theorem w0_mk {H : mzH} (h : ∀ i : Nat, i < 64 → (aZ H 3 (5 + i)).toInt = if i % 9 = 0 then 0 else 100000) : wM H = w0M := by
  funext k
  unfold wM w0M
  if q : k < 64 then rw [if_pos q, if_pos q, h k q]
  else rw [if_neg q, if_neg q]
theorem rem_9 {a b v : Int32} (o : v = a - a / b * b) (hb : b.toInt = 9) (ha : 0 ≤ a.toInt ∧ a.toInt ≤ 63) : v.toInt = a.toInt % 9 := by
  have hb : b = 9 := Int32.toInt_inj.mp hb
  subst hb
  have key : ∀ n : Fin 64, ((Int32.ofNat n.val) - (Int32.ofNat n.val) / 9 * 9).toInt = ((n.val % 9 : Nat) : Int) ∧ (Int32.ofNat n.val).toInt = (n.val : Int) := by decide +kernel
  have h := key ⟨a.toInt.toNat, by omega⟩
  have e : a = Int32.ofNat a.toInt.toNat := Int32.toInt_inj.mp (by rw [h.2]; show a.toInt = ((a.toInt.toNat : Nat) : Int); omega)
  rw [o]
  have h1 := h.1
  rw [← e] at h1
  rw [h1]
  show ((a.toInt.toNat % 9 : Nat) : Int) = a.toInt % 9
  omega
def wW (H : mzH) (k : Nat) : Int := (uW H k).toInt
theorem wm_cp {H B : mzH} (q : ∀ i, i < 369 → aZ B 3 i = aZ H 2 i) : wM B = wW H := by
  funext k
  unfold wM wW uW
  if h : k < 64 then rw [if_pos h, if_pos h, q _ (by omega)]
  else
    rw [if_neg h, if_neg h]
    rfl
/-- what the reference's text comes to, with the ways -/
def rdTv (H B : mzH) (told : Int) (T : pT) (c : pB) (v : Int32) (W : Nat → Int) : Prop := ∃ k : Nat, pGoes told T c k ∧ pStop T (pIt told T k c).2 ∧ (fZ B 0 2).toInt = 0 ∧ (fZ B 0 15).toInt = (pIt told T k c).2.f ∧ (((pIt told T k c).2.f ≠ 0 ∧ v.toInt = -1 ∧ (fZ B 0 16).toInt = (pIt told T k c).2.p ∧ kwF H B ∧ (∀ i, aZ B 6 i = aZ H 6 i)) ∨ ((pIt told T k c).2.f = 0 ∧ v.toInt = (k : Int) ∧ (fZ B 0 16).toInt = -1 ∧ bkW B (pIt told T k c).1 ∧ (∀ q, q < 64 → (uW B q).toInt = mIt told T k c W q) ∧ uX B = fO (uW B) 8))
theorem rdTv_mk {H H1 B : mzH} {told t : Int} {T : pT} {c : pB} {v : Int32} {W : Nat → Int} (ht : t = told) (h : rdTw H1 B t T c v) (k : kwF H H1) (k6 : ∀ i, aZ H1 6 i = aZ H 6 i) (hw : wM H1 = W) : rdTv H B told T c v W := by
  subst ht hw
  obtain ⟨n, h1, h2, h3, h4, h5⟩ := h
  refine ⟨n, h1, h2, h3, h4, ?_⟩
  rcases h5 with ⟨a1, a2, a3, ⟨a4, a5, a6⟩, a7⟩ | h5
  · exact Or.inl ⟨a1, a2, a3, ⟨fun i => (a4 i).trans (k.1 i), fun i => (a5 i).trans (k.2.1 i), a6.trans k.2.2⟩, fun i => (a7 i).trans (k6 i)⟩
  · exact Or.inr h5
def hrM (w v : Int32) : Prop := (100000 ≤ w.toInt ∧ v.toInt = -2) ∨ (w.toInt < 100000 ∧ v.toInt = w.toInt)
set_option maxRecDepth 4000 in
set_option maxHeartbeats 4000000 in
/-- M.freshText -/
theorem k_172 (H : mzH) (hI : gI SM H) (hJ : JN H) : gCall 172 [.ref 0] H (gRv (fun H' => gI SM H' ∧ JN H' ∧ fZ H' 0 2 = fZ H 0 2 ∧ (∀ i, aZ H' 1 i = aZ H 1 i) ∧ (∀ i, aZ H' 2 i = aZ H 2 i) ∧ (∀ i, aZ H' 5 i = aZ H 5 i) ∧ (∀ i, aZ H' 6 i = aZ H 6 i) ∧ (aZ H' 3 0).toInt = 0 ∧ (aZ H' 3 1).toInt = 0 ∧ (aZ H' 3 2).toInt = 0 ∧ (aZ H' 3 3).toInt = 10 ∧ (aZ H' 3 4).toInt = 10 ∧ (fZ H' 0 17).toInt = 0 ∧ (∀ f, f ≠ 17 → fZ H' 0 f = fZ H 0 f) ∧ wM H' = w0M)) := by
  obtain ⟨k0_2, ek0_2⟩ : ∃ z, z = fZ H 0 2 := ⟨_, rfl⟩
  have ik0_2 : k0_2.toInt = (fZ H 0 2).toInt := by rw [← ek0_2]
  have bk0_2 : 0 ≤ k0_2.toInt ∧ k0_2.toInt ≤ 900 := by rw [ek0_2]; exact fZ_of hI sm_0 rfl
  have mk1 : ∀ i, aZ H 1 i = aZ H 1 i := fun _ => rfl
  have mk2 : ∀ i, aZ H 2 i = aZ H 2 i := fun _ => rfl
  have mk5 : ∀ i, aZ H 5 i = aZ H 5 i := fun _ => rfl
  have mk6 : ∀ i, aZ H 6 i = aZ H 6 i := fun _ => rfl
  have mkF : ∀ a f, fZ H a f = fZ H a f := fun _ _ => rfl
  have mk7 : ∀ i, aZ H 7 i = aZ H 7 i := fun _ => rfl
  have mk8 : ∀ i, aZ H 8 i = aZ H 8 i := fun _ => rfl
  have mk9 : ∀ i, aZ H 9 i = aZ H 9 i := fun _ => rfl
  refine gG_call [(0, .ref 0)] ⟨rfl, trivial⟩ ?_
  show gG 2 zB_172 (mzBlk zB_172 0) [(0, .ref 0)] [] H 0 0 _
  refine g_iconst (by decide) (fun v959 kv959 => ?_)
  refine g_istore_n (l' := [(0, .ref 0), (1, .int v959)]) rfl rfl ?_
  refine g_nop ?_
  have L971 : ∀ (N : Nat) (v960 : Int32) (H961 : mzH), gI SM H961 → k0_2 = fZ H961 0 2 → (∀ i, aZ H961 1 i = aZ H 1 i) → (∀ i, aZ H961 2 i = aZ H 2 i) → (∀ i, aZ H961 5 i = aZ H 5 i) → (∀ i, aZ H961 6 i = aZ H 6 i) → (∀ a f, fZ H961 a f = fZ H a f) → (∀ i, aZ H961 7 i = aZ H 7 i) → (∀ i, aZ H961 8 i = aZ H 8 i) → (∀ i, aZ H961 9 i = aZ H 9 i) → (0 ≤ v960.toInt ∧ v960.toInt ≤ 369) → (∀ i, i < v960.toInt.toNat → (aZ H961 3 i).toInt = 0) → (369 - v960.toInt).toNat < N → gG 2 zB_172 (mzBlk zB_172 1) [(0, .ref 0), (1, .int v960)] [] H961 0 0 (gRv (fun H' => gI SM H' ∧ JN H' ∧ fZ H' 0 2 = fZ H 0 2 ∧ (∀ i, aZ H' 1 i = aZ H 1 i) ∧ (∀ i, aZ H' 2 i = aZ H 2 i) ∧ (∀ i, aZ H' 5 i = aZ H 5 i) ∧ (∀ i, aZ H' 6 i = aZ H 6 i) ∧ (aZ H' 3 0).toInt = 0 ∧ (aZ H' 3 1).toInt = 0 ∧ (aZ H' 3 2).toInt = 0 ∧ (aZ H' 3 3).toInt = 10 ∧ (aZ H' 3 4).toInt = 10 ∧ (fZ H' 0 17).toInt = 0 ∧ (∀ f, f ≠ 17 → fZ H' 0 f = fZ H 0 f) ∧ wM H' = w0M)) := by
    intro N
    induction N with
    | zero => intro v960 H961 hIH961 e962 m963 m964 m965 m966 m967 m968 m969 m970 bv960 q1 hmL971; exact absurd hmL971 (Nat.not_lt_zero _)
    | succ N ihL971 =>
      intro v960 H961 hIH961 e962 m963 m964 m965 m966 m967 m968 m969 m970 bv960 q1 hmL971
      refine g_iload_n rfl ?_
      refine g_sipush (by decide) (fun v972 kv972 => ?_)
      refine g_if2_ge (fun c973 => ?_) (fun c973 => ?_)
      · have hJ974 : JN H961 := JN_zr3 hJ (fun i hi => q1 i (by omega)) m964
        refine g_iconst (by decide) (fun v975 kv975 => ?_)
        refine g_istore_n (l' := [(0, .ref 0), (1, .int v975)]) rfl rfl ?_
        refine g_nop ?_
        have L987 : ∀ (N : Nat) (v976 : Int32) (H977 : mzH), gI SM H977 → JN H977 → k0_2 = fZ H977 0 2 → (∀ i, aZ H977 1 i = aZ H 1 i) → (∀ i, aZ H977 2 i = aZ H 2 i) → (∀ i, aZ H977 5 i = aZ H 5 i) → (∀ i, aZ H977 6 i = aZ H 6 i) → (∀ a f, fZ H977 a f = fZ H a f) → (∀ i, aZ H977 7 i = aZ H 7 i) → (∀ i, aZ H977 8 i = aZ H 8 i) → (∀ i, aZ H977 9 i = aZ H 9 i) → (0 ≤ v976.toInt ∧ v976.toInt ≤ 64) → (∀ i, i < 5 → (aZ H977 3 i).toInt = 0) → (∀ i : Nat, i < v976.toInt.toNat → (aZ H977 3 (5 + i)).toInt = if i % 9 = 0 then 0 else 100000) → (64 - v976.toInt).toNat < N → gG 2 zB_172 (mzBlk zB_172 3) [(0, .ref 0), (1, .int v976)] [] H977 0 0 (gRv (fun H' => gI SM H' ∧ JN H' ∧ fZ H' 0 2 = fZ H 0 2 ∧ (∀ i, aZ H' 1 i = aZ H 1 i) ∧ (∀ i, aZ H' 2 i = aZ H 2 i) ∧ (∀ i, aZ H' 5 i = aZ H 5 i) ∧ (∀ i, aZ H' 6 i = aZ H 6 i) ∧ (aZ H' 3 0).toInt = 0 ∧ (aZ H' 3 1).toInt = 0 ∧ (aZ H' 3 2).toInt = 0 ∧ (aZ H' 3 3).toInt = 10 ∧ (aZ H' 3 4).toInt = 10 ∧ (fZ H' 0 17).toInt = 0 ∧ (∀ f, f ≠ 17 → fZ H' 0 f = fZ H 0 f) ∧ wM H' = w0M)) := by
          intro N
          induction N with
          | zero => intro v976 H977 hIH977 hJH977 e978 m979 m980 m981 m982 m983 m984 m985 m986 bv976 q1 q2 hmL987; exact absurd hmL987 (Nat.not_lt_zero _)
          | succ N ihL987 =>
            intro v976 H977 hIH977 hJH977 e978 m979 m980 m981 m982 m983 m984 m985 m986 bv976 q1 q2 hmL987
            refine g_iload_n rfl ?_
            refine g_bipush (by decide) (fun v988 kv988 => ?_)
            refine g_if2_ge (fun c989 => ?_) (fun c989 => ?_)
            · refine g_aload_n rfl ?_
              refine g_gfr hIH977 sm_0 rfl ?_
              refine g_iconst (by decide) (fun v990 kv990 => ?_)
              refine g_bipush (by decide) (fun v991 kv991 => ?_)
              refine g_iastore hIH977 sm_3 (by omega) (gz_any _) (fun H992 eH992 hIH992 => ?_)
              have hJH992 : JN H992 := JN_s3 hIH977 hJH977 (by omega) (by omega) (by omega) eH992
              have e993 : k0_2 = fZ H992 0 2 := by rw [eH992, fZ_sA]; exact e978
              have m994 : ∀ i, aZ H992 1 i = aZ H 1 i := fun i => (by rw [eH992, aZ_sA_nc (by omega)] : aZ H992 1 i = aZ H977 1 i).trans (m979 i)
              have m995 : ∀ i, aZ H992 2 i = aZ H 2 i := fun i => (by rw [eH992, aZ_sA_nc (by omega)] : aZ H992 2 i = aZ H977 2 i).trans (m980 i)
              have m996 : ∀ i, aZ H992 5 i = aZ H 5 i := fun i => (by rw [eH992, aZ_sA_nc (by omega)] : aZ H992 5 i = aZ H977 5 i).trans (m981 i)
              have m997 : ∀ i, aZ H992 6 i = aZ H 6 i := fun i => (by rw [eH992, aZ_sA_nc (by omega)] : aZ H992 6 i = aZ H977 6 i).trans (m982 i)
              have m998 : ∀ a f, fZ H992 a f = fZ H a f := fun a f => (by rw [eH992, fZ_sA] : fZ H992 a f = fZ H977 a f).trans (m983 a f)
              have m999 : ∀ i, aZ H992 7 i = aZ H 7 i := fun i => (by rw [eH992, aZ_sA_nc (by omega)] : aZ H992 7 i = aZ H977 7 i).trans (m984 i)
              have m1000 : ∀ i, aZ H992 8 i = aZ H 8 i := fun i => (by rw [eH992, aZ_sA_nc (by omega)] : aZ H992 8 i = aZ H977 8 i).trans (m985 i)
              have m1001 : ∀ i, aZ H992 9 i = aZ H 9 i := fun i => (by rw [eH992, aZ_sA_nc (by omega)] : aZ H992 9 i = aZ H977 9 i).trans (m986 i)
              refine g_aload_n rfl ?_
              refine g_gfr hIH992 sm_0 rfl ?_
              refine g_iconst (by decide) (fun v1002 kv1002 => ?_)
              refine g_bipush (by decide) (fun v1003 kv1003 => ?_)
              refine g_iastore hIH992 sm_3 (by omega) (gz_any _) (fun H1004 eH1004 hIH1004 => ?_)
              have hJH1004 : JN H1004 := JN_s3 hIH992 hJH992 (by omega) (by omega) (by omega) eH1004
              have e1005 : k0_2 = fZ H1004 0 2 := by rw [eH1004, fZ_sA]; exact e993
              have m1006 : ∀ i, aZ H1004 1 i = aZ H 1 i := fun i => (by rw [eH1004, aZ_sA_nc (by omega)] : aZ H1004 1 i = aZ H992 1 i).trans (m994 i)
              have m1007 : ∀ i, aZ H1004 2 i = aZ H 2 i := fun i => (by rw [eH1004, aZ_sA_nc (by omega)] : aZ H1004 2 i = aZ H992 2 i).trans (m995 i)
              have m1008 : ∀ i, aZ H1004 5 i = aZ H 5 i := fun i => (by rw [eH1004, aZ_sA_nc (by omega)] : aZ H1004 5 i = aZ H992 5 i).trans (m996 i)
              have m1009 : ∀ i, aZ H1004 6 i = aZ H 6 i := fun i => (by rw [eH1004, aZ_sA_nc (by omega)] : aZ H1004 6 i = aZ H992 6 i).trans (m997 i)
              have m1010 : ∀ a f, fZ H1004 a f = fZ H a f := fun a f => (by rw [eH1004, fZ_sA] : fZ H1004 a f = fZ H992 a f).trans (m998 a f)
              have m1011 : ∀ i, aZ H1004 7 i = aZ H 7 i := fun i => (by rw [eH1004, aZ_sA_nc (by omega)] : aZ H1004 7 i = aZ H992 7 i).trans (m999 i)
              have m1012 : ∀ i, aZ H1004 8 i = aZ H 8 i := fun i => (by rw [eH1004, aZ_sA_nc (by omega)] : aZ H1004 8 i = aZ H992 8 i).trans (m1000 i)
              have m1013 : ∀ i, aZ H1004 9 i = aZ H 9 i := fun i => (by rw [eH1004, aZ_sA_nc (by omega)] : aZ H1004 9 i = aZ H992 9 i).trans (m1001 i)
              refine g_aload_n rfl ?_
              refine g_iconst (by decide) (fun v1014 kv1014 => ?_)
              refine g_pfz hIH1004 sm_0 rfl (by omega) (fun H1015 eH1015 hIH1015 => ?_)
              have hJH1015 : JN H1015 := JN_sF eH1015 hJH1004
              have e1016 : k0_2 = fZ H1015 0 2 := by rw [eH1015, fZ_sF_ne (by decide)]; exact e1005
              have m1017 : ∀ i, aZ H1015 1 i = aZ H 1 i := fun i => (by rw [eH1015, aZ_sF] : aZ H1015 1 i = aZ H1004 1 i).trans (m1006 i)
              have m1018 : ∀ i, aZ H1015 2 i = aZ H 2 i := fun i => (by rw [eH1015, aZ_sF] : aZ H1015 2 i = aZ H1004 2 i).trans (m1007 i)
              have m1019 : ∀ i, aZ H1015 5 i = aZ H 5 i := fun i => (by rw [eH1015, aZ_sF] : aZ H1015 5 i = aZ H1004 5 i).trans (m1008 i)
              have m1020 : ∀ i, aZ H1015 6 i = aZ H 6 i := fun i => (by rw [eH1015, aZ_sF] : aZ H1015 6 i = aZ H1004 6 i).trans (m1009 i)
              have m1022 : ∀ i, aZ H1015 7 i = aZ H 7 i := fun i => (by rw [eH1015, aZ_sF] : aZ H1015 7 i = aZ H1004 7 i).trans (m1011 i)
              have m1023 : ∀ i, aZ H1015 8 i = aZ H 8 i := fun i => (by rw [eH1015, aZ_sF] : aZ H1015 8 i = aZ H1004 8 i).trans (m1012 i)
              have m1024 : ∀ i, aZ H1015 9 i = aZ H 9 i := fun i => (by rw [eH1015, aZ_sF] : aZ H1015 9 i = aZ H1004 9 i).trans (m1013 i)
              exact g_ret ⟨rfl, hIH1015, hJH1015, (e1016.symm.trans ek0_2), m1017, m1018, m1019, m1020, (by rw [eH1015, aZ_sF, eH1004, aZ_sA_ne (by omega), eH992, aZ_sA_ne (by omega)]; exact q1 0 (by decide)), (by rw [eH1015, aZ_sF, eH1004, aZ_sA_ne (by omega), eH992, aZ_sA_ne (by omega)]; exact q1 1 (by decide)), (by rw [eH1015, aZ_sF, eH1004, aZ_sA_ne (by omega), eH992, aZ_sA_ne (by omega)]; exact q1 2 (by decide)), (by rw [eH1015, aZ_sF, eH1004, aZ_sA_ne (by omega), eH992, show v990.toInt.toNat = 3 from by omega, aZ_sA_eq hIH977 sm_3 (by decide)]; omega), (by rw [eH1015, aZ_sF, eH1004, show v1002.toInt.toNat = 4 from by omega, aZ_sA_eq hIH992 sm_3 (by decide)]; omega), (by rw [eH1015, fZ_sF_eq hIH1004 sm_0 rfl]; omega), (fun f hf => (by rw [eH1015, fZ_sF_ne (Ne.symm hf), eH1004, fZ_sA, eH992, fZ_sA] : fZ H1015 0 f = fZ H977 0 f).trans (m983 0 f)), ((wM_F eH1015).trans ((wM_A eH1004 (by omega)).trans ((wM_A eH992 (by omega)).trans (w0_mk (fun i hi => q2 i (by omega))))))⟩
            · refine g_aload_n rfl ?_
              refine g_gfr hIH977 sm_0 rfl ?_
              refine g_iconst (by decide) (fun v1025 kv1025 => ?_)
              refine g_iload_n rfl ?_
              refine g_iadd (by omega) (fun v1026 ev1026 => ?_)
              refine g_iload_n rfl ?_
              refine g_bipush (by decide) (fun v1027 kv1027 => ?_)
              refine g_irem' (by omega) (fun v1028 ov1028 => ?_)
              have rv1028 := rem_9 ov1028 (by omega) (by omega)
              have rrv1028 : 0 ≤ v1028.toInt ∧ v1028.toInt ≤ 8 := by omega
              refine g_if_ne (fun c1029 => ?_) (fun c1029 => ?_)
              · refine g_ldc (by decide) (fun v1030 kv1030 => ?_)
                refine g_nop ?_
                refine g_iastore hIH977 sm_3 (by omega) (gz_any _) (fun H1031 eH1031 hIH1031 => ?_)
                have hJH1031 : JN H1031 := JN_s3 hIH977 hJH977 (by omega) (by omega) (by omega) eH1031
                have e1032 : k0_2 = fZ H1031 0 2 := by rw [eH1031, fZ_sA]; exact e978
                have m1033 : ∀ i, aZ H1031 1 i = aZ H 1 i := fun i => (by rw [eH1031, aZ_sA_nc (by omega)] : aZ H1031 1 i = aZ H977 1 i).trans (m979 i)
                have m1034 : ∀ i, aZ H1031 2 i = aZ H 2 i := fun i => (by rw [eH1031, aZ_sA_nc (by omega)] : aZ H1031 2 i = aZ H977 2 i).trans (m980 i)
                have m1035 : ∀ i, aZ H1031 5 i = aZ H 5 i := fun i => (by rw [eH1031, aZ_sA_nc (by omega)] : aZ H1031 5 i = aZ H977 5 i).trans (m981 i)
                have m1036 : ∀ i, aZ H1031 6 i = aZ H 6 i := fun i => (by rw [eH1031, aZ_sA_nc (by omega)] : aZ H1031 6 i = aZ H977 6 i).trans (m982 i)
                have m1037 : ∀ a f, fZ H1031 a f = fZ H a f := fun a f => (by rw [eH1031, fZ_sA] : fZ H1031 a f = fZ H977 a f).trans (m983 a f)
                have m1038 : ∀ i, aZ H1031 7 i = aZ H 7 i := fun i => (by rw [eH1031, aZ_sA_nc (by omega)] : aZ H1031 7 i = aZ H977 7 i).trans (m984 i)
                have m1039 : ∀ i, aZ H1031 8 i = aZ H 8 i := fun i => (by rw [eH1031, aZ_sA_nc (by omega)] : aZ H1031 8 i = aZ H977 8 i).trans (m985 i)
                have m1040 : ∀ i, aZ H1031 9 i = aZ H 9 i := fun i => (by rw [eH1031, aZ_sA_nc (by omega)] : aZ H1031 9 i = aZ H977 9 i).trans (m986 i)
                refine g_iinc (l' := (fun v1041 => [(0, .ref 0), (1, .int v1041)])) rfl rfl (by decide) (by omega) (fun _ => rfl) (fun v1041 ev1041 => ?_)
                refine g_goto ?_
                exact ihL987 v1041 H1031 hIH1031 hJH1031 e1032 m1033 m1034 m1035 m1036 m1037 m1038 m1039 m1040 (by omega) (fun i hi => by rw [eH1031, aZ_sA_ne (by omega)]; exact q1 i hi) (fun i hi => by rw [eH1031]; if e : v1026.toInt.toNat = 5 + i then (rw [← e, aZ_sA_eq hIH977 sm_3 (by omega), if_neg (by omega)]; omega) else (rw [aZ_sA_ne e]; exact q2 i (by omega))) (by omega)
              · refine g_iconst (by decide) (fun v1042 kv1042 => ?_)
                refine g_goto ?_
                refine g_iastore hIH977 sm_3 (by omega) (gz_any _) (fun H1043 eH1043 hIH1043 => ?_)
                have hJH1043 : JN H1043 := JN_s3 hIH977 hJH977 (by omega) (by omega) (by omega) eH1043
                have e1044 : k0_2 = fZ H1043 0 2 := by rw [eH1043, fZ_sA]; exact e978
                have m1045 : ∀ i, aZ H1043 1 i = aZ H 1 i := fun i => (by rw [eH1043, aZ_sA_nc (by omega)] : aZ H1043 1 i = aZ H977 1 i).trans (m979 i)
                have m1046 : ∀ i, aZ H1043 2 i = aZ H 2 i := fun i => (by rw [eH1043, aZ_sA_nc (by omega)] : aZ H1043 2 i = aZ H977 2 i).trans (m980 i)
                have m1047 : ∀ i, aZ H1043 5 i = aZ H 5 i := fun i => (by rw [eH1043, aZ_sA_nc (by omega)] : aZ H1043 5 i = aZ H977 5 i).trans (m981 i)
                have m1048 : ∀ i, aZ H1043 6 i = aZ H 6 i := fun i => (by rw [eH1043, aZ_sA_nc (by omega)] : aZ H1043 6 i = aZ H977 6 i).trans (m982 i)
                have m1049 : ∀ a f, fZ H1043 a f = fZ H a f := fun a f => (by rw [eH1043, fZ_sA] : fZ H1043 a f = fZ H977 a f).trans (m983 a f)
                have m1050 : ∀ i, aZ H1043 7 i = aZ H 7 i := fun i => (by rw [eH1043, aZ_sA_nc (by omega)] : aZ H1043 7 i = aZ H977 7 i).trans (m984 i)
                have m1051 : ∀ i, aZ H1043 8 i = aZ H 8 i := fun i => (by rw [eH1043, aZ_sA_nc (by omega)] : aZ H1043 8 i = aZ H977 8 i).trans (m985 i)
                have m1052 : ∀ i, aZ H1043 9 i = aZ H 9 i := fun i => (by rw [eH1043, aZ_sA_nc (by omega)] : aZ H1043 9 i = aZ H977 9 i).trans (m986 i)
                refine g_iinc (l' := (fun v1053 => [(0, .ref 0), (1, .int v1053)])) rfl rfl (by decide) (by omega) (fun _ => rfl) (fun v1053 ev1053 => ?_)
                refine g_goto ?_
                exact ihL987 v1053 H1043 hIH1043 hJH1043 e1044 m1045 m1046 m1047 m1048 m1049 m1050 m1051 m1052 (by omega) (fun i hi => by rw [eH1043, aZ_sA_ne (by omega)]; exact q1 i hi) (fun i hi => by rw [eH1043]; if e : v1026.toInt.toNat = 5 + i then (rw [← e, aZ_sA_eq hIH977 sm_3 (by omega), if_pos (by omega)]; omega) else (rw [aZ_sA_ne e]; exact q2 i (by omega))) (by omega)
        exact L987 _ v975 H961 hIH961 hJ974 e962 m963 m964 m965 m966 m967 m968 m969 m970 (by omega) (fun i hi => q1 i (by omega)) (fun i hi => absurd hi (by omega)) (Nat.lt_succ_self _)
      · refine g_aload_n rfl ?_
        refine g_gfr hIH961 sm_0 rfl ?_
        refine g_iload_n rfl ?_
        refine g_iconst (by decide) (fun v1054 kv1054 => ?_)
        refine g_iastore hIH961 sm_3 (by omega) (gz_any _) (fun H1055 eH1055 hIH1055 => ?_)
        have e1056 : k0_2 = fZ H1055 0 2 := by rw [eH1055, fZ_sA]; exact e962
        have m1057 : ∀ i, aZ H1055 1 i = aZ H 1 i := fun i => (by rw [eH1055, aZ_sA_nc (by omega)] : aZ H1055 1 i = aZ H961 1 i).trans (m963 i)
        have m1058 : ∀ i, aZ H1055 2 i = aZ H 2 i := fun i => (by rw [eH1055, aZ_sA_nc (by omega)] : aZ H1055 2 i = aZ H961 2 i).trans (m964 i)
        have m1059 : ∀ i, aZ H1055 5 i = aZ H 5 i := fun i => (by rw [eH1055, aZ_sA_nc (by omega)] : aZ H1055 5 i = aZ H961 5 i).trans (m965 i)
        have m1060 : ∀ i, aZ H1055 6 i = aZ H 6 i := fun i => (by rw [eH1055, aZ_sA_nc (by omega)] : aZ H1055 6 i = aZ H961 6 i).trans (m966 i)
        have m1061 : ∀ a f, fZ H1055 a f = fZ H a f := fun a f => (by rw [eH1055, fZ_sA] : fZ H1055 a f = fZ H961 a f).trans (m967 a f)
        have m1062 : ∀ i, aZ H1055 7 i = aZ H 7 i := fun i => (by rw [eH1055, aZ_sA_nc (by omega)] : aZ H1055 7 i = aZ H961 7 i).trans (m968 i)
        have m1063 : ∀ i, aZ H1055 8 i = aZ H 8 i := fun i => (by rw [eH1055, aZ_sA_nc (by omega)] : aZ H1055 8 i = aZ H961 8 i).trans (m969 i)
        have m1064 : ∀ i, aZ H1055 9 i = aZ H 9 i := fun i => (by rw [eH1055, aZ_sA_nc (by omega)] : aZ H1055 9 i = aZ H961 9 i).trans (m970 i)
        refine g_iinc (l' := (fun v1065 => [(0, .ref 0), (1, .int v1065)])) rfl rfl (by decide) (by omega) (fun _ => rfl) (fun v1065 ev1065 => ?_)
        refine g_goto ?_
        exact ihL971 v1065 H1055 hIH1055 e1056 m1057 m1058 m1059 m1060 m1061 m1062 m1063 m1064 (by omega) (fun q hq => by rw [eH1055]; if e : v960.toInt.toNat = q then (subst e; rw [aZ_sA_eq hIH961 sm_3 (by omega)]; omega) else (rw [aZ_sA_ne e]; exact q1 q (by omega))) (by omega)
  exact L971 _ v959 H hI ek0_2 mk1 mk2 mk5 mk6 mkF mk7 mk8 mk9 (by omega) (fun q hq => absurd hq (by omega)) (Nat.lt_succ_self _)
set_option maxRecDepth 4000 in
set_option maxHeartbeats 4000000 in
/-- M.text -/
theorem k_175b {b : Nat → Int} {T : pT} {c : pB} (a1 : Int32) (H : mzH) (hI : gI SM H) (hJ : JN H) (hp0 : (0 ≤ a1.toInt ∧ a1.toInt ≤ (fZ H 0 2).toInt)) (hp1 : ∀ q, q < a1.toInt.toNat → sgB (b q) (bM H q)) (hp2 : tkA b a1.toInt.toNat T.K T.S T.V T.M) (hp3 : c = pB0) : gCall 175 [.ref 0, .int a1] H (gRi (fun v H' => gI SM H' ∧ JN H' ∧ rdTv H H' 0 T c v w0M)) := by
  obtain ⟨k0_2, ek0_2⟩ : ∃ z, z = fZ H 0 2 := ⟨_, rfl⟩
  have ik0_2 : k0_2.toInt = (fZ H 0 2).toInt := by rw [← ek0_2]
  have bk0_2 : 0 ≤ k0_2.toInt ∧ k0_2.toInt ≤ 900 := by rw [ek0_2]; exact fZ_of hI sm_0 rfl
  have mk1 : ∀ i, aZ H 1 i = aZ H 1 i := fun _ => rfl
  have mk2 : ∀ i, aZ H 2 i = aZ H 2 i := fun _ => rfl
  have mk5 : ∀ i, aZ H 5 i = aZ H 5 i := fun _ => rfl
  have mk6 : ∀ i, aZ H 6 i = aZ H 6 i := fun _ => rfl
  have mkF : ∀ a f, fZ H a f = fZ H a f := fun _ _ => rfl
  refine gG_call [(0, .ref 0), (1, .int a1)] ⟨rfl, rfl, trivial⟩ ?_
  show gG 2 zB_175 (mzBlk zB_175 0) [(0, .ref 0), (1, .int a1)] [] H 0 0 _
  refine g_aload_n rfl ?_
  refine g_iconst (by decide) (fun v141 kv141 => ?_)
  refine g_pfi hI sm_0 rfl (gz_any _) (fun H142 eH142 hIH142 => ?_)
  have hJH142 : JN H142 := JN_sF eH142 hJ
  have e143 : k0_2 = fZ H142 0 2 := by rw [eH142, fZ_sF_ne (by decide)]; exact ek0_2
  have m144 : ∀ i, aZ H142 1 i = aZ H 1 i := fun i => (by rw [eH142, aZ_sF] : aZ H142 1 i = aZ H 1 i).trans (mk1 i)
  have m145 : ∀ i, aZ H142 2 i = aZ H 2 i := fun i => (by rw [eH142, aZ_sF] : aZ H142 2 i = aZ H 2 i).trans (mk2 i)
  have m146 : ∀ i, aZ H142 5 i = aZ H 5 i := fun i => (by rw [eH142, aZ_sF] : aZ H142 5 i = aZ H 5 i).trans (mk5 i)
  have m147 : ∀ i, aZ H142 6 i = aZ H 6 i := fun i => (by rw [eH142, aZ_sF] : aZ H142 6 i = aZ H 6 i).trans (mk6 i)
  have ie143 : k0_2.toInt = (fZ H142 0 2).toInt := by rw [← e143]
  refine g_iload_n rfl ?_
  refine g_if_lt (fun c149 => ?_) (fun c149 => ?_)
  · exfalso; omega
  · refine g_iload_n rfl ?_
    refine g_aload_n rfl ?_
    refine g_gfk hIH142 sm_0 rfl e143 ?_
    refine g_if2_le (fun c150 => ?_) (fun c150 => ?_)
    · refine g_aload_n rfl ?_
      refine g_invvv hIH142 sm_0 rfl rfl rfl rfl (k_172 H142 hIH142 hJH142) (fun H151 r152 => ?_)
      obtain ⟨hIH151, hJH151, w153, m154, m155, m156, m157, p158, p159, p160, p161, p162, p163, p164, p165⟩ := r152
      have e166 : k0_2 = fZ H151 0 2 := e143.trans w153.symm
      have m167 : ∀ i, aZ H151 1 i = aZ H 1 i := fun i => (m154 i).trans (m144 i)
      have m168 : ∀ i, aZ H151 2 i = aZ H 2 i := fun i => (m155 i).trans (m145 i)
      have m169 : ∀ i, aZ H151 5 i = aZ H 5 i := fun i => (m156 i).trans (m146 i)
      have m170 : ∀ i, aZ H151 6 i = aZ H 6 i := fun i => (m157 i).trans (m147 i)
      have ie166 : k0_2.toInt = (fZ H151 0 2).toInt := by rw [← e166]
      refine g_aload_n rfl ?_
      refine g_iload_n rfl ?_
      refine g_iconst (by decide) (fun v171 kv171 => ?_)
      refine g_invvi hIH151 sm_0 rfl rfl rfl rfl (k_173 (b := b) (n := a1.toInt.toNat) (T := T) (c := c) a1 (by omega) v171 (by omega) H151 hIH151 hJH151 ⟨fun q hq => by rw [show bM H151 q = bM H q from by unfold bM; rw [m167]]; exact hp1 q hq, hp2⟩ (by omega) (bk_0m hp3 p158 p159 p160 p161 p162 p163)) (fun v174 H172 r173 => ?_)
      obtain ⟨hIH172, hJH172, p175⟩ := r173
      exact g_iret ⟨_, rfl, hIH172, hJH172, (rdTv_mk (by omega) p175 ⟨(fun i => (m155 i).trans (by rw [eH142, aZ_sF])), (fun i => (m156 i).trans (by rw [eH142, aZ_sF])), (p164 18 (by decide)).trans (by rw [eH142, fZ_sF_ne (by decide)])⟩ (fun i => (m157 i).trans (by rw [eH142, aZ_sF])) p165)⟩
    · refine g_nop ?_
      exfalso; omega
set_option maxRecDepth 4000 in
set_option maxHeartbeats 4000000 in
/-- M.tell -/
theorem k_176b {b : Nat → Int} {T : pT} {c : pB} (a1 : Int32) (H : mzH) (hI : gI SM H) (hJ : JN H) (hp0 : (0 ≤ a1.toInt ∧ a1.toInt ≤ (fZ H 0 2).toInt)) (hp1 : ∀ q, q < a1.toInt.toNat → sgB (b q) (bM H q)) (hp2 : tkA b a1.toInt.toNat T.K T.S T.V T.M) (hp3 : bkW H c) : gCall 176 [.ref 0, .int a1] H (gRi (fun v H' => gI SM H' ∧ JN H' ∧ rdTv H H' 1 T c v (wW H))) := by
  obtain ⟨k0_2, ek0_2⟩ : ∃ z, z = fZ H 0 2 := ⟨_, rfl⟩
  have ik0_2 : k0_2.toInt = (fZ H 0 2).toInt := by rw [← ek0_2]
  have bk0_2 : 0 ≤ k0_2.toInt ∧ k0_2.toInt ≤ 900 := by rw [ek0_2]; exact fZ_of hI sm_0 rfl
  have mk1 : ∀ i, aZ H 1 i = aZ H 1 i := fun _ => rfl
  have mk2 : ∀ i, aZ H 2 i = aZ H 2 i := fun _ => rfl
  have mk5 : ∀ i, aZ H 5 i = aZ H 5 i := fun _ => rfl
  have mk6 : ∀ i, aZ H 6 i = aZ H 6 i := fun _ => rfl
  have mkF : ∀ a f, fZ H a f = fZ H a f := fun _ _ => rfl
  have mk7 : ∀ i, aZ H 7 i = aZ H 7 i := fun _ => rfl
  have mk8 : ∀ i, aZ H 8 i = aZ H 8 i := fun _ => rfl
  have mk9 : ∀ i, aZ H 9 i = aZ H 9 i := fun _ => rfl
  refine gG_call [(0, .ref 0), (1, .int a1)] ⟨rfl, rfl, trivial⟩ ?_
  show gG 3 zB_176 (mzBlk zB_176 0) [(0, .ref 0), (1, .int a1)] [] H 0 0 _
  refine g_aload_n rfl ?_
  refine g_iconst (by decide) (fun v575 kv575 => ?_)
  refine g_pfi hI sm_0 rfl (gz_any _) (fun H576 eH576 hIH576 => ?_)
  have hJH576 : JN H576 := JN_sF eH576 hJ
  have e577 : k0_2 = fZ H576 0 2 := by rw [eH576, fZ_sF_ne (by decide)]; exact ek0_2
  have m578 : ∀ i, aZ H576 1 i = aZ H 1 i := fun i => (by rw [eH576, aZ_sF] : aZ H576 1 i = aZ H 1 i).trans (mk1 i)
  have m579 : ∀ i, aZ H576 2 i = aZ H 2 i := fun i => (by rw [eH576, aZ_sF] : aZ H576 2 i = aZ H 2 i).trans (mk2 i)
  have m580 : ∀ i, aZ H576 5 i = aZ H 5 i := fun i => (by rw [eH576, aZ_sF] : aZ H576 5 i = aZ H 5 i).trans (mk5 i)
  have m581 : ∀ i, aZ H576 6 i = aZ H 6 i := fun i => (by rw [eH576, aZ_sF] : aZ H576 6 i = aZ H 6 i).trans (mk6 i)
  have m583 : ∀ i, aZ H576 7 i = aZ H 7 i := fun i => (by rw [eH576, aZ_sF] : aZ H576 7 i = aZ H 7 i).trans (mk7 i)
  have m584 : ∀ i, aZ H576 8 i = aZ H 8 i := fun i => (by rw [eH576, aZ_sF] : aZ H576 8 i = aZ H 8 i).trans (mk8 i)
  have m585 : ∀ i, aZ H576 9 i = aZ H 9 i := fun i => (by rw [eH576, aZ_sF] : aZ H576 9 i = aZ H 9 i).trans (mk9 i)
  have ie577 : k0_2.toInt = (fZ H576 0 2).toInt := by rw [← e577]
  refine g_iload_n rfl ?_
  refine g_if_lt (fun c586 => ?_) (fun c586 => ?_)
  · exfalso; omega
  · refine g_iload_n rfl ?_
    refine g_aload_n rfl ?_
    refine g_gfk hIH576 sm_0 rfl e577 ?_
    refine g_if2_le (fun c587 => ?_) (fun c587 => ?_)
    · refine g_iconst (by decide) (fun v588 kv588 => ?_)
      refine g_istore_n (l' := [(0, .ref 0), (1, .int a1), (2, .int v588)]) rfl rfl ?_
      refine g_nop ?_
      have L599 : ∀ (N : Nat) (v589 : Int32) (H590 : mzH), gI SM H590 → k0_2 = fZ H590 0 2 → (∀ i, aZ H590 1 i = aZ H 1 i) → (∀ i, aZ H590 2 i = aZ H 2 i) → (∀ i, aZ H590 5 i = aZ H 5 i) → (∀ i, aZ H590 6 i = aZ H 6 i) → (∀ i, aZ H590 7 i = aZ H 7 i) → (∀ i, aZ H590 8 i = aZ H 8 i) → (∀ i, aZ H590 9 i = aZ H 9 i) → (0 ≤ v589.toInt ∧ v589.toInt ≤ 369) → (∀ f, f ≠ 0 → fZ H590 0 f = fZ H 0 f) → (∀ i, i < v589.toInt.toNat → aZ H590 3 i = aZ H 2 i) → (369 - v589.toInt).toNat < N → gG 3 zB_176 (mzBlk zB_176 3) [(0, .ref 0), (1, .int a1), (2, .int v589)] [] H590 0 0 (gRi (fun v H' => gI SM H' ∧ JN H' ∧ rdTv H H' 1 T c v (wW H))) := by
        intro N
        induction N with
        | zero => intro v589 H590 hIH590 e591 m592 m593 m594 m595 m596 m597 m598 bv589 q0 q1 hmL599; exact absurd hmL599 (Nat.not_lt_zero _)
        | succ N ihL599 =>
          intro v589 H590 hIH590 e591 m592 m593 m594 m595 m596 m597 m598 bv589 q0 q1 hmL599
          refine g_iload_n rfl ?_
          refine g_sipush (by decide) (fun v600 kv600 => ?_)
          refine g_if2_ge (fun c601 => ?_) (fun c601 => ?_)
          · have hJ602 : JN H590 := JN_cp3 hJ (fun i hi => q1 i (by omega)) m593
            refine g_iconst (by decide) (fun v603 kv603 => ?_)
            refine g_istore_n (l' := [(0, .ref 0), (1, .int a1), (2, .int v603)]) rfl rfl ?_
            refine g_nop ?_
            have L614 : ∀ (N : Nat) (v604 : Int32) (H605 : mzH), gI SM H605 → JN H605 → k0_2 = fZ H605 0 2 → (∀ i, aZ H605 1 i = aZ H 1 i) → (∀ i, aZ H605 2 i = aZ H 2 i) → (∀ i, aZ H605 5 i = aZ H 5 i) → (∀ i, aZ H605 6 i = aZ H 6 i) → (∀ i, aZ H605 7 i = aZ H 7 i) → (∀ i, aZ H605 8 i = aZ H 8 i) → (∀ i, aZ H605 9 i = aZ H 9 i) → (0 ≤ v604.toInt ∧ v604.toInt ≤ 8) → (∀ f, f ≠ 0 → fZ H605 0 f = fZ H 0 f) → (∀ i, i < 369 → aZ H605 3 i = aZ H 2 i) → (∀ i, i < v604.toInt.toNat → aZ H605 4 i = aZ H 5 i) → (8 - v604.toInt).toNat < N → gG 3 zB_176 (mzBlk zB_176 5) [(0, .ref 0), (1, .int a1), (2, .int v604)] [] H605 0 0 (gRi (fun v H' => gI SM H' ∧ JN H' ∧ rdTv H H' 1 T c v (wW H))) := by
              intro N
              induction N with
              | zero => intro v604 H605 hIH605 hJH605 e606 m607 m608 m609 m610 m611 m612 m613 bv604 q0 q1 q2 hmL614; exact absurd hmL614 (Nat.not_lt_zero _)
              | succ N ihL614 =>
                intro v604 H605 hIH605 hJH605 e606 m607 m608 m609 m610 m611 m612 m613 bv604 q0 q1 q2 hmL614
                refine g_iload_n rfl ?_
                refine g_bipush (by decide) (fun v615 kv615 => ?_)
                refine g_if2_ge (fun c616 => ?_) (fun c616 => ?_)
                · refine g_aload_n rfl ?_
                  refine g_aload_n rfl ?_
                  refine g_gfi hIH605 sm_0 rfl (fun v617 ev617 lv617 uv617 => ?_)
                  refine g_pfz hIH605 sm_0 rfl (by omega) (fun H618 eH618 hIH618 => ?_)
                  have hJH618 : JN H618 := JN_sF eH618 hJH605
                  have e619 : k0_2 = fZ H618 0 2 := by rw [eH618, fZ_sF_ne (by decide)]; exact e606
                  have m620 : ∀ i, aZ H618 1 i = aZ H 1 i := fun i => (by rw [eH618, aZ_sF] : aZ H618 1 i = aZ H605 1 i).trans (m607 i)
                  have m621 : ∀ i, aZ H618 2 i = aZ H 2 i := fun i => (by rw [eH618, aZ_sF] : aZ H618 2 i = aZ H605 2 i).trans (m608 i)
                  have m622 : ∀ i, aZ H618 5 i = aZ H 5 i := fun i => (by rw [eH618, aZ_sF] : aZ H618 5 i = aZ H605 5 i).trans (m609 i)
                  have m623 : ∀ i, aZ H618 6 i = aZ H 6 i := fun i => (by rw [eH618, aZ_sF] : aZ H618 6 i = aZ H605 6 i).trans (m610 i)
                  have m624 : ∀ i, aZ H618 7 i = aZ H 7 i := fun i => (by rw [eH618, aZ_sF] : aZ H618 7 i = aZ H605 7 i).trans (m611 i)
                  have m625 : ∀ i, aZ H618 8 i = aZ H 8 i := fun i => (by rw [eH618, aZ_sF] : aZ H618 8 i = aZ H605 8 i).trans (m612 i)
                  have m626 : ∀ i, aZ H618 9 i = aZ H 9 i := fun i => (by rw [eH618, aZ_sF] : aZ H618 9 i = aZ H605 9 i).trans (m613 i)
                  have ie619 : k0_2.toInt = (fZ H618 0 2).toInt := by rw [← e619]
                  refine g_aload_n rfl ?_
                  refine g_iload_n rfl ?_
                  refine g_iconst (by decide) (fun v627 kv627 => ?_)
                  refine g_invvi hIH618 sm_0 rfl rfl rfl rfl (k_173 (b := b) (n := a1.toInt.toNat) (T := T) (c := c) a1 (by omega) v627 (by omega) H618 hIH618 hJH618 ⟨fun q hq => by rw [show bM H618 q = bM H q from by unfold bM; rw [m620]]; exact hp1 q hq, hp2⟩ (by omega) (bkM_G.mpr (bkG_cg hp3 (JN_n20 hJ (v := aZ H 2 0) rfl).2 (JN_n22 hJ (v := aZ H 2 2) rfl).2 (fun i hi => by rw [eH618, aZ_sF]; exact q1 i hi) (fun i hi => by rw [eH618, aZ_sF]; exact q2 i (by omega)) (by rw [eH618, fZ_sF_eq hIH605 sm_0 rfl, ev617]; exact (q0 18 (by decide)))))) (fun v630 H628 r629 => ?_)
                  obtain ⟨hIH628, hJH628, p631⟩ := r629
                  exact g_iret ⟨_, rfl, hIH628, hJH628, (rdTv_mk (by omega) p631 ⟨m621, m622, by rw [eH618, fZ_sF_ne (by decide)]; exact q0 18 (by decide)⟩ m623 ((wM_F eH618).trans (wm_cp q1)))⟩
                · refine g_aload_n rfl ?_
                  refine g_gfr hIH605 sm_0 rfl ?_
                  refine g_iload_n rfl ?_
                  refine g_aload_n rfl ?_
                  refine g_gfr hIH605 sm_0 rfl ?_
                  refine g_iload_n rfl ?_
                  refine g_iaload hIH605 sm_5 rfl (by omega) (fun v632 ev632 lv632 uv632 => ?_)
                  refine g_iastore hIH605 sm_4 (by omega) (gz_any _) (fun H633 eH633 hIH633 => ?_)
                  have hJH633 : JN H633 := JN_sA (by decide) eH633 hJH605
                  have e634 : k0_2 = fZ H633 0 2 := by rw [eH633, fZ_sA]; exact e606
                  have m635 : ∀ i, aZ H633 1 i = aZ H 1 i := fun i => (by rw [eH633, aZ_sA_nc (by omega)] : aZ H633 1 i = aZ H605 1 i).trans (m607 i)
                  have m636 : ∀ i, aZ H633 2 i = aZ H 2 i := fun i => (by rw [eH633, aZ_sA_nc (by omega)] : aZ H633 2 i = aZ H605 2 i).trans (m608 i)
                  have m637 : ∀ i, aZ H633 5 i = aZ H 5 i := fun i => (by rw [eH633, aZ_sA_nc (by omega)] : aZ H633 5 i = aZ H605 5 i).trans (m609 i)
                  have m638 : ∀ i, aZ H633 6 i = aZ H 6 i := fun i => (by rw [eH633, aZ_sA_nc (by omega)] : aZ H633 6 i = aZ H605 6 i).trans (m610 i)
                  have m639 : ∀ i, aZ H633 7 i = aZ H 7 i := fun i => (by rw [eH633, aZ_sA_nc (by omega)] : aZ H633 7 i = aZ H605 7 i).trans (m611 i)
                  have m640 : ∀ i, aZ H633 8 i = aZ H 8 i := fun i => (by rw [eH633, aZ_sA_nc (by omega)] : aZ H633 8 i = aZ H605 8 i).trans (m612 i)
                  have m641 : ∀ i, aZ H633 9 i = aZ H 9 i := fun i => (by rw [eH633, aZ_sA_nc (by omega)] : aZ H633 9 i = aZ H605 9 i).trans (m613 i)
                  have ie634 : k0_2.toInt = (fZ H633 0 2).toInt := by rw [← e634]
                  refine g_iinc (l' := (fun v642 => [(0, .ref 0), (1, .int a1), (2, .int v642)])) rfl rfl (by decide) (by omega) (fun _ => rfl) (fun v642 ev642 => ?_)
                  refine g_goto ?_
                  exact ihL614 v642 H633 hIH633 hJH633 e634 m635 m636 m637 m638 m639 m640 m641 (by omega) (fun f hf => by rw [eH633, fZ_sA]; exact q0 f hf) (fun i hi => by rw [eH633, aZ_sA_nc (by decide)]; exact q1 i hi) (fun q hq => by rw [eH633]; if e : v604.toInt.toNat = q then (subst e; rw [aZ_sA_eq hIH605 sm_4 (by omega), ev632, m609]) else (rw [aZ_sA_ne e]; exact q2 q (by omega))) (by omega)
            exact L614 _ v603 H590 hIH590 hJ602 e591 m592 m593 m594 m595 m596 m597 m598 (by omega) q0 (fun i hi => q1 i (by omega)) (fun i hi => absurd hi (by omega)) (Nat.lt_succ_self _)
          · refine g_aload_n rfl ?_
            refine g_gfr hIH590 sm_0 rfl ?_
            refine g_iload_n rfl ?_
            refine g_aload_n rfl ?_
            refine g_gfr hIH590 sm_0 rfl ?_
            refine g_iload_n rfl ?_
            refine g_iaload hIH590 sm_2 rfl (by omega) (fun v643 ev643 lv643 uv643 => ?_)
            refine g_iastore hIH590 sm_3 (by omega) (gz_any _) (fun H644 eH644 hIH644 => ?_)
            have e645 : k0_2 = fZ H644 0 2 := by rw [eH644, fZ_sA]; exact e591
            have m646 : ∀ i, aZ H644 1 i = aZ H 1 i := fun i => (by rw [eH644, aZ_sA_nc (by omega)] : aZ H644 1 i = aZ H590 1 i).trans (m592 i)
            have m647 : ∀ i, aZ H644 2 i = aZ H 2 i := fun i => (by rw [eH644, aZ_sA_nc (by omega)] : aZ H644 2 i = aZ H590 2 i).trans (m593 i)
            have m648 : ∀ i, aZ H644 5 i = aZ H 5 i := fun i => (by rw [eH644, aZ_sA_nc (by omega)] : aZ H644 5 i = aZ H590 5 i).trans (m594 i)
            have m649 : ∀ i, aZ H644 6 i = aZ H 6 i := fun i => (by rw [eH644, aZ_sA_nc (by omega)] : aZ H644 6 i = aZ H590 6 i).trans (m595 i)
            have m650 : ∀ i, aZ H644 7 i = aZ H 7 i := fun i => (by rw [eH644, aZ_sA_nc (by omega)] : aZ H644 7 i = aZ H590 7 i).trans (m596 i)
            have m651 : ∀ i, aZ H644 8 i = aZ H 8 i := fun i => (by rw [eH644, aZ_sA_nc (by omega)] : aZ H644 8 i = aZ H590 8 i).trans (m597 i)
            have m652 : ∀ i, aZ H644 9 i = aZ H 9 i := fun i => (by rw [eH644, aZ_sA_nc (by omega)] : aZ H644 9 i = aZ H590 9 i).trans (m598 i)
            have ie645 : k0_2.toInt = (fZ H644 0 2).toInt := by rw [← e645]
            refine g_iinc (l' := (fun v653 => [(0, .ref 0), (1, .int a1), (2, .int v653)])) rfl rfl (by decide) (by omega) (fun _ => rfl) (fun v653 ev653 => ?_)
            refine g_goto ?_
            exact ihL599 v653 H644 hIH644 e645 m646 m647 m648 m649 m650 m651 m652 (by omega) (fun f hf => by rw [eH644, fZ_sA]; exact q0 f hf) (fun q hq => by rw [eH644]; if e : v589.toInt.toNat = q then (subst e; rw [aZ_sA_eq hIH590 sm_3 (by omega), ev643, m593]) else (rw [aZ_sA_ne e]; exact q1 q (by omega))) (by omega)
      exact L599 _ v588 H576 hIH576 e577 m578 m579 m580 m581 m583 m584 m585 (by omega) (fun f hf => by rw [eH576, fZ_sF_ne (Ne.symm hf)]) (fun q hq => absurd hq (by omega)) (Nat.lt_succ_self _)
    · refine g_nop ?_
      exfalso; omega
