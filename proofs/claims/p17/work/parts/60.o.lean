set_option maxRecDepth 4000 in
set_option maxHeartbeats 4000000 in
/-- M.message -/
theorem s_202 (a1 : Int32) (a2 : Int32) (H : mzH) (hI : gI SM H) (hJ : JN H) : gCall 202 [.ref 0, .int a1, .int a2] H (gRi (fun v H' => gI SM H' ∧ JN H' ∧ fZ H' 0 2 = fZ H 0 2 ∧ kpM H H')) := by
  obtain ⟨k0_2, ek0_2⟩ : ∃ z, z = fZ H 0 2 := ⟨_, rfl⟩
  have ik0_2 : k0_2.toInt = (fZ H 0 2).toInt := by rw [← ek0_2]
  have bk0_2 : 0 ≤ k0_2.toInt ∧ k0_2.toInt ≤ 900 := by rw [ek0_2]; exact fZ_of hI sm_0 rfl
  have mkfr : kpM H H := kpM_r
  refine gG_call [(0, .ref 0), (1, .int a1), (2, .int a2)] ⟨rfl, rfl, rfl, trivial⟩ ?_
  show gG 3 zB_202 (mzBlk zB_202 0) [(0, .ref 0), (1, .int a1), (2, .int a2)] [] H 0 0 _
  refine g_aload_n rfl ?_
  refine g_iconst (by decide) (fun v257 kv257 => ?_)
  refine g_pfi hI sm_0 rfl (gz_any _) (fun H258 eH258 hIH258 => ?_)
  have hJH258 : JN H258 := JN_sF eH258 hJ
  have e259 : k0_2 = fZ H258 0 2 := by rw [eH258, fZ_sF_ne (by decide)]; exact ek0_2
  have m260 : kpM H H258 := kpM_F mkfr eH258 (by omega)
  refine g_iload_n rfl ?_
  refine g_if_lt (fun c261 => ?_) (fun c261 => ?_)
  · refine g_aload_n rfl ?_
    refine g_iconst (by decide) (fun v262 kv262 => ?_)
    refine g_pfi hIH258 sm_0 rfl (gz_any _) (fun H263 eH263 hIH263 => ?_)
    have hJH263 : JN H263 := JN_sF eH263 hJH258
    have e264 : k0_2 = fZ H263 0 2 := by rw [eH263, fZ_sF_ne (by decide)]; exact e259
    have m265 : kpM H H263 := kpM_F m260 eH263 (by omega)
    refine g_iconst (by decide) (fun v266 kv266 => ?_)
    exact g_iret ⟨_, rfl, hIH263, hJH263, (e264.symm.trans ek0_2), m265⟩
  · refine g_iload_n rfl ?_
    refine g_aload_n rfl ?_
    refine g_invvi hIH258 sm_0 rfl rfl rfl rfl (s_180 H258 hIH258 hJH258) (fun v269 H267 r268 => ?_)
    obtain ⟨rfl, bv269, p270⟩ := r268
    refine g_if2_lt (fun c271 => ?_) (fun c271 => ?_)
    · refine g_aload_n rfl ?_
      refine g_invvv hIH258 sm_0 rfl rfl rfl rfl (s_199 H258 hIH258 hJH258) (fun H272 r273 => ?_)
      obtain ⟨hIH272, hJH272, w274, w275, w276, w277, w278, m279, m280, p281⟩ := r273
      have e282 : k0_2 = fZ H272 0 2 := e259.trans w274.symm
      have m283 : kpM H H272 := kpM_t m260 m280
      refine g_iload_n rfl ?_
      refine g_sw (by decide) (fun c284 => ?_) ⟨fun c284 => ?_, fun c284 => ?_, fun c284 => ?_, fun c284 => ?_, fun c284 => ?_, fun c284 => ?_, fun c284 => ?_, trivial⟩
      · refine g_aload_n rfl ?_
        refine g_iconst (by decide) (fun v285 kv285 => ?_)
        refine g_pfi hIH272 sm_0 rfl (gz_any _) (fun H286 eH286 hIH286 => ?_)
        have hJH286 : JM H286 := JM_sF eH286 hJH272
        have e287 : k0_2 = fZ H286 0 2 := by rw [eH286, fZ_sF_ne (by decide)]; exact e282
        have m288 : kpM H H286 := kpM_F m283 eH286 (by omega)
        refine g_iconst (by decide) (fun v289 kv289 => ?_)
        exact g_iret ⟨_, rfl, hIH286, (JM_n hJH286), (e287.symm.trans ek0_2), m288⟩
      · refine g_aload_n rfl ?_
        refine g_iload_n rfl ?_
        refine g_iload_n rfl ?_
        refine g_invvi hIH272 sm_0 rfl rfl rfl rfl (s_181 a1 (by omega) a2 (by omega) H272 hIH272 (JM_n hJH272)) (fun v292 H290 r291 => ?_)
        obtain ⟨rfl, p293⟩ := r291
        exact g_iret ⟨_, rfl, hIH272, (JM_n hJH272), (e282.symm.trans ek0_2), m283⟩
      · refine g_aload_n rfl ?_
        refine g_iload_n rfl ?_
        refine g_iload_n rfl ?_
        refine g_invvi hIH272 sm_0 rfl rfl rfl rfl (s_181 a1 (by omega) a2 (by omega) H272 hIH272 (JM_n hJH272)) (fun v296 H294 r295 => ?_)
        obtain ⟨rfl, p297⟩ := r295
        exact g_iret ⟨_, rfl, hIH272, (JM_n hJH272), (e282.symm.trans ek0_2), m283⟩
      · refine g_aload_n rfl ?_
        refine g_iload_n rfl ?_
        refine g_iload_n rfl ?_
        refine g_invvi hIH272 sm_0 rfl rfl rfl rfl (s_181 a1 (by omega) a2 (by omega) H272 hIH272 (JM_n hJH272)) (fun v300 H298 r299 => ?_)
        obtain ⟨rfl, p301⟩ := r299
        exact g_iret ⟨_, rfl, hIH272, (JM_n hJH272), (e282.symm.trans ek0_2), m283⟩
      · refine g_aload_n rfl ?_
        refine g_iload_n rfl ?_
        refine g_iload_n rfl ?_
        refine g_invvi hIH272 sm_0 rfl rfl rfl rfl (s_181 a1 (by omega) a2 (by omega) H272 hIH272 (JM_n hJH272)) (fun v304 H302 r303 => ?_)
        obtain ⟨rfl, p305⟩ := r303
        exact g_iret ⟨_, rfl, hIH272, (JM_n hJH272), (e282.symm.trans ek0_2), m283⟩
      · refine g_aload_n rfl ?_
        refine g_gfr hIH272 sm_0 rfl ?_
        refine g_iload_n rfl ?_
        refine g_iaload hIH272 sm_20 rfl (by omega) (fun v306 ev306 lv306 uv306 => ?_)
        exact g_iret ⟨_, rfl, hIH272, (JM_n hJH272), (e282.symm.trans ek0_2), m283⟩
      · refine g_aload_n rfl ?_
        refine g_iload_n rfl ?_
        refine g_invvi hIH272 sm_0 rfl rfl rfl rfl (s_203 a1 (by omega) H272 hIH272 (JM_n hJH272) (by obtain ⟨p, hp, e⟩ := p281 a1.toInt.toNat (by rw [m279 2]; omega); exact ⟨p, hp, by omega⟩)) (fun v309 H307 r308 => ?_)
        obtain rfl := r308
        exact g_iret ⟨_, rfl, hIH272, (JM_n hJH272), (e282.symm.trans ek0_2), m283⟩
      · refine g_aload_n rfl ?_
        refine g_iload_n rfl ?_
        refine g_invvi hIH272 sm_0 rfl rfl rfl rfl (s_204 a1 (by omega) H272 hIH272 (JM_n hJH272)) (fun v312 H310 r311 => ?_)
        obtain ⟨rfl, bv312⟩ := r311
        refine g_if_eq (fun c313 => ?_) (fun c313 => ?_)
        · refine g_iconst (by decide) (fun v314 kv314 => ?_)
          refine g_nop ?_
          exact g_iret ⟨_, rfl, hIH272, (JM_n hJH272), (e282.symm.trans ek0_2), m283⟩
        · refine g_iconst (by decide) (fun v315 kv315 => ?_)
          refine g_goto ?_
          exact g_iret ⟨_, rfl, hIH272, (JM_n hJH272), (e282.symm.trans ek0_2), m283⟩
    · refine g_nop ?_
      refine g_aload_n rfl ?_
      refine g_iconst (by decide) (fun v316 kv316 => ?_)
      refine g_pfi hIH258 sm_0 rfl (gz_any _) (fun H317 eH317 hIH317 => ?_)
      have hJH317 : JN H317 := JN_sF eH317 hJH258
      have e318 : k0_2 = fZ H317 0 2 := by rw [eH317, fZ_sF_ne (by decide)]; exact e259
      have m319 : kpM H H317 := kpM_F m260 eH317 (by omega)
      refine g_iconst (by decide) (fun v320 kv320 => ?_)
      exact g_iret ⟨_, rfl, hIH317, hJH317, (e318.symm.trans ek0_2), m319⟩
set_option maxRecDepth 4000 in
set_option maxHeartbeats 4000000 in
/-- M.isThing -/
theorem s_205 (a0 : Int32) (H : mzH) (hI : gI SM H) (hJ : JN H) : gCall 205 [.int a0] H (gRi (fun v H' => H = H' ∧ (0 ≤ v.toInt ∧ v.toInt ≤ 1) ∧ (v.toInt = 0 ∨ (0 ≤ a0.toInt ∧ a0.toInt ≤ 39)))) := by
  refine gG_call [(0, .int a0)] ⟨rfl, trivial⟩ ?_
  show gG 1 zB_205 (mzBlk zB_205 0) [(0, .int a0)] [] H 0 0 _
  refine g_iload_n rfl ?_
  refine g_if_lt (fun c25 => ?_) (fun c25 => ?_)
  · refine g_iconst (by decide) (fun v26 kv26 => ?_)
    refine g_nop ?_
    exact g_zret (by omega) ⟨_, rfl, rfl, (by omega), (by omega)⟩
  · refine g_iload_n rfl ?_
    refine g_bipush (by decide) (fun v27 kv27 => ?_)
    refine g_if2_ge (fun c28 => ?_) (fun c28 => ?_)
    · refine g_iconst (by decide) (fun v29 kv29 => ?_)
      refine g_nop ?_
      exact g_zret (by omega) ⟨_, rfl, rfl, (by omega), (by omega)⟩
    · refine g_iconst (by decide) (fun v30 kv30 => ?_)
      refine g_goto ?_
      exact g_zret (by omega) ⟨_, rfl, rfl, (by omega), (by omega)⟩
set_option maxRecDepth 4000 in
set_option maxHeartbeats 4000000 in
/-- M.isHour -/
theorem s_206 (a0 : Int32) (H : mzH) (hI : gI SM H) (hJ : JN H) : gCall 206 [.int a0] H (gRi (fun v H' => H = H' ∧ (0 ≤ v.toInt ∧ v.toInt ≤ 1))) := by
  refine gG_call [(0, .int a0)] ⟨rfl, trivial⟩ ?_
  show gG 1 zB_206 (mzBlk zB_206 0) [(0, .int a0)] [] H 0 0 _
  refine g_iload_n rfl ?_
  refine g_if_lt (fun c25 => ?_) (fun c25 => ?_)
  · refine g_iconst (by decide) (fun v26 kv26 => ?_)
    refine g_nop ?_
    exact g_zret (by omega) ⟨_, rfl, rfl, (by omega)⟩
  · refine g_iload_n rfl ?_
    refine g_sipush (by decide) (fun v27 kv27 => ?_)
    refine g_if2_gt (fun c28 => ?_) (fun c28 => ?_)
    · refine g_iconst (by decide) (fun v29 kv29 => ?_)
      refine g_nop ?_
      exact g_zret (by omega) ⟨_, rfl, rfl, (by omega)⟩
    · refine g_iconst (by decide) (fun v30 kv30 => ?_)
      refine g_goto ?_
      exact g_zret (by omega) ⟨_, rfl, rfl, (by omega)⟩
set_option maxRecDepth 4000 in
set_option maxHeartbeats 4000000 in
/-- M.allIn -/
theorem s_207 (a1 : Int32) (H : mzH) (hI : gI SM H) (hJ : JM H) : gCall 207 [.ref 0, .int a1] H (gRi (fun v H' => H = H')) := by
  refine gG_call [(0, .ref 0), (1, .int a1)] ⟨rfl, rfl, trivial⟩ ?_
  show gG 4 zB_207 (mzBlk zB_207 0) [(0, .ref 0), (1, .int a1)] [] H 0 0 _
  refine g_iconst (by decide) (fun v459 kv459 => ?_)
  refine g_istore_n (l' := [(0, .ref 0), (1, .int a1), (2, .int v459)]) rfl rfl ?_
  refine g_iconst (by decide) (fun v460 kv460 => ?_)
  refine g_istore_n (l' := [(0, .ref 0), (1, .int a1), (2, .int v459), (3, .int v460)]) rfl rfl ?_
  refine g_nop ?_
  have L463 : ∀ (N : Nat) (v461 : Int32) (v462 : Int32), (0 ≤ v462.toInt ∧ v462.toInt ≤ 40) → (40 - v462.toInt).toNat < N → gG 4 zB_207 (mzBlk zB_207 1) [(0, .ref 0), (1, .int a1), (2, .int v461), (3, .int v462)] [] H 0 0 (gRi (fun v H' => H = H')) := by
    intro N
    induction N with
    | zero => intro v461 v462 bv462 hmL463; exact absurd hmL463 (Nat.not_lt_zero _)
    | succ N ihL463 =>
      intro v461 v462 bv462 hmL463
      refine g_iload_n rfl ?_
      refine g_bipush (by decide) (fun v464 kv464 => ?_)
      refine g_if2_ge (fun c465 => ?_) (fun c465 => ?_)
      · refine g_iload_n rfl ?_
        exact g_iret ⟨_, rfl, rfl⟩
      · refine g_iload_n rfl ?_
        refine g_aload_n rfl ?_
        refine g_iload_n rfl ?_
        refine g_iload_n rfl ?_
        refine g_invvi hI sm_0 rfl rfl rfl rfl (s_186 v462 (by omega) a1 H hI hJ) (fun v468 H466 r467 => ?_)
        obtain ⟨rfl, bv468⟩ := r467
        refine g_if_eq (fun c469 => ?_) (fun c469 => ?_)
        · refine g_iconst (by decide) (fun v470 kv470 => ?_)
          refine g_nop ?_
          refine g_iadd (by have := gz_any v461; omega) (fun v471 ev471 => ?_)
          refine g_istore_n (l' := [(0, .ref 0), (1, .int a1), (2, .int v471), (3, .int v462)]) rfl rfl ?_
          refine g_iinc (l' := (fun v472 => [(0, .ref 0), (1, .int a1), (2, .int v471), (3, .int v472)])) rfl rfl (by decide) (by omega) (fun _ => rfl) (fun v472 ev472 => ?_)
          refine g_goto ?_
          exact ihL463 v471 v472 (by omega) (by omega)
        · refine g_iconst (by decide) (fun v473 kv473 => ?_)
          refine g_goto ?_
          refine g_iadd' (fun v474 ov474 => ?_)
          refine g_istore_n (l' := [(0, .ref 0), (1, .int a1), (2, .int v474), (3, .int v462)]) rfl rfl ?_
          refine g_iinc (l' := (fun v475 => [(0, .ref 0), (1, .int a1), (2, .int v474), (3, .int v475)])) rfl rfl (by decide) (by omega) (fun _ => rfl) (fun v475 ev475 => ?_)
          refine g_goto ?_
          exact ihL463 v474 v475 (by omega) (by omega)
  exact L463 _ v459 v460 (by omega) (Nat.lt_succ_self _)
set_option maxRecDepth 4000 in
set_option maxHeartbeats 4000000 in
/-- M.thing -/
theorem s_208 (a1 : Int32) (a2 : Int32) (a3 : Int32) (H : mzH) (hI : gI SM H) (hJ : JN H) : gCall 208 [.ref 0, .int a1, .int a2, .int a3] H (gRi (fun v H' => gI SM H' ∧ JN H' ∧ fZ H' 0 2 = fZ H 0 2 ∧ kpM H H')) := by
  obtain ⟨k0_2, ek0_2⟩ : ∃ z, z = fZ H 0 2 := ⟨_, rfl⟩
  have ik0_2 : k0_2.toInt = (fZ H 0 2).toInt := by rw [← ek0_2]
  have bk0_2 : 0 ≤ k0_2.toInt ∧ k0_2.toInt ≤ 900 := by rw [ek0_2]; exact fZ_of hI sm_0 rfl
  have mkfr : kpM H H := kpM_r
  refine gG_call [(0, .ref 0), (1, .int a1), (2, .int a2), (3, .int a3)] ⟨rfl, rfl, rfl, rfl, trivial⟩ ?_
  show gG 4 zB_208 (mzBlk zB_208 0) [(0, .ref 0), (1, .int a1), (2, .int a2), (3, .int a3)] [] H 0 0 _
  refine g_aload_n rfl ?_
  refine g_iconst (by decide) (fun v241 kv241 => ?_)
  refine g_pfi hI sm_0 rfl (gz_any _) (fun H242 eH242 hIH242 => ?_)
  have hJH242 : JN H242 := JN_sF eH242 hJ
  have e243 : k0_2 = fZ H242 0 2 := by rw [eH242, fZ_sF_ne (by decide)]; exact ek0_2
  have m244 : kpM H H242 := kpM_F mkfr eH242 (by omega)
  refine g_iload_n rfl ?_
  refine g_invti rfl rfl rfl (s_205 a1 H242 hIH242 hJH242) (fun v247 H245 r246 => ?_)
  obtain ⟨rfl, bv247, p248⟩ := r246
  refine g_if_eq (fun c249 => ?_) (fun c249 => ?_)
  · refine g_iconst (by decide) (fun v250 kv250 => ?_)
    exact g_iret ⟨_, rfl, hIH242, hJH242, (e243.symm.trans ek0_2), m244⟩
  · refine g_iload_n rfl ?_
    refine g_invti rfl rfl rfl (s_206 a2 H242 hIH242 hJH242) (fun v253 H251 r252 => ?_)
    obtain ⟨rfl, bv253⟩ := r252
    refine g_if_eq (fun c254 => ?_) (fun c254 => ?_)
    · refine g_iconst (by decide) (fun v255 kv255 => ?_)
      exact g_iret ⟨_, rfl, hIH242, hJH242, (e243.symm.trans ek0_2), m244⟩
    · refine g_iload_n rfl ?_
      refine g_if_lt (fun c256 => ?_) (fun c256 => ?_)
      · refine g_iconst (by decide) (fun v257 kv257 => ?_)
        exact g_iret ⟨_, rfl, hIH242, hJH242, (e243.symm.trans ek0_2), m244⟩
      · refine g_iload_n rfl ?_
        refine g_bipush (by decide) (fun v258 kv258 => ?_)
        refine g_if2_le (fun c259 => ?_) (fun c259 => ?_)
        · refine g_aload_n rfl ?_
          refine g_iload_n rfl ?_
          refine g_invvv hIH242 sm_0 rfl rfl rfl rfl (s_200 a2 H242 hIH242 hJH242) (fun H260 r261 => ?_)
          obtain ⟨hIH260, hJH260, w262, m263⟩ := r261
          have e264 : k0_2 = fZ H260 0 2 := e243.trans w262.symm
          have m265 : kpM H H260 := kpM_t m244 m263
          refine g_aload_n rfl ?_
          refine g_gfr hIH260 sm_0 rfl ?_
          refine g_iload_n rfl ?_
          refine g_baload hIH260 sm_7 rfl (by omega) (fun v266 ev266 lv266 uv266 => ?_)
          refine g_if_ne (fun c267 => ?_) (fun c267 => ?_)
          · refine g_aload_n rfl ?_
            refine g_gfr hIH260 sm_0 rfl ?_
            refine g_iload_n rfl ?_
            refine g_baload hIH260 sm_16 rfl (by omega) (fun v268 ev268 lv268 uv268 => ?_)
            refine g_if_eq (fun c269 => ?_) (fun c269 => ?_)
            · refine g_iload_n rfl ?_
              refine g_sw (by decide) (fun c270 => ?_) ⟨fun c270 => ?_, fun c270 => ?_, fun c270 => ?_, fun c270 => ?_, fun c270 => ?_, fun c270 => ?_, fun c270 => ?_, fun c270 => ?_, fun c270 => ?_, trivial⟩
              · refine g_aload_n rfl ?_
                refine g_iload_n rfl ?_
                refine g_invvi hIH260 sm_0 rfl rfl rfl rfl (s_207 a1 H260 hIH260 hJH260) (fun v273 H271 r272 => ?_)
                obtain rfl := r272
                exact g_iret ⟨_, rfl, hIH260, (JM_n hJH260), (e264.symm.trans ek0_2), m265⟩
              · refine g_aload_n rfl ?_
                refine g_gfr hIH260 sm_0 rfl ?_
                refine g_iload_n rfl ?_
                refine g_iaload hIH260 sm_8 rfl (by omega) (fun v274 ev274 lv274 uv274 => ?_)
                exact g_iret ⟨_, rfl, hIH260, (JM_n hJH260), (e264.symm.trans ek0_2), m265⟩
              · refine g_aload_n rfl ?_
                refine g_gfr hIH260 sm_0 rfl ?_
                refine g_iload_n rfl ?_
                refine g_iaload hIH260 sm_9 rfl (by omega) (fun v275 ev275 lv275 uv275 => ?_)
                have qv275 := JM_in hJH260 (by omega) ev275
                exact g_iret ⟨_, rfl, hIH260, (JM_n hJH260), (e264.symm.trans ek0_2), m265⟩
              · refine g_aload_n rfl ?_
                refine g_iload_n rfl ?_
                refine g_invvi hIH260 sm_0 rfl rfl rfl rfl (s_185 a1 (by omega) H260 hIH260 hJH260) (fun v278 H276 r277 => ?_)
                obtain ⟨rfl, bv278⟩ := r277
                exact g_iret ⟨_, rfl, hIH260, (JM_n hJH260), (e264.symm.trans ek0_2), m265⟩
              · refine g_aload_n rfl ?_
                refine g_iload_n rfl ?_
                refine g_invvi hIH260 sm_0 rfl rfl rfl rfl (s_201 a1 (by omega) H260 hIH260 hJH260) (fun v281 H279 r280 => ?_)
                obtain ⟨rfl, bv281⟩ := r280
                exact g_iret ⟨_, rfl, hIH260, (JM_n hJH260), (e264.symm.trans ek0_2), m265⟩
              · refine g_aload_n rfl ?_
                refine g_gfr hIH260 sm_0 rfl ?_
                refine g_iload_n rfl ?_
                refine g_baload hIH260 sm_13 rfl (by omega) (fun v282 ev282 lv282 uv282 => ?_)
                refine g_if_eq (fun c283 => ?_) (fun c283 => ?_)
                · refine g_iconst (by decide) (fun v284 kv284 => ?_)
                  refine g_nop ?_
                  exact g_iret ⟨_, rfl, hIH260, (JM_n hJH260), (e264.symm.trans ek0_2), m265⟩
                · refine g_iconst (by decide) (fun v285 kv285 => ?_)
                  refine g_goto ?_
                  exact g_iret ⟨_, rfl, hIH260, (JM_n hJH260), (e264.symm.trans ek0_2), m265⟩
              · refine g_aload_n rfl ?_
                refine g_gfr hIH260 sm_0 rfl ?_
                refine g_iload_n rfl ?_
                refine g_baload hIH260 sm_14 rfl (by omega) (fun v286 ev286 lv286 uv286 => ?_)
                refine g_if_eq (fun c287 => ?_) (fun c287 => ?_)
                · refine g_iconst (by decide) (fun v288 kv288 => ?_)
                  refine g_nop ?_
                  exact g_iret ⟨_, rfl, hIH260, (JM_n hJH260), (e264.symm.trans ek0_2), m265⟩
                · refine g_iconst (by decide) (fun v289 kv289 => ?_)
                  refine g_goto ?_
                  exact g_iret ⟨_, rfl, hIH260, (JM_n hJH260), (e264.symm.trans ek0_2), m265⟩
              · refine g_aload_n rfl ?_
                refine g_gfr hIH260 sm_0 rfl ?_
                refine g_iload_n rfl ?_
                refine g_iaload hIH260 sm_12 rfl (by omega) (fun v290 ev290 lv290 uv290 => ?_)
                exact g_iret ⟨_, rfl, hIH260, (JM_n hJH260), (e264.symm.trans ek0_2), m265⟩
              · refine g_aload_n rfl ?_
                refine g_gfr hIH260 sm_0 rfl ?_
                refine g_aload_n rfl ?_
                refine g_iload_n rfl ?_
                refine g_invvi hIH260 sm_0 rfl rfl rfl rfl (s_185 a1 (by omega) H260 hIH260 hJH260) (fun v293 H291 r292 => ?_)
                obtain ⟨rfl, bv293⟩ := r292
                refine g_iaload hIH260 sm_11 rfl (by omega) (fun v294 ev294 lv294 uv294 => ?_)
                exact g_iret ⟨_, rfl, hIH260, (JM_n hJH260), (e264.symm.trans ek0_2), m265⟩
              · refine g_aload_n rfl ?_
                refine g_iload_n rfl ?_
                refine g_invvi hIH260 sm_0 rfl rfl rfl rfl (s_188 a1 H260 hIH260 (JM_n hJH260)) (fun v297 H295 r296 => ?_)
                obtain rfl := r296
                exact g_iret ⟨_, rfl, hIH260, (JM_n hJH260), (e264.symm.trans ek0_2), m265⟩
            · refine g_bipush (by decide) (fun v298 kv298 => ?_)
              exact g_iret ⟨_, rfl, hIH260, (JM_n hJH260), (e264.symm.trans ek0_2), m265⟩
          · refine g_bipush (by decide) (fun v299 kv299 => ?_)
            exact g_iret ⟨_, rfl, hIH260, (JM_n hJH260), (e264.symm.trans ek0_2), m265⟩
        · refine g_nop ?_
          refine g_iconst (by decide) (fun v300 kv300 => ?_)
          exact g_iret ⟨_, rfl, hIH242, hJH242, (e243.symm.trans ek0_2), m244⟩
set_option maxRecDepth 4000 in
set_option maxHeartbeats 4000000 in
/-- M.inside -/
theorem s_209 (a1 : Int32) (a2 : Int32) (a3 : Int32) (H : mzH) (hI : gI SM H) (hJ : JN H) : gCall 209 [.ref 0, .int a1, .int a2, .int a3] H (gRi (fun v H' => gI SM H' ∧ JN H' ∧ fZ H' 0 2 = fZ H 0 2 ∧ kpM H H')) := by
  obtain ⟨k0_2, ek0_2⟩ : ∃ z, z = fZ H 0 2 := ⟨_, rfl⟩
  have ik0_2 : k0_2.toInt = (fZ H 0 2).toInt := by rw [← ek0_2]
  have bk0_2 : 0 ≤ k0_2.toInt ∧ k0_2.toInt ≤ 900 := by rw [ek0_2]; exact fZ_of hI sm_0 rfl
  have mkfr : kpM H H := kpM_r
  refine gG_call [(0, .ref 0), (1, .int a1), (2, .int a2), (3, .int a3)] ⟨rfl, rfl, rfl, rfl, trivial⟩ ?_
  show gG 6 zB_209 (mzBlk zB_209 0) [(0, .ref 0), (1, .int a1), (2, .int a2), (3, .int a3)] [] H 0 0 _
  refine g_aload_n rfl ?_
  refine g_iconst (by decide) (fun v281 kv281 => ?_)
  refine g_pfi hI sm_0 rfl (gz_any _) (fun H282 eH282 hIH282 => ?_)
  have hJH282 : JN H282 := JN_sF eH282 hJ
  have e283 : k0_2 = fZ H282 0 2 := by rw [eH282, fZ_sF_ne (by decide)]; exact ek0_2
  have m284 : kpM H H282 := kpM_F mkfr eH282 (by omega)
  refine g_iload_n rfl ?_
  refine g_invti rfl rfl rfl (s_205 a1 H282 hIH282 hJH282) (fun v287 H285 r286 => ?_)
  obtain ⟨rfl, bv287, p288⟩ := r286
  refine g_if_eq (fun c289 => ?_) (fun c289 => ?_)
  · refine g_iconst (by decide) (fun v290 kv290 => ?_)
    exact g_iret ⟨_, rfl, hIH282, hJH282, (e283.symm.trans ek0_2), m284⟩
  · refine g_iload_n rfl ?_
    refine g_invti rfl rfl rfl (s_206 a2 H282 hIH282 hJH282) (fun v293 H291 r292 => ?_)
    obtain ⟨rfl, bv293⟩ := r292
    refine g_if_eq (fun c294 => ?_) (fun c294 => ?_)
    · refine g_iconst (by decide) (fun v295 kv295 => ?_)
      exact g_iret ⟨_, rfl, hIH282, hJH282, (e283.symm.trans ek0_2), m284⟩
    · refine g_iload_n rfl ?_
      refine g_if_ge (fun c296 => ?_) (fun c296 => ?_)
      · refine g_aload_n rfl ?_
        refine g_iload_n rfl ?_
        refine g_invvv hIH282 sm_0 rfl rfl rfl rfl (s_200 a2 H282 hIH282 hJH282) (fun H297 r298 => ?_)
        obtain ⟨hIH297, hJH297, w299, m300⟩ := r298
        have e301 : k0_2 = fZ H297 0 2 := e283.trans w299.symm
        have m302 : kpM H H297 := kpM_t m284 m300
        refine g_iload_n rfl ?_
        refine g_istore (l' := [(0, .ref 0), (1, .int a1), (2, .int a2), (3, .int a3), (4, .int a3)]) rfl rfl ?_
        refine g_iconst (by decide) (fun v303 kv303 => ?_)
        refine g_istore (l' := [(0, .ref 0), (1, .int a1), (2, .int a2), (3, .int a3), (4, .int a3), (5, .int v303)]) rfl rfl ?_
        refine g_nop ?_
        have L306 : ∀ (N : Nat) (v304 : Int32) (v305 : Int32), (0 ≤ v304.toInt ∧ v304.toInt ≤ 2147483647) → (0 ≤ v305.toInt ∧ v305.toInt ≤ 40) → (40 - v305.toInt).toNat < N → gG 6 zB_209 (mzBlk zB_209 3) [(0, .ref 0), (1, .int a1), (2, .int a2), (3, .int a3), (4, .int v304), (5, .int v305)] [] H297 0 0 (gRi (fun v H' => gI SM H' ∧ JN H' ∧ fZ H' 0 2 = fZ H 0 2 ∧ kpM H H')) := by
          intro N
          induction N with
          | zero => intro v304 v305 bv304 bv305 hmL306; exact absurd hmL306 (Nat.not_lt_zero _)
          | succ N ihL306 =>
            intro v304 v305 bv304 bv305 hmL306
            refine g_iload rfl ?_
            refine g_bipush (by decide) (fun v307 kv307 => ?_)
            refine g_if2_ge (fun c308 => ?_) (fun c308 => ?_)
            · refine g_bipush (by decide) (fun v309 kv309 => ?_)
              exact g_iret ⟨_, rfl, hIH297, (JM_n hJH297), (e301.symm.trans ek0_2), m302⟩
            · refine g_aload_n rfl ?_
              refine g_iload rfl ?_
              refine g_iload_n rfl ?_
              refine g_invvi hIH297 sm_0 rfl rfl rfl rfl (s_186 v305 (by omega) a1 H297 hIH297 hJH297) (fun v312 H310 r311 => ?_)
              obtain ⟨rfl, bv312⟩ := r311
              refine g_if_ne (fun c313 => ?_) (fun c313 => ?_)
              · refine g_iload rfl ?_
                refine g_if_ne (fun c314 => ?_) (fun c314 => ?_)
                · refine g_iinc (l' := (fun v315 => [(0, .ref 0), (1, .int a1), (2, .int a2), (3, .int a3), (4, .int v315), (5, .int v305)])) rfl rfl (by decide) (by have := gz_any v304; omega) (fun _ => rfl) (fun v315 ev315 => ?_)
                  refine g_nop ?_
                  refine g_iinc (l' := (fun v316 => [(0, .ref 0), (1, .int a1), (2, .int a2), (3, .int a3), (4, .int v315), (5, .int v316)])) rfl rfl (by decide) (by omega) (fun _ => rfl) (fun v316 ev316 => ?_)
                  refine g_goto ?_
                  exact ihL306 v315 v316 (by have := gz_any v315; omega) (by omega) (by omega)
                · refine g_iload rfl ?_
                  exact g_iret ⟨_, rfl, hIH297, (JM_n hJH297), (e301.symm.trans ek0_2), m302⟩
              · refine g_goto ?_
                refine g_iinc (l' := (fun v317 => [(0, .ref 0), (1, .int a1), (2, .int a2), (3, .int a3), (4, .int v304), (5, .int v317)])) rfl rfl (by decide) (by omega) (fun _ => rfl) (fun v317 ev317 => ?_)
                refine g_goto ?_
                exact ihL306 v304 v317 (by have := gz_any v304; omega) (by omega) (by omega)
        exact L306 _ a3 v303 (by have := gz_any a3; omega) (by omega) (Nat.lt_succ_self _)
      · refine g_nop ?_
        refine g_iconst (by decide) (fun v318 kv318 => ?_)
        exact g_iret ⟨_, rfl, hIH282, hJH282, (e283.symm.trans ek0_2), m284⟩
set_option maxRecDepth 4000 in
set_option maxHeartbeats 4000000 in
/-- M.there -/
theorem s_211 (a1 : Int32) (a2 : Int32) (a3 : Int32) (H : mzH) (hI : gI SM H) (hJ : JN H) : gCall 211 [.ref 0, .int a1, .int a2, .int a3] H (gRi (fun v H' => gI SM H' ∧ JN H' ∧ fZ H' 0 2 = fZ H 0 2 ∧ kpM H H')) := by
  obtain ⟨k0_2, ek0_2⟩ : ∃ z, z = fZ H 0 2 := ⟨_, rfl⟩
  have ik0_2 : k0_2.toInt = (fZ H 0 2).toInt := by rw [← ek0_2]
  have bk0_2 : 0 ≤ k0_2.toInt ∧ k0_2.toInt ≤ 900 := by rw [ek0_2]; exact fZ_of hI sm_0 rfl
  have mkfr : kpM H H := kpM_r
  refine gG_call [(0, .ref 0), (1, .int a1), (2, .int a2), (3, .int a3)] ⟨rfl, rfl, rfl, rfl, trivial⟩ ?_
  show gG 6 zB_211 (mzBlk zB_211 0) [(0, .ref 0), (1, .int a1), (2, .int a2), (3, .int a3)] [] H 0 0 _
  refine g_aload_n rfl ?_
  refine g_iconst (by decide) (fun v409 kv409 => ?_)
  refine g_pfi hI sm_0 rfl (gz_any _) (fun H410 eH410 hIH410 => ?_)
  have hJH410 : JN H410 := JN_sF eH410 hJ
  have e411 : k0_2 = fZ H410 0 2 := by rw [eH410, fZ_sF_ne (by decide)]; exact ek0_2
  have m412 : kpM H H410 := kpM_F mkfr eH410 (by omega)
  refine g_aload_n rfl ?_
  refine g_iload_n rfl ?_
  refine g_invvi hIH410 sm_0 rfl rfl rfl rfl (s_210 a1 H410 hIH410 hJH410) (fun v415 H413 r414 => ?_)
  obtain ⟨rfl, bv415, p416⟩ := r414
  refine g_if_ne (fun c417 => ?_) (fun c417 => ?_)
  · refine g_iload_n rfl ?_
    refine g_invti rfl rfl rfl (s_206 a2 H410 hIH410 hJH410) (fun v420 H418 r419 => ?_)
    obtain ⟨rfl, bv420⟩ := r419
    refine g_if_eq (fun c421 => ?_) (fun c421 => ?_)
    · refine g_iconst (by decide) (fun v422 kv422 => ?_)
      exact g_iret ⟨_, rfl, hIH410, hJH410, (e411.symm.trans ek0_2), m412⟩
    · refine g_iload_n rfl ?_
      refine g_if_ge (fun c423 => ?_) (fun c423 => ?_)
      · refine g_aload_n rfl ?_
        refine g_iload_n rfl ?_
        refine g_invvv hIH410 sm_0 rfl rfl rfl rfl (s_200 a2 H410 hIH410 hJH410) (fun H424 r425 => ?_)
        obtain ⟨hIH424, hJH424, w426, m427⟩ := r425
        have e428 : k0_2 = fZ H424 0 2 := e411.trans w426.symm
        have m429 : kpM H H424 := kpM_t m412 m427
        refine g_iload_n rfl ?_
        refine g_istore (l' := [(0, .ref 0), (1, .int a1), (2, .int a2), (3, .int a3), (4, .int a3)]) rfl rfl ?_
        refine g_iconst (by decide) (fun v430 kv430 => ?_)
        refine g_istore (l' := [(0, .ref 0), (1, .int a1), (2, .int a2), (3, .int a3), (4, .int a3), (5, .int v430)]) rfl rfl ?_
        refine g_nop ?_
        have L433 : ∀ (N : Nat) (v431 : Int32) (v432 : Int32), (0 ≤ v431.toInt ∧ v431.toInt ≤ 2147483647) → (0 ≤ v432.toInt ∧ v432.toInt ≤ 40) → (40 - v432.toInt).toNat < N → gG 6 zB_211 (mzBlk zB_211 4) [(0, .ref 0), (1, .int a1), (2, .int a2), (3, .int a3), (4, .int v431), (5, .int v432)] [] H424 0 0 (gRi (fun v H' => gI SM H' ∧ JN H' ∧ fZ H' 0 2 = fZ H 0 2 ∧ kpM H H')) := by
          intro N
          induction N with
          | zero => intro v431 v432 bv431 bv432 hmL433; exact absurd hmL433 (Nat.not_lt_zero _)
          | succ N ihL433 =>
            intro v431 v432 bv431 bv432 hmL433
            refine g_iload rfl ?_
            refine g_bipush (by decide) (fun v434 kv434 => ?_)
            refine g_if2_ge (fun c435 => ?_) (fun c435 => ?_)
            · refine g_bipush (by decide) (fun v436 kv436 => ?_)
              exact g_iret ⟨_, rfl, hIH424, (JM_n hJH424), (e428.symm.trans ek0_2), m429⟩
            · refine g_aload_n rfl ?_
              refine g_iload rfl ?_
              refine g_invvi hIH424 sm_0 rfl rfl rfl rfl (s_201 v432 (by omega) H424 hIH424 hJH424) (fun v439 H437 r438 => ?_)
              obtain ⟨rfl, bv439⟩ := r438
              refine g_iload_n rfl ?_
              refine g_if2_eq (fun c440 => ?_) (fun c440 => ?_)
              · refine g_iload rfl ?_
                refine g_if_ne (fun c441 => ?_) (fun c441 => ?_)
                · refine g_iinc (l' := (fun v442 => [(0, .ref 0), (1, .int a1), (2, .int a2), (3, .int a3), (4, .int v442), (5, .int v432)])) rfl rfl (by decide) (by have := gz_any v431; omega) (fun _ => rfl) (fun v442 ev442 => ?_)
                  refine g_nop ?_
                  refine g_iinc (l' := (fun v443 => [(0, .ref 0), (1, .int a1), (2, .int a2), (3, .int a3), (4, .int v442), (5, .int v443)])) rfl rfl (by decide) (by omega) (fun _ => rfl) (fun v443 ev443 => ?_)
                  refine g_goto ?_
                  exact ihL433 v442 v443 (by have := gz_any v442; omega) (by omega) (by omega)
                · refine g_iload rfl ?_
                  exact g_iret ⟨_, rfl, hIH424, (JM_n hJH424), (e428.symm.trans ek0_2), m429⟩
              · refine g_goto ?_
                refine g_iinc (l' := (fun v444 => [(0, .ref 0), (1, .int a1), (2, .int a2), (3, .int a3), (4, .int v431), (5, .int v444)])) rfl rfl (by decide) (by omega) (fun _ => rfl) (fun v444 ev444 => ?_)
                refine g_goto ?_
                exact ihL433 v431 v444 (by have := gz_any v431; omega) (by omega) (by omega)
        exact L433 _ a3 v430 (by have := gz_any a3; omega) (by omega) (Nat.lt_succ_self _)
      · refine g_nop ?_
        refine g_iconst (by decide) (fun v445 kv445 => ?_)
        exact g_iret ⟨_, rfl, hIH410, hJH410, (e411.symm.trans ek0_2), m412⟩
  · refine g_iload_n rfl ?_
    refine g_bipush (by decide) (fun v446 kv446 => ?_)
    refine g_if2_eq (fun c447 => ?_) (fun c447 => ?_)
    · refine g_iload_n rfl ?_
      refine g_invti rfl rfl rfl (s_206 a2 H410 hIH410 hJH410) (fun v450 H448 r449 => ?_)
      obtain ⟨rfl, bv450⟩ := r449
      refine g_if_eq (fun c451 => ?_) (fun c451 => ?_)
      · refine g_iconst (by decide) (fun v452 kv452 => ?_)
        exact g_iret ⟨_, rfl, hIH410, hJH410, (e411.symm.trans ek0_2), m412⟩
      · refine g_iload_n rfl ?_
        refine g_if_ge (fun c453 => ?_) (fun c453 => ?_)
        · refine g_aload_n rfl ?_
          refine g_iload_n rfl ?_
          refine g_invvv hIH410 sm_0 rfl rfl rfl rfl (s_200 a2 H410 hIH410 hJH410) (fun H454 r455 => ?_)
          obtain ⟨hIH454, hJH454, w456, m457⟩ := r455
          have e458 : k0_2 = fZ H454 0 2 := e411.trans w456.symm
          have m459 : kpM H H454 := kpM_t m412 m457
          refine g_iload_n rfl ?_
          refine g_istore (l' := [(0, .ref 0), (1, .int a1), (2, .int a2), (3, .int a3), (4, .int a3)]) rfl rfl ?_
          refine g_iconst (by decide) (fun v460 kv460 => ?_)
          refine g_istore (l' := [(0, .ref 0), (1, .int a1), (2, .int a2), (3, .int a3), (4, .int a3), (5, .int v460)]) rfl rfl ?_
          refine g_nop ?_
          have L463 : ∀ (N : Nat) (v461 : Int32) (v462 : Int32), (0 ≤ v461.toInt ∧ v461.toInt ≤ 2147483647) → (0 ≤ v462.toInt ∧ v462.toInt ≤ 40) → (40 - v462.toInt).toNat < N → gG 6 zB_211 (mzBlk zB_211 4) [(0, .ref 0), (1, .int a1), (2, .int a2), (3, .int a3), (4, .int v461), (5, .int v462)] [] H454 0 0 (gRi (fun v H' => gI SM H' ∧ JN H' ∧ fZ H' 0 2 = fZ H 0 2 ∧ kpM H H')) := by
            intro N
            induction N with
            | zero => intro v461 v462 bv461 bv462 hmL463; exact absurd hmL463 (Nat.not_lt_zero _)
            | succ N ihL463 =>
              intro v461 v462 bv461 bv462 hmL463
              refine g_iload rfl ?_
              refine g_bipush (by decide) (fun v464 kv464 => ?_)
              refine g_if2_ge (fun c465 => ?_) (fun c465 => ?_)
              · refine g_bipush (by decide) (fun v466 kv466 => ?_)
                exact g_iret ⟨_, rfl, hIH454, (JM_n hJH454), (e458.symm.trans ek0_2), m459⟩
              · refine g_aload_n rfl ?_
                refine g_iload rfl ?_
                refine g_invvi hIH454 sm_0 rfl rfl rfl rfl (s_201 v462 (by omega) H454 hIH454 hJH454) (fun v469 H467 r468 => ?_)
                obtain ⟨rfl, bv469⟩ := r468
                refine g_iload_n rfl ?_
                refine g_if2_eq (fun c470 => ?_) (fun c470 => ?_)
                · refine g_iload rfl ?_
                  refine g_if_ne (fun c471 => ?_) (fun c471 => ?_)
                  · refine g_iinc (l' := (fun v472 => [(0, .ref 0), (1, .int a1), (2, .int a2), (3, .int a3), (4, .int v472), (5, .int v462)])) rfl rfl (by decide) (by have := gz_any v461; omega) (fun _ => rfl) (fun v472 ev472 => ?_)
                    refine g_nop ?_
                    refine g_iinc (l' := (fun v473 => [(0, .ref 0), (1, .int a1), (2, .int a2), (3, .int a3), (4, .int v472), (5, .int v473)])) rfl rfl (by decide) (by omega) (fun _ => rfl) (fun v473 ev473 => ?_)
                    refine g_goto ?_
                    exact ihL463 v472 v473 (by have := gz_any v472; omega) (by omega) (by omega)
                  · refine g_iload rfl ?_
                    exact g_iret ⟨_, rfl, hIH454, (JM_n hJH454), (e458.symm.trans ek0_2), m459⟩
                · refine g_goto ?_
                  refine g_iinc (l' := (fun v474 => [(0, .ref 0), (1, .int a1), (2, .int a2), (3, .int a3), (4, .int v461), (5, .int v474)])) rfl rfl (by decide) (by omega) (fun _ => rfl) (fun v474 ev474 => ?_)
                  refine g_goto ?_
                  exact ihL463 v461 v474 (by have := gz_any v461; omega) (by omega) (by omega)
          exact L463 _ a3 v460 (by have := gz_any a3; omega) (by omega) (Nat.lt_succ_self _)
        · refine g_nop ?_
          refine g_iconst (by decide) (fun v475 kv475 => ?_)
          exact g_iret ⟨_, rfl, hIH410, hJH410, (e411.symm.trans ek0_2), m412⟩
    · refine g_iload_n rfl ?_
      refine g_bipush (by decide) (fun v476 kv476 => ?_)
      refine g_if2_ne (fun c477 => ?_) (fun c477 => ?_)
      · refine g_iconst (by decide) (fun v478 kv478 => ?_)
        exact g_iret ⟨_, rfl, hIH410, hJH410, (e411.symm.trans ek0_2), m412⟩
      · refine g_nop ?_
        refine g_iload_n rfl ?_
        refine g_invti rfl rfl rfl (s_206 a2 H410 hIH410 hJH410) (fun v481 H479 r480 => ?_)
        obtain ⟨rfl, bv481⟩ := r480
        refine g_if_eq (fun c482 => ?_) (fun c482 => ?_)
        · refine g_iconst (by decide) (fun v483 kv483 => ?_)
          exact g_iret ⟨_, rfl, hIH410, hJH410, (e411.symm.trans ek0_2), m412⟩
        · refine g_iload_n rfl ?_
          refine g_if_ge (fun c484 => ?_) (fun c484 => ?_)
          · refine g_aload_n rfl ?_
            refine g_iload_n rfl ?_
            refine g_invvv hIH410 sm_0 rfl rfl rfl rfl (s_200 a2 H410 hIH410 hJH410) (fun H485 r486 => ?_)
            obtain ⟨hIH485, hJH485, w487, m488⟩ := r486
            have e489 : k0_2 = fZ H485 0 2 := e411.trans w487.symm
            have m490 : kpM H H485 := kpM_t m412 m488
            refine g_iload_n rfl ?_
            refine g_istore (l' := [(0, .ref 0), (1, .int a1), (2, .int a2), (3, .int a3), (4, .int a3)]) rfl rfl ?_
            refine g_iconst (by decide) (fun v491 kv491 => ?_)
            refine g_istore (l' := [(0, .ref 0), (1, .int a1), (2, .int a2), (3, .int a3), (4, .int a3), (5, .int v491)]) rfl rfl ?_
            refine g_nop ?_
            have L494 : ∀ (N : Nat) (v492 : Int32) (v493 : Int32), (0 ≤ v492.toInt ∧ v492.toInt ≤ 2147483647) → (0 ≤ v493.toInt ∧ v493.toInt ≤ 40) → (40 - v493.toInt).toNat < N → gG 6 zB_211 (mzBlk zB_211 4) [(0, .ref 0), (1, .int a1), (2, .int a2), (3, .int a3), (4, .int v492), (5, .int v493)] [] H485 0 0 (gRi (fun v H' => gI SM H' ∧ JN H' ∧ fZ H' 0 2 = fZ H 0 2 ∧ kpM H H')) := by
              intro N
              induction N with
              | zero => intro v492 v493 bv492 bv493 hmL494; exact absurd hmL494 (Nat.not_lt_zero _)
              | succ N ihL494 =>
                intro v492 v493 bv492 bv493 hmL494
                refine g_iload rfl ?_
                refine g_bipush (by decide) (fun v495 kv495 => ?_)
                refine g_if2_ge (fun c496 => ?_) (fun c496 => ?_)
                · refine g_bipush (by decide) (fun v497 kv497 => ?_)
                  exact g_iret ⟨_, rfl, hIH485, (JM_n hJH485), (e489.symm.trans ek0_2), m490⟩
                · refine g_aload_n rfl ?_
                  refine g_iload rfl ?_
                  refine g_invvi hIH485 sm_0 rfl rfl rfl rfl (s_201 v493 (by omega) H485 hIH485 hJH485) (fun v500 H498 r499 => ?_)
                  obtain ⟨rfl, bv500⟩ := r499
                  refine g_iload_n rfl ?_
                  refine g_if2_eq (fun c501 => ?_) (fun c501 => ?_)
                  · refine g_iload rfl ?_
                    refine g_if_ne (fun c502 => ?_) (fun c502 => ?_)
                    · refine g_iinc (l' := (fun v503 => [(0, .ref 0), (1, .int a1), (2, .int a2), (3, .int a3), (4, .int v503), (5, .int v493)])) rfl rfl (by decide) (by have := gz_any v492; omega) (fun _ => rfl) (fun v503 ev503 => ?_)
                      refine g_nop ?_
                      refine g_iinc (l' := (fun v504 => [(0, .ref 0), (1, .int a1), (2, .int a2), (3, .int a3), (4, .int v503), (5, .int v504)])) rfl rfl (by decide) (by omega) (fun _ => rfl) (fun v504 ev504 => ?_)
                      refine g_goto ?_
                      exact ihL494 v503 v504 (by have := gz_any v503; omega) (by omega) (by omega)
                    · refine g_iload rfl ?_
                      exact g_iret ⟨_, rfl, hIH485, (JM_n hJH485), (e489.symm.trans ek0_2), m490⟩
                  · refine g_goto ?_
                    refine g_iinc (l' := (fun v505 => [(0, .ref 0), (1, .int a1), (2, .int a2), (3, .int a3), (4, .int v492), (5, .int v505)])) rfl rfl (by decide) (by omega) (fun _ => rfl) (fun v505 ev505 => ?_)
                    refine g_goto ?_
                    exact ihL494 v492 v505 (by have := gz_any v492; omega) (by omega) (by omega)
            exact L494 _ a3 v491 (by have := gz_any a3; omega) (by omega) (Nat.lt_succ_self _)
          · refine g_nop ?_
            refine g_iconst (by decide) (fun v506 kv506 => ?_)
            exact g_iret ⟨_, rfl, hIH410, hJH410, (e411.symm.trans ek0_2), m412⟩
set_option maxRecDepth 4000 in
set_option maxHeartbeats 4000000 in
/-- M.isSo -/
theorem s_212 (a1 : Int32) (ha1 : 0 ≤ a1.toInt ∧ a1.toInt ≤ 39) (a2 : Int32) (H : mzH) (hI : gI SM H) (hJ : JM H) : gCall 212 [.ref 0, .int a1, .int a2] H (gRi (fun v H' => H = H' ∧ (0 ≤ v.toInt ∧ v.toInt ≤ 1))) := by
  refine gG_call [(0, .ref 0), (1, .int a1), (2, .int a2)] ⟨rfl, rfl, rfl, trivial⟩ ?_
  show gG 3 zB_212 (mzBlk zB_212 0) [(0, .ref 0), (1, .int a1), (2, .int a2)] [] H 0 0 _
  refine g_iload_n rfl ?_
  refine g_sw (by decide) (fun c93 => ?_) ⟨fun c93 => ?_, fun c93 => ?_, fun c93 => ?_, fun c93 => ?_, fun c93 => ?_, trivial⟩
  · refine g_aload_n rfl ?_
    refine g_gfr hI sm_0 rfl ?_
    refine g_iload_n rfl ?_
    refine g_baload hI sm_13 rfl (by omega) (fun v94 ev94 lv94 uv94 => ?_)
    exact g_zret (by omega) ⟨_, rfl, rfl, (by omega)⟩
  · refine g_aload_n rfl ?_
    refine g_gfr hI sm_0 rfl ?_
    refine g_iload_n rfl ?_
    refine g_baload hI sm_7 rfl (by omega) (fun v95 ev95 lv95 uv95 => ?_)
    exact g_zret (by omega) ⟨_, rfl, rfl, (by omega)⟩
  · refine g_aload_n rfl ?_
    refine g_iload_n rfl ?_
    refine g_invvi hI sm_0 rfl rfl rfl rfl (s_201 a1 (by omega) H hI hJ) (fun v98 H96 r97 => ?_)
    obtain ⟨rfl, bv98⟩ := r97
    refine g_bipush (by decide) (fun v99 kv99 => ?_)
    refine g_if2_ne (fun c100 => ?_) (fun c100 => ?_)
    · refine g_iconst (by decide) (fun v101 kv101 => ?_)
      refine g_nop ?_
      exact g_zret (by omega) ⟨_, rfl, rfl, (by omega)⟩
    · refine g_iconst (by decide) (fun v102 kv102 => ?_)
      refine g_goto ?_
      exact g_zret (by omega) ⟨_, rfl, rfl, (by omega)⟩
  · refine g_aload_n rfl ?_
    refine g_gfr hI sm_0 rfl ?_
    refine g_iload_n rfl ?_
    refine g_baload hI sm_16 rfl (by omega) (fun v103 ev103 lv103 uv103 => ?_)
    exact g_zret (by omega) ⟨_, rfl, rfl, (by omega)⟩
  · refine g_aload_n rfl ?_
    refine g_gfr hI sm_0 rfl ?_
    refine g_iload_n rfl ?_
    refine g_baload hI sm_14 rfl (by omega) (fun v104 ev104 lv104 uv104 => ?_)
    exact g_zret (by omega) ⟨_, rfl, rfl, (by omega)⟩
  · refine g_aload_n rfl ?_
    refine g_gfr hI sm_0 rfl ?_
    refine g_iload_n rfl ?_
    refine g_baload hI sm_7 rfl (by omega) (fun v105 ev105 lv105 uv105 => ?_)
    refine g_if_eq (fun c106 => ?_) (fun c106 => ?_)
    · refine g_iconst (by decide) (fun v107 kv107 => ?_)
      refine g_nop ?_
      exact g_zret (by omega) ⟨_, rfl, rfl, (by omega)⟩
    · refine g_aload_n rfl ?_
      refine g_gfr hI sm_0 rfl ?_
      refine g_iload_n rfl ?_
      refine g_baload hI sm_16 rfl (by omega) (fun v108 ev108 lv108 uv108 => ?_)
      refine g_if_ne (fun c109 => ?_) (fun c109 => ?_)
      · refine g_iconst (by decide) (fun v110 kv110 => ?_)
        refine g_nop ?_
        exact g_zret (by omega) ⟨_, rfl, rfl, (by omega)⟩
      · refine g_aload_n rfl ?_
        refine g_gfr hI sm_0 rfl ?_
        refine g_iload_n rfl ?_
        refine g_iaload hI sm_9 rfl (by omega) (fun v111 ev111 lv111 uv111 => ?_)
        have qv111 := JM_in hJ (by omega) ev111
        refine g_bipush (by decide) (fun v112 kv112 => ?_)
        refine g_if2_ne (fun c113 => ?_) (fun c113 => ?_)
        · refine g_iconst (by decide) (fun v114 kv114 => ?_)
          refine g_nop ?_
          exact g_zret (by omega) ⟨_, rfl, rfl, (by omega)⟩
        · refine g_iconst (by decide) (fun v115 kv115 => ?_)
          refine g_goto ?_
          exact g_zret (by omega) ⟨_, rfl, rfl, (by omega)⟩
set_option maxRecDepth 4000 in
set_option maxHeartbeats 4000000 in
/-- M.many -/
theorem s_213 (a1 : Int32) (a2 : Int32) (H : mzH) (hI : gI SM H) (hJ : JN H) : gCall 213 [.ref 0, .int a1, .int a2] H (gRi (fun v H' => gI SM H' ∧ JN H' ∧ fZ H' 0 2 = fZ H 0 2 ∧ kpM H H')) := by
  obtain ⟨k0_2, ek0_2⟩ : ∃ z, z = fZ H 0 2 := ⟨_, rfl⟩
  have ik0_2 : k0_2.toInt = (fZ H 0 2).toInt := by rw [← ek0_2]
  have bk0_2 : 0 ≤ k0_2.toInt ∧ k0_2.toInt ≤ 900 := by rw [ek0_2]; exact fZ_of hI sm_0 rfl
  have mkfr : kpM H H := kpM_r
  refine gG_call [(0, .ref 0), (1, .int a1), (2, .int a2)] ⟨rfl, rfl, rfl, trivial⟩ ?_
  show gG 5 zB_213 (mzBlk zB_213 0) [(0, .ref 0), (1, .int a1), (2, .int a2)] [] H 0 0 _
  refine g_aload_n rfl ?_
  refine g_iconst (by decide) (fun v569 kv569 => ?_)
  refine g_pfi hI sm_0 rfl (gz_any _) (fun H570 eH570 hIH570 => ?_)
  have hJH570 : JN H570 := JN_sF eH570 hJ
  have e571 : k0_2 = fZ H570 0 2 := by rw [eH570, fZ_sF_ne (by decide)]; exact ek0_2
  have m572 : kpM H H570 := kpM_F mkfr eH570 (by omega)
  refine g_iload_n rfl ?_
  refine g_invti rfl rfl rfl (s_206 a1 H570 hIH570 hJH570) (fun v575 H573 r574 => ?_)
  obtain ⟨rfl, bv575⟩ := r574
  refine g_if_eq (fun c576 => ?_) (fun c576 => ?_)
  · refine g_iconst (by decide) (fun v577 kv577 => ?_)
    exact g_iret ⟨_, rfl, hIH570, hJH570, (e571.symm.trans ek0_2), m572⟩
  · refine g_iload_n rfl ?_
    refine g_if_lt (fun c578 => ?_) (fun c578 => ?_)
    · refine g_iconst (by decide) (fun v579 kv579 => ?_)
      exact g_iret ⟨_, rfl, hIH570, hJH570, (e571.symm.trans ek0_2), m572⟩
    · refine g_iload_n rfl ?_
      refine g_iconst (by decide) (fun v580 kv580 => ?_)
      refine g_if2_le (fun c581 => ?_) (fun c581 => ?_)
      · refine g_aload_n rfl ?_
        refine g_iload_n rfl ?_
        refine g_invvv hIH570 sm_0 rfl rfl rfl rfl (s_200 a1 H570 hIH570 hJH570) (fun H582 r583 => ?_)
        obtain ⟨hIH582, hJH582, w584, m585⟩ := r583
        have e586 : k0_2 = fZ H582 0 2 := e571.trans w584.symm
        have m587 : kpM H H582 := kpM_t m572 m585
        refine g_iconst (by decide) (fun v588 kv588 => ?_)
        refine g_istore_n (l' := [(0, .ref 0), (1, .int a1), (2, .int a2), (3, .int v588)]) rfl rfl ?_
        refine g_iconst (by decide) (fun v589 kv589 => ?_)
        refine g_istore (l' := [(0, .ref 0), (1, .int a1), (2, .int a2), (3, .int v588), (4, .int v589)]) rfl rfl ?_
        refine g_nop ?_
        have L592 : ∀ (N : Nat) (v590 : Int32) (v591 : Int32), (0 ≤ v591.toInt ∧ v591.toInt ≤ 40) → (40 - v591.toInt).toNat < N → gG 5 zB_213 (mzBlk zB_213 3) [(0, .ref 0), (1, .int a1), (2, .int a2), (3, .int v590), (4, .int v591)] [] H582 0 0 (gRi (fun v H' => gI SM H' ∧ JN H' ∧ fZ H' 0 2 = fZ H 0 2 ∧ kpM H H')) := by
          intro N
          induction N with
          | zero => intro v590 v591 bv591 hmL592; exact absurd hmL592 (Nat.not_lt_zero _)
          | succ N ihL592 =>
            intro v590 v591 bv591 hmL592
            refine g_iload rfl ?_
            refine g_bipush (by decide) (fun v593 kv593 => ?_)
            refine g_if2_ge (fun c594 => ?_) (fun c594 => ?_)
            · refine g_iload_n rfl ?_
              exact g_iret ⟨_, rfl, hIH582, (JM_n hJH582), (e586.symm.trans ek0_2), m587⟩
            · refine g_iload_n rfl ?_
              refine g_aload_n rfl ?_
              refine g_iload rfl ?_
              refine g_iload_n rfl ?_
              refine g_invvi hIH582 sm_0 rfl rfl rfl rfl (s_212 v591 (by omega) a2 H582 hIH582 hJH582) (fun v597 H595 r596 => ?_)
              obtain ⟨rfl, bv597⟩ := r596
              refine g_if_eq (fun c598 => ?_) (fun c598 => ?_)
              · refine g_iconst (by decide) (fun v599 kv599 => ?_)
                refine g_nop ?_
                refine g_iadd (by have := gz_any v590; omega) (fun v600 ev600 => ?_)
                refine g_istore_n (l' := [(0, .ref 0), (1, .int a1), (2, .int a2), (3, .int v600), (4, .int v591)]) rfl rfl ?_
                refine g_iinc (l' := (fun v601 => [(0, .ref 0), (1, .int a1), (2, .int a2), (3, .int v600), (4, .int v601)])) rfl rfl (by decide) (by omega) (fun _ => rfl) (fun v601 ev601 => ?_)
                refine g_goto ?_
                exact ihL592 v600 v601 (by omega) (by omega)
              · refine g_iconst (by decide) (fun v602 kv602 => ?_)
                refine g_goto ?_
                refine g_iadd' (fun v603 ov603 => ?_)
                refine g_istore_n (l' := [(0, .ref 0), (1, .int a1), (2, .int a2), (3, .int v603), (4, .int v591)]) rfl rfl ?_
                refine g_iinc (l' := (fun v604 => [(0, .ref 0), (1, .int a1), (2, .int a2), (3, .int v603), (4, .int v604)])) rfl rfl (by decide) (by omega) (fun _ => rfl) (fun v604 ev604 => ?_)
                refine g_goto ?_
                exact ihL592 v603 v604 (by omega) (by omega)
        exact L592 _ v588 v589 (by omega) (Nat.lt_succ_self _)
      · refine g_nop ?_
        refine g_iconst (by decide) (fun v605 kv605 => ?_)
        exact g_iret ⟨_, rfl, hIH570, hJH570, (e571.symm.trans ek0_2), m572⟩
set_option maxRecDepth 4000 in
set_option maxHeartbeats 4000000 in
/-- M.laysTrail -/
theorem s_214 (a1 : Int32) (ha1 : 0 ≤ a1.toInt ∧ a1.toInt ≤ 39) (H : mzH) (hI : gI SM H) (hJ : JN H) : gCall 214 [.ref 0, .int a1] H (gRv (fun H' => gI SM H' ∧ JM H' ∧ fZ H' 0 2 = fZ H 0 2 ∧ kpM H H')) := by
  obtain ⟨k0_2, ek0_2⟩ : ∃ z, z = fZ H 0 2 := ⟨_, rfl⟩
  have ik0_2 : k0_2.toInt = (fZ H 0 2).toInt := by rw [← ek0_2]
  have bk0_2 : 0 ≤ k0_2.toInt ∧ k0_2.toInt ≤ 900 := by rw [ek0_2]; exact fZ_of hI sm_0 rfl
  have mkfr : kpM H H := kpM_r
  refine gG_call [(0, .ref 0), (1, .int a1)] ⟨rfl, rfl, trivial⟩ ?_
  show gG 5 zB_214 (mzBlk zB_214 0) [(0, .ref 0), (1, .int a1)] [] H 0 0 _
  refine g_aload_n rfl ?_
  refine g_invvv hI sm_0 rfl rfl rfl rfl (s_182 H hI hJ) (fun H603 r604 => ?_)
  obtain ⟨hIH603, hJH603, m605, m606, m607, p608⟩ := r604
  have e609 : k0_2 = fZ H603 0 2 := ek0_2.trans (m605 0 2).symm
  have im605_0_39 : (fZ H603 0 39).toInt = (fZ H 0 39).toInt := by rw [m605]
  have m610 : kpM H H603 := kpM_t mkfr m607
  refine g_aload_n rfl ?_
  refine g_invvv hIH603 sm_0 rfl rfl rfl rfl (s_184 H603 hIH603 hJH603) (fun H611 r612 => ?_)
  obtain ⟨hIH611, hJH611, w613, w614, w615, w616, w617, m618, m619, m620, p621⟩ := r612
  have e622 : k0_2 = fZ H611 0 2 := e609.trans w613.symm
  have m623 : kpM H H611 := kpM_t m610 m620
  refine g_aload_n rfl ?_
  refine g_iconst (by decide) (fun v624 kv624 => ?_)
  refine g_pfi hIH611 sm_0 rfl (by omega) (fun H625 eH625 hIH625 => ?_)
  have hJH625 : JM H625 := JM_sF eH625 hJH611
  have e626 : k0_2 = fZ H625 0 2 := by rw [eH625, fZ_sF_ne (by decide)]; exact e622
  have e627 : v624 = fZ H625 0 39 := by rw [eH625, fZ_sF_eq hIH611 sm_0 rfl]
  have m628 : kpM H H625 := kpM_F m623 eH625 (by omega)
  have ie627 : v624.toInt = (fZ H625 0 39).toInt := by rw [← e627]
  refine g_bipush (by decide) (fun v629 kv629 => ?_)
  refine g_istore_n (l' := [(0, .ref 0), (1, .int a1), (2, .int v629)]) rfl rfl ?_
  refine g_iconst (by decide) (fun v630 kv630 => ?_)
  refine g_istore_n (l' := [(0, .ref 0), (1, .int a1), (2, .int v629), (3, .int v630)]) rfl rfl ?_
  refine g_nop ?_
  have L636 : ∀ (N : Nat) (v631 : Int32) (v632 : Int32) (H633 : mzH), gI SM H633 → JM H633 → k0_2 = fZ H633 0 2 → kpM H H633 → (-4 ≤ v631.toInt ∧ v631.toInt ≤ 7) → (0 ≤ v632.toInt ∧ v632.toInt ≤ 60) → (fZ H633 0 39).toInt ≤ v632.toInt → (60 - v632.toInt).toNat < N → gG 5 zB_214 (mzBlk zB_214 1) [(0, .ref 0), (1, .int a1), (2, .int v631), (3, .int v632)] [] H633 0 0 (gRv (fun H' => gI SM H' ∧ JM H' ∧ fZ H' 0 2 = fZ H 0 2 ∧ kpM H H')) := by
    intro N
    induction N with
    | zero => intro v631 v632 H633 hIH633 hJH633 e634 m635 bv631 bv632 q1 hmL636; exact absurd hmL636 (Nat.not_lt_zero _)
    | succ N ihL636 =>
      intro v631 v632 H633 hIH633 hJH633 e634 m635 bv631 bv632 q1 hmL636
      obtain ⟨k637, ek637⟩ : ∃ z, z = fZ H633 0 39 := ⟨_, rfl⟩
      have ik637 : k637.toInt = (fZ H633 0 39).toInt := by rw [← ek637]
      have bk637 : 0 ≤ k637.toInt ∧ k637.toInt ≤ 60 := by rw [ek637]; exact fZ_of hIH633 sm_0 rfl
      refine g_iload_n rfl ?_
      refine g_aload_n rfl ?_
      refine g_gfi hIH633 sm_0 rfl (fun v638 ev638 lv638 uv638 => ?_)
      refine g_if2_ge (fun c639 => ?_) (fun c639 => ?_)
      · exact g_ret ⟨rfl, hIH633, hJH633, (e634.symm.trans ek0_2), m635⟩
      · refine g_aload_n rfl ?_
        refine g_aload_n rfl ?_
        refine g_gfr hIH633 sm_0 rfl ?_
        refine g_iload_n rfl ?_
        refine g_iaload hIH633 sm_19 rfl (by omega) (fun v640 ev640 lv640 uv640 => ?_)
        refine g_invvv hIH633 sm_0 rfl rfl rfl rfl (s_192 v640 (by omega) H633 hIH633 hJH633) (fun H641 r642 => ?_)
        obtain ⟨hIH641, hJH641, m643, m644, m645, m646, m647⟩ := r642
        have e648 : k0_2 = fZ H641 0 2 := e634.trans (m643 0 2).symm
        have e649 : k637 = fZ H641 0 39 := ek637.trans (m643 0 39).symm
        have m650 : kpM H H641 := kpM_t m635 m647
        have ie649 : k637.toInt = (fZ H641 0 39).toInt := by rw [← e649]
        refine g_aload_n rfl ?_
        refine g_iload_n rfl ?_
        refine g_invvi hIH641 sm_0 rfl rfl rfl rfl (s_201 a1 (by omega) H641 hIH641 hJH641) (fun v653 H651 r652 => ?_)
        obtain ⟨rfl, bv653⟩ := r652
        refine g_istore (l' := [(0, .ref 0), (1, .int a1), (2, .int v631), (3, .int v632), (4, .int v653)]) rfl rfl ?_
        refine g_iload rfl ?_
        refine g_iload_n rfl ?_
        refine g_if2_ne (fun c654 => ?_) (fun c654 => ?_)
        · refine g_aload_n rfl ?_
          refine g_gfr hIH641 sm_0 rfl ?_
          refine g_aload_n rfl ?_
          refine g_gfk hIH641 sm_0 rfl e649 ?_
          refine g_iload rfl ?_
          refine g_iastore hIH641 sm_22 (by omega) (by omega) (fun H655 eH655 hIH655 => ?_)
          have hJH655 : JM H655 := JM_sA (by decide) eH655 hJH641
          have e656 : k0_2 = fZ H655 0 2 := by rw [eH655, fZ_sA]; exact e648
          have e657 : k637 = fZ H655 0 39 := by rw [eH655, fZ_sA]; exact e649
          have m658 : kpM H H655 := kpM_A m650 eH655 (by omega)
          have ie657 : k637.toInt = (fZ H655 0 39).toInt := by rw [← e657]
          refine g_aload_n rfl ?_
          refine g_gfr hIH655 sm_0 rfl ?_
          refine g_aload_n rfl ?_
          refine g_gfk hIH655 sm_0 rfl e657 ?_
          refine g_aload_n rfl ?_
          refine g_gfr hIH655 sm_0 rfl ?_
          refine g_aload_n rfl ?_
          refine g_gfr hIH655 sm_0 rfl ?_
          refine g_iload_n rfl ?_
          refine g_iaload hIH655 sm_19 rfl (by omega) (fun v659 ev659 lv659 uv659 => ?_)
          refine g_iaload hIH655 sm_18 rfl (by omega) (fun v660 ev660 lv660 uv660 => ?_)
          refine g_iastore hIH655 sm_23 (by omega) (gz_any _) (fun H661 eH661 hIH661 => ?_)
          have hJH661 : JM H661 := JM_sA (by decide) eH661 hJH655
          have e662 : k0_2 = fZ H661 0 2 := by rw [eH661, fZ_sA]; exact e656
          have e663 : k637 = fZ H661 0 39 := by rw [eH661, fZ_sA]; exact e657
          have m664 : kpM H H661 := kpM_A m658 eH661 (by omega)
          have ie663 : k637.toInt = (fZ H661 0 39).toInt := by rw [← e663]
          refine g_aload_n rfl ?_
          refine g_dup rfl ?_
          refine g_gfk hIH661 sm_0 rfl e663 ?_
          refine g_iconst (by decide) (fun v665 kv665 => ?_)
          refine g_iadd (by omega) (fun v666 ev666 => ?_)
          refine g_pfi hIH661 sm_0 rfl (by omega) (fun H667 eH667 hIH667 => ?_)
          have hJH667 : JM H667 := JM_sF eH667 hJH661
          have e668 : k0_2 = fZ H667 0 2 := by rw [eH667, fZ_sF_ne (by decide)]; exact e662
          have e669 : v666 = fZ H667 0 39 := by rw [eH667, fZ_sF_eq hIH661 sm_0 rfl]
          have m670 : kpM H H667 := kpM_F m664 eH667 (by omega)
          have ie669 : v666.toInt = (fZ H667 0 39).toInt := by rw [← e669]
          refine g_iload rfl ?_
          refine g_istore_n (l' := [(0, .ref 0), (1, .int a1), (2, .int v653), (3, .int v632), (4, .int v653)]) rfl rfl ?_
          refine g_nop ?_
          refine g_iinc (l' := (fun v671 => [(0, .ref 0), (1, .int a1), (2, .int v653), (3, .int v671), (4, .int v653)])) rfl rfl (by decide) (by omega) (fun _ => rfl) (fun v671 ev671 => ?_)
          refine g_goto ?_
          refine gG_pick [0, 1, 2, 3] (l' := [(0, .ref 0), (1, .int a1), (2, .int v653), (3, .int v671)]) rfl ?_
          exact ihL636 v653 v671 H667 hIH667 hJH667 e668 m670 (by omega) (by omega) (by omega) (by omega)
        · refine g_goto ?_
          refine g_iinc (l' := (fun v672 => [(0, .ref 0), (1, .int a1), (2, .int v631), (3, .int v672), (4, .int v653)])) rfl rfl (by decide) (by omega) (fun _ => rfl) (fun v672 ev672 => ?_)
          refine g_goto ?_
          refine gG_pick [0, 1, 2, 3] (l' := [(0, .ref 0), (1, .int a1), (2, .int v631), (3, .int v672)]) rfl ?_
          exact ihL636 v631 v672 H641 hIH641 hJH641 e648 m650 (by omega) (by omega) (by omega) (by omega)
  exact L636 _ v629 v630 H625 hIH625 hJH625 e626 m628 (by omega) (by omega) (by omega) (Nat.lt_succ_self _)
set_option maxRecDepth 4000 in
set_option maxHeartbeats 4000000 in
/-- M.trail -/
theorem s_215 (a1 : Int32) (a2 : Int32) (a3 : Int32) (H : mzH) (hI : gI SM H) (hJ : JN H) : gCall 215 [.ref 0, .int a1, .int a2, .int a3] H (gRi (fun v H' => gI SM H' ∧ JN H' ∧ fZ H' 0 2 = fZ H 0 2 ∧ kpM H H')) := by
  obtain ⟨k0_2, ek0_2⟩ : ∃ z, z = fZ H 0 2 := ⟨_, rfl⟩
  have ik0_2 : k0_2.toInt = (fZ H 0 2).toInt := by rw [← ek0_2]
  have bk0_2 : 0 ≤ k0_2.toInt ∧ k0_2.toInt ≤ 900 := by rw [ek0_2]; exact fZ_of hI sm_0 rfl
  have mkfr : kpM H H := kpM_r
  refine gG_call [(0, .ref 0), (1, .int a1), (2, .int a2), (3, .int a3)] ⟨rfl, rfl, rfl, rfl, trivial⟩ ?_
  show gG 4 zB_215 (mzBlk zB_215 0) [(0, .ref 0), (1, .int a1), (2, .int a2), (3, .int a3)] [] H 0 0 _
  refine g_aload_n rfl ?_
  refine g_iconst (by decide) (fun v117 kv117 => ?_)
  refine g_pfi hI sm_0 rfl (gz_any _) (fun H118 eH118 hIH118 => ?_)
  have hJH118 : JN H118 := JN_sF eH118 hJ
  have e119 : k0_2 = fZ H118 0 2 := by rw [eH118, fZ_sF_ne (by decide)]; exact ek0_2
  have m120 : kpM H H118 := kpM_F mkfr eH118 (by omega)
  refine g_iload_n rfl ?_
  refine g_invti rfl rfl rfl (s_205 a1 H118 hIH118 hJH118) (fun v123 H121 r122 => ?_)
  obtain ⟨rfl, bv123, p124⟩ := r122
  refine g_if_eq (fun c125 => ?_) (fun c125 => ?_)
  · refine g_bipush (by decide) (fun v126 kv126 => ?_)
    exact g_iret ⟨_, rfl, hIH118, hJH118, (e119.symm.trans ek0_2), m120⟩
  · refine g_iload_n rfl ?_
    refine g_if_lt (fun c127 => ?_) (fun c127 => ?_)
    · refine g_bipush (by decide) (fun v128 kv128 => ?_)
      exact g_iret ⟨_, rfl, hIH118, hJH118, (e119.symm.trans ek0_2), m120⟩
    · refine g_iload_n rfl ?_
      refine g_if_lt (fun c129 => ?_) (fun c129 => ?_)
      · refine g_bipush (by decide) (fun v130 kv130 => ?_)
        exact g_iret ⟨_, rfl, hIH118, hJH118, (e119.symm.trans ek0_2), m120⟩
      · refine g_iload_n rfl ?_
        refine g_iconst (by decide) (fun v131 kv131 => ?_)
        refine g_if2_le (fun c132 => ?_) (fun c132 => ?_)
        · refine g_aload_n rfl ?_
          refine g_iload_n rfl ?_
          refine g_invvv hIH118 sm_0 rfl rfl rfl rfl (s_214 a1 (by omega) H118 hIH118 hJH118) (fun H133 r134 => ?_)
          obtain ⟨hIH133, hJH133, w135, m136⟩ := r134
          have e137 : k0_2 = fZ H133 0 2 := e119.trans w135.symm
          have m138 : kpM H H133 := kpM_t m120 m136
          refine g_iload_n rfl ?_
          refine g_aload_n rfl ?_
          refine g_gfi hIH133 sm_0 rfl (fun v139 ev139 lv139 uv139 => ?_)
          refine g_if2_ge (fun c140 => ?_) (fun c140 => ?_)
          · refine g_bipush (by decide) (fun v141 kv141 => ?_)
            refine g_nop ?_
            exact g_iret ⟨_, rfl, hIH133, (JM_n hJH133), (e137.symm.trans ek0_2), m138⟩
          · refine g_iload_n rfl ?_
            refine g_if_ne (fun c142 => ?_) (fun c142 => ?_)
            · refine g_aload_n rfl ?_
              refine g_gfr hIH133 sm_0 rfl ?_
              refine g_iload_n rfl ?_
              refine g_iaload hIH133 sm_23 rfl (by omega) (fun v143 ev143 lv143 uv143 => ?_)
              refine g_goto ?_
              exact g_iret ⟨_, rfl, hIH133, (JM_n hJH133), (e137.symm.trans ek0_2), m138⟩
            · refine g_aload_n rfl ?_
              refine g_gfr hIH133 sm_0 rfl ?_
              refine g_iload_n rfl ?_
              refine g_iaload hIH133 sm_22 rfl (by omega) (fun v144 ev144 lv144 uv144 => ?_)
              refine g_goto ?_
              exact g_iret ⟨_, rfl, hIH133, (JM_n hJH133), (e137.symm.trans ek0_2), m138⟩
        · refine g_nop ?_
          refine g_bipush (by decide) (fun v145 kv145 => ?_)
          exact g_iret ⟨_, rfl, hIH118, hJH118, (e119.symm.trans ek0_2), m120⟩
set_option maxRecDepth 4000 in
set_option maxHeartbeats 4000000 in
/-- M.latest -/
theorem s_216 (H : mzH) (hI : gI SM H) (hJ : JN H) : gCall 216 [.ref 0] H (gRi (fun v H' => H = H')) := by
  refine gG_call [(0, .ref 0)] ⟨rfl, trivial⟩ ?_
  show gG 3 zB_216 (mzBlk zB_216 0) [(0, .ref 0)] [] H 0 0 _
  refine g_iconst (by decide) (fun v289 kv289 => ?_)
  refine g_istore_n (l' := [(0, .ref 0), (1, .int v289)]) rfl rfl ?_
  refine g_iconst (by decide) (fun v290 kv290 => ?_)
  refine g_istore_n (l' := [(0, .ref 0), (1, .int v289), (2, .int v290)]) rfl rfl ?_
  refine g_nop ?_
  have L293 : ∀ (N : Nat) (v291 : Int32) (v292 : Int32), (0 ≤ v292.toInt ∧ v292.toInt ≤ 60) → (60 - v292.toInt).toNat < N → gG 3 zB_216 (mzBlk zB_216 1) [(0, .ref 0), (1, .int v291), (2, .int v292)] [] H 0 0 (gRi (fun v H' => H = H')) := by
    intro N
    induction N with
    | zero => intro v291 v292 bv292 hmL293; exact absurd hmL293 (Nat.not_lt_zero _)
    | succ N ihL293 =>
      intro v291 v292 bv292 hmL293
      refine g_iload_n rfl ?_
      refine g_aload_n rfl ?_
      refine g_invvi hI sm_0 rfl rfl rfl rfl (s_180 H hI hJ) (fun v296 H294 r295 => ?_)
      obtain ⟨rfl, bv296, p297⟩ := r295
      refine g_if2_ge (fun c298 => ?_) (fun c298 => ?_)
      · refine g_iload_n rfl ?_
        exact g_iret ⟨_, rfl, rfl⟩
      · refine g_aload_n rfl ?_
        refine g_iload_n rfl ?_
        refine g_iconst (by decide) (fun v299 kv299 => ?_)
        refine g_invvi hI sm_0 rfl rfl rfl rfl (s_181 v292 (by omega) v299 (by omega) H hI hJ) (fun v302 H300 r301 => ?_)
        obtain ⟨rfl, p303⟩ := r301
        have tv302 : v302 = aZ H 2 (69 + 5 * v292.toInt + 0).toNat := by rw [p303, kv299]
        refine g_iload_n rfl ?_
        refine g_if2_le (fun c304 => ?_) (fun c304 => ?_)
        · refine g_iload_n rfl ?_
          refine g_nop ?_
          refine g_istore_n (l' := [(0, .ref 0), (1, .int v291), (2, .int v292)]) rfl rfl ?_
          refine g_iinc (l' := (fun v305 => [(0, .ref 0), (1, .int v291), (2, .int v305)])) rfl rfl (by decide) (by omega) (fun _ => rfl) (fun v305 ev305 => ?_)
          refine g_goto ?_
          exact ihL293 v291 v305 (by omega) (by omega)
        · refine g_aload_n rfl ?_
          refine g_iload_n rfl ?_
          refine g_iconst (by decide) (fun v306 kv306 => ?_)
          refine g_invvi hI sm_0 rfl rfl rfl rfl (s_181 v292 (by omega) v306 (by omega) H hI hJ) (fun v309 H307 r308 => ?_)
          obtain ⟨rfl, p310⟩ := r308
          have tv309 : v309 = aZ H 2 (69 + 5 * v292.toInt + 0).toNat := by rw [p310, kv306]
          refine g_goto ?_
          refine g_istore_n (l' := [(0, .ref 0), (1, .int v309), (2, .int v292)]) rfl rfl ?_
          refine g_iinc (l' := (fun v311 => [(0, .ref 0), (1, .int v309), (2, .int v311)])) rfl rfl (by decide) (by omega) (fun _ => rfl) (fun v311 ev311 => ?_)
          refine g_goto ?_
          exact ihL293 v309 v311 (by omega) (by omega)
  exact L293 _ v289 v290 (by omega) (Nat.lt_succ_self _)
set_option maxRecDepth 4000 in
set_option maxHeartbeats 4000000 in
/-- M.dwelt -/
theorem s_217 (a1 : Int32) (a2 : Int32) (H : mzH) (hI : gI SM H) (hJ : JN H) : gCall 217 [.ref 0, .int a1, .int a2] H (gRi (fun v H' => gI SM H' ∧ JN H' ∧ fZ H' 0 2 = fZ H 0 2 ∧ kpM H H')) := by
  obtain ⟨k0_2, ek0_2⟩ : ∃ z, z = fZ H 0 2 := ⟨_, rfl⟩
  have ik0_2 : k0_2.toInt = (fZ H 0 2).toInt := by rw [← ek0_2]
  have bk0_2 : 0 ≤ k0_2.toInt ∧ k0_2.toInt ≤ 900 := by rw [ek0_2]; exact fZ_of hI sm_0 rfl
  have mkfr : kpM H H := kpM_r
  refine gG_call [(0, .ref 0), (1, .int a1), (2, .int a2)] ⟨rfl, rfl, rfl, trivial⟩ ?_
  show gG 5 zB_217 (mzBlk zB_217 0) [(0, .ref 0), (1, .int a1), (2, .int a2)] [] H 0 0 _
  refine g_aload_n rfl ?_
  refine g_iconst (by decide) (fun v515 kv515 => ?_)
  refine g_pfi hI sm_0 rfl (gz_any _) (fun H516 eH516 hIH516 => ?_)
  have hJH516 : JN H516 := JN_sF eH516 hJ
  have e517 : k0_2 = fZ H516 0 2 := by rw [eH516, fZ_sF_ne (by decide)]; exact ek0_2
  have m518 : kpM H H516 := kpM_F mkfr eH516 (by omega)
  refine g_iload_n rfl ?_
  refine g_invti rfl rfl rfl (s_205 a1 H516 hIH516 hJH516) (fun v521 H519 r520 => ?_)
  obtain ⟨rfl, bv521, p522⟩ := r520
  refine g_if_eq (fun c523 => ?_) (fun c523 => ?_)
  · refine g_iconst (by decide) (fun v524 kv524 => ?_)
    exact g_iret ⟨_, rfl, hIH516, hJH516, (e517.symm.trans ek0_2), m518⟩
  · refine g_aload_n rfl ?_
    refine g_iload_n rfl ?_
    refine g_invvi hIH516 sm_0 rfl rfl rfl rfl (s_210 a2 H516 hIH516 hJH516) (fun v527 H525 r526 => ?_)
    obtain ⟨rfl, bv527, p528⟩ := r526
    refine g_if_ne (fun c529 => ?_) (fun c529 => ?_)
    · refine g_aload_n rfl ?_
      refine g_iload_n rfl ?_
      refine g_invvv hIH516 sm_0 rfl rfl rfl rfl (s_214 a1 (by omega) H516 hIH516 hJH516) (fun H530 r531 => ?_)
      obtain ⟨hIH530, hJH530, w532, m533⟩ := r531
      have e534 : k0_2 = fZ H530 0 2 := e517.trans w532.symm
      have m535 : kpM H H530 := kpM_t m518 m533
      refine g_iconst (by decide) (fun v536 kv536 => ?_)
      refine g_istore_n (l' := [(0, .ref 0), (1, .int a1), (2, .int a2), (3, .int v536)]) rfl rfl ?_
      refine g_iconst (by decide) (fun v537 kv537 => ?_)
      refine g_istore (l' := [(0, .ref 0), (1, .int a1), (2, .int a2), (3, .int v536), (4, .int v537)]) rfl rfl ?_
      refine g_nop ?_
      have L540 : ∀ (N : Nat) (v538 : Int32) (v539 : Int32), (0 ≤ v539.toInt ∧ v539.toInt ≤ 60) → (60 - v539.toInt).toNat < N → gG 5 zB_217 (mzBlk zB_217 3) [(0, .ref 0), (1, .int a1), (2, .int a2), (3, .int v538), (4, .int v539)] [] H530 0 0 (gRi (fun v H' => gI SM H' ∧ JN H' ∧ fZ H' 0 2 = fZ H 0 2 ∧ kpM H H')) := by
        intro N
        induction N with
        | zero => intro v538 v539 bv539 hmL540; exact absurd hmL540 (Nat.not_lt_zero _)
        | succ N ihL540 =>
          intro v538 v539 bv539 hmL540
          refine g_iload rfl ?_
          refine g_aload_n rfl ?_
          refine g_gfi hIH530 sm_0 rfl (fun v541 ev541 lv541 uv541 => ?_)
          refine g_if2_ge (fun c542 => ?_) (fun c542 => ?_)
          · refine g_iload_n rfl ?_
            exact g_iret ⟨_, rfl, hIH530, (JM_n hJH530), (e534.symm.trans ek0_2), m535⟩
          · refine g_aload_n rfl ?_
            refine g_gfr hIH530 sm_0 rfl ?_
            refine g_iload rfl ?_
            refine g_iaload hIH530 sm_22 rfl (by omega) (fun v543 ev543 lv543 uv543 => ?_)
            refine g_iload_n rfl ?_
            refine g_if2_ne (fun c544 => ?_) (fun c544 => ?_)
            · refine g_iinc (l' := (fun v545 => [(0, .ref 0), (1, .int a1), (2, .int a2), (3, .int v538), (4, .int v545)])) rfl rfl (by decide) (by omega) (fun _ => rfl) (fun v545 ev545 => ?_)
              refine g_goto ?_
              exact ihL540 v538 v545 (by omega) (by omega)
            · refine g_iload_n rfl ?_
              refine g_iload rfl ?_
              refine g_iconst (by decide) (fun v546 kv546 => ?_)
              refine g_iadd (by omega) (fun v547 ev547 => ?_)
              refine g_aload_n rfl ?_
              refine g_gfi hIH530 sm_0 rfl (fun v548 ev548 lv548 uv548 => ?_)
              refine g_if2_ge (fun c549 => ?_) (fun c549 => ?_)
              · refine g_aload_n rfl ?_
                refine g_invvi hIH530 sm_0 rfl rfl rfl rfl (s_216 H530 hIH530 (JM_n hJH530)) (fun v552 H550 r551 => ?_)
                obtain rfl := r551
                refine g_nop ?_
                refine g_aload_n rfl ?_
                refine g_gfr hIH530 sm_0 rfl ?_
                refine g_iload rfl ?_
                refine g_iaload hIH530 sm_23 rfl (by omega) (fun v553 ev553 lv553 uv553 => ?_)
                refine g_isub' (fun v554 ov554 => ?_)
                refine g_iadd' (fun v555 ov555 => ?_)
                refine g_istore_n (l' := [(0, .ref 0), (1, .int a1), (2, .int a2), (3, .int v555), (4, .int v539)]) rfl rfl ?_
                refine g_nop ?_
                refine g_iinc (l' := (fun v556 => [(0, .ref 0), (1, .int a1), (2, .int a2), (3, .int v555), (4, .int v556)])) rfl rfl (by decide) (by omega) (fun _ => rfl) (fun v556 ev556 => ?_)
                refine g_goto ?_
                exact ihL540 v555 v556 (by omega) (by omega)
              · refine g_aload_n rfl ?_
                refine g_gfr hIH530 sm_0 rfl ?_
                refine g_iload rfl ?_
                refine g_iconst (by decide) (fun v557 kv557 => ?_)
                refine g_iadd (by omega) (fun v558 ev558 => ?_)
                refine g_iaload hIH530 sm_23 rfl (by omega) (fun v559 ev559 lv559 uv559 => ?_)
                refine g_goto ?_
                refine g_aload_n rfl ?_
                refine g_gfr hIH530 sm_0 rfl ?_
                refine g_iload rfl ?_
                refine g_iaload hIH530 sm_23 rfl (by omega) (fun v560 ev560 lv560 uv560 => ?_)
                refine g_isub' (fun v561 ov561 => ?_)
                refine g_iadd' (fun v562 ov562 => ?_)
                refine g_istore_n (l' := [(0, .ref 0), (1, .int a1), (2, .int a2), (3, .int v562), (4, .int v539)]) rfl rfl ?_
                refine g_nop ?_
                refine g_iinc (l' := (fun v563 => [(0, .ref 0), (1, .int a1), (2, .int a2), (3, .int v562), (4, .int v563)])) rfl rfl (by decide) (by omega) (fun _ => rfl) (fun v563 ev563 => ?_)
                refine g_goto ?_
                exact ihL540 v562 v563 (by omega) (by omega)
      exact L540 _ v536 v537 (by omega) (Nat.lt_succ_self _)
    · refine g_iload_n rfl ?_
      refine g_bipush (by decide) (fun v564 kv564 => ?_)
      refine g_if2_eq (fun c565 => ?_) (fun c565 => ?_)
      · refine g_aload_n rfl ?_
        refine g_iload_n rfl ?_
        refine g_invvv hIH516 sm_0 rfl rfl rfl rfl (s_214 a1 (by omega) H516 hIH516 hJH516) (fun H566 r567 => ?_)
        obtain ⟨hIH566, hJH566, w568, m569⟩ := r567
        have e570 : k0_2 = fZ H566 0 2 := e517.trans w568.symm
        have m571 : kpM H H566 := kpM_t m518 m569
        refine g_iconst (by decide) (fun v572 kv572 => ?_)
        refine g_istore_n (l' := [(0, .ref 0), (1, .int a1), (2, .int a2), (3, .int v572)]) rfl rfl ?_
        refine g_iconst (by decide) (fun v573 kv573 => ?_)
        refine g_istore (l' := [(0, .ref 0), (1, .int a1), (2, .int a2), (3, .int v572), (4, .int v573)]) rfl rfl ?_
        refine g_nop ?_
        have L576 : ∀ (N : Nat) (v574 : Int32) (v575 : Int32), (0 ≤ v575.toInt ∧ v575.toInt ≤ 60) → (60 - v575.toInt).toNat < N → gG 5 zB_217 (mzBlk zB_217 3) [(0, .ref 0), (1, .int a1), (2, .int a2), (3, .int v574), (4, .int v575)] [] H566 0 0 (gRi (fun v H' => gI SM H' ∧ JN H' ∧ fZ H' 0 2 = fZ H 0 2 ∧ kpM H H')) := by
          intro N
          induction N with
          | zero => intro v574 v575 bv575 hmL576; exact absurd hmL576 (Nat.not_lt_zero _)
          | succ N ihL576 =>
            intro v574 v575 bv575 hmL576
            refine g_iload rfl ?_
            refine g_aload_n rfl ?_
            refine g_gfi hIH566 sm_0 rfl (fun v577 ev577 lv577 uv577 => ?_)
            refine g_if2_ge (fun c578 => ?_) (fun c578 => ?_)
            · refine g_iload_n rfl ?_
              exact g_iret ⟨_, rfl, hIH566, (JM_n hJH566), (e570.symm.trans ek0_2), m571⟩
            · refine g_aload_n rfl ?_
              refine g_gfr hIH566 sm_0 rfl ?_
              refine g_iload rfl ?_
              refine g_iaload hIH566 sm_22 rfl (by omega) (fun v579 ev579 lv579 uv579 => ?_)
              refine g_iload_n rfl ?_
              refine g_if2_ne (fun c580 => ?_) (fun c580 => ?_)
              · refine g_iinc (l' := (fun v581 => [(0, .ref 0), (1, .int a1), (2, .int a2), (3, .int v574), (4, .int v581)])) rfl rfl (by decide) (by omega) (fun _ => rfl) (fun v581 ev581 => ?_)
                refine g_goto ?_
                exact ihL576 v574 v581 (by omega) (by omega)
              · refine g_iload_n rfl ?_
                refine g_iload rfl ?_
                refine g_iconst (by decide) (fun v582 kv582 => ?_)
                refine g_iadd (by omega) (fun v583 ev583 => ?_)
                refine g_aload_n rfl ?_
                refine g_gfi hIH566 sm_0 rfl (fun v584 ev584 lv584 uv584 => ?_)
                refine g_if2_ge (fun c585 => ?_) (fun c585 => ?_)
                · refine g_aload_n rfl ?_
                  refine g_invvi hIH566 sm_0 rfl rfl rfl rfl (s_216 H566 hIH566 (JM_n hJH566)) (fun v588 H586 r587 => ?_)
                  obtain rfl := r587
                  refine g_nop ?_
                  refine g_aload_n rfl ?_
                  refine g_gfr hIH566 sm_0 rfl ?_
                  refine g_iload rfl ?_
                  refine g_iaload hIH566 sm_23 rfl (by omega) (fun v589 ev589 lv589 uv589 => ?_)
                  refine g_isub' (fun v590 ov590 => ?_)
                  refine g_iadd' (fun v591 ov591 => ?_)
                  refine g_istore_n (l' := [(0, .ref 0), (1, .int a1), (2, .int a2), (3, .int v591), (4, .int v575)]) rfl rfl ?_
                  refine g_nop ?_
                  refine g_iinc (l' := (fun v592 => [(0, .ref 0), (1, .int a1), (2, .int a2), (3, .int v591), (4, .int v592)])) rfl rfl (by decide) (by omega) (fun _ => rfl) (fun v592 ev592 => ?_)
                  refine g_goto ?_
                  exact ihL576 v591 v592 (by omega) (by omega)
                · refine g_aload_n rfl ?_
                  refine g_gfr hIH566 sm_0 rfl ?_
                  refine g_iload rfl ?_
                  refine g_iconst (by decide) (fun v593 kv593 => ?_)
                  refine g_iadd (by omega) (fun v594 ev594 => ?_)
                  refine g_iaload hIH566 sm_23 rfl (by omega) (fun v595 ev595 lv595 uv595 => ?_)
                  refine g_goto ?_
                  refine g_aload_n rfl ?_
                  refine g_gfr hIH566 sm_0 rfl ?_
                  refine g_iload rfl ?_
                  refine g_iaload hIH566 sm_23 rfl (by omega) (fun v596 ev596 lv596 uv596 => ?_)
                  refine g_isub' (fun v597 ov597 => ?_)
                  refine g_iadd' (fun v598 ov598 => ?_)
                  refine g_istore_n (l' := [(0, .ref 0), (1, .int a1), (2, .int a2), (3, .int v598), (4, .int v575)]) rfl rfl ?_
                  refine g_nop ?_
                  refine g_iinc (l' := (fun v599 => [(0, .ref 0), (1, .int a1), (2, .int a2), (3, .int v598), (4, .int v599)])) rfl rfl (by decide) (by omega) (fun _ => rfl) (fun v599 ev599 => ?_)
                  refine g_goto ?_
                  exact ihL576 v598 v599 (by omega) (by omega)
        exact L576 _ v572 v573 (by omega) (Nat.lt_succ_self _)
      · refine g_nop ?_
        refine g_iconst (by decide) (fun v600 kv600 => ?_)
        exact g_iret ⟨_, rfl, hIH516, hJH516, (e517.symm.trans ek0_2), m518⟩
set_option maxRecDepth 4000 in
set_option maxHeartbeats 4000000 in
/-- M.flow -/
theorem s_218 (a1 : Int32) (a2 : Int32) (H : mzH) (hI : gI SM H) (hJ : JN H) : gCall 218 [.ref 0, .int a1, .int a2] H (gRi (fun v H' => gI SM H' ∧ JN H' ∧ fZ H' 0 2 = fZ H 0 2 ∧ kpM H H')) := by
  obtain ⟨k0_2, ek0_2⟩ : ∃ z, z = fZ H 0 2 := ⟨_, rfl⟩
  have ik0_2 : k0_2.toInt = (fZ H 0 2).toInt := by rw [← ek0_2]
  have bk0_2 : 0 ≤ k0_2.toInt ∧ k0_2.toInt ≤ 900 := by rw [ek0_2]; exact fZ_of hI sm_0 rfl
  have mkfr : kpM H H := kpM_r
  refine gG_call [(0, .ref 0), (1, .int a1), (2, .int a2)] ⟨rfl, rfl, rfl, trivial⟩ ?_
  show gG 7 zB_218 (mzBlk zB_218 0) [(0, .ref 0), (1, .int a1), (2, .int a2)] [] H 0 0 _
  refine g_aload_n rfl ?_
  refine g_iconst (by decide) (fun v1464 kv1464 => ?_)
  refine g_pfi hI sm_0 rfl (gz_any _) (fun H1465 eH1465 hIH1465 => ?_)
  have hJH1465 : JN H1465 := JN_sF eH1465 hJ
  have e1466 : k0_2 = fZ H1465 0 2 := by rw [eH1465, fZ_sF_ne (by decide)]; exact ek0_2
  have m1467 : kpM H H1465 := kpM_F mkfr eH1465 (by omega)
  refine g_aload_n rfl ?_
  refine g_iload_n rfl ?_
  refine g_invvi hIH1465 sm_0 rfl rfl rfl rfl (s_210 a1 H1465 hIH1465 hJH1465) (fun v1470 H1468 r1469 => ?_)
  obtain ⟨rfl, bv1470, p1471⟩ := r1469
  refine g_if_ne (fun c1472 => ?_) (fun c1472 => ?_)
  · refine g_aload_n rfl ?_
    refine g_iload_n rfl ?_
    refine g_invvi hIH1465 sm_0 rfl rfl rfl rfl (s_210 a2 H1465 hIH1465 hJH1465) (fun v1475 H1473 r1474 => ?_)
    obtain ⟨rfl, bv1475, p1476⟩ := r1474
    refine g_if_ne (fun c1477 => ?_) (fun c1477 => ?_)
    · refine g_iload_n rfl ?_
      refine g_iload_n rfl ?_
      refine g_if2_eq (fun c1478 => ?_) (fun c1478 => ?_)
      · refine g_iconst (by decide) (fun v1479 kv1479 => ?_)
        refine g_nop ?_
        refine g_istore_n (l' := [(0, .ref 0), (1, .int a1), (2, .int a2), (3, .int v1479)]) rfl rfl ?_
        refine g_iload_n rfl ?_
        refine g_if_ne (fun c1480 => ?_) (fun c1480 => ?_)
        · exfalso; omega
        · refine g_iconst (by decide) (fun v1481 kv1481 => ?_)
          exact g_iret ⟨_, rfl, hIH1465, hJH1465, (e1466.symm.trans ek0_2), m1467⟩
      · refine g_iconst (by decide) (fun v1482 kv1482 => ?_)
        refine g_goto ?_
        refine g_istore_n (l' := [(0, .ref 0), (1, .int a1), (2, .int a2), (3, .int v1482)]) rfl rfl ?_
        refine g_iload_n rfl ?_
        refine g_if_ne (fun c1483 => ?_) (fun c1483 => ?_)
        · refine g_iconst (by decide) (fun v1484 kv1484 => ?_)
          refine g_istore (l' := [(0, .ref 0), (1, .int a1), (2, .int a2), (3, .int v1482), (4, .int v1484)]) rfl rfl ?_
          refine g_iconst (by decide) (fun v1485 kv1485 => ?_)
          refine g_istore (l' := [(0, .ref 0), (1, .int a1), (2, .int a2), (3, .int v1482), (4, .int v1484), (5, .int v1485)]) rfl rfl ?_
          refine g_nop ?_
          have L1491 : ∀ (N : Nat) (v1486 : Int32) (v1487 : Int32) (H1488 : mzH), gI SM H1488 → JN H1488 → k0_2 = fZ H1488 0 2 → kpM H H1488 → (0 ≤ v1487.toInt ∧ v1487.toInt ≤ 40) → (40 - v1487.toInt).toNat < N → gG 7 zB_218 (mzBlk zB_218 6) [(0, .ref 0), (1, .int a1), (2, .int a2), (3, .int v1482), (4, .int v1486), (5, .int v1487)] [] H1488 0 0 (gRi (fun v H' => gI SM H' ∧ JN H' ∧ fZ H' 0 2 = fZ H 0 2 ∧ kpM H H')) := by
            intro N
            induction N with
            | zero => intro v1486 v1487 H1488 hIH1488 hJH1488 e1489 m1490 bv1487 hmL1491; exact absurd hmL1491 (Nat.not_lt_zero _)
            | succ N ihL1491 =>
              intro v1486 v1487 H1488 hIH1488 hJH1488 e1489 m1490 bv1487 hmL1491
              refine g_iload rfl ?_
              refine g_bipush (by decide) (fun v1492 kv1492 => ?_)
              refine g_if2_ge (fun c1493 => ?_) (fun c1493 => ?_)
              · refine g_iload rfl ?_
                exact g_iret ⟨_, rfl, hIH1488, hJH1488, (e1489.symm.trans ek0_2), m1490⟩
              · refine g_aload_n rfl ?_
                refine g_iload rfl ?_
                refine g_invvv hIH1488 sm_0 rfl rfl rfl rfl (s_214 v1487 (by omega) H1488 hIH1488 hJH1488) (fun H1494 r1495 => ?_)
                obtain ⟨hIH1494, hJH1494, w1496, m1497⟩ := r1495
                have e1498 : k0_2 = fZ H1494 0 2 := e1489.trans w1496.symm
                have m1499 : kpM H H1494 := kpM_t m1490 m1497
                refine g_iconst (by decide) (fun v1500 kv1500 => ?_)
                refine g_istore (l' := [(0, .ref 0), (1, .int a1), (2, .int a2), (3, .int v1482), (4, .int v1486), (5, .int v1487), (6, .int v1500)]) rfl rfl ?_
                refine g_nop ?_
                have L1503 : ∀ (N : Nat) (v1501 : Int32) (v1502 : Int32), (0 ≤ v1502.toInt ∧ v1502.toInt ≤ 59) → (59 - v1502.toInt).toNat < N → gG 7 zB_218 (mzBlk zB_218 7) [(0, .ref 0), (1, .int a1), (2, .int a2), (3, .int v1482), (4, .int v1501), (5, .int v1487), (6, .int v1502)] [] H1494 0 0 (gRi (fun v H' => gI SM H' ∧ JN H' ∧ fZ H' 0 2 = fZ H 0 2 ∧ kpM H H')) := by
                  intro N
                  induction N with
                  | zero => intro v1501 v1502 bv1502 hmL1503; exact absurd hmL1503 (Nat.not_lt_zero _)
                  | succ N ihL1503 =>
                    intro v1501 v1502 bv1502 hmL1503
                    refine g_iload rfl ?_
                    refine g_iconst (by decide) (fun v1504 kv1504 => ?_)
                    refine g_iadd (by omega) (fun v1505 ev1505 => ?_)
                    refine g_aload_n rfl ?_
                    refine g_gfi hIH1494 sm_0 rfl (fun v1506 ev1506 lv1506 uv1506 => ?_)
                    refine g_if2_ge (fun c1507 => ?_) (fun c1507 => ?_)
                    · refine g_iinc (l' := (fun v1508 => [(0, .ref 0), (1, .int a1), (2, .int a2), (3, .int v1482), (4, .int v1501), (5, .int v1508), (6, .int v1502)])) rfl rfl (by decide) (by omega) (fun _ => rfl) (fun v1508 ev1508 => ?_)
                      refine g_goto ?_
                      refine gG_pick [0, 1, 2, 3, 4, 5] (l' := [(0, .ref 0), (1, .int a1), (2, .int a2), (3, .int v1482), (4, .int v1501), (5, .int v1508)]) rfl ?_
                      exact ihL1491 v1501 v1508 H1494 hIH1494 (JM_n hJH1494) e1498 m1499 (by omega) (by omega)
                    · refine g_iload rfl ?_
                      refine g_aload_n rfl ?_
                      refine g_gfr hIH1494 sm_0 rfl ?_
                      refine g_iload rfl ?_
                      refine g_iaload hIH1494 sm_22 rfl (by omega) (fun v1509 ev1509 lv1509 uv1509 => ?_)
                      refine g_iload_n rfl ?_
                      refine g_if2_ne (fun c1510 => ?_) (fun c1510 => ?_)
                      · refine g_iconst (by decide) (fun v1511 kv1511 => ?_)
                        refine g_nop ?_
                        refine g_iadd (by have := gz_any v1501; omega) (fun v1512 ev1512 => ?_)
                        refine g_istore (l' := [(0, .ref 0), (1, .int a1), (2, .int a2), (3, .int v1482), (4, .int v1512), (5, .int v1487), (6, .int v1502)]) rfl rfl ?_
                        refine g_iinc (l' := (fun v1513 => [(0, .ref 0), (1, .int a1), (2, .int a2), (3, .int v1482), (4, .int v1512), (5, .int v1487), (6, .int v1513)])) rfl rfl (by decide) (by omega) (fun _ => rfl) (fun v1513 ev1513 => ?_)
                        refine g_goto ?_
                        exact ihL1503 v1512 v1513 (by omega) (by omega)
                      · refine g_aload_n rfl ?_
                        refine g_gfr hIH1494 sm_0 rfl ?_
                        refine g_iload rfl ?_
                        refine g_iconst (by decide) (fun v1514 kv1514 => ?_)
                        refine g_iadd (by omega) (fun v1515 ev1515 => ?_)
                        refine g_iaload hIH1494 sm_22 rfl (by omega) (fun v1516 ev1516 lv1516 uv1516 => ?_)
                        refine g_iload_n rfl ?_
                        refine g_if2_ne (fun c1517 => ?_) (fun c1517 => ?_)
                        · refine g_iconst (by decide) (fun v1518 kv1518 => ?_)
                          refine g_nop ?_
                          refine g_iadd (by have := gz_any v1501; omega) (fun v1519 ev1519 => ?_)
                          refine g_istore (l' := [(0, .ref 0), (1, .int a1), (2, .int a2), (3, .int v1482), (4, .int v1519), (5, .int v1487), (6, .int v1502)]) rfl rfl ?_
                          refine g_iinc (l' := (fun v1520 => [(0, .ref 0), (1, .int a1), (2, .int a2), (3, .int v1482), (4, .int v1519), (5, .int v1487), (6, .int v1520)])) rfl rfl (by decide) (by omega) (fun _ => rfl) (fun v1520 ev1520 => ?_)
                          refine g_goto ?_
                          exact ihL1503 v1519 v1520 (by omega) (by omega)
                        · refine g_iconst (by decide) (fun v1521 kv1521 => ?_)
                          refine g_goto ?_
                          refine g_iadd' (fun v1522 ov1522 => ?_)
                          refine g_istore (l' := [(0, .ref 0), (1, .int a1), (2, .int a2), (3, .int v1482), (4, .int v1522), (5, .int v1487), (6, .int v1502)]) rfl rfl ?_
                          refine g_iinc (l' := (fun v1523 => [(0, .ref 0), (1, .int a1), (2, .int a2), (3, .int v1482), (4, .int v1522), (5, .int v1487), (6, .int v1523)])) rfl rfl (by decide) (by omega) (fun _ => rfl) (fun v1523 ev1523 => ?_)
                          refine g_goto ?_
                          exact ihL1503 v1522 v1523 (by omega) (by omega)
                exact L1503 _ v1486 v1500 (by omega) (Nat.lt_succ_self _)
          exact L1491 _ v1484 v1485 H1465 hIH1465 hJH1465 e1466 m1467 (by omega) (Nat.lt_succ_self _)
        · exfalso; omega
    · refine g_iload_n rfl ?_
      refine g_bipush (by decide) (fun v1524 kv1524 => ?_)
      refine g_if2_eq (fun c1525 => ?_) (fun c1525 => ?_)
      · refine g_iload_n rfl ?_
        refine g_iload_n rfl ?_
        refine g_if2_eq (fun c1526 => ?_) (fun c1526 => ?_)
        · exfalso; omega
        · refine g_iconst (by decide) (fun v1527 kv1527 => ?_)
          refine g_goto ?_
          refine g_istore_n (l' := [(0, .ref 0), (1, .int a1), (2, .int a2), (3, .int v1527)]) rfl rfl ?_
          refine g_iload_n rfl ?_
          refine g_if_ne (fun c1528 => ?_) (fun c1528 => ?_)
          · refine g_iconst (by decide) (fun v1529 kv1529 => ?_)
            refine g_istore (l' := [(0, .ref 0), (1, .int a1), (2, .int a2), (3, .int v1527), (4, .int v1529)]) rfl rfl ?_
            refine g_iconst (by decide) (fun v1530 kv1530 => ?_)
            refine g_istore (l' := [(0, .ref 0), (1, .int a1), (2, .int a2), (3, .int v1527), (4, .int v1529), (5, .int v1530)]) rfl rfl ?_
            refine g_nop ?_
            have L1536 : ∀ (N : Nat) (v1531 : Int32) (v1532 : Int32) (H1533 : mzH), gI SM H1533 → JN H1533 → k0_2 = fZ H1533 0 2 → kpM H H1533 → (0 ≤ v1532.toInt ∧ v1532.toInt ≤ 40) → (40 - v1532.toInt).toNat < N → gG 7 zB_218 (mzBlk zB_218 6) [(0, .ref 0), (1, .int a1), (2, .int a2), (3, .int v1527), (4, .int v1531), (5, .int v1532)] [] H1533 0 0 (gRi (fun v H' => gI SM H' ∧ JN H' ∧ fZ H' 0 2 = fZ H 0 2 ∧ kpM H H')) := by
              intro N
              induction N with
              | zero => intro v1531 v1532 H1533 hIH1533 hJH1533 e1534 m1535 bv1532 hmL1536; exact absurd hmL1536 (Nat.not_lt_zero _)
              | succ N ihL1536 =>
                intro v1531 v1532 H1533 hIH1533 hJH1533 e1534 m1535 bv1532 hmL1536
                refine g_iload rfl ?_
                refine g_bipush (by decide) (fun v1537 kv1537 => ?_)
                refine g_if2_ge (fun c1538 => ?_) (fun c1538 => ?_)
                · refine g_iload rfl ?_
                  exact g_iret ⟨_, rfl, hIH1533, hJH1533, (e1534.symm.trans ek0_2), m1535⟩
                · refine g_aload_n rfl ?_
                  refine g_iload rfl ?_
                  refine g_invvv hIH1533 sm_0 rfl rfl rfl rfl (s_214 v1532 (by omega) H1533 hIH1533 hJH1533) (fun H1539 r1540 => ?_)
                  obtain ⟨hIH1539, hJH1539, w1541, m1542⟩ := r1540
                  have e1543 : k0_2 = fZ H1539 0 2 := e1534.trans w1541.symm
                  have m1544 : kpM H H1539 := kpM_t m1535 m1542
                  refine g_iconst (by decide) (fun v1545 kv1545 => ?_)
                  refine g_istore (l' := [(0, .ref 0), (1, .int a1), (2, .int a2), (3, .int v1527), (4, .int v1531), (5, .int v1532), (6, .int v1545)]) rfl rfl ?_
                  refine g_nop ?_
                  have L1548 : ∀ (N : Nat) (v1546 : Int32) (v1547 : Int32), (0 ≤ v1547.toInt ∧ v1547.toInt ≤ 59) → (59 - v1547.toInt).toNat < N → gG 7 zB_218 (mzBlk zB_218 7) [(0, .ref 0), (1, .int a1), (2, .int a2), (3, .int v1527), (4, .int v1546), (5, .int v1532), (6, .int v1547)] [] H1539 0 0 (gRi (fun v H' => gI SM H' ∧ JN H' ∧ fZ H' 0 2 = fZ H 0 2 ∧ kpM H H')) := by
                    intro N
                    induction N with
                    | zero => intro v1546 v1547 bv1547 hmL1548; exact absurd hmL1548 (Nat.not_lt_zero _)
                    | succ N ihL1548 =>
                      intro v1546 v1547 bv1547 hmL1548
                      refine g_iload rfl ?_
                      refine g_iconst (by decide) (fun v1549 kv1549 => ?_)
                      refine g_iadd (by omega) (fun v1550 ev1550 => ?_)
                      refine g_aload_n rfl ?_
                      refine g_gfi hIH1539 sm_0 rfl (fun v1551 ev1551 lv1551 uv1551 => ?_)
                      refine g_if2_ge (fun c1552 => ?_) (fun c1552 => ?_)
                      · refine g_iinc (l' := (fun v1553 => [(0, .ref 0), (1, .int a1), (2, .int a2), (3, .int v1527), (4, .int v1546), (5, .int v1553), (6, .int v1547)])) rfl rfl (by decide) (by omega) (fun _ => rfl) (fun v1553 ev1553 => ?_)
                        refine g_goto ?_
                        refine gG_pick [0, 1, 2, 3, 4, 5] (l' := [(0, .ref 0), (1, .int a1), (2, .int a2), (3, .int v1527), (4, .int v1546), (5, .int v1553)]) rfl ?_
                        exact ihL1536 v1546 v1553 H1539 hIH1539 (JM_n hJH1539) e1543 m1544 (by omega) (by omega)
                      · refine g_iload rfl ?_
                        refine g_aload_n rfl ?_
                        refine g_gfr hIH1539 sm_0 rfl ?_
                        refine g_iload rfl ?_
                        refine g_iaload hIH1539 sm_22 rfl (by omega) (fun v1554 ev1554 lv1554 uv1554 => ?_)
                        refine g_iload_n rfl ?_
                        refine g_if2_ne (fun c1555 => ?_) (fun c1555 => ?_)
                        · refine g_iconst (by decide) (fun v1556 kv1556 => ?_)
                          refine g_nop ?_
                          refine g_iadd (by have := gz_any v1546; omega) (fun v1557 ev1557 => ?_)
                          refine g_istore (l' := [(0, .ref 0), (1, .int a1), (2, .int a2), (3, .int v1527), (4, .int v1557), (5, .int v1532), (6, .int v1547)]) rfl rfl ?_
                          refine g_iinc (l' := (fun v1558 => [(0, .ref 0), (1, .int a1), (2, .int a2), (3, .int v1527), (4, .int v1557), (5, .int v1532), (6, .int v1558)])) rfl rfl (by decide) (by omega) (fun _ => rfl) (fun v1558 ev1558 => ?_)
                          refine g_goto ?_
                          exact ihL1548 v1557 v1558 (by omega) (by omega)
                        · refine g_aload_n rfl ?_
                          refine g_gfr hIH1539 sm_0 rfl ?_
                          refine g_iload rfl ?_
                          refine g_iconst (by decide) (fun v1559 kv1559 => ?_)
                          refine g_iadd (by omega) (fun v1560 ev1560 => ?_)
                          refine g_iaload hIH1539 sm_22 rfl (by omega) (fun v1561 ev1561 lv1561 uv1561 => ?_)
                          refine g_iload_n rfl ?_
                          refine g_if2_ne (fun c1562 => ?_) (fun c1562 => ?_)
                          · refine g_iconst (by decide) (fun v1563 kv1563 => ?_)
                            refine g_nop ?_
                            refine g_iadd (by have := gz_any v1546; omega) (fun v1564 ev1564 => ?_)
                            refine g_istore (l' := [(0, .ref 0), (1, .int a1), (2, .int a2), (3, .int v1527), (4, .int v1564), (5, .int v1532), (6, .int v1547)]) rfl rfl ?_
                            refine g_iinc (l' := (fun v1565 => [(0, .ref 0), (1, .int a1), (2, .int a2), (3, .int v1527), (4, .int v1564), (5, .int v1532), (6, .int v1565)])) rfl rfl (by decide) (by omega) (fun _ => rfl) (fun v1565 ev1565 => ?_)
                            refine g_goto ?_
                            exact ihL1548 v1564 v1565 (by omega) (by omega)
                          · refine g_iconst (by decide) (fun v1566 kv1566 => ?_)
                            refine g_goto ?_
                            refine g_iadd' (fun v1567 ov1567 => ?_)
                            refine g_istore (l' := [(0, .ref 0), (1, .int a1), (2, .int a2), (3, .int v1527), (4, .int v1567), (5, .int v1532), (6, .int v1547)]) rfl rfl ?_
                            refine g_iinc (l' := (fun v1568 => [(0, .ref 0), (1, .int a1), (2, .int a2), (3, .int v1527), (4, .int v1567), (5, .int v1532), (6, .int v1568)])) rfl rfl (by decide) (by omega) (fun _ => rfl) (fun v1568 ev1568 => ?_)
                            refine g_goto ?_
                            exact ihL1548 v1567 v1568 (by omega) (by omega)
                  exact L1548 _ v1531 v1545 (by omega) (Nat.lt_succ_self _)
            exact L1536 _ v1529 v1530 H1465 hIH1465 hJH1465 e1466 m1467 (by omega) (Nat.lt_succ_self _)
          · exfalso; omega
      · refine g_iload_n rfl ?_
        refine g_bipush (by decide) (fun v1569 kv1569 => ?_)
        refine g_if2_ne (fun c1570 => ?_) (fun c1570 => ?_)
        · refine g_iconst (by decide) (fun v1571 kv1571 => ?_)
          refine g_nop ?_
          refine g_istore_n (l' := [(0, .ref 0), (1, .int a1), (2, .int a2), (3, .int v1571)]) rfl rfl ?_
          refine g_iload_n rfl ?_
          refine g_if_ne (fun c1572 => ?_) (fun c1572 => ?_)
          · exfalso; omega
          · refine g_iconst (by decide) (fun v1573 kv1573 => ?_)
            exact g_iret ⟨_, rfl, hIH1465, hJH1465, (e1466.symm.trans ek0_2), m1467⟩
        · refine g_nop ?_
          refine g_iload_n rfl ?_
          refine g_iload_n rfl ?_
          refine g_if2_eq (fun c1574 => ?_) (fun c1574 => ?_)
          · exfalso; omega
          · refine g_iconst (by decide) (fun v1575 kv1575 => ?_)
            refine g_goto ?_
            refine g_istore_n (l' := [(0, .ref 0), (1, .int a1), (2, .int a2), (3, .int v1575)]) rfl rfl ?_
            refine g_iload_n rfl ?_
            refine g_if_ne (fun c1576 => ?_) (fun c1576 => ?_)
            · refine g_iconst (by decide) (fun v1577 kv1577 => ?_)
              refine g_istore (l' := [(0, .ref 0), (1, .int a1), (2, .int a2), (3, .int v1575), (4, .int v1577)]) rfl rfl ?_
              refine g_iconst (by decide) (fun v1578 kv1578 => ?_)
              refine g_istore (l' := [(0, .ref 0), (1, .int a1), (2, .int a2), (3, .int v1575), (4, .int v1577), (5, .int v1578)]) rfl rfl ?_
              refine g_nop ?_
              have L1584 : ∀ (N : Nat) (v1579 : Int32) (v1580 : Int32) (H1581 : mzH), gI SM H1581 → JN H1581 → k0_2 = fZ H1581 0 2 → kpM H H1581 → (0 ≤ v1580.toInt ∧ v1580.toInt ≤ 40) → (40 - v1580.toInt).toNat < N → gG 7 zB_218 (mzBlk zB_218 6) [(0, .ref 0), (1, .int a1), (2, .int a2), (3, .int v1575), (4, .int v1579), (5, .int v1580)] [] H1581 0 0 (gRi (fun v H' => gI SM H' ∧ JN H' ∧ fZ H' 0 2 = fZ H 0 2 ∧ kpM H H')) := by
                intro N
                induction N with
                | zero => intro v1579 v1580 H1581 hIH1581 hJH1581 e1582 m1583 bv1580 hmL1584; exact absurd hmL1584 (Nat.not_lt_zero _)
                | succ N ihL1584 =>
                  intro v1579 v1580 H1581 hIH1581 hJH1581 e1582 m1583 bv1580 hmL1584
                  refine g_iload rfl ?_
                  refine g_bipush (by decide) (fun v1585 kv1585 => ?_)
                  refine g_if2_ge (fun c1586 => ?_) (fun c1586 => ?_)
                  · refine g_iload rfl ?_
                    exact g_iret ⟨_, rfl, hIH1581, hJH1581, (e1582.symm.trans ek0_2), m1583⟩
                  · refine g_aload_n rfl ?_
                    refine g_iload rfl ?_
                    refine g_invvv hIH1581 sm_0 rfl rfl rfl rfl (s_214 v1580 (by omega) H1581 hIH1581 hJH1581) (fun H1587 r1588 => ?_)
                    obtain ⟨hIH1587, hJH1587, w1589, m1590⟩ := r1588
                    have e1591 : k0_2 = fZ H1587 0 2 := e1582.trans w1589.symm
                    have m1592 : kpM H H1587 := kpM_t m1583 m1590
                    refine g_iconst (by decide) (fun v1593 kv1593 => ?_)
                    refine g_istore (l' := [(0, .ref 0), (1, .int a1), (2, .int a2), (3, .int v1575), (4, .int v1579), (5, .int v1580), (6, .int v1593)]) rfl rfl ?_
                    refine g_nop ?_
                    have L1596 : ∀ (N : Nat) (v1594 : Int32) (v1595 : Int32), (0 ≤ v1595.toInt ∧ v1595.toInt ≤ 59) → (59 - v1595.toInt).toNat < N → gG 7 zB_218 (mzBlk zB_218 7) [(0, .ref 0), (1, .int a1), (2, .int a2), (3, .int v1575), (4, .int v1594), (5, .int v1580), (6, .int v1595)] [] H1587 0 0 (gRi (fun v H' => gI SM H' ∧ JN H' ∧ fZ H' 0 2 = fZ H 0 2 ∧ kpM H H')) := by
                      intro N
                      induction N with
                      | zero => intro v1594 v1595 bv1595 hmL1596; exact absurd hmL1596 (Nat.not_lt_zero _)
                      | succ N ihL1596 =>
                        intro v1594 v1595 bv1595 hmL1596
                        refine g_iload rfl ?_
                        refine g_iconst (by decide) (fun v1597 kv1597 => ?_)
                        refine g_iadd (by omega) (fun v1598 ev1598 => ?_)
                        refine g_aload_n rfl ?_
                        refine g_gfi hIH1587 sm_0 rfl (fun v1599 ev1599 lv1599 uv1599 => ?_)
                        refine g_if2_ge (fun c1600 => ?_) (fun c1600 => ?_)
                        · refine g_iinc (l' := (fun v1601 => [(0, .ref 0), (1, .int a1), (2, .int a2), (3, .int v1575), (4, .int v1594), (5, .int v1601), (6, .int v1595)])) rfl rfl (by decide) (by omega) (fun _ => rfl) (fun v1601 ev1601 => ?_)
                          refine g_goto ?_
                          refine gG_pick [0, 1, 2, 3, 4, 5] (l' := [(0, .ref 0), (1, .int a1), (2, .int a2), (3, .int v1575), (4, .int v1594), (5, .int v1601)]) rfl ?_
                          exact ihL1584 v1594 v1601 H1587 hIH1587 (JM_n hJH1587) e1591 m1592 (by omega) (by omega)
                        · refine g_iload rfl ?_
                          refine g_aload_n rfl ?_
                          refine g_gfr hIH1587 sm_0 rfl ?_
                          refine g_iload rfl ?_
                          refine g_iaload hIH1587 sm_22 rfl (by omega) (fun v1602 ev1602 lv1602 uv1602 => ?_)
                          refine g_iload_n rfl ?_
                          refine g_if2_ne (fun c1603 => ?_) (fun c1603 => ?_)
                          · refine g_iconst (by decide) (fun v1604 kv1604 => ?_)
                            refine g_nop ?_
                            refine g_iadd (by have := gz_any v1594; omega) (fun v1605 ev1605 => ?_)
                            refine g_istore (l' := [(0, .ref 0), (1, .int a1), (2, .int a2), (3, .int v1575), (4, .int v1605), (5, .int v1580), (6, .int v1595)]) rfl rfl ?_
                            refine g_iinc (l' := (fun v1606 => [(0, .ref 0), (1, .int a1), (2, .int a2), (3, .int v1575), (4, .int v1605), (5, .int v1580), (6, .int v1606)])) rfl rfl (by decide) (by omega) (fun _ => rfl) (fun v1606 ev1606 => ?_)
                            refine g_goto ?_
                            exact ihL1596 v1605 v1606 (by omega) (by omega)
                          · refine g_aload_n rfl ?_
                            refine g_gfr hIH1587 sm_0 rfl ?_
                            refine g_iload rfl ?_
                            refine g_iconst (by decide) (fun v1607 kv1607 => ?_)
                            refine g_iadd (by omega) (fun v1608 ev1608 => ?_)
                            refine g_iaload hIH1587 sm_22 rfl (by omega) (fun v1609 ev1609 lv1609 uv1609 => ?_)
                            refine g_iload_n rfl ?_
                            refine g_if2_ne (fun c1610 => ?_) (fun c1610 => ?_)
                            · refine g_iconst (by decide) (fun v1611 kv1611 => ?_)
                              refine g_nop ?_
                              refine g_iadd (by have := gz_any v1594; omega) (fun v1612 ev1612 => ?_)
                              refine g_istore (l' := [(0, .ref 0), (1, .int a1), (2, .int a2), (3, .int v1575), (4, .int v1612), (5, .int v1580), (6, .int v1595)]) rfl rfl ?_
                              refine g_iinc (l' := (fun v1613 => [(0, .ref 0), (1, .int a1), (2, .int a2), (3, .int v1575), (4, .int v1612), (5, .int v1580), (6, .int v1613)])) rfl rfl (by decide) (by omega) (fun _ => rfl) (fun v1613 ev1613 => ?_)
                              refine g_goto ?_
                              exact ihL1596 v1612 v1613 (by omega) (by omega)
                            · refine g_iconst (by decide) (fun v1614 kv1614 => ?_)
                              refine g_goto ?_
                              refine g_iadd' (fun v1615 ov1615 => ?_)
                              refine g_istore (l' := [(0, .ref 0), (1, .int a1), (2, .int a2), (3, .int v1575), (4, .int v1615), (5, .int v1580), (6, .int v1595)]) rfl rfl ?_
                              refine g_iinc (l' := (fun v1616 => [(0, .ref 0), (1, .int a1), (2, .int a2), (3, .int v1575), (4, .int v1615), (5, .int v1580), (6, .int v1616)])) rfl rfl (by decide) (by omega) (fun _ => rfl) (fun v1616 ev1616 => ?_)
                              refine g_goto ?_
                              exact ihL1596 v1615 v1616 (by omega) (by omega)
                    exact L1596 _ v1579 v1593 (by omega) (Nat.lt_succ_self _)
              exact L1584 _ v1577 v1578 H1465 hIH1465 hJH1465 e1466 m1467 (by omega) (Nat.lt_succ_self _)
            · exfalso; omega
  · refine g_iload_n rfl ?_
    refine g_bipush (by decide) (fun v1617 kv1617 => ?_)
    refine g_if2_ne (fun c1618 => ?_) (fun c1618 => ?_)
    · refine g_iconst (by decide) (fun v1619 kv1619 => ?_)
      refine g_nop ?_
      refine g_istore_n (l' := [(0, .ref 0), (1, .int a1), (2, .int a2), (3, .int v1619)]) rfl rfl ?_
      refine g_iload_n rfl ?_
      refine g_if_ne (fun c1620 => ?_) (fun c1620 => ?_)
      · exfalso; omega
      · refine g_iconst (by decide) (fun v1621 kv1621 => ?_)
        exact g_iret ⟨_, rfl, hIH1465, hJH1465, (e1466.symm.trans ek0_2), m1467⟩
    · refine g_nop ?_
      refine g_aload_n rfl ?_
      refine g_iload_n rfl ?_
      refine g_invvi hIH1465 sm_0 rfl rfl rfl rfl (s_210 a2 H1465 hIH1465 hJH1465) (fun v1624 H1622 r1623 => ?_)
      obtain ⟨rfl, bv1624, p1625⟩ := r1623
      refine g_if_ne (fun c1626 => ?_) (fun c1626 => ?_)
      · refine g_iload_n rfl ?_
        refine g_iload_n rfl ?_
        refine g_if2_eq (fun c1627 => ?_) (fun c1627 => ?_)
        · exfalso; omega
        · refine g_iconst (by decide) (fun v1628 kv1628 => ?_)
          refine g_goto ?_
          refine g_istore_n (l' := [(0, .ref 0), (1, .int a1), (2, .int a2), (3, .int v1628)]) rfl rfl ?_
          refine g_iload_n rfl ?_
          refine g_if_ne (fun c1629 => ?_) (fun c1629 => ?_)
          · refine g_iconst (by decide) (fun v1630 kv1630 => ?_)
            refine g_istore (l' := [(0, .ref 0), (1, .int a1), (2, .int a2), (3, .int v1628), (4, .int v1630)]) rfl rfl ?_
            refine g_iconst (by decide) (fun v1631 kv1631 => ?_)
            refine g_istore (l' := [(0, .ref 0), (1, .int a1), (2, .int a2), (3, .int v1628), (4, .int v1630), (5, .int v1631)]) rfl rfl ?_
            refine g_nop ?_
            have L1637 : ∀ (N : Nat) (v1632 : Int32) (v1633 : Int32) (H1634 : mzH), gI SM H1634 → JN H1634 → k0_2 = fZ H1634 0 2 → kpM H H1634 → (0 ≤ v1633.toInt ∧ v1633.toInt ≤ 40) → (40 - v1633.toInt).toNat < N → gG 7 zB_218 (mzBlk zB_218 6) [(0, .ref 0), (1, .int a1), (2, .int a2), (3, .int v1628), (4, .int v1632), (5, .int v1633)] [] H1634 0 0 (gRi (fun v H' => gI SM H' ∧ JN H' ∧ fZ H' 0 2 = fZ H 0 2 ∧ kpM H H')) := by
              intro N
              induction N with
              | zero => intro v1632 v1633 H1634 hIH1634 hJH1634 e1635 m1636 bv1633 hmL1637; exact absurd hmL1637 (Nat.not_lt_zero _)
              | succ N ihL1637 =>
                intro v1632 v1633 H1634 hIH1634 hJH1634 e1635 m1636 bv1633 hmL1637
                refine g_iload rfl ?_
                refine g_bipush (by decide) (fun v1638 kv1638 => ?_)
                refine g_if2_ge (fun c1639 => ?_) (fun c1639 => ?_)
                · refine g_iload rfl ?_
                  exact g_iret ⟨_, rfl, hIH1634, hJH1634, (e1635.symm.trans ek0_2), m1636⟩
                · refine g_aload_n rfl ?_
                  refine g_iload rfl ?_
                  refine g_invvv hIH1634 sm_0 rfl rfl rfl rfl (s_214 v1633 (by omega) H1634 hIH1634 hJH1634) (fun H1640 r1641 => ?_)
                  obtain ⟨hIH1640, hJH1640, w1642, m1643⟩ := r1641
                  have e1644 : k0_2 = fZ H1640 0 2 := e1635.trans w1642.symm
                  have m1645 : kpM H H1640 := kpM_t m1636 m1643
                  refine g_iconst (by decide) (fun v1646 kv1646 => ?_)
                  refine g_istore (l' := [(0, .ref 0), (1, .int a1), (2, .int a2), (3, .int v1628), (4, .int v1632), (5, .int v1633), (6, .int v1646)]) rfl rfl ?_
                  refine g_nop ?_
                  have L1649 : ∀ (N : Nat) (v1647 : Int32) (v1648 : Int32), (0 ≤ v1648.toInt ∧ v1648.toInt ≤ 59) → (59 - v1648.toInt).toNat < N → gG 7 zB_218 (mzBlk zB_218 7) [(0, .ref 0), (1, .int a1), (2, .int a2), (3, .int v1628), (4, .int v1647), (5, .int v1633), (6, .int v1648)] [] H1640 0 0 (gRi (fun v H' => gI SM H' ∧ JN H' ∧ fZ H' 0 2 = fZ H 0 2 ∧ kpM H H')) := by
                    intro N
                    induction N with
                    | zero => intro v1647 v1648 bv1648 hmL1649; exact absurd hmL1649 (Nat.not_lt_zero _)
                    | succ N ihL1649 =>
                      intro v1647 v1648 bv1648 hmL1649
                      refine g_iload rfl ?_
                      refine g_iconst (by decide) (fun v1650 kv1650 => ?_)
                      refine g_iadd (by omega) (fun v1651 ev1651 => ?_)
                      refine g_aload_n rfl ?_
                      refine g_gfi hIH1640 sm_0 rfl (fun v1652 ev1652 lv1652 uv1652 => ?_)
                      refine g_if2_ge (fun c1653 => ?_) (fun c1653 => ?_)
                      · refine g_iinc (l' := (fun v1654 => [(0, .ref 0), (1, .int a1), (2, .int a2), (3, .int v1628), (4, .int v1647), (5, .int v1654), (6, .int v1648)])) rfl rfl (by decide) (by omega) (fun _ => rfl) (fun v1654 ev1654 => ?_)
                        refine g_goto ?_
                        refine gG_pick [0, 1, 2, 3, 4, 5] (l' := [(0, .ref 0), (1, .int a1), (2, .int a2), (3, .int v1628), (4, .int v1647), (5, .int v1654)]) rfl ?_
                        exact ihL1637 v1647 v1654 H1640 hIH1640 (JM_n hJH1640) e1644 m1645 (by omega) (by omega)
                      · refine g_iload rfl ?_
                        refine g_aload_n rfl ?_
                        refine g_gfr hIH1640 sm_0 rfl ?_
                        refine g_iload rfl ?_
                        refine g_iaload hIH1640 sm_22 rfl (by omega) (fun v1655 ev1655 lv1655 uv1655 => ?_)
                        refine g_iload_n rfl ?_
                        refine g_if2_ne (fun c1656 => ?_) (fun c1656 => ?_)
                        · refine g_iconst (by decide) (fun v1657 kv1657 => ?_)
                          refine g_nop ?_
                          refine g_iadd (by have := gz_any v1647; omega) (fun v1658 ev1658 => ?_)
                          refine g_istore (l' := [(0, .ref 0), (1, .int a1), (2, .int a2), (3, .int v1628), (4, .int v1658), (5, .int v1633), (6, .int v1648)]) rfl rfl ?_
                          refine g_iinc (l' := (fun v1659 => [(0, .ref 0), (1, .int a1), (2, .int a2), (3, .int v1628), (4, .int v1658), (5, .int v1633), (6, .int v1659)])) rfl rfl (by decide) (by omega) (fun _ => rfl) (fun v1659 ev1659 => ?_)
                          refine g_goto ?_
                          exact ihL1649 v1658 v1659 (by omega) (by omega)
                        · refine g_aload_n rfl ?_
                          refine g_gfr hIH1640 sm_0 rfl ?_
                          refine g_iload rfl ?_
                          refine g_iconst (by decide) (fun v1660 kv1660 => ?_)
                          refine g_iadd (by omega) (fun v1661 ev1661 => ?_)
                          refine g_iaload hIH1640 sm_22 rfl (by omega) (fun v1662 ev1662 lv1662 uv1662 => ?_)
                          refine g_iload_n rfl ?_
                          refine g_if2_ne (fun c1663 => ?_) (fun c1663 => ?_)
                          · refine g_iconst (by decide) (fun v1664 kv1664 => ?_)
                            refine g_nop ?_
                            refine g_iadd (by have := gz_any v1647; omega) (fun v1665 ev1665 => ?_)
                            refine g_istore (l' := [(0, .ref 0), (1, .int a1), (2, .int a2), (3, .int v1628), (4, .int v1665), (5, .int v1633), (6, .int v1648)]) rfl rfl ?_
                            refine g_iinc (l' := (fun v1666 => [(0, .ref 0), (1, .int a1), (2, .int a2), (3, .int v1628), (4, .int v1665), (5, .int v1633), (6, .int v1666)])) rfl rfl (by decide) (by omega) (fun _ => rfl) (fun v1666 ev1666 => ?_)
                            refine g_goto ?_
                            exact ihL1649 v1665 v1666 (by omega) (by omega)
                          · refine g_iconst (by decide) (fun v1667 kv1667 => ?_)
                            refine g_goto ?_
                            refine g_iadd' (fun v1668 ov1668 => ?_)
                            refine g_istore (l' := [(0, .ref 0), (1, .int a1), (2, .int a2), (3, .int v1628), (4, .int v1668), (5, .int v1633), (6, .int v1648)]) rfl rfl ?_
                            refine g_iinc (l' := (fun v1669 => [(0, .ref 0), (1, .int a1), (2, .int a2), (3, .int v1628), (4, .int v1668), (5, .int v1633), (6, .int v1669)])) rfl rfl (by decide) (by omega) (fun _ => rfl) (fun v1669 ev1669 => ?_)
                            refine g_goto ?_
                            exact ihL1649 v1668 v1669 (by omega) (by omega)
                  exact L1649 _ v1632 v1646 (by omega) (Nat.lt_succ_self _)
            exact L1637 _ v1630 v1631 H1465 hIH1465 hJH1465 e1466 m1467 (by omega) (Nat.lt_succ_self _)
          · exfalso; omega
      · refine g_iload_n rfl ?_
        refine g_bipush (by decide) (fun v1670 kv1670 => ?_)
        refine g_if2_eq (fun c1671 => ?_) (fun c1671 => ?_)
        · refine g_iload_n rfl ?_
          refine g_iload_n rfl ?_
          refine g_if2_eq (fun c1672 => ?_) (fun c1672 => ?_)
          · refine g_iconst (by decide) (fun v1673 kv1673 => ?_)
            refine g_nop ?_
            refine g_istore_n (l' := [(0, .ref 0), (1, .int a1), (2, .int a2), (3, .int v1673)]) rfl rfl ?_
            refine g_iload_n rfl ?_
            refine g_if_ne (fun c1674 => ?_) (fun c1674 => ?_)
            · exfalso; omega
            · refine g_iconst (by decide) (fun v1675 kv1675 => ?_)
              exact g_iret ⟨_, rfl, hIH1465, hJH1465, (e1466.symm.trans ek0_2), m1467⟩
          · exfalso; omega
        · refine g_iload_n rfl ?_
          refine g_bipush (by decide) (fun v1676 kv1676 => ?_)
          refine g_if2_ne (fun c1677 => ?_) (fun c1677 => ?_)
          · refine g_iconst (by decide) (fun v1678 kv1678 => ?_)
            refine g_nop ?_
            refine g_istore_n (l' := [(0, .ref 0), (1, .int a1), (2, .int a2), (3, .int v1678)]) rfl rfl ?_
            refine g_iload_n rfl ?_
            refine g_if_ne (fun c1679 => ?_) (fun c1679 => ?_)
            · exfalso; omega
            · refine g_iconst (by decide) (fun v1680 kv1680 => ?_)
              exact g_iret ⟨_, rfl, hIH1465, hJH1465, (e1466.symm.trans ek0_2), m1467⟩
          · refine g_nop ?_
            refine g_iload_n rfl ?_
            refine g_iload_n rfl ?_
            refine g_if2_eq (fun c1681 => ?_) (fun c1681 => ?_)
            · exfalso; omega
            · refine g_iconst (by decide) (fun v1682 kv1682 => ?_)
              refine g_goto ?_
              refine g_istore_n (l' := [(0, .ref 0), (1, .int a1), (2, .int a2), (3, .int v1682)]) rfl rfl ?_
              refine g_iload_n rfl ?_
              refine g_if_ne (fun c1683 => ?_) (fun c1683 => ?_)
              · refine g_iconst (by decide) (fun v1684 kv1684 => ?_)
                refine g_istore (l' := [(0, .ref 0), (1, .int a1), (2, .int a2), (3, .int v1682), (4, .int v1684)]) rfl rfl ?_
                refine g_iconst (by decide) (fun v1685 kv1685 => ?_)
                refine g_istore (l' := [(0, .ref 0), (1, .int a1), (2, .int a2), (3, .int v1682), (4, .int v1684), (5, .int v1685)]) rfl rfl ?_
                refine g_nop ?_
                have L1691 : ∀ (N : Nat) (v1686 : Int32) (v1687 : Int32) (H1688 : mzH), gI SM H1688 → JN H1688 → k0_2 = fZ H1688 0 2 → kpM H H1688 → (0 ≤ v1687.toInt ∧ v1687.toInt ≤ 40) → (40 - v1687.toInt).toNat < N → gG 7 zB_218 (mzBlk zB_218 6) [(0, .ref 0), (1, .int a1), (2, .int a2), (3, .int v1682), (4, .int v1686), (5, .int v1687)] [] H1688 0 0 (gRi (fun v H' => gI SM H' ∧ JN H' ∧ fZ H' 0 2 = fZ H 0 2 ∧ kpM H H')) := by
                  intro N
                  induction N with
                  | zero => intro v1686 v1687 H1688 hIH1688 hJH1688 e1689 m1690 bv1687 hmL1691; exact absurd hmL1691 (Nat.not_lt_zero _)
                  | succ N ihL1691 =>
                    intro v1686 v1687 H1688 hIH1688 hJH1688 e1689 m1690 bv1687 hmL1691
                    refine g_iload rfl ?_
                    refine g_bipush (by decide) (fun v1692 kv1692 => ?_)
                    refine g_if2_ge (fun c1693 => ?_) (fun c1693 => ?_)
                    · refine g_iload rfl ?_
                      exact g_iret ⟨_, rfl, hIH1688, hJH1688, (e1689.symm.trans ek0_2), m1690⟩
                    · refine g_aload_n rfl ?_
                      refine g_iload rfl ?_
                      refine g_invvv hIH1688 sm_0 rfl rfl rfl rfl (s_214 v1687 (by omega) H1688 hIH1688 hJH1688) (fun H1694 r1695 => ?_)
                      obtain ⟨hIH1694, hJH1694, w1696, m1697⟩ := r1695
                      have e1698 : k0_2 = fZ H1694 0 2 := e1689.trans w1696.symm
                      have m1699 : kpM H H1694 := kpM_t m1690 m1697
                      refine g_iconst (by decide) (fun v1700 kv1700 => ?_)
                      refine g_istore (l' := [(0, .ref 0), (1, .int a1), (2, .int a2), (3, .int v1682), (4, .int v1686), (5, .int v1687), (6, .int v1700)]) rfl rfl ?_
                      refine g_nop ?_
                      have L1703 : ∀ (N : Nat) (v1701 : Int32) (v1702 : Int32), (0 ≤ v1702.toInt ∧ v1702.toInt ≤ 59) → (59 - v1702.toInt).toNat < N → gG 7 zB_218 (mzBlk zB_218 7) [(0, .ref 0), (1, .int a1), (2, .int a2), (3, .int v1682), (4, .int v1701), (5, .int v1687), (6, .int v1702)] [] H1694 0 0 (gRi (fun v H' => gI SM H' ∧ JN H' ∧ fZ H' 0 2 = fZ H 0 2 ∧ kpM H H')) := by
                        intro N
                        induction N with
                        | zero => intro v1701 v1702 bv1702 hmL1703; exact absurd hmL1703 (Nat.not_lt_zero _)
                        | succ N ihL1703 =>
                          intro v1701 v1702 bv1702 hmL1703
                          refine g_iload rfl ?_
                          refine g_iconst (by decide) (fun v1704 kv1704 => ?_)
                          refine g_iadd (by omega) (fun v1705 ev1705 => ?_)
                          refine g_aload_n rfl ?_
                          refine g_gfi hIH1694 sm_0 rfl (fun v1706 ev1706 lv1706 uv1706 => ?_)
                          refine g_if2_ge (fun c1707 => ?_) (fun c1707 => ?_)
                          · refine g_iinc (l' := (fun v1708 => [(0, .ref 0), (1, .int a1), (2, .int a2), (3, .int v1682), (4, .int v1701), (5, .int v1708), (6, .int v1702)])) rfl rfl (by decide) (by omega) (fun _ => rfl) (fun v1708 ev1708 => ?_)
                            refine g_goto ?_
                            refine gG_pick [0, 1, 2, 3, 4, 5] (l' := [(0, .ref 0), (1, .int a1), (2, .int a2), (3, .int v1682), (4, .int v1701), (5, .int v1708)]) rfl ?_
                            exact ihL1691 v1701 v1708 H1694 hIH1694 (JM_n hJH1694) e1698 m1699 (by omega) (by omega)
                          · refine g_iload rfl ?_
                            refine g_aload_n rfl ?_
                            refine g_gfr hIH1694 sm_0 rfl ?_
                            refine g_iload rfl ?_
                            refine g_iaload hIH1694 sm_22 rfl (by omega) (fun v1709 ev1709 lv1709 uv1709 => ?_)
                            refine g_iload_n rfl ?_
                            refine g_if2_ne (fun c1710 => ?_) (fun c1710 => ?_)
                            · refine g_iconst (by decide) (fun v1711 kv1711 => ?_)
                              refine g_nop ?_
                              refine g_iadd (by have := gz_any v1701; omega) (fun v1712 ev1712 => ?_)
                              refine g_istore (l' := [(0, .ref 0), (1, .int a1), (2, .int a2), (3, .int v1682), (4, .int v1712), (5, .int v1687), (6, .int v1702)]) rfl rfl ?_
                              refine g_iinc (l' := (fun v1713 => [(0, .ref 0), (1, .int a1), (2, .int a2), (3, .int v1682), (4, .int v1712), (5, .int v1687), (6, .int v1713)])) rfl rfl (by decide) (by omega) (fun _ => rfl) (fun v1713 ev1713 => ?_)
                              refine g_goto ?_
                              exact ihL1703 v1712 v1713 (by omega) (by omega)
                            · refine g_aload_n rfl ?_
                              refine g_gfr hIH1694 sm_0 rfl ?_
                              refine g_iload rfl ?_
                              refine g_iconst (by decide) (fun v1714 kv1714 => ?_)
                              refine g_iadd (by omega) (fun v1715 ev1715 => ?_)
                              refine g_iaload hIH1694 sm_22 rfl (by omega) (fun v1716 ev1716 lv1716 uv1716 => ?_)
                              refine g_iload_n rfl ?_
                              refine g_if2_ne (fun c1717 => ?_) (fun c1717 => ?_)
                              · refine g_iconst (by decide) (fun v1718 kv1718 => ?_)
                                refine g_nop ?_
                                refine g_iadd (by have := gz_any v1701; omega) (fun v1719 ev1719 => ?_)
                                refine g_istore (l' := [(0, .ref 0), (1, .int a1), (2, .int a2), (3, .int v1682), (4, .int v1719), (5, .int v1687), (6, .int v1702)]) rfl rfl ?_
                                refine g_iinc (l' := (fun v1720 => [(0, .ref 0), (1, .int a1), (2, .int a2), (3, .int v1682), (4, .int v1719), (5, .int v1687), (6, .int v1720)])) rfl rfl (by decide) (by omega) (fun _ => rfl) (fun v1720 ev1720 => ?_)
                                refine g_goto ?_
                                exact ihL1703 v1719 v1720 (by omega) (by omega)
                              · refine g_iconst (by decide) (fun v1721 kv1721 => ?_)
                                refine g_goto ?_
                                refine g_iadd' (fun v1722 ov1722 => ?_)
                                refine g_istore (l' := [(0, .ref 0), (1, .int a1), (2, .int a2), (3, .int v1682), (4, .int v1722), (5, .int v1687), (6, .int v1702)]) rfl rfl ?_
                                refine g_iinc (l' := (fun v1723 => [(0, .ref 0), (1, .int a1), (2, .int a2), (3, .int v1682), (4, .int v1722), (5, .int v1687), (6, .int v1723)])) rfl rfl (by decide) (by omega) (fun _ => rfl) (fun v1723 ev1723 => ?_)
                                refine g_goto ?_
                                exact ihL1703 v1722 v1723 (by omega) (by omega)
                      exact L1703 _ v1686 v1700 (by omega) (Nat.lt_succ_self _)
                exact L1691 _ v1684 v1685 H1465 hIH1465 hJH1465 e1466 m1467 (by omega) (Nat.lt_succ_self _)
              · exfalso; omega
set_option maxRecDepth 4000 in
set_option maxHeartbeats 4000000 in
/-- M.runsFirst -/
theorem s_219 (a1 : Int32) (ha1 : 0 ≤ a1.toInt ∧ a1.toInt ≤ 60) (H : mzH) (hI : gI SM H) (hJ : JN H) : gCall 219 [.ref 0, .int a1] H (gRv (fun H' => gI SM H' ∧ JM H' ∧ fZ H' 0 2 = fZ H 0 2 ∧ kpM H H')) := by
  obtain ⟨k0_2, ek0_2⟩ : ∃ z, z = fZ H 0 2 := ⟨_, rfl⟩
  have ik0_2 : k0_2.toInt = (fZ H 0 2).toInt := by rw [← ek0_2]
  have bk0_2 : 0 ≤ k0_2.toInt ∧ k0_2.toInt ≤ 900 := by rw [ek0_2]; exact fZ_of hI sm_0 rfl
  have mkfr : kpM H H := kpM_r
  refine gG_call [(0, .ref 0), (1, .int a1)] ⟨rfl, rfl, trivial⟩ ?_
  show gG 3 zB_219 (mzBlk zB_219 0) [(0, .ref 0), (1, .int a1)] [] H 0 0 _
  refine g_aload_n rfl ?_
  refine g_invvv hI sm_0 rfl rfl rfl rfl (s_182 H hI hJ) (fun H129 r130 => ?_)
  obtain ⟨hIH129, hJH129, m131, m132, m133, p134⟩ := r130
  have e135 : k0_2 = fZ H129 0 2 := ek0_2.trans (m131 0 2).symm
  have m136 : kpM H H129 := kpM_t mkfr m133
  refine g_iload_n rfl ?_
  refine g_istore_n (l' := [(0, .ref 0), (1, .int a1), (2, .int a1)]) rfl rfl ?_
  refine g_nop ?_
  have L141 : ∀ (N : Nat) (v137 : Int32) (H138 : mzH), gI SM H138 → JN H138 → k0_2 = fZ H138 0 2 → kpM H H138 → (0 ≤ v137.toInt ∧ v137.toInt ≤ 60) → (60 - v137.toInt).toNat < N → gG 3 zB_219 (mzBlk zB_219 1) [(0, .ref 0), (1, .int a1), (2, .int v137)] [] H138 0 0 (gRv (fun H' => gI SM H' ∧ JM H' ∧ fZ H' 0 2 = fZ H 0 2 ∧ kpM H H')) := by
    intro N
    induction N with
    | zero => intro v137 H138 hIH138 hJH138 e139 m140 bv137 hmL141; exact absurd hmL141 (Nat.not_lt_zero _)
    | succ N ihL141 =>
      intro v137 H138 hIH138 hJH138 e139 m140 bv137 hmL141
      refine g_iload_n rfl ?_
      refine g_aload_n rfl ?_
      refine g_invvi hIH138 sm_0 rfl rfl rfl rfl (s_180 H138 hIH138 hJH138) (fun v144 H142 r143 => ?_)
      obtain ⟨rfl, bv144, p145⟩ := r143
      refine g_if2_ge (fun c146 => ?_) (fun c146 => ?_)
      · refine g_aload_n rfl ?_
        refine g_sipush (by decide) (fun v147 kv147 => ?_)
        refine g_invvv hIH138 sm_0 rfl rfl rfl rfl (s_198 v147 H138 hIH138 hJH138) (fun H148 r149 => ?_)
        obtain ⟨hIH148, hJH148, w150, w151, w152, w153, w154, m155, m156, m157, p158⟩ := r149
        have e159 : k0_2 = fZ H148 0 2 := e139.trans w150.symm
        have m160 : kpM H H148 := kpM_t m140 m157
        exact g_ret ⟨rfl, hIH148, hJH148, (e159.symm.trans ek0_2), m160⟩
      · refine g_aload_n rfl ?_
        refine g_gfr hIH138 sm_0 rfl ?_
        refine g_iload_n rfl ?_
        refine g_iconst (by decide) (fun v161 kv161 => ?_)
        refine g_zastore hIH138 sm_17 (by omega) (by omega) (fun H162 eH162 hIH162 => ?_)
        have hJH162 : JN H162 := JN_sA (by decide) eH162 hJH138
        have e163 : k0_2 = fZ H162 0 2 := by rw [eH162, fZ_sA]; exact e139
        have m164 : kpM H H162 := kpM_A m140 eH162 (by omega)
        refine g_iinc (l' := (fun v165 => [(0, .ref 0), (1, .int a1), (2, .int v165)])) rfl rfl (by decide) (by omega) (fun _ => rfl) (fun v165 ev165 => ?_)
        refine g_goto ?_
        exact ihL141 v165 H162 hIH162 hJH162 e163 m164 (by omega) (by omega)
  exact L141 _ a1 H129 hIH129 hJH129 e135 m136 (by omega) (Nat.lt_succ_self _)
set_option maxRecDepth 4000 in
set_option maxHeartbeats 4000000 in
/-- M.known -/
theorem s_220 (a1 : Int32) (a2 : Int32) (H : mzH) (hI : gI SM H) (hJ : JN H) : gCall 220 [.ref 0, .int a1, .int a2] H (gRi (fun v H' => gI SM H' ∧ JN H' ∧ fZ H' 0 2 = fZ H 0 2 ∧ kpM H H')) := by
  obtain ⟨k0_2, ek0_2⟩ : ∃ z, z = fZ H 0 2 := ⟨_, rfl⟩
  have ik0_2 : k0_2.toInt = (fZ H 0 2).toInt := by rw [← ek0_2]
  have bk0_2 : 0 ≤ k0_2.toInt ∧ k0_2.toInt ≤ 900 := by rw [ek0_2]; exact fZ_of hI sm_0 rfl
  have mkfr : kpM H H := kpM_r
  refine gG_call [(0, .ref 0), (1, .int a1), (2, .int a2)] ⟨rfl, rfl, rfl, trivial⟩ ?_
  show gG 3 zB_220 (mzBlk zB_220 0) [(0, .ref 0), (1, .int a1), (2, .int a2)] [] H 0 0 _
  refine g_aload_n rfl ?_
  refine g_iconst (by decide) (fun v109 kv109 => ?_)
  refine g_pfi hI sm_0 rfl (gz_any _) (fun H110 eH110 hIH110 => ?_)
  have hJH110 : JN H110 := JN_sF eH110 hJ
  have e111 : k0_2 = fZ H110 0 2 := by rw [eH110, fZ_sF_ne (by decide)]; exact ek0_2
  have m112 : kpM H H110 := kpM_F mkfr eH110 (by omega)
  refine g_iload_n rfl ?_
  refine g_if_lt (fun c113 => ?_) (fun c113 => ?_)
  · refine g_iconst (by decide) (fun v114 kv114 => ?_)
    exact g_iret ⟨_, rfl, hIH110, hJH110, (e111.symm.trans ek0_2), m112⟩
  · refine g_iload_n rfl ?_
    refine g_aload_n rfl ?_
    refine g_invvi hIH110 sm_0 rfl rfl rfl rfl (s_180 H110 hIH110 hJH110) (fun v117 H115 r116 => ?_)
    obtain ⟨rfl, bv117, p118⟩ := r116
    refine g_if2_gt (fun c119 => ?_) (fun c119 => ?_)
    · refine g_iconst (by decide) (fun v120 kv120 => ?_)
      exact g_iret ⟨_, rfl, hIH110, hJH110, (e111.symm.trans ek0_2), m112⟩
    · refine g_iload_n rfl ?_
      refine g_invti rfl rfl rfl (s_205 a2 H110 hIH110 hJH110) (fun v123 H121 r122 => ?_)
      obtain ⟨rfl, bv123, p124⟩ := r122
      refine g_if_ne (fun c125 => ?_) (fun c125 => ?_)
      · refine g_aload_n rfl ?_
        refine g_iload_n rfl ?_
        refine g_invvv hIH110 sm_0 rfl rfl rfl rfl (s_219 a1 (by omega) H110 hIH110 hJH110) (fun H126 r127 => ?_)
        obtain ⟨hIH126, hJH126, w128, m129⟩ := r127
        have e130 : k0_2 = fZ H126 0 2 := e111.trans w128.symm
        have m131 : kpM H H126 := kpM_t m112 m129
        refine g_aload_n rfl ?_
        refine g_iload_n rfl ?_
        refine g_invvi hIH126 sm_0 rfl rfl rfl rfl (s_201 a2 (by omega) H126 hIH126 hJH126) (fun v134 H132 r133 => ?_)
        obtain ⟨rfl, bv134⟩ := r133
        exact g_iret ⟨_, rfl, hIH126, (JM_n hJH126), (e130.symm.trans ek0_2), m131⟩
      · refine g_nop ?_
        refine g_iconst (by decide) (fun v135 kv135 => ?_)
        exact g_iret ⟨_, rfl, hIH110, hJH110, (e111.symm.trans ek0_2), m112⟩
set_option maxRecDepth 4000 in
set_option maxHeartbeats 4000000 in
/-- M.changed -/
theorem s_221 (a1 : Int32) (H : mzH) (hI : gI SM H) (hJ : JN H) : gCall 221 [.ref 0, .int a1] H (gRi (fun v H' => gI SM H' ∧ JN H' ∧ fZ H' 0 2 = fZ H 0 2 ∧ kpM H H')) := by
  obtain ⟨k0_2, ek0_2⟩ : ∃ z, z = fZ H 0 2 := ⟨_, rfl⟩
  have ik0_2 : k0_2.toInt = (fZ H 0 2).toInt := by rw [← ek0_2]
  have bk0_2 : 0 ≤ k0_2.toInt ∧ k0_2.toInt ≤ 900 := by rw [ek0_2]; exact fZ_of hI sm_0 rfl
  have mkfr : kpM H H := kpM_r
  refine gG_call [(0, .ref 0), (1, .int a1)] ⟨rfl, rfl, trivial⟩ ?_
  show gG 4 zB_221 (mzBlk zB_221 0) [(0, .ref 0), (1, .int a1)] [] H 0 0 _
  refine g_aload_n rfl ?_
  refine g_iconst (by decide) (fun v713 kv713 => ?_)
  refine g_pfi hI sm_0 rfl (gz_any _) (fun H714 eH714 hIH714 => ?_)
  have hJH714 : JN H714 := JN_sF eH714 hJ
  have e715 : k0_2 = fZ H714 0 2 := by rw [eH714, fZ_sF_ne (by decide)]; exact ek0_2
  have m716 : kpM H H714 := kpM_F mkfr eH714 (by omega)
  refine g_iload_n rfl ?_
  refine g_if_lt (fun c717 => ?_) (fun c717 => ?_)
  · refine g_iconst (by decide) (fun v718 kv718 => ?_)
    exact g_iret ⟨_, rfl, hIH714, hJH714, (e715.symm.trans ek0_2), m716⟩
  · refine g_iload_n rfl ?_
    refine g_aload_n rfl ?_
    refine g_invvi hIH714 sm_0 rfl rfl rfl rfl (s_180 H714 hIH714 hJH714) (fun v721 H719 r720 => ?_)
    obtain ⟨rfl, bv721, p722⟩ := r720
    refine g_if2_lt (fun c723 => ?_) (fun c723 => ?_)
    · refine g_aload_n rfl ?_
      refine g_iload_n rfl ?_
      refine g_invvv hIH714 sm_0 rfl rfl rfl rfl (s_219 a1 (by omega) H714 hIH714 hJH714) (fun H724 r725 => ?_)
      obtain ⟨hIH724, hJH724, w726, m727⟩ := r725
      have e728 : k0_2 = fZ H724 0 2 := e715.trans w726.symm
      have m729 : kpM H H724 := kpM_t m716 m727
      refine g_iconst (by decide) (fun v730 kv730 => ?_)
      refine g_istore_n (l' := [(0, .ref 0), (1, .int a1), (2, .int v730)]) rfl rfl ?_
      refine g_nop ?_
      have L735 : ∀ (N : Nat) (v731 : Int32) (H732 : mzH), gI SM H732 → JM H732 → k0_2 = fZ H732 0 2 → kpM H H732 → (0 ≤ v731.toInt ∧ v731.toInt ≤ 40) → (40 - v731.toInt).toNat < N → gG 4 zB_221 (mzBlk zB_221 3) [(0, .ref 0), (1, .int a1), (2, .int v731)] [] H732 0 0 (gRi (fun v H' => gI SM H' ∧ JN H' ∧ fZ H' 0 2 = fZ H 0 2 ∧ kpM H H')) := by
        intro N
        induction N with
        | zero => intro v731 H732 hIH732 hJH732 e733 m734 bv731 hmL735; exact absurd hmL735 (Nat.not_lt_zero _)
        | succ N ihL735 =>
          intro v731 H732 hIH732 hJH732 e733 m734 bv731 hmL735
          refine g_iload_n rfl ?_
          refine g_bipush (by decide) (fun v736 kv736 => ?_)
          refine g_if2_ge (fun c737 => ?_) (fun c737 => ?_)
          · refine g_aload_n rfl ?_
            refine g_iload_n rfl ?_
            refine g_iconst (by decide) (fun v738 kv738 => ?_)
            refine g_iadd (by omega) (fun v739 ev739 => ?_)
            refine g_invvv hIH732 sm_0 rfl rfl rfl rfl (s_219 v739 (by omega) H732 hIH732 (JM_n hJH732)) (fun H740 r741 => ?_)
            obtain ⟨hIH740, hJH740, w742, m743⟩ := r741
            have e744 : k0_2 = fZ H740 0 2 := e733.trans w742.symm
            have m745 : kpM H H740 := kpM_t m734 m743
            refine g_iconst (by decide) (fun v746 kv746 => ?_)
            refine g_istore_n (l' := [(0, .ref 0), (1, .int a1), (2, .int v746)]) rfl rfl ?_
            refine g_iconst (by decide) (fun v747 kv747 => ?_)
            refine g_istore_n (l' := [(0, .ref 0), (1, .int a1), (2, .int v746), (3, .int v747)]) rfl rfl ?_
            refine g_nop ?_
            have L750 : ∀ (N : Nat) (v748 : Int32) (v749 : Int32), (0 ≤ v749.toInt ∧ v749.toInt ≤ 40) → (40 - v749.toInt).toNat < N → gG 4 zB_221 (mzBlk zB_221 5) [(0, .ref 0), (1, .int a1), (2, .int v748), (3, .int v749)] [] H740 0 0 (gRi (fun v H' => gI SM H' ∧ JN H' ∧ fZ H' 0 2 = fZ H 0 2 ∧ kpM H H')) := by
              intro N
              induction N with
              | zero => intro v748 v749 bv749 hmL750; exact absurd hmL750 (Nat.not_lt_zero _)
              | succ N ihL750 =>
                intro v748 v749 bv749 hmL750
                refine g_iload_n rfl ?_
                refine g_bipush (by decide) (fun v751 kv751 => ?_)
                refine g_if2_ge (fun c752 => ?_) (fun c752 => ?_)
                · refine g_iload_n rfl ?_
                  exact g_iret ⟨_, rfl, hIH740, (JM_n hJH740), (e744.symm.trans ek0_2), m745⟩
                · refine g_iload_n rfl ?_
                  refine g_aload_n rfl ?_
                  refine g_iload_n rfl ?_
                  refine g_invvi hIH740 sm_0 rfl rfl rfl rfl (s_201 v749 (by omega) H740 hIH740 hJH740) (fun v755 H753 r754 => ?_)
                  obtain ⟨rfl, bv755⟩ := r754
                  refine g_aload_n rfl ?_
                  refine g_gfr hIH740 sm_0 rfl ?_
                  refine g_iload_n rfl ?_
                  refine g_iaload hIH740 sm_24 rfl (by omega) (fun v756 ev756 lv756 uv756 => ?_)
                  refine g_if2_ne (fun c757 => ?_) (fun c757 => ?_)
                  · refine g_iconst (by decide) (fun v758 kv758 => ?_)
                    refine g_nop ?_
                    refine g_iadd' (fun v759 ov759 => ?_)
                    refine g_istore_n (l' := [(0, .ref 0), (1, .int a1), (2, .int v759), (3, .int v749)]) rfl rfl ?_
                    refine g_iinc (l' := (fun v760 => [(0, .ref 0), (1, .int a1), (2, .int v759), (3, .int v760)])) rfl rfl (by decide) (by omega) (fun _ => rfl) (fun v760 ev760 => ?_)
                    refine g_goto ?_
                    exact ihL750 v759 v760 (by omega) (by omega)
                  · refine g_iconst (by decide) (fun v761 kv761 => ?_)
                    refine g_goto ?_
                    refine g_iadd (by have := gz_any v748; omega) (fun v762 ev762 => ?_)
                    refine g_istore_n (l' := [(0, .ref 0), (1, .int a1), (2, .int v762), (3, .int v749)]) rfl rfl ?_
                    refine g_iinc (l' := (fun v763 => [(0, .ref 0), (1, .int a1), (2, .int v762), (3, .int v763)])) rfl rfl (by decide) (by omega) (fun _ => rfl) (fun v763 ev763 => ?_)
                    refine g_goto ?_
                    exact ihL750 v762 v763 (by omega) (by omega)
            exact L750 _ v746 v747 (by omega) (Nat.lt_succ_self _)
          · refine g_aload_n rfl ?_
            refine g_gfr hIH732 sm_0 rfl ?_
            refine g_iload_n rfl ?_
            refine g_aload_n rfl ?_
            refine g_iload_n rfl ?_
            refine g_invvi hIH732 sm_0 rfl rfl rfl rfl (s_201 v731 (by omega) H732 hIH732 hJH732) (fun v766 H764 r765 => ?_)
            obtain ⟨rfl, bv766⟩ := r765
            refine g_iastore hIH732 sm_24 (by omega) (gz_any _) (fun H767 eH767 hIH767 => ?_)
            have hJH767 : JM H767 := JM_sA (by decide) eH767 hJH732
            have e768 : k0_2 = fZ H767 0 2 := by rw [eH767, fZ_sA]; exact e733
            have m769 : kpM H H767 := kpM_A m734 eH767 (by omega)
            refine g_iinc (l' := (fun v770 => [(0, .ref 0), (1, .int a1), (2, .int v770)])) rfl rfl (by decide) (by omega) (fun _ => rfl) (fun v770 ev770 => ?_)
            refine g_goto ?_
            exact ihL735 v770 H767 hIH767 hJH767 e768 m769 (by omega) (by omega)
      exact L735 _ v730 H724 hIH724 hJH724 e728 m729 (by omega) (Nat.lt_succ_self _)
    · refine g_nop ?_
      refine g_iconst (by decide) (fun v771 kv771 => ?_)
      exact g_iret ⟨_, rfl, hIH714, hJH714, (e715.symm.trans ek0_2), m716⟩
set_option maxRecDepth 4000 in
set_option maxHeartbeats 4000000 in
/-- M.runsWithout -/
theorem s_222 (a1 : Int32) (ha1 : -1 ≤ a1.toInt ∧ a1.toInt ≤ 59) (a2 : Int32) (ha2 : -1 ≤ a2.toInt ∧ a2.toInt ≤ 59) (H : mzH) (hI : gI SM H) (hJ : JN H) : gCall 222 [.ref 0, .int a1, .int a2] H (gRv (fun H' => gI SM H' ∧ JM H' ∧ fZ H' 0 2 = fZ H 0 2 ∧ fZ H' 0 0 = fZ H 0 0 ∧ fZ H' 0 41 = fZ H 0 41 ∧ fZ H' 0 42 = fZ H 0 42 ∧ fZ H' 0 43 = fZ H 0 43 ∧ kpM H H')) := by
  obtain ⟨k0_2, ek0_2⟩ : ∃ z, z = fZ H 0 2 := ⟨_, rfl⟩
  have ik0_2 : k0_2.toInt = (fZ H 0 2).toInt := by rw [← ek0_2]
  have bk0_2 : 0 ≤ k0_2.toInt ∧ k0_2.toInt ≤ 900 := by rw [ek0_2]; exact fZ_of hI sm_0 rfl
  obtain ⟨k0_0, ek0_0⟩ : ∃ z, z = fZ H 0 0 := ⟨_, rfl⟩
  have ik0_0 : k0_0.toInt = (fZ H 0 0).toInt := by rw [← ek0_0]
  obtain ⟨k0_41, ek0_41⟩ : ∃ z, z = fZ H 0 41 := ⟨_, rfl⟩
  have ik0_41 : k0_41.toInt = (fZ H 0 41).toInt := by rw [← ek0_41]
  obtain ⟨k0_42, ek0_42⟩ : ∃ z, z = fZ H 0 42 := ⟨_, rfl⟩
  have ik0_42 : k0_42.toInt = (fZ H 0 42).toInt := by rw [← ek0_42]
  obtain ⟨k0_43, ek0_43⟩ : ∃ z, z = fZ H 0 43 := ⟨_, rfl⟩
  have ik0_43 : k0_43.toInt = (fZ H 0 43).toInt := by rw [← ek0_43]
  have mkfr : kpM H H := kpM_r
  refine gG_call [(0, .ref 0), (1, .int a1), (2, .int a2)] ⟨rfl, rfl, rfl, trivial⟩ ?_
  show gG 3 zB_222 (mzBlk zB_222 0) [(0, .ref 0), (1, .int a1), (2, .int a2)] [] H 0 0 _
  refine g_aload_n rfl ?_
  refine g_invvv hI sm_0 rfl rfl rfl rfl (s_182 H hI hJ) (fun H457 r458 => ?_)
  obtain ⟨hIH457, hJH457, m459, m460, m461, p462⟩ := r458
  have e463 : k0_2 = fZ H457 0 2 := ek0_2.trans (m459 0 2).symm
  have e464 : k0_0 = fZ H457 0 0 := ek0_0.trans (m459 0 0).symm
  have e465 : k0_41 = fZ H457 0 41 := ek0_41.trans (m459 0 41).symm
  have e466 : k0_42 = fZ H457 0 42 := ek0_42.trans (m459 0 42).symm
  have e467 : k0_43 = fZ H457 0 43 := ek0_43.trans (m459 0 43).symm
  have m468 : kpM H H457 := kpM_t mkfr m461
  refine g_iload_n rfl ?_
  refine g_iconst (by decide) (fun v469 kv469 => ?_)
  refine g_if2_eq (fun c470 => ?_) (fun c470 => ?_)
  · refine g_iload_n rfl ?_
    refine g_iconst (by decide) (fun v471 kv471 => ?_)
    refine g_if2_eq (fun c472 => ?_) (fun c472 => ?_)
    · refine g_aload_n rfl ?_
      refine g_sipush (by decide) (fun v473 kv473 => ?_)
      refine g_invvv hIH457 sm_0 rfl rfl rfl rfl (s_198 v473 H457 hIH457 hJH457) (fun H474 r475 => ?_)
      obtain ⟨hIH474, hJH474, w476, w477, w478, w479, w480, m481, m482, m483, p484⟩ := r475
      have e485 : k0_2 = fZ H474 0 2 := e463.trans w476.symm
      have e486 : k0_0 = fZ H474 0 0 := e464.trans w477.symm
      have e487 : k0_41 = fZ H474 0 41 := e465.trans w478.symm
      have e488 : k0_42 = fZ H474 0 42 := e466.trans w479.symm
      have e489 : k0_43 = fZ H474 0 43 := e467.trans w480.symm
      have m490 : kpM H H474 := kpM_t m468 m483
      exact g_ret ⟨rfl, hIH474, hJH474, (e485.symm.trans ek0_2), (e486.symm.trans ek0_0), (e487.symm.trans ek0_41), (e488.symm.trans ek0_42), (e489.symm.trans ek0_43), m490⟩
    · refine g_aload_n rfl ?_
      refine g_gfr hIH457 sm_0 rfl ?_
      refine g_iload_n rfl ?_
      refine g_iconst (by decide) (fun v491 kv491 => ?_)
      refine g_zastore hIH457 sm_17 (by omega) (by omega) (fun H492 eH492 hIH492 => ?_)
      have hJH492 : JN H492 := JN_sA (by decide) eH492 hJH457
      have e493 : k0_2 = fZ H492 0 2 := by rw [eH492, fZ_sA]; exact e463
      have e494 : k0_0 = fZ H492 0 0 := by rw [eH492, fZ_sA]; exact e464
      have e495 : k0_41 = fZ H492 0 41 := by rw [eH492, fZ_sA]; exact e465
      have e496 : k0_42 = fZ H492 0 42 := by rw [eH492, fZ_sA]; exact e466
      have e497 : k0_43 = fZ H492 0 43 := by rw [eH492, fZ_sA]; exact e467
      have m498 : kpM H H492 := kpM_A m468 eH492 (by omega)
      refine g_nop ?_
      refine g_aload_n rfl ?_
      refine g_sipush (by decide) (fun v499 kv499 => ?_)
      refine g_invvv hIH492 sm_0 rfl rfl rfl rfl (s_198 v499 H492 hIH492 hJH492) (fun H500 r501 => ?_)
      obtain ⟨hIH500, hJH500, w502, w503, w504, w505, w506, m507, m508, m509, p510⟩ := r501
      have e511 : k0_2 = fZ H500 0 2 := e493.trans w502.symm
      have e512 : k0_0 = fZ H500 0 0 := e494.trans w503.symm
      have e513 : k0_41 = fZ H500 0 41 := e495.trans w504.symm
      have e514 : k0_42 = fZ H500 0 42 := e496.trans w505.symm
      have e515 : k0_43 = fZ H500 0 43 := e497.trans w506.symm
      have m516 : kpM H H500 := kpM_t m498 m509
      exact g_ret ⟨rfl, hIH500, hJH500, (e511.symm.trans ek0_2), (e512.symm.trans ek0_0), (e513.symm.trans ek0_41), (e514.symm.trans ek0_42), (e515.symm.trans ek0_43), m516⟩
  · refine g_aload_n rfl ?_
    refine g_gfr hIH457 sm_0 rfl ?_
    refine g_iload_n rfl ?_
    refine g_iconst (by decide) (fun v517 kv517 => ?_)
    refine g_zastore hIH457 sm_17 (by omega) (by omega) (fun H518 eH518 hIH518 => ?_)
    have hJH518 : JN H518 := JN_sA (by decide) eH518 hJH457
    have e519 : k0_2 = fZ H518 0 2 := by rw [eH518, fZ_sA]; exact e463
    have e520 : k0_0 = fZ H518 0 0 := by rw [eH518, fZ_sA]; exact e464
    have e521 : k0_41 = fZ H518 0 41 := by rw [eH518, fZ_sA]; exact e465
    have e522 : k0_42 = fZ H518 0 42 := by rw [eH518, fZ_sA]; exact e466
    have e523 : k0_43 = fZ H518 0 43 := by rw [eH518, fZ_sA]; exact e467
    have m524 : kpM H H518 := kpM_A m468 eH518 (by omega)
    refine g_nop ?_
    refine g_iload_n rfl ?_
    refine g_iconst (by decide) (fun v525 kv525 => ?_)
    refine g_if2_eq (fun c526 => ?_) (fun c526 => ?_)
    · refine g_aload_n rfl ?_
      refine g_sipush (by decide) (fun v527 kv527 => ?_)
      refine g_invvv hIH518 sm_0 rfl rfl rfl rfl (s_198 v527 H518 hIH518 hJH518) (fun H528 r529 => ?_)
      obtain ⟨hIH528, hJH528, w530, w531, w532, w533, w534, m535, m536, m537, p538⟩ := r529
      have e539 : k0_2 = fZ H528 0 2 := e519.trans w530.symm
      have e540 : k0_0 = fZ H528 0 0 := e520.trans w531.symm
      have e541 : k0_41 = fZ H528 0 41 := e521.trans w532.symm
      have e542 : k0_42 = fZ H528 0 42 := e522.trans w533.symm
      have e543 : k0_43 = fZ H528 0 43 := e523.trans w534.symm
      have m544 : kpM H H528 := kpM_t m524 m537
      exact g_ret ⟨rfl, hIH528, hJH528, (e539.symm.trans ek0_2), (e540.symm.trans ek0_0), (e541.symm.trans ek0_41), (e542.symm.trans ek0_42), (e543.symm.trans ek0_43), m544⟩
    · refine g_aload_n rfl ?_
      refine g_gfr hIH518 sm_0 rfl ?_
      refine g_iload_n rfl ?_
      refine g_iconst (by decide) (fun v545 kv545 => ?_)
      refine g_zastore hIH518 sm_17 (by omega) (by omega) (fun H546 eH546 hIH546 => ?_)
      have hJH546 : JN H546 := JN_sA (by decide) eH546 hJH518
      have e547 : k0_2 = fZ H546 0 2 := by rw [eH546, fZ_sA]; exact e519
      have e548 : k0_0 = fZ H546 0 0 := by rw [eH546, fZ_sA]; exact e520
      have e549 : k0_41 = fZ H546 0 41 := by rw [eH546, fZ_sA]; exact e521
      have e550 : k0_42 = fZ H546 0 42 := by rw [eH546, fZ_sA]; exact e522
      have e551 : k0_43 = fZ H546 0 43 := by rw [eH546, fZ_sA]; exact e523
      have m552 : kpM H H546 := kpM_A m524 eH546 (by omega)
      refine g_nop ?_
      refine g_aload_n rfl ?_
      refine g_sipush (by decide) (fun v553 kv553 => ?_)
      refine g_invvv hIH546 sm_0 rfl rfl rfl rfl (s_198 v553 H546 hIH546 hJH546) (fun H554 r555 => ?_)
      obtain ⟨hIH554, hJH554, w556, w557, w558, w559, w560, m561, m562, m563, p564⟩ := r555
      have e565 : k0_2 = fZ H554 0 2 := e547.trans w556.symm
      have e566 : k0_0 = fZ H554 0 0 := e548.trans w557.symm
      have e567 : k0_41 = fZ H554 0 41 := e549.trans w558.symm
      have e568 : k0_42 = fZ H554 0 42 := e550.trans w559.symm
      have e569 : k0_43 = fZ H554 0 43 := e551.trans w560.symm
      have m570 : kpM H H554 := kpM_t m552 m563
      exact g_ret ⟨rfl, hIH554, hJH554, (e565.symm.trans ek0_2), (e566.symm.trans ek0_0), (e567.symm.trans ek0_41), (e568.symm.trans ek0_42), (e569.symm.trans ek0_43), m570⟩
set_option maxRecDepth 4000 in
set_option maxHeartbeats 4000000 in
/-- M.without -/
theorem s_223 (a1 : Int32) (a2 : Int32) (H : mzH) (hI : gI SM H) (hJ : JN H) : gCall 223 [.ref 0, .int a1, .int a2] H (gRi (fun v H' => gI SM H' ∧ JN H' ∧ fZ H' 0 2 = fZ H 0 2 ∧ kpM H H')) := by
  obtain ⟨k0_2, ek0_2⟩ : ∃ z, z = fZ H 0 2 := ⟨_, rfl⟩
  have ik0_2 : k0_2.toInt = (fZ H 0 2).toInt := by rw [← ek0_2]
  have bk0_2 : 0 ≤ k0_2.toInt ∧ k0_2.toInt ≤ 900 := by rw [ek0_2]; exact fZ_of hI sm_0 rfl
  have mkfr : kpM H H := kpM_r
  refine gG_call [(0, .ref 0), (1, .int a1), (2, .int a2)] ⟨rfl, rfl, rfl, trivial⟩ ?_
  show gG 3 zB_223 (mzBlk zB_223 0) [(0, .ref 0), (1, .int a1), (2, .int a2)] [] H 0 0 _
  refine g_aload_n rfl ?_
  refine g_iconst (by decide) (fun v129 kv129 => ?_)
  refine g_pfi hI sm_0 rfl (gz_any _) (fun H130 eH130 hIH130 => ?_)
  have hJH130 : JN H130 := JN_sF eH130 hJ
  have e131 : k0_2 = fZ H130 0 2 := by rw [eH130, fZ_sF_ne (by decide)]; exact ek0_2
  have m132 : kpM H H130 := kpM_F mkfr eH130 (by omega)
  refine g_iload_n rfl ?_
  refine g_if_lt (fun c133 => ?_) (fun c133 => ?_)
  · refine g_iconst (by decide) (fun v134 kv134 => ?_)
    exact g_iret ⟨_, rfl, hIH130, hJH130, (e131.symm.trans ek0_2), m132⟩
  · refine g_iload_n rfl ?_
    refine g_aload_n rfl ?_
    refine g_invvi hIH130 sm_0 rfl rfl rfl rfl (s_180 H130 hIH130 hJH130) (fun v137 H135 r136 => ?_)
    obtain ⟨rfl, bv137, p138⟩ := r136
    refine g_if2_ge (fun c139 => ?_) (fun c139 => ?_)
    · refine g_iconst (by decide) (fun v140 kv140 => ?_)
      exact g_iret ⟨_, rfl, hIH130, hJH130, (e131.symm.trans ek0_2), m132⟩
    · refine g_iload_n rfl ?_
      refine g_invti rfl rfl rfl (s_205 a2 H130 hIH130 hJH130) (fun v143 H141 r142 => ?_)
      obtain ⟨rfl, bv143, p144⟩ := r142
      refine g_if_ne (fun c145 => ?_) (fun c145 => ?_)
      · refine g_aload_n rfl ?_
        refine g_iload_n rfl ?_
        refine g_iconst (by decide) (fun v146 kv146 => ?_)
        refine g_invvv hIH130 sm_0 rfl rfl rfl rfl (s_222 a1 (by omega) v146 (by omega) H130 hIH130 hJH130) (fun H147 r148 => ?_)
        obtain ⟨hIH147, hJH147, w149, w150, w151, w152, w153, m154⟩ := r148
        have e155 : k0_2 = fZ H147 0 2 := e131.trans w149.symm
        have m156 : kpM H H147 := kpM_t m132 m154
        refine g_aload_n rfl ?_
        refine g_iload_n rfl ?_
        refine g_invvi hIH147 sm_0 rfl rfl rfl rfl (s_201 a2 (by omega) H147 hIH147 hJH147) (fun v159 H157 r158 => ?_)
        obtain ⟨rfl, bv159⟩ := r158
        exact g_iret ⟨_, rfl, hIH147, (JM_n hJH147), (e155.symm.trans ek0_2), m156⟩
      · refine g_nop ?_
        refine g_iconst (by decide) (fun v160 kv160 => ?_)
        exact g_iret ⟨_, rfl, hIH130, hJH130, (e131.symm.trans ek0_2), m132⟩
set_option maxRecDepth 4000 in
set_option maxHeartbeats 4000000 in
/-- M.refusedNow -/
theorem s_224 (H : mzH) (hI : gI SM H) (hJ : JN H) : gCall 224 [.ref 0] H (gRi (fun v H' => H = H')) := by
  refine gG_call [(0, .ref 0)] ⟨rfl, trivial⟩ ?_
  show gG 3 zB_224 (mzBlk zB_224 0) [(0, .ref 0)] [] H 0 0 _
  refine g_iconst (by decide) (fun v399 kv399 => ?_)
  refine g_istore_n (l' := [(0, .ref 0), (1, .int v399)]) rfl rfl ?_
  refine g_iconst (by decide) (fun v400 kv400 => ?_)
  refine g_istore_n (l' := [(0, .ref 0), (1, .int v399), (2, .int v400)]) rfl rfl ?_
  refine g_nop ?_
  have L403 : ∀ (N : Nat) (v401 : Int32) (v402 : Int32), (0 ≤ v402.toInt ∧ v402.toInt ≤ 60) → (60 - v402.toInt).toNat < N → gG 3 zB_224 (mzBlk zB_224 1) [(0, .ref 0), (1, .int v401), (2, .int v402)] [] H 0 0 (gRi (fun v H' => H = H')) := by
    intro N
    induction N with
    | zero => intro v401 v402 bv402 hmL403; exact absurd hmL403 (Nat.not_lt_zero _)
    | succ N ihL403 =>
      intro v401 v402 bv402 hmL403
      refine g_iload_n rfl ?_
      refine g_aload_n rfl ?_
      refine g_gfi hI sm_0 rfl (fun v404 ev404 lv404 uv404 => ?_)
      refine g_if2_ge (fun c405 => ?_) (fun c405 => ?_)
      · refine g_iload_n rfl ?_
        exact g_iret ⟨_, rfl, rfl⟩
      · refine g_iload_n rfl ?_
        refine g_aload_n rfl ?_
        refine g_gfr hI sm_0 rfl ?_
        refine g_aload_n rfl ?_
        refine g_gfr hI sm_0 rfl ?_
        refine g_iload_n rfl ?_
        refine g_iaload hI sm_19 rfl (by omega) (fun v406 ev406 lv406 uv406 => ?_)
        refine g_iaload hI sm_20 rfl (by omega) (fun v407 ev407 lv407 uv407 => ?_)
        refine g_if_ne (fun c408 => ?_) (fun c408 => ?_)
        · refine g_iconst (by decide) (fun v409 kv409 => ?_)
          refine g_nop ?_
          refine g_iadd' (fun v410 ov410 => ?_)
          refine g_istore_n (l' := [(0, .ref 0), (1, .int v410), (2, .int v402)]) rfl rfl ?_
          refine g_iinc (l' := (fun v411 => [(0, .ref 0), (1, .int v410), (2, .int v411)])) rfl rfl (by decide) (by omega) (fun _ => rfl) (fun v411 ev411 => ?_)
          refine g_goto ?_
          exact ihL403 v410 v411 (by omega) (by omega)
        · refine g_iconst (by decide) (fun v412 kv412 => ?_)
          refine g_goto ?_
          refine g_iadd (by have := gz_any v401; omega) (fun v413 ev413 => ?_)
          refine g_istore_n (l' := [(0, .ref 0), (1, .int v413), (2, .int v402)]) rfl rfl ?_
          refine g_iinc (l' := (fun v414 => [(0, .ref 0), (1, .int v413), (2, .int v414)])) rfl rfl (by decide) (by omega) (fun _ => rfl) (fun v414 ev414 => ?_)
          refine g_goto ?_
          exact ihL403 v413 v414 (by omega) (by omega)
  exact L403 _ v399 v400 (by omega) (Nat.lt_succ_self _)
set_option maxRecDepth 4000 in
set_option maxHeartbeats 4000000 in
/-- M.refused -/
theorem s_225 (a1 : Int32) (H : mzH) (hI : gI SM H) (hJ : JN H) : gCall 225 [.ref 0, .int a1] H (gRi (fun v H' => gI SM H' ∧ JN H' ∧ fZ H' 0 2 = fZ H 0 2 ∧ kpM H H')) := by
  obtain ⟨k0_2, ek0_2⟩ : ∃ z, z = fZ H 0 2 := ⟨_, rfl⟩
  have ik0_2 : k0_2.toInt = (fZ H 0 2).toInt := by rw [← ek0_2]
  have bk0_2 : 0 ≤ k0_2.toInt ∧ k0_2.toInt ≤ 900 := by rw [ek0_2]; exact fZ_of hI sm_0 rfl
  have mkfr : kpM H H := kpM_r
  refine gG_call [(0, .ref 0), (1, .int a1)] ⟨rfl, rfl, trivial⟩ ?_
  show gG 4 zB_225 (mzBlk zB_225 0) [(0, .ref 0), (1, .int a1)] [] H 0 0 _
  refine g_aload_n rfl ?_
  refine g_iconst (by decide) (fun v597 kv597 => ?_)
  refine g_pfi hI sm_0 rfl (gz_any _) (fun H598 eH598 hIH598 => ?_)
  have hJH598 : JN H598 := JN_sF eH598 hJ
  have e599 : k0_2 = fZ H598 0 2 := by rw [eH598, fZ_sF_ne (by decide)]; exact ek0_2
  have m600 : kpM H H598 := kpM_F mkfr eH598 (by omega)
  refine g_iload_n rfl ?_
  refine g_iconst (by decide) (fun v601 kv601 => ?_)
  refine g_if2_lt (fun c602 => ?_) (fun c602 => ?_)
  · refine g_bipush (by decide) (fun v603 kv603 => ?_)
    exact g_iret ⟨_, rfl, hIH598, hJH598, (e599.symm.trans ek0_2), m600⟩
  · refine g_iload_n rfl ?_
    refine g_bipush (by decide) (fun v604 kv604 => ?_)
    refine g_if2_le (fun c605 => ?_) (fun c605 => ?_)
    · refine g_aload_n rfl ?_
      refine g_invvv hIH598 sm_0 rfl rfl rfl rfl (s_199 H598 hIH598 hJH598) (fun H606 r607 => ?_)
      obtain ⟨hIH606, hJH606, w608, w609, w610, w611, w612, m613, m614, p615⟩ := r607
      have e616 : k0_2 = fZ H606 0 2 := e599.trans w608.symm
      have m617 : kpM H H606 := kpM_t m600 m614
      refine g_iload_n rfl ?_
      refine g_iconst (by decide) (fun v618 kv618 => ?_)
      refine g_if2_ne (fun c619 => ?_) (fun c619 => ?_)
      · refine g_iconst (by decide) (fun v620 kv620 => ?_)
        refine g_istore_n (l' := [(0, .ref 0), (1, .int a1), (2, .int v620)]) rfl rfl ?_
        refine g_iconst (by decide) (fun v621 kv621 => ?_)
        refine g_istore_n (l' := [(0, .ref 0), (1, .int a1), (2, .int v620), (3, .int v621)]) rfl rfl ?_
        refine g_nop ?_
        have L624 : ∀ (N : Nat) (v622 : Int32) (v623 : Int32), (0 ≤ v623.toInt ∧ v623.toInt ≤ 60) → (60 - v623.toInt).toNat < N → gG 4 zB_225 (mzBlk zB_225 4) [(0, .ref 0), (1, .int a1), (2, .int v622), (3, .int v623)] [] H606 0 0 (gRi (fun v H' => gI SM H' ∧ JN H' ∧ fZ H' 0 2 = fZ H 0 2 ∧ kpM H H')) := by
          intro N
          induction N with
          | zero => intro v622 v623 bv623 hmL624; exact absurd hmL624 (Nat.not_lt_zero _)
          | succ N ihL624 =>
            intro v622 v623 bv623 hmL624
            refine g_iload_n rfl ?_
            refine g_aload_n rfl ?_
            refine g_invvi hIH606 sm_0 rfl rfl rfl rfl (s_180 H606 hIH606 (JM_n hJH606)) (fun v627 H625 r626 => ?_)
            obtain ⟨rfl, bv627, p628⟩ := r626
            refine g_if2_ge (fun c629 => ?_) (fun c629 => ?_)
            · refine g_iload_n rfl ?_
              exact g_iret ⟨_, rfl, hIH606, (JM_n hJH606), (e616.symm.trans ek0_2), m617⟩
            · refine g_iload_n rfl ?_
              refine g_aload_n rfl ?_
              refine g_gfr hIH606 sm_0 rfl ?_
              refine g_iload_n rfl ?_
              refine g_iaload hIH606 sm_20 rfl (by omega) (fun v630 ev630 lv630 uv630 => ?_)
              refine g_iload_n rfl ?_
              refine g_if2_ne (fun c631 => ?_) (fun c631 => ?_)
              · refine g_iconst (by decide) (fun v632 kv632 => ?_)
                refine g_nop ?_
                refine g_iadd (by have := gz_any v622; omega) (fun v633 ev633 => ?_)
                refine g_istore_n (l' := [(0, .ref 0), (1, .int a1), (2, .int v633), (3, .int v623)]) rfl rfl ?_
                refine g_iinc (l' := (fun v634 => [(0, .ref 0), (1, .int a1), (2, .int v633), (3, .int v634)])) rfl rfl (by decide) (by omega) (fun _ => rfl) (fun v634 ev634 => ?_)
                refine g_goto ?_
                exact ihL624 v633 v634 (by omega) (by omega)
              · refine g_iconst (by decide) (fun v635 kv635 => ?_)
                refine g_goto ?_
                refine g_iadd' (fun v636 ov636 => ?_)
                refine g_istore_n (l' := [(0, .ref 0), (1, .int a1), (2, .int v636), (3, .int v623)]) rfl rfl ?_
                refine g_iinc (l' := (fun v637 => [(0, .ref 0), (1, .int a1), (2, .int v636), (3, .int v637)])) rfl rfl (by decide) (by omega) (fun _ => rfl) (fun v637 ev637 => ?_)
                refine g_goto ?_
                exact ihL624 v636 v637 (by omega) (by omega)
        exact L624 _ v620 v621 (by omega) (Nat.lt_succ_self _)
      · refine g_aload_n rfl ?_
        refine g_invvi hIH606 sm_0 rfl rfl rfl rfl (s_224 H606 hIH606 (JM_n hJH606)) (fun v640 H638 r639 => ?_)
        obtain rfl := r639
        exact g_iret ⟨_, rfl, hIH606, (JM_n hJH606), (e616.symm.trans ek0_2), m617⟩
    · refine g_nop ?_
      refine g_bipush (by decide) (fun v641 kv641 => ?_)
      exact g_iret ⟨_, rfl, hIH598, hJH598, (e599.symm.trans ek0_2), m600⟩
set_option maxRecDepth 4000 in
set_option maxHeartbeats 4000000 in
/-- M.blames -/
theorem s_226 (a1 : Int32) (ha1 : 0 ≤ a1.toInt ∧ a1.toInt ≤ 1) (H : mzH) (hI : gI SM H) (hJ : JN H) : gCall 226 [.ref 0, .int a1] H (gRv (fun H' => gI SM H' ∧ JN H' ∧ fZ H' 0 2 = fZ H 0 2 ∧ kpM H H')) := by
  obtain ⟨k0_2, ek0_2⟩ : ∃ z, z = fZ H 0 2 := ⟨_, rfl⟩
  have ik0_2 : k0_2.toInt = (fZ H 0 2).toInt := by rw [← ek0_2]
  have bk0_2 : 0 ≤ k0_2.toInt ∧ k0_2.toInt ≤ 900 := by rw [ek0_2]; exact fZ_of hI sm_0 rfl
  have mkfr : kpM H H := kpM_r
  refine gG_call [(0, .ref 0), (1, .int a1)] ⟨rfl, rfl, trivial⟩ ?_
  show gG 5 zB_226 (mzBlk zB_226 0) [(0, .ref 0), (1, .int a1)] [] H 0 0 _
  refine g_aload_n rfl ?_
  refine g_iconst (by decide) (fun v1442 kv1442 => ?_)
  refine g_pfi hI sm_0 rfl (gz_any _) (fun H1443 eH1443 hIH1443 => ?_)
  have hJH1443 : JN H1443 := JN_sF eH1443 hJ
  have e1444 : k0_2 = fZ H1443 0 2 := by rw [eH1443, fZ_sF_ne (by decide)]; exact ek0_2
  have m1445 : kpM H H1443 := kpM_F mkfr eH1443 (by omega)
  refine g_iconst (by decide) (fun v1446 kv1446 => ?_)
  refine g_istore_n (l' := [(0, .ref 0), (1, .int a1), (2, .int v1446)]) rfl rfl ?_
  refine g_nop ?_
  have L1451 : ∀ (N : Nat) (v1447 : Int32) (H1448 : mzH), gI SM H1448 → JN H1448 → k0_2 = fZ H1448 0 2 → kpM H H1448 → (0 ≤ v1447.toInt ∧ v1447.toInt ≤ 60) → (60 - v1447.toInt).toNat < N → gG 5 zB_226 (mzBlk zB_226 1) [(0, .ref 0), (1, .int a1), (2, .int v1447)] [] H1448 0 0 (gRv (fun H' => gI SM H' ∧ JN H' ∧ fZ H' 0 2 = fZ H 0 2 ∧ kpM H H')) := by
    intro N
    induction N with
    | zero => intro v1447 H1448 hIH1448 hJH1448 e1449 m1450 bv1447 hmL1451; exact absurd hmL1451 (Nat.not_lt_zero _)
    | succ N ihL1451 =>
      intro v1447 H1448 hIH1448 hJH1448 e1449 m1450 bv1447 hmL1451
      refine g_iload_n rfl ?_
      refine g_aload_n rfl ?_
      refine g_invvi hIH1448 sm_0 rfl rfl rfl rfl (s_180 H1448 hIH1448 hJH1448) (fun v1454 H1452 r1453 => ?_)
      obtain ⟨rfl, bv1454, p1455⟩ := r1453
      refine g_if2_ge (fun c1456 => ?_) (fun c1456 => ?_)
      · exact g_ret ⟨rfl, hIH1448, hJH1448, (e1449.symm.trans ek0_2), m1450⟩
      · refine g_iload_n rfl ?_
        refine g_iconst (by decide) (fun v1457 kv1457 => ?_)
        refine g_iadd (by omega) (fun v1458 ev1458 => ?_)
        refine g_istore_n (l' := [(0, .ref 0), (1, .int a1), (2, .int v1447), (3, .int v1458)]) rfl rfl ?_
        refine g_nop ?_
        have L1463 : ∀ (N : Nat) (v1459 : Int32) (H1460 : mzH), gI SM H1460 → JN H1460 → k0_2 = fZ H1460 0 2 → kpM H H1460 → (1 ≤ v1459.toInt ∧ v1459.toInt ≤ 61) → (61 - v1459.toInt).toNat < N → gG 5 zB_226 (mzBlk zB_226 2) [(0, .ref 0), (1, .int a1), (2, .int v1447), (3, .int v1459)] [] H1460 0 0 (gRv (fun H' => gI SM H' ∧ JN H' ∧ fZ H' 0 2 = fZ H 0 2 ∧ kpM H H')) := by
          intro N
          induction N with
          | zero => intro v1459 H1460 hIH1460 hJH1460 e1461 m1462 bv1459 hmL1463; exact absurd hmL1463 (Nat.not_lt_zero _)
          | succ N ihL1463 =>
            intro v1459 H1460 hIH1460 hJH1460 e1461 m1462 bv1459 hmL1463
            refine g_iload_n rfl ?_
            refine g_iload_n rfl ?_
            refine g_if_eq (fun c1464 => ?_) (fun c1464 => ?_)
            · refine g_iload_n rfl ?_
              refine g_iconst (by decide) (fun v1465 kv1465 => ?_)
              refine g_iadd (by omega) (fun v1466 ev1466 => ?_)
              refine g_nop ?_
              refine g_if2_ge (fun c1467 => ?_) (fun c1467 => ?_)
              · refine g_iinc (l' := (fun v1468 => [(0, .ref 0), (1, .int a1), (2, .int v1468), (3, .int v1459)])) rfl rfl (by decide) (by omega) (fun _ => rfl) (fun v1468 ev1468 => ?_)
                refine g_goto ?_
                refine gG_pick [0, 1, 2] (l' := [(0, .ref 0), (1, .int a1), (2, .int v1468)]) rfl ?_
                exact ihL1451 v1468 H1460 hIH1460 hJH1460 e1461 m1462 (by omega) (by omega)
              · refine g_aload_n rfl ?_
                refine g_iload_n rfl ?_
                refine g_iload_n rfl ?_
                refine g_if_eq (fun c1469 => ?_) (fun c1469 => ?_)
                · refine g_iconst (by decide) (fun v1470 kv1470 => ?_)
                  refine g_nop ?_
                  refine g_invvv hIH1460 sm_0 rfl rfl rfl rfl (s_222 v1447 (by omega) v1470 (by omega) H1460 hIH1460 hJH1460) (fun H1471 r1472 => ?_)
                  obtain ⟨hIH1471, hJH1471, w1473, w1474, w1475, w1476, w1477, m1478⟩ := r1472
                  have e1479 : k0_2 = fZ H1471 0 2 := e1461.trans w1473.symm
                  have m1480 : kpM H H1471 := kpM_t m1462 m1478
                  refine g_aload_n rfl ?_
                  refine g_invvi hIH1471 sm_0 rfl rfl rfl rfl (s_224 H1471 hIH1471 (JM_n hJH1471)) (fun v1483 H1481 r1482 => ?_)
                  obtain rfl := r1482
                  refine g_istore (l' := [(0, .ref 0), (1, .int a1), (2, .int v1447), (3, .int v1459), (4, .int v1483)]) rfl rfl ?_
                  refine g_aload_n rfl ?_
                  refine g_gfi hIH1471 sm_0 rfl (fun v1484 ev1484 lv1484 uv1484 => ?_)
                  refine g_iconst (by decide) (fun v1485 kv1485 => ?_)
                  refine g_if2_eq (fun c1486 => ?_) (fun c1486 => ?_)
                  · refine g_aload_n rfl ?_
                    refine g_iload_n rfl ?_
                    refine g_pfi hIH1471 sm_0 rfl (gz_any _) (fun H1487 eH1487 hIH1487 => ?_)
                    have hJH1487 : JM H1487 := JM_sF eH1487 hJH1471
                    have e1488 : k0_2 = fZ H1487 0 2 := by rw [eH1487, fZ_sF_ne (by decide)]; exact e1479
                    have m1489 : kpM H H1487 := kpM_F m1480 eH1487 (by omega)
                    refine g_aload_n rfl ?_
                    refine g_iload_n rfl ?_
                    refine g_pfi hIH1487 sm_0 rfl (gz_any _) (fun H1490 eH1490 hIH1490 => ?_)
                    have hJH1490 : JM H1490 := JM_sF eH1490 hJH1487
                    have e1491 : k0_2 = fZ H1490 0 2 := by rw [eH1490, fZ_sF_ne (by decide)]; exact e1488
                    have m1492 : kpM H H1490 := kpM_F m1489 eH1490 (by omega)
                    refine g_aload_n rfl ?_
                    refine g_iload rfl ?_
                    refine g_pfi hIH1490 sm_0 rfl (gz_any _) (fun H1493 eH1493 hIH1493 => ?_)
                    have hJH1493 : JM H1493 := JM_sF eH1493 hJH1490
                    have e1494 : k0_2 = fZ H1493 0 2 := by rw [eH1493, fZ_sF_ne (by decide)]; exact e1491
                    have m1495 : kpM H H1493 := kpM_F m1492 eH1493 (by omega)
                    refine g_nop ?_
                    refine g_iinc (l' := (fun v1496 => [(0, .ref 0), (1, .int a1), (2, .int v1447), (3, .int v1496), (4, .int v1483)])) rfl rfl (by decide) (by omega) (fun _ => rfl) (fun v1496 ev1496 => ?_)
                    refine g_goto ?_
                    refine gG_pick [0, 1, 2, 3] (l' := [(0, .ref 0), (1, .int a1), (2, .int v1447), (3, .int v1496)]) rfl ?_
                    exact ihL1463 v1496 H1493 hIH1493 (JM_n hJH1493) e1494 m1495 (by omega) (by omega)
                  · refine g_iload rfl ?_
                    refine g_aload_n rfl ?_
                    refine g_gfi hIH1471 sm_0 rfl (fun v1497 ev1497 lv1497 uv1497 => ?_)
                    refine g_if2_lt (fun c1498 => ?_) (fun c1498 => ?_)
                    · refine g_aload_n rfl ?_
                      refine g_iload_n rfl ?_
                      refine g_pfi hIH1471 sm_0 rfl (gz_any _) (fun H1499 eH1499 hIH1499 => ?_)
                      have hJH1499 : JM H1499 := JM_sF eH1499 hJH1471
                      have e1500 : k0_2 = fZ H1499 0 2 := by rw [eH1499, fZ_sF_ne (by decide)]; exact e1479
                      have m1501 : kpM H H1499 := kpM_F m1480 eH1499 (by omega)
                      refine g_aload_n rfl ?_
                      refine g_iload_n rfl ?_
                      refine g_pfi hIH1499 sm_0 rfl (gz_any _) (fun H1502 eH1502 hIH1502 => ?_)
                      have hJH1502 : JM H1502 := JM_sF eH1502 hJH1499
                      have e1503 : k0_2 = fZ H1502 0 2 := by rw [eH1502, fZ_sF_ne (by decide)]; exact e1500
                      have m1504 : kpM H H1502 := kpM_F m1501 eH1502 (by omega)
                      refine g_aload_n rfl ?_
                      refine g_iload rfl ?_
                      refine g_pfi hIH1502 sm_0 rfl (gz_any _) (fun H1505 eH1505 hIH1505 => ?_)
                      have hJH1505 : JM H1505 := JM_sF eH1505 hJH1502
                      have e1506 : k0_2 = fZ H1505 0 2 := by rw [eH1505, fZ_sF_ne (by decide)]; exact e1503
                      have m1507 : kpM H H1505 := kpM_F m1504 eH1505 (by omega)
                      refine g_nop ?_
                      refine g_iinc (l' := (fun v1508 => [(0, .ref 0), (1, .int a1), (2, .int v1447), (3, .int v1508), (4, .int v1483)])) rfl rfl (by decide) (by omega) (fun _ => rfl) (fun v1508 ev1508 => ?_)
                      refine g_goto ?_
                      refine gG_pick [0, 1, 2, 3] (l' := [(0, .ref 0), (1, .int a1), (2, .int v1447), (3, .int v1508)]) rfl ?_
                      exact ihL1463 v1508 H1505 hIH1505 (JM_n hJH1505) e1506 m1507 (by omega) (by omega)
                    · refine g_goto ?_
                      refine g_iinc (l' := (fun v1509 => [(0, .ref 0), (1, .int a1), (2, .int v1447), (3, .int v1509), (4, .int v1483)])) rfl rfl (by decide) (by omega) (fun _ => rfl) (fun v1509 ev1509 => ?_)
                      refine g_goto ?_
                      refine gG_pick [0, 1, 2, 3] (l' := [(0, .ref 0), (1, .int a1), (2, .int v1447), (3, .int v1509)]) rfl ?_
                      exact ihL1463 v1509 H1471 hIH1471 (JM_n hJH1471) e1479 m1480 (by omega) (by omega)
                · exfalso; omega
            · refine g_aload_n rfl ?_
              refine g_invvi hIH1460 sm_0 rfl rfl rfl rfl (s_180 H1460 hIH1460 hJH1460) (fun v1512 H1510 r1511 => ?_)
              obtain ⟨rfl, bv1512, p1513⟩ := r1511
              refine g_goto ?_
              refine g_if2_ge (fun c1514 => ?_) (fun c1514 => ?_)
              · refine g_iinc (l' := (fun v1515 => [(0, .ref 0), (1, .int a1), (2, .int v1515), (3, .int v1459)])) rfl rfl (by decide) (by omega) (fun _ => rfl) (fun v1515 ev1515 => ?_)
                refine g_goto ?_
                refine gG_pick [0, 1, 2] (l' := [(0, .ref 0), (1, .int a1), (2, .int v1515)]) rfl ?_
                exact ihL1451 v1515 H1460 hIH1460 hJH1460 e1461 m1462 (by omega) (by omega)
              · refine g_aload_n rfl ?_
                refine g_iload_n rfl ?_
                refine g_iload_n rfl ?_
                refine g_if_eq (fun c1516 => ?_) (fun c1516 => ?_)
                · exfalso; omega
                · refine g_iload_n rfl ?_
                  refine g_goto ?_
                  refine g_invvv hIH1460 sm_0 rfl rfl rfl rfl (s_222 v1447 (by omega) v1459 (by omega) H1460 hIH1460 hJH1460) (fun H1517 r1518 => ?_)
                  obtain ⟨hIH1517, hJH1517, w1519, w1520, w1521, w1522, w1523, m1524⟩ := r1518
                  have e1525 : k0_2 = fZ H1517 0 2 := e1461.trans w1519.symm
                  have m1526 : kpM H H1517 := kpM_t m1462 m1524
                  refine g_aload_n rfl ?_
                  refine g_invvi hIH1517 sm_0 rfl rfl rfl rfl (s_224 H1517 hIH1517 (JM_n hJH1517)) (fun v1529 H1527 r1528 => ?_)
                  obtain rfl := r1528
                  refine g_istore (l' := [(0, .ref 0), (1, .int a1), (2, .int v1447), (3, .int v1459), (4, .int v1529)]) rfl rfl ?_
                  refine g_aload_n rfl ?_
                  refine g_gfi hIH1517 sm_0 rfl (fun v1530 ev1530 lv1530 uv1530 => ?_)
                  refine g_iconst (by decide) (fun v1531 kv1531 => ?_)
                  refine g_if2_eq (fun c1532 => ?_) (fun c1532 => ?_)
                  · refine g_aload_n rfl ?_
                    refine g_iload_n rfl ?_
                    refine g_pfi hIH1517 sm_0 rfl (gz_any _) (fun H1533 eH1533 hIH1533 => ?_)
                    have hJH1533 : JM H1533 := JM_sF eH1533 hJH1517
                    have e1534 : k0_2 = fZ H1533 0 2 := by rw [eH1533, fZ_sF_ne (by decide)]; exact e1525
                    have m1535 : kpM H H1533 := kpM_F m1526 eH1533 (by omega)
                    refine g_aload_n rfl ?_
                    refine g_iload_n rfl ?_
                    refine g_pfi hIH1533 sm_0 rfl (gz_any _) (fun H1536 eH1536 hIH1536 => ?_)
                    have hJH1536 : JM H1536 := JM_sF eH1536 hJH1533
                    have e1537 : k0_2 = fZ H1536 0 2 := by rw [eH1536, fZ_sF_ne (by decide)]; exact e1534
                    have m1538 : kpM H H1536 := kpM_F m1535 eH1536 (by omega)
                    refine g_aload_n rfl ?_
                    refine g_iload rfl ?_
                    refine g_pfi hIH1536 sm_0 rfl (gz_any _) (fun H1539 eH1539 hIH1539 => ?_)
                    have hJH1539 : JM H1539 := JM_sF eH1539 hJH1536
                    have e1540 : k0_2 = fZ H1539 0 2 := by rw [eH1539, fZ_sF_ne (by decide)]; exact e1537
                    have m1541 : kpM H H1539 := kpM_F m1538 eH1539 (by omega)
                    refine g_nop ?_
                    refine g_iinc (l' := (fun v1542 => [(0, .ref 0), (1, .int a1), (2, .int v1447), (3, .int v1542), (4, .int v1529)])) rfl rfl (by decide) (by omega) (fun _ => rfl) (fun v1542 ev1542 => ?_)
                    refine g_goto ?_
                    refine gG_pick [0, 1, 2, 3] (l' := [(0, .ref 0), (1, .int a1), (2, .int v1447), (3, .int v1542)]) rfl ?_
                    exact ihL1463 v1542 H1539 hIH1539 (JM_n hJH1539) e1540 m1541 (by omega) (by omega)
                  · refine g_iload rfl ?_
                    refine g_aload_n rfl ?_
                    refine g_gfi hIH1517 sm_0 rfl (fun v1543 ev1543 lv1543 uv1543 => ?_)
                    refine g_if2_lt (fun c1544 => ?_) (fun c1544 => ?_)
                    · refine g_aload_n rfl ?_
                      refine g_iload_n rfl ?_
                      refine g_pfi hIH1517 sm_0 rfl (gz_any _) (fun H1545 eH1545 hIH1545 => ?_)
                      have hJH1545 : JM H1545 := JM_sF eH1545 hJH1517
                      have e1546 : k0_2 = fZ H1545 0 2 := by rw [eH1545, fZ_sF_ne (by decide)]; exact e1525
                      have m1547 : kpM H H1545 := kpM_F m1526 eH1545 (by omega)
                      refine g_aload_n rfl ?_
                      refine g_iload_n rfl ?_
                      refine g_pfi hIH1545 sm_0 rfl (gz_any _) (fun H1548 eH1548 hIH1548 => ?_)
                      have hJH1548 : JM H1548 := JM_sF eH1548 hJH1545
                      have e1549 : k0_2 = fZ H1548 0 2 := by rw [eH1548, fZ_sF_ne (by decide)]; exact e1546
                      have m1550 : kpM H H1548 := kpM_F m1547 eH1548 (by omega)
                      refine g_aload_n rfl ?_
                      refine g_iload rfl ?_
                      refine g_pfi hIH1548 sm_0 rfl (gz_any _) (fun H1551 eH1551 hIH1551 => ?_)
                      have hJH1551 : JM H1551 := JM_sF eH1551 hJH1548
                      have e1552 : k0_2 = fZ H1551 0 2 := by rw [eH1551, fZ_sF_ne (by decide)]; exact e1549
                      have m1553 : kpM H H1551 := kpM_F m1550 eH1551 (by omega)
                      refine g_nop ?_
                      refine g_iinc (l' := (fun v1554 => [(0, .ref 0), (1, .int a1), (2, .int v1447), (3, .int v1554), (4, .int v1529)])) rfl rfl (by decide) (by omega) (fun _ => rfl) (fun v1554 ev1554 => ?_)
                      refine g_goto ?_
                      refine gG_pick [0, 1, 2, 3] (l' := [(0, .ref 0), (1, .int a1), (2, .int v1447), (3, .int v1554)]) rfl ?_
                      exact ihL1463 v1554 H1551 hIH1551 (JM_n hJH1551) e1552 m1553 (by omega) (by omega)
                    · refine g_goto ?_
                      refine g_iinc (l' := (fun v1555 => [(0, .ref 0), (1, .int a1), (2, .int v1447), (3, .int v1555), (4, .int v1529)])) rfl rfl (by decide) (by omega) (fun _ => rfl) (fun v1555 ev1555 => ?_)
                      refine g_goto ?_
                      refine gG_pick [0, 1, 2, 3] (l' := [(0, .ref 0), (1, .int a1), (2, .int v1447), (3, .int v1555)]) rfl ?_
                      exact ihL1463 v1555 H1517 hIH1517 (JM_n hJH1517) e1525 m1526 (by omega) (by omega)
        exact L1463 _ v1458 H1448 hIH1448 hJH1448 e1449 m1450 (by omega) (Nat.lt_succ_self _)
  exact L1451 _ v1446 H1443 hIH1443 hJH1443 e1444 m1445 (by omega) (Nat.lt_succ_self _)
set_option maxRecDepth 4000 in
set_option maxHeartbeats 4000000 in
/-- M.twoBlamed -/
theorem s_228 (a1 : Int32) (H : mzH) (hI : gI SM H) (hJ : JN H) : gCall 228 [.ref 0, .int a1] H (gRi (fun v H' => gI SM H' ∧ JN H' ∧ fZ H' 0 2 = fZ H 0 2 ∧ kpM H H')) := by
  obtain ⟨k0_2, ek0_2⟩ : ∃ z, z = fZ H 0 2 := ⟨_, rfl⟩
  have ik0_2 : k0_2.toInt = (fZ H 0 2).toInt := by rw [← ek0_2]
  have bk0_2 : 0 ≤ k0_2.toInt ∧ k0_2.toInt ≤ 900 := by rw [ek0_2]; exact fZ_of hI sm_0 rfl
  have mkfr : kpM H H := kpM_r
  refine gG_call [(0, .ref 0), (1, .int a1)] ⟨rfl, rfl, trivial⟩ ?_
  show gG 2 zB_228 (mzBlk zB_228 0) [(0, .ref 0), (1, .int a1)] [] H 0 0 _
  refine g_aload_n rfl ?_
  refine g_iconst (by decide) (fun v105 kv105 => ?_)
  refine g_pfi hI sm_0 rfl (gz_any _) (fun H106 eH106 hIH106 => ?_)
  have hJH106 : JN H106 := JN_sF eH106 hJ
  have e107 : k0_2 = fZ H106 0 2 := by rw [eH106, fZ_sF_ne (by decide)]; exact ek0_2
  have m108 : kpM H H106 := kpM_F mkfr eH106 (by omega)
  refine g_iload_n rfl ?_
  refine g_if_lt (fun c109 => ?_) (fun c109 => ?_)
  · refine g_iconst (by decide) (fun v110 kv110 => ?_)
    exact g_iret ⟨_, rfl, hIH106, hJH106, (e107.symm.trans ek0_2), m108⟩
  · refine g_iload_n rfl ?_
    refine g_iconst (by decide) (fun v111 kv111 => ?_)
    refine g_if2_le (fun c112 => ?_) (fun c112 => ?_)
    · refine g_aload_n rfl ?_
      refine g_iconst (by decide) (fun v113 kv113 => ?_)
      refine g_invvv hIH106 sm_0 rfl rfl rfl rfl (s_226 v113 (by omega) H106 hIH106 hJH106) (fun H114 r115 => ?_)
      obtain ⟨hIH114, hJH114, w116, m117⟩ := r115
      have e118 : k0_2 = fZ H114 0 2 := e107.trans w116.symm
      have m119 : kpM H H114 := kpM_t m108 m117
      refine g_aload_n rfl ?_
      refine g_gfi hIH114 sm_0 rfl (fun v120 ev120 lv120 uv120 => ?_)
      refine g_iconst (by decide) (fun v121 kv121 => ?_)
      refine g_if2_ne (fun c122 => ?_) (fun c122 => ?_)
      · refine g_iload_n rfl ?_
        refine g_if_ne (fun c123 => ?_) (fun c123 => ?_)
        · refine g_iload_n rfl ?_
          refine g_iconst (by decide) (fun v124 kv124 => ?_)
          refine g_if2_ne (fun c125 => ?_) (fun c125 => ?_)
          · refine g_aload_n rfl ?_
            refine g_gfi hIH114 sm_0 rfl (fun v126 ev126 lv126 uv126 => ?_)
            refine g_nop ?_
            exact g_iret ⟨_, rfl, hIH114, hJH114, (e118.symm.trans ek0_2), m119⟩
          · refine g_aload_n rfl ?_
            refine g_gfi hIH114 sm_0 rfl (fun v127 ev127 lv127 uv127 => ?_)
            refine g_goto ?_
            exact g_iret ⟨_, rfl, hIH114, hJH114, (e118.symm.trans ek0_2), m119⟩
        · refine g_aload_n rfl ?_
          refine g_gfi hIH114 sm_0 rfl (fun v128 ev128 lv128 uv128 => ?_)
          refine g_goto ?_
          exact g_iret ⟨_, rfl, hIH114, hJH114, (e118.symm.trans ek0_2), m119⟩
      · refine g_bipush (by decide) (fun v129 kv129 => ?_)
        refine g_goto ?_
        exact g_iret ⟨_, rfl, hIH114, hJH114, (e118.symm.trans ek0_2), m119⟩
    · refine g_nop ?_
      refine g_iconst (by decide) (fun v130 kv130 => ?_)
      exact g_iret ⟨_, rfl, hIH106, hJH106, (e107.symm.trans ek0_2), m108⟩
set_option maxRecDepth 4000 in
set_option maxHeartbeats 4000000 in
/-- M.isRefused -/
theorem s_229 (a1 : Int32) (ha1 : 0 ≤ a1.toInt ∧ a1.toInt ≤ 59) (H : mzH) (hI : gI SM H) (hJ : JN H) : gCall 229 [.ref 0, .int a1] H (gRi (fun v H' => gI SM H' ∧ JN H' ∧ (0 ≤ v.toInt ∧ v.toInt ≤ 1) ∧ fZ H' 0 2 = fZ H 0 2 ∧ kpM H H')) := by
  obtain ⟨k0_2, ek0_2⟩ : ∃ z, z = fZ H 0 2 := ⟨_, rfl⟩
  have ik0_2 : k0_2.toInt = (fZ H 0 2).toInt := by rw [← ek0_2]
  have bk0_2 : 0 ≤ k0_2.toInt ∧ k0_2.toInt ≤ 900 := by rw [ek0_2]; exact fZ_of hI sm_0 rfl
  have mkfr : kpM H H := kpM_r
  refine gG_call [(0, .ref 0), (1, .int a1)] ⟨rfl, rfl, trivial⟩ ?_
  show gG 2 zB_229 (mzBlk zB_229 0) [(0, .ref 0), (1, .int a1)] [] H 0 0 _
  refine g_aload_n rfl ?_
  refine g_invvv hI sm_0 rfl rfl rfl rfl (s_199 H hI hJ) (fun H65 r66 => ?_)
  obtain ⟨hIH65, hJH65, w67, w68, w69, w70, w71, m72, m73, p74⟩ := r66
  have e75 : k0_2 = fZ H65 0 2 := ek0_2.trans w67.symm
  have m76 : kpM H H65 := kpM_t mkfr m73
  refine g_aload_n rfl ?_
  refine g_gfr hIH65 sm_0 rfl ?_
  refine g_iload_n rfl ?_
  refine g_iaload hIH65 sm_20 rfl (by omega) (fun v77 ev77 lv77 uv77 => ?_)
  refine g_if_eq (fun c78 => ?_) (fun c78 => ?_)
  · refine g_iconst (by decide) (fun v79 kv79 => ?_)
    refine g_nop ?_
    exact g_zret (by omega) ⟨_, rfl, hIH65, (JM_n hJH65), (by omega), (e75.symm.trans ek0_2), m76⟩
  · refine g_iconst (by decide) (fun v80 kv80 => ?_)
    refine g_goto ?_
    exact g_zret (by omega) ⟨_, rfl, hIH65, (JM_n hJH65), (by omega), (e75.symm.trans ek0_2), m76⟩
