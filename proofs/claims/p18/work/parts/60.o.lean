set_option maxRecDepth 4000 in
set_option maxHeartbeats 4000000 in
/-- M.message -/
theorem s_202 (a1 : Int32) (a2 : Int32) (H : mzH) (hI : gI SM H) (hJ : JN H) : gCall 202 [.ref 0, .int a1, .int a2] H (gRi (fun v H' => gI SM H' ∧ JN H' ∧ fZ H' 0 2 = fZ H 0 2 ∧ kpM H H')) := by
  obtain ⟨k0_2, ek0_2⟩ : ∃ z, z = fZ H 0 2 := ⟨_, rfl⟩
  have ik0_2 : k0_2.toInt = (fZ H 0 2).toInt := by rw [← ek0_2]
  have bk0_2 : 0 ≤ k0_2.toInt ∧ k0_2.toInt ≤ 900 := by rw [ek0_2]; exact fZ_of hI sm_0 rfl
  have mkfr : kpM H H := kpM_r
  refine gG_call [(0, .ref 0), (1, .int a1), (2, .int a2)] ⟨rfl, rfl, rfl, trivial⟩ ?_
  show gG 3 zB_202 (mzBlk zB_202 0) [(0, .ref 0), (1, .int a1), (2, .int a2)] [] H 0 0 _
  refine g_aload_n rfl ?_
  refine g_iconst (by decide) (fun v253 kv253 => ?_)
  refine g_pfi hI sm_0 rfl (gz_any _) (fun H254 eH254 hIH254 => ?_)
  have hJH254 : JN H254 := JN_sF eH254 hJ
  have e255 : k0_2 = fZ H254 0 2 := by rw [eH254, fZ_sF_ne (by decide)]; exact ek0_2
  have m256 : kpM H H254 := kpM_F mkfr eH254 (by omega)
  refine g_iload_n rfl ?_
  refine g_if_lt (fun c257 => ?_) (fun c257 => ?_)
  · refine g_aload_n rfl ?_
    refine g_iconst (by decide) (fun v258 kv258 => ?_)
    refine g_pfi hIH254 sm_0 rfl (gz_any _) (fun H259 eH259 hIH259 => ?_)
    have hJH259 : JN H259 := JN_sF eH259 hJH254
    have e260 : k0_2 = fZ H259 0 2 := by rw [eH259, fZ_sF_ne (by decide)]; exact e255
    have m261 : kpM H H259 := kpM_F m256 eH259 (by omega)
    refine g_iconst (by decide) (fun v262 kv262 => ?_)
    exact g_iret ⟨_, rfl, hIH259, hJH259, (e260.symm.trans ek0_2), m261⟩
  · refine g_iload_n rfl ?_
    refine g_aload_n rfl ?_
    refine g_invvi hIH254 sm_0 rfl rfl rfl rfl (s_180 H254 hIH254 hJH254) (fun v265 H263 r264 => ?_)
    obtain ⟨rfl, bv265, p266⟩ := r264
    refine g_if2_lt (fun c267 => ?_) (fun c267 => ?_)
    · refine g_aload_n rfl ?_
      refine g_invvv hIH254 sm_0 rfl rfl rfl rfl (s_199 H254 hIH254 hJH254) (fun H268 r269 => ?_)
      obtain ⟨hIH268, hJH268, w270, w271, w272, w273, m274, m275, p276⟩ := r269
      have e277 : k0_2 = fZ H268 0 2 := e255.trans w270.symm
      have m278 : kpM H H268 := kpM_t m256 m275
      refine g_iload_n rfl ?_
      refine g_sw (by decide) (fun c279 => ?_) ⟨fun c279 => ?_, fun c279 => ?_, fun c279 => ?_, fun c279 => ?_, fun c279 => ?_, fun c279 => ?_, fun c279 => ?_, trivial⟩
      · refine g_aload_n rfl ?_
        refine g_iconst (by decide) (fun v280 kv280 => ?_)
        refine g_pfi hIH268 sm_0 rfl (gz_any _) (fun H281 eH281 hIH281 => ?_)
        have hJH281 : JM H281 := JM_sF eH281 hJH268
        have e282 : k0_2 = fZ H281 0 2 := by rw [eH281, fZ_sF_ne (by decide)]; exact e277
        have m283 : kpM H H281 := kpM_F m278 eH281 (by omega)
        refine g_iconst (by decide) (fun v284 kv284 => ?_)
        exact g_iret ⟨_, rfl, hIH281, (JM_n hJH281), (e282.symm.trans ek0_2), m283⟩
      · refine g_aload_n rfl ?_
        refine g_iload_n rfl ?_
        refine g_iload_n rfl ?_
        refine g_invvi hIH268 sm_0 rfl rfl rfl rfl (s_181 a1 (by omega) a2 (by omega) H268 hIH268 (JM_n hJH268)) (fun v287 H285 r286 => ?_)
        obtain ⟨rfl, p288⟩ := r286
        exact g_iret ⟨_, rfl, hIH268, (JM_n hJH268), (e277.symm.trans ek0_2), m278⟩
      · refine g_aload_n rfl ?_
        refine g_iload_n rfl ?_
        refine g_iload_n rfl ?_
        refine g_invvi hIH268 sm_0 rfl rfl rfl rfl (s_181 a1 (by omega) a2 (by omega) H268 hIH268 (JM_n hJH268)) (fun v291 H289 r290 => ?_)
        obtain ⟨rfl, p292⟩ := r290
        exact g_iret ⟨_, rfl, hIH268, (JM_n hJH268), (e277.symm.trans ek0_2), m278⟩
      · refine g_aload_n rfl ?_
        refine g_iload_n rfl ?_
        refine g_iload_n rfl ?_
        refine g_invvi hIH268 sm_0 rfl rfl rfl rfl (s_181 a1 (by omega) a2 (by omega) H268 hIH268 (JM_n hJH268)) (fun v295 H293 r294 => ?_)
        obtain ⟨rfl, p296⟩ := r294
        exact g_iret ⟨_, rfl, hIH268, (JM_n hJH268), (e277.symm.trans ek0_2), m278⟩
      · refine g_aload_n rfl ?_
        refine g_iload_n rfl ?_
        refine g_iload_n rfl ?_
        refine g_invvi hIH268 sm_0 rfl rfl rfl rfl (s_181 a1 (by omega) a2 (by omega) H268 hIH268 (JM_n hJH268)) (fun v299 H297 r298 => ?_)
        obtain ⟨rfl, p300⟩ := r298
        exact g_iret ⟨_, rfl, hIH268, (JM_n hJH268), (e277.symm.trans ek0_2), m278⟩
      · refine g_aload_n rfl ?_
        refine g_gfr hIH268 sm_0 rfl ?_
        refine g_iload_n rfl ?_
        refine g_iaload hIH268 sm_20 rfl (by omega) (fun v301 ev301 lv301 uv301 => ?_)
        exact g_iret ⟨_, rfl, hIH268, (JM_n hJH268), (e277.symm.trans ek0_2), m278⟩
      · refine g_aload_n rfl ?_
        refine g_iload_n rfl ?_
        refine g_invvi hIH268 sm_0 rfl rfl rfl rfl (s_203 a1 (by omega) H268 hIH268 (JM_n hJH268) (by obtain ⟨p, hp, e⟩ := p276 a1.toInt.toNat (by rw [m274 2]; omega); exact ⟨p, hp, by omega⟩)) (fun v304 H302 r303 => ?_)
        obtain rfl := r303
        exact g_iret ⟨_, rfl, hIH268, (JM_n hJH268), (e277.symm.trans ek0_2), m278⟩
      · refine g_aload_n rfl ?_
        refine g_iload_n rfl ?_
        refine g_invvi hIH268 sm_0 rfl rfl rfl rfl (s_204 a1 (by omega) H268 hIH268 (JM_n hJH268)) (fun v307 H305 r306 => ?_)
        obtain ⟨rfl, bv307⟩ := r306
        refine g_if_eq (fun c308 => ?_) (fun c308 => ?_)
        · refine g_iconst (by decide) (fun v309 kv309 => ?_)
          refine g_nop ?_
          exact g_iret ⟨_, rfl, hIH268, (JM_n hJH268), (e277.symm.trans ek0_2), m278⟩
        · refine g_iconst (by decide) (fun v310 kv310 => ?_)
          refine g_goto ?_
          exact g_iret ⟨_, rfl, hIH268, (JM_n hJH268), (e277.symm.trans ek0_2), m278⟩
    · refine g_nop ?_
      refine g_aload_n rfl ?_
      refine g_iconst (by decide) (fun v311 kv311 => ?_)
      refine g_pfi hIH254 sm_0 rfl (gz_any _) (fun H312 eH312 hIH312 => ?_)
      have hJH312 : JN H312 := JN_sF eH312 hJH254
      have e313 : k0_2 = fZ H312 0 2 := by rw [eH312, fZ_sF_ne (by decide)]; exact e255
      have m314 : kpM H H312 := kpM_F m256 eH312 (by omega)
      refine g_iconst (by decide) (fun v315 kv315 => ?_)
      exact g_iret ⟨_, rfl, hIH312, hJH312, (e313.symm.trans ek0_2), m314⟩
set_option maxRecDepth 4000 in
set_option maxHeartbeats 4000000 in
/-- M.isThing -/
theorem s_205 (a0 : Int32) (H : mzH) (hI : gI SM H) (hJ : JN H) : gCall 205 [.int a0] H (gRi (fun v H' => H = H' ∧ (0 ≤ v.toInt ∧ v.toInt ≤ 1) ∧ (v.toInt = 0 ∨ (0 ≤ a0.toInt ∧ a0.toInt ≤ 39)))) := by
  refine gG_call [(0, .int a0)] ⟨rfl, trivial⟩ ?_
  show gG 1 zB_205 (mzBlk zB_205 0) [(0, .int a0)] [] H 0 0 _
  refine g_iload_n rfl ?_
  refine g_if_lt (fun c25 => ?_) (fun c25 => ?_)
  · refine g_iconst (by decide) (fun v26 kv26 => ?_)
    refine g_nop ?_
    exact g_zret (by omega) ⟨_, rfl, rfl, (by omega), (by omega)⟩
  · refine g_iload_n rfl ?_
    refine g_bipush (by decide) (fun v27 kv27 => ?_)
    refine g_if2_ge (fun c28 => ?_) (fun c28 => ?_)
    · refine g_iconst (by decide) (fun v29 kv29 => ?_)
      refine g_nop ?_
      exact g_zret (by omega) ⟨_, rfl, rfl, (by omega), (by omega)⟩
    · refine g_iconst (by decide) (fun v30 kv30 => ?_)
      refine g_goto ?_
      exact g_zret (by omega) ⟨_, rfl, rfl, (by omega), (by omega)⟩
set_option maxRecDepth 4000 in
set_option maxHeartbeats 4000000 in
/-- M.isHour -/
theorem s_206 (a0 : Int32) (H : mzH) (hI : gI SM H) (hJ : JN H) : gCall 206 [.int a0] H (gRi (fun v H' => H = H' ∧ (0 ≤ v.toInt ∧ v.toInt ≤ 1))) := by
  refine gG_call [(0, .int a0)] ⟨rfl, trivial⟩ ?_
  show gG 1 zB_206 (mzBlk zB_206 0) [(0, .int a0)] [] H 0 0 _
  refine g_iload_n rfl ?_
  refine g_if_lt (fun c25 => ?_) (fun c25 => ?_)
  · refine g_iconst (by decide) (fun v26 kv26 => ?_)
    refine g_nop ?_
    exact g_zret (by omega) ⟨_, rfl, rfl, (by omega)⟩
  · refine g_iload_n rfl ?_
    refine g_sipush (by decide) (fun v27 kv27 => ?_)
    refine g_if2_gt (fun c28 => ?_) (fun c28 => ?_)
    · refine g_iconst (by decide) (fun v29 kv29 => ?_)
      refine g_nop ?_
      exact g_zret (by omega) ⟨_, rfl, rfl, (by omega)⟩
    · refine g_iconst (by decide) (fun v30 kv30 => ?_)
      refine g_goto ?_
      exact g_zret (by omega) ⟨_, rfl, rfl, (by omega)⟩
set_option maxRecDepth 4000 in
set_option maxHeartbeats 4000000 in
/-- M.allIn -/
theorem s_207 (a1 : Int32) (H : mzH) (hI : gI SM H) (hJ : JM H) : gCall 207 [.ref 0, .int a1] H (gRi (fun v H' => H = H')) := by
  refine gG_call [(0, .ref 0), (1, .int a1)] ⟨rfl, rfl, trivial⟩ ?_
  show gG 4 zB_207 (mzBlk zB_207 0) [(0, .ref 0), (1, .int a1)] [] H 0 0 _
  refine g_iconst (by decide) (fun v459 kv459 => ?_)
  refine g_istore_n (l' := [(0, .ref 0), (1, .int a1), (2, .int v459)]) rfl rfl ?_
  refine g_iconst (by decide) (fun v460 kv460 => ?_)
  refine g_istore_n (l' := [(0, .ref 0), (1, .int a1), (2, .int v459), (3, .int v460)]) rfl rfl ?_
  refine g_nop ?_
  have L463 : ∀ (N : Nat) (v461 : Int32) (v462 : Int32), (0 ≤ v462.toInt ∧ v462.toInt ≤ 40) → (40 - v462.toInt).toNat < N → gG 4 zB_207 (mzBlk zB_207 1) [(0, .ref 0), (1, .int a1), (2, .int v461), (3, .int v462)] [] H 0 0 (gRi (fun v H' => H = H')) := by
    intro N
    induction N with
    | zero => intro v461 v462 bv462 hmL463; exact absurd hmL463 (Nat.not_lt_zero _)
    | succ N ihL463 =>
      intro v461 v462 bv462 hmL463
      refine g_iload_n rfl ?_
      refine g_bipush (by decide) (fun v464 kv464 => ?_)
      refine g_if2_ge (fun c465 => ?_) (fun c465 => ?_)
      · refine g_iload_n rfl ?_
        exact g_iret ⟨_, rfl, rfl⟩
      · refine g_iload_n rfl ?_
        refine g_aload_n rfl ?_
        refine g_iload_n rfl ?_
        refine g_iload_n rfl ?_
        refine g_invvi hI sm_0 rfl rfl rfl rfl (s_186 v462 (by omega) a1 H hI hJ) (fun v468 H466 r467 => ?_)
        obtain ⟨rfl, bv468⟩ := r467
        refine g_if_eq (fun c469 => ?_) (fun c469 => ?_)
        · refine g_iconst (by decide) (fun v470 kv470 => ?_)
          refine g_nop ?_
          refine g_iadd (by have := gz_any v461; omega) (fun v471 ev471 => ?_)
          refine g_istore_n (l' := [(0, .ref 0), (1, .int a1), (2, .int v471), (3, .int v462)]) rfl rfl ?_
          refine g_iinc (l' := (fun v472 => [(0, .ref 0), (1, .int a1), (2, .int v471), (3, .int v472)])) rfl rfl (by decide) (by omega) (fun _ => rfl) (fun v472 ev472 => ?_)
          refine g_goto ?_
          exact ihL463 v471 v472 (by omega) (by omega)
        · refine g_iconst (by decide) (fun v473 kv473 => ?_)
          refine g_goto ?_
          refine g_iadd' (fun v474 ov474 => ?_)
          refine g_istore_n (l' := [(0, .ref 0), (1, .int a1), (2, .int v474), (3, .int v462)]) rfl rfl ?_
          refine g_iinc (l' := (fun v475 => [(0, .ref 0), (1, .int a1), (2, .int v474), (3, .int v475)])) rfl rfl (by decide) (by omega) (fun _ => rfl) (fun v475 ev475 => ?_)
          refine g_goto ?_
          exact ihL463 v474 v475 (by omega) (by omega)
  exact L463 _ v459 v460 (by omega) (Nat.lt_succ_self _)
set_option maxRecDepth 4000 in
set_option maxHeartbeats 4000000 in
/-- M.thing -/
theorem s_208 (a1 : Int32) (a2 : Int32) (a3 : Int32) (H : mzH) (hI : gI SM H) (hJ : JN H) : gCall 208 [.ref 0, .int a1, .int a2, .int a3] H (gRi (fun v H' => gI SM H' ∧ JN H' ∧ fZ H' 0 2 = fZ H 0 2 ∧ kpM H H')) := by
  obtain ⟨k0_2, ek0_2⟩ : ∃ z, z = fZ H 0 2 := ⟨_, rfl⟩
  have ik0_2 : k0_2.toInt = (fZ H 0 2).toInt := by rw [← ek0_2]
  have bk0_2 : 0 ≤ k0_2.toInt ∧ k0_2.toInt ≤ 900 := by rw [ek0_2]; exact fZ_of hI sm_0 rfl
  have mkfr : kpM H H := kpM_r
  refine gG_call [(0, .ref 0), (1, .int a1), (2, .int a2), (3, .int a3)] ⟨rfl, rfl, rfl, rfl, trivial⟩ ?_
  show gG 4 zB_208 (mzBlk zB_208 0) [(0, .ref 0), (1, .int a1), (2, .int a2), (3, .int a3)] [] H 0 0 _
  refine g_aload_n rfl ?_
  refine g_iconst (by decide) (fun v241 kv241 => ?_)
  refine g_pfi hI sm_0 rfl (gz_any _) (fun H242 eH242 hIH242 => ?_)
  have hJH242 : JN H242 := JN_sF eH242 hJ
  have e243 : k0_2 = fZ H242 0 2 := by rw [eH242, fZ_sF_ne (by decide)]; exact ek0_2
  have m244 : kpM H H242 := kpM_F mkfr eH242 (by omega)
  refine g_iload_n rfl ?_
  refine g_invti rfl rfl rfl (s_205 a1 H242 hIH242 hJH242) (fun v247 H245 r246 => ?_)
  obtain ⟨rfl, bv247, p248⟩ := r246
  refine g_if_eq (fun c249 => ?_) (fun c249 => ?_)
  · refine g_iconst (by decide) (fun v250 kv250 => ?_)
    exact g_iret ⟨_, rfl, hIH242, hJH242, (e243.symm.trans ek0_2), m244⟩
  · refine g_iload_n rfl ?_
    refine g_invti rfl rfl rfl (s_206 a2 H242 hIH242 hJH242) (fun v253 H251 r252 => ?_)
    obtain ⟨rfl, bv253⟩ := r252
    refine g_if_eq (fun c254 => ?_) (fun c254 => ?_)
    · refine g_iconst (by decide) (fun v255 kv255 => ?_)
      exact g_iret ⟨_, rfl, hIH242, hJH242, (e243.symm.trans ek0_2), m244⟩
    · refine g_iload_n rfl ?_
      refine g_if_lt (fun c256 => ?_) (fun c256 => ?_)
      · refine g_iconst (by decide) (fun v257 kv257 => ?_)
        exact g_iret ⟨_, rfl, hIH242, hJH242, (e243.symm.trans ek0_2), m244⟩
      · refine g_iload_n rfl ?_
        refine g_bipush (by decide) (fun v258 kv258 => ?_)
        refine g_if2_le (fun c259 => ?_) (fun c259 => ?_)
        · refine g_aload_n rfl ?_
          refine g_iload_n rfl ?_
          refine g_invvv hIH242 sm_0 rfl rfl rfl rfl (s_200 a2 H242 hIH242 hJH242) (fun H260 r261 => ?_)
          obtain ⟨hIH260, hJH260, w262, m263⟩ := r261
          have e264 : k0_2 = fZ H260 0 2 := e243.trans w262.symm
          have m265 : kpM H H260 := kpM_t m244 m263
          refine g_aload_n rfl ?_
          refine g_gfr hIH260 sm_0 rfl ?_
          refine g_iload_n rfl ?_
          refine g_baload hIH260 sm_7 rfl (by omega) (fun v266 ev266 lv266 uv266 => ?_)
          refine g_if_ne (fun c267 => ?_) (fun c267 => ?_)
          · refine g_aload_n rfl ?_
            refine g_gfr hIH260 sm_0 rfl ?_
            refine g_iload_n rfl ?_
            refine g_baload hIH260 sm_16 rfl (by omega) (fun v268 ev268 lv268 uv268 => ?_)
            refine g_if_eq (fun c269 => ?_) (fun c269 => ?_)
            · refine g_iload_n rfl ?_
              refine g_sw (by decide) (fun c270 => ?_) ⟨fun c270 => ?_, fun c270 => ?_, fun c270 => ?_, fun c270 => ?_, fun c270 => ?_, fun c270 => ?_, fun c270 => ?_, fun c270 => ?_, fun c270 => ?_, trivial⟩
              · refine g_aload_n rfl ?_
                refine g_iload_n rfl ?_
                refine g_invvi hIH260 sm_0 rfl rfl rfl rfl (s_207 a1 H260 hIH260 hJH260) (fun v273 H271 r272 => ?_)
                obtain rfl := r272
                exact g_iret ⟨_, rfl, hIH260, (JM_n hJH260), (e264.symm.trans ek0_2), m265⟩
              · refine g_aload_n rfl ?_
                refine g_gfr hIH260 sm_0 rfl ?_
                refine g_iload_n rfl ?_
                refine g_iaload hIH260 sm_8 rfl (by omega) (fun v274 ev274 lv274 uv274 => ?_)
                exact g_iret ⟨_, rfl, hIH260, (JM_n hJH260), (e264.symm.trans ek0_2), m265⟩
              · refine g_aload_n rfl ?_
                refine g_gfr hIH260 sm_0 rfl ?_
                refine g_iload_n rfl ?_
                refine g_iaload hIH260 sm_9 rfl (by omega) (fun v275 ev275 lv275 uv275 => ?_)
                have qv275 := JM_in hJH260 (by omega) ev275
                exact g_iret ⟨_, rfl, hIH260, (JM_n hJH260), (e264.symm.trans ek0_2), m265⟩
              · refine g_aload_n rfl ?_
                refine g_iload_n rfl ?_
                refine g_invvi hIH260 sm_0 rfl rfl rfl rfl (s_185 a1 (by omega) H260 hIH260 hJH260) (fun v278 H276 r277 => ?_)
                obtain ⟨rfl, bv278⟩ := r277
                exact g_iret ⟨_, rfl, hIH260, (JM_n hJH260), (e264.symm.trans ek0_2), m265⟩
              · refine g_aload_n rfl ?_
                refine g_iload_n rfl ?_
                refine g_invvi hIH260 sm_0 rfl rfl rfl rfl (s_201 a1 (by omega) H260 hIH260 hJH260) (fun v281 H279 r280 => ?_)
                obtain ⟨rfl, bv281⟩ := r280
                exact g_iret ⟨_, rfl, hIH260, (JM_n hJH260), (e264.symm.trans ek0_2), m265⟩
              · refine g_aload_n rfl ?_
                refine g_gfr hIH260 sm_0 rfl ?_
                refine g_iload_n rfl ?_
                refine g_baload hIH260 sm_13 rfl (by omega) (fun v282 ev282 lv282 uv282 => ?_)
                refine g_if_eq (fun c283 => ?_) (fun c283 => ?_)
                · refine g_iconst (by decide) (fun v284 kv284 => ?_)
                  refine g_nop ?_
                  exact g_iret ⟨_, rfl, hIH260, (JM_n hJH260), (e264.symm.trans ek0_2), m265⟩
                · refine g_iconst (by decide) (fun v285 kv285 => ?_)
                  refine g_goto ?_
                  exact g_iret ⟨_, rfl, hIH260, (JM_n hJH260), (e264.symm.trans ek0_2), m265⟩
              · refine g_aload_n rfl ?_
                refine g_gfr hIH260 sm_0 rfl ?_
                refine g_iload_n rfl ?_
                refine g_baload hIH260 sm_14 rfl (by omega) (fun v286 ev286 lv286 uv286 => ?_)
                refine g_if_eq (fun c287 => ?_) (fun c287 => ?_)
                · refine g_iconst (by decide) (fun v288 kv288 => ?_)
                  refine g_nop ?_
                  exact g_iret ⟨_, rfl, hIH260, (JM_n hJH260), (e264.symm.trans ek0_2), m265⟩
                · refine g_iconst (by decide) (fun v289 kv289 => ?_)
                  refine g_goto ?_
                  exact g_iret ⟨_, rfl, hIH260, (JM_n hJH260), (e264.symm.trans ek0_2), m265⟩
              · refine g_aload_n rfl ?_
                refine g_gfr hIH260 sm_0 rfl ?_
                refine g_iload_n rfl ?_
                refine g_iaload hIH260 sm_12 rfl (by omega) (fun v290 ev290 lv290 uv290 => ?_)
                exact g_iret ⟨_, rfl, hIH260, (JM_n hJH260), (e264.symm.trans ek0_2), m265⟩
              · refine g_aload_n rfl ?_
                refine g_gfr hIH260 sm_0 rfl ?_
                refine g_aload_n rfl ?_
                refine g_iload_n rfl ?_
                refine g_invvi hIH260 sm_0 rfl rfl rfl rfl (s_185 a1 (by omega) H260 hIH260 hJH260) (fun v293 H291 r292 => ?_)
                obtain ⟨rfl, bv293⟩ := r292
                refine g_iaload hIH260 sm_11 rfl (by omega) (fun v294 ev294 lv294 uv294 => ?_)
                exact g_iret ⟨_, rfl, hIH260, (JM_n hJH260), (e264.symm.trans ek0_2), m265⟩
              · refine g_aload_n rfl ?_
                refine g_iload_n rfl ?_
                refine g_invvi hIH260 sm_0 rfl rfl rfl rfl (s_188 a1 H260 hIH260 (JM_n hJH260)) (fun v297 H295 r296 => ?_)
                obtain rfl := r296
                exact g_iret ⟨_, rfl, hIH260, (JM_n hJH260), (e264.symm.trans ek0_2), m265⟩
            · refine g_bipush (by decide) (fun v298 kv298 => ?_)
              exact g_iret ⟨_, rfl, hIH260, (JM_n hJH260), (e264.symm.trans ek0_2), m265⟩
          · refine g_bipush (by decide) (fun v299 kv299 => ?_)
            exact g_iret ⟨_, rfl, hIH260, (JM_n hJH260), (e264.symm.trans ek0_2), m265⟩
        · refine g_nop ?_
          refine g_iconst (by decide) (fun v300 kv300 => ?_)
          exact g_iret ⟨_, rfl, hIH242, hJH242, (e243.symm.trans ek0_2), m244⟩
set_option maxRecDepth 4000 in
set_option maxHeartbeats 4000000 in
/-- M.inside -/
theorem s_209 (a1 : Int32) (a2 : Int32) (a3 : Int32) (H : mzH) (hI : gI SM H) (hJ : JN H) : gCall 209 [.ref 0, .int a1, .int a2, .int a3] H (gRi (fun v H' => gI SM H' ∧ JN H' ∧ fZ H' 0 2 = fZ H 0 2 ∧ kpM H H')) := by
  obtain ⟨k0_2, ek0_2⟩ : ∃ z, z = fZ H 0 2 := ⟨_, rfl⟩
  have ik0_2 : k0_2.toInt = (fZ H 0 2).toInt := by rw [← ek0_2]
  have bk0_2 : 0 ≤ k0_2.toInt ∧ k0_2.toInt ≤ 900 := by rw [ek0_2]; exact fZ_of hI sm_0 rfl
  have mkfr : kpM H H := kpM_r
  refine gG_call [(0, .ref 0), (1, .int a1), (2, .int a2), (3, .int a3)] ⟨rfl, rfl, rfl, rfl, trivial⟩ ?_
  show gG 6 zB_209 (mzBlk zB_209 0) [(0, .ref 0), (1, .int a1), (2, .int a2), (3, .int a3)] [] H 0 0 _
  refine g_aload_n rfl ?_
  refine g_iconst (by decide) (fun v281 kv281 => ?_)
  refine g_pfi hI sm_0 rfl (gz_any _) (fun H282 eH282 hIH282 => ?_)
  have hJH282 : JN H282 := JN_sF eH282 hJ
  have e283 : k0_2 = fZ H282 0 2 := by rw [eH282, fZ_sF_ne (by decide)]; exact ek0_2
  have m284 : kpM H H282 := kpM_F mkfr eH282 (by omega)
  refine g_iload_n rfl ?_
  refine g_invti rfl rfl rfl (s_205 a1 H282 hIH282 hJH282) (fun v287 H285 r286 => ?_)
  obtain ⟨rfl, bv287, p288⟩ := r286
  refine g_if_eq (fun c289 => ?_) (fun c289 => ?_)
  · refine g_iconst (by decide) (fun v290 kv290 => ?_)
    exact g_iret ⟨_, rfl, hIH282, hJH282, (e283.symm.trans ek0_2), m284⟩
  · refine g_iload_n rfl ?_
    refine g_invti rfl rfl rfl (s_206 a2 H282 hIH282 hJH282) (fun v293 H291 r292 => ?_)
    obtain ⟨rfl, bv293⟩ := r292
    refine g_if_eq (fun c294 => ?_) (fun c294 => ?_)
    · refine g_iconst (by decide) (fun v295 kv295 => ?_)
      exact g_iret ⟨_, rfl, hIH282, hJH282, (e283.symm.trans ek0_2), m284⟩
    · refine g_iload_n rfl ?_
      refine g_if_ge (fun c296 => ?_) (fun c296 => ?_)
      · refine g_aload_n rfl ?_
        refine g_iload_n rfl ?_
        refine g_invvv hIH282 sm_0 rfl rfl rfl rfl (s_200 a2 H282 hIH282 hJH282) (fun H297 r298 => ?_)
        obtain ⟨hIH297, hJH297, w299, m300⟩ := r298
        have e301 : k0_2 = fZ H297 0 2 := e283.trans w299.symm
        have m302 : kpM H H297 := kpM_t m284 m300
        refine g_iload_n rfl ?_
        refine g_istore (l' := [(0, .ref 0), (1, .int a1), (2, .int a2), (3, .int a3), (4, .int a3)]) rfl rfl ?_
        refine g_iconst (by decide) (fun v303 kv303 => ?_)
        refine g_istore (l' := [(0, .ref 0), (1, .int a1), (2, .int a2), (3, .int a3), (4, .int a3), (5, .int v303)]) rfl rfl ?_
        refine g_nop ?_
        have L306 : ∀ (N : Nat) (v304 : Int32) (v305 : Int32), (0 ≤ v304.toInt ∧ v304.toInt ≤ 2147483647) → (0 ≤ v305.toInt ∧ v305.toInt ≤ 40) → (40 - v305.toInt).toNat < N → gG 6 zB_209 (mzBlk zB_209 3) [(0, .ref 0), (1, .int a1), (2, .int a2), (3, .int a3), (4, .int v304), (5, .int v305)] [] H297 0 0 (gRi (fun v H' => gI SM H' ∧ JN H' ∧ fZ H' 0 2 = fZ H 0 2 ∧ kpM H H')) := by
          intro N
          induction N with
          | zero => intro v304 v305 bv304 bv305 hmL306; exact absurd hmL306 (Nat.not_lt_zero _)
          | succ N ihL306 =>
            intro v304 v305 bv304 bv305 hmL306
            refine g_iload rfl ?_
            refine g_bipush (by decide) (fun v307 kv307 => ?_)
            refine g_if2_ge (fun c308 => ?_) (fun c308 => ?_)
            · refine g_bipush (by decide) (fun v309 kv309 => ?_)
              exact g_iret ⟨_, rfl, hIH297, (JM_n hJH297), (e301.symm.trans ek0_2), m302⟩
            · refine g_aload_n rfl ?_
              refine g_iload rfl ?_
              refine g_iload_n rfl ?_
              refine g_invvi hIH297 sm_0 rfl rfl rfl rfl (s_186 v305 (by omega) a1 H297 hIH297 hJH297) (fun v312 H310 r311 => ?_)
              obtain ⟨rfl, bv312⟩ := r311
              refine g_if_ne (fun c313 => ?_) (fun c313 => ?_)
              · refine g_iload rfl ?_
                refine g_if_ne (fun c314 => ?_) (fun c314 => ?_)
                · refine g_iinc (l' := (fun v315 => [(0, .ref 0), (1, .int a1), (2, .int a2), (3, .int a3), (4, .int v315), (5, .int v305)])) rfl rfl (by decide) (by have := gz_any v304; omega) (fun _ => rfl) (fun v315 ev315 => ?_)
                  refine g_nop ?_
                  refine g_iinc (l' := (fun v316 => [(0, .ref 0), (1, .int a1), (2, .int a2), (3, .int a3), (4, .int v315), (5, .int v316)])) rfl rfl (by decide) (by omega) (fun _ => rfl) (fun v316 ev316 => ?_)
                  refine g_goto ?_
                  exact ihL306 v315 v316 (by have := gz_any v315; omega) (by omega) (by omega)
                · refine g_iload rfl ?_
                  exact g_iret ⟨_, rfl, hIH297, (JM_n hJH297), (e301.symm.trans ek0_2), m302⟩
              · refine g_goto ?_
                refine g_iinc (l' := (fun v317 => [(0, .ref 0), (1, .int a1), (2, .int a2), (3, .int a3), (4, .int v304), (5, .int v317)])) rfl rfl (by decide) (by omega) (fun _ => rfl) (fun v317 ev317 => ?_)
                refine g_goto ?_
                exact ihL306 v304 v317 (by have := gz_any v304; omega) (by omega) (by omega)
        exact L306 _ a3 v303 (by have := gz_any a3; omega) (by omega) (Nat.lt_succ_self _)
      · refine g_nop ?_
        refine g_iconst (by decide) (fun v318 kv318 => ?_)
        exact g_iret ⟨_, rfl, hIH282, hJH282, (e283.symm.trans ek0_2), m284⟩
set_option maxRecDepth 4000 in
set_option maxHeartbeats 4000000 in
/-- M.there -/
theorem s_211 (a1 : Int32) (a2 : Int32) (a3 : Int32) (H : mzH) (hI : gI SM H) (hJ : JN H) : gCall 211 [.ref 0, .int a1, .int a2, .int a3] H (gRi (fun v H' => gI SM H' ∧ JN H' ∧ fZ H' 0 2 = fZ H 0 2 ∧ kpM H H')) := by
  obtain ⟨k0_2, ek0_2⟩ : ∃ z, z = fZ H 0 2 := ⟨_, rfl⟩
  have ik0_2 : k0_2.toInt = (fZ H 0 2).toInt := by rw [← ek0_2]
  have bk0_2 : 0 ≤ k0_2.toInt ∧ k0_2.toInt ≤ 900 := by rw [ek0_2]; exact fZ_of hI sm_0 rfl
  have mkfr : kpM H H := kpM_r
  refine gG_call [(0, .ref 0), (1, .int a1), (2, .int a2), (3, .int a3)] ⟨rfl, rfl, rfl, rfl, trivial⟩ ?_
  show gG 6 zB_211 (mzBlk zB_211 0) [(0, .ref 0), (1, .int a1), (2, .int a2), (3, .int a3)] [] H 0 0 _
  refine g_aload_n rfl ?_
  refine g_iconst (by decide) (fun v409 kv409 => ?_)
  refine g_pfi hI sm_0 rfl (gz_any _) (fun H410 eH410 hIH410 => ?_)
  have hJH410 : JN H410 := JN_sF eH410 hJ
  have e411 : k0_2 = fZ H410 0 2 := by rw [eH410, fZ_sF_ne (by decide)]; exact ek0_2
  have m412 : kpM H H410 := kpM_F mkfr eH410 (by omega)
  refine g_aload_n rfl ?_
  refine g_iload_n rfl ?_
  refine g_invvi hIH410 sm_0 rfl rfl rfl rfl (s_210 a1 H410 hIH410 hJH410) (fun v415 H413 r414 => ?_)
  obtain ⟨rfl, bv415, p416⟩ := r414
  refine g_if_ne (fun c417 => ?_) (fun c417 => ?_)
  · refine g_iload_n rfl ?_
    refine g_invti rfl rfl rfl (s_206 a2 H410 hIH410 hJH410) (fun v420 H418 r419 => ?_)
    obtain ⟨rfl, bv420⟩ := r419
    refine g_if_eq (fun c421 => ?_) (fun c421 => ?_)
    · refine g_iconst (by decide) (fun v422 kv422 => ?_)
      exact g_iret ⟨_, rfl, hIH410, hJH410, (e411.symm.trans ek0_2), m412⟩
    · refine g_iload_n rfl ?_
      refine g_if_ge (fun c423 => ?_) (fun c423 => ?_)
      · refine g_aload_n rfl ?_
        refine g_iload_n rfl ?_
        refine g_invvv hIH410 sm_0 rfl rfl rfl rfl (s_200 a2 H410 hIH410 hJH410) (fun H424 r425 => ?_)
        obtain ⟨hIH424, hJH424, w426, m427⟩ := r425
        have e428 : k0_2 = fZ H424 0 2 := e411.trans w426.symm
        have m429 : kpM H H424 := kpM_t m412 m427
        refine g_iload_n rfl ?_
        refine g_istore (l' := [(0, .ref 0), (1, .int a1), (2, .int a2), (3, .int a3), (4, .int a3)]) rfl rfl ?_
        refine g_iconst (by decide) (fun v430 kv430 => ?_)
        refine g_istore (l' := [(0, .ref 0), (1, .int a1), (2, .int a2), (3, .int a3), (4, .int a3), (5, .int v430)]) rfl rfl ?_
        refine g_nop ?_
        have L433 : ∀ (N : Nat) (v431 : Int32) (v432 : Int32), (0 ≤ v431.toInt ∧ v431.toInt ≤ 2147483647) → (0 ≤ v432.toInt ∧ v432.toInt ≤ 40) → (40 - v432.toInt).toNat < N → gG 6 zB_211 (mzBlk zB_211 4) [(0, .ref 0), (1, .int a1), (2, .int a2), (3, .int a3), (4, .int v431), (5, .int v432)] [] H424 0 0 (gRi (fun v H' => gI SM H' ∧ JN H' ∧ fZ H' 0 2 = fZ H 0 2 ∧ kpM H H')) := by
          intro N
          induction N with
          | zero => intro v431 v432 bv431 bv432 hmL433; exact absurd hmL433 (Nat.not_lt_zero _)
          | succ N ihL433 =>
            intro v431 v432 bv431 bv432 hmL433
            refine g_iload rfl ?_
            refine g_bipush (by decide) (fun v434 kv434 => ?_)
            refine g_if2_ge (fun c435 => ?_) (fun c435 => ?_)
            · refine g_bipush (by decide) (fun v436 kv436 => ?_)
              exact g_iret ⟨_, rfl, hIH424, (JM_n hJH424), (e428.symm.trans ek0_2), m429⟩
            · refine g_aload_n rfl ?_
              refine g_iload rfl ?_
              refine g_invvi hIH424 sm_0 rfl rfl rfl rfl (s_201 v432 (by omega) H424 hIH424 hJH424) (fun v439 H437 r438 => ?_)
              obtain ⟨rfl, bv439⟩ := r438
              refine g_iload_n rfl ?_
              refine g_if2_eq (fun c440 => ?_) (fun c440 => ?_)
              · refine g_iload rfl ?_
                refine g_if_ne (fun c441 => ?_) (fun c441 => ?_)
                · refine g_iinc (l' := (fun v442 => [(0, .ref 0), (1, .int a1), (2, .int a2), (3, .int a3), (4, .int v442), (5, .int v432)])) rfl rfl (by decide) (by have := gz_any v431; omega) (fun _ => rfl) (fun v442 ev442 => ?_)
                  refine g_nop ?_
                  refine g_iinc (l' := (fun v443 => [(0, .ref 0), (1, .int a1), (2, .int a2), (3, .int a3), (4, .int v442), (5, .int v443)])) rfl rfl (by decide) (by omega) (fun _ => rfl) (fun v443 ev443 => ?_)
                  refine g_goto ?_
                  exact ihL433 v442 v443 (by have := gz_any v442; omega) (by omega) (by omega)
                · refine g_iload rfl ?_
                  exact g_iret ⟨_, rfl, hIH424, (JM_n hJH424), (e428.symm.trans ek0_2), m429⟩
              · refine g_goto ?_
                refine g_iinc (l' := (fun v444 => [(0, .ref 0), (1, .int a1), (2, .int a2), (3, .int a3), (4, .int v431), (5, .int v444)])) rfl rfl (by decide) (by omega) (fun _ => rfl) (fun v444 ev444 => ?_)
                refine g_goto ?_
                exact ihL433 v431 v444 (by have := gz_any v431; omega) (by omega) (by omega)
        exact L433 _ a3 v430 (by have := gz_any a3; omega) (by omega) (Nat.lt_succ_self _)
      · refine g_nop ?_
        refine g_iconst (by decide) (fun v445 kv445 => ?_)
        exact g_iret ⟨_, rfl, hIH410, hJH410, (e411.symm.trans ek0_2), m412⟩
  · refine g_iload_n rfl ?_
    refine g_bipush (by decide) (fun v446 kv446 => ?_)
    refine g_if2_eq (fun c447 => ?_) (fun c447 => ?_)
    · refine g_iload_n rfl ?_
      refine g_invti rfl rfl rfl (s_206 a2 H410 hIH410 hJH410) (fun v450 H448 r449 => ?_)
      obtain ⟨rfl, bv450⟩ := r449
      refine g_if_eq (fun c451 => ?_) (fun c451 => ?_)
      · refine g_iconst (by decide) (fun v452 kv452 => ?_)
        exact g_iret ⟨_, rfl, hIH410, hJH410, (e411.symm.trans ek0_2), m412⟩
      · refine g_iload_n rfl ?_
        refine g_if_ge (fun c453 => ?_) (fun c453 => ?_)
        · refine g_aload_n rfl ?_
          refine g_iload_n rfl ?_
          refine g_invvv hIH410 sm_0 rfl rfl rfl rfl (s_200 a2 H410 hIH410 hJH410) (fun H454 r455 => ?_)
          obtain ⟨hIH454, hJH454, w456, m457⟩ := r455
          have e458 : k0_2 = fZ H454 0 2 := e411.trans w456.symm
          have m459 : kpM H H454 := kpM_t m412 m457
          refine g_iload_n rfl ?_
          refine g_istore (l' := [(0, .ref 0), (1, .int a1), (2, .int a2), (3, .int a3), (4, .int a3)]) rfl rfl ?_
          refine g_iconst (by decide) (fun v460 kv460 => ?_)
          refine g_istore (l' := [(0, .ref 0), (1, .int a1), (2, .int a2), (3, .int a3), (4, .int a3), (5, .int v460)]) rfl rfl ?_
          refine g_nop ?_
          have L463 : ∀ (N : Nat) (v461 : Int32) (v462 : Int32), (0 ≤ v461.toInt ∧ v461.toInt ≤ 2147483647) → (0 ≤ v462.toInt ∧ v462.toInt ≤ 40) → (40 - v462.toInt).toNat < N → gG 6 zB_211 (mzBlk zB_211 4) [(0, .ref 0), (1, .int a1), (2, .int a2), (3, .int a3), (4, .int v461), (5, .int v462)] [] H454 0 0 (gRi (fun v H' => gI SM H' ∧ JN H' ∧ fZ H' 0 2 = fZ H 0 2 ∧ kpM H H')) := by
            intro N
            induction N with
            | zero => intro v461 v462 bv461 bv462 hmL463; exact absurd hmL463 (Nat.not_lt_zero _)
            | succ N ihL463 =>
              intro v461 v462 bv461 bv462 hmL463
              refine g_iload rfl ?_
              refine g_bipush (by decide) (fun v464 kv464 => ?_)
              refine g_if2_ge (fun c465 => ?_) (fun c465 => ?_)
              · refine g_bipush (by decide) (fun v466 kv466 => ?_)
                exact g_iret ⟨_, rfl, hIH454, (JM_n hJH454), (e458.symm.trans ek0_2), m459⟩
              · refine g_aload_n rfl ?_
                refine g_iload rfl ?_
                refine g_invvi hIH454 sm_0 rfl rfl rfl rfl (s_201 v462 (by omega) H454 hIH454 hJH454) (fun v469 H467 r468 => ?_)
                obtain ⟨rfl, bv469⟩ := r468
                refine g_iload_n rfl ?_
                refine g_if2_eq (fun c470 => ?_) (fun c470 => ?_)
                · refine g_iload rfl ?_
                  refine g_if_ne (fun c471 => ?_) (fun c471 => ?_)
                  · refine g_iinc (l' := (fun v472 => [(0, .ref 0), (1, .int a1), (2, .int a2), (3, .int a3), (4, .int v472), (5, .int v462)])) rfl rfl (by decide) (by have := gz_any v461; omega) (fun _ => rfl) (fun v472 ev472 => ?_)
                    refine g_nop ?_
                    refine g_iinc (l' := (fun v473 => [(0, .ref 0), (1, .int a1), (2, .int a2), (3, .int a3), (4, .int v472), (5, .int v473)])) rfl rfl (by decide) (by omega) (fun _ => rfl) (fun v473 ev473 => ?_)
                    refine g_goto ?_
                    exact ihL463 v472 v473 (by have := gz_any v472; omega) (by omega) (by omega)
                  · refine g_iload rfl ?_
                    exact g_iret ⟨_, rfl, hIH454, (JM_n hJH454), (e458.symm.trans ek0_2), m459⟩
                · refine g_goto ?_
                  refine g_iinc (l' := (fun v474 => [(0, .ref 0), (1, .int a1), (2, .int a2), (3, .int a3), (4, .int v461), (5, .int v474)])) rfl rfl (by decide) (by omega) (fun _ => rfl) (fun v474 ev474 => ?_)
                  refine g_goto ?_
                  exact ihL463 v461 v474 (by have := gz_any v461; omega) (by omega) (by omega)
          exact L463 _ a3 v460 (by have := gz_any a3; omega) (by omega) (Nat.lt_succ_self _)
        · refine g_nop ?_
          refine g_iconst (by decide) (fun v475 kv475 => ?_)
          exact g_iret ⟨_, rfl, hIH410, hJH410, (e411.symm.trans ek0_2), m412⟩
    · refine g_iload_n rfl ?_
      refine g_bipush (by decide) (fun v476 kv476 => ?_)
      refine g_if2_ne (fun c477 => ?_) (fun c477 => ?_)
      · refine g_iconst (by decide) (fun v478 kv478 => ?_)
        exact g_iret ⟨_, rfl, hIH410, hJH410, (e411.symm.trans ek0_2), m412⟩
      · refine g_nop ?_
        refine g_iload_n rfl ?_
        refine g_invti rfl rfl rfl (s_206 a2 H410 hIH410 hJH410) (fun v481 H479 r480 => ?_)
        obtain ⟨rfl, bv481⟩ := r480
        refine g_if_eq (fun c482 => ?_) (fun c482 => ?_)
        · refine g_iconst (by decide) (fun v483 kv483 => ?_)
          exact g_iret ⟨_, rfl, hIH410, hJH410, (e411.symm.trans ek0_2), m412⟩
        · refine g_iload_n rfl ?_
          refine g_if_ge (fun c484 => ?_) (fun c484 => ?_)
          · refine g_aload_n rfl ?_
            refine g_iload_n rfl ?_
            refine g_invvv hIH410 sm_0 rfl rfl rfl rfl (s_200 a2 H410 hIH410 hJH410) (fun H485 r486 => ?_)
            obtain ⟨hIH485, hJH485, w487, m488⟩ := r486
            have e489 : k0_2 = fZ H485 0 2 := e411.trans w487.symm
            have m490 : kpM H H485 := kpM_t m412 m488
            refine g_iload_n rfl ?_
            refine g_istore (l' := [(0, .ref 0), (1, .int a1), (2, .int a2), (3, .int a3), (4, .int a3)]) rfl rfl ?_
            refine g_iconst (by decide) (fun v491 kv491 => ?_)
            refine g_istore (l' := [(0, .ref 0), (1, .int a1), (2, .int a2), (3, .int a3), (4, .int a3), (5, .int v491)]) rfl rfl ?_
            refine g_nop ?_
            have L494 : ∀ (N : Nat) (v492 : Int32) (v493 : Int32), (0 ≤ v492.toInt ∧ v492.toInt ≤ 2147483647) → (0 ≤ v493.toInt ∧ v493.toInt ≤ 40) → (40 - v493.toInt).toNat < N → gG 6 zB_211 (mzBlk zB_211 4) [(0, .ref 0), (1, .int a1), (2, .int a2), (3, .int a3), (4, .int v492), (5, .int v493)] [] H485 0 0 (gRi (fun v H' => gI SM H' ∧ JN H' ∧ fZ H' 0 2 = fZ H 0 2 ∧ kpM H H')) := by
              intro N
              induction N with
              | zero => intro v492 v493 bv492 bv493 hmL494; exact absurd hmL494 (Nat.not_lt_zero _)
              | succ N ihL494 =>
                intro v492 v493 bv492 bv493 hmL494
                refine g_iload rfl ?_
                refine g_bipush (by decide) (fun v495 kv495 => ?_)
                refine g_if2_ge (fun c496 => ?_) (fun c496 => ?_)
                · refine g_bipush (by decide) (fun v497 kv497 => ?_)
                  exact g_iret ⟨_, rfl, hIH485, (JM_n hJH485), (e489.symm.trans ek0_2), m490⟩
                · refine g_aload_n rfl ?_
                  refine g_iload rfl ?_
                  refine g_invvi hIH485 sm_0 rfl rfl rfl rfl (s_201 v493 (by omega) H485 hIH485 hJH485) (fun v500 H498 r499 => ?_)
                  obtain ⟨rfl, bv500⟩ := r499
                  refine g_iload_n rfl ?_
                  refine g_if2_eq (fun c501 => ?_) (fun c501 => ?_)
                  · refine g_iload rfl ?_
                    refine g_if_ne (fun c502 => ?_) (fun c502 => ?_)
                    · refine g_iinc (l' := (fun v503 => [(0, .ref 0), (1, .int a1), (2, .int a2), (3, .int a3), (4, .int v503), (5, .int v493)])) rfl rfl (by decide) (by have := gz_any v492; omega) (fun _ => rfl) (fun v503 ev503 => ?_)
                      refine g_nop ?_
                      refine g_iinc (l' := (fun v504 => [(0, .ref 0), (1, .int a1), (2, .int a2), (3, .int a3), (4, .int v503), (5, .int v504)])) rfl rfl (by decide) (by omega) (fun _ => rfl) (fun v504 ev504 => ?_)
                      refine g_goto ?_
                      exact ihL494 v503 v504 (by have := gz_any v503; omega) (by omega) (by omega)
                    · refine g_iload rfl ?_
                      exact g_iret ⟨_, rfl, hIH485, (JM_n hJH485), (e489.symm.trans ek0_2), m490⟩
                  · refine g_goto ?_
                    refine g_iinc (l' := (fun v505 => [(0, .ref 0), (1, .int a1), (2, .int a2), (3, .int a3), (4, .int v492), (5, .int v505)])) rfl rfl (by decide) (by omega) (fun _ => rfl) (fun v505 ev505 => ?_)
                    refine g_goto ?_
                    exact ihL494 v492 v505 (by have := gz_any v492; omega) (by omega) (by omega)
            exact L494 _ a3 v491 (by have := gz_any a3; omega) (by omega) (Nat.lt_succ_self _)
          · refine g_nop ?_
            refine g_iconst (by decide) (fun v506 kv506 => ?_)
            exact g_iret ⟨_, rfl, hIH410, hJH410, (e411.symm.trans ek0_2), m412⟩
set_option maxRecDepth 4000 in
set_option maxHeartbeats 4000000 in
/-- M.isSo -/
theorem s_212 (a1 : Int32) (ha1 : 0 ≤ a1.toInt ∧ a1.toInt ≤ 39) (a2 : Int32) (H : mzH) (hI : gI SM H) (hJ : JM H) : gCall 212 [.ref 0, .int a1, .int a2] H (gRi (fun v H' => H = H' ∧ (0 ≤ v.toInt ∧ v.toInt ≤ 1))) := by
  refine gG_call [(0, .ref 0), (1, .int a1), (2, .int a2)] ⟨rfl, rfl, rfl, trivial⟩ ?_
  show gG 3 zB_212 (mzBlk zB_212 0) [(0, .ref 0), (1, .int a1), (2, .int a2)] [] H 0 0 _
  refine g_iload_n rfl ?_
  refine g_sw (by decide) (fun c93 => ?_) ⟨fun c93 => ?_, fun c93 => ?_, fun c93 => ?_, fun c93 => ?_, fun c93 => ?_, trivial⟩
  · refine g_aload_n rfl ?_
    refine g_gfr hI sm_0 rfl ?_
    refine g_iload_n rfl ?_
    refine g_baload hI sm_13 rfl (by omega) (fun v94 ev94 lv94 uv94 => ?_)
    exact g_zret (by omega) ⟨_, rfl, rfl, (by omega)⟩
  · refine g_aload_n rfl ?_
    refine g_gfr hI sm_0 rfl ?_
    refine g_iload_n rfl ?_
    refine g_baload hI sm_7 rfl (by omega) (fun v95 ev95 lv95 uv95 => ?_)
    exact g_zret (by omega) ⟨_, rfl, rfl, (by omega)⟩
  · refine g_aload_n rfl ?_
    refine g_iload_n rfl ?_
    refine g_invvi hI sm_0 rfl rfl rfl rfl (s_201 a1 (by omega) H hI hJ) (fun v98 H96 r97 => ?_)
    obtain ⟨rfl, bv98⟩ := r97
    refine g_bipush (by decide) (fun v99 kv99 => ?_)
    refine g_if2_ne (fun c100 => ?_) (fun c100 => ?_)
    · refine g_iconst (by decide) (fun v101 kv101 => ?_)
      refine g_nop ?_
      exact g_zret (by omega) ⟨_, rfl, rfl, (by omega)⟩
    · refine g_iconst (by decide) (fun v102 kv102 => ?_)
      refine g_goto ?_
      exact g_zret (by omega) ⟨_, rfl, rfl, (by omega)⟩
  · refine g_aload_n rfl ?_
    refine g_gfr hI sm_0 rfl ?_
    refine g_iload_n rfl ?_
    refine g_baload hI sm_16 rfl (by omega) (fun v103 ev103 lv103 uv103 => ?_)
    exact g_zret (by omega) ⟨_, rfl, rfl, (by omega)⟩
  · refine g_aload_n rfl ?_
    refine g_gfr hI sm_0 rfl ?_
    refine g_iload_n rfl ?_
    refine g_baload hI sm_14 rfl (by omega) (fun v104 ev104 lv104 uv104 => ?_)
    exact g_zret (by omega) ⟨_, rfl, rfl, (by omega)⟩
  · refine g_aload_n rfl ?_
    refine g_gfr hI sm_0 rfl ?_
    refine g_iload_n rfl ?_
    refine g_baload hI sm_7 rfl (by omega) (fun v105 ev105 lv105 uv105 => ?_)
    refine g_if_eq (fun c106 => ?_) (fun c106 => ?_)
    · refine g_iconst (by decide) (fun v107 kv107 => ?_)
      refine g_nop ?_
      exact g_zret (by omega) ⟨_, rfl, rfl, (by omega)⟩
    · refine g_aload_n rfl ?_
      refine g_gfr hI sm_0 rfl ?_
      refine g_iload_n rfl ?_
      refine g_baload hI sm_16 rfl (by omega) (fun v108 ev108 lv108 uv108 => ?_)
      refine g_if_ne (fun c109 => ?_) (fun c109 => ?_)
      · refine g_iconst (by decide) (fun v110 kv110 => ?_)
        refine g_nop ?_
        exact g_zret (by omega) ⟨_, rfl, rfl, (by omega)⟩
      · refine g_aload_n rfl ?_
        refine g_gfr hI sm_0 rfl ?_
        refine g_iload_n rfl ?_
        refine g_iaload hI sm_9 rfl (by omega) (fun v111 ev111 lv111 uv111 => ?_)
        have qv111 := JM_in hJ (by omega) ev111
        refine g_bipush (by decide) (fun v112 kv112 => ?_)
        refine g_if2_ne (fun c113 => ?_) (fun c113 => ?_)
        · refine g_iconst (by decide) (fun v114 kv114 => ?_)
          refine g_nop ?_
          exact g_zret (by omega) ⟨_, rfl, rfl, (by omega)⟩
        · refine g_iconst (by decide) (fun v115 kv115 => ?_)
          refine g_goto ?_
          exact g_zret (by omega) ⟨_, rfl, rfl, (by omega)⟩
set_option maxRecDepth 4000 in
set_option maxHeartbeats 4000000 in
/-- M.many -/
theorem s_213 (a1 : Int32) (a2 : Int32) (H : mzH) (hI : gI SM H) (hJ : JN H) : gCall 213 [.ref 0, .int a1, .int a2] H (gRi (fun v H' => gI SM H' ∧ JN H' ∧ fZ H' 0 2 = fZ H 0 2 ∧ kpM H H')) := by
  obtain ⟨k0_2, ek0_2⟩ : ∃ z, z = fZ H 0 2 := ⟨_, rfl⟩
  have ik0_2 : k0_2.toInt = (fZ H 0 2).toInt := by rw [← ek0_2]
  have bk0_2 : 0 ≤ k0_2.toInt ∧ k0_2.toInt ≤ 900 := by rw [ek0_2]; exact fZ_of hI sm_0 rfl
  have mkfr : kpM H H := kpM_r
  refine gG_call [(0, .ref 0), (1, .int a1), (2, .int a2)] ⟨rfl, rfl, rfl, trivial⟩ ?_
  show gG 5 zB_213 (mzBlk zB_213 0) [(0, .ref 0), (1, .int a1), (2, .int a2)] [] H 0 0 _
  refine g_aload_n rfl ?_
  refine g_iconst (by decide) (fun v569 kv569 => ?_)
  refine g_pfi hI sm_0 rfl (gz_any _) (fun H570 eH570 hIH570 => ?_)
  have hJH570 : JN H570 := JN_sF eH570 hJ
  have e571 : k0_2 = fZ H570 0 2 := by rw [eH570, fZ_sF_ne (by decide)]; exact ek0_2
  have m572 : kpM H H570 := kpM_F mkfr eH570 (by omega)
  refine g_iload_n rfl ?_
  refine g_invti rfl rfl rfl (s_206 a1 H570 hIH570 hJH570) (fun v575 H573 r574 => ?_)
  obtain ⟨rfl, bv575⟩ := r574
  refine g_if_eq (fun c576 => ?_) (fun c576 => ?_)
  · refine g_iconst (by decide) (fun v577 kv577 => ?_)
    exact g_iret ⟨_, rfl, hIH570, hJH570, (e571.symm.trans ek0_2), m572⟩
  · refine g_iload_n rfl ?_
    refine g_if_lt (fun c578 => ?_) (fun c578 => ?_)
    · refine g_iconst (by decide) (fun v579 kv579 => ?_)
      exact g_iret ⟨_, rfl, hIH570, hJH570, (e571.symm.trans ek0_2), m572⟩
    · refine g_iload_n rfl ?_
      refine g_iconst (by decide) (fun v580 kv580 => ?_)
      refine g_if2_le (fun c581 => ?_) (fun c581 => ?_)
      · refine g_aload_n rfl ?_
        refine g_iload_n rfl ?_
        refine g_invvv hIH570 sm_0 rfl rfl rfl rfl (s_200 a1 H570 hIH570 hJH570) (fun H582 r583 => ?_)
        obtain ⟨hIH582, hJH582, w584, m585⟩ := r583
        have e586 : k0_2 = fZ H582 0 2 := e571.trans w584.symm
        have m587 : kpM H H582 := kpM_t m572 m585
        refine g_iconst (by decide) (fun v588 kv588 => ?_)
        refine g_istore_n (l' := [(0, .ref 0), (1, .int a1), (2, .int a2), (3, .int v588)]) rfl rfl ?_
        refine g_iconst (by decide) (fun v589 kv589 => ?_)
        refine g_istore (l' := [(0, .ref 0), (1, .int a1), (2, .int a2), (3, .int v588), (4, .int v589)]) rfl rfl ?_
        refine g_nop ?_
        have L592 : ∀ (N : Nat) (v590 : Int32) (v591 : Int32), (0 ≤ v591.toInt ∧ v591.toInt ≤ 40) → (40 - v591.toInt).toNat < N → gG 5 zB_213 (mzBlk zB_213 3) [(0, .ref 0), (1, .int a1), (2, .int a2), (3, .int v590), (4, .int v591)] [] H582 0 0 (gRi (fun v H' => gI SM H' ∧ JN H' ∧ fZ H' 0 2 = fZ H 0 2 ∧ kpM H H')) := by
          intro N
          induction N with
          | zero => intro v590 v591 bv591 hmL592; exact absurd hmL592 (Nat.not_lt_zero _)
          | succ N ihL592 =>
            intro v590 v591 bv591 hmL592
            refine g_iload rfl ?_
            refine g_bipush (by decide) (fun v593 kv593 => ?_)
            refine g_if2_ge (fun c594 => ?_) (fun c594 => ?_)
            · refine g_iload_n rfl ?_
              exact g_iret ⟨_, rfl, hIH582, (JM_n hJH582), (e586.symm.trans ek0_2), m587⟩
            · refine g_iload_n rfl ?_
              refine g_aload_n rfl ?_
              refine g_iload rfl ?_
              refine g_iload_n rfl ?_
              refine g_invvi hIH582 sm_0 rfl rfl rfl rfl (s_212 v591 (by omega) a2 H582 hIH582 hJH582) (fun v597 H595 r596 => ?_)
              obtain ⟨rfl, bv597⟩ := r596
              refine g_if_eq (fun c598 => ?_) (fun c598 => ?_)
              · refine g_iconst (by decide) (fun v599 kv599 => ?_)
                refine g_nop ?_
                refine g_iadd (by have := gz_any v590; omega) (fun v600 ev600 => ?_)
                refine g_istore_n (l' := [(0, .ref 0), (1, .int a1), (2, .int a2), (3, .int v600), (4, .int v591)]) rfl rfl ?_
                refine g_iinc (l' := (fun v601 => [(0, .ref 0), (1, .int a1), (2, .int a2), (3, .int v600), (4, .int v601)])) rfl rfl (by decide) (by omega) (fun _ => rfl) (fun v601 ev601 => ?_)
                refine g_goto ?_
                exact ihL592 v600 v601 (by omega) (by omega)
              · refine g_iconst (by decide) (fun v602 kv602 => ?_)
                refine g_goto ?_
                refine g_iadd' (fun v603 ov603 => ?_)
                refine g_istore_n (l' := [(0, .ref 0), (1, .int a1), (2, .int a2), (3, .int v603), (4, .int v591)]) rfl rfl ?_
                refine g_iinc (l' := (fun v604 => [(0, .ref 0), (1, .int a1), (2, .int a2), (3, .int v603), (4, .int v604)])) rfl rfl (by decide) (by omega) (fun _ => rfl) (fun v604 ev604 => ?_)
                refine g_goto ?_
                exact ihL592 v603 v604 (by omega) (by omega)
        exact L592 _ v588 v589 (by omega) (Nat.lt_succ_self _)
      · refine g_nop ?_
        refine g_iconst (by decide) (fun v605 kv605 => ?_)
        exact g_iret ⟨_, rfl, hIH570, hJH570, (e571.symm.trans ek0_2), m572⟩
set_option maxRecDepth 4000 in
set_option maxHeartbeats 4000000 in
/-- M.laysTrail -/
theorem s_214 (a1 : Int32) (ha1 : 0 ≤ a1.toInt ∧ a1.toInt ≤ 39) (H : mzH) (hI : gI SM H) (hJ : JN H) : gCall 214 [.ref 0, .int a1] H (gRv (fun H' => gI SM H' ∧ JM H' ∧ fZ H' 0 2 = fZ H 0 2 ∧ kpM H H')) := by
  obtain ⟨k0_2, ek0_2⟩ : ∃ z, z = fZ H 0 2 := ⟨_, rfl⟩
  have ik0_2 : k0_2.toInt = (fZ H 0 2).toInt := by rw [← ek0_2]
  have bk0_2 : 0 ≤ k0_2.toInt ∧ k0_2.toInt ≤ 900 := by rw [ek0_2]; exact fZ_of hI sm_0 rfl
  have mkfr : kpM H H := kpM_r
  refine gG_call [(0, .ref 0), (1, .int a1)] ⟨rfl, rfl, trivial⟩ ?_
  show gG 5 zB_214 (mzBlk zB_214 0) [(0, .ref 0), (1, .int a1)] [] H 0 0 _
  refine g_aload_n rfl ?_
  refine g_invvv hI sm_0 rfl rfl rfl rfl (s_182 H hI hJ) (fun H599 r600 => ?_)
  obtain ⟨hIH599, hJH599, m601, m602, m603, p604⟩ := r600
  have e605 : k0_2 = fZ H599 0 2 := ek0_2.trans (m601 0 2).symm
  have im601_0_39 : (fZ H599 0 39).toInt = (fZ H 0 39).toInt := by rw [m601]
  have m606 : kpM H H599 := kpM_t mkfr m603
  refine g_aload_n rfl ?_
  refine g_invvv hIH599 sm_0 rfl rfl rfl rfl (s_184 H599 hIH599 hJH599) (fun H607 r608 => ?_)
  obtain ⟨hIH607, hJH607, w609, w610, w611, w612, m613, m614, m615, p616⟩ := r608
  have e617 : k0_2 = fZ H607 0 2 := e605.trans w609.symm
  have m618 : kpM H H607 := kpM_t m606 m615
  refine g_aload_n rfl ?_
  refine g_iconst (by decide) (fun v619 kv619 => ?_)
  refine g_pfi hIH607 sm_0 rfl (by omega) (fun H620 eH620 hIH620 => ?_)
  have hJH620 : JM H620 := JM_sF eH620 hJH607
  have e621 : k0_2 = fZ H620 0 2 := by rw [eH620, fZ_sF_ne (by decide)]; exact e617
  have e622 : v619 = fZ H620 0 39 := by rw [eH620, fZ_sF_eq hIH607 sm_0 rfl]
  have m623 : kpM H H620 := kpM_F m618 eH620 (by omega)
  have ie622 : v619.toInt = (fZ H620 0 39).toInt := by rw [← e622]
  refine g_bipush (by decide) (fun v624 kv624 => ?_)
  refine g_istore_n (l' := [(0, .ref 0), (1, .int a1), (2, .int v624)]) rfl rfl ?_
  refine g_iconst (by decide) (fun v625 kv625 => ?_)
  refine g_istore_n (l' := [(0, .ref 0), (1, .int a1), (2, .int v624), (3, .int v625)]) rfl rfl ?_
  refine g_nop ?_
  have L631 : ∀ (N : Nat) (v626 : Int32) (v627 : Int32) (H628 : mzH), gI SM H628 → JM H628 → k0_2 = fZ H628 0 2 → kpM H H628 → (-4 ≤ v626.toInt ∧ v626.toInt ≤ 7) → (0 ≤ v627.toInt ∧ v627.toInt ≤ 60) → (fZ H628 0 39).toInt ≤ v627.toInt → (60 - v627.toInt).toNat < N → gG 5 zB_214 (mzBlk zB_214 1) [(0, .ref 0), (1, .int a1), (2, .int v626), (3, .int v627)] [] H628 0 0 (gRv (fun H' => gI SM H' ∧ JM H' ∧ fZ H' 0 2 = fZ H 0 2 ∧ kpM H H')) := by
    intro N
    induction N with
    | zero => intro v626 v627 H628 hIH628 hJH628 e629 m630 bv626 bv627 q1 hmL631; exact absurd hmL631 (Nat.not_lt_zero _)
    | succ N ihL631 =>
      intro v626 v627 H628 hIH628 hJH628 e629 m630 bv626 bv627 q1 hmL631
      obtain ⟨k632, ek632⟩ : ∃ z, z = fZ H628 0 39 := ⟨_, rfl⟩
      have ik632 : k632.toInt = (fZ H628 0 39).toInt := by rw [← ek632]
      have bk632 : 0 ≤ k632.toInt ∧ k632.toInt ≤ 60 := by rw [ek632]; exact fZ_of hIH628 sm_0 rfl
      refine g_iload_n rfl ?_
      refine g_aload_n rfl ?_
      refine g_gfi hIH628 sm_0 rfl (fun v633 ev633 lv633 uv633 => ?_)
      refine g_if2_ge (fun c634 => ?_) (fun c634 => ?_)
      · exact g_ret ⟨rfl, hIH628, hJH628, (e629.symm.trans ek0_2), m630⟩
      · refine g_aload_n rfl ?_
        refine g_aload_n rfl ?_
        refine g_gfr hIH628 sm_0 rfl ?_
        refine g_iload_n rfl ?_
        refine g_iaload hIH628 sm_19 rfl (by omega) (fun v635 ev635 lv635 uv635 => ?_)
        refine g_invvv hIH628 sm_0 rfl rfl rfl rfl (s_192 v635 (by omega) H628 hIH628 hJH628) (fun H636 r637 => ?_)
        obtain ⟨hIH636, hJH636, m638, m639, m640, m641, m642⟩ := r637
        have e643 : k0_2 = fZ H636 0 2 := e629.trans (m638 0 2).symm
        have e644 : k632 = fZ H636 0 39 := ek632.trans (m638 0 39).symm
        have m645 : kpM H H636 := kpM_t m630 m642
        have ie644 : k632.toInt = (fZ H636 0 39).toInt := by rw [← e644]
        refine g_aload_n rfl ?_
        refine g_iload_n rfl ?_
        refine g_invvi hIH636 sm_0 rfl rfl rfl rfl (s_201 a1 (by omega) H636 hIH636 hJH636) (fun v648 H646 r647 => ?_)
        obtain ⟨rfl, bv648⟩ := r647
        refine g_istore (l' := [(0, .ref 0), (1, .int a1), (2, .int v626), (3, .int v627), (4, .int v648)]) rfl rfl ?_
        refine g_iload rfl ?_
        refine g_iload_n rfl ?_
        refine g_if2_ne (fun c649 => ?_) (fun c649 => ?_)
        · refine g_aload_n rfl ?_
          refine g_gfr hIH636 sm_0 rfl ?_
          refine g_aload_n rfl ?_
          refine g_gfk hIH636 sm_0 rfl e644 ?_
          refine g_iload rfl ?_
          refine g_iastore hIH636 sm_22 (by omega) (by omega) (fun H650 eH650 hIH650 => ?_)
          have hJH650 : JM H650 := JM_sA (by decide) eH650 hJH636
          have e651 : k0_2 = fZ H650 0 2 := by rw [eH650, fZ_sA]; exact e643
          have e652 : k632 = fZ H650 0 39 := by rw [eH650, fZ_sA]; exact e644
          have m653 : kpM H H650 := kpM_A m645 eH650 (by omega)
          have ie652 : k632.toInt = (fZ H650 0 39).toInt := by rw [← e652]
          refine g_aload_n rfl ?_
          refine g_gfr hIH650 sm_0 rfl ?_
          refine g_aload_n rfl ?_
          refine g_gfk hIH650 sm_0 rfl e652 ?_
          refine g_aload_n rfl ?_
          refine g_gfr hIH650 sm_0 rfl ?_
          refine g_aload_n rfl ?_
          refine g_gfr hIH650 sm_0 rfl ?_
          refine g_iload_n rfl ?_
          refine g_iaload hIH650 sm_19 rfl (by omega) (fun v654 ev654 lv654 uv654 => ?_)
          refine g_iaload hIH650 sm_18 rfl (by omega) (fun v655 ev655 lv655 uv655 => ?_)
          refine g_iastore hIH650 sm_23 (by omega) (gz_any _) (fun H656 eH656 hIH656 => ?_)
          have hJH656 : JM H656 := JM_sA (by decide) eH656 hJH650
          have e657 : k0_2 = fZ H656 0 2 := by rw [eH656, fZ_sA]; exact e651
          have e658 : k632 = fZ H656 0 39 := by rw [eH656, fZ_sA]; exact e652
          have m659 : kpM H H656 := kpM_A m653 eH656 (by omega)
          have ie658 : k632.toInt = (fZ H656 0 39).toInt := by rw [← e658]
          refine g_aload_n rfl ?_
          refine g_dup rfl ?_
          refine g_gfk hIH656 sm_0 rfl e658 ?_
          refine g_iconst (by decide) (fun v660 kv660 => ?_)
          refine g_iadd (by omega) (fun v661 ev661 => ?_)
          refine g_pfi hIH656 sm_0 rfl (by omega) (fun H662 eH662 hIH662 => ?_)
          have hJH662 : JM H662 := JM_sF eH662 hJH656
          have e663 : k0_2 = fZ H662 0 2 := by rw [eH662, fZ_sF_ne (by decide)]; exact e657
          have e664 : v661 = fZ H662 0 39 := by rw [eH662, fZ_sF_eq hIH656 sm_0 rfl]
          have m665 : kpM H H662 := kpM_F m659 eH662 (by omega)
          have ie664 : v661.toInt = (fZ H662 0 39).toInt := by rw [← e664]
          refine g_iload rfl ?_
          refine g_istore_n (l' := [(0, .ref 0), (1, .int a1), (2, .int v648), (3, .int v627), (4, .int v648)]) rfl rfl ?_
          refine g_nop ?_
          refine g_iinc (l' := (fun v666 => [(0, .ref 0), (1, .int a1), (2, .int v648), (3, .int v666), (4, .int v648)])) rfl rfl (by decide) (by omega) (fun _ => rfl) (fun v666 ev666 => ?_)
          refine g_goto ?_
          refine gG_pick [0, 1, 2, 3] (l' := [(0, .ref 0), (1, .int a1), (2, .int v648), (3, .int v666)]) rfl ?_
          exact ihL631 v648 v666 H662 hIH662 hJH662 e663 m665 (by omega) (by omega) (by omega) (by omega)
        · refine g_goto ?_
          refine g_iinc (l' := (fun v667 => [(0, .ref 0), (1, .int a1), (2, .int v626), (3, .int v667), (4, .int v648)])) rfl rfl (by decide) (by omega) (fun _ => rfl) (fun v667 ev667 => ?_)
          refine g_goto ?_
          refine gG_pick [0, 1, 2, 3] (l' := [(0, .ref 0), (1, .int a1), (2, .int v626), (3, .int v667)]) rfl ?_
          exact ihL631 v626 v667 H636 hIH636 hJH636 e643 m645 (by omega) (by omega) (by omega) (by omega)
  exact L631 _ v624 v625 H620 hIH620 hJH620 e621 m623 (by omega) (by omega) (by omega) (Nat.lt_succ_self _)
set_option maxRecDepth 4000 in
set_option maxHeartbeats 4000000 in
/-- M.trail -/
theorem s_215 (a1 : Int32) (a2 : Int32) (a3 : Int32) (H : mzH) (hI : gI SM H) (hJ : JN H) : gCall 215 [.ref 0, .int a1, .int a2, .int a3] H (gRi (fun v H' => gI SM H' ∧ JN H' ∧ fZ H' 0 2 = fZ H 0 2 ∧ kpM H H')) := by
  obtain ⟨k0_2, ek0_2⟩ : ∃ z, z = fZ H 0 2 := ⟨_, rfl⟩
  have ik0_2 : k0_2.toInt = (fZ H 0 2).toInt := by rw [← ek0_2]
  have bk0_2 : 0 ≤ k0_2.toInt ∧ k0_2.toInt ≤ 900 := by rw [ek0_2]; exact fZ_of hI sm_0 rfl
  have mkfr : kpM H H := kpM_r
  refine gG_call [(0, .ref 0), (1, .int a1), (2, .int a2), (3, .int a3)] ⟨rfl, rfl, rfl, rfl, trivial⟩ ?_
  show gG 4 zB_215 (mzBlk zB_215 0) [(0, .ref 0), (1, .int a1), (2, .int a2), (3, .int a3)] [] H 0 0 _
  refine g_aload_n rfl ?_
  refine g_iconst (by decide) (fun v117 kv117 => ?_)
  refine g_pfi hI sm_0 rfl (gz_any _) (fun H118 eH118 hIH118 => ?_)
  have hJH118 : JN H118 := JN_sF eH118 hJ
  have e119 : k0_2 = fZ H118 0 2 := by rw [eH118, fZ_sF_ne (by decide)]; exact ek0_2
  have m120 : kpM H H118 := kpM_F mkfr eH118 (by omega)
  refine g_iload_n rfl ?_
  refine g_invti rfl rfl rfl (s_205 a1 H118 hIH118 hJH118) (fun v123 H121 r122 => ?_)
  obtain ⟨rfl, bv123, p124⟩ := r122
  refine g_if_eq (fun c125 => ?_) (fun c125 => ?_)
  · refine g_bipush (by decide) (fun v126 kv126 => ?_)
    exact g_iret ⟨_, rfl, hIH118, hJH118, (e119.symm.trans ek0_2), m120⟩
  · refine g_iload_n rfl ?_
    refine g_if_lt (fun c127 => ?_) (fun c127 => ?_)
    · refine g_bipush (by decide) (fun v128 kv128 => ?_)
      exact g_iret ⟨_, rfl, hIH118, hJH118, (e119.symm.trans ek0_2), m120⟩
    · refine g_iload_n rfl ?_
      refine g_if_lt (fun c129 => ?_) (fun c129 => ?_)
      · refine g_bipush (by decide) (fun v130 kv130 => ?_)
        exact g_iret ⟨_, rfl, hIH118, hJH118, (e119.symm.trans ek0_2), m120⟩
      · refine g_iload_n rfl ?_
        refine g_iconst (by decide) (fun v131 kv131 => ?_)
        refine g_if2_le (fun c132 => ?_) (fun c132 => ?_)
        · refine g_aload_n rfl ?_
          refine g_iload_n rfl ?_
          refine g_invvv hIH118 sm_0 rfl rfl rfl rfl (s_214 a1 (by omega) H118 hIH118 hJH118) (fun H133 r134 => ?_)
          obtain ⟨hIH133, hJH133, w135, m136⟩ := r134
          have e137 : k0_2 = fZ H133 0 2 := e119.trans w135.symm
          have m138 : kpM H H133 := kpM_t m120 m136
          refine g_iload_n rfl ?_
          refine g_aload_n rfl ?_
          refine g_gfi hIH133 sm_0 rfl (fun v139 ev139 lv139 uv139 => ?_)
          refine g_if2_ge (fun c140 => ?_) (fun c140 => ?_)
          · refine g_bipush (by decide) (fun v141 kv141 => ?_)
            refine g_nop ?_
            exact g_iret ⟨_, rfl, hIH133, (JM_n hJH133), (e137.symm.trans ek0_2), m138⟩
          · refine g_iload_n rfl ?_
            refine g_if_ne (fun c142 => ?_) (fun c142 => ?_)
            · refine g_aload_n rfl ?_
              refine g_gfr hIH133 sm_0 rfl ?_
              refine g_iload_n rfl ?_
              refine g_iaload hIH133 sm_23 rfl (by omega) (fun v143 ev143 lv143 uv143 => ?_)
              refine g_goto ?_
              exact g_iret ⟨_, rfl, hIH133, (JM_n hJH133), (e137.symm.trans ek0_2), m138⟩
            · refine g_aload_n rfl ?_
              refine g_gfr hIH133 sm_0 rfl ?_
              refine g_iload_n rfl ?_
              refine g_iaload hIH133 sm_22 rfl (by omega) (fun v144 ev144 lv144 uv144 => ?_)
              refine g_goto ?_
              exact g_iret ⟨_, rfl, hIH133, (JM_n hJH133), (e137.symm.trans ek0_2), m138⟩
        · refine g_nop ?_
          refine g_bipush (by decide) (fun v145 kv145 => ?_)
          exact g_iret ⟨_, rfl, hIH118, hJH118, (e119.symm.trans ek0_2), m120⟩
set_option maxRecDepth 4000 in
set_option maxHeartbeats 4000000 in
/-- M.latest -/
theorem s_216 (H : mzH) (hI : gI SM H) (hJ : JN H) : gCall 216 [.ref 0] H (gRi (fun v H' => H = H')) := by
  refine gG_call [(0, .ref 0)] ⟨rfl, trivial⟩ ?_
  show gG 3 zB_216 (mzBlk zB_216 0) [(0, .ref 0)] [] H 0 0 _
  refine g_iconst (by decide) (fun v289 kv289 => ?_)
  refine g_istore_n (l' := [(0, .ref 0), (1, .int v289)]) rfl rfl ?_
  refine g_iconst (by decide) (fun v290 kv290 => ?_)
  refine g_istore_n (l' := [(0, .ref 0), (1, .int v289), (2, .int v290)]) rfl rfl ?_
  refine g_nop ?_
  have L293 : ∀ (N : Nat) (v291 : Int32) (v292 : Int32), (0 ≤ v292.toInt ∧ v292.toInt ≤ 60) → (60 - v292.toInt).toNat < N → gG 3 zB_216 (mzBlk zB_216 1) [(0, .ref 0), (1, .int v291), (2, .int v292)] [] H 0 0 (gRi (fun v H' => H = H')) := by
    intro N
    induction N with
    | zero => intro v291 v292 bv292 hmL293; exact absurd hmL293 (Nat.not_lt_zero _)
    | succ N ihL293 =>
      intro v291 v292 bv292 hmL293
      refine g_iload_n rfl ?_
      refine g_aload_n rfl ?_
      refine g_invvi hI sm_0 rfl rfl rfl rfl (s_180 H hI hJ) (fun v296 H294 r295 => ?_)
      obtain ⟨rfl, bv296, p297⟩ := r295
      refine g_if2_ge (fun c298 => ?_) (fun c298 => ?_)
      · refine g_iload_n rfl ?_
        exact g_iret ⟨_, rfl, rfl⟩
      · refine g_aload_n rfl ?_
        refine g_iload_n rfl ?_
        refine g_iconst (by decide) (fun v299 kv299 => ?_)
        refine g_invvi hI sm_0 rfl rfl rfl rfl (s_181 v292 (by omega) v299 (by omega) H hI hJ) (fun v302 H300 r301 => ?_)
        obtain ⟨rfl, p303⟩ := r301
        have tv302 : v302 = aZ H 2 (69 + 5 * v292.toInt + 0).toNat := by rw [p303, kv299]
        refine g_iload_n rfl ?_
        refine g_if2_le (fun c304 => ?_) (fun c304 => ?_)
        · refine g_iload_n rfl ?_
          refine g_nop ?_
          refine g_istore_n (l' := [(0, .ref 0), (1, .int v291), (2, .int v292)]) rfl rfl ?_
          refine g_iinc (l' := (fun v305 => [(0, .ref 0), (1, .int v291), (2, .int v305)])) rfl rfl (by decide) (by omega) (fun _ => rfl) (fun v305 ev305 => ?_)
          refine g_goto ?_
          exact ihL293 v291 v305 (by omega) (by omega)
        · refine g_aload_n rfl ?_
          refine g_iload_n rfl ?_
          refine g_iconst (by decide) (fun v306 kv306 => ?_)
          refine g_invvi hI sm_0 rfl rfl rfl rfl (s_181 v292 (by omega) v306 (by omega) H hI hJ) (fun v309 H307 r308 => ?_)
          obtain ⟨rfl, p310⟩ := r308
          have tv309 : v309 = aZ H 2 (69 + 5 * v292.toInt + 0).toNat := by rw [p310, kv306]
          refine g_goto ?_
          refine g_istore_n (l' := [(0, .ref 0), (1, .int v309), (2, .int v292)]) rfl rfl ?_
          refine g_iinc (l' := (fun v311 => [(0, .ref 0), (1, .int v309), (2, .int v311)])) rfl rfl (by decide) (by omega) (fun _ => rfl) (fun v311 ev311 => ?_)
          refine g_goto ?_
          exact ihL293 v309 v311 (by omega) (by omega)
  exact L293 _ v289 v290 (by omega) (Nat.lt_succ_self _)
set_option maxRecDepth 4000 in
set_option maxHeartbeats 4000000 in
/-- M.dwelt -/
theorem s_217 (a1 : Int32) (a2 : Int32) (H : mzH) (hI : gI SM H) (hJ : JN H) : gCall 217 [.ref 0, .int a1, .int a2] H (gRi (fun v H' => gI SM H' ∧ JN H' ∧ fZ H' 0 2 = fZ H 0 2 ∧ kpM H H')) := by
  obtain ⟨k0_2, ek0_2⟩ : ∃ z, z = fZ H 0 2 := ⟨_, rfl⟩
  have ik0_2 : k0_2.toInt = (fZ H 0 2).toInt := by rw [← ek0_2]
  have bk0_2 : 0 ≤ k0_2.toInt ∧ k0_2.toInt ≤ 900 := by rw [ek0_2]; exact fZ_of hI sm_0 rfl
  have mkfr : kpM H H := kpM_r
  refine gG_call [(0, .ref 0), (1, .int a1), (2, .int a2)] ⟨rfl, rfl, rfl, trivial⟩ ?_
  show gG 5 zB_217 (mzBlk zB_217 0) [(0, .ref 0), (1, .int a1), (2, .int a2)] [] H 0 0 _
  refine g_aload_n rfl ?_
  refine g_iconst (by decide) (fun v515 kv515 => ?_)
  refine g_pfi hI sm_0 rfl (gz_any _) (fun H516 eH516 hIH516 => ?_)
  have hJH516 : JN H516 := JN_sF eH516 hJ
  have e517 : k0_2 = fZ H516 0 2 := by rw [eH516, fZ_sF_ne (by decide)]; exact ek0_2
  have m518 : kpM H H516 := kpM_F mkfr eH516 (by omega)
  refine g_iload_n rfl ?_
  refine g_invti rfl rfl rfl (s_205 a1 H516 hIH516 hJH516) (fun v521 H519 r520 => ?_)
  obtain ⟨rfl, bv521, p522⟩ := r520
  refine g_if_eq (fun c523 => ?_) (fun c523 => ?_)
  · refine g_iconst (by decide) (fun v524 kv524 => ?_)
    exact g_iret ⟨_, rfl, hIH516, hJH516, (e517.symm.trans ek0_2), m518⟩
  · refine g_aload_n rfl ?_
    refine g_iload_n rfl ?_
    refine g_invvi hIH516 sm_0 rfl rfl rfl rfl (s_210 a2 H516 hIH516 hJH516) (fun v527 H525 r526 => ?_)
    obtain ⟨rfl, bv527, p528⟩ := r526
    refine g_if_ne (fun c529 => ?_) (fun c529 => ?_)
    · refine g_aload_n rfl ?_
      refine g_iload_n rfl ?_
      refine g_invvv hIH516 sm_0 rfl rfl rfl rfl (s_214 a1 (by omega) H516 hIH516 hJH516) (fun H530 r531 => ?_)
      obtain ⟨hIH530, hJH530, w532, m533⟩ := r531
      have e534 : k0_2 = fZ H530 0 2 := e517.trans w532.symm
      have m535 : kpM H H530 := kpM_t m518 m533
      refine g_iconst (by decide) (fun v536 kv536 => ?_)
      refine g_istore_n (l' := [(0, .ref 0), (1, .int a1), (2, .int a2), (3, .int v536)]) rfl rfl ?_
      refine g_iconst (by decide) (fun v537 kv537 => ?_)
      refine g_istore (l' := [(0, .ref 0), (1, .int a1), (2, .int a2), (3, .int v536), (4, .int v537)]) rfl rfl ?_
      refine g_nop ?_
      have L540 : ∀ (N : Nat) (v538 : Int32) (v539 : Int32), (0 ≤ v539.toInt ∧ v539.toInt ≤ 60) → (60 - v539.toInt).toNat < N → gG 5 zB_217 (mzBlk zB_217 3) [(0, .ref 0), (1, .int a1), (2, .int a2), (3, .int v538), (4, .int v539)] [] H530 0 0 (gRi (fun v H' => gI SM H' ∧ JN H' ∧ fZ H' 0 2 = fZ H 0 2 ∧ kpM H H')) := by
        intro N
        induction N with
        | zero => intro v538 v539 bv539 hmL540; exact absurd hmL540 (Nat.not_lt_zero _)
        | succ N ihL540 =>
          intro v538 v539 bv539 hmL540
          refine g_iload rfl ?_
          refine g_aload_n rfl ?_
          refine g_gfi hIH530 sm_0 rfl (fun v541 ev541 lv541 uv541 => ?_)
          refine g_if2_ge (fun c542 => ?_) (fun c542 => ?_)
          · refine g_iload_n rfl ?_
            exact g_iret ⟨_, rfl, hIH530, (JM_n hJH530), (e534.symm.trans ek0_2), m535⟩
          · refine g_aload_n rfl ?_
            refine g_gfr hIH530 sm_0 rfl ?_
            refine g_iload rfl ?_
            refine g_iaload hIH530 sm_22 rfl (by omega) (fun v543 ev543 lv543 uv543 => ?_)
            refine g_iload_n rfl ?_
            refine g_if2_ne (fun c544 => ?_) (fun c544 => ?_)
            · refine g_iinc (l' := (fun v545 => [(0, .ref 0), (1, .int a1), (2, .int a2), (3, .int v538), (4, .int v545)])) rfl rfl (by decide) (by omega) (fun _ => rfl) (fun v545 ev545 => ?_)
              refine g_goto ?_
              exact ihL540 v538 v545 (by omega) (by omega)
            · refine g_iload_n rfl ?_
              refine g_iload rfl ?_
              refine g_iconst (by decide) (fun v546 kv546 => ?_)
              refine g_iadd (by omega) (fun v547 ev547 => ?_)
              refine g_aload_n rfl ?_
              refine g_gfi hIH530 sm_0 rfl (fun v548 ev548 lv548 uv548 => ?_)
              refine g_if2_ge (fun c549 => ?_) (fun c549 => ?_)
              · refine g_aload_n rfl ?_
                refine g_invvi hIH530 sm_0 rfl rfl rfl rfl (s_216 H530 hIH530 (JM_n hJH530)) (fun v552 H550 r551 => ?_)
                obtain rfl := r551
                refine g_nop ?_
                refine g_aload_n rfl ?_
                refine g_gfr hIH530 sm_0 rfl ?_
                refine g_iload rfl ?_
                refine g_iaload hIH530 sm_23 rfl (by omega) (fun v553 ev553 lv553 uv553 => ?_)
                refine g_isub' (fun v554 ov554 => ?_)
                refine g_iadd' (fun v555 ov555 => ?_)
                refine g_istore_n (l' := [(0, .ref 0), (1, .int a1), (2, .int a2), (3, .int v555), (4, .int v539)]) rfl rfl ?_
                refine g_nop ?_
                refine g_iinc (l' := (fun v556 => [(0, .ref 0), (1, .int a1), (2, .int a2), (3, .int v555), (4, .int v556)])) rfl rfl (by decide) (by omega) (fun _ => rfl) (fun v556 ev556 => ?_)
                refine g_goto ?_
                exact ihL540 v555 v556 (by omega) (by omega)
              · refine g_aload_n rfl ?_
                refine g_gfr hIH530 sm_0 rfl ?_
                refine g_iload rfl ?_
                refine g_iconst (by decide) (fun v557 kv557 => ?_)
                refine g_iadd (by omega) (fun v558 ev558 => ?_)
                refine g_iaload hIH530 sm_23 rfl (by omega) (fun v559 ev559 lv559 uv559 => ?_)
                refine g_goto ?_
                refine g_aload_n rfl ?_
                refine g_gfr hIH530 sm_0 rfl ?_
                refine g_iload rfl ?_
                refine g_iaload hIH530 sm_23 rfl (by omega) (fun v560 ev560 lv560 uv560 => ?_)
                refine g_isub' (fun v561 ov561 => ?_)
                refine g_iadd' (fun v562 ov562 => ?_)
                refine g_istore_n (l' := [(0, .ref 0), (1, .int a1), (2, .int a2), (3, .int v562), (4, .int v539)]) rfl rfl ?_
                refine g_nop ?_
                refine g_iinc (l' := (fun v563 => [(0, .ref 0), (1, .int a1), (2, .int a2), (3, .int v562), (4, .int v563)])) rfl rfl (by decide) (by omega) (fun _ => rfl) (fun v563 ev563 => ?_)
                refine g_goto ?_
                exact ihL540 v562 v563 (by omega) (by omega)
      exact L540 _ v536 v537 (by omega) (Nat.lt_succ_self _)
    · refine g_iload_n rfl ?_
      refine g_bipush (by decide) (fun v564 kv564 => ?_)
      refine g_if2_eq (fun c565 => ?_) (fun c565 => ?_)
      · refine g_aload_n rfl ?_
        refine g_iload_n rfl ?_
        refine g_invvv hIH516 sm_0 rfl rfl rfl rfl (s_214 a1 (by omega) H516 hIH516 hJH516) (fun H566 r567 => ?_)
        obtain ⟨hIH566, hJH566, w568, m569⟩ := r567
        have e570 : k0_2 = fZ H566 0 2 := e517.trans w568.symm
        have m571 : kpM H H566 := kpM_t m518 m569
        refine g_iconst (by decide) (fun v572 kv572 => ?_)
        refine g_istore_n (l' := [(0, .ref 0), (1, .int a1), (2, .int a2), (3, .int v572)]) rfl rfl ?_
        refine g_iconst (by decide) (fun v573 kv573 => ?_)
        refine g_istore (l' := [(0, .ref 0), (1, .int a1), (2, .int a2), (3, .int v572), (4, .int v573)]) rfl rfl ?_
        refine g_nop ?_
        have L576 : ∀ (N : Nat) (v574 : Int32) (v575 : Int32), (0 ≤ v575.toInt ∧ v575.toInt ≤ 60) → (60 - v575.toInt).toNat < N → gG 5 zB_217 (mzBlk zB_217 3) [(0, .ref 0), (1, .int a1), (2, .int a2), (3, .int v574), (4, .int v575)] [] H566 0 0 (gRi (fun v H' => gI SM H' ∧ JN H' ∧ fZ H' 0 2 = fZ H 0 2 ∧ kpM H H')) := by
          intro N
          induction N with
          | zero => intro v574 v575 bv575 hmL576; exact absurd hmL576 (Nat.not_lt_zero _)
          | succ N ihL576 =>
            intro v574 v575 bv575 hmL576
            refine g_iload rfl ?_
            refine g_aload_n rfl ?_
            refine g_gfi hIH566 sm_0 rfl (fun v577 ev577 lv577 uv577 => ?_)
            refine g_if2_ge (fun c578 => ?_) (fun c578 => ?_)
            · refine g_iload_n rfl ?_
              exact g_iret ⟨_, rfl, hIH566, (JM_n hJH566), (e570.symm.trans ek0_2), m571⟩
            · refine g_aload_n rfl ?_
              refine g_gfr hIH566 sm_0 rfl ?_
              refine g_iload rfl ?_
              refine g_iaload hIH566 sm_22 rfl (by omega) (fun v579 ev579 lv579 uv579 => ?_)
              refine g_iload_n rfl ?_
              refine g_if2_ne (fun c580 => ?_) (fun c580 => ?_)
              · refine g_iinc (l' := (fun v581 => [(0, .ref 0), (1, .int a1), (2, .int a2), (3, .int v574), (4, .int v581)])) rfl rfl (by decide) (by omega) (fun _ => rfl) (fun v581 ev581 => ?_)
                refine g_goto ?_
                exact ihL576 v574 v581 (by omega) (by omega)
              · refine g_iload_n rfl ?_
                refine g_iload rfl ?_
                refine g_iconst (by decide) (fun v582 kv582 => ?_)
                refine g_iadd (by omega) (fun v583 ev583 => ?_)
                refine g_aload_n rfl ?_
                refine g_gfi hIH566 sm_0 rfl (fun v584 ev584 lv584 uv584 => ?_)
                refine g_if2_ge (fun c585 => ?_) (fun c585 => ?_)
                · refine g_aload_n rfl ?_
                  refine g_invvi hIH566 sm_0 rfl rfl rfl rfl (s_216 H566 hIH566 (JM_n hJH566)) (fun v588 H586 r587 => ?_)
                  obtain rfl := r587
                  refine g_nop ?_
                  refine g_aload_n rfl ?_
                  refine g_gfr hIH566 sm_0 rfl ?_
                  refine g_iload rfl ?_
                  refine g_iaload hIH566 sm_23 rfl (by omega) (fun v589 ev589 lv589 uv589 => ?_)
                  refine g_isub' (fun v590 ov590 => ?_)
                  refine g_iadd' (fun v591 ov591 => ?_)
                  refine g_istore_n (l' := [(0, .ref 0), (1, .int a1), (2, .int a2), (3, .int v591), (4, .int v575)]) rfl rfl ?_
                  refine g_nop ?_
                  refine g_iinc (l' := (fun v592 => [(0, .ref 0), (1, .int a1), (2, .int a2), (3, .int v591), (4, .int v592)])) rfl rfl (by decide) (by omega) (fun _ => rfl) (fun v592 ev592 => ?_)
                  refine g_goto ?_
                  exact ihL576 v591 v592 (by omega) (by omega)
                · refine g_aload_n rfl ?_
                  refine g_gfr hIH566 sm_0 rfl ?_
                  refine g_iload rfl ?_
                  refine g_iconst (by decide) (fun v593 kv593 => ?_)
                  refine g_iadd (by omega) (fun v594 ev594 => ?_)
                  refine g_iaload hIH566 sm_23 rfl (by omega) (fun v595 ev595 lv595 uv595 => ?_)
                  refine g_goto ?_
                  refine g_aload_n rfl ?_
                  refine g_gfr hIH566 sm_0 rfl ?_
                  refine g_iload rfl ?_
                  refine g_iaload hIH566 sm_23 rfl (by omega) (fun v596 ev596 lv596 uv596 => ?_)
                  refine g_isub' (fun v597 ov597 => ?_)
                  refine g_iadd' (fun v598 ov598 => ?_)
                  refine g_istore_n (l' := [(0, .ref 0), (1, .int a1), (2, .int a2), (3, .int v598), (4, .int v575)]) rfl rfl ?_
                  refine g_nop ?_
                  refine g_iinc (l' := (fun v599 => [(0, .ref 0), (1, .int a1), (2, .int a2), (3, .int v598), (4, .int v599)])) rfl rfl (by decide) (by omega) (fun _ => rfl) (fun v599 ev599 => ?_)
                  refine g_goto ?_
                  exact ihL576 v598 v599 (by omega) (by omega)
        exact L576 _ v572 v573 (by omega) (Nat.lt_succ_self _)
      · refine g_nop ?_
        refine g_iconst (by decide) (fun v600 kv600 => ?_)
        exact g_iret ⟨_, rfl, hIH516, hJH516, (e517.symm.trans ek0_2), m518⟩
set_option maxRecDepth 4000 in
set_option maxHeartbeats 4000000 in
/-- M.flow -/
theorem s_218 (a1 : Int32) (a2 : Int32) (H : mzH) (hI : gI SM H) (hJ : JN H) : gCall 218 [.ref 0, .int a1, .int a2] H (gRi (fun v H' => gI SM H' ∧ JN H' ∧ fZ H' 0 2 = fZ H 0 2 ∧ kpM H H')) := by
  obtain ⟨k0_2, ek0_2⟩ : ∃ z, z = fZ H 0 2 := ⟨_, rfl⟩
  have ik0_2 : k0_2.toInt = (fZ H 0 2).toInt := by rw [← ek0_2]
  have bk0_2 : 0 ≤ k0_2.toInt ∧ k0_2.toInt ≤ 900 := by rw [ek0_2]; exact fZ_of hI sm_0 rfl
  have mkfr : kpM H H := kpM_r
  refine gG_call [(0, .ref 0), (1, .int a1), (2, .int a2)] ⟨rfl, rfl, rfl, trivial⟩ ?_
  show gG 7 zB_218 (mzBlk zB_218 0) [(0, .ref 0), (1, .int a1), (2, .int a2)] [] H 0 0 _
  refine g_aload_n rfl ?_
  refine g_iconst (by decide) (fun v1464 kv1464 => ?_)
  refine g_pfi hI sm_0 rfl (gz_any _) (fun H1465 eH1465 hIH1465 => ?_)
  have hJH1465 : JN H1465 := JN_sF eH1465 hJ
  have e1466 : k0_2 = fZ H1465 0 2 := by rw [eH1465, fZ_sF_ne (by decide)]; exact ek0_2
  have m1467 : kpM H H1465 := kpM_F mkfr eH1465 (by omega)
  refine g_aload_n rfl ?_
  refine g_iload_n rfl ?_
  refine g_invvi hIH1465 sm_0 rfl rfl rfl rfl (s_210 a1 H1465 hIH1465 hJH1465) (fun v1470 H1468 r1469 => ?_)
  obtain ⟨rfl, bv1470, p1471⟩ := r1469
  refine g_if_ne (fun c1472 => ?_) (fun c1472 => ?_)
  · refine g_aload_n rfl ?_
    refine g_iload_n rfl ?_
    refine g_invvi hIH1465 sm_0 rfl rfl rfl rfl (s_210 a2 H1465 hIH1465 hJH1465) (fun v1475 H1473 r1474 => ?_)
    obtain ⟨rfl, bv1475, p1476⟩ := r1474
    refine g_if_ne (fun c1477 => ?_) (fun c1477 => ?_)
    · refine g_iload_n rfl ?_
      refine g_iload_n rfl ?_
      refine g_if2_eq (fun c1478 => ?_) (fun c1478 => ?_)
      · refine g_iconst (by decide) (fun v1479 kv1479 => ?_)
        refine g_nop ?_
        refine g_istore_n (l' := [(0, .ref 0), (1, .int a1), (2, .int a2), (3, .int v1479)]) rfl rfl ?_
        refine g_iload_n rfl ?_
        refine g_if_ne (fun c1480 => ?_) (fun c1480 => ?_)
        · exfalso; omega
        · refine g_iconst (by decide) (fun v1481 kv1481 => ?_)
          exact g_iret ⟨_, rfl, hIH1465, hJH1465, (e1466.symm.trans ek0_2), m1467⟩
      · refine g_iconst (by decide) (fun v1482 kv1482 => ?_)
        refine g_goto ?_
        refine g_istore_n (l' := [(0, .ref 0), (1, .int a1), (2, .int a2), (3, .int v1482)]) rfl rfl ?_
        refine g_iload_n rfl ?_
        refine g_if_ne (fun c1483 => ?_) (fun c1483 => ?_)
        · refine g_iconst (by decide) (fun v1484 kv1484 => ?_)
          refine g_istore (l' := [(0, .ref 0), (1, .int a1), (2, .int a2), (3, .int v1482), (4, .int v1484)]) rfl rfl ?_
          refine g_iconst (by decide) (fun v1485 kv1485 => ?_)
          refine g_istore (l' := [(0, .ref 0), (1, .int a1), (2, .int a2), (3, .int v1482), (4, .int v1484), (5, .int v1485)]) rfl rfl ?_
          refine g_nop ?_
          have L1491 : ∀ (N : Nat) (v1486 : Int32) (v1487 : Int32) (H1488 : mzH), gI SM H1488 → JN H1488 → k0_2 = fZ H1488 0 2 → kpM H H1488 → (0 ≤ v1487.toInt ∧ v1487.toInt ≤ 40) → (40 - v1487.toInt).toNat < N → gG 7 zB_218 (mzBlk zB_218 6) [(0, .ref 0), (1, .int a1), (2, .int a2), (3, .int v1482), (4, .int v1486), (5, .int v1487)] [] H1488 0 0 (gRi (fun v H' => gI SM H' ∧ JN H' ∧ fZ H' 0 2 = fZ H 0 2 ∧ kpM H H')) := by
            intro N
            induction N with
            | zero => intro v1486 v1487 H1488 hIH1488 hJH1488 e1489 m1490 bv1487 hmL1491; exact absurd hmL1491 (Nat.not_lt_zero _)
            | succ N ihL1491 =>
              intro v1486 v1487 H1488 hIH1488 hJH1488 e1489 m1490 bv1487 hmL1491
              refine g_iload rfl ?_
              refine g_bipush (by decide) (fun v1492 kv1492 => ?_)
              refine g_if2_ge (fun c1493 => ?_) (fun c1493 => ?_)
              · refine g_iload rfl ?_
                exact g_iret ⟨_, rfl, hIH1488, hJH1488, (e1489.symm.trans ek0_2), m1490⟩
              · refine g_aload_n rfl ?_
                refine g_iload rfl ?_
                refine g_invvv hIH1488 sm_0 rfl rfl rfl rfl (s_214 v1487 (by omega) H1488 hIH1488 hJH1488) (fun H1494 r1495 => ?_)
                obtain ⟨hIH1494, hJH1494, w1496, m1497⟩ := r1495
                have e1498 : k0_2 = fZ H1494 0 2 := e1489.trans w1496.symm
                have m1499 : kpM H H1494 := kpM_t m1490 m1497
                refine g_iconst (by decide) (fun v1500 kv1500 => ?_)
                refine g_istore (l' := [(0, .ref 0), (1, .int a1), (2, .int a2), (3, .int v1482), (4, .int v1486), (5, .int v1487), (6, .int v1500)]) rfl rfl ?_
                refine g_nop ?_
                have L1503 : ∀ (N : Nat) (v1501 : Int32) (v1502 : Int32), (0 ≤ v1502.toInt ∧ v1502.toInt ≤ 59) → (59 - v1502.toInt).toNat < N → gG 7 zB_218 (mzBlk zB_218 7) [(0, .ref 0), (1, .int a1), (2, .int a2), (3, .int v1482), (4, .int v1501), (5, .int v1487), (6, .int v1502)] [] H1494 0 0 (gRi (fun v H' => gI SM H' ∧ JN H' ∧ fZ H' 0 2 = fZ H 0 2 ∧ kpM H H')) := by
                  intro N
                  induction N with
                  | zero => intro v1501 v1502 bv1502 hmL1503; exact absurd hmL1503 (Nat.not_lt_zero _)
                  | succ N ihL1503 =>
                    intro v1501 v1502 bv1502 hmL1503
                    refine g_iload rfl ?_
                    refine g_iconst (by decide) (fun v1504 kv1504 => ?_)
                    refine g_iadd (by omega) (fun v1505 ev1505 => ?_)
                    refine g_aload_n rfl ?_
                    refine g_gfi hIH1494 sm_0 rfl (fun v1506 ev1506 lv1506 uv1506 => ?_)
                    refine g_if2_ge (fun c1507 => ?_) (fun c1507 => ?_)
                    · refine g_iinc (l' := (fun v1508 => [(0, .ref 0), (1, .int a1), (2, .int a2), (3, .int v1482), (4, .int v1501), (5, .int v1508), (6, .int v1502)])) rfl rfl (by decide) (by omega) (fun _ => rfl) (fun v1508 ev1508 => ?_)
                      refine g_goto ?_
                      refine gG_pick [0, 1, 2, 3, 4, 5] (l' := [(0, .ref 0), (1, .int a1), (2, .int a2), (3, .int v1482), (4, .int v1501), (5, .int v1508)]) rfl ?_
                      exact ihL1491 v1501 v1508 H1494 hIH1494 (JM_n hJH1494) e1498 m1499 (by omega) (by omega)
                    · refine g_iload rfl ?_
                      refine g_aload_n rfl ?_
                      refine g_gfr hIH1494 sm_0 rfl ?_
                      refine g_iload rfl ?_
                      refine g_iaload hIH1494 sm_22 rfl (by omega) (fun v1509 ev1509 lv1509 uv1509 => ?_)
                      refine g_iload_n rfl ?_
                      refine g_if2_ne (fun c1510 => ?_) (fun c1510 => ?_)
                      · refine g_iconst (by decide) (fun v1511 kv1511 => ?_)
                        refine g_nop ?_
                        refine g_iadd (by have := gz_any v1501; omega) (fun v1512 ev1512 => ?_)
                        refine g_istore (l' := [(0, .ref 0), (1, .int a1), (2, .int a2), (3, .int v1482), (4, .int v1512), (5, .int v1487), (6, .int v1502)]) rfl rfl ?_
                        refine g_iinc (l' := (fun v1513 => [(0, .ref 0), (1, .int a1), (2, .int a2), (3, .int v1482), (4, .int v1512), (5, .int v1487), (6, .int v1513)])) rfl rfl (by decide) (by omega) (fun _ => rfl) (fun v1513 ev1513 => ?_)
                        refine g_goto ?_
                        exact ihL1503 v1512 v1513 (by omega) (by omega)
                      · refine g_aload_n rfl ?_
                        refine g_gfr hIH1494 sm_0 rfl ?_
                        refine g_iload rfl ?_
                        refine g_iconst (by decide) (fun v1514 kv1514 => ?_)
                        refine g_iadd (by omega) (fun v1515 ev1515 => ?_)
                        refine g_iaload hIH1494 sm_22 rfl (by omega) (fun v1516 ev1516 lv1516 uv1516 => ?_)
                        refine g_iload_n rfl ?_
                        refine g_if2_ne (fun c1517 => ?_) (fun c1517 => ?_)
                        · refine g_iconst (by decide) (fun v1518 kv1518 => ?_)
                          refine g_nop ?_
                          refine g_iadd (by have := gz_any v1501; omega) (fun v1519 ev1519 => ?_)
                          refine g_istore (l' := [(0, .ref 0), (1, .int a1), (2, .int a2), (3, .int v1482), (4, .int v1519), (5, .int v1487), (6, .int v1502)]) rfl rfl ?_
                          refine g_iinc (l' := (fun v1520 => [(0, .ref 0), (1, .int a1), (2, .int a2), (3, .int v1482), (4, .int v1519), (5, .int v1487), (6, .int v1520)])) rfl rfl (by decide) (by omega) (fun _ => rfl) (fun v1520 ev1520 => ?_)
                          refine g_goto ?_
                          exact ihL1503 v1519 v1520 (by omega) (by omega)
                        · refine g_iconst (by decide) (fun v1521 kv1521 => ?_)
                          refine g_goto ?_
                          refine g_iadd' (fun v1522 ov1522 => ?_)
                          refine g_istore (l' := [(0, .ref 0), (1, .int a1), (2, .int a2), (3, .int v1482), (4, .int v1522), (5, .int v1487), (6, .int v1502)]) rfl rfl ?_
                          refine g_iinc (l' := (fun v1523 => [(0, .ref 0), (1, .int a1), (2, .int a2), (3, .int v1482), (4, .int v1522), (5, .int v1487), (6, .int v1523)])) rfl rfl (by decide) (by omega) (fun _ => rfl) (fun v1523 ev1523 => ?_)
                          refine g_goto ?_
                          exact ihL1503 v1522 v1523 (by omega) (by omega)
                exact L1503 _ v1486 v1500 (by omega) (Nat.lt_succ_self _)
          exact L1491 _ v1484 v1485 H1465 hIH1465 hJH1465 e1466 m1467 (by omega) (Nat.lt_succ_self _)
        · exfalso; omega
    · refine g_iload_n rfl ?_
      refine g_bipush (by decide) (fun v1524 kv1524 => ?_)
      refine g_if2_eq (fun c1525 => ?_) (fun c1525 => ?_)
      · refine g_iload_n rfl ?_
        refine g_iload_n rfl ?_
        refine g_if2_eq (fun c1526 => ?_) (fun c1526 => ?_)
        · exfalso; omega
        · refine g_iconst (by decide) (fun v1527 kv1527 => ?_)
          refine g_goto ?_
          refine g_istore_n (l' := [(0, .ref 0), (1, .int a1), (2, .int a2), (3, .int v1527)]) rfl rfl ?_
          refine g_iload_n rfl ?_
          refine g_if_ne (fun c1528 => ?_) (fun c1528 => ?_)
          · refine g_iconst (by decide) (fun v1529 kv1529 => ?_)
            refine g_istore (l' := [(0, .ref 0), (1, .int a1), (2, .int a2), (3, .int v1527), (4, .int v1529)]) rfl rfl ?_
            refine g_iconst (by decide) (fun v1530 kv1530 => ?_)
            refine g_istore (l' := [(0, .ref 0), (1, .int a1), (2, .int a2), (3, .int v1527), (4, .int v1529), (5, .int v1530)]) rfl rfl ?_
            refine g_nop ?_
            have L1536 : ∀ (N : Nat) (v1531 : Int32) (v1532 : Int32) (H1533 : mzH), gI SM H1533 → JN H1533 → k0_2 = fZ H1533 0 2 → kpM H H1533 → (0 ≤ v1532.toInt ∧ v1532.toInt ≤ 40) → (40 - v1532.toInt).toNat < N → gG 7 zB_218 (mzBlk zB_218 6) [(0, .ref 0), (1, .int a1), (2, .int a2), (3, .int v1527), (4, .int v1531), (5, .int v1532)] [] H1533 0 0 (gRi (fun v H' => gI SM H' ∧ JN H' ∧ fZ H' 0 2 = fZ H 0 2 ∧ kpM H H')) := by
              intro N
              induction N with
              | zero => intro v1531 v1532 H1533 hIH1533 hJH1533 e1534 m1535 bv1532 hmL1536; exact absurd hmL1536 (Nat.not_lt_zero _)
              | succ N ihL1536 =>
                intro v1531 v1532 H1533 hIH1533 hJH1533 e1534 m1535 bv1532 hmL1536
                refine g_iload rfl ?_
                refine g_bipush (by decide) (fun v1537 kv1537 => ?_)
                refine g_if2_ge (fun c1538 => ?_) (fun c1538 => ?_)
                · refine g_iload rfl ?_
                  exact g_iret ⟨_, rfl, hIH1533, hJH1533, (e1534.symm.trans ek0_2), m1535⟩
                · refine g_aload_n rfl ?_
                  refine g_iload rfl ?_
                  refine g_invvv hIH1533 sm_0 rfl rfl rfl rfl (s_214 v1532 (by omega) H1533 hIH1533 hJH1533) (fun H1539 r1540 => ?_)
                  obtain ⟨hIH1539, hJH1539, w1541, m1542⟩ := r1540
                  have e1543 : k0_2 = fZ H1539 0 2 := e1534.trans w1541.symm
                  have m1544 : kpM H H1539 := kpM_t m1535 m1542
                  refine g_iconst (by decide) (fun v1545 kv1545 => ?_)
                  refine g_istore (l' := [(0, .ref 0), (1, .int a1), (2, .int a2), (3, .int v1527), (4, .int v1531), (5, .int v1532), (6, .int v1545)]) rfl rfl ?_
                  refine g_nop ?_
                  have L1548 : ∀ (N : Nat) (v1546 : Int32) (v1547 : Int32), (0 ≤ v1547.toInt ∧ v1547.toInt ≤ 59) → (59 - v1547.toInt).toNat < N → gG 7 zB_218 (mzBlk zB_218 7) [(0, .ref 0), (1, .int a1), (2, .int a2), (3, .int v1527), (4, .int v1546), (5, .int v1532), (6, .int v1547)] [] H1539 0 0 (gRi (fun v H' => gI SM H' ∧ JN H' ∧ fZ H' 0 2 = fZ H 0 2 ∧ kpM H H')) := by
                    intro N
                    induction N with
                    | zero => intro v1546 v1547 bv1547 hmL1548; exact absurd hmL1548 (Nat.not_lt_zero _)
                    | succ N ihL1548 =>
                      intro v1546 v1547 bv1547 hmL1548
                      refine g_iload rfl ?_
                      refine g_iconst (by decide) (fun v1549 kv1549 => ?_)
                      refine g_iadd (by omega) (fun v1550 ev1550 => ?_)
                      refine g_aload_n rfl ?_
                      refine g_gfi hIH1539 sm_0 rfl (fun v1551 ev1551 lv1551 uv1551 => ?_)
                      refine g_if2_ge (fun c1552 => ?_) (fun c1552 => ?_)
                      · refine g_iinc (l' := (fun v1553 => [(0, .ref 0), (1, .int a1), (2, .int a2), (3, .int v1527), (4, .int v1546), (5, .int v1553), (6, .int v1547)])) rfl rfl (by decide) (by omega) (fun _ => rfl) (fun v1553 ev1553 => ?_)
                        refine g_goto ?_
                        refine gG_pick [0, 1, 2, 3, 4, 5] (l' := [(0, .ref 0), (1, .int a1), (2, .int a2), (3, .int v1527), (4, .int v1546), (5, .int v1553)]) rfl ?_
                        exact ihL1536 v1546 v1553 H1539 hIH1539 (JM_n hJH1539) e1543 m1544 (by omega) (by omega)
                      · refine g_iload rfl ?_
                        refine g_aload_n rfl ?_
                        refine g_gfr hIH1539 sm_0 rfl ?_
                        refine g_iload rfl ?_
                        refine g_iaload hIH1539 sm_22 rfl (by omega) (fun v1554 ev1554 lv1554 uv1554 => ?_)
                        refine g_iload_n rfl ?_
                        refine g_if2_ne (fun c1555 => ?_) (fun c1555 => ?_)
                        · refine g_iconst (by decide) (fun v1556 kv1556 => ?_)
                          refine g_nop ?_
                          refine g_iadd (by have := gz_any v1546; omega) (fun v1557 ev1557 => ?_)
                          refine g_istore (l' := [(0, .ref 0), (1, .int a1), (2, .int a2), (3, .int v1527), (4, .int v1557), (5, .int v1532), (6, .int v1547)]) rfl rfl ?_
                          refine g_iinc (l' := (fun v1558 => [(0, .ref 0), (1, .int a1), (2, .int a2), (3, .int v1527), (4, .int v1557), (5, .int v1532), (6, .int v1558)])) rfl rfl (by decide) (by omega) (fun _ => rfl) (fun v1558 ev1558 => ?_)
                          refine g_goto ?_
                          exact ihL1548 v1557 v1558 (by omega) (by omega)
                        · refine g_aload_n rfl ?_
                          refine g_gfr hIH1539 sm_0 rfl ?_
                          refine g_iload rfl ?_
                          refine g_iconst (by decide) (fun v1559 kv1559 => ?_)
                          refine g_iadd (by omega) (fun v1560 ev1560 => ?_)
                          refine g_iaload hIH1539 sm_22 rfl (by omega) (fun v1561 ev1561 lv1561 uv1561 => ?_)
                          refine g_iload_n rfl ?_
                          refine g_if2_ne (fun c1562 => ?_) (fun c1562 => ?_)
                          · refine g_iconst (by decide) (fun v1563 kv1563 => ?_)
                            refine g_nop ?_
                            refine g_iadd (by have := gz_any v1546; omega) (fun v1564 ev1564 => ?_)
                            refine g_istore (l' := [(0, .ref 0), (1, .int a1), (2, .int a2), (3, .int v1527), (4, .int v1564), (5, .int v1532), (6, .int v1547)]) rfl rfl ?_
                            refine g_iinc (l' := (fun v1565 => [(0, .ref 0), (1, .int a1), (2, .int a2), (3, .int v1527), (4, .int v1564), (5, .int v1532), (6, .int v1565)])) rfl rfl (by decide) (by omega) (fun _ => rfl) (fun v1565 ev1565 => ?_)
                            refine g_goto ?_
                            exact ihL1548 v1564 v1565 (by omega) (by omega)
                          · refine g_iconst (by decide) (fun v1566 kv1566 => ?_)
                            refine g_goto ?_
                            refine g_iadd' (fun v1567 ov1567 => ?_)
                            refine g_istore (l' := [(0, .ref 0), (1, .int a1), (2, .int a2), (3, .int v1527), (4, .int v1567), (5, .int v1532), (6, .int v1547)]) rfl rfl ?_
                            refine g_iinc (l' := (fun v1568 => [(0, .ref 0), (1, .int a1), (2, .int a2), (3, .int v1527), (4, .int v1567), (5, .int v1532), (6, .int v1568)])) rfl rfl (by decide) (by omega) (fun _ => rfl) (fun v1568 ev1568 => ?_)
                            refine g_goto ?_
                            exact ihL1548 v1567 v1568 (by omega) (by omega)
                  exact L1548 _ v1531 v1545 (by omega) (Nat.lt_succ_self _)
            exact L1536 _ v1529 v1530 H1465 hIH1465 hJH1465 e1466 m1467 (by omega) (Nat.lt_succ_self _)
          · exfalso; omega
      · refine g_iload_n rfl ?_
        refine g_bipush (by decide) (fun v1569 kv1569 => ?_)
        refine g_if2_ne (fun c1570 => ?_) (fun c1570 => ?_)
        · refine g_iconst (by decide) (fun v1571 kv1571 => ?_)
          refine g_nop ?_
          refine g_istore_n (l' := [(0, .ref 0), (1, .int a1), (2, .int a2), (3, .int v1571)]) rfl rfl ?_
          refine g_iload_n rfl ?_
          refine g_if_ne (fun c1572 => ?_) (fun c1572 => ?_)
          · exfalso; omega
          · refine g_iconst (by decide) (fun v1573 kv1573 => ?_)
            exact g_iret ⟨_, rfl, hIH1465, hJH1465, (e1466.symm.trans ek0_2), m1467⟩
        · refine g_nop ?_
          refine g_iload_n rfl ?_
          refine g_iload_n rfl ?_
          refine g_if2_eq (fun c1574 => ?_) (fun c1574 => ?_)
          · exfalso; omega
          · refine g_iconst (by decide) (fun v1575 kv1575 => ?_)
            refine g_goto ?_
            refine g_istore_n (l' := [(0, .ref 0), (1, .int a1), (2, .int a2), (3, .int v1575)]) rfl rfl ?_
            refine g_iload_n rfl ?_
            refine g_if_ne (fun c1576 => ?_) (fun c1576 => ?_)
            · refine g_iconst (by decide) (fun v1577 kv1577 => ?_)
              refine g_istore (l' := [(0, .ref 0), (1, .int a1), (2, .int a2), (3, .int v1575), (4, .int v1577)]) rfl rfl ?_
              refine g_iconst (by decide) (fun v1578 kv1578 => ?_)
              refine g_istore (l' := [(0, .ref 0), (1, .int a1), (2, .int a2), (3, .int v1575), (4, .int v1577), (5, .int v1578)]) rfl rfl ?_
              refine g_nop ?_
              have L1584 : ∀ (N : Nat) (v1579 : Int32) (v1580 : Int32) (H1581 : mzH), gI SM H1581 → JN H1581 → k0_2 = fZ H1581 0 2 → kpM H H1581 → (0 ≤ v1580.toInt ∧ v1580.toInt ≤ 40) → (40 - v1580.toInt).toNat < N → gG 7 zB_218 (mzBlk zB_218 6) [(0, .ref 0), (1, .int a1), (2, .int a2), (3, .int v1575), (4, .int v1579), (5, .int v1580)] [] H1581 0 0 (gRi (fun v H' => gI SM H' ∧ JN H' ∧ fZ H' 0 2 = fZ H 0 2 ∧ kpM H H')) := by
                intro N
                induction N with
                | zero => intro v1579 v1580 H1581 hIH1581 hJH1581 e1582 m1583 bv1580 hmL1584; exact absurd hmL1584 (Nat.not_lt_zero _)
                | succ N ihL1584 =>
                  intro v1579 v1580 H1581 hIH1581 hJH1581 e1582 m1583 bv1580 hmL1584
                  refine g_iload rfl ?_
                  refine g_bipush (by decide) (fun v1585 kv1585 => ?_)
                  refine g_if2_ge (fun c1586 => ?_) (fun c1586 => ?_)
                  · refine g_iload rfl ?_
                    exact g_iret ⟨_, rfl, hIH1581, hJH1581, (e1582.symm.trans ek0_2), m1583⟩
                  · refine g_aload_n rfl ?_
                    refine g_iload rfl ?_
                    refine g_invvv hIH1581 sm_0 rfl rfl rfl rfl (s_214 v1580 (by omega) H1581 hIH1581 hJH1581) (fun H1587 r1588 => ?_)
                    obtain ⟨hIH1587, hJH1587, w1589, m1590⟩ := r1588
                    have e1591 : k0_2 = fZ H1587 0 2 := e1582.trans w1589.symm
                    have m1592 : kpM H H1587 := kpM_t m1583 m1590
                    refine g_iconst (by decide) (fun v1593 kv1593 => ?_)
                    refine g_istore (l' := [(0, .ref 0), (1, .int a1), (2, .int a2), (3, .int v1575), (4, .int v1579), (5, .int v1580), (6, .int v1593)]) rfl rfl ?_
                    refine g_nop ?_
                    have L1596 : ∀ (N : Nat) (v1594 : Int32) (v1595 : Int32), (0 ≤ v1595.toInt ∧ v1595.toInt ≤ 59) → (59 - v1595.toInt).toNat < N → gG 7 zB_218 (mzBlk zB_218 7) [(0, .ref 0), (1, .int a1), (2, .int a2), (3, .int v1575), (4, .int v1594), (5, .int v1580), (6, .int v1595)] [] H1587 0 0 (gRi (fun v H' => gI SM H' ∧ JN H' ∧ fZ H' 0 2 = fZ H 0 2 ∧ kpM H H')) := by
                      intro N
                      induction N with
                      | zero => intro v1594 v1595 bv1595 hmL1596; exact absurd hmL1596 (Nat.not_lt_zero _)
                      | succ N ihL1596 =>
                        intro v1594 v1595 bv1595 hmL1596
                        refine g_iload rfl ?_
                        refine g_iconst (by decide) (fun v1597 kv1597 => ?_)
                        refine g_iadd (by omega) (fun v1598 ev1598 => ?_)
                        refine g_aload_n rfl ?_
                        refine g_gfi hIH1587 sm_0 rfl (fun v1599 ev1599 lv1599 uv1599 => ?_)
                        refine g_if2_ge (fun c1600 => ?_) (fun c1600 => ?_)
                        · refine g_iinc (l' := (fun v1601 => [(0, .ref 0), (1, .int a1), (2, .int a2), (3, .int v1575), (4, .int v1594), (5, .int v1601), (6, .int v1595)])) rfl rfl (by decide) (by omega) (fun _ => rfl) (fun v1601 ev1601 => ?_)
                          refine g_goto ?_
                          refine gG_pick [0, 1, 2, 3, 4, 5] (l' := [(0, .ref 0), (1, .int a1), (2, .int a2), (3, .int v1575), (4, .int v1594), (5, .int v1601)]) rfl ?_
                          exact ihL1584 v1594 v1601 H1587 hIH1587 (JM_n hJH1587) e1591 m1592 (by omega) (by omega)
                        · refine g_iload rfl ?_
                          refine g_aload_n rfl ?_
                          refine g_gfr hIH1587 sm_0 rfl ?_
                          refine g_iload rfl ?_
                          refine g_iaload hIH1587 sm_22 rfl (by omega) (fun v1602 ev1602 lv1602 uv1602 => ?_)
                          refine g_iload_n rfl ?_
                          refine g_if2_ne (fun c1603 => ?_) (fun c1603 => ?_)
                          · refine g_iconst (by decide) (fun v1604 kv1604 => ?_)
                            refine g_nop ?_
                            refine g_iadd (by have := gz_any v1594; omega) (fun v1605 ev1605 => ?_)
                            refine g_istore (l' := [(0, .ref 0), (1, .int a1), (2, .int a2), (3, .int v1575), (4, .int v1605), (5, .int v1580), (6, .int v1595)]) rfl rfl ?_
                            refine g_iinc (l' := (fun v1606 => [(0, .ref 0), (1, .int a1), (2, .int a2), (3, .int v1575), (4, .int v1605), (5, .int v1580), (6, .int v1606)])) rfl rfl (by decide) (by omega) (fun _ => rfl) (fun v1606 ev1606 => ?_)
                            refine g_goto ?_
                            exact ihL1596 v1605 v1606 (by omega) (by omega)
                          · refine g_aload_n rfl ?_
                            refine g_gfr hIH1587 sm_0 rfl ?_
                            refine g_iload rfl ?_
                            refine g_iconst (by decide) (fun v1607 kv1607 => ?_)
                            refine g_iadd (by omega) (fun v1608 ev1608 => ?_)
                            refine g_iaload hIH1587 sm_22 rfl (by omega) (fun v1609 ev1609 lv1609 uv1609 => ?_)
                            refine g_iload_n rfl ?_
                            refine g_if2_ne (fun c1610 => ?_) (fun c1610 => ?_)
                            · refine g_iconst (by decide) (fun v1611 kv1611 => ?_)
                              refine g_nop ?_
                              refine g_iadd (by have := gz_any v1594; omega) (fun v1612 ev1612 => ?_)
                              refine g_istore (l' := [(0, .ref 0), (1, .int a1), (2, .int a2), (3, .int v1575), (4, .int v1612), (5, .int v1580), (6, .int v1595)]) rfl rfl ?_
                              refine g_iinc (l' := (fun v1613 => [(0, .ref 0), (1, .int a1), (2, .int a2), (3, .int v1575), (4, .int v1612), (5, .int v1580), (6, .int v1613)])) rfl rfl (by decide) (by omega) (fun _ => rfl) (fun v1613 ev1613 => ?_)
                              refine g_goto ?_
                              exact ihL1596 v1612 v1613 (by omega) (by omega)
                            · refine g_iconst (by decide) (fun v1614 kv1614 => ?_)
                              refine g_goto ?_
                              refine g_iadd' (fun v1615 ov1615 => ?_)
                              refine g_istore (l' := [(0, .ref 0), (1, .int a1), (2, .int a2), (3, .int v1575), (4, .int v1615), (5, .int v1580), (6, .int v1595)]) rfl rfl ?_
                              refine g_iinc (l' := (fun v1616 => [(0, .ref 0), (1, .int a1), (2, .int a2), (3, .int v1575), (4, .int v1615), (5, .int v1580), (6, .int v1616)])) rfl rfl (by decide) (by omega) (fun _ => rfl) (fun v1616 ev1616 => ?_)
                              refine g_goto ?_
                              exact ihL1596 v1615 v1616 (by omega) (by omega)
                    exact L1596 _ v1579 v1593 (by omega) (Nat.lt_succ_self _)
              exact L1584 _ v1577 v1578 H1465 hIH1465 hJH1465 e1466 m1467 (by omega) (Nat.lt_succ_self _)
            · exfalso; omega
  · refine g_iload_n rfl ?_
    refine g_bipush (by decide) (fun v1617 kv1617 => ?_)
    refine g_if2_ne (fun c1618 => ?_) (fun c1618 => ?_)
    · refine g_iconst (by decide) (fun v1619 kv1619 => ?_)
      refine g_nop ?_
      refine g_istore_n (l' := [(0, .ref 0), (1, .int a1), (2, .int a2), (3, .int v1619)]) rfl rfl ?_
      refine g_iload_n rfl ?_
      refine g_if_ne (fun c1620 => ?_) (fun c1620 => ?_)
      · exfalso; omega
      · refine g_iconst (by decide) (fun v1621 kv1621 => ?_)
        exact g_iret ⟨_, rfl, hIH1465, hJH1465, (e1466.symm.trans ek0_2), m1467⟩
    · refine g_nop ?_
      refine g_aload_n rfl ?_
      refine g_iload_n rfl ?_
      refine g_invvi hIH1465 sm_0 rfl rfl rfl rfl (s_210 a2 H1465 hIH1465 hJH1465) (fun v1624 H1622 r1623 => ?_)
      obtain ⟨rfl, bv1624, p1625⟩ := r1623
      refine g_if_ne (fun c1626 => ?_) (fun c1626 => ?_)
      · refine g_iload_n rfl ?_
        refine g_iload_n rfl ?_
        refine g_if2_eq (fun c1627 => ?_) (fun c1627 => ?_)
        · exfalso; omega
        · refine g_iconst (by decide) (fun v1628 kv1628 => ?_)
          refine g_goto ?_
          refine g_istore_n (l' := [(0, .ref 0), (1, .int a1), (2, .int a2), (3, .int v1628)]) rfl rfl ?_
          refine g_iload_n rfl ?_
          refine g_if_ne (fun c1629 => ?_) (fun c1629 => ?_)
          · refine g_iconst (by decide) (fun v1630 kv1630 => ?_)
            refine g_istore (l' := [(0, .ref 0), (1, .int a1), (2, .int a2), (3, .int v1628), (4, .int v1630)]) rfl rfl ?_
            refine g_iconst (by decide) (fun v1631 kv1631 => ?_)
            refine g_istore (l' := [(0, .ref 0), (1, .int a1), (2, .int a2), (3, .int v1628), (4, .int v1630), (5, .int v1631)]) rfl rfl ?_
            refine g_nop ?_
            have L1637 : ∀ (N : Nat) (v1632 : Int32) (v1633 : Int32) (H1634 : mzH), gI SM H1634 → JN H1634 → k0_2 = fZ H1634 0 2 → kpM H H1634 → (0 ≤ v1633.toInt ∧ v1633.toInt ≤ 40) → (40 - v1633.toInt).toNat < N → gG 7 zB_218 (mzBlk zB_218 6) [(0, .ref 0), (1, .int a1), (2, .int a2), (3, .int v1628), (4, .int v1632), (5, .int v1633)] [] H1634 0 0 (gRi (fun v H' => gI SM H' ∧ JN H' ∧ fZ H' 0 2 = fZ H 0 2 ∧ kpM H H')) := by
              intro N
              induction N with
              | zero => intro v1632 v1633 H1634 hIH1634 hJH1634 e1635 m1636 bv1633 hmL1637; exact absurd hmL1637 (Nat.not_lt_zero _)
              | succ N ihL1637 =>
                intro v1632 v1633 H1634 hIH1634 hJH1634 e1635 m1636 bv1633 hmL1637
                refine g_iload rfl ?_
                refine g_bipush (by decide) (fun v1638 kv1638 => ?_)
                refine g_if2_ge (fun c1639 => ?_) (fun c1639 => ?_)
                · refine g_iload rfl ?_
                  exact g_iret ⟨_, rfl, hIH1634, hJH1634, (e1635.symm.trans ek0_2), m1636⟩
                · refine g_aload_n rfl ?_
                  refine g_iload rfl ?_
                  refine g_invvv hIH1634 sm_0 rfl rfl rfl rfl (s_214 v1633 (by omega) H1634 hIH1634 hJH1634) (fun H1640 r1641 => ?_)
                  obtain ⟨hIH1640, hJH1640, w1642, m1643⟩ := r1641
                  have e1644 : k0_2 = fZ H1640 0 2 := e1635.trans w1642.symm
                  have m1645 : kpM H H1640 := kpM_t m1636 m1643
                  refine g_iconst (by decide) (fun v1646 kv1646 => ?_)
                  refine g_istore (l' := [(0, .ref 0), (1, .int a1), (2, .int a2), (3, .int v1628), (4, .int v1632), (5, .int v1633), (6, .int v1646)]) rfl rfl ?_
                  refine g_nop ?_
                  have L1649 : ∀ (N : Nat) (v1647 : Int32) (v1648 : Int32), (0 ≤ v1648.toInt ∧ v1648.toInt ≤ 59) → (59 - v1648.toInt).toNat < N → gG 7 zB_218 (mzBlk zB_218 7) [(0, .ref 0), (1, .int a1), (2, .int a2), (3, .int v1628), (4, .int v1647), (5, .int v1633), (6, .int v1648)] [] H1640 0 0 (gRi (fun v H' => gI SM H' ∧ JN H' ∧ fZ H' 0 2 = fZ H 0 2 ∧ kpM H H')) := by
                    intro N
                    induction N with
                    | zero => intro v1647 v1648 bv1648 hmL1649; exact absurd hmL1649 (Nat.not_lt_zero _)
                    | succ N ihL1649 =>
                      intro v1647 v1648 bv1648 hmL1649
                      refine g_iload rfl ?_
                      refine g_iconst (by decide) (fun v1650 kv1650 => ?_)
                      refine g_iadd (by omega) (fun v1651 ev1651 => ?_)
                      refine g_aload_n rfl ?_
                      refine g_gfi hIH1640 sm_0 rfl (fun v1652 ev1652 lv1652 uv1652 => ?_)
                      refine g_if2_ge (fun c1653 => ?_) (fun c1653 => ?_)
                      · refine g_iinc (l' := (fun v1654 => [(0, .ref 0), (1, .int a1), (2, .int a2), (3, .int v1628), (4, .int v1647), (5, .int v1654), (6, .int v1648)])) rfl rfl (by decide) (by omega) (fun _ => rfl) (fun v1654 ev1654 => ?_)
                        refine g_goto ?_
                        refine gG_pick [0, 1, 2, 3, 4, 5] (l' := [(0, .ref 0), (1, .int a1), (2, .int a2), (3, .int v1628), (4, .int v1647), (5, .int v1654)]) rfl ?_
                        exact ihL1637 v1647 v1654 H1640 hIH1640 (JM_n hJH1640) e1644 m1645 (by omega) (by omega)
                      · refine g_iload rfl ?_
                        refine g_aload_n rfl ?_
                        refine g_gfr hIH1640 sm_0 rfl ?_
                        refine g_iload rfl ?_
                        refine g_iaload hIH1640 sm_22 rfl (by omega) (fun v1655 ev1655 lv1655 uv1655 => ?_)
                        refine g_iload_n rfl ?_
                        refine g_if2_ne (fun c1656 => ?_) (fun c1656 => ?_)
                        · refine g_iconst (by decide) (fun v1657 kv1657 => ?_)
                          refine g_nop ?_
                          refine g_iadd (by have := gz_any v1647; omega) (fun v1658 ev1658 => ?_)
                          refine g_istore (l' := [(0, .ref 0), (1, .int a1), (2, .int a2), (3, .int v1628), (4, .int v1658), (5, .int v1633), (6, .int v1648)]) rfl rfl ?_
                          refine g_iinc (l' := (fun v1659 => [(0, .ref 0), (1, .int a1), (2, .int a2), (3, .int v1628), (4, .int v1658), (5, .int v1633), (6, .int v1659)])) rfl rfl (by decide) (by omega) (fun _ => rfl) (fun v1659 ev1659 => ?_)
                          refine g_goto ?_
                          exact ihL1649 v1658 v1659 (by omega) (by omega)
                        · refine g_aload_n rfl ?_
                          refine g_gfr hIH1640 sm_0 rfl ?_
                          refine g_iload rfl ?_
                          refine g_iconst (by decide) (fun v1660 kv1660 => ?_)
                          refine g_iadd (by omega) (fun v1661 ev1661 => ?_)
                          refine g_iaload hIH1640 sm_22 rfl (by omega) (fun v1662 ev1662 lv1662 uv1662 => ?_)
                          refine g_iload_n rfl ?_
                          refine g_if2_ne (fun c1663 => ?_) (fun c1663 => ?_)
                          · refine g_iconst (by decide) (fun v1664 kv1664 => ?_)
                            refine g_nop ?_
                            refine g_iadd (by have := gz_any v1647; omega) (fun v1665 ev1665 => ?_)
                            refine g_istore (l' := [(0, .ref 0), (1, .int a1), (2, .int a2), (3, .int v1628), (4, .int v1665), (5, .int v1633), (6, .int v1648)]) rfl rfl ?_
                            refine g_iinc (l' := (fun v1666 => [(0, .ref 0), (1, .int a1), (2, .int a2), (3, .int v1628), (4, .int v1665), (5, .int v1633), (6, .int v1666)])) rfl rfl (by decide) (by omega) (fun _ => rfl) (fun v1666 ev1666 => ?_)
                            refine g_goto ?_
                            exact ihL1649 v1665 v1666 (by omega) (by omega)
                          · refine g_iconst (by decide) (fun v1667 kv1667 => ?_)
                            refine g_goto ?_
                            refine g_iadd' (fun v1668 ov1668 => ?_)
                            refine g_istore (l' := [(0, .ref 0), (1, .int a1), (2, .int a2), (3, .int v1628), (4, .int v1668), (5, .int v1633), (6, .int v1648)]) rfl rfl ?_
                            refine g_iinc (l' := (fun v1669 => [(0, .ref 0), (1, .int a1), (2, .int a2), (3, .int v1628), (4, .int v1668), (5, .int v1633), (6, .int v1669)])) rfl rfl (by decide) (by omega) (fun _ => rfl) (fun v1669 ev1669 => ?_)
                            refine g_goto ?_
                            exact ihL1649 v1668 v1669 (by omega) (by omega)
                  exact L1649 _ v1632 v1646 (by omega) (Nat.lt_succ_self _)
            exact L1637 _ v1630 v1631 H1465 hIH1465 hJH1465 e1466 m1467 (by omega) (Nat.lt_succ_self _)
          · exfalso; omega
      · refine g_iload_n rfl ?_
        refine g_bipush (by decide) (fun v1670 kv1670 => ?_)
        refine g_if2_eq (fun c1671 => ?_) (fun c1671 => ?_)
        · refine g_iload_n rfl ?_
          refine g_iload_n rfl ?_
          refine g_if2_eq (fun c1672 => ?_) (fun c1672 => ?_)
          · refine g_iconst (by decide) (fun v1673 kv1673 => ?_)
            refine g_nop ?_
            refine g_istore_n (l' := [(0, .ref 0), (1, .int a1), (2, .int a2), (3, .int v1673)]) rfl rfl ?_
            refine g_iload_n rfl ?_
            refine g_if_ne (fun c1674 => ?_) (fun c1674 => ?_)
            · exfalso; omega
            · refine g_iconst (by decide) (fun v1675 kv1675 => ?_)
              exact g_iret ⟨_, rfl, hIH1465, hJH1465, (e1466.symm.trans ek0_2), m1467⟩
          · exfalso; omega
        · refine g_iload_n rfl ?_
          refine g_bipush (by decide) (fun v1676 kv1676 => ?_)
          refine g_if2_ne (fun c1677 => ?_) (fun c1677 => ?_)
          · refine g_iconst (by decide) (fun v1678 kv1678 => ?_)
            refine g_nop ?_
            refine g_istore_n (l' := [(0, .ref 0), (1, .int a1), (2, .int a2), (3, .int v1678)]) rfl rfl ?_
            refine g_iload_n rfl ?_
            refine g_if_ne (fun c1679 => ?_) (fun c1679 => ?_)
            · exfalso; omega
            · refine g_iconst (by decide) (fun v1680 kv1680 => ?_)
              exact g_iret ⟨_, rfl, hIH1465, hJH1465, (e1466.symm.trans ek0_2), m1467⟩
          · refine g_nop ?_
            refine g_iload_n rfl ?_
            refine g_iload_n rfl ?_
            refine g_if2_eq (fun c1681 => ?_) (fun c1681 => ?_)
            · exfalso; omega
            · refine g_iconst (by decide) (fun v1682 kv1682 => ?_)
              refine g_goto ?_
              refine g_istore_n (l' := [(0, .ref 0), (1, .int a1), (2, .int a2), (3, .int v1682)]) rfl rfl ?_
              refine g_iload_n rfl ?_
              refine g_if_ne (fun c1683 => ?_) (fun c1683 => ?_)
              · refine g_iconst (by decide) (fun v1684 kv1684 => ?_)
                refine g_istore (l' := [(0, .ref 0), (1, .int a1), (2, .int a2), (3, .int v1682), (4, .int v1684)]) rfl rfl ?_
                refine g_iconst (by decide) (fun v1685 kv1685 => ?_)
                refine g_istore (l' := [(0, .ref 0), (1, .int a1), (2, .int a2), (3, .int v1682), (4, .int v1684), (5, .int v1685)]) rfl rfl ?_
                refine g_nop ?_
                have L1691 : ∀ (N : Nat) (v1686 : Int32) (v1687 : Int32) (H1688 : mzH), gI SM H1688 → JN H1688 → k0_2 = fZ H1688 0 2 → kpM H H1688 → (0 ≤ v1687.toInt ∧ v1687.toInt ≤ 40) → (40 - v1687.toInt).toNat < N → gG 7 zB_218 (mzBlk zB_218 6) [(0, .ref 0), (1, .int a1), (2, .int a2), (3, .int v1682), (4, .int v1686), (5, .int v1687)] [] H1688 0 0 (gRi (fun v H' => gI SM H' ∧ JN H' ∧ fZ H' 0 2 = fZ H 0 2 ∧ kpM H H')) := by
                  intro N
                  induction N with
                  | zero => intro v1686 v1687 H1688 hIH1688 hJH1688 e1689 m1690 bv1687 hmL1691; exact absurd hmL1691 (Nat.not_lt_zero _)
                  | succ N ihL1691 =>
                    intro v1686 v1687 H1688 hIH1688 hJH1688 e1689 m1690 bv1687 hmL1691
                    refine g_iload rfl ?_
                    refine g_bipush (by decide) (fun v1692 kv1692 => ?_)
                    refine g_if2_ge (fun c1693 => ?_) (fun c1693 => ?_)
                    · refine g_iload rfl ?_
                      exact g_iret ⟨_, rfl, hIH1688, hJH1688, (e1689.symm.trans ek0_2), m1690⟩
                    · refine g_aload_n rfl ?_
                      refine g_iload rfl ?_
                      refine g_invvv hIH1688 sm_0 rfl rfl rfl rfl (s_214 v1687 (by omega) H1688 hIH1688 hJH1688) (fun H1694 r1695 => ?_)
                      obtain ⟨hIH1694, hJH1694, w1696, m1697⟩ := r1695
                      have e1698 : k0_2 = fZ H1694 0 2 := e1689.trans w1696.symm
                      have m1699 : kpM H H1694 := kpM_t m1690 m1697
                      refine g_iconst (by decide) (fun v1700 kv1700 => ?_)
                      refine g_istore (l' := [(0, .ref 0), (1, .int a1), (2, .int a2), (3, .int v1682), (4, .int v1686), (5, .int v1687), (6, .int v1700)]) rfl rfl ?_
                      refine g_nop ?_
                      have L1703 : ∀ (N : Nat) (v1701 : Int32) (v1702 : Int32), (0 ≤ v1702.toInt ∧ v1702.toInt ≤ 59) → (59 - v1702.toInt).toNat < N → gG 7 zB_218 (mzBlk zB_218 7) [(0, .ref 0), (1, .int a1), (2, .int a2), (3, .int v1682), (4, .int v1701), (5, .int v1687), (6, .int v1702)] [] H1694 0 0 (gRi (fun v H' => gI SM H' ∧ JN H' ∧ fZ H' 0 2 = fZ H 0 2 ∧ kpM H H')) := by
                        intro N
                        induction N with
                        | zero => intro v1701 v1702 bv1702 hmL1703; exact absurd hmL1703 (Nat.not_lt_zero _)
                        | succ N ihL1703 =>
                          intro v1701 v1702 bv1702 hmL1703
                          refine g_iload rfl ?_
                          refine g_iconst (by decide) (fun v1704 kv1704 => ?_)
                          refine g_iadd (by omega) (fun v1705 ev1705 => ?_)
                          refine g_aload_n rfl ?_
                          refine g_gfi hIH1694 sm_0 rfl (fun v1706 ev1706 lv1706 uv1706 => ?_)
                          refine g_if2_ge (fun c1707 => ?_) (fun c1707 => ?_)
                          · refine g_iinc (l' := (fun v1708 => [(0, .ref 0), (1, .int a1), (2, .int a2), (3, .int v1682), (4, .int v1701), (5, .int v1708), (6, .int v1702)])) rfl rfl (by decide) (by omega) (fun _ => rfl) (fun v1708 ev1708 => ?_)
                            refine g_goto ?_
                            refine gG_pick [0, 1, 2, 3, 4, 5] (l' := [(0, .ref 0), (1, .int a1), (2, .int a2), (3, .int v1682), (4, .int v1701), (5, .int v1708)]) rfl ?_
                            exact ihL1691 v1701 v1708 H1694 hIH1694 (JM_n hJH1694) e1698 m1699 (by omega) (by omega)
                          · refine g_iload rfl ?_
                            refine g_aload_n rfl ?_
                            refine g_gfr hIH1694 sm_0 rfl ?_
                            refine g_iload rfl ?_
                            refine g_iaload hIH1694 sm_22 rfl (by omega) (fun v1709 ev1709 lv1709 uv1709 => ?_)
                            refine g_iload_n rfl ?_
                            refine g_if2_ne (fun c1710 => ?_) (fun c1710 => ?_)
                            · refine g_iconst (by decide) (fun v1711 kv1711 => ?_)
                              refine g_nop ?_
                              refine g_iadd (by have := gz_any v1701; omega) (fun v1712 ev1712 => ?_)
                              refine g_istore (l' := [(0, .ref 0), (1, .int a1), (2, .int a2), (3, .int v1682), (4, .int v1712), (5, .int v1687), (6, .int v1702)]) rfl rfl ?_
                              refine g_iinc (l' := (fun v1713 => [(0, .ref 0), (1, .int a1), (2, .int a2), (3, .int v1682), (4, .int v1712), (5, .int v1687), (6, .int v1713)])) rfl rfl (by decide) (by omega) (fun _ => rfl) (fun v1713 ev1713 => ?_)
                              refine g_goto ?_
                              exact ihL1703 v1712 v1713 (by omega) (by omega)
                            · refine g_aload_n rfl ?_
                              refine g_gfr hIH1694 sm_0 rfl ?_
                              refine g_iload rfl ?_
                              refine g_iconst (by decide) (fun v1714 kv1714 => ?_)
                              refine g_iadd (by omega) (fun v1715 ev1715 => ?_)
                              refine g_iaload hIH1694 sm_22 rfl (by omega) (fun v1716 ev1716 lv1716 uv1716 => ?_)
                              refine g_iload_n rfl ?_
                              refine g_if2_ne (fun c1717 => ?_) (fun c1717 => ?_)
                              · refine g_iconst (by decide) (fun v1718 kv1718 => ?_)
                                refine g_nop ?_
                                refine g_iadd (by have := gz_any v1701; omega) (fun v1719 ev1719 => ?_)
                                refine g_istore (l' := [(0, .ref 0), (1, .int a1), (2, .int a2), (3, .int v1682), (4, .int v1719), (5, .int v1687), (6, .int v1702)]) rfl rfl ?_
                                refine g_iinc (l' := (fun v1720 => [(0, .ref 0), (1, .int a1), (2, .int a2), (3, .int v1682), (4, .int v1719), (5, .int v1687), (6, .int v1720)])) rfl rfl (by decide) (by omega) (fun _ => rfl) (fun v1720 ev1720 => ?_)
                                refine g_goto ?_
                                exact ihL1703 v1719 v1720 (by omega) (by omega)
                              · refine g_iconst (by decide) (fun v1721 kv1721 => ?_)
                                refine g_goto ?_
                                refine g_iadd' (fun v1722 ov1722 => ?_)
                                refine g_istore (l' := [(0, .ref 0), (1, .int a1), (2, .int a2), (3, .int v1682), (4, .int v1722), (5, .int v1687), (6, .int v1702)]) rfl rfl ?_
                                refine g_iinc (l' := (fun v1723 => [(0, .ref 0), (1, .int a1), (2, .int a2), (3, .int v1682), (4, .int v1722), (5, .int v1687), (6, .int v1723)])) rfl rfl (by decide) (by omega) (fun _ => rfl) (fun v1723 ev1723 => ?_)
                                refine g_goto ?_
                                exact ihL1703 v1722 v1723 (by omega) (by omega)
                      exact L1703 _ v1686 v1700 (by omega) (Nat.lt_succ_self _)
                exact L1691 _ v1684 v1685 H1465 hIH1465 hJH1465 e1466 m1467 (by omega) (Nat.lt_succ_self _)
              · exfalso; omega
set_option maxRecDepth 4000 in
set_option maxHeartbeats 4000000 in
/-- M.runsFirst -/
theorem s_219 (a1 : Int32) (ha1 : 0 ≤ a1.toInt ∧ a1.toInt ≤ 60) (H : mzH) (hI : gI SM H) (hJ : JN H) : gCall 219 [.ref 0, .int a1] H (gRv (fun H' => gI SM H' ∧ JM H' ∧ fZ H' 0 2 = fZ H 0 2 ∧ kpM H H')) := by
  obtain ⟨k0_2, ek0_2⟩ : ∃ z, z = fZ H 0 2 := ⟨_, rfl⟩
  have ik0_2 : k0_2.toInt = (fZ H 0 2).toInt := by rw [← ek0_2]
  have bk0_2 : 0 ≤ k0_2.toInt ∧ k0_2.toInt ≤ 900 := by rw [ek0_2]; exact fZ_of hI sm_0 rfl
  have mkfr : kpM H H := kpM_r
  refine gG_call [(0, .ref 0), (1, .int a1)] ⟨rfl, rfl, trivial⟩ ?_
  show gG 3 zB_219 (mzBlk zB_219 0) [(0, .ref 0), (1, .int a1)] [] H 0 0 _
  refine g_aload_n rfl ?_
  refine g_invvv hI sm_0 rfl rfl rfl rfl (s_182 H hI hJ) (fun H125 r126 => ?_)
  obtain ⟨hIH125, hJH125, m127, m128, m129, p130⟩ := r126
  have e131 : k0_2 = fZ H125 0 2 := ek0_2.trans (m127 0 2).symm
  have m132 : kpM H H125 := kpM_t mkfr m129
  refine g_iload_n rfl ?_
  refine g_istore_n (l' := [(0, .ref 0), (1, .int a1), (2, .int a1)]) rfl rfl ?_
  refine g_nop ?_
  have L137 : ∀ (N : Nat) (v133 : Int32) (H134 : mzH), gI SM H134 → JN H134 → k0_2 = fZ H134 0 2 → kpM H H134 → (0 ≤ v133.toInt ∧ v133.toInt ≤ 60) → (60 - v133.toInt).toNat < N → gG 3 zB_219 (mzBlk zB_219 1) [(0, .ref 0), (1, .int a1), (2, .int v133)] [] H134 0 0 (gRv (fun H' => gI SM H' ∧ JM H' ∧ fZ H' 0 2 = fZ H 0 2 ∧ kpM H H')) := by
    intro N
    induction N with
    | zero => intro v133 H134 hIH134 hJH134 e135 m136 bv133 hmL137; exact absurd hmL137 (Nat.not_lt_zero _)
    | succ N ihL137 =>
      intro v133 H134 hIH134 hJH134 e135 m136 bv133 hmL137
      refine g_iload_n rfl ?_
      refine g_aload_n rfl ?_
      refine g_invvi hIH134 sm_0 rfl rfl rfl rfl (s_180 H134 hIH134 hJH134) (fun v140 H138 r139 => ?_)
      obtain ⟨rfl, bv140, p141⟩ := r139
      refine g_if2_ge (fun c142 => ?_) (fun c142 => ?_)
      · refine g_aload_n rfl ?_
        refine g_sipush (by decide) (fun v143 kv143 => ?_)
        refine g_invvv hIH134 sm_0 rfl rfl rfl rfl (s_198 v143 H134 hIH134 hJH134) (fun H144 r145 => ?_)
        obtain ⟨hIH144, hJH144, w146, w147, w148, w149, m150, m151, m152, p153⟩ := r145
        have e154 : k0_2 = fZ H144 0 2 := e135.trans w146.symm
        have m155 : kpM H H144 := kpM_t m136 m152
        exact g_ret ⟨rfl, hIH144, hJH144, (e154.symm.trans ek0_2), m155⟩
      · refine g_aload_n rfl ?_
        refine g_gfr hIH134 sm_0 rfl ?_
        refine g_iload_n rfl ?_
        refine g_iconst (by decide) (fun v156 kv156 => ?_)
        refine g_zastore hIH134 sm_17 (by omega) (by omega) (fun H157 eH157 hIH157 => ?_)
        have hJH157 : JN H157 := JN_sA (by decide) eH157 hJH134
        have e158 : k0_2 = fZ H157 0 2 := by rw [eH157, fZ_sA]; exact e135
        have m159 : kpM H H157 := kpM_A m136 eH157 (by omega)
        refine g_iinc (l' := (fun v160 => [(0, .ref 0), (1, .int a1), (2, .int v160)])) rfl rfl (by decide) (by omega) (fun _ => rfl) (fun v160 ev160 => ?_)
        refine g_goto ?_
        exact ihL137 v160 H157 hIH157 hJH157 e158 m159 (by omega) (by omega)
  exact L137 _ a1 H125 hIH125 hJH125 e131 m132 (by omega) (Nat.lt_succ_self _)
set_option maxRecDepth 4000 in
set_option maxHeartbeats 4000000 in
/-- M.known -/
theorem s_220 (a1 : Int32) (a2 : Int32) (H : mzH) (hI : gI SM H) (hJ : JN H) : gCall 220 [.ref 0, .int a1, .int a2] H (gRi (fun v H' => gI SM H' ∧ JN H' ∧ fZ H' 0 2 = fZ H 0 2 ∧ kpM H H')) := by
  obtain ⟨k0_2, ek0_2⟩ : ∃ z, z = fZ H 0 2 := ⟨_, rfl⟩
  have ik0_2 : k0_2.toInt = (fZ H 0 2).toInt := by rw [← ek0_2]
  have bk0_2 : 0 ≤ k0_2.toInt ∧ k0_2.toInt ≤ 900 := by rw [ek0_2]; exact fZ_of hI sm_0 rfl
  have mkfr : kpM H H := kpM_r
  refine gG_call [(0, .ref 0), (1, .int a1), (2, .int a2)] ⟨rfl, rfl, rfl, trivial⟩ ?_
  show gG 3 zB_220 (mzBlk zB_220 0) [(0, .ref 0), (1, .int a1), (2, .int a2)] [] H 0 0 _
  refine g_aload_n rfl ?_
  refine g_iconst (by decide) (fun v109 kv109 => ?_)
  refine g_pfi hI sm_0 rfl (gz_any _) (fun H110 eH110 hIH110 => ?_)
  have hJH110 : JN H110 := JN_sF eH110 hJ
  have e111 : k0_2 = fZ H110 0 2 := by rw [eH110, fZ_sF_ne (by decide)]; exact ek0_2
  have m112 : kpM H H110 := kpM_F mkfr eH110 (by omega)
  refine g_iload_n rfl ?_
  refine g_if_lt (fun c113 => ?_) (fun c113 => ?_)
  · refine g_iconst (by decide) (fun v114 kv114 => ?_)
    exact g_iret ⟨_, rfl, hIH110, hJH110, (e111.symm.trans ek0_2), m112⟩
  · refine g_iload_n rfl ?_
    refine g_aload_n rfl ?_
    refine g_invvi hIH110 sm_0 rfl rfl rfl rfl (s_180 H110 hIH110 hJH110) (fun v117 H115 r116 => ?_)
    obtain ⟨rfl, bv117, p118⟩ := r116
    refine g_if2_gt (fun c119 => ?_) (fun c119 => ?_)
    · refine g_iconst (by decide) (fun v120 kv120 => ?_)
      exact g_iret ⟨_, rfl, hIH110, hJH110, (e111.symm.trans ek0_2), m112⟩
    · refine g_iload_n rfl ?_
      refine g_invti rfl rfl rfl (s_205 a2 H110 hIH110 hJH110) (fun v123 H121 r122 => ?_)
      obtain ⟨rfl, bv123, p124⟩ := r122
      refine g_if_ne (fun c125 => ?_) (fun c125 => ?_)
      · refine g_aload_n rfl ?_
        refine g_iload_n rfl ?_
        refine g_invvv hIH110 sm_0 rfl rfl rfl rfl (s_219 a1 (by omega) H110 hIH110 hJH110) (fun H126 r127 => ?_)
        obtain ⟨hIH126, hJH126, w128, m129⟩ := r127
        have e130 : k0_2 = fZ H126 0 2 := e111.trans w128.symm
        have m131 : kpM H H126 := kpM_t m112 m129
        refine g_aload_n rfl ?_
        refine g_iload_n rfl ?_
        refine g_invvi hIH126 sm_0 rfl rfl rfl rfl (s_201 a2 (by omega) H126 hIH126 hJH126) (fun v134 H132 r133 => ?_)
        obtain ⟨rfl, bv134⟩ := r133
        exact g_iret ⟨_, rfl, hIH126, (JM_n hJH126), (e130.symm.trans ek0_2), m131⟩
      · refine g_nop ?_
        refine g_iconst (by decide) (fun v135 kv135 => ?_)
        exact g_iret ⟨_, rfl, hIH110, hJH110, (e111.symm.trans ek0_2), m112⟩
set_option maxRecDepth 4000 in
set_option maxHeartbeats 4000000 in
/-- M.changed -/
theorem s_221 (a1 : Int32) (H : mzH) (hI : gI SM H) (hJ : JN H) : gCall 221 [.ref 0, .int a1] H (gRi (fun v H' => gI SM H' ∧ JN H' ∧ fZ H' 0 2 = fZ H 0 2 ∧ kpM H H')) := by
  obtain ⟨k0_2, ek0_2⟩ : ∃ z, z = fZ H 0 2 := ⟨_, rfl⟩
  have ik0_2 : k0_2.toInt = (fZ H 0 2).toInt := by rw [← ek0_2]
  have bk0_2 : 0 ≤ k0_2.toInt ∧ k0_2.toInt ≤ 900 := by rw [ek0_2]; exact fZ_of hI sm_0 rfl
  have mkfr : kpM H H := kpM_r
  refine gG_call [(0, .ref 0), (1, .int a1)] ⟨rfl, rfl, trivial⟩ ?_
  show gG 4 zB_221 (mzBlk zB_221 0) [(0, .ref 0), (1, .int a1)] [] H 0 0 _
  refine g_aload_n rfl ?_
  refine g_iconst (by decide) (fun v713 kv713 => ?_)
  refine g_pfi hI sm_0 rfl (gz_any _) (fun H714 eH714 hIH714 => ?_)
  have hJH714 : JN H714 := JN_sF eH714 hJ
  have e715 : k0_2 = fZ H714 0 2 := by rw [eH714, fZ_sF_ne (by decide)]; exact ek0_2
  have m716 : kpM H H714 := kpM_F mkfr eH714 (by omega)
  refine g_iload_n rfl ?_
  refine g_if_lt (fun c717 => ?_) (fun c717 => ?_)
  · refine g_iconst (by decide) (fun v718 kv718 => ?_)
    exact g_iret ⟨_, rfl, hIH714, hJH714, (e715.symm.trans ek0_2), m716⟩
  · refine g_iload_n rfl ?_
    refine g_aload_n rfl ?_
    refine g_invvi hIH714 sm_0 rfl rfl rfl rfl (s_180 H714 hIH714 hJH714) (fun v721 H719 r720 => ?_)
    obtain ⟨rfl, bv721, p722⟩ := r720
    refine g_if2_lt (fun c723 => ?_) (fun c723 => ?_)
    · refine g_aload_n rfl ?_
      refine g_iload_n rfl ?_
      refine g_invvv hIH714 sm_0 rfl rfl rfl rfl (s_219 a1 (by omega) H714 hIH714 hJH714) (fun H724 r725 => ?_)
      obtain ⟨hIH724, hJH724, w726, m727⟩ := r725
      have e728 : k0_2 = fZ H724 0 2 := e715.trans w726.symm
      have m729 : kpM H H724 := kpM_t m716 m727
      refine g_iconst (by decide) (fun v730 kv730 => ?_)
      refine g_istore_n (l' := [(0, .ref 0), (1, .int a1), (2, .int v730)]) rfl rfl ?_
      refine g_nop ?_
      have L735 : ∀ (N : Nat) (v731 : Int32) (H732 : mzH), gI SM H732 → JM H732 → k0_2 = fZ H732 0 2 → kpM H H732 → (0 ≤ v731.toInt ∧ v731.toInt ≤ 40) → (40 - v731.toInt).toNat < N → gG 4 zB_221 (mzBlk zB_221 3) [(0, .ref 0), (1, .int a1), (2, .int v731)] [] H732 0 0 (gRi (fun v H' => gI SM H' ∧ JN H' ∧ fZ H' 0 2 = fZ H 0 2 ∧ kpM H H')) := by
        intro N
        induction N with
        | zero => intro v731 H732 hIH732 hJH732 e733 m734 bv731 hmL735; exact absurd hmL735 (Nat.not_lt_zero _)
        | succ N ihL735 =>
          intro v731 H732 hIH732 hJH732 e733 m734 bv731 hmL735
          refine g_iload_n rfl ?_
          refine g_bipush (by decide) (fun v736 kv736 => ?_)
          refine g_if2_ge (fun c737 => ?_) (fun c737 => ?_)
          · refine g_aload_n rfl ?_
            refine g_iload_n rfl ?_
            refine g_iconst (by decide) (fun v738 kv738 => ?_)
            refine g_iadd (by omega) (fun v739 ev739 => ?_)
            refine g_invvv hIH732 sm_0 rfl rfl rfl rfl (s_219 v739 (by omega) H732 hIH732 (JM_n hJH732)) (fun H740 r741 => ?_)
            obtain ⟨hIH740, hJH740, w742, m743⟩ := r741
            have e744 : k0_2 = fZ H740 0 2 := e733.trans w742.symm
            have m745 : kpM H H740 := kpM_t m734 m743
            refine g_iconst (by decide) (fun v746 kv746 => ?_)
            refine g_istore_n (l' := [(0, .ref 0), (1, .int a1), (2, .int v746)]) rfl rfl ?_
            refine g_iconst (by decide) (fun v747 kv747 => ?_)
            refine g_istore_n (l' := [(0, .ref 0), (1, .int a1), (2, .int v746), (3, .int v747)]) rfl rfl ?_
            refine g_nop ?_
            have L750 : ∀ (N : Nat) (v748 : Int32) (v749 : Int32), (0 ≤ v749.toInt ∧ v749.toInt ≤ 40) → (40 - v749.toInt).toNat < N → gG 4 zB_221 (mzBlk zB_221 5) [(0, .ref 0), (1, .int a1), (2, .int v748), (3, .int v749)] [] H740 0 0 (gRi (fun v H' => gI SM H' ∧ JN H' ∧ fZ H' 0 2 = fZ H 0 2 ∧ kpM H H')) := by
              intro N
              induction N with
              | zero => intro v748 v749 bv749 hmL750; exact absurd hmL750 (Nat.not_lt_zero _)
              | succ N ihL750 =>
                intro v748 v749 bv749 hmL750
                refine g_iload_n rfl ?_
                refine g_bipush (by decide) (fun v751 kv751 => ?_)
                refine g_if2_ge (fun c752 => ?_) (fun c752 => ?_)
                · refine g_iload_n rfl ?_
                  exact g_iret ⟨_, rfl, hIH740, (JM_n hJH740), (e744.symm.trans ek0_2), m745⟩
                · refine g_iload_n rfl ?_
                  refine g_aload_n rfl ?_
                  refine g_iload_n rfl ?_
                  refine g_invvi hIH740 sm_0 rfl rfl rfl rfl (s_201 v749 (by omega) H740 hIH740 hJH740) (fun v755 H753 r754 => ?_)
                  obtain ⟨rfl, bv755⟩ := r754
                  refine g_aload_n rfl ?_
                  refine g_gfr hIH740 sm_0 rfl ?_
                  refine g_iload_n rfl ?_
                  refine g_iaload hIH740 sm_24 rfl (by omega) (fun v756 ev756 lv756 uv756 => ?_)
                  refine g_if2_ne (fun c757 => ?_) (fun c757 => ?_)
                  · refine g_iconst (by decide) (fun v758 kv758 => ?_)
                    refine g_nop ?_
                    refine g_iadd' (fun v759 ov759 => ?_)
                    refine g_istore_n (l' := [(0, .ref 0), (1, .int a1), (2, .int v759), (3, .int v749)]) rfl rfl ?_
                    refine g_iinc (l' := (fun v760 => [(0, .ref 0), (1, .int a1), (2, .int v759), (3, .int v760)])) rfl rfl (by decide) (by omega) (fun _ => rfl) (fun v760 ev760 => ?_)
                    refine g_goto ?_
                    exact ihL750 v759 v760 (by omega) (by omega)
                  · refine g_iconst (by decide) (fun v761 kv761 => ?_)
                    refine g_goto ?_
                    refine g_iadd (by have := gz_any v748; omega) (fun v762 ev762 => ?_)
                    refine g_istore_n (l' := [(0, .ref 0), (1, .int a1), (2, .int v762), (3, .int v749)]) rfl rfl ?_
                    refine g_iinc (l' := (fun v763 => [(0, .ref 0), (1, .int a1), (2, .int v762), (3, .int v763)])) rfl rfl (by decide) (by omega) (fun _ => rfl) (fun v763 ev763 => ?_)
                    refine g_goto ?_
                    exact ihL750 v762 v763 (by omega) (by omega)
            exact L750 _ v746 v747 (by omega) (Nat.lt_succ_self _)
          · refine g_aload_n rfl ?_
            refine g_gfr hIH732 sm_0 rfl ?_
            refine g_iload_n rfl ?_
            refine g_aload_n rfl ?_
            refine g_iload_n rfl ?_
            refine g_invvi hIH732 sm_0 rfl rfl rfl rfl (s_201 v731 (by omega) H732 hIH732 hJH732) (fun v766 H764 r765 => ?_)
            obtain ⟨rfl, bv766⟩ := r765
            refine g_iastore hIH732 sm_24 (by omega) (gz_any _) (fun H767 eH767 hIH767 => ?_)
            have hJH767 : JM H767 := JM_sA (by decide) eH767 hJH732
            have e768 : k0_2 = fZ H767 0 2 := by rw [eH767, fZ_sA]; exact e733
            have m769 : kpM H H767 := kpM_A m734 eH767 (by omega)
            refine g_iinc (l' := (fun v770 => [(0, .ref 0), (1, .int a1), (2, .int v770)])) rfl rfl (by decide) (by omega) (fun _ => rfl) (fun v770 ev770 => ?_)
            refine g_goto ?_
            exact ihL735 v770 H767 hIH767 hJH767 e768 m769 (by omega) (by omega)
      exact L735 _ v730 H724 hIH724 hJH724 e728 m729 (by omega) (Nat.lt_succ_self _)
    · refine g_nop ?_
      refine g_iconst (by decide) (fun v771 kv771 => ?_)
      exact g_iret ⟨_, rfl, hIH714, hJH714, (e715.symm.trans ek0_2), m716⟩
set_option maxRecDepth 4000 in
set_option maxHeartbeats 4000000 in
/-- M.runsWithout -/
theorem s_222 (a1 : Int32) (ha1 : -1 ≤ a1.toInt ∧ a1.toInt ≤ 59) (a2 : Int32) (ha2 : -1 ≤ a2.toInt ∧ a2.toInt ≤ 59) (H : mzH) (hI : gI SM H) (hJ : JN H) : gCall 222 [.ref 0, .int a1, .int a2] H (gRv (fun H' => gI SM H' ∧ JM H' ∧ fZ H' 0 2 = fZ H 0 2 ∧ fZ H' 0 41 = fZ H 0 41 ∧ fZ H' 0 42 = fZ H 0 42 ∧ fZ H' 0 43 = fZ H 0 43 ∧ kpM H H')) := by
  obtain ⟨k0_2, ek0_2⟩ : ∃ z, z = fZ H 0 2 := ⟨_, rfl⟩
  have ik0_2 : k0_2.toInt = (fZ H 0 2).toInt := by rw [← ek0_2]
  have bk0_2 : 0 ≤ k0_2.toInt ∧ k0_2.toInt ≤ 900 := by rw [ek0_2]; exact fZ_of hI sm_0 rfl
  obtain ⟨k0_41, ek0_41⟩ : ∃ z, z = fZ H 0 41 := ⟨_, rfl⟩
  have ik0_41 : k0_41.toInt = (fZ H 0 41).toInt := by rw [← ek0_41]
  obtain ⟨k0_42, ek0_42⟩ : ∃ z, z = fZ H 0 42 := ⟨_, rfl⟩
  have ik0_42 : k0_42.toInt = (fZ H 0 42).toInt := by rw [← ek0_42]
  obtain ⟨k0_43, ek0_43⟩ : ∃ z, z = fZ H 0 43 := ⟨_, rfl⟩
  have ik0_43 : k0_43.toInt = (fZ H 0 43).toInt := by rw [← ek0_43]
  have mkfr : kpM H H := kpM_r
  refine gG_call [(0, .ref 0), (1, .int a1), (2, .int a2)] ⟨rfl, rfl, rfl, trivial⟩ ?_
  show gG 3 zB_222 (mzBlk zB_222 0) [(0, .ref 0), (1, .int a1), (2, .int a2)] [] H 0 0 _
  refine g_aload_n rfl ?_
  refine g_invvv hI sm_0 rfl rfl rfl rfl (s_182 H hI hJ) (fun H409 r410 => ?_)
  obtain ⟨hIH409, hJH409, m411, m412, m413, p414⟩ := r410
  have e415 : k0_2 = fZ H409 0 2 := ek0_2.trans (m411 0 2).symm
  have e416 : k0_41 = fZ H409 0 41 := ek0_41.trans (m411 0 41).symm
  have e417 : k0_42 = fZ H409 0 42 := ek0_42.trans (m411 0 42).symm
  have e418 : k0_43 = fZ H409 0 43 := ek0_43.trans (m411 0 43).symm
  have m419 : kpM H H409 := kpM_t mkfr m413
  refine g_iload_n rfl ?_
  refine g_iconst (by decide) (fun v420 kv420 => ?_)
  refine g_if2_eq (fun c421 => ?_) (fun c421 => ?_)
  · refine g_iload_n rfl ?_
    refine g_iconst (by decide) (fun v422 kv422 => ?_)
    refine g_if2_eq (fun c423 => ?_) (fun c423 => ?_)
    · refine g_aload_n rfl ?_
      refine g_sipush (by decide) (fun v424 kv424 => ?_)
      refine g_invvv hIH409 sm_0 rfl rfl rfl rfl (s_198 v424 H409 hIH409 hJH409) (fun H425 r426 => ?_)
      obtain ⟨hIH425, hJH425, w427, w428, w429, w430, m431, m432, m433, p434⟩ := r426
      have e435 : k0_2 = fZ H425 0 2 := e415.trans w427.symm
      have e436 : k0_41 = fZ H425 0 41 := e416.trans w428.symm
      have e437 : k0_42 = fZ H425 0 42 := e417.trans w429.symm
      have e438 : k0_43 = fZ H425 0 43 := e418.trans w430.symm
      have m439 : kpM H H425 := kpM_t m419 m433
      exact g_ret ⟨rfl, hIH425, hJH425, (e435.symm.trans ek0_2), (e436.symm.trans ek0_41), (e437.symm.trans ek0_42), (e438.symm.trans ek0_43), m439⟩
    · refine g_aload_n rfl ?_
      refine g_gfr hIH409 sm_0 rfl ?_
      refine g_iload_n rfl ?_
      refine g_iconst (by decide) (fun v440 kv440 => ?_)
      refine g_zastore hIH409 sm_17 (by omega) (by omega) (fun H441 eH441 hIH441 => ?_)
      have hJH441 : JN H441 := JN_sA (by decide) eH441 hJH409
      have e442 : k0_2 = fZ H441 0 2 := by rw [eH441, fZ_sA]; exact e415
      have e443 : k0_41 = fZ H441 0 41 := by rw [eH441, fZ_sA]; exact e416
      have e444 : k0_42 = fZ H441 0 42 := by rw [eH441, fZ_sA]; exact e417
      have e445 : k0_43 = fZ H441 0 43 := by rw [eH441, fZ_sA]; exact e418
      have m446 : kpM H H441 := kpM_A m419 eH441 (by omega)
      refine g_nop ?_
      refine g_aload_n rfl ?_
      refine g_sipush (by decide) (fun v447 kv447 => ?_)
      refine g_invvv hIH441 sm_0 rfl rfl rfl rfl (s_198 v447 H441 hIH441 hJH441) (fun H448 r449 => ?_)
      obtain ⟨hIH448, hJH448, w450, w451, w452, w453, m454, m455, m456, p457⟩ := r449
      have e458 : k0_2 = fZ H448 0 2 := e442.trans w450.symm
      have e459 : k0_41 = fZ H448 0 41 := e443.trans w451.symm
      have e460 : k0_42 = fZ H448 0 42 := e444.trans w452.symm
      have e461 : k0_43 = fZ H448 0 43 := e445.trans w453.symm
      have m462 : kpM H H448 := kpM_t m446 m456
      exact g_ret ⟨rfl, hIH448, hJH448, (e458.symm.trans ek0_2), (e459.symm.trans ek0_41), (e460.symm.trans ek0_42), (e461.symm.trans ek0_43), m462⟩
  · refine g_aload_n rfl ?_
    refine g_gfr hIH409 sm_0 rfl ?_
    refine g_iload_n rfl ?_
    refine g_iconst (by decide) (fun v463 kv463 => ?_)
    refine g_zastore hIH409 sm_17 (by omega) (by omega) (fun H464 eH464 hIH464 => ?_)
    have hJH464 : JN H464 := JN_sA (by decide) eH464 hJH409
    have e465 : k0_2 = fZ H464 0 2 := by rw [eH464, fZ_sA]; exact e415
    have e466 : k0_41 = fZ H464 0 41 := by rw [eH464, fZ_sA]; exact e416
    have e467 : k0_42 = fZ H464 0 42 := by rw [eH464, fZ_sA]; exact e417
    have e468 : k0_43 = fZ H464 0 43 := by rw [eH464, fZ_sA]; exact e418
    have m469 : kpM H H464 := kpM_A m419 eH464 (by omega)
    refine g_nop ?_
    refine g_iload_n rfl ?_
    refine g_iconst (by decide) (fun v470 kv470 => ?_)
    refine g_if2_eq (fun c471 => ?_) (fun c471 => ?_)
    · refine g_aload_n rfl ?_
      refine g_sipush (by decide) (fun v472 kv472 => ?_)
      refine g_invvv hIH464 sm_0 rfl rfl rfl rfl (s_198 v472 H464 hIH464 hJH464) (fun H473 r474 => ?_)
      obtain ⟨hIH473, hJH473, w475, w476, w477, w478, m479, m480, m481, p482⟩ := r474
      have e483 : k0_2 = fZ H473 0 2 := e465.trans w475.symm
      have e484 : k0_41 = fZ H473 0 41 := e466.trans w476.symm
      have e485 : k0_42 = fZ H473 0 42 := e467.trans w477.symm
      have e486 : k0_43 = fZ H473 0 43 := e468.trans w478.symm
      have m487 : kpM H H473 := kpM_t m469 m481
      exact g_ret ⟨rfl, hIH473, hJH473, (e483.symm.trans ek0_2), (e484.symm.trans ek0_41), (e485.symm.trans ek0_42), (e486.symm.trans ek0_43), m487⟩
    · refine g_aload_n rfl ?_
      refine g_gfr hIH464 sm_0 rfl ?_
      refine g_iload_n rfl ?_
      refine g_iconst (by decide) (fun v488 kv488 => ?_)
      refine g_zastore hIH464 sm_17 (by omega) (by omega) (fun H489 eH489 hIH489 => ?_)
      have hJH489 : JN H489 := JN_sA (by decide) eH489 hJH464
      have e490 : k0_2 = fZ H489 0 2 := by rw [eH489, fZ_sA]; exact e465
      have e491 : k0_41 = fZ H489 0 41 := by rw [eH489, fZ_sA]; exact e466
      have e492 : k0_42 = fZ H489 0 42 := by rw [eH489, fZ_sA]; exact e467
      have e493 : k0_43 = fZ H489 0 43 := by rw [eH489, fZ_sA]; exact e468
      have m494 : kpM H H489 := kpM_A m469 eH489 (by omega)
      refine g_nop ?_
      refine g_aload_n rfl ?_
      refine g_sipush (by decide) (fun v495 kv495 => ?_)
      refine g_invvv hIH489 sm_0 rfl rfl rfl rfl (s_198 v495 H489 hIH489 hJH489) (fun H496 r497 => ?_)
      obtain ⟨hIH496, hJH496, w498, w499, w500, w501, m502, m503, m504, p505⟩ := r497
      have e506 : k0_2 = fZ H496 0 2 := e490.trans w498.symm
      have e507 : k0_41 = fZ H496 0 41 := e491.trans w499.symm
      have e508 : k0_42 = fZ H496 0 42 := e492.trans w500.symm
      have e509 : k0_43 = fZ H496 0 43 := e493.trans w501.symm
      have m510 : kpM H H496 := kpM_t m494 m504
      exact g_ret ⟨rfl, hIH496, hJH496, (e506.symm.trans ek0_2), (e507.symm.trans ek0_41), (e508.symm.trans ek0_42), (e509.symm.trans ek0_43), m510⟩
set_option maxRecDepth 4000 in
set_option maxHeartbeats 4000000 in
/-- M.without -/
theorem s_223 (a1 : Int32) (a2 : Int32) (H : mzH) (hI : gI SM H) (hJ : JN H) : gCall 223 [.ref 0, .int a1, .int a2] H (gRi (fun v H' => gI SM H' ∧ JN H' ∧ fZ H' 0 2 = fZ H 0 2 ∧ kpM H H')) := by
  obtain ⟨k0_2, ek0_2⟩ : ∃ z, z = fZ H 0 2 := ⟨_, rfl⟩
  have ik0_2 : k0_2.toInt = (fZ H 0 2).toInt := by rw [← ek0_2]
  have bk0_2 : 0 ≤ k0_2.toInt ∧ k0_2.toInt ≤ 900 := by rw [ek0_2]; exact fZ_of hI sm_0 rfl
  have mkfr : kpM H H := kpM_r
  refine gG_call [(0, .ref 0), (1, .int a1), (2, .int a2)] ⟨rfl, rfl, rfl, trivial⟩ ?_
  show gG 3 zB_223 (mzBlk zB_223 0) [(0, .ref 0), (1, .int a1), (2, .int a2)] [] H 0 0 _
  refine g_aload_n rfl ?_
  refine g_iconst (by decide) (fun v125 kv125 => ?_)
  refine g_pfi hI sm_0 rfl (gz_any _) (fun H126 eH126 hIH126 => ?_)
  have hJH126 : JN H126 := JN_sF eH126 hJ
  have e127 : k0_2 = fZ H126 0 2 := by rw [eH126, fZ_sF_ne (by decide)]; exact ek0_2
  have m128 : kpM H H126 := kpM_F mkfr eH126 (by omega)
  refine g_iload_n rfl ?_
  refine g_if_lt (fun c129 => ?_) (fun c129 => ?_)
  · refine g_iconst (by decide) (fun v130 kv130 => ?_)
    exact g_iret ⟨_, rfl, hIH126, hJH126, (e127.symm.trans ek0_2), m128⟩
  · refine g_iload_n rfl ?_
    refine g_aload_n rfl ?_
    refine g_invvi hIH126 sm_0 rfl rfl rfl rfl (s_180 H126 hIH126 hJH126) (fun v133 H131 r132 => ?_)
    obtain ⟨rfl, bv133, p134⟩ := r132
    refine g_if2_ge (fun c135 => ?_) (fun c135 => ?_)
    · refine g_iconst (by decide) (fun v136 kv136 => ?_)
      exact g_iret ⟨_, rfl, hIH126, hJH126, (e127.symm.trans ek0_2), m128⟩
    · refine g_iload_n rfl ?_
      refine g_invti rfl rfl rfl (s_205 a2 H126 hIH126 hJH126) (fun v139 H137 r138 => ?_)
      obtain ⟨rfl, bv139, p140⟩ := r138
      refine g_if_ne (fun c141 => ?_) (fun c141 => ?_)
      · refine g_aload_n rfl ?_
        refine g_iload_n rfl ?_
        refine g_iconst (by decide) (fun v142 kv142 => ?_)
        refine g_invvv hIH126 sm_0 rfl rfl rfl rfl (s_222 a1 (by omega) v142 (by omega) H126 hIH126 hJH126) (fun H143 r144 => ?_)
        obtain ⟨hIH143, hJH143, w145, w146, w147, w148, m149⟩ := r144
        have e150 : k0_2 = fZ H143 0 2 := e127.trans w145.symm
        have m151 : kpM H H143 := kpM_t m128 m149
        refine g_aload_n rfl ?_
        refine g_iload_n rfl ?_
        refine g_invvi hIH143 sm_0 rfl rfl rfl rfl (s_201 a2 (by omega) H143 hIH143 hJH143) (fun v154 H152 r153 => ?_)
        obtain ⟨rfl, bv154⟩ := r153
        exact g_iret ⟨_, rfl, hIH143, (JM_n hJH143), (e150.symm.trans ek0_2), m151⟩
      · refine g_nop ?_
        refine g_iconst (by decide) (fun v155 kv155 => ?_)
        exact g_iret ⟨_, rfl, hIH126, hJH126, (e127.symm.trans ek0_2), m128⟩
set_option maxRecDepth 4000 in
set_option maxHeartbeats 4000000 in
/-- M.refusedNow -/
theorem s_224 (H : mzH) (hI : gI SM H) (hJ : JN H) : gCall 224 [.ref 0] H (gRi (fun v H' => H = H')) := by
  refine gG_call [(0, .ref 0)] ⟨rfl, trivial⟩ ?_
  show gG 3 zB_224 (mzBlk zB_224 0) [(0, .ref 0)] [] H 0 0 _
  refine g_iconst (by decide) (fun v399 kv399 => ?_)
  refine g_istore_n (l' := [(0, .ref 0), (1, .int v399)]) rfl rfl ?_
  refine g_iconst (by decide) (fun v400 kv400 => ?_)
  refine g_istore_n (l' := [(0, .ref 0), (1, .int v399), (2, .int v400)]) rfl rfl ?_
  refine g_nop ?_
  have L403 : ∀ (N : Nat) (v401 : Int32) (v402 : Int32), (0 ≤ v402.toInt ∧ v402.toInt ≤ 60) → (60 - v402.toInt).toNat < N → gG 3 zB_224 (mzBlk zB_224 1) [(0, .ref 0), (1, .int v401), (2, .int v402)] [] H 0 0 (gRi (fun v H' => H = H')) := by
    intro N
    induction N with
    | zero => intro v401 v402 bv402 hmL403; exact absurd hmL403 (Nat.not_lt_zero _)
    | succ N ihL403 =>
      intro v401 v402 bv402 hmL403
      refine g_iload_n rfl ?_
      refine g_aload_n rfl ?_
      refine g_gfi hI sm_0 rfl (fun v404 ev404 lv404 uv404 => ?_)
      refine g_if2_ge (fun c405 => ?_) (fun c405 => ?_)
      · refine g_iload_n rfl ?_
        exact g_iret ⟨_, rfl, rfl⟩
      · refine g_iload_n rfl ?_
        refine g_aload_n rfl ?_
        refine g_gfr hI sm_0 rfl ?_
        refine g_aload_n rfl ?_
        refine g_gfr hI sm_0 rfl ?_
        refine g_iload_n rfl ?_
        refine g_iaload hI sm_19 rfl (by omega) (fun v406 ev406 lv406 uv406 => ?_)
        refine g_iaload hI sm_20 rfl (by omega) (fun v407 ev407 lv407 uv407 => ?_)
        refine g_if_ne (fun c408 => ?_) (fun c408 => ?_)
        · refine g_iconst (by decide) (fun v409 kv409 => ?_)
          refine g_nop ?_
          refine g_iadd' (fun v410 ov410 => ?_)
          refine g_istore_n (l' := [(0, .ref 0), (1, .int v410), (2, .int v402)]) rfl rfl ?_
          refine g_iinc (l' := (fun v411 => [(0, .ref 0), (1, .int v410), (2, .int v411)])) rfl rfl (by decide) (by omega) (fun _ => rfl) (fun v411 ev411 => ?_)
          refine g_goto ?_
          exact ihL403 v410 v411 (by omega) (by omega)
        · refine g_iconst (by decide) (fun v412 kv412 => ?_)
          refine g_goto ?_
          refine g_iadd (by have := gz_any v401; omega) (fun v413 ev413 => ?_)
          refine g_istore_n (l' := [(0, .ref 0), (1, .int v413), (2, .int v402)]) rfl rfl ?_
          refine g_iinc (l' := (fun v414 => [(0, .ref 0), (1, .int v413), (2, .int v414)])) rfl rfl (by decide) (by omega) (fun _ => rfl) (fun v414 ev414 => ?_)
          refine g_goto ?_
          exact ihL403 v413 v414 (by omega) (by omega)
  exact L403 _ v399 v400 (by omega) (Nat.lt_succ_self _)
set_option maxRecDepth 4000 in
set_option maxHeartbeats 4000000 in
/-- M.refused -/
theorem s_225 (a1 : Int32) (H : mzH) (hI : gI SM H) (hJ : JN H) : gCall 225 [.ref 0, .int a1] H (gRi (fun v H' => gI SM H' ∧ JN H' ∧ fZ H' 0 2 = fZ H 0 2 ∧ kpM H H')) := by
  obtain ⟨k0_2, ek0_2⟩ : ∃ z, z = fZ H 0 2 := ⟨_, rfl⟩
  have ik0_2 : k0_2.toInt = (fZ H 0 2).toInt := by rw [← ek0_2]
  have bk0_2 : 0 ≤ k0_2.toInt ∧ k0_2.toInt ≤ 900 := by rw [ek0_2]; exact fZ_of hI sm_0 rfl
  have mkfr : kpM H H := kpM_r
  refine gG_call [(0, .ref 0), (1, .int a1)] ⟨rfl, rfl, trivial⟩ ?_
  show gG 4 zB_225 (mzBlk zB_225 0) [(0, .ref 0), (1, .int a1)] [] H 0 0 _
  refine g_aload_n rfl ?_
  refine g_iconst (by decide) (fun v593 kv593 => ?_)
  refine g_pfi hI sm_0 rfl (gz_any _) (fun H594 eH594 hIH594 => ?_)
  have hJH594 : JN H594 := JN_sF eH594 hJ
  have e595 : k0_2 = fZ H594 0 2 := by rw [eH594, fZ_sF_ne (by decide)]; exact ek0_2
  have m596 : kpM H H594 := kpM_F mkfr eH594 (by omega)
  refine g_iload_n rfl ?_
  refine g_iconst (by decide) (fun v597 kv597 => ?_)
  refine g_if2_lt (fun c598 => ?_) (fun c598 => ?_)
  · refine g_bipush (by decide) (fun v599 kv599 => ?_)
    exact g_iret ⟨_, rfl, hIH594, hJH594, (e595.symm.trans ek0_2), m596⟩
  · refine g_iload_n rfl ?_
    refine g_bipush (by decide) (fun v600 kv600 => ?_)
    refine g_if2_le (fun c601 => ?_) (fun c601 => ?_)
    · refine g_aload_n rfl ?_
      refine g_invvv hIH594 sm_0 rfl rfl rfl rfl (s_199 H594 hIH594 hJH594) (fun H602 r603 => ?_)
      obtain ⟨hIH602, hJH602, w604, w605, w606, w607, m608, m609, p610⟩ := r603
      have e611 : k0_2 = fZ H602 0 2 := e595.trans w604.symm
      have m612 : kpM H H602 := kpM_t m596 m609
      refine g_iload_n rfl ?_
      refine g_iconst (by decide) (fun v613 kv613 => ?_)
      refine g_if2_ne (fun c614 => ?_) (fun c614 => ?_)
      · refine g_iconst (by decide) (fun v615 kv615 => ?_)
        refine g_istore_n (l' := [(0, .ref 0), (1, .int a1), (2, .int v615)]) rfl rfl ?_
        refine g_iconst (by decide) (fun v616 kv616 => ?_)
        refine g_istore_n (l' := [(0, .ref 0), (1, .int a1), (2, .int v615), (3, .int v616)]) rfl rfl ?_
        refine g_nop ?_
        have L619 : ∀ (N : Nat) (v617 : Int32) (v618 : Int32), (0 ≤ v618.toInt ∧ v618.toInt ≤ 60) → (60 - v618.toInt).toNat < N → gG 4 zB_225 (mzBlk zB_225 4) [(0, .ref 0), (1, .int a1), (2, .int v617), (3, .int v618)] [] H602 0 0 (gRi (fun v H' => gI SM H' ∧ JN H' ∧ fZ H' 0 2 = fZ H 0 2 ∧ kpM H H')) := by
          intro N
          induction N with
          | zero => intro v617 v618 bv618 hmL619; exact absurd hmL619 (Nat.not_lt_zero _)
          | succ N ihL619 =>
            intro v617 v618 bv618 hmL619
            refine g_iload_n rfl ?_
            refine g_aload_n rfl ?_
            refine g_invvi hIH602 sm_0 rfl rfl rfl rfl (s_180 H602 hIH602 (JM_n hJH602)) (fun v622 H620 r621 => ?_)
            obtain ⟨rfl, bv622, p623⟩ := r621
            refine g_if2_ge (fun c624 => ?_) (fun c624 => ?_)
            · refine g_iload_n rfl ?_
              exact g_iret ⟨_, rfl, hIH602, (JM_n hJH602), (e611.symm.trans ek0_2), m612⟩
            · refine g_iload_n rfl ?_
              refine g_aload_n rfl ?_
              refine g_gfr hIH602 sm_0 rfl ?_
              refine g_iload_n rfl ?_
              refine g_iaload hIH602 sm_20 rfl (by omega) (fun v625 ev625 lv625 uv625 => ?_)
              refine g_iload_n rfl ?_
              refine g_if2_ne (fun c626 => ?_) (fun c626 => ?_)
              · refine g_iconst (by decide) (fun v627 kv627 => ?_)
                refine g_nop ?_
                refine g_iadd (by have := gz_any v617; omega) (fun v628 ev628 => ?_)
                refine g_istore_n (l' := [(0, .ref 0), (1, .int a1), (2, .int v628), (3, .int v618)]) rfl rfl ?_
                refine g_iinc (l' := (fun v629 => [(0, .ref 0), (1, .int a1), (2, .int v628), (3, .int v629)])) rfl rfl (by decide) (by omega) (fun _ => rfl) (fun v629 ev629 => ?_)
                refine g_goto ?_
                exact ihL619 v628 v629 (by omega) (by omega)
              · refine g_iconst (by decide) (fun v630 kv630 => ?_)
                refine g_goto ?_
                refine g_iadd' (fun v631 ov631 => ?_)
                refine g_istore_n (l' := [(0, .ref 0), (1, .int a1), (2, .int v631), (3, .int v618)]) rfl rfl ?_
                refine g_iinc (l' := (fun v632 => [(0, .ref 0), (1, .int a1), (2, .int v631), (3, .int v632)])) rfl rfl (by decide) (by omega) (fun _ => rfl) (fun v632 ev632 => ?_)
                refine g_goto ?_
                exact ihL619 v631 v632 (by omega) (by omega)
        exact L619 _ v615 v616 (by omega) (Nat.lt_succ_self _)
      · refine g_aload_n rfl ?_
        refine g_invvi hIH602 sm_0 rfl rfl rfl rfl (s_224 H602 hIH602 (JM_n hJH602)) (fun v635 H633 r634 => ?_)
        obtain rfl := r634
        exact g_iret ⟨_, rfl, hIH602, (JM_n hJH602), (e611.symm.trans ek0_2), m612⟩
    · refine g_nop ?_
      refine g_bipush (by decide) (fun v636 kv636 => ?_)
      exact g_iret ⟨_, rfl, hIH594, hJH594, (e595.symm.trans ek0_2), m596⟩
set_option maxRecDepth 4000 in
set_option maxHeartbeats 4000000 in
/-- M.blames -/
theorem s_226 (a1 : Int32) (ha1 : 0 ≤ a1.toInt ∧ a1.toInt ≤ 1) (H : mzH) (hI : gI SM H) (hJ : JN H) : gCall 226 [.ref 0, .int a1] H (gRv (fun H' => gI SM H' ∧ JN H' ∧ fZ H' 0 2 = fZ H 0 2 ∧ kpM H H')) := by
  obtain ⟨k0_2, ek0_2⟩ : ∃ z, z = fZ H 0 2 := ⟨_, rfl⟩
  have ik0_2 : k0_2.toInt = (fZ H 0 2).toInt := by rw [← ek0_2]
  have bk0_2 : 0 ≤ k0_2.toInt ∧ k0_2.toInt ≤ 900 := by rw [ek0_2]; exact fZ_of hI sm_0 rfl
  have mkfr : kpM H H := kpM_r
  refine gG_call [(0, .ref 0), (1, .int a1)] ⟨rfl, rfl, trivial⟩ ?_
  show gG 5 zB_226 (mzBlk zB_226 0) [(0, .ref 0), (1, .int a1)] [] H 0 0 _
  refine g_aload_n rfl ?_
  refine g_iconst (by decide) (fun v1410 kv1410 => ?_)
  refine g_pfi hI sm_0 rfl (gz_any _) (fun H1411 eH1411 hIH1411 => ?_)
  have hJH1411 : JN H1411 := JN_sF eH1411 hJ
  have e1412 : k0_2 = fZ H1411 0 2 := by rw [eH1411, fZ_sF_ne (by decide)]; exact ek0_2
  have m1413 : kpM H H1411 := kpM_F mkfr eH1411 (by omega)
  refine g_iconst (by decide) (fun v1414 kv1414 => ?_)
  refine g_istore_n (l' := [(0, .ref 0), (1, .int a1), (2, .int v1414)]) rfl rfl ?_
  refine g_nop ?_
  have L1419 : ∀ (N : Nat) (v1415 : Int32) (H1416 : mzH), gI SM H1416 → JN H1416 → k0_2 = fZ H1416 0 2 → kpM H H1416 → (0 ≤ v1415.toInt ∧ v1415.toInt ≤ 60) → (60 - v1415.toInt).toNat < N → gG 5 zB_226 (mzBlk zB_226 1) [(0, .ref 0), (1, .int a1), (2, .int v1415)] [] H1416 0 0 (gRv (fun H' => gI SM H' ∧ JN H' ∧ fZ H' 0 2 = fZ H 0 2 ∧ kpM H H')) := by
    intro N
    induction N with
    | zero => intro v1415 H1416 hIH1416 hJH1416 e1417 m1418 bv1415 hmL1419; exact absurd hmL1419 (Nat.not_lt_zero _)
    | succ N ihL1419 =>
      intro v1415 H1416 hIH1416 hJH1416 e1417 m1418 bv1415 hmL1419
      refine g_iload_n rfl ?_
      refine g_aload_n rfl ?_
      refine g_invvi hIH1416 sm_0 rfl rfl rfl rfl (s_180 H1416 hIH1416 hJH1416) (fun v1422 H1420 r1421 => ?_)
      obtain ⟨rfl, bv1422, p1423⟩ := r1421
      refine g_if2_ge (fun c1424 => ?_) (fun c1424 => ?_)
      · exact g_ret ⟨rfl, hIH1416, hJH1416, (e1417.symm.trans ek0_2), m1418⟩
      · refine g_iload_n rfl ?_
        refine g_iconst (by decide) (fun v1425 kv1425 => ?_)
        refine g_iadd (by omega) (fun v1426 ev1426 => ?_)
        refine g_istore_n (l' := [(0, .ref 0), (1, .int a1), (2, .int v1415), (3, .int v1426)]) rfl rfl ?_
        refine g_nop ?_
        have L1431 : ∀ (N : Nat) (v1427 : Int32) (H1428 : mzH), gI SM H1428 → JN H1428 → k0_2 = fZ H1428 0 2 → kpM H H1428 → (1 ≤ v1427.toInt ∧ v1427.toInt ≤ 61) → (61 - v1427.toInt).toNat < N → gG 5 zB_226 (mzBlk zB_226 2) [(0, .ref 0), (1, .int a1), (2, .int v1415), (3, .int v1427)] [] H1428 0 0 (gRv (fun H' => gI SM H' ∧ JN H' ∧ fZ H' 0 2 = fZ H 0 2 ∧ kpM H H')) := by
          intro N
          induction N with
          | zero => intro v1427 H1428 hIH1428 hJH1428 e1429 m1430 bv1427 hmL1431; exact absurd hmL1431 (Nat.not_lt_zero _)
          | succ N ihL1431 =>
            intro v1427 H1428 hIH1428 hJH1428 e1429 m1430 bv1427 hmL1431
            refine g_iload_n rfl ?_
            refine g_iload_n rfl ?_
            refine g_if_eq (fun c1432 => ?_) (fun c1432 => ?_)
            · refine g_iload_n rfl ?_
              refine g_iconst (by decide) (fun v1433 kv1433 => ?_)
              refine g_iadd (by omega) (fun v1434 ev1434 => ?_)
              refine g_nop ?_
              refine g_if2_ge (fun c1435 => ?_) (fun c1435 => ?_)
              · refine g_iinc (l' := (fun v1436 => [(0, .ref 0), (1, .int a1), (2, .int v1436), (3, .int v1427)])) rfl rfl (by decide) (by omega) (fun _ => rfl) (fun v1436 ev1436 => ?_)
                refine g_goto ?_
                refine gG_pick [0, 1, 2] (l' := [(0, .ref 0), (1, .int a1), (2, .int v1436)]) rfl ?_
                exact ihL1419 v1436 H1428 hIH1428 hJH1428 e1429 m1430 (by omega) (by omega)
              · refine g_aload_n rfl ?_
                refine g_iload_n rfl ?_
                refine g_iload_n rfl ?_
                refine g_if_eq (fun c1437 => ?_) (fun c1437 => ?_)
                · refine g_iconst (by decide) (fun v1438 kv1438 => ?_)
                  refine g_nop ?_
                  refine g_invvv hIH1428 sm_0 rfl rfl rfl rfl (s_222 v1415 (by omega) v1438 (by omega) H1428 hIH1428 hJH1428) (fun H1439 r1440 => ?_)
                  obtain ⟨hIH1439, hJH1439, w1441, w1442, w1443, w1444, m1445⟩ := r1440
                  have e1446 : k0_2 = fZ H1439 0 2 := e1429.trans w1441.symm
                  have m1447 : kpM H H1439 := kpM_t m1430 m1445
                  refine g_aload_n rfl ?_
                  refine g_invvi hIH1439 sm_0 rfl rfl rfl rfl (s_224 H1439 hIH1439 (JM_n hJH1439)) (fun v1450 H1448 r1449 => ?_)
                  obtain rfl := r1449
                  refine g_istore (l' := [(0, .ref 0), (1, .int a1), (2, .int v1415), (3, .int v1427), (4, .int v1450)]) rfl rfl ?_
                  refine g_aload_n rfl ?_
                  refine g_gfi hIH1439 sm_0 rfl (fun v1451 ev1451 lv1451 uv1451 => ?_)
                  refine g_iconst (by decide) (fun v1452 kv1452 => ?_)
                  refine g_if2_eq (fun c1453 => ?_) (fun c1453 => ?_)
                  · refine g_aload_n rfl ?_
                    refine g_iload_n rfl ?_
                    refine g_pfi hIH1439 sm_0 rfl (gz_any _) (fun H1454 eH1454 hIH1454 => ?_)
                    have hJH1454 : JM H1454 := JM_sF eH1454 hJH1439
                    have e1455 : k0_2 = fZ H1454 0 2 := by rw [eH1454, fZ_sF_ne (by decide)]; exact e1446
                    have m1456 : kpM H H1454 := kpM_F m1447 eH1454 (by omega)
                    refine g_aload_n rfl ?_
                    refine g_iload_n rfl ?_
                    refine g_pfi hIH1454 sm_0 rfl (gz_any _) (fun H1457 eH1457 hIH1457 => ?_)
                    have hJH1457 : JM H1457 := JM_sF eH1457 hJH1454
                    have e1458 : k0_2 = fZ H1457 0 2 := by rw [eH1457, fZ_sF_ne (by decide)]; exact e1455
                    have m1459 : kpM H H1457 := kpM_F m1456 eH1457 (by omega)
                    refine g_aload_n rfl ?_
                    refine g_iload rfl ?_
                    refine g_pfi hIH1457 sm_0 rfl (gz_any _) (fun H1460 eH1460 hIH1460 => ?_)
                    have hJH1460 : JM H1460 := JM_sF eH1460 hJH1457
                    have e1461 : k0_2 = fZ H1460 0 2 := by rw [eH1460, fZ_sF_ne (by decide)]; exact e1458
                    have m1462 : kpM H H1460 := kpM_F m1459 eH1460 (by omega)
                    refine g_nop ?_
                    refine g_iinc (l' := (fun v1463 => [(0, .ref 0), (1, .int a1), (2, .int v1415), (3, .int v1463), (4, .int v1450)])) rfl rfl (by decide) (by omega) (fun _ => rfl) (fun v1463 ev1463 => ?_)
                    refine g_goto ?_
                    refine gG_pick [0, 1, 2, 3] (l' := [(0, .ref 0), (1, .int a1), (2, .int v1415), (3, .int v1463)]) rfl ?_
                    exact ihL1431 v1463 H1460 hIH1460 (JM_n hJH1460) e1461 m1462 (by omega) (by omega)
                  · refine g_iload rfl ?_
                    refine g_aload_n rfl ?_
                    refine g_gfi hIH1439 sm_0 rfl (fun v1464 ev1464 lv1464 uv1464 => ?_)
                    refine g_if2_lt (fun c1465 => ?_) (fun c1465 => ?_)
                    · refine g_aload_n rfl ?_
                      refine g_iload_n rfl ?_
                      refine g_pfi hIH1439 sm_0 rfl (gz_any _) (fun H1466 eH1466 hIH1466 => ?_)
                      have hJH1466 : JM H1466 := JM_sF eH1466 hJH1439
                      have e1467 : k0_2 = fZ H1466 0 2 := by rw [eH1466, fZ_sF_ne (by decide)]; exact e1446
                      have m1468 : kpM H H1466 := kpM_F m1447 eH1466 (by omega)
                      refine g_aload_n rfl ?_
                      refine g_iload_n rfl ?_
                      refine g_pfi hIH1466 sm_0 rfl (gz_any _) (fun H1469 eH1469 hIH1469 => ?_)
                      have hJH1469 : JM H1469 := JM_sF eH1469 hJH1466
                      have e1470 : k0_2 = fZ H1469 0 2 := by rw [eH1469, fZ_sF_ne (by decide)]; exact e1467
                      have m1471 : kpM H H1469 := kpM_F m1468 eH1469 (by omega)
                      refine g_aload_n rfl ?_
                      refine g_iload rfl ?_
                      refine g_pfi hIH1469 sm_0 rfl (gz_any _) (fun H1472 eH1472 hIH1472 => ?_)
                      have hJH1472 : JM H1472 := JM_sF eH1472 hJH1469
                      have e1473 : k0_2 = fZ H1472 0 2 := by rw [eH1472, fZ_sF_ne (by decide)]; exact e1470
                      have m1474 : kpM H H1472 := kpM_F m1471 eH1472 (by omega)
                      refine g_nop ?_
                      refine g_iinc (l' := (fun v1475 => [(0, .ref 0), (1, .int a1), (2, .int v1415), (3, .int v1475), (4, .int v1450)])) rfl rfl (by decide) (by omega) (fun _ => rfl) (fun v1475 ev1475 => ?_)
                      refine g_goto ?_
                      refine gG_pick [0, 1, 2, 3] (l' := [(0, .ref 0), (1, .int a1), (2, .int v1415), (3, .int v1475)]) rfl ?_
                      exact ihL1431 v1475 H1472 hIH1472 (JM_n hJH1472) e1473 m1474 (by omega) (by omega)
                    · refine g_goto ?_
                      refine g_iinc (l' := (fun v1476 => [(0, .ref 0), (1, .int a1), (2, .int v1415), (3, .int v1476), (4, .int v1450)])) rfl rfl (by decide) (by omega) (fun _ => rfl) (fun v1476 ev1476 => ?_)
                      refine g_goto ?_
                      refine gG_pick [0, 1, 2, 3] (l' := [(0, .ref 0), (1, .int a1), (2, .int v1415), (3, .int v1476)]) rfl ?_
                      exact ihL1431 v1476 H1439 hIH1439 (JM_n hJH1439) e1446 m1447 (by omega) (by omega)
                · exfalso; omega
            · refine g_aload_n rfl ?_
              refine g_invvi hIH1428 sm_0 rfl rfl rfl rfl (s_180 H1428 hIH1428 hJH1428) (fun v1479 H1477 r1478 => ?_)
              obtain ⟨rfl, bv1479, p1480⟩ := r1478
              refine g_goto ?_
              refine g_if2_ge (fun c1481 => ?_) (fun c1481 => ?_)
              · refine g_iinc (l' := (fun v1482 => [(0, .ref 0), (1, .int a1), (2, .int v1482), (3, .int v1427)])) rfl rfl (by decide) (by omega) (fun _ => rfl) (fun v1482 ev1482 => ?_)
                refine g_goto ?_
                refine gG_pick [0, 1, 2] (l' := [(0, .ref 0), (1, .int a1), (2, .int v1482)]) rfl ?_
                exact ihL1419 v1482 H1428 hIH1428 hJH1428 e1429 m1430 (by omega) (by omega)
              · refine g_aload_n rfl ?_
                refine g_iload_n rfl ?_
                refine g_iload_n rfl ?_
                refine g_if_eq (fun c1483 => ?_) (fun c1483 => ?_)
                · exfalso; omega
                · refine g_iload_n rfl ?_
                  refine g_goto ?_
                  refine g_invvv hIH1428 sm_0 rfl rfl rfl rfl (s_222 v1415 (by omega) v1427 (by omega) H1428 hIH1428 hJH1428) (fun H1484 r1485 => ?_)
                  obtain ⟨hIH1484, hJH1484, w1486, w1487, w1488, w1489, m1490⟩ := r1485
                  have e1491 : k0_2 = fZ H1484 0 2 := e1429.trans w1486.symm
                  have m1492 : kpM H H1484 := kpM_t m1430 m1490
                  refine g_aload_n rfl ?_
                  refine g_invvi hIH1484 sm_0 rfl rfl rfl rfl (s_224 H1484 hIH1484 (JM_n hJH1484)) (fun v1495 H1493 r1494 => ?_)
                  obtain rfl := r1494
                  refine g_istore (l' := [(0, .ref 0), (1, .int a1), (2, .int v1415), (3, .int v1427), (4, .int v1495)]) rfl rfl ?_
                  refine g_aload_n rfl ?_
                  refine g_gfi hIH1484 sm_0 rfl (fun v1496 ev1496 lv1496 uv1496 => ?_)
                  refine g_iconst (by decide) (fun v1497 kv1497 => ?_)
                  refine g_if2_eq (fun c1498 => ?_) (fun c1498 => ?_)
                  · refine g_aload_n rfl ?_
                    refine g_iload_n rfl ?_
                    refine g_pfi hIH1484 sm_0 rfl (gz_any _) (fun H1499 eH1499 hIH1499 => ?_)
                    have hJH1499 : JM H1499 := JM_sF eH1499 hJH1484
                    have e1500 : k0_2 = fZ H1499 0 2 := by rw [eH1499, fZ_sF_ne (by decide)]; exact e1491
                    have m1501 : kpM H H1499 := kpM_F m1492 eH1499 (by omega)
                    refine g_aload_n rfl ?_
                    refine g_iload_n rfl ?_
                    refine g_pfi hIH1499 sm_0 rfl (gz_any _) (fun H1502 eH1502 hIH1502 => ?_)
                    have hJH1502 : JM H1502 := JM_sF eH1502 hJH1499
                    have e1503 : k0_2 = fZ H1502 0 2 := by rw [eH1502, fZ_sF_ne (by decide)]; exact e1500
                    have m1504 : kpM H H1502 := kpM_F m1501 eH1502 (by omega)
                    refine g_aload_n rfl ?_
                    refine g_iload rfl ?_
                    refine g_pfi hIH1502 sm_0 rfl (gz_any _) (fun H1505 eH1505 hIH1505 => ?_)
                    have hJH1505 : JM H1505 := JM_sF eH1505 hJH1502
                    have e1506 : k0_2 = fZ H1505 0 2 := by rw [eH1505, fZ_sF_ne (by decide)]; exact e1503
                    have m1507 : kpM H H1505 := kpM_F m1504 eH1505 (by omega)
                    refine g_nop ?_
                    refine g_iinc (l' := (fun v1508 => [(0, .ref 0), (1, .int a1), (2, .int v1415), (3, .int v1508), (4, .int v1495)])) rfl rfl (by decide) (by omega) (fun _ => rfl) (fun v1508 ev1508 => ?_)
                    refine g_goto ?_
                    refine gG_pick [0, 1, 2, 3] (l' := [(0, .ref 0), (1, .int a1), (2, .int v1415), (3, .int v1508)]) rfl ?_
                    exact ihL1431 v1508 H1505 hIH1505 (JM_n hJH1505) e1506 m1507 (by omega) (by omega)
                  · refine g_iload rfl ?_
                    refine g_aload_n rfl ?_
                    refine g_gfi hIH1484 sm_0 rfl (fun v1509 ev1509 lv1509 uv1509 => ?_)
                    refine g_if2_lt (fun c1510 => ?_) (fun c1510 => ?_)
                    · refine g_aload_n rfl ?_
                      refine g_iload_n rfl ?_
                      refine g_pfi hIH1484 sm_0 rfl (gz_any _) (fun H1511 eH1511 hIH1511 => ?_)
                      have hJH1511 : JM H1511 := JM_sF eH1511 hJH1484
                      have e1512 : k0_2 = fZ H1511 0 2 := by rw [eH1511, fZ_sF_ne (by decide)]; exact e1491
                      have m1513 : kpM H H1511 := kpM_F m1492 eH1511 (by omega)
                      refine g_aload_n rfl ?_
                      refine g_iload_n rfl ?_
                      refine g_pfi hIH1511 sm_0 rfl (gz_any _) (fun H1514 eH1514 hIH1514 => ?_)
                      have hJH1514 : JM H1514 := JM_sF eH1514 hJH1511
                      have e1515 : k0_2 = fZ H1514 0 2 := by rw [eH1514, fZ_sF_ne (by decide)]; exact e1512
                      have m1516 : kpM H H1514 := kpM_F m1513 eH1514 (by omega)
                      refine g_aload_n rfl ?_
                      refine g_iload rfl ?_
                      refine g_pfi hIH1514 sm_0 rfl (gz_any _) (fun H1517 eH1517 hIH1517 => ?_)
                      have hJH1517 : JM H1517 := JM_sF eH1517 hJH1514
                      have e1518 : k0_2 = fZ H1517 0 2 := by rw [eH1517, fZ_sF_ne (by decide)]; exact e1515
                      have m1519 : kpM H H1517 := kpM_F m1516 eH1517 (by omega)
                      refine g_nop ?_
                      refine g_iinc (l' := (fun v1520 => [(0, .ref 0), (1, .int a1), (2, .int v1415), (3, .int v1520), (4, .int v1495)])) rfl rfl (by decide) (by omega) (fun _ => rfl) (fun v1520 ev1520 => ?_)
                      refine g_goto ?_
                      refine gG_pick [0, 1, 2, 3] (l' := [(0, .ref 0), (1, .int a1), (2, .int v1415), (3, .int v1520)]) rfl ?_
                      exact ihL1431 v1520 H1517 hIH1517 (JM_n hJH1517) e1518 m1519 (by omega) (by omega)
                    · refine g_goto ?_
                      refine g_iinc (l' := (fun v1521 => [(0, .ref 0), (1, .int a1), (2, .int v1415), (3, .int v1521), (4, .int v1495)])) rfl rfl (by decide) (by omega) (fun _ => rfl) (fun v1521 ev1521 => ?_)
                      refine g_goto ?_
                      refine gG_pick [0, 1, 2, 3] (l' := [(0, .ref 0), (1, .int a1), (2, .int v1415), (3, .int v1521)]) rfl ?_
                      exact ihL1431 v1521 H1484 hIH1484 (JM_n hJH1484) e1491 m1492 (by omega) (by omega)
        exact L1431 _ v1426 H1416 hIH1416 hJH1416 e1417 m1418 (by omega) (Nat.lt_succ_self _)
  exact L1419 _ v1414 H1411 hIH1411 hJH1411 e1412 m1413 (by omega) (Nat.lt_succ_self _)
set_option maxRecDepth 4000 in
set_option maxHeartbeats 4000000 in
/-- M.blamed -/
theorem s_227 (a1 : Int32) (H : mzH) (hI : gI SM H) (hJ : JN H) : gCall 227 [.ref 0, .int a1] H (gRi (fun v H' => gI SM H' ∧ JN H' ∧ fZ H' 0 2 = fZ H 0 2 ∧ kpM H H')) := by
  obtain ⟨k0_2, ek0_2⟩ : ∃ z, z = fZ H 0 2 := ⟨_, rfl⟩
  have ik0_2 : k0_2.toInt = (fZ H 0 2).toInt := by rw [← ek0_2]
  have bk0_2 : 0 ≤ k0_2.toInt ∧ k0_2.toInt ≤ 900 := by rw [ek0_2]; exact fZ_of hI sm_0 rfl
  have mkfr : kpM H H := kpM_r
  refine gG_call [(0, .ref 0), (1, .int a1)] ⟨rfl, rfl, trivial⟩ ?_
  show gG 2 zB_227 (mzBlk zB_227 0) [(0, .ref 0), (1, .int a1)] [] H 0 0 _
  refine g_aload_n rfl ?_
  refine g_iconst (by decide) (fun v93 kv93 => ?_)
  refine g_pfi hI sm_0 rfl (gz_any _) (fun H94 eH94 hIH94 => ?_)
  have hJH94 : JN H94 := JN_sF eH94 hJ
  have e95 : k0_2 = fZ H94 0 2 := by rw [eH94, fZ_sF_ne (by decide)]; exact ek0_2
  have m96 : kpM H H94 := kpM_F mkfr eH94 (by omega)
  refine g_iload_n rfl ?_
  refine g_if_lt (fun c97 => ?_) (fun c97 => ?_)
  · refine g_iconst (by decide) (fun v98 kv98 => ?_)
    exact g_iret ⟨_, rfl, hIH94, hJH94, (e95.symm.trans ek0_2), m96⟩
  · refine g_iload_n rfl ?_
    refine g_iconst (by decide) (fun v99 kv99 => ?_)
    refine g_if2_le (fun c100 => ?_) (fun c100 => ?_)
    · refine g_aload_n rfl ?_
      refine g_iconst (by decide) (fun v101 kv101 => ?_)
      refine g_invvv hIH94 sm_0 rfl rfl rfl rfl (s_226 v101 (by omega) H94 hIH94 hJH94) (fun H102 r103 => ?_)
      obtain ⟨hIH102, hJH102, w104, m105⟩ := r103
      have e106 : k0_2 = fZ H102 0 2 := e95.trans w104.symm
      have m107 : kpM H H102 := kpM_t m96 m105
      refine g_aload_n rfl ?_
      refine g_gfi hIH102 sm_0 rfl (fun v108 ev108 lv108 uv108 => ?_)
      refine g_iconst (by decide) (fun v109 kv109 => ?_)
      refine g_if2_ne (fun c110 => ?_) (fun c110 => ?_)
      · refine g_iload_n rfl ?_
        refine g_if_ne (fun c111 => ?_) (fun c111 => ?_)
        · refine g_aload_n rfl ?_
          refine g_gfi hIH102 sm_0 rfl (fun v112 ev112 lv112 uv112 => ?_)
          refine g_nop ?_
          exact g_iret ⟨_, rfl, hIH102, hJH102, (e106.symm.trans ek0_2), m107⟩
        · refine g_aload_n rfl ?_
          refine g_gfi hIH102 sm_0 rfl (fun v113 ev113 lv113 uv113 => ?_)
          refine g_goto ?_
          exact g_iret ⟨_, rfl, hIH102, hJH102, (e106.symm.trans ek0_2), m107⟩
      · refine g_bipush (by decide) (fun v114 kv114 => ?_)
        refine g_goto ?_
        exact g_iret ⟨_, rfl, hIH102, hJH102, (e106.symm.trans ek0_2), m107⟩
    · refine g_nop ?_
      refine g_iconst (by decide) (fun v115 kv115 => ?_)
      exact g_iret ⟨_, rfl, hIH94, hJH94, (e95.symm.trans ek0_2), m96⟩
set_option maxRecDepth 4000 in
set_option maxHeartbeats 4000000 in
/-- M.isRefused -/
theorem s_229 (a1 : Int32) (ha1 : 0 ≤ a1.toInt ∧ a1.toInt ≤ 59) (H : mzH) (hI : gI SM H) (hJ : JN H) : gCall 229 [.ref 0, .int a1] H (gRi (fun v H' => gI SM H' ∧ JN H' ∧ (0 ≤ v.toInt ∧ v.toInt ≤ 1) ∧ fZ H' 0 2 = fZ H 0 2 ∧ kpM H H')) := by
  obtain ⟨k0_2, ek0_2⟩ : ∃ z, z = fZ H 0 2 := ⟨_, rfl⟩
  have ik0_2 : k0_2.toInt = (fZ H 0 2).toInt := by rw [← ek0_2]
  have bk0_2 : 0 ≤ k0_2.toInt ∧ k0_2.toInt ≤ 900 := by rw [ek0_2]; exact fZ_of hI sm_0 rfl
  have mkfr : kpM H H := kpM_r
  refine gG_call [(0, .ref 0), (1, .int a1)] ⟨rfl, rfl, trivial⟩ ?_
  show gG 2 zB_229 (mzBlk zB_229 0) [(0, .ref 0), (1, .int a1)] [] H 0 0 _
  refine g_aload_n rfl ?_
  refine g_invvv hI sm_0 rfl rfl rfl rfl (s_199 H hI hJ) (fun H61 r62 => ?_)
  obtain ⟨hIH61, hJH61, w63, w64, w65, w66, m67, m68, p69⟩ := r62
  have e70 : k0_2 = fZ H61 0 2 := ek0_2.trans w63.symm
  have m71 : kpM H H61 := kpM_t mkfr m68
  refine g_aload_n rfl ?_
  refine g_gfr hIH61 sm_0 rfl ?_
  refine g_iload_n rfl ?_
  refine g_iaload hIH61 sm_20 rfl (by omega) (fun v72 ev72 lv72 uv72 => ?_)
  refine g_if_eq (fun c73 => ?_) (fun c73 => ?_)
  · refine g_iconst (by decide) (fun v74 kv74 => ?_)
    refine g_nop ?_
    exact g_zret (by omega) ⟨_, rfl, hIH61, (JM_n hJH61), (by omega), (e70.symm.trans ek0_2), m71⟩
  · refine g_iconst (by decide) (fun v75 kv75 => ?_)
    refine g_goto ?_
    exact g_zret (by omega) ⟨_, rfl, hIH61, (JM_n hJH61), (by omega), (e70.symm.trans ek0_2), m71⟩
