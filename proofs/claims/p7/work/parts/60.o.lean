set_option maxRecDepth 4000 in
set_option maxHeartbeats 4000000 in
/-- M.isThing -/
theorem s_206 (a0 : Int32) (H : mzH) (hI : gI SM H) (hJ : JN H) : gCall 206 [.int a0] H (gRi (fun v H' => H = H' ∧ (0 ≤ v.toInt ∧ v.toInt ≤ 1) ∧ (v.toInt = 0 ∨ (0 ≤ a0.toInt ∧ a0.toInt ≤ 39)))) := by
  refine gG_call [(0, .int a0)] ⟨rfl, trivial⟩ ?_
  show gG 1 zB_206 (mzBlk zB_206 0) [(0, .int a0)] [] H 0 0 _
  refine g_iload_n rfl ?_
  refine g_if_lt (fun c25 => ?_) (fun c25 => ?_)
  · refine g_iconst (by decide) (fun v26 kv26 => ?_)
    refine g_nop ?_
    exact g_zret (by first | with_reducible assumption | omega) ⟨_, rfl, rfl, (by first | with_reducible assumption | omega), (by first | with_reducible assumption | omega)⟩
  · refine g_iload_n rfl ?_
    refine g_bipush (by decide) (fun v27 kv27 => ?_)
    refine g_if2_ge (fun c28 => ?_) (fun c28 => ?_)
    · refine g_iconst (by decide) (fun v29 kv29 => ?_)
      refine g_nop ?_
      exact g_zret (by first | with_reducible assumption | omega) ⟨_, rfl, rfl, (by first | with_reducible assumption | omega), (by first | with_reducible assumption | omega)⟩
    · refine g_iconst (by decide) (fun v30 kv30 => ?_)
      refine g_goto ?_
      exact g_zret (by first | with_reducible assumption | omega) ⟨_, rfl, rfl, (by first | with_reducible assumption | omega), (by first | with_reducible assumption | omega)⟩
set_option maxRecDepth 4000 in
set_option maxHeartbeats 4000000 in
/-- M.isHour -/
theorem s_207 (a0 : Int32) (H : mzH) (hI : gI SM H) (hJ : JN H) : gCall 207 [.int a0] H (gRi (fun v H' => H = H' ∧ (0 ≤ v.toInt ∧ v.toInt ≤ 1))) := by
  refine gG_call [(0, .int a0)] ⟨rfl, trivial⟩ ?_
  show gG 1 zB_207 (mzBlk zB_207 0) [(0, .int a0)] [] H 0 0 _
  refine g_iload_n rfl ?_
  refine g_if_lt (fun c25 => ?_) (fun c25 => ?_)
  · refine g_iconst (by decide) (fun v26 kv26 => ?_)
    refine g_nop ?_
    exact g_zret (by first | with_reducible assumption | omega) ⟨_, rfl, rfl, (by first | with_reducible assumption | omega)⟩
  · refine g_iload_n rfl ?_
    refine g_sipush (by decide) (fun v27 kv27 => ?_)
    refine g_if2_gt (fun c28 => ?_) (fun c28 => ?_)
    · refine g_iconst (by decide) (fun v29 kv29 => ?_)
      refine g_nop ?_
      exact g_zret (by first | with_reducible assumption | omega) ⟨_, rfl, rfl, (by first | with_reducible assumption | omega)⟩
    · refine g_iconst (by decide) (fun v30 kv30 => ?_)
      refine g_goto ?_
      exact g_zret (by first | with_reducible assumption | omega) ⟨_, rfl, rfl, (by first | with_reducible assumption | omega)⟩
set_option maxRecDepth 4000 in
set_option maxHeartbeats 4000000 in
/-- M.allIn -/
theorem s_208 (a1 : Int32) (H : mzH) (hI : gI SM H) (hJ : JM H) : gCall 208 [.ref 0, .int a1] H (gRi (fun v H' => H = H')) := by
  refine gG_call [(0, .ref 0), (1, .int a1)] ⟨rfl, rfl, trivial⟩ ?_
  show gG 4 zB_208 (mzBlk zB_208 0) [(0, .ref 0), (1, .int a1)] [] H 0 0 _
  refine g_iconst (by decide) (fun v459 kv459 => ?_)
  refine g_istore_n (l' := [(0, .ref 0), (1, .int a1), (2, .int v459)]) rfl rfl ?_
  refine g_iconst (by decide) (fun v460 kv460 => ?_)
  refine g_istore_n (l' := [(0, .ref 0), (1, .int a1), (2, .int v459), (3, .int v460)]) rfl rfl ?_
  refine g_nop ?_
  have L463 : ∀ (N : Nat) (v461 : Int32) (v462 : Int32), (0 ≤ v462.toInt ∧ v462.toInt ≤ 40) → (40 - v462.toInt).toNat < N → gG 4 zB_208 (mzBlk zB_208 1) [(0, .ref 0), (1, .int a1), (2, .int v461), (3, .int v462)] [] H 0 0 (gRi (fun v H' => H = H')) := by
    intro N
    induction N with
    | zero => intro v461 v462 bv462 hmL463; exact absurd hmL463 (Nat.not_lt_zero _)
    | succ N ihL463 =>
      intro v461 v462 bv462 hmL463
      refine g_iload_n rfl ?_
      refine g_bipush (by decide) (fun v464 kv464 => ?_)
      refine g_if2_ge (fun c465 => ?_) (fun c465 => ?_)
      · refine g_iload_n rfl ?_
        exact g_iret ⟨_, rfl, rfl⟩
      · refine g_iload_n rfl ?_
        refine g_aload_n rfl ?_
        refine g_iload_n rfl ?_
        refine g_iload_n rfl ?_
        refine g_invvi hI sm_0 rfl rfl rfl rfl (s_187 v462 (by first | with_reducible assumption | omega) a1 H hI hJ) (fun v468 H466 r467 => ?_)
        obtain ⟨rfl, bv468⟩ := r467
        refine g_if_eq (fun c469 => ?_) (fun c469 => ?_)
        · refine g_iconst (by decide) (fun v470 kv470 => ?_)
          refine g_nop ?_
          refine g_iadd (by have := gz_any v461; omega) (fun v471 ev471 => ?_)
          refine g_istore_n (l' := [(0, .ref 0), (1, .int a1), (2, .int v471), (3, .int v462)]) rfl rfl ?_
          refine g_iinc (l' := (fun v472 => [(0, .ref 0), (1, .int a1), (2, .int v471), (3, .int v472)])) rfl rfl (by decide) (by first | with_reducible assumption | omega) (fun _ => rfl) (fun v472 ev472 => ?_)
          refine g_goto ?_
          exact ihL463 v471 v472 (by first | with_reducible assumption | omega) (by first | with_reducible assumption | omega)
        · refine g_iconst (by decide) (fun v473 kv473 => ?_)
          refine g_goto ?_
          refine g_iadd' (fun v474 ov474 => ?_)
          refine g_istore_n (l' := [(0, .ref 0), (1, .int a1), (2, .int v474), (3, .int v462)]) rfl rfl ?_
          refine g_iinc (l' := (fun v475 => [(0, .ref 0), (1, .int a1), (2, .int v474), (3, .int v475)])) rfl rfl (by decide) (by first | with_reducible assumption | omega) (fun _ => rfl) (fun v475 ev475 => ?_)
          refine g_goto ?_
          exact ihL463 v474 v475 (by first | with_reducible assumption | omega) (by first | with_reducible assumption | omega)
  exact L463 _ v459 v460 (by first | with_reducible assumption | omega) (Nat.lt_succ_self _)
set_option maxRecDepth 4000 in
set_option maxHeartbeats 4000000 in
/-- M.thing -/
theorem s_209 (a1 : Int32) (a2 : Int32) (a3 : Int32) (H : mzH) (hI : gI SM H) (hJ : JN H) : gCall 209 [.ref 0, .int a1, .int a2, .int a3] H (gRi (fun v H' => gI SM H' ∧ JN H' ∧ fZ H' 0 2 = fZ H 0 2 ∧ kpM H H')) := by
  obtain ⟨k0_2, ek0_2⟩ : ∃ z, z = fZ H 0 2 := ⟨_, rfl⟩
  have ik0_2 : k0_2.toInt = (fZ H 0 2).toInt := by rw [← ek0_2]
  have bk0_2 : 0 ≤ k0_2.toInt ∧ k0_2.toInt ≤ 900 := by rw [ek0_2]; exact fZ_of hI sm_0 rfl
  have mkfr : kpM H H := kpM_r
  refine gG_call [(0, .ref 0), (1, .int a1), (2, .int a2), (3, .int a3)] ⟨rfl, rfl, rfl, rfl, trivial⟩ ?_
  show gG 4 zB_209 (mzBlk zB_209 0) [(0, .ref 0), (1, .int a1), (2, .int a2), (3, .int a3)] [] H 0 0 _
  refine g_aload_n rfl ?_
  refine g_iconst (by decide) (fun v241 kv241 => ?_)
  refine g_pfi hI sm_0 rfl (gz_any _) (fun H242 eH242 hIH242 => ?_)
  have hJH242 : JN H242 := JN_sF eH242 hJ
  have e243 : k0_2 = fZ H242 0 2 := by rw [eH242, fZ_sF_ne (by decide)]; exact ek0_2
  have m244 : kpM H H242 := kpM_F mkfr eH242 (by first | with_reducible assumption | omega)
  refine g_iload_n rfl ?_
  refine g_invti rfl rfl rfl (s_206 a1 H242 hIH242 hJH242) (fun v247 H245 r246 => ?_)
  obtain ⟨rfl, bv247, p248⟩ := r246
  refine g_if_eq (fun c249 => ?_) (fun c249 => ?_)
  · refine g_iconst (by decide) (fun v250 kv250 => ?_)
    exact g_iret ⟨_, rfl, hIH242, hJH242, (e243.symm.trans ek0_2), m244⟩
  · refine g_iload_n rfl ?_
    refine g_invti rfl rfl rfl (s_207 a2 H242 hIH242 hJH242) (fun v253 H251 r252 => ?_)
    obtain ⟨rfl, bv253⟩ := r252
    refine g_if_eq (fun c254 => ?_) (fun c254 => ?_)
    · refine g_iconst (by decide) (fun v255 kv255 => ?_)
      exact g_iret ⟨_, rfl, hIH242, hJH242, (e243.symm.trans ek0_2), m244⟩
    · refine g_iload_n rfl ?_
      refine g_if_lt (fun c256 => ?_) (fun c256 => ?_)
      · refine g_iconst (by decide) (fun v257 kv257 => ?_)
        exact g_iret ⟨_, rfl, hIH242, hJH242, (e243.symm.trans ek0_2), m244⟩
      · refine g_iload_n rfl ?_
        refine g_bipush (by decide) (fun v258 kv258 => ?_)
        refine g_if2_le (fun c259 => ?_) (fun c259 => ?_)
        · refine g_aload_n rfl ?_
          refine g_iload_n rfl ?_
          refine g_invvv hIH242 sm_0 rfl rfl rfl rfl (s_201 a2 H242 hIH242 hJH242) (fun H260 r261 => ?_)
          obtain ⟨hIH260, hJH260, w262, m263⟩ := r261
          have e264 : k0_2 = fZ H260 0 2 := e243.trans w262.symm
          have m265 : kpM H H260 := kpM_t m244 m263
          refine g_aload_n rfl ?_
          refine g_gfr hIH260 sm_0 rfl ?_
          refine g_iload_n rfl ?_
          refine g_baload hIH260 sm_7 rfl (by first | with_reducible assumption | omega) (fun v266 ev266 lv266 uv266 => ?_)
          refine g_if_ne (fun c267 => ?_) (fun c267 => ?_)
          · refine g_aload_n rfl ?_
            refine g_gfr hIH260 sm_0 rfl ?_
            refine g_iload_n rfl ?_
            refine g_baload hIH260 sm_16 rfl (by first | with_reducible assumption | omega) (fun v268 ev268 lv268 uv268 => ?_)
            refine g_if_eq (fun c269 => ?_) (fun c269 => ?_)
            · refine g_iload_n rfl ?_
              refine g_sw (by decide) (fun c270 => ?_) ⟨fun c270 => ?_, fun c270 => ?_, fun c270 => ?_, fun c270 => ?_, fun c270 => ?_, fun c270 => ?_, fun c270 => ?_, fun c270 => ?_, fun c270 => ?_, trivial⟩
              · refine g_aload_n rfl ?_
                refine g_iload_n rfl ?_
                refine g_invvi hIH260 sm_0 rfl rfl rfl rfl (s_208 a1 H260 hIH260 hJH260) (fun v273 H271 r272 => ?_)
                obtain rfl := r272
                exact g_iret ⟨_, rfl, hIH260, (JM_n hJH260), (e264.symm.trans ek0_2), m265⟩
              · refine g_aload_n rfl ?_
                refine g_gfr hIH260 sm_0 rfl ?_
                refine g_iload_n rfl ?_
                refine g_iaload hIH260 sm_8 rfl (by first | with_reducible assumption | omega) (fun v274 ev274 lv274 uv274 => ?_)
                exact g_iret ⟨_, rfl, hIH260, (JM_n hJH260), (e264.symm.trans ek0_2), m265⟩
              · refine g_aload_n rfl ?_
                refine g_gfr hIH260 sm_0 rfl ?_
                refine g_iload_n rfl ?_
                refine g_iaload hIH260 sm_9 rfl (by first | with_reducible assumption | omega) (fun v275 ev275 lv275 uv275 => ?_)
                have qv275 := JM_in hJH260 (by first | with_reducible assumption | omega) ev275
                exact g_iret ⟨_, rfl, hIH260, (JM_n hJH260), (e264.symm.trans ek0_2), m265⟩
              · refine g_aload_n rfl ?_
                refine g_iload_n rfl ?_
                refine g_invvi hIH260 sm_0 rfl rfl rfl rfl (s_186 a1 (by first | with_reducible assumption | omega) H260 hIH260 hJH260) (fun v278 H276 r277 => ?_)
                obtain ⟨rfl, bv278⟩ := r277
                exact g_iret ⟨_, rfl, hIH260, (JM_n hJH260), (e264.symm.trans ek0_2), m265⟩
              · refine g_aload_n rfl ?_
                refine g_iload_n rfl ?_
                refine g_invvi hIH260 sm_0 rfl rfl rfl rfl (s_202 a1 (by first | with_reducible assumption | omega) H260 hIH260 hJH260) (fun v281 H279 r280 => ?_)
                obtain ⟨rfl, bv281⟩ := r280
                exact g_iret ⟨_, rfl, hIH260, (JM_n hJH260), (e264.symm.trans ek0_2), m265⟩
              · refine g_aload_n rfl ?_
                refine g_gfr hIH260 sm_0 rfl ?_
                refine g_iload_n rfl ?_
                refine g_baload hIH260 sm_13 rfl (by first | with_reducible assumption | omega) (fun v282 ev282 lv282 uv282 => ?_)
                refine g_if_eq (fun c283 => ?_) (fun c283 => ?_)
                · refine g_iconst (by decide) (fun v284 kv284 => ?_)
                  refine g_nop ?_
                  exact g_iret ⟨_, rfl, hIH260, (JM_n hJH260), (e264.symm.trans ek0_2), m265⟩
                · refine g_iconst (by decide) (fun v285 kv285 => ?_)
                  refine g_goto ?_
                  exact g_iret ⟨_, rfl, hIH260, (JM_n hJH260), (e264.symm.trans ek0_2), m265⟩
              · refine g_aload_n rfl ?_
                refine g_gfr hIH260 sm_0 rfl ?_
                refine g_iload_n rfl ?_
                refine g_baload hIH260 sm_14 rfl (by first | with_reducible assumption | omega) (fun v286 ev286 lv286 uv286 => ?_)
                refine g_if_eq (fun c287 => ?_) (fun c287 => ?_)
                · refine g_iconst (by decide) (fun v288 kv288 => ?_)
                  refine g_nop ?_
                  exact g_iret ⟨_, rfl, hIH260, (JM_n hJH260), (e264.symm.trans ek0_2), m265⟩
                · refine g_iconst (by decide) (fun v289 kv289 => ?_)
                  refine g_goto ?_
                  exact g_iret ⟨_, rfl, hIH260, (JM_n hJH260), (e264.symm.trans ek0_2), m265⟩
              · refine g_aload_n rfl ?_
                refine g_gfr hIH260 sm_0 rfl ?_
                refine g_iload_n rfl ?_
                refine g_iaload hIH260 sm_12 rfl (by first | with_reducible assumption | omega) (fun v290 ev290 lv290 uv290 => ?_)
                exact g_iret ⟨_, rfl, hIH260, (JM_n hJH260), (e264.symm.trans ek0_2), m265⟩
              · refine g_aload_n rfl ?_
                refine g_gfr hIH260 sm_0 rfl ?_
                refine g_aload_n rfl ?_
                refine g_iload_n rfl ?_
                refine g_invvi hIH260 sm_0 rfl rfl rfl rfl (s_186 a1 (by first | with_reducible assumption | omega) H260 hIH260 hJH260) (fun v293 H291 r292 => ?_)
                obtain ⟨rfl, bv293⟩ := r292
                refine g_iaload hIH260 sm_11 rfl (by first | with_reducible assumption | omega) (fun v294 ev294 lv294 uv294 => ?_)
                exact g_iret ⟨_, rfl, hIH260, (JM_n hJH260), (e264.symm.trans ek0_2), m265⟩
              · refine g_aload_n rfl ?_
                refine g_iload_n rfl ?_
                refine g_invvi hIH260 sm_0 rfl rfl rfl rfl (s_189 a1 H260 hIH260 (JM_n hJH260)) (fun v297 H295 r296 => ?_)
                obtain rfl := r296
                exact g_iret ⟨_, rfl, hIH260, (JM_n hJH260), (e264.symm.trans ek0_2), m265⟩
            · refine g_bipush (by decide) (fun v298 kv298 => ?_)
              exact g_iret ⟨_, rfl, hIH260, (JM_n hJH260), (e264.symm.trans ek0_2), m265⟩
          · refine g_bipush (by decide) (fun v299 kv299 => ?_)
            exact g_iret ⟨_, rfl, hIH260, (JM_n hJH260), (e264.symm.trans ek0_2), m265⟩
        · refine g_nop ?_
          refine g_iconst (by decide) (fun v300 kv300 => ?_)
          exact g_iret ⟨_, rfl, hIH242, hJH242, (e243.symm.trans ek0_2), m244⟩
set_option maxRecDepth 4000 in
set_option maxHeartbeats 4000000 in
/-- M.inside -/
theorem s_210 (a1 : Int32) (a2 : Int32) (a3 : Int32) (H : mzH) (hI : gI SM H) (hJ : JN H) : gCall 210 [.ref 0, .int a1, .int a2, .int a3] H (gRi (fun v H' => gI SM H' ∧ JN H' ∧ fZ H' 0 2 = fZ H 0 2 ∧ kpM H H')) := by
  obtain ⟨k0_2, ek0_2⟩ : ∃ z, z = fZ H 0 2 := ⟨_, rfl⟩
  have ik0_2 : k0_2.toInt = (fZ H 0 2).toInt := by rw [← ek0_2]
  have bk0_2 : 0 ≤ k0_2.toInt ∧ k0_2.toInt ≤ 900 := by rw [ek0_2]; exact fZ_of hI sm_0 rfl
  have mkfr : kpM H H := kpM_r
  refine gG_call [(0, .ref 0), (1, .int a1), (2, .int a2), (3, .int a3)] ⟨rfl, rfl, rfl, rfl, trivial⟩ ?_
  show gG 6 zB_210 (mzBlk zB_210 0) [(0, .ref 0), (1, .int a1), (2, .int a2), (3, .int a3)] [] H 0 0 _
  refine g_aload_n rfl ?_
  refine g_iconst (by decide) (fun v281 kv281 => ?_)
  refine g_pfi hI sm_0 rfl (gz_any _) (fun H282 eH282 hIH282 => ?_)
  have hJH282 : JN H282 := JN_sF eH282 hJ
  have e283 : k0_2 = fZ H282 0 2 := by rw [eH282, fZ_sF_ne (by decide)]; exact ek0_2
  have m284 : kpM H H282 := kpM_F mkfr eH282 (by first | with_reducible assumption | omega)
  refine g_iload_n rfl ?_
  refine g_invti rfl rfl rfl (s_206 a1 H282 hIH282 hJH282) (fun v287 H285 r286 => ?_)
  obtain ⟨rfl, bv287, p288⟩ := r286
  refine g_if_eq (fun c289 => ?_) (fun c289 => ?_)
  · refine g_iconst (by decide) (fun v290 kv290 => ?_)
    exact g_iret ⟨_, rfl, hIH282, hJH282, (e283.symm.trans ek0_2), m284⟩
  · refine g_iload_n rfl ?_
    refine g_invti rfl rfl rfl (s_207 a2 H282 hIH282 hJH282) (fun v293 H291 r292 => ?_)
    obtain ⟨rfl, bv293⟩ := r292
    refine g_if_eq (fun c294 => ?_) (fun c294 => ?_)
    · refine g_iconst (by decide) (fun v295 kv295 => ?_)
      exact g_iret ⟨_, rfl, hIH282, hJH282, (e283.symm.trans ek0_2), m284⟩
    · refine g_iload_n rfl ?_
      refine g_if_ge (fun c296 => ?_) (fun c296 => ?_)
      · refine g_aload_n rfl ?_
        refine g_iload_n rfl ?_
        refine g_invvv hIH282 sm_0 rfl rfl rfl rfl (s_201 a2 H282 hIH282 hJH282) (fun H297 r298 => ?_)
        obtain ⟨hIH297, hJH297, w299, m300⟩ := r298
        have e301 : k0_2 = fZ H297 0 2 := e283.trans w299.symm
        have m302 : kpM H H297 := kpM_t m284 m300
        refine g_iload_n rfl ?_
        refine g_istore (l' := [(0, .ref 0), (1, .int a1), (2, .int a2), (3, .int a3), (4, .int a3)]) rfl rfl ?_
        refine g_iconst (by decide) (fun v303 kv303 => ?_)
        refine g_istore (l' := [(0, .ref 0), (1, .int a1), (2, .int a2), (3, .int a3), (4, .int a3), (5, .int v303)]) rfl rfl ?_
        refine g_nop ?_
        have L306 : ∀ (N : Nat) (v304 : Int32) (v305 : Int32), (0 ≤ v304.toInt ∧ v304.toInt ≤ 2147483647) → (0 ≤ v305.toInt ∧ v305.toInt ≤ 40) → (40 - v305.toInt).toNat < N → gG 6 zB_210 (mzBlk zB_210 3) [(0, .ref 0), (1, .int a1), (2, .int a2), (3, .int a3), (4, .int v304), (5, .int v305)] [] H297 0 0 (gRi (fun v H' => gI SM H' ∧ JN H' ∧ fZ H' 0 2 = fZ H 0 2 ∧ kpM H H')) := by
          intro N
          induction N with
          | zero => intro v304 v305 bv304 bv305 hmL306; exact absurd hmL306 (Nat.not_lt_zero _)
          | succ N ihL306 =>
            intro v304 v305 bv304 bv305 hmL306
            refine g_iload rfl ?_
            refine g_bipush (by decide) (fun v307 kv307 => ?_)
            refine g_if2_ge (fun c308 => ?_) (fun c308 => ?_)
            · refine g_bipush (by decide) (fun v309 kv309 => ?_)
              exact g_iret ⟨_, rfl, hIH297, (JM_n hJH297), (e301.symm.trans ek0_2), m302⟩
            · refine g_aload_n rfl ?_
              refine g_iload rfl ?_
              refine g_iload_n rfl ?_
              refine g_invvi hIH297 sm_0 rfl rfl rfl rfl (s_187 v305 (by first | with_reducible assumption | omega) a1 H297 hIH297 hJH297) (fun v312 H310 r311 => ?_)
              obtain ⟨rfl, bv312⟩ := r311
              refine g_if_ne (fun c313 => ?_) (fun c313 => ?_)
              · refine g_iload rfl ?_
                refine g_if_ne (fun c314 => ?_) (fun c314 => ?_)
                · refine g_iinc (l' := (fun v315 => [(0, .ref 0), (1, .int a1), (2, .int a2), (3, .int a3), (4, .int v315), (5, .int v305)])) rfl rfl (by decide) (by have := gz_any v304; omega) (fun _ => rfl) (fun v315 ev315 => ?_)
                  refine g_nop ?_
                  refine g_iinc (l' := (fun v316 => [(0, .ref 0), (1, .int a1), (2, .int a2), (3, .int a3), (4, .int v315), (5, .int v316)])) rfl rfl (by decide) (by first | with_reducible assumption | omega) (fun _ => rfl) (fun v316 ev316 => ?_)
                  refine g_goto ?_
                  exact ihL306 v315 v316 (by have := gz_any v315; omega) (by first | with_reducible assumption | omega) (by first | with_reducible assumption | omega)
                · refine g_iload rfl ?_
                  exact g_iret ⟨_, rfl, hIH297, (JM_n hJH297), (e301.symm.trans ek0_2), m302⟩
              · refine g_goto ?_
                refine g_iinc (l' := (fun v317 => [(0, .ref 0), (1, .int a1), (2, .int a2), (3, .int a3), (4, .int v304), (5, .int v317)])) rfl rfl (by decide) (by first | with_reducible assumption | omega) (fun _ => rfl) (fun v317 ev317 => ?_)
                refine g_goto ?_
                exact ihL306 v304 v317 (by have := gz_any v304; omega) (by first | with_reducible assumption | omega) (by first | with_reducible assumption | omega)
        exact L306 _ a3 v303 (by have := gz_any a3; omega) (by first | with_reducible assumption | omega) (Nat.lt_succ_self _)
      · refine g_nop ?_
        refine g_iconst (by decide) (fun v318 kv318 => ?_)
        exact g_iret ⟨_, rfl, hIH282, hJH282, (e283.symm.trans ek0_2), m284⟩
set_option maxRecDepth 4000 in
set_option maxHeartbeats 4000000 in
/-- M.there -/
theorem s_212 (a1 : Int32) (a2 : Int32) (a3 : Int32) (H : mzH) (hI : gI SM H) (hJ : JN H) : gCall 212 [.ref 0, .int a1, .int a2, .int a3] H (gRi (fun v H' => gI SM H' ∧ JN H' ∧ fZ H' 0 2 = fZ H 0 2 ∧ kpM H H')) := by
  obtain ⟨k0_2, ek0_2⟩ : ∃ z, z = fZ H 0 2 := ⟨_, rfl⟩
  have ik0_2 : k0_2.toInt = (fZ H 0 2).toInt := by rw [← ek0_2]
  have bk0_2 : 0 ≤ k0_2.toInt ∧ k0_2.toInt ≤ 900 := by rw [ek0_2]; exact fZ_of hI sm_0 rfl
  have mkfr : kpM H H := kpM_r
  refine gG_call [(0, .ref 0), (1, .int a1), (2, .int a2), (3, .int a3)] ⟨rfl, rfl, rfl, rfl, trivial⟩ ?_
  show gG 6 zB_212 (mzBlk zB_212 0) [(0, .ref 0), (1, .int a1), (2, .int a2), (3, .int a3)] [] H 0 0 _
  refine g_aload_n rfl ?_
  refine g_iconst (by decide) (fun v409 kv409 => ?_)
  refine g_pfi hI sm_0 rfl (gz_any _) (fun H410 eH410 hIH410 => ?_)
  have hJH410 : JN H410 := JN_sF eH410 hJ
  have e411 : k0_2 = fZ H410 0 2 := by rw [eH410, fZ_sF_ne (by decide)]; exact ek0_2
  have m412 : kpM H H410 := kpM_F mkfr eH410 (by first | with_reducible assumption | omega)
  refine g_aload_n rfl ?_
  refine g_iload_n rfl ?_
  refine g_invvi hIH410 sm_0 rfl rfl rfl rfl (s_211 a1 H410 hIH410 hJH410) (fun v415 H413 r414 => ?_)
  obtain ⟨rfl, bv415, p416⟩ := r414
  refine g_if_ne (fun c417 => ?_) (fun c417 => ?_)
  · refine g_iload_n rfl ?_
    refine g_invti rfl rfl rfl (s_207 a2 H410 hIH410 hJH410) (fun v420 H418 r419 => ?_)
    obtain ⟨rfl, bv420⟩ := r419
    refine g_if_eq (fun c421 => ?_) (fun c421 => ?_)
    · refine g_iconst (by decide) (fun v422 kv422 => ?_)
      exact g_iret ⟨_, rfl, hIH410, hJH410, (e411.symm.trans ek0_2), m412⟩
    · refine g_iload_n rfl ?_
      refine g_if_ge (fun c423 => ?_) (fun c423 => ?_)
      · refine g_aload_n rfl ?_
        refine g_iload_n rfl ?_
        refine g_invvv hIH410 sm_0 rfl rfl rfl rfl (s_201 a2 H410 hIH410 hJH410) (fun H424 r425 => ?_)
        obtain ⟨hIH424, hJH424, w426, m427⟩ := r425
        have e428 : k0_2 = fZ H424 0 2 := e411.trans w426.symm
        have m429 : kpM H H424 := kpM_t m412 m427
        refine g_iload_n rfl ?_
        refine g_istore (l' := [(0, .ref 0), (1, .int a1), (2, .int a2), (3, .int a3), (4, .int a3)]) rfl rfl ?_
        refine g_iconst (by decide) (fun v430 kv430 => ?_)
        refine g_istore (l' := [(0, .ref 0), (1, .int a1), (2, .int a2), (3, .int a3), (4, .int a3), (5, .int v430)]) rfl rfl ?_
        refine g_nop ?_
        have L433 : ∀ (N : Nat) (v431 : Int32) (v432 : Int32), (0 ≤ v431.toInt ∧ v431.toInt ≤ 2147483647) → (0 ≤ v432.toInt ∧ v432.toInt ≤ 40) → (40 - v432.toInt).toNat < N → gG 6 zB_212 (mzBlk zB_212 4) [(0, .ref 0), (1, .int a1), (2, .int a2), (3, .int a3), (4, .int v431), (5, .int v432)] [] H424 0 0 (gRi (fun v H' => gI SM H' ∧ JN H' ∧ fZ H' 0 2 = fZ H 0 2 ∧ kpM H H')) := by
          intro N
          induction N with
          | zero => intro v431 v432 bv431 bv432 hmL433; exact absurd hmL433 (Nat.not_lt_zero _)
          | succ N ihL433 =>
            intro v431 v432 bv431 bv432 hmL433
            refine g_iload rfl ?_
            refine g_bipush (by decide) (fun v434 kv434 => ?_)
            refine g_if2_ge (fun c435 => ?_) (fun c435 => ?_)
            · refine g_bipush (by decide) (fun v436 kv436 => ?_)
              exact g_iret ⟨_, rfl, hIH424, (JM_n hJH424), (e428.symm.trans ek0_2), m429⟩
            · refine g_aload_n rfl ?_
              refine g_iload rfl ?_
              refine g_invvi hIH424 sm_0 rfl rfl rfl rfl (s_202 v432 (by first | with_reducible assumption | omega) H424 hIH424 hJH424) (fun v439 H437 r438 => ?_)
              obtain ⟨rfl, bv439⟩ := r438
              refine g_iload_n rfl ?_
              refine g_if2_eq (fun c440 => ?_) (fun c440 => ?_)
              · refine g_iload rfl ?_
                refine g_if_ne (fun c441 => ?_) (fun c441 => ?_)
                · refine g_iinc (l' := (fun v442 => [(0, .ref 0), (1, .int a1), (2, .int a2), (3, .int a3), (4, .int v442), (5, .int v432)])) rfl rfl (by decide) (by have := gz_any v431; omega) (fun _ => rfl) (fun v442 ev442 => ?_)
                  refine g_nop ?_
                  refine g_iinc (l' := (fun v443 => [(0, .ref 0), (1, .int a1), (2, .int a2), (3, .int a3), (4, .int v442), (5, .int v443)])) rfl rfl (by decide) (by first | with_reducible assumption | omega) (fun _ => rfl) (fun v443 ev443 => ?_)
                  refine g_goto ?_
                  exact ihL433 v442 v443 (by have := gz_any v442; omega) (by first | with_reducible assumption | omega) (by first | with_reducible assumption | omega)
                · refine g_iload rfl ?_
                  exact g_iret ⟨_, rfl, hIH424, (JM_n hJH424), (e428.symm.trans ek0_2), m429⟩
              · refine g_goto ?_
                refine g_iinc (l' := (fun v444 => [(0, .ref 0), (1, .int a1), (2, .int a2), (3, .int a3), (4, .int v431), (5, .int v444)])) rfl rfl (by decide) (by first | with_reducible assumption | omega) (fun _ => rfl) (fun v444 ev444 => ?_)
                refine g_goto ?_
                exact ihL433 v431 v444 (by have := gz_any v431; omega) (by first | with_reducible assumption | omega) (by first | with_reducible assumption | omega)
        exact L433 _ a3 v430 (by have := gz_any a3; omega) (by first | with_reducible assumption | omega) (Nat.lt_succ_self _)
      · refine g_nop ?_
        refine g_iconst (by decide) (fun v445 kv445 => ?_)
        exact g_iret ⟨_, rfl, hIH410, hJH410, (e411.symm.trans ek0_2), m412⟩
  · refine g_iload_n rfl ?_
    refine g_bipush (by decide) (fun v446 kv446 => ?_)
    refine g_if2_eq (fun c447 => ?_) (fun c447 => ?_)
    · refine g_iload_n rfl ?_
      refine g_invti rfl rfl rfl (s_207 a2 H410 hIH410 hJH410) (fun v450 H448 r449 => ?_)
      obtain ⟨rfl, bv450⟩ := r449
      refine g_if_eq (fun c451 => ?_) (fun c451 => ?_)
      · refine g_iconst (by decide) (fun v452 kv452 => ?_)
        exact g_iret ⟨_, rfl, hIH410, hJH410, (e411.symm.trans ek0_2), m412⟩
      · refine g_iload_n rfl ?_
        refine g_if_ge (fun c453 => ?_) (fun c453 => ?_)
        · refine g_aload_n rfl ?_
          refine g_iload_n rfl ?_
          refine g_invvv hIH410 sm_0 rfl rfl rfl rfl (s_201 a2 H410 hIH410 hJH410) (fun H454 r455 => ?_)
          obtain ⟨hIH454, hJH454, w456, m457⟩ := r455
          have e458 : k0_2 = fZ H454 0 2 := e411.trans w456.symm
          have m459 : kpM H H454 := kpM_t m412 m457
          refine g_iload_n rfl ?_
          refine g_istore (l' := [(0, .ref 0), (1, .int a1), (2, .int a2), (3, .int a3), (4, .int a3)]) rfl rfl ?_
          refine g_iconst (by decide) (fun v460 kv460 => ?_)
          refine g_istore (l' := [(0, .ref 0), (1, .int a1), (2, .int a2), (3, .int a3), (4, .int a3), (5, .int v460)]) rfl rfl ?_
          refine g_nop ?_
          have L463 : ∀ (N : Nat) (v461 : Int32) (v462 : Int32), (0 ≤ v461.toInt ∧ v461.toInt ≤ 2147483647) → (0 ≤ v462.toInt ∧ v462.toInt ≤ 40) → (40 - v462.toInt).toNat < N → gG 6 zB_212 (mzBlk zB_212 4) [(0, .ref 0), (1, .int a1), (2, .int a2), (3, .int a3), (4, .int v461), (5, .int v462)] [] H454 0 0 (gRi (fun v H' => gI SM H' ∧ JN H' ∧ fZ H' 0 2 = fZ H 0 2 ∧ kpM H H')) := by
            intro N
            induction N with
            | zero => intro v461 v462 bv461 bv462 hmL463; exact absurd hmL463 (Nat.not_lt_zero _)
            | succ N ihL463 =>
              intro v461 v462 bv461 bv462 hmL463
              refine g_iload rfl ?_
              refine g_bipush (by decide) (fun v464 kv464 => ?_)
              refine g_if2_ge (fun c465 => ?_) (fun c465 => ?_)
              · refine g_bipush (by decide) (fun v466 kv466 => ?_)
                exact g_iret ⟨_, rfl, hIH454, (JM_n hJH454), (e458.symm.trans ek0_2), m459⟩
              · refine g_aload_n rfl ?_
                refine g_iload rfl ?_
                refine g_invvi hIH454 sm_0 rfl rfl rfl rfl (s_202 v462 (by first | with_reducible assumption | omega) H454 hIH454 hJH454) (fun v469 H467 r468 => ?_)
                obtain ⟨rfl, bv469⟩ := r468
                refine g_iload_n rfl ?_
                refine g_if2_eq (fun c470 => ?_) (fun c470 => ?_)
                · refine g_iload rfl ?_
                  refine g_if_ne (fun c471 => ?_) (fun c471 => ?_)
                  · refine g_iinc (l' := (fun v472 => [(0, .ref 0), (1, .int a1), (2, .int a2), (3, .int a3), (4, .int v472), (5, .int v462)])) rfl rfl (by decide) (by have := gz_any v461; omega) (fun _ => rfl) (fun v472 ev472 => ?_)
                    refine g_nop ?_
                    refine g_iinc (l' := (fun v473 => [(0, .ref 0), (1, .int a1), (2, .int a2), (3, .int a3), (4, .int v472), (5, .int v473)])) rfl rfl (by decide) (by first | with_reducible assumption | omega) (fun _ => rfl) (fun v473 ev473 => ?_)
                    refine g_goto ?_
                    exact ihL463 v472 v473 (by have := gz_any v472; omega) (by first | with_reducible assumption | omega) (by first | with_reducible assumption | omega)
                  · refine g_iload rfl ?_
                    exact g_iret ⟨_, rfl, hIH454, (JM_n hJH454), (e458.symm.trans ek0_2), m459⟩
                · refine g_goto ?_
                  refine g_iinc (l' := (fun v474 => [(0, .ref 0), (1, .int a1), (2, .int a2), (3, .int a3), (4, .int v461), (5, .int v474)])) rfl rfl (by decide) (by first | with_reducible assumption | omega) (fun _ => rfl) (fun v474 ev474 => ?_)
                  refine g_goto ?_
                  exact ihL463 v461 v474 (by have := gz_any v461; omega) (by first | with_reducible assumption | omega) (by first | with_reducible assumption | omega)
          exact L463 _ a3 v460 (by have := gz_any a3; omega) (by first | with_reducible assumption | omega) (Nat.lt_succ_self _)
        · refine g_nop ?_
          refine g_iconst (by decide) (fun v475 kv475 => ?_)
          exact g_iret ⟨_, rfl, hIH410, hJH410, (e411.symm.trans ek0_2), m412⟩
    · refine g_iload_n rfl ?_
      refine g_bipush (by decide) (fun v476 kv476 => ?_)
      refine g_if2_ne (fun c477 => ?_) (fun c477 => ?_)
      · refine g_iconst (by decide) (fun v478 kv478 => ?_)
        exact g_iret ⟨_, rfl, hIH410, hJH410, (e411.symm.trans ek0_2), m412⟩
      · refine g_nop ?_
        refine g_iload_n rfl ?_
        refine g_invti rfl rfl rfl (s_207 a2 H410 hIH410 hJH410) (fun v481 H479 r480 => ?_)
        obtain ⟨rfl, bv481⟩ := r480
        refine g_if_eq (fun c482 => ?_) (fun c482 => ?_)
        · refine g_iconst (by decide) (fun v483 kv483 => ?_)
          exact g_iret ⟨_, rfl, hIH410, hJH410, (e411.symm.trans ek0_2), m412⟩
        · refine g_iload_n rfl ?_
          refine g_if_ge (fun c484 => ?_) (fun c484 => ?_)
          · refine g_aload_n rfl ?_
            refine g_iload_n rfl ?_
            refine g_invvv hIH410 sm_0 rfl rfl rfl rfl (s_201 a2 H410 hIH410 hJH410) (fun H485 r486 => ?_)
            obtain ⟨hIH485, hJH485, w487, m488⟩ := r486
            have e489 : k0_2 = fZ H485 0 2 := e411.trans w487.symm
            have m490 : kpM H H485 := kpM_t m412 m488
            refine g_iload_n rfl ?_
            refine g_istore (l' := [(0, .ref 0), (1, .int a1), (2, .int a2), (3, .int a3), (4, .int a3)]) rfl rfl ?_
            refine g_iconst (by decide) (fun v491 kv491 => ?_)
            refine g_istore (l' := [(0, .ref 0), (1, .int a1), (2, .int a2), (3, .int a3), (4, .int a3), (5, .int v491)]) rfl rfl ?_
            refine g_nop ?_
            have L494 : ∀ (N : Nat) (v492 : Int32) (v493 : Int32), (0 ≤ v492.toInt ∧ v492.toInt ≤ 2147483647) → (0 ≤ v493.toInt ∧ v493.toInt ≤ 40) → (40 - v493.toInt).toNat < N → gG 6 zB_212 (mzBlk zB_212 4) [(0, .ref 0), (1, .int a1), (2, .int a2), (3, .int a3), (4, .int v492), (5, .int v493)] [] H485 0 0 (gRi (fun v H' => gI SM H' ∧ JN H' ∧ fZ H' 0 2 = fZ H 0 2 ∧ kpM H H')) := by
              intro N
              induction N with
              | zero => intro v492 v493 bv492 bv493 hmL494; exact absurd hmL494 (Nat.not_lt_zero _)
              | succ N ihL494 =>
                intro v492 v493 bv492 bv493 hmL494
                refine g_iload rfl ?_
                refine g_bipush (by decide) (fun v495 kv495 => ?_)
                refine g_if2_ge (fun c496 => ?_) (fun c496 => ?_)
                · refine g_bipush (by decide) (fun v497 kv497 => ?_)
                  exact g_iret ⟨_, rfl, hIH485, (JM_n hJH485), (e489.symm.trans ek0_2), m490⟩
                · refine g_aload_n rfl ?_
                  refine g_iload rfl ?_
                  refine g_invvi hIH485 sm_0 rfl rfl rfl rfl (s_202 v493 (by first | with_reducible assumption | omega) H485 hIH485 hJH485) (fun v500 H498 r499 => ?_)
                  obtain ⟨rfl, bv500⟩ := r499
                  refine g_iload_n rfl ?_
                  refine g_if2_eq (fun c501 => ?_) (fun c501 => ?_)
                  · refine g_iload rfl ?_
                    refine g_if_ne (fun c502 => ?_) (fun c502 => ?_)
                    · refine g_iinc (l' := (fun v503 => [(0, .ref 0), (1, .int a1), (2, .int a2), (3, .int a3), (4, .int v503), (5, .int v493)])) rfl rfl (by decide) (by have := gz_any v492; omega) (fun _ => rfl) (fun v503 ev503 => ?_)
                      refine g_nop ?_
                      refine g_iinc (l' := (fun v504 => [(0, .ref 0), (1, .int a1), (2, .int a2), (3, .int a3), (4, .int v503), (5, .int v504)])) rfl rfl (by decide) (by first | with_reducible assumption | omega) (fun _ => rfl) (fun v504 ev504 => ?_)
                      refine g_goto ?_
                      exact ihL494 v503 v504 (by have := gz_any v503; omega) (by first | with_reducible assumption | omega) (by first | with_reducible assumption | omega)
                    · refine g_iload rfl ?_
                      exact g_iret ⟨_, rfl, hIH485, (JM_n hJH485), (e489.symm.trans ek0_2), m490⟩
                  · refine g_goto ?_
                    refine g_iinc (l' := (fun v505 => [(0, .ref 0), (1, .int a1), (2, .int a2), (3, .int a3), (4, .int v492), (5, .int v505)])) rfl rfl (by decide) (by first | with_reducible assumption | omega) (fun _ => rfl) (fun v505 ev505 => ?_)
                    refine g_goto ?_
                    exact ihL494 v492 v505 (by have := gz_any v492; omega) (by first | with_reducible assumption | omega) (by first | with_reducible assumption | omega)
            exact L494 _ a3 v491 (by have := gz_any a3; omega) (by first | with_reducible assumption | omega) (Nat.lt_succ_self _)
          · refine g_nop ?_
            refine g_iconst (by decide) (fun v506 kv506 => ?_)
            exact g_iret ⟨_, rfl, hIH410, hJH410, (e411.symm.trans ek0_2), m412⟩
set_option maxRecDepth 4000 in
set_option maxHeartbeats 4000000 in
/-- M.isSo -/
theorem s_213 (a1 : Int32) (ha1 : 0 ≤ a1.toInt ∧ a1.toInt ≤ 39) (a2 : Int32) (H : mzH) (hI : gI SM H) (hJ : JM H) : gCall 213 [.ref 0, .int a1, .int a2] H (gRi (fun v H' => H = H' ∧ (0 ≤ v.toInt ∧ v.toInt ≤ 1))) := by
  refine gG_call [(0, .ref 0), (1, .int a1), (2, .int a2)] ⟨rfl, rfl, rfl, trivial⟩ ?_
  show gG 3 zB_213 (mzBlk zB_213 0) [(0, .ref 0), (1, .int a1), (2, .int a2)] [] H 0 0 _
  refine g_iload_n rfl ?_
  refine g_sw (by decide) (fun c93 => ?_) ⟨fun c93 => ?_, fun c93 => ?_, fun c93 => ?_, fun c93 => ?_, fun c93 => ?_, trivial⟩
  · refine g_aload_n rfl ?_
    refine g_gfr hI sm_0 rfl ?_
    refine g_iload_n rfl ?_
    refine g_baload hI sm_13 rfl (by first | with_reducible assumption | omega) (fun v94 ev94 lv94 uv94 => ?_)
    exact g_zret (by first | with_reducible assumption | omega) ⟨_, rfl, rfl, (by first | with_reducible assumption | omega)⟩
  · refine g_aload_n rfl ?_
    refine g_gfr hI sm_0 rfl ?_
    refine g_iload_n rfl ?_
    refine g_baload hI sm_7 rfl (by first | with_reducible assumption | omega) (fun v95 ev95 lv95 uv95 => ?_)
    exact g_zret (by first | with_reducible assumption | omega) ⟨_, rfl, rfl, (by first | with_reducible assumption | omega)⟩
  · refine g_aload_n rfl ?_
    refine g_iload_n rfl ?_
    refine g_invvi hI sm_0 rfl rfl rfl rfl (s_202 a1 (by first | with_reducible assumption | omega) H hI hJ) (fun v98 H96 r97 => ?_)
    obtain ⟨rfl, bv98⟩ := r97
    refine g_bipush (by decide) (fun v99 kv99 => ?_)
    refine g_if2_ne (fun c100 => ?_) (fun c100 => ?_)
    · refine g_iconst (by decide) (fun v101 kv101 => ?_)
      refine g_nop ?_
      exact g_zret (by first | with_reducible assumption | omega) ⟨_, rfl, rfl, (by first | with_reducible assumption | omega)⟩
    · refine g_iconst (by decide) (fun v102 kv102 => ?_)
      refine g_goto ?_
      exact g_zret (by first | with_reducible assumption | omega) ⟨_, rfl, rfl, (by first | with_reducible assumption | omega)⟩
  · refine g_aload_n rfl ?_
    refine g_gfr hI sm_0 rfl ?_
    refine g_iload_n rfl ?_
    refine g_baload hI sm_16 rfl (by first | with_reducible assumption | omega) (fun v103 ev103 lv103 uv103 => ?_)
    exact g_zret (by first | with_reducible assumption | omega) ⟨_, rfl, rfl, (by first | with_reducible assumption | omega)⟩
  · refine g_aload_n rfl ?_
    refine g_gfr hI sm_0 rfl ?_
    refine g_iload_n rfl ?_
    refine g_baload hI sm_14 rfl (by first | with_reducible assumption | omega) (fun v104 ev104 lv104 uv104 => ?_)
    exact g_zret (by first | with_reducible assumption | omega) ⟨_, rfl, rfl, (by first | with_reducible assumption | omega)⟩
  · refine g_aload_n rfl ?_
    refine g_gfr hI sm_0 rfl ?_
    refine g_iload_n rfl ?_
    refine g_baload hI sm_7 rfl (by first | with_reducible assumption | omega) (fun v105 ev105 lv105 uv105 => ?_)
    refine g_if_eq (fun c106 => ?_) (fun c106 => ?_)
    · refine g_iconst (by decide) (fun v107 kv107 => ?_)
      refine g_nop ?_
      exact g_zret (by first | with_reducible assumption | omega) ⟨_, rfl, rfl, (by first | with_reducible assumption | omega)⟩
    · refine g_aload_n rfl ?_
      refine g_gfr hI sm_0 rfl ?_
      refine g_iload_n rfl ?_
      refine g_baload hI sm_16 rfl (by first | with_reducible assumption | omega) (fun v108 ev108 lv108 uv108 => ?_)
      refine g_if_ne (fun c109 => ?_) (fun c109 => ?_)
      · refine g_iconst (by decide) (fun v110 kv110 => ?_)
        refine g_nop ?_
        exact g_zret (by first | with_reducible assumption | omega) ⟨_, rfl, rfl, (by first | with_reducible assumption | omega)⟩
      · refine g_aload_n rfl ?_
        refine g_gfr hI sm_0 rfl ?_
        refine g_iload_n rfl ?_
        refine g_iaload hI sm_9 rfl (by first | with_reducible assumption | omega) (fun v111 ev111 lv111 uv111 => ?_)
        have qv111 := JM_in hJ (by first | with_reducible assumption | omega) ev111
        refine g_bipush (by decide) (fun v112 kv112 => ?_)
        refine g_if2_ne (fun c113 => ?_) (fun c113 => ?_)
        · refine g_iconst (by decide) (fun v114 kv114 => ?_)
          refine g_nop ?_
          exact g_zret (by first | with_reducible assumption | omega) ⟨_, rfl, rfl, (by first | with_reducible assumption | omega)⟩
        · refine g_iconst (by decide) (fun v115 kv115 => ?_)
          refine g_goto ?_
          exact g_zret (by first | with_reducible assumption | omega) ⟨_, rfl, rfl, (by first | with_reducible assumption | omega)⟩
set_option maxRecDepth 4000 in
set_option maxHeartbeats 4000000 in
/-- M.many -/
theorem s_214 (a1 : Int32) (a2 : Int32) (H : mzH) (hI : gI SM H) (hJ : JN H) : gCall 214 [.ref 0, .int a1, .int a2] H (gRi (fun v H' => gI SM H' ∧ JN H' ∧ fZ H' 0 2 = fZ H 0 2 ∧ kpM H H')) := by
  obtain ⟨k0_2, ek0_2⟩ : ∃ z, z = fZ H 0 2 := ⟨_, rfl⟩
  have ik0_2 : k0_2.toInt = (fZ H 0 2).toInt := by rw [← ek0_2]
  have bk0_2 : 0 ≤ k0_2.toInt ∧ k0_2.toInt ≤ 900 := by rw [ek0_2]; exact fZ_of hI sm_0 rfl
  have mkfr : kpM H H := kpM_r
  refine gG_call [(0, .ref 0), (1, .int a1), (2, .int a2)] ⟨rfl, rfl, rfl, trivial⟩ ?_
  show gG 5 zB_214 (mzBlk zB_214 0) [(0, .ref 0), (1, .int a1), (2, .int a2)] [] H 0 0 _
  refine g_aload_n rfl ?_
  refine g_iconst (by decide) (fun v569 kv569 => ?_)
  refine g_pfi hI sm_0 rfl (gz_any _) (fun H570 eH570 hIH570 => ?_)
  have hJH570 : JN H570 := JN_sF eH570 hJ
  have e571 : k0_2 = fZ H570 0 2 := by rw [eH570, fZ_sF_ne (by decide)]; exact ek0_2
  have m572 : kpM H H570 := kpM_F mkfr eH570 (by first | with_reducible assumption | omega)
  refine g_iload_n rfl ?_
  refine g_invti rfl rfl rfl (s_207 a1 H570 hIH570 hJH570) (fun v575 H573 r574 => ?_)
  obtain ⟨rfl, bv575⟩ := r574
  refine g_if_eq (fun c576 => ?_) (fun c576 => ?_)
  · refine g_iconst (by decide) (fun v577 kv577 => ?_)
    exact g_iret ⟨_, rfl, hIH570, hJH570, (e571.symm.trans ek0_2), m572⟩
  · refine g_iload_n rfl ?_
    refine g_if_lt (fun c578 => ?_) (fun c578 => ?_)
    · refine g_iconst (by decide) (fun v579 kv579 => ?_)
      exact g_iret ⟨_, rfl, hIH570, hJH570, (e571.symm.trans ek0_2), m572⟩
    · refine g_iload_n rfl ?_
      refine g_iconst (by decide) (fun v580 kv580 => ?_)
      refine g_if2_le (fun c581 => ?_) (fun c581 => ?_)
      · refine g_aload_n rfl ?_
        refine g_iload_n rfl ?_
        refine g_invvv hIH570 sm_0 rfl rfl rfl rfl (s_201 a1 H570 hIH570 hJH570) (fun H582 r583 => ?_)
        obtain ⟨hIH582, hJH582, w584, m585⟩ := r583
        have e586 : k0_2 = fZ H582 0 2 := e571.trans w584.symm
        have m587 : kpM H H582 := kpM_t m572 m585
        refine g_iconst (by decide) (fun v588 kv588 => ?_)
        refine g_istore_n (l' := [(0, .ref 0), (1, .int a1), (2, .int a2), (3, .int v588)]) rfl rfl ?_
        refine g_iconst (by decide) (fun v589 kv589 => ?_)
        refine g_istore (l' := [(0, .ref 0), (1, .int a1), (2, .int a2), (3, .int v588), (4, .int v589)]) rfl rfl ?_
        refine g_nop ?_
        have L592 : ∀ (N : Nat) (v590 : Int32) (v591 : Int32), (0 ≤ v591.toInt ∧ v591.toInt ≤ 40) → (40 - v591.toInt).toNat < N → gG 5 zB_214 (mzBlk zB_214 3) [(0, .ref 0), (1, .int a1), (2, .int a2), (3, .int v590), (4, .int v591)] [] H582 0 0 (gRi (fun v H' => gI SM H' ∧ JN H' ∧ fZ H' 0 2 = fZ H 0 2 ∧ kpM H H')) := by
          intro N
          induction N with
          | zero => intro v590 v591 bv591 hmL592; exact absurd hmL592 (Nat.not_lt_zero _)
          | succ N ihL592 =>
            intro v590 v591 bv591 hmL592
            refine g_iload rfl ?_
            refine g_bipush (by decide) (fun v593 kv593 => ?_)
            refine g_if2_ge (fun c594 => ?_) (fun c594 => ?_)
            · refine g_iload_n rfl ?_
              exact g_iret ⟨_, rfl, hIH582, (JM_n hJH582), (e586.symm.trans ek0_2), m587⟩
            · refine g_iload_n rfl ?_
              refine g_aload_n rfl ?_
              refine g_iload rfl ?_
              refine g_iload_n rfl ?_
              refine g_invvi hIH582 sm_0 rfl rfl rfl rfl (s_213 v591 (by first | with_reducible assumption | omega) a2 H582 hIH582 hJH582) (fun v597 H595 r596 => ?_)
              obtain ⟨rfl, bv597⟩ := r596
              refine g_if_eq (fun c598 => ?_) (fun c598 => ?_)
              · refine g_iconst (by decide) (fun v599 kv599 => ?_)
                refine g_nop ?_
                refine g_iadd (by have := gz_any v590; omega) (fun v600 ev600 => ?_)
                refine g_istore_n (l' := [(0, .ref 0), (1, .int a1), (2, .int a2), (3, .int v600), (4, .int v591)]) rfl rfl ?_
                refine g_iinc (l' := (fun v601 => [(0, .ref 0), (1, .int a1), (2, .int a2), (3, .int v600), (4, .int v601)])) rfl rfl (by decide) (by first | with_reducible assumption | omega) (fun _ => rfl) (fun v601 ev601 => ?_)
                refine g_goto ?_
                exact ihL592 v600 v601 (by first | with_reducible assumption | omega) (by first | with_reducible assumption | omega)
              · refine g_iconst (by decide) (fun v602 kv602 => ?_)
                refine g_goto ?_
                refine g_iadd' (fun v603 ov603 => ?_)
                refine g_istore_n (l' := [(0, .ref 0), (1, .int a1), (2, .int a2), (3, .int v603), (4, .int v591)]) rfl rfl ?_
                refine g_iinc (l' := (fun v604 => [(0, .ref 0), (1, .int a1), (2, .int a2), (3, .int v603), (4, .int v604)])) rfl rfl (by decide) (by first | with_reducible assumption | omega) (fun _ => rfl) (fun v604 ev604 => ?_)
                refine g_goto ?_
                exact ihL592 v603 v604 (by first | with_reducible assumption | omega) (by first | with_reducible assumption | omega)
        exact L592 _ v588 v589 (by first | with_reducible assumption | omega) (Nat.lt_succ_self _)
      · refine g_nop ?_
        refine g_iconst (by decide) (fun v605 kv605 => ?_)
        exact g_iret ⟨_, rfl, hIH570, hJH570, (e571.symm.trans ek0_2), m572⟩
set_option maxRecDepth 4000 in
set_option maxHeartbeats 4000000 in
/-- M.laysTrail -/
theorem s_215 (a1 : Int32) (ha1 : 0 ≤ a1.toInt ∧ a1.toInt ≤ 39) (H : mzH) (hI : gI SM H) (hJ : JN H) : gCall 215 [.ref 0, .int a1] H (gRv (fun H' => gI SM H' ∧ JM H' ∧ fZ H' 0 2 = fZ H 0 2 ∧ kpM H H')) := by
  obtain ⟨k0_2, ek0_2⟩ : ∃ z, z = fZ H 0 2 := ⟨_, rfl⟩
  have ik0_2 : k0_2.toInt = (fZ H 0 2).toInt := by rw [← ek0_2]
  have bk0_2 : 0 ≤ k0_2.toInt ∧ k0_2.toInt ≤ 900 := by rw [ek0_2]; exact fZ_of hI sm_0 rfl
  have mkfr : kpM H H := kpM_r
  refine gG_call [(0, .ref 0), (1, .int a1)] ⟨rfl, rfl, trivial⟩ ?_
  show gG 5 zB_215 (mzBlk zB_215 0) [(0, .ref 0), (1, .int a1)] [] H 0 0 _
  refine g_aload_n rfl ?_
  refine g_invvv hI sm_0 rfl rfl rfl rfl (s_183 H hI hJ) (fun H591 r592 => ?_)
  obtain ⟨hIH591, hJH591, m593, m594, m595, p596⟩ := r592
  have e597 : k0_2 = fZ H591 0 2 := ek0_2.trans (m593 0 2).symm
  have im593_0_39 : (fZ H591 0 39).toInt = (fZ H 0 39).toInt := by rw [m593]
  have m598 : kpM H H591 := kpM_t mkfr m595
  refine g_aload_n rfl ?_
  refine g_invvv hIH591 sm_0 rfl rfl rfl rfl (s_185 H591 hIH591 hJH591) (fun H599 r600 => ?_)
  obtain ⟨hIH599, hJH599, w601, w602, m603, m604, m605, p606⟩ := r600
  have e607 : k0_2 = fZ H599 0 2 := e597.trans w601.symm
  have m608 : kpM H H599 := kpM_t m598 m605
  refine g_aload_n rfl ?_
  refine g_iconst (by decide) (fun v609 kv609 => ?_)
  refine g_pfi hIH599 sm_0 rfl (by first | with_reducible assumption | omega) (fun H610 eH610 hIH610 => ?_)
  have hJH610 : JM H610 := JM_sF eH610 hJH599
  have e611 : k0_2 = fZ H610 0 2 := by rw [eH610, fZ_sF_ne (by decide)]; exact e607
  have e612 : v609 = fZ H610 0 39 := by rw [eH610, fZ_sF_eq hIH599 sm_0 rfl]
  have m613 : kpM H H610 := kpM_F m608 eH610 (by first | with_reducible assumption | omega)
  have ie612 : v609.toInt = (fZ H610 0 39).toInt := by rw [← e612]
  refine g_bipush (by decide) (fun v614 kv614 => ?_)
  refine g_istore_n (l' := [(0, .ref 0), (1, .int a1), (2, .int v614)]) rfl rfl ?_
  refine g_iconst (by decide) (fun v615 kv615 => ?_)
  refine g_istore_n (l' := [(0, .ref 0), (1, .int a1), (2, .int v614), (3, .int v615)]) rfl rfl ?_
  refine g_nop ?_
  have L621 : ∀ (N : Nat) (v616 : Int32) (v617 : Int32) (H618 : mzH), gI SM H618 → JM H618 → k0_2 = fZ H618 0 2 → kpM H H618 → (-4 ≤ v616.toInt ∧ v616.toInt ≤ 7) → (0 ≤ v617.toInt ∧ v617.toInt ≤ 60) → (fZ H618 0 39).toInt ≤ v617.toInt → (60 - v617.toInt).toNat < N → gG 5 zB_215 (mzBlk zB_215 1) [(0, .ref 0), (1, .int a1), (2, .int v616), (3, .int v617)] [] H618 0 0 (gRv (fun H' => gI SM H' ∧ JM H' ∧ fZ H' 0 2 = fZ H 0 2 ∧ kpM H H')) := by
    intro N
    induction N with
    | zero => intro v616 v617 H618 hIH618 hJH618 e619 m620 bv616 bv617 q1 hmL621; exact absurd hmL621 (Nat.not_lt_zero _)
    | succ N ihL621 =>
      intro v616 v617 H618 hIH618 hJH618 e619 m620 bv616 bv617 q1 hmL621
      obtain ⟨k622, ek622⟩ : ∃ z, z = fZ H618 0 39 := ⟨_, rfl⟩
      have ik622 : k622.toInt = (fZ H618 0 39).toInt := by rw [← ek622]
      have bk622 : 0 ≤ k622.toInt ∧ k622.toInt ≤ 60 := by rw [ek622]; exact fZ_of hIH618 sm_0 rfl
      refine g_iload_n rfl ?_
      refine g_aload_n rfl ?_
      refine g_gfi hIH618 sm_0 rfl (fun v623 ev623 lv623 uv623 => ?_)
      refine g_if2_ge (fun c624 => ?_) (fun c624 => ?_)
      · exact g_ret ⟨rfl, hIH618, hJH618, (e619.symm.trans ek0_2), m620⟩
      · refine g_aload_n rfl ?_
        refine g_aload_n rfl ?_
        refine g_gfr hIH618 sm_0 rfl ?_
        refine g_iload_n rfl ?_
        refine g_iaload hIH618 sm_19 rfl (by first | with_reducible assumption | omega) (fun v625 ev625 lv625 uv625 => ?_)
        refine g_invvv hIH618 sm_0 rfl rfl rfl rfl (s_193 v625 (by first | with_reducible assumption | omega) H618 hIH618 hJH618) (fun H626 r627 => ?_)
        obtain ⟨hIH626, hJH626, m628, m629, m630, m631, m632⟩ := r627
        have e633 : k0_2 = fZ H626 0 2 := e619.trans (m628 0 2).symm
        have e634 : k622 = fZ H626 0 39 := ek622.trans (m628 0 39).symm
        have m635 : kpM H H626 := kpM_t m620 m632
        have ie634 : k622.toInt = (fZ H626 0 39).toInt := by rw [← e634]
        refine g_aload_n rfl ?_
        refine g_iload_n rfl ?_
        refine g_invvi hIH626 sm_0 rfl rfl rfl rfl (s_202 a1 (by first | with_reducible assumption | omega) H626 hIH626 hJH626) (fun v638 H636 r637 => ?_)
        obtain ⟨rfl, bv638⟩ := r637
        refine g_istore (l' := [(0, .ref 0), (1, .int a1), (2, .int v616), (3, .int v617), (4, .int v638)]) rfl rfl ?_
        refine g_iload rfl ?_
        refine g_iload_n rfl ?_
        refine g_if2_ne (fun c639 => ?_) (fun c639 => ?_)
        · refine g_aload_n rfl ?_
          refine g_gfr hIH626 sm_0 rfl ?_
          refine g_aload_n rfl ?_
          refine g_gfk hIH626 sm_0 rfl e634 ?_
          refine g_iload rfl ?_
          refine g_iastore hIH626 sm_22 (by first | with_reducible assumption | omega) (by first | with_reducible assumption | omega) (fun H640 eH640 hIH640 => ?_)
          have hJH640 : JM H640 := JM_sA (by decide) eH640 hJH626
          have e641 : k0_2 = fZ H640 0 2 := by rw [eH640, fZ_sA]; exact e633
          have e642 : k622 = fZ H640 0 39 := by rw [eH640, fZ_sA]; exact e634
          have m643 : kpM H H640 := kpM_A m635 eH640 (by first | with_reducible assumption | omega)
          have ie642 : k622.toInt = (fZ H640 0 39).toInt := by rw [← e642]
          refine g_aload_n rfl ?_
          refine g_gfr hIH640 sm_0 rfl ?_
          refine g_aload_n rfl ?_
          refine g_gfk hIH640 sm_0 rfl e642 ?_
          refine g_aload_n rfl ?_
          refine g_gfr hIH640 sm_0 rfl ?_
          refine g_aload_n rfl ?_
          refine g_gfr hIH640 sm_0 rfl ?_
          refine g_iload_n rfl ?_
          refine g_iaload hIH640 sm_19 rfl (by first | with_reducible assumption | omega) (fun v644 ev644 lv644 uv644 => ?_)
          refine g_iaload hIH640 sm_18 rfl (by first | with_reducible assumption | omega) (fun v645 ev645 lv645 uv645 => ?_)
          refine g_iastore hIH640 sm_23 (by first | with_reducible assumption | omega) (gz_any _) (fun H646 eH646 hIH646 => ?_)
          have hJH646 : JM H646 := JM_sA (by decide) eH646 hJH640
          have e647 : k0_2 = fZ H646 0 2 := by rw [eH646, fZ_sA]; exact e641
          have e648 : k622 = fZ H646 0 39 := by rw [eH646, fZ_sA]; exact e642
          have m649 : kpM H H646 := kpM_A m643 eH646 (by first | with_reducible assumption | omega)
          have ie648 : k622.toInt = (fZ H646 0 39).toInt := by rw [← e648]
          refine g_aload_n rfl ?_
          refine g_dup rfl ?_
          refine g_gfk hIH646 sm_0 rfl e648 ?_
          refine g_iconst (by decide) (fun v650 kv650 => ?_)
          refine g_iadd (by first | with_reducible assumption | omega) (fun v651 ev651 => ?_)
          refine g_pfi hIH646 sm_0 rfl (by first | with_reducible assumption | omega) (fun H652 eH652 hIH652 => ?_)
          have hJH652 : JM H652 := JM_sF eH652 hJH646
          have e653 : k0_2 = fZ H652 0 2 := by rw [eH652, fZ_sF_ne (by decide)]; exact e647
          have e654 : v651 = fZ H652 0 39 := by rw [eH652, fZ_sF_eq hIH646 sm_0 rfl]
          have m655 : kpM H H652 := kpM_F m649 eH652 (by first | with_reducible assumption | omega)
          have ie654 : v651.toInt = (fZ H652 0 39).toInt := by rw [← e654]
          refine g_iload rfl ?_
          refine g_istore_n (l' := [(0, .ref 0), (1, .int a1), (2, .int v638), (3, .int v617), (4, .int v638)]) rfl rfl ?_
          refine g_nop ?_
          refine g_iinc (l' := (fun v656 => [(0, .ref 0), (1, .int a1), (2, .int v638), (3, .int v656), (4, .int v638)])) rfl rfl (by decide) (by first | with_reducible assumption | omega) (fun _ => rfl) (fun v656 ev656 => ?_)
          refine g_goto ?_
          refine gG_pick [0, 1, 2, 3] (l' := [(0, .ref 0), (1, .int a1), (2, .int v638), (3, .int v656)]) rfl ?_
          exact ihL621 v638 v656 H652 hIH652 hJH652 e653 m655 (by first | with_reducible assumption | omega) (by first | with_reducible assumption | omega) (by first | with_reducible assumption | omega) (by first | with_reducible assumption | omega)
        · refine g_goto ?_
          refine g_iinc (l' := (fun v657 => [(0, .ref 0), (1, .int a1), (2, .int v616), (3, .int v657), (4, .int v638)])) rfl rfl (by decide) (by first | with_reducible assumption | omega) (fun _ => rfl) (fun v657 ev657 => ?_)
          refine g_goto ?_
          refine gG_pick [0, 1, 2, 3] (l' := [(0, .ref 0), (1, .int a1), (2, .int v616), (3, .int v657)]) rfl ?_
          exact ihL621 v616 v657 H626 hIH626 hJH626 e633 m635 (by first | with_reducible assumption | omega) (by first | with_reducible assumption | omega) (by first | with_reducible assumption | omega) (by first | with_reducible assumption | omega)
  exact L621 _ v614 v615 H610 hIH610 hJH610 e611 m613 (by first | with_reducible assumption | omega) (by first | with_reducible assumption | omega) (by first | with_reducible assumption | omega) (Nat.lt_succ_self _)
set_option maxRecDepth 4000 in
set_option maxHeartbeats 4000000 in
/-- M.trail -/
theorem s_216 (a1 : Int32) (a2 : Int32) (a3 : Int32) (H : mzH) (hI : gI SM H) (hJ : JN H) : gCall 216 [.ref 0, .int a1, .int a2, .int a3] H (gRi (fun v H' => gI SM H' ∧ JN H' ∧ fZ H' 0 2 = fZ H 0 2 ∧ kpM H H')) := by
  obtain ⟨k0_2, ek0_2⟩ : ∃ z, z = fZ H 0 2 := ⟨_, rfl⟩
  have ik0_2 : k0_2.toInt = (fZ H 0 2).toInt := by rw [← ek0_2]
  have bk0_2 : 0 ≤ k0_2.toInt ∧ k0_2.toInt ≤ 900 := by rw [ek0_2]; exact fZ_of hI sm_0 rfl
  have mkfr : kpM H H := kpM_r
  refine gG_call [(0, .ref 0), (1, .int a1), (2, .int a2), (3, .int a3)] ⟨rfl, rfl, rfl, rfl, trivial⟩ ?_
  show gG 4 zB_216 (mzBlk zB_216 0) [(0, .ref 0), (1, .int a1), (2, .int a2), (3, .int a3)] [] H 0 0 _
  refine g_aload_n rfl ?_
  refine g_iconst (by decide) (fun v117 kv117 => ?_)
  refine g_pfi hI sm_0 rfl (gz_any _) (fun H118 eH118 hIH118 => ?_)
  have hJH118 : JN H118 := JN_sF eH118 hJ
  have e119 : k0_2 = fZ H118 0 2 := by rw [eH118, fZ_sF_ne (by decide)]; exact ek0_2
  have m120 : kpM H H118 := kpM_F mkfr eH118 (by first | with_reducible assumption | omega)
  refine g_iload_n rfl ?_
  refine g_invti rfl rfl rfl (s_206 a1 H118 hIH118 hJH118) (fun v123 H121 r122 => ?_)
  obtain ⟨rfl, bv123, p124⟩ := r122
  refine g_if_eq (fun c125 => ?_) (fun c125 => ?_)
  · refine g_bipush (by decide) (fun v126 kv126 => ?_)
    exact g_iret ⟨_, rfl, hIH118, hJH118, (e119.symm.trans ek0_2), m120⟩
  · refine g_iload_n rfl ?_
    refine g_if_lt (fun c127 => ?_) (fun c127 => ?_)
    · refine g_bipush (by decide) (fun v128 kv128 => ?_)
      exact g_iret ⟨_, rfl, hIH118, hJH118, (e119.symm.trans ek0_2), m120⟩
    · refine g_iload_n rfl ?_
      refine g_if_lt (fun c129 => ?_) (fun c129 => ?_)
      · refine g_bipush (by decide) (fun v130 kv130 => ?_)
        exact g_iret ⟨_, rfl, hIH118, hJH118, (e119.symm.trans ek0_2), m120⟩
      · refine g_iload_n rfl ?_
        refine g_iconst (by decide) (fun v131 kv131 => ?_)
        refine g_if2_le (fun c132 => ?_) (fun c132 => ?_)
        · refine g_aload_n rfl ?_
          refine g_iload_n rfl ?_
          refine g_invvv hIH118 sm_0 rfl rfl rfl rfl (s_215 a1 (by first | with_reducible assumption | omega) H118 hIH118 hJH118) (fun H133 r134 => ?_)
          obtain ⟨hIH133, hJH133, w135, m136⟩ := r134
          have e137 : k0_2 = fZ H133 0 2 := e119.trans w135.symm
          have m138 : kpM H H133 := kpM_t m120 m136
          refine g_iload_n rfl ?_
          refine g_aload_n rfl ?_
          refine g_gfi hIH133 sm_0 rfl (fun v139 ev139 lv139 uv139 => ?_)
          refine g_if2_ge (fun c140 => ?_) (fun c140 => ?_)
          · refine g_bipush (by decide) (fun v141 kv141 => ?_)
            refine g_nop ?_
            exact g_iret ⟨_, rfl, hIH133, (JM_n hJH133), (e137.symm.trans ek0_2), m138⟩
          · refine g_iload_n rfl ?_
            refine g_if_ne (fun c142 => ?_) (fun c142 => ?_)
            · refine g_aload_n rfl ?_
              refine g_gfr hIH133 sm_0 rfl ?_
              refine g_iload_n rfl ?_
              refine g_iaload hIH133 sm_23 rfl (by first | with_reducible assumption | omega) (fun v143 ev143 lv143 uv143 => ?_)
              refine g_goto ?_
              exact g_iret ⟨_, rfl, hIH133, (JM_n hJH133), (e137.symm.trans ek0_2), m138⟩
            · refine g_aload_n rfl ?_
              refine g_gfr hIH133 sm_0 rfl ?_
              refine g_iload_n rfl ?_
              refine g_iaload hIH133 sm_22 rfl (by first | with_reducible assumption | omega) (fun v144 ev144 lv144 uv144 => ?_)
              refine g_goto ?_
              exact g_iret ⟨_, rfl, hIH133, (JM_n hJH133), (e137.symm.trans ek0_2), m138⟩
        · refine g_nop ?_
          refine g_bipush (by decide) (fun v145 kv145 => ?_)
          exact g_iret ⟨_, rfl, hIH118, hJH118, (e119.symm.trans ek0_2), m120⟩
set_option maxRecDepth 4000 in
set_option maxHeartbeats 4000000 in
/-- M.latest -/
theorem s_217 (H : mzH) (hI : gI SM H) (hJ : JN H) : gCall 217 [.ref 0] H (gRi (fun v H' => H = H')) := by
  refine gG_call [(0, .ref 0)] ⟨rfl, trivial⟩ ?_
  show gG 3 zB_217 (mzBlk zB_217 0) [(0, .ref 0)] [] H 0 0 _
  refine g_iconst (by decide) (fun v289 kv289 => ?_)
  refine g_istore_n (l' := [(0, .ref 0), (1, .int v289)]) rfl rfl ?_
  refine g_iconst (by decide) (fun v290 kv290 => ?_)
  refine g_istore_n (l' := [(0, .ref 0), (1, .int v289), (2, .int v290)]) rfl rfl ?_
  refine g_nop ?_
  have L293 : ∀ (N : Nat) (v291 : Int32) (v292 : Int32), (0 ≤ v292.toInt ∧ v292.toInt ≤ 60) → (60 - v292.toInt).toNat < N → gG 3 zB_217 (mzBlk zB_217 1) [(0, .ref 0), (1, .int v291), (2, .int v292)] [] H 0 0 (gRi (fun v H' => H = H')) := by
    intro N
    induction N with
    | zero => intro v291 v292 bv292 hmL293; exact absurd hmL293 (Nat.not_lt_zero _)
    | succ N ihL293 =>
      intro v291 v292 bv292 hmL293
      refine g_iload_n rfl ?_
      refine g_aload_n rfl ?_
      refine g_invvi hI sm_0 rfl rfl rfl rfl (s_181 H hI hJ) (fun v296 H294 r295 => ?_)
      obtain ⟨rfl, bv296, p297⟩ := r295
      refine g_if2_ge (fun c298 => ?_) (fun c298 => ?_)
      · refine g_iload_n rfl ?_
        exact g_iret ⟨_, rfl, rfl⟩
      · refine g_aload_n rfl ?_
        refine g_iload_n rfl ?_
        refine g_iconst (by decide) (fun v299 kv299 => ?_)
        refine g_invvi hI sm_0 rfl rfl rfl rfl (s_182 v292 (by first | with_reducible assumption | omega) v299 (by first | with_reducible assumption | omega) H hI hJ) (fun v302 H300 r301 => ?_)
        obtain ⟨rfl, p303⟩ := r301
        have tv302 : v302 = aZ H 2 (69 + 5 * v292.toInt + 0).toNat := by rw [p303, kv299]
        refine g_iload_n rfl ?_
        refine g_if2_le (fun c304 => ?_) (fun c304 => ?_)
        · refine g_iload_n rfl ?_
          refine g_nop ?_
          refine g_istore_n (l' := [(0, .ref 0), (1, .int v291), (2, .int v292)]) rfl rfl ?_
          refine g_iinc (l' := (fun v305 => [(0, .ref 0), (1, .int v291), (2, .int v305)])) rfl rfl (by decide) (by first | with_reducible assumption | omega) (fun _ => rfl) (fun v305 ev305 => ?_)
          refine g_goto ?_
          exact ihL293 v291 v305 (by first | with_reducible assumption | omega) (by first | with_reducible assumption | omega)
        · refine g_aload_n rfl ?_
          refine g_iload_n rfl ?_
          refine g_iconst (by decide) (fun v306 kv306 => ?_)
          refine g_invvi hI sm_0 rfl rfl rfl rfl (s_182 v292 (by first | with_reducible assumption | omega) v306 (by first | with_reducible assumption | omega) H hI hJ) (fun v309 H307 r308 => ?_)
          obtain ⟨rfl, p310⟩ := r308
          have tv309 : v309 = aZ H 2 (69 + 5 * v292.toInt + 0).toNat := by rw [p310, kv306]
          refine g_goto ?_
          refine g_istore_n (l' := [(0, .ref 0), (1, .int v309), (2, .int v292)]) rfl rfl ?_
          refine g_iinc (l' := (fun v311 => [(0, .ref 0), (1, .int v309), (2, .int v311)])) rfl rfl (by decide) (by first | with_reducible assumption | omega) (fun _ => rfl) (fun v311 ev311 => ?_)
          refine g_goto ?_
          exact ihL293 v309 v311 (by first | with_reducible assumption | omega) (by first | with_reducible assumption | omega)
  exact L293 _ v289 v290 (by first | with_reducible assumption | omega) (Nat.lt_succ_self _)
set_option maxRecDepth 4000 in
set_option maxHeartbeats 4000000 in
/-- M.dwelt -/
theorem s_218 (a1 : Int32) (a2 : Int32) (H : mzH) (hI : gI SM H) (hJ : JN H) : gCall 218 [.ref 0, .int a1, .int a2] H (gRi (fun v H' => gI SM H' ∧ JN H' ∧ fZ H' 0 2 = fZ H 0 2 ∧ kpM H H')) := by
  obtain ⟨k0_2, ek0_2⟩ : ∃ z, z = fZ H 0 2 := ⟨_, rfl⟩
  have ik0_2 : k0_2.toInt = (fZ H 0 2).toInt := by rw [← ek0_2]
  have bk0_2 : 0 ≤ k0_2.toInt ∧ k0_2.toInt ≤ 900 := by rw [ek0_2]; exact fZ_of hI sm_0 rfl
  have mkfr : kpM H H := kpM_r
  refine gG_call [(0, .ref 0), (1, .int a1), (2, .int a2)] ⟨rfl, rfl, rfl, trivial⟩ ?_
  show gG 5 zB_218 (mzBlk zB_218 0) [(0, .ref 0), (1, .int a1), (2, .int a2)] [] H 0 0 _
  refine g_aload_n rfl ?_
  refine g_iconst (by decide) (fun v515 kv515 => ?_)
  refine g_pfi hI sm_0 rfl (gz_any _) (fun H516 eH516 hIH516 => ?_)
  have hJH516 : JN H516 := JN_sF eH516 hJ
  have e517 : k0_2 = fZ H516 0 2 := by rw [eH516, fZ_sF_ne (by decide)]; exact ek0_2
  have m518 : kpM H H516 := kpM_F mkfr eH516 (by first | with_reducible assumption | omega)
  refine g_iload_n rfl ?_
  refine g_invti rfl rfl rfl (s_206 a1 H516 hIH516 hJH516) (fun v521 H519 r520 => ?_)
  obtain ⟨rfl, bv521, p522⟩ := r520
  refine g_if_eq (fun c523 => ?_) (fun c523 => ?_)
  · refine g_iconst (by decide) (fun v524 kv524 => ?_)
    exact g_iret ⟨_, rfl, hIH516, hJH516, (e517.symm.trans ek0_2), m518⟩
  · refine g_aload_n rfl ?_
    refine g_iload_n rfl ?_
    refine g_invvi hIH516 sm_0 rfl rfl rfl rfl (s_211 a2 H516 hIH516 hJH516) (fun v527 H525 r526 => ?_)
    obtain ⟨rfl, bv527, p528⟩ := r526
    refine g_if_ne (fun c529 => ?_) (fun c529 => ?_)
    · refine g_aload_n rfl ?_
      refine g_iload_n rfl ?_
      refine g_invvv hIH516 sm_0 rfl rfl rfl rfl (s_215 a1 (by first | with_reducible assumption | omega) H516 hIH516 hJH516) (fun H530 r531 => ?_)
      obtain ⟨hIH530, hJH530, w532, m533⟩ := r531
      have e534 : k0_2 = fZ H530 0 2 := e517.trans w532.symm
      have m535 : kpM H H530 := kpM_t m518 m533
      refine g_iconst (by decide) (fun v536 kv536 => ?_)
      refine g_istore_n (l' := [(0, .ref 0), (1, .int a1), (2, .int a2), (3, .int v536)]) rfl rfl ?_
      refine g_iconst (by decide) (fun v537 kv537 => ?_)
      refine g_istore (l' := [(0, .ref 0), (1, .int a1), (2, .int a2), (3, .int v536), (4, .int v537)]) rfl rfl ?_
      refine g_nop ?_
      have L540 : ∀ (N : Nat) (v538 : Int32) (v539 : Int32), (0 ≤ v539.toInt ∧ v539.toInt ≤ 60) → (60 - v539.toInt).toNat < N → gG 5 zB_218 (mzBlk zB_218 3) [(0, .ref 0), (1, .int a1), (2, .int a2), (3, .int v538), (4, .int v539)] [] H530 0 0 (gRi (fun v H' => gI SM H' ∧ JN H' ∧ fZ H' 0 2 = fZ H 0 2 ∧ kpM H H')) := by
        intro N
        induction N with
        | zero => intro v538 v539 bv539 hmL540; exact absurd hmL540 (Nat.not_lt_zero _)
        | succ N ihL540 =>
          intro v538 v539 bv539 hmL540
          refine g_iload rfl ?_
          refine g_aload_n rfl ?_
          refine g_gfi hIH530 sm_0 rfl (fun v541 ev541 lv541 uv541 => ?_)
          refine g_if2_ge (fun c542 => ?_) (fun c542 => ?_)
          · refine g_iload_n rfl ?_
            exact g_iret ⟨_, rfl, hIH530, (JM_n hJH530), (e534.symm.trans ek0_2), m535⟩
          · refine g_aload_n rfl ?_
            refine g_gfr hIH530 sm_0 rfl ?_
            refine g_iload rfl ?_
            refine g_iaload hIH530 sm_22 rfl (by first | with_reducible assumption | omega) (fun v543 ev543 lv543 uv543 => ?_)
            refine g_iload_n rfl ?_
            refine g_if2_ne (fun c544 => ?_) (fun c544 => ?_)
            · refine g_iinc (l' := (fun v545 => [(0, .ref 0), (1, .int a1), (2, .int a2), (3, .int v538), (4, .int v545)])) rfl rfl (by decide) (by first | with_reducible assumption | omega) (fun _ => rfl) (fun v545 ev545 => ?_)
              refine g_goto ?_
              exact ihL540 v538 v545 (by first | with_reducible assumption | omega) (by first | with_reducible assumption | omega)
            · refine g_iload_n rfl ?_
              refine g_iload rfl ?_
              refine g_iconst (by decide) (fun v546 kv546 => ?_)
              refine g_iadd (by first | with_reducible assumption | omega) (fun v547 ev547 => ?_)
              refine g_aload_n rfl ?_
              refine g_gfi hIH530 sm_0 rfl (fun v548 ev548 lv548 uv548 => ?_)
              refine g_if2_ge (fun c549 => ?_) (fun c549 => ?_)
              · refine g_aload_n rfl ?_
                refine g_invvi hIH530 sm_0 rfl rfl rfl rfl (s_217 H530 hIH530 (JM_n hJH530)) (fun v552 H550 r551 => ?_)
                obtain rfl := r551
                refine g_nop ?_
                refine g_aload_n rfl ?_
                refine g_gfr hIH530 sm_0 rfl ?_
                refine g_iload rfl ?_
                refine g_iaload hIH530 sm_23 rfl (by first | with_reducible assumption | omega) (fun v553 ev553 lv553 uv553 => ?_)
                refine g_isub' (fun v554 ov554 => ?_)
                refine g_iadd' (fun v555 ov555 => ?_)
                refine g_istore_n (l' := [(0, .ref 0), (1, .int a1), (2, .int a2), (3, .int v555), (4, .int v539)]) rfl rfl ?_
                refine g_nop ?_
                refine g_iinc (l' := (fun v556 => [(0, .ref 0), (1, .int a1), (2, .int a2), (3, .int v555), (4, .int v556)])) rfl rfl (by decide) (by first | with_reducible assumption | omega) (fun _ => rfl) (fun v556 ev556 => ?_)
                refine g_goto ?_
                exact ihL540 v555 v556 (by first | with_reducible assumption | omega) (by first | with_reducible assumption | omega)
              · refine g_aload_n rfl ?_
                refine g_gfr hIH530 sm_0 rfl ?_
                refine g_iload rfl ?_
                refine g_iconst (by decide) (fun v557 kv557 => ?_)
                refine g_iadd (by first | with_reducible assumption | omega) (fun v558 ev558 => ?_)
                refine g_iaload hIH530 sm_23 rfl (by first | with_reducible assumption | omega) (fun v559 ev559 lv559 uv559 => ?_)
                refine g_goto ?_
                refine g_aload_n rfl ?_
                refine g_gfr hIH530 sm_0 rfl ?_
                refine g_iload rfl ?_
                refine g_iaload hIH530 sm_23 rfl (by first | with_reducible assumption | omega) (fun v560 ev560 lv560 uv560 => ?_)
                refine g_isub' (fun v561 ov561 => ?_)
                refine g_iadd' (fun v562 ov562 => ?_)
                refine g_istore_n (l' := [(0, .ref 0), (1, .int a1), (2, .int a2), (3, .int v562), (4, .int v539)]) rfl rfl ?_
                refine g_nop ?_
                refine g_iinc (l' := (fun v563 => [(0, .ref 0), (1, .int a1), (2, .int a2), (3, .int v562), (4, .int v563)])) rfl rfl (by decide) (by first | with_reducible assumption | omega) (fun _ => rfl) (fun v563 ev563 => ?_)
                refine g_goto ?_
                exact ihL540 v562 v563 (by first | with_reducible assumption | omega) (by first | with_reducible assumption | omega)
      exact L540 _ v536 v537 (by first | with_reducible assumption | omega) (Nat.lt_succ_self _)
    · refine g_iload_n rfl ?_
      refine g_bipush (by decide) (fun v564 kv564 => ?_)
      refine g_if2_eq (fun c565 => ?_) (fun c565 => ?_)
      · refine g_aload_n rfl ?_
        refine g_iload_n rfl ?_
        refine g_invvv hIH516 sm_0 rfl rfl rfl rfl (s_215 a1 (by first | with_reducible assumption | omega) H516 hIH516 hJH516) (fun H566 r567 => ?_)
        obtain ⟨hIH566, hJH566, w568, m569⟩ := r567
        have e570 : k0_2 = fZ H566 0 2 := e517.trans w568.symm
        have m571 : kpM H H566 := kpM_t m518 m569
        refine g_iconst (by decide) (fun v572 kv572 => ?_)
        refine g_istore_n (l' := [(0, .ref 0), (1, .int a1), (2, .int a2), (3, .int v572)]) rfl rfl ?_
        refine g_iconst (by decide) (fun v573 kv573 => ?_)
        refine g_istore (l' := [(0, .ref 0), (1, .int a1), (2, .int a2), (3, .int v572), (4, .int v573)]) rfl rfl ?_
        refine g_nop ?_
        have L576 : ∀ (N : Nat) (v574 : Int32) (v575 : Int32), (0 ≤ v575.toInt ∧ v575.toInt ≤ 60) → (60 - v575.toInt).toNat < N → gG 5 zB_218 (mzBlk zB_218 3) [(0, .ref 0), (1, .int a1), (2, .int a2), (3, .int v574), (4, .int v575)] [] H566 0 0 (gRi (fun v H' => gI SM H' ∧ JN H' ∧ fZ H' 0 2 = fZ H 0 2 ∧ kpM H H')) := by
          intro N
          induction N with
          | zero => intro v574 v575 bv575 hmL576; exact absurd hmL576 (Nat.not_lt_zero _)
          | succ N ihL576 =>
            intro v574 v575 bv575 hmL576
            refine g_iload rfl ?_
            refine g_aload_n rfl ?_
            refine g_gfi hIH566 sm_0 rfl (fun v577 ev577 lv577 uv577 => ?_)
            refine g_if2_ge (fun c578 => ?_) (fun c578 => ?_)
            · refine g_iload_n rfl ?_
              exact g_iret ⟨_, rfl, hIH566, (JM_n hJH566), (e570.symm.trans ek0_2), m571⟩
            · refine g_aload_n rfl ?_
              refine g_gfr hIH566 sm_0 rfl ?_
              refine g_iload rfl ?_
              refine g_iaload hIH566 sm_22 rfl (by first | with_reducible assumption | omega) (fun v579 ev579 lv579 uv579 => ?_)
              refine g_iload_n rfl ?_
              refine g_if2_ne (fun c580 => ?_) (fun c580 => ?_)
              · refine g_iinc (l' := (fun v581 => [(0, .ref 0), (1, .int a1), (2, .int a2), (3, .int v574), (4, .int v581)])) rfl rfl (by decide) (by first | with_reducible assumption | omega) (fun _ => rfl) (fun v581 ev581 => ?_)
                refine g_goto ?_
                exact ihL576 v574 v581 (by first | with_reducible assumption | omega) (by first | with_reducible assumption | omega)
              · refine g_iload_n rfl ?_
                refine g_iload rfl ?_
                refine g_iconst (by decide) (fun v582 kv582 => ?_)
                refine g_iadd (by first | with_reducible assumption | omega) (fun v583 ev583 => ?_)
                refine g_aload_n rfl ?_
                refine g_gfi hIH566 sm_0 rfl (fun v584 ev584 lv584 uv584 => ?_)
                refine g_if2_ge (fun c585 => ?_) (fun c585 => ?_)
                · refine g_aload_n rfl ?_
                  refine g_invvi hIH566 sm_0 rfl rfl rfl rfl (s_217 H566 hIH566 (JM_n hJH566)) (fun v588 H586 r587 => ?_)
                  obtain rfl := r587
                  refine g_nop ?_
                  refine g_aload_n rfl ?_
                  refine g_gfr hIH566 sm_0 rfl ?_
                  refine g_iload rfl ?_
                  refine g_iaload hIH566 sm_23 rfl (by first | with_reducible assumption | omega) (fun v589 ev589 lv589 uv589 => ?_)
                  refine g_isub' (fun v590 ov590 => ?_)
                  refine g_iadd' (fun v591 ov591 => ?_)
                  refine g_istore_n (l' := [(0, .ref 0), (1, .int a1), (2, .int a2), (3, .int v591), (4, .int v575)]) rfl rfl ?_
                  refine g_nop ?_
                  refine g_iinc (l' := (fun v592 => [(0, .ref 0), (1, .int a1), (2, .int a2), (3, .int v591), (4, .int v592)])) rfl rfl (by decide) (by first | with_reducible assumption | omega) (fun _ => rfl) (fun v592 ev592 => ?_)
                  refine g_goto ?_
                  exact ihL576 v591 v592 (by first | with_reducible assumption | omega) (by first | with_reducible assumption | omega)
                · refine g_aload_n rfl ?_
                  refine g_gfr hIH566 sm_0 rfl ?_
                  refine g_iload rfl ?_
                  refine g_iconst (by decide) (fun v593 kv593 => ?_)
                  refine g_iadd (by first | with_reducible assumption | omega) (fun v594 ev594 => ?_)
                  refine g_iaload hIH566 sm_23 rfl (by first | with_reducible assumption | omega) (fun v595 ev595 lv595 uv595 => ?_)
                  refine g_goto ?_
                  refine g_aload_n rfl ?_
                  refine g_gfr hIH566 sm_0 rfl ?_
                  refine g_iload rfl ?_
                  refine g_iaload hIH566 sm_23 rfl (by first | with_reducible assumption | omega) (fun v596 ev596 lv596 uv596 => ?_)
                  refine g_isub' (fun v597 ov597 => ?_)
                  refine g_iadd' (fun v598 ov598 => ?_)
                  refine g_istore_n (l' := [(0, .ref 0), (1, .int a1), (2, .int a2), (3, .int v598), (4, .int v575)]) rfl rfl ?_
                  refine g_nop ?_
                  refine g_iinc (l' := (fun v599 => [(0, .ref 0), (1, .int a1), (2, .int a2), (3, .int v598), (4, .int v599)])) rfl rfl (by decide) (by first | with_reducible assumption | omega) (fun _ => rfl) (fun v599 ev599 => ?_)
                  refine g_goto ?_
                  exact ihL576 v598 v599 (by first | with_reducible assumption | omega) (by first | with_reducible assumption | omega)
        exact L576 _ v572 v573 (by first | with_reducible assumption | omega) (Nat.lt_succ_self _)
      · refine g_nop ?_
        refine g_iconst (by decide) (fun v600 kv600 => ?_)
        exact g_iret ⟨_, rfl, hIH516, hJH516, (e517.symm.trans ek0_2), m518⟩
set_option maxRecDepth 4000 in
set_option maxHeartbeats 4000000 in
/-- M.flow -/
theorem s_219 (a1 : Int32) (a2 : Int32) (H : mzH) (hI : gI SM H) (hJ : JN H) : gCall 219 [.ref 0, .int a1, .int a2] H (gRi (fun v H' => gI SM H' ∧ JN H' ∧ fZ H' 0 2 = fZ H 0 2 ∧ kpM H H')) := by
  obtain ⟨k0_2, ek0_2⟩ : ∃ z, z = fZ H 0 2 := ⟨_, rfl⟩
  have ik0_2 : k0_2.toInt = (fZ H 0 2).toInt := by rw [← ek0_2]
  have bk0_2 : 0 ≤ k0_2.toInt ∧ k0_2.toInt ≤ 900 := by rw [ek0_2]; exact fZ_of hI sm_0 rfl
  have mkfr : kpM H H := kpM_r
  refine gG_call [(0, .ref 0), (1, .int a1), (2, .int a2)] ⟨rfl, rfl, rfl, trivial⟩ ?_
  show gG 7 zB_219 (mzBlk zB_219 0) [(0, .ref 0), (1, .int a1), (2, .int a2)] [] H 0 0 _
  refine g_aload_n rfl ?_
  refine g_iconst (by decide) (fun v1464 kv1464 => ?_)
  refine g_pfi hI sm_0 rfl (gz_any _) (fun H1465 eH1465 hIH1465 => ?_)
  have hJH1465 : JN H1465 := JN_sF eH1465 hJ
  have e1466 : k0_2 = fZ H1465 0 2 := by rw [eH1465, fZ_sF_ne (by decide)]; exact ek0_2
  have m1467 : kpM H H1465 := kpM_F mkfr eH1465 (by first | with_reducible assumption | omega)
  refine g_aload_n rfl ?_
  refine g_iload_n rfl ?_
  refine g_invvi hIH1465 sm_0 rfl rfl rfl rfl (s_211 a1 H1465 hIH1465 hJH1465) (fun v1470 H1468 r1469 => ?_)
  obtain ⟨rfl, bv1470, p1471⟩ := r1469
  refine g_if_ne (fun c1472 => ?_) (fun c1472 => ?_)
  · refine g_aload_n rfl ?_
    refine g_iload_n rfl ?_
    refine g_invvi hIH1465 sm_0 rfl rfl rfl rfl (s_211 a2 H1465 hIH1465 hJH1465) (fun v1475 H1473 r1474 => ?_)
    obtain ⟨rfl, bv1475, p1476⟩ := r1474
    refine g_if_ne (fun c1477 => ?_) (fun c1477 => ?_)
    · refine g_iload_n rfl ?_
      refine g_iload_n rfl ?_
      refine g_if2_eq (fun c1478 => ?_) (fun c1478 => ?_)
      · refine g_iconst (by decide) (fun v1479 kv1479 => ?_)
        refine g_nop ?_
        refine g_istore_n (l' := [(0, .ref 0), (1, .int a1), (2, .int a2), (3, .int v1479)]) rfl rfl ?_
        refine g_iload_n rfl ?_
        refine g_if_ne (fun c1480 => ?_) (fun c1480 => ?_)
        · exfalso; omega
        · refine g_iconst (by decide) (fun v1481 kv1481 => ?_)
          exact g_iret ⟨_, rfl, hIH1465, hJH1465, (e1466.symm.trans ek0_2), m1467⟩
      · refine g_iconst (by decide) (fun v1482 kv1482 => ?_)
        refine g_goto ?_
        refine g_istore_n (l' := [(0, .ref 0), (1, .int a1), (2, .int a2), (3, .int v1482)]) rfl rfl ?_
        refine g_iload_n rfl ?_
        refine g_if_ne (fun c1483 => ?_) (fun c1483 => ?_)
        · refine g_iconst (by decide) (fun v1484 kv1484 => ?_)
          refine g_istore (l' := [(0, .ref 0), (1, .int a1), (2, .int a2), (3, .int v1482), (4, .int v1484)]) rfl rfl ?_
          refine g_iconst (by decide) (fun v1485 kv1485 => ?_)
          refine g_istore (l' := [(0, .ref 0), (1, .int a1), (2, .int a2), (3, .int v1482), (4, .int v1484), (5, .int v1485)]) rfl rfl ?_
          refine g_nop ?_
          have L1491 : ∀ (N : Nat) (v1486 : Int32) (v1487 : Int32) (H1488 : mzH), gI SM H1488 → JN H1488 → k0_2 = fZ H1488 0 2 → kpM H H1488 → (0 ≤ v1487.toInt ∧ v1487.toInt ≤ 40) → (40 - v1487.toInt).toNat < N → gG 7 zB_219 (mzBlk zB_219 6) [(0, .ref 0), (1, .int a1), (2, .int a2), (3, .int v1482), (4, .int v1486), (5, .int v1487)] [] H1488 0 0 (gRi (fun v H' => gI SM H' ∧ JN H' ∧ fZ H' 0 2 = fZ H 0 2 ∧ kpM H H')) := by
            intro N
            induction N with
            | zero => intro v1486 v1487 H1488 hIH1488 hJH1488 e1489 m1490 bv1487 hmL1491; exact absurd hmL1491 (Nat.not_lt_zero _)
            | succ N ihL1491 =>
              intro v1486 v1487 H1488 hIH1488 hJH1488 e1489 m1490 bv1487 hmL1491
              refine g_iload rfl ?_
              refine g_bipush (by decide) (fun v1492 kv1492 => ?_)
              refine g_if2_ge (fun c1493 => ?_) (fun c1493 => ?_)
              · refine g_iload rfl ?_
                exact g_iret ⟨_, rfl, hIH1488, hJH1488, (e1489.symm.trans ek0_2), m1490⟩
              · refine g_aload_n rfl ?_
                refine g_iload rfl ?_
                refine g_invvv hIH1488 sm_0 rfl rfl rfl rfl (s_215 v1487 (by first | with_reducible assumption | omega) H1488 hIH1488 hJH1488) (fun H1494 r1495 => ?_)
                obtain ⟨hIH1494, hJH1494, w1496, m1497⟩ := r1495
                have e1498 : k0_2 = fZ H1494 0 2 := e1489.trans w1496.symm
                have m1499 : kpM H H1494 := kpM_t m1490 m1497
                refine g_iconst (by decide) (fun v1500 kv1500 => ?_)
                refine g_istore (l' := [(0, .ref 0), (1, .int a1), (2, .int a2), (3, .int v1482), (4, .int v1486), (5, .int v1487), (6, .int v1500)]) rfl rfl ?_
                refine g_nop ?_
                have L1503 : ∀ (N : Nat) (v1501 : Int32) (v1502 : Int32), (0 ≤ v1502.toInt ∧ v1502.toInt ≤ 59) → (59 - v1502.toInt).toNat < N → gG 7 zB_219 (mzBlk zB_219 7) [(0, .ref 0), (1, .int a1), (2, .int a2), (3, .int v1482), (4, .int v1501), (5, .int v1487), (6, .int v1502)] [] H1494 0 0 (gRi (fun v H' => gI SM H' ∧ JN H' ∧ fZ H' 0 2 = fZ H 0 2 ∧ kpM H H')) := by
                  intro N
                  induction N with
                  | zero => intro v1501 v1502 bv1502 hmL1503; exact absurd hmL1503 (Nat.not_lt_zero _)
                  | succ N ihL1503 =>
                    intro v1501 v1502 bv1502 hmL1503
                    refine g_iload rfl ?_
                    refine g_iconst (by decide) (fun v1504 kv1504 => ?_)
                    refine g_iadd (by first | with_reducible assumption | omega) (fun v1505 ev1505 => ?_)
                    refine g_aload_n rfl ?_
                    refine g_gfi hIH1494 sm_0 rfl (fun v1506 ev1506 lv1506 uv1506 => ?_)
                    refine g_if2_ge (fun c1507 => ?_) (fun c1507 => ?_)
                    · refine g_iinc (l' := (fun v1508 => [(0, .ref 0), (1, .int a1), (2, .int a2), (3, .int v1482), (4, .int v1501), (5, .int v1508), (6, .int v1502)])) rfl rfl (by decide) (by first | with_reducible assumption | omega) (fun _ => rfl) (fun v1508 ev1508 => ?_)
                      refine g_goto ?_
                      refine gG_pick [0, 1, 2, 3, 4, 5] (l' := [(0, .ref 0), (1, .int a1), (2, .int a2), (3, .int v1482), (4, .int v1501), (5, .int v1508)]) rfl ?_
                      exact ihL1491 v1501 v1508 H1494 hIH1494 (JM_n hJH1494) e1498 m1499 (by first | with_reducible assumption | omega) (by first | with_reducible assumption | omega)
                    · refine g_iload rfl ?_
                      refine g_aload_n rfl ?_
                      refine g_gfr hIH1494 sm_0 rfl ?_
                      refine g_iload rfl ?_
                      refine g_iaload hIH1494 sm_22 rfl (by first | with_reducible assumption | omega) (fun v1509 ev1509 lv1509 uv1509 => ?_)
                      refine g_iload_n rfl ?_
                      refine g_if2_ne (fun c1510 => ?_) (fun c1510 => ?_)
                      · refine g_iconst (by decide) (fun v1511 kv1511 => ?_)
                        refine g_nop ?_
                        refine g_iadd (by have := gz_any v1501; omega) (fun v1512 ev1512 => ?_)
                        refine g_istore (l' := [(0, .ref 0), (1, .int a1), (2, .int a2), (3, .int v1482), (4, .int v1512), (5, .int v1487), (6, .int v1502)]) rfl rfl ?_
                        refine g_iinc (l' := (fun v1513 => [(0, .ref 0), (1, .int a1), (2, .int a2), (3, .int v1482), (4, .int v1512), (5, .int v1487), (6, .int v1513)])) rfl rfl (by decide) (by first | with_reducible assumption | omega) (fun _ => rfl) (fun v1513 ev1513 => ?_)
                        refine g_goto ?_
                        exact ihL1503 v1512 v1513 (by first | with_reducible assumption | omega) (by first | with_reducible assumption | omega)
                      · refine g_aload_n rfl ?_
                        refine g_gfr hIH1494 sm_0 rfl ?_
                        refine g_iload rfl ?_
                        refine g_iconst (by decide) (fun v1514 kv1514 => ?_)
                        refine g_iadd (by first | with_reducible assumption | omega) (fun v1515 ev1515 => ?_)
                        refine g_iaload hIH1494 sm_22 rfl (by first | with_reducible assumption | omega) (fun v1516 ev1516 lv1516 uv1516 => ?_)
                        refine g_iload_n rfl ?_
                        refine g_if2_ne (fun c1517 => ?_) (fun c1517 => ?_)
                        · refine g_iconst (by decide) (fun v1518 kv1518 => ?_)
                          refine g_nop ?_
                          refine g_iadd (by have := gz_any v1501; omega) (fun v1519 ev1519 => ?_)
                          refine g_istore (l' := [(0, .ref 0), (1, .int a1), (2, .int a2), (3, .int v1482), (4, .int v1519), (5, .int v1487), (6, .int v1502)]) rfl rfl ?_
                          refine g_iinc (l' := (fun v1520 => [(0, .ref 0), (1, .int a1), (2, .int a2), (3, .int v1482), (4, .int v1519), (5, .int v1487), (6, .int v1520)])) rfl rfl (by decide) (by first | with_reducible assumption | omega) (fun _ => rfl) (fun v1520 ev1520 => ?_)
                          refine g_goto ?_
                          exact ihL1503 v1519 v1520 (by first | with_reducible assumption | omega) (by first | with_reducible assumption | omega)
                        · refine g_iconst (by decide) (fun v1521 kv1521 => ?_)
                          refine g_goto ?_
                          refine g_iadd' (fun v1522 ov1522 => ?_)
                          refine g_istore (l' := [(0, .ref 0), (1, .int a1), (2, .int a2), (3, .int v1482), (4, .int v1522), (5, .int v1487), (6, .int v1502)]) rfl rfl ?_
                          refine g_iinc (l' := (fun v1523 => [(0, .ref 0), (1, .int a1), (2, .int a2), (3, .int v1482), (4, .int v1522), (5, .int v1487), (6, .int v1523)])) rfl rfl (by decide) (by first | with_reducible assumption | omega) (fun _ => rfl) (fun v1523 ev1523 => ?_)
                          refine g_goto ?_
                          exact ihL1503 v1522 v1523 (by first | with_reducible assumption | omega) (by first | with_reducible assumption | omega)
                exact L1503 _ v1486 v1500 (by first | with_reducible assumption | omega) (Nat.lt_succ_self _)
          exact L1491 _ v1484 v1485 H1465 hIH1465 hJH1465 e1466 m1467 (by first | with_reducible assumption | omega) (Nat.lt_succ_self _)
        · exfalso; omega
    · refine g_iload_n rfl ?_
      refine g_bipush (by decide) (fun v1524 kv1524 => ?_)
      refine g_if2_eq (fun c1525 => ?_) (fun c1525 => ?_)
      · refine g_iload_n rfl ?_
        refine g_iload_n rfl ?_
        refine g_if2_eq (fun c1526 => ?_) (fun c1526 => ?_)
        · exfalso; omega
        · refine g_iconst (by decide) (fun v1527 kv1527 => ?_)
          refine g_goto ?_
          refine g_istore_n (l' := [(0, .ref 0), (1, .int a1), (2, .int a2), (3, .int v1527)]) rfl rfl ?_
          refine g_iload_n rfl ?_
          refine g_if_ne (fun c1528 => ?_) (fun c1528 => ?_)
          · refine g_iconst (by decide) (fun v1529 kv1529 => ?_)
            refine g_istore (l' := [(0, .ref 0), (1, .int a1), (2, .int a2), (3, .int v1527), (4, .int v1529)]) rfl rfl ?_
            refine g_iconst (by decide) (fun v1530 kv1530 => ?_)
            refine g_istore (l' := [(0, .ref 0), (1, .int a1), (2, .int a2), (3, .int v1527), (4, .int v1529), (5, .int v1530)]) rfl rfl ?_
            refine g_nop ?_
            have L1536 : ∀ (N : Nat) (v1531 : Int32) (v1532 : Int32) (H1533 : mzH), gI SM H1533 → JN H1533 → k0_2 = fZ H1533 0 2 → kpM H H1533 → (0 ≤ v1532.toInt ∧ v1532.toInt ≤ 40) → (40 - v1532.toInt).toNat < N → gG 7 zB_219 (mzBlk zB_219 6) [(0, .ref 0), (1, .int a1), (2, .int a2), (3, .int v1527), (4, .int v1531), (5, .int v1532)] [] H1533 0 0 (gRi (fun v H' => gI SM H' ∧ JN H' ∧ fZ H' 0 2 = fZ H 0 2 ∧ kpM H H')) := by
              intro N
              induction N with
              | zero => intro v1531 v1532 H1533 hIH1533 hJH1533 e1534 m1535 bv1532 hmL1536; exact absurd hmL1536 (Nat.not_lt_zero _)
              | succ N ihL1536 =>
                intro v1531 v1532 H1533 hIH1533 hJH1533 e1534 m1535 bv1532 hmL1536
                refine g_iload rfl ?_
                refine g_bipush (by decide) (fun v1537 kv1537 => ?_)
                refine g_if2_ge (fun c1538 => ?_) (fun c1538 => ?_)
                · refine g_iload rfl ?_
                  exact g_iret ⟨_, rfl, hIH1533, hJH1533, (e1534.symm.trans ek0_2), m1535⟩
                · refine g_aload_n rfl ?_
                  refine g_iload rfl ?_
                  refine g_invvv hIH1533 sm_0 rfl rfl rfl rfl (s_215 v1532 (by first | with_reducible assumption | omega) H1533 hIH1533 hJH1533) (fun H1539 r1540 => ?_)
                  obtain ⟨hIH1539, hJH1539, w1541, m1542⟩ := r1540
                  have e1543 : k0_2 = fZ H1539 0 2 := e1534.trans w1541.symm
                  have m1544 : kpM H H1539 := kpM_t m1535 m1542
                  refine g_iconst (by decide) (fun v1545 kv1545 => ?_)
                  refine g_istore (l' := [(0, .ref 0), (1, .int a1), (2, .int a2), (3, .int v1527), (4, .int v1531), (5, .int v1532), (6, .int v1545)]) rfl rfl ?_
                  refine g_nop ?_
                  have L1548 : ∀ (N : Nat) (v1546 : Int32) (v1547 : Int32), (0 ≤ v1547.toInt ∧ v1547.toInt ≤ 59) → (59 - v1547.toInt).toNat < N → gG 7 zB_219 (mzBlk zB_219 7) [(0, .ref 0), (1, .int a1), (2, .int a2), (3, .int v1527), (4, .int v1546), (5, .int v1532), (6, .int v1547)] [] H1539 0 0 (gRi (fun v H' => gI SM H' ∧ JN H' ∧ fZ H' 0 2 = fZ H 0 2 ∧ kpM H H')) := by
                    intro N
                    induction N with
                    | zero => intro v1546 v1547 bv1547 hmL1548; exact absurd hmL1548 (Nat.not_lt_zero _)
                    | succ N ihL1548 =>
                      intro v1546 v1547 bv1547 hmL1548
                      refine g_iload rfl ?_
                      refine g_iconst (by decide) (fun v1549 kv1549 => ?_)
                      refine g_iadd (by first | with_reducible assumption | omega) (fun v1550 ev1550 => ?_)
                      refine g_aload_n rfl ?_
                      refine g_gfi hIH1539 sm_0 rfl (fun v1551 ev1551 lv1551 uv1551 => ?_)
                      refine g_if2_ge (fun c1552 => ?_) (fun c1552 => ?_)
                      · refine g_iinc (l' := (fun v1553 => [(0, .ref 0), (1, .int a1), (2, .int a2), (3, .int v1527), (4, .int v1546), (5, .int v1553), (6, .int v1547)])) rfl rfl (by decide) (by first | with_reducible assumption | omega) (fun _ => rfl) (fun v1553 ev1553 => ?_)
                        refine g_goto ?_
                        refine gG_pick [0, 1, 2, 3, 4, 5] (l' := [(0, .ref 0), (1, .int a1), (2, .int a2), (3, .int v1527), (4, .int v1546), (5, .int v1553)]) rfl ?_
                        exact ihL1536 v1546 v1553 H1539 hIH1539 (JM_n hJH1539) e1543 m1544 (by first | with_reducible assumption | omega) (by first | with_reducible assumption | omega)
                      · refine g_iload rfl ?_
                        refine g_aload_n rfl ?_
                        refine g_gfr hIH1539 sm_0 rfl ?_
                        refine g_iload rfl ?_
                        refine g_iaload hIH1539 sm_22 rfl (by first | with_reducible assumption | omega) (fun v1554 ev1554 lv1554 uv1554 => ?_)
                        refine g_iload_n rfl ?_
                        refine g_if2_ne (fun c1555 => ?_) (fun c1555 => ?_)
                        · refine g_iconst (by decide) (fun v1556 kv1556 => ?_)
                          refine g_nop ?_
                          refine g_iadd (by have := gz_any v1546; omega) (fun v1557 ev1557 => ?_)
                          refine g_istore (l' := [(0, .ref 0), (1, .int a1), (2, .int a2), (3, .int v1527), (4, .int v1557), (5, .int v1532), (6, .int v1547)]) rfl rfl ?_
                          refine g_iinc (l' := (fun v1558 => [(0, .ref 0), (1, .int a1), (2, .int a2), (3, .int v1527), (4, .int v1557), (5, .int v1532), (6, .int v1558)])) rfl rfl (by decide) (by first | with_reducible assumption | omega) (fun _ => rfl) (fun v1558 ev1558 => ?_)
                          refine g_goto ?_
                          exact ihL1548 v1557 v1558 (by first | with_reducible assumption | omega) (by first | with_reducible assumption | omega)
                        · refine g_aload_n rfl ?_
                          refine g_gfr hIH1539 sm_0 rfl ?_
                          refine g_iload rfl ?_
                          refine g_iconst (by decide) (fun v1559 kv1559 => ?_)
                          refine g_iadd (by first | with_reducible assumption | omega) (fun v1560 ev1560 => ?_)
                          refine g_iaload hIH1539 sm_22 rfl (by first | with_reducible assumption | omega) (fun v1561 ev1561 lv1561 uv1561 => ?_)
                          refine g_iload_n rfl ?_
                          refine g_if2_ne (fun c1562 => ?_) (fun c1562 => ?_)
                          · refine g_iconst (by decide) (fun v1563 kv1563 => ?_)
                            refine g_nop ?_
                            refine g_iadd (by have := gz_any v1546; omega) (fun v1564 ev1564 => ?_)
                            refine g_istore (l' := [(0, .ref 0), (1, .int a1), (2, .int a2), (3, .int v1527), (4, .int v1564), (5, .int v1532), (6, .int v1547)]) rfl rfl ?_
                            refine g_iinc (l' := (fun v1565 => [(0, .ref 0), (1, .int a1), (2, .int a2), (3, .int v1527), (4, .int v1564), (5, .int v1532), (6, .int v1565)])) rfl rfl (by decide) (by first | with_reducible assumption | omega) (fun _ => rfl) (fun v1565 ev1565 => ?_)
                            refine g_goto ?_
                            exact ihL1548 v1564 v1565 (by first | with_reducible assumption | omega) (by first | with_reducible assumption | omega)
                          · refine g_iconst (by decide) (fun v1566 kv1566 => ?_)
                            refine g_goto ?_
                            refine g_iadd' (fun v1567 ov1567 => ?_)
                            refine g_istore (l' := [(0, .ref 0), (1, .int a1), (2, .int a2), (3, .int v1527), (4, .int v1567), (5, .int v1532), (6, .int v1547)]) rfl rfl ?_
                            refine g_iinc (l' := (fun v1568 => [(0, .ref 0), (1, .int a1), (2, .int a2), (3, .int v1527), (4, .int v1567), (5, .int v1532), (6, .int v1568)])) rfl rfl (by decide) (by first | with_reducible assumption | omega) (fun _ => rfl) (fun v1568 ev1568 => ?_)
                            refine g_goto ?_
                            exact ihL1548 v1567 v1568 (by first | with_reducible assumption | omega) (by first | with_reducible assumption | omega)
                  exact L1548 _ v1531 v1545 (by first | with_reducible assumption | omega) (Nat.lt_succ_self _)
            exact L1536 _ v1529 v1530 H1465 hIH1465 hJH1465 e1466 m1467 (by first | with_reducible assumption | omega) (Nat.lt_succ_self _)
          · exfalso; omega
      · refine g_iload_n rfl ?_
        refine g_bipush (by decide) (fun v1569 kv1569 => ?_)
        refine g_if2_ne (fun c1570 => ?_) (fun c1570 => ?_)
        · refine g_iconst (by decide) (fun v1571 kv1571 => ?_)
          refine g_nop ?_
          refine g_istore_n (l' := [(0, .ref 0), (1, .int a1), (2, .int a2), (3, .int v1571)]) rfl rfl ?_
          refine g_iload_n rfl ?_
          refine g_if_ne (fun c1572 => ?_) (fun c1572 => ?_)
          · exfalso; omega
          · refine g_iconst (by decide) (fun v1573 kv1573 => ?_)
            exact g_iret ⟨_, rfl, hIH1465, hJH1465, (e1466.symm.trans ek0_2), m1467⟩
        · refine g_nop ?_
          refine g_iload_n rfl ?_
          refine g_iload_n rfl ?_
          refine g_if2_eq (fun c1574 => ?_) (fun c1574 => ?_)
          · exfalso; omega
          · refine g_iconst (by decide) (fun v1575 kv1575 => ?_)
            refine g_goto ?_
            refine g_istore_n (l' := [(0, .ref 0), (1, .int a1), (2, .int a2), (3, .int v1575)]) rfl rfl ?_
            refine g_iload_n rfl ?_
            refine g_if_ne (fun c1576 => ?_) (fun c1576 => ?_)
            · refine g_iconst (by decide) (fun v1577 kv1577 => ?_)
              refine g_istore (l' := [(0, .ref 0), (1, .int a1), (2, .int a2), (3, .int v1575), (4, .int v1577)]) rfl rfl ?_
              refine g_iconst (by decide) (fun v1578 kv1578 => ?_)
              refine g_istore (l' := [(0, .ref 0), (1, .int a1), (2, .int a2), (3, .int v1575), (4, .int v1577), (5, .int v1578)]) rfl rfl ?_
              refine g_nop ?_
              have L1584 : ∀ (N : Nat) (v1579 : Int32) (v1580 : Int32) (H1581 : mzH), gI SM H1581 → JN H1581 → k0_2 = fZ H1581 0 2 → kpM H H1581 → (0 ≤ v1580.toInt ∧ v1580.toInt ≤ 40) → (40 - v1580.toInt).toNat < N → gG 7 zB_219 (mzBlk zB_219 6) [(0, .ref 0), (1, .int a1), (2, .int a2), (3, .int v1575), (4, .int v1579), (5, .int v1580)] [] H1581 0 0 (gRi (fun v H' => gI SM H' ∧ JN H' ∧ fZ H' 0 2 = fZ H 0 2 ∧ kpM H H')) := by
                intro N
                induction N with
                | zero => intro v1579 v1580 H1581 hIH1581 hJH1581 e1582 m1583 bv1580 hmL1584; exact absurd hmL1584 (Nat.not_lt_zero _)
                | succ N ihL1584 =>
                  intro v1579 v1580 H1581 hIH1581 hJH1581 e1582 m1583 bv1580 hmL1584
                  refine g_iload rfl ?_
                  refine g_bipush (by decide) (fun v1585 kv1585 => ?_)
                  refine g_if2_ge (fun c1586 => ?_) (fun c1586 => ?_)
                  · refine g_iload rfl ?_
                    exact g_iret ⟨_, rfl, hIH1581, hJH1581, (e1582.symm.trans ek0_2), m1583⟩
                  · refine g_aload_n rfl ?_
                    refine g_iload rfl ?_
                    refine g_invvv hIH1581 sm_0 rfl rfl rfl rfl (s_215 v1580 (by first | with_reducible assumption | omega) H1581 hIH1581 hJH1581) (fun H1587 r1588 => ?_)
                    obtain ⟨hIH1587, hJH1587, w1589, m1590⟩ := r1588
                    have e1591 : k0_2 = fZ H1587 0 2 := e1582.trans w1589.symm
                    have m1592 : kpM H H1587 := kpM_t m1583 m1590
                    refine g_iconst (by decide) (fun v1593 kv1593 => ?_)
                    refine g_istore (l' := [(0, .ref 0), (1, .int a1), (2, .int a2), (3, .int v1575), (4, .int v1579), (5, .int v1580), (6, .int v1593)]) rfl rfl ?_
                    refine g_nop ?_
                    have L1596 : ∀ (N : Nat) (v1594 : Int32) (v1595 : Int32), (0 ≤ v1595.toInt ∧ v1595.toInt ≤ 59) → (59 - v1595.toInt).toNat < N → gG 7 zB_219 (mzBlk zB_219 7) [(0, .ref 0), (1, .int a1), (2, .int a2), (3, .int v1575), (4, .int v1594), (5, .int v1580), (6, .int v1595)] [] H1587 0 0 (gRi (fun v H' => gI SM H' ∧ JN H' ∧ fZ H' 0 2 = fZ H 0 2 ∧ kpM H H')) := by
                      intro N
                      induction N with
                      | zero => intro v1594 v1595 bv1595 hmL1596; exact absurd hmL1596 (Nat.not_lt_zero _)
                      | succ N ihL1596 =>
                        intro v1594 v1595 bv1595 hmL1596
                        refine g_iload rfl ?_
                        refine g_iconst (by decide) (fun v1597 kv1597 => ?_)
                        refine g_iadd (by first | with_reducible assumption | omega) (fun v1598 ev1598 => ?_)
                        refine g_aload_n rfl ?_
                        refine g_gfi hIH1587 sm_0 rfl (fun v1599 ev1599 lv1599 uv1599 => ?_)
                        refine g_if2_ge (fun c1600 => ?_) (fun c1600 => ?_)
                        · refine g_iinc (l' := (fun v1601 => [(0, .ref 0), (1, .int a1), (2, .int a2), (3, .int v1575), (4, .int v1594), (5, .int v1601), (6, .int v1595)])) rfl rfl (by decide) (by first | with_reducible assumption | omega) (fun _ => rfl) (fun v1601 ev1601 => ?_)
                          refine g_goto ?_
                          refine gG_pick [0, 1, 2, 3, 4, 5] (l' := [(0, .ref 0), (1, .int a1), (2, .int a2), (3, .int v1575), (4, .int v1594), (5, .int v1601)]) rfl ?_
                          exact ihL1584 v1594 v1601 H1587 hIH1587 (JM_n hJH1587) e1591 m1592 (by first | with_reducible assumption | omega) (by first | with_reducible assumption | omega)
                        · refine g_iload rfl ?_
                          refine g_aload_n rfl ?_
                          refine g_gfr hIH1587 sm_0 rfl ?_
                          refine g_iload rfl ?_
                          refine g_iaload hIH1587 sm_22 rfl (by first | with_reducible assumption | omega) (fun v1602 ev1602 lv1602 uv1602 => ?_)
                          refine g_iload_n rfl ?_
                          refine g_if2_ne (fun c1603 => ?_) (fun c1603 => ?_)
                          · refine g_iconst (by decide) (fun v1604 kv1604 => ?_)
                            refine g_nop ?_
                            refine g_iadd (by have := gz_any v1594; omega) (fun v1605 ev1605 => ?_)
                            refine g_istore (l' := [(0, .ref 0), (1, .int a1), (2, .int a2), (3, .int v1575), (4, .int v1605), (5, .int v1580), (6, .int v1595)]) rfl rfl ?_
                            refine g_iinc (l' := (fun v1606 => [(0, .ref 0), (1, .int a1), (2, .int a2), (3, .int v1575), (4, .int v1605), (5, .int v1580), (6, .int v1606)])) rfl rfl (by decide) (by first | with_reducible assumption | omega) (fun _ => rfl) (fun v1606 ev1606 => ?_)
                            refine g_goto ?_
                            exact ihL1596 v1605 v1606 (by first | with_reducible assumption | omega) (by first | with_reducible assumption | omega)
                          · refine g_aload_n rfl ?_
                            refine g_gfr hIH1587 sm_0 rfl ?_
                            refine g_iload rfl ?_
                            refine g_iconst (by decide) (fun v1607 kv1607 => ?_)
                            refine g_iadd (by first | with_reducible assumption | omega) (fun v1608 ev1608 => ?_)
                            refine g_iaload hIH1587 sm_22 rfl (by first | with_reducible assumption | omega) (fun v1609 ev1609 lv1609 uv1609 => ?_)
                            refine g_iload_n rfl ?_
                            refine g_if2_ne (fun c1610 => ?_) (fun c1610 => ?_)
                            · refine g_iconst (by decide) (fun v1611 kv1611 => ?_)
                              refine g_nop ?_
                              refine g_iadd (by have := gz_any v1594; omega) (fun v1612 ev1612 => ?_)
                              refine g_istore (l' := [(0, .ref 0), (1, .int a1), (2, .int a2), (3, .int v1575), (4, .int v1612), (5, .int v1580), (6, .int v1595)]) rfl rfl ?_
                              refine g_iinc (l' := (fun v1613 => [(0, .ref 0), (1, .int a1), (2, .int a2), (3, .int v1575), (4, .int v1612), (5, .int v1580), (6, .int v1613)])) rfl rfl (by decide) (by first | with_reducible assumption | omega) (fun _ => rfl) (fun v1613 ev1613 => ?_)
                              refine g_goto ?_
                              exact ihL1596 v1612 v1613 (by first | with_reducible assumption | omega) (by first | with_reducible assumption | omega)
                            · refine g_iconst (by decide) (fun v1614 kv1614 => ?_)
                              refine g_goto ?_
                              refine g_iadd' (fun v1615 ov1615 => ?_)
                              refine g_istore (l' := [(0, .ref 0), (1, .int a1), (2, .int a2), (3, .int v1575), (4, .int v1615), (5, .int v1580), (6, .int v1595)]) rfl rfl ?_
                              refine g_iinc (l' := (fun v1616 => [(0, .ref 0), (1, .int a1), (2, .int a2), (3, .int v1575), (4, .int v1615), (5, .int v1580), (6, .int v1616)])) rfl rfl (by decide) (by first | with_reducible assumption | omega) (fun _ => rfl) (fun v1616 ev1616 => ?_)
                              refine g_goto ?_
                              exact ihL1596 v1615 v1616 (by first | with_reducible assumption | omega) (by first | with_reducible assumption | omega)
                    exact L1596 _ v1579 v1593 (by first | with_reducible assumption | omega) (Nat.lt_succ_self _)
              exact L1584 _ v1577 v1578 H1465 hIH1465 hJH1465 e1466 m1467 (by first | with_reducible assumption | omega) (Nat.lt_succ_self _)
            · exfalso; omega
  · refine g_iload_n rfl ?_
    refine g_bipush (by decide) (fun v1617 kv1617 => ?_)
    refine g_if2_ne (fun c1618 => ?_) (fun c1618 => ?_)
    · refine g_iconst (by decide) (fun v1619 kv1619 => ?_)
      refine g_nop ?_
      refine g_istore_n (l' := [(0, .ref 0), (1, .int a1), (2, .int a2), (3, .int v1619)]) rfl rfl ?_
      refine g_iload_n rfl ?_
      refine g_if_ne (fun c1620 => ?_) (fun c1620 => ?_)
      · exfalso; omega
      · refine g_iconst (by decide) (fun v1621 kv1621 => ?_)
        exact g_iret ⟨_, rfl, hIH1465, hJH1465, (e1466.symm.trans ek0_2), m1467⟩
    · refine g_nop ?_
      refine g_aload_n rfl ?_
      refine g_iload_n rfl ?_
      refine g_invvi hIH1465 sm_0 rfl rfl rfl rfl (s_211 a2 H1465 hIH1465 hJH1465) (fun v1624 H1622 r1623 => ?_)
      obtain ⟨rfl, bv1624, p1625⟩ := r1623
      refine g_if_ne (fun c1626 => ?_) (fun c1626 => ?_)
      · refine g_iload_n rfl ?_
        refine g_iload_n rfl ?_
        refine g_if2_eq (fun c1627 => ?_) (fun c1627 => ?_)
        · exfalso; omega
        · refine g_iconst (by decide) (fun v1628 kv1628 => ?_)
          refine g_goto ?_
          refine g_istore_n (l' := [(0, .ref 0), (1, .int a1), (2, .int a2), (3, .int v1628)]) rfl rfl ?_
          refine g_iload_n rfl ?_
          refine g_if_ne (fun c1629 => ?_) (fun c1629 => ?_)
          · refine g_iconst (by decide) (fun v1630 kv1630 => ?_)
            refine g_istore (l' := [(0, .ref 0), (1, .int a1), (2, .int a2), (3, .int v1628), (4, .int v1630)]) rfl rfl ?_
            refine g_iconst (by decide) (fun v1631 kv1631 => ?_)
            refine g_istore (l' := [(0, .ref 0), (1, .int a1), (2, .int a2), (3, .int v1628), (4, .int v1630), (5, .int v1631)]) rfl rfl ?_
            refine g_nop ?_
            have L1637 : ∀ (N : Nat) (v1632 : Int32) (v1633 : Int32) (H1634 : mzH), gI SM H1634 → JN H1634 → k0_2 = fZ H1634 0 2 → kpM H H1634 → (0 ≤ v1633.toInt ∧ v1633.toInt ≤ 40) → (40 - v1633.toInt).toNat < N → gG 7 zB_219 (mzBlk zB_219 6) [(0, .ref 0), (1, .int a1), (2, .int a2), (3, .int v1628), (4, .int v1632), (5, .int v1633)] [] H1634 0 0 (gRi (fun v H' => gI SM H' ∧ JN H' ∧ fZ H' 0 2 = fZ H 0 2 ∧ kpM H H')) := by
              intro N
              induction N with
              | zero => intro v1632 v1633 H1634 hIH1634 hJH1634 e1635 m1636 bv1633 hmL1637; exact absurd hmL1637 (Nat.not_lt_zero _)
              | succ N ihL1637 =>
                intro v1632 v1633 H1634 hIH1634 hJH1634 e1635 m1636 bv1633 hmL1637
                refine g_iload rfl ?_
                refine g_bipush (by decide) (fun v1638 kv1638 => ?_)
                refine g_if2_ge (fun c1639 => ?_) (fun c1639 => ?_)
                · refine g_iload rfl ?_
                  exact g_iret ⟨_, rfl, hIH1634, hJH1634, (e1635.symm.trans ek0_2), m1636⟩
                · refine g_aload_n rfl ?_
                  refine g_iload rfl ?_
                  refine g_invvv hIH1634 sm_0 rfl rfl rfl rfl (s_215 v1633 (by first | with_reducible assumption | omega) H1634 hIH1634 hJH1634) (fun H1640 r1641 => ?_)
                  obtain ⟨hIH1640, hJH1640, w1642, m1643⟩ := r1641
                  have e1644 : k0_2 = fZ H1640 0 2 := e1635.trans w1642.symm
                  have m1645 : kpM H H1640 := kpM_t m1636 m1643
                  refine g_iconst (by decide) (fun v1646 kv1646 => ?_)
                  refine g_istore (l' := [(0, .ref 0), (1, .int a1), (2, .int a2), (3, .int v1628), (4, .int v1632), (5, .int v1633), (6, .int v1646)]) rfl rfl ?_
                  refine g_nop ?_
                  have L1649 : ∀ (N : Nat) (v1647 : Int32) (v1648 : Int32), (0 ≤ v1648.toInt ∧ v1648.toInt ≤ 59) → (59 - v1648.toInt).toNat < N → gG 7 zB_219 (mzBlk zB_219 7) [(0, .ref 0), (1, .int a1), (2, .int a2), (3, .int v1628), (4, .int v1647), (5, .int v1633), (6, .int v1648)] [] H1640 0 0 (gRi (fun v H' => gI SM H' ∧ JN H' ∧ fZ H' 0 2 = fZ H 0 2 ∧ kpM H H')) := by
                    intro N
                    induction N with
                    | zero => intro v1647 v1648 bv1648 hmL1649; exact absurd hmL1649 (Nat.not_lt_zero _)
                    | succ N ihL1649 =>
                      intro v1647 v1648 bv1648 hmL1649
                      refine g_iload rfl ?_
                      refine g_iconst (by decide) (fun v1650 kv1650 => ?_)
                      refine g_iadd (by first | with_reducible assumption | omega) (fun v1651 ev1651 => ?_)
                      refine g_aload_n rfl ?_
                      refine g_gfi hIH1640 sm_0 rfl (fun v1652 ev1652 lv1652 uv1652 => ?_)
                      refine g_if2_ge (fun c1653 => ?_) (fun c1653 => ?_)
                      · refine g_iinc (l' := (fun v1654 => [(0, .ref 0), (1, .int a1), (2, .int a2), (3, .int v1628), (4, .int v1647), (5, .int v1654), (6, .int v1648)])) rfl rfl (by decide) (by first | with_reducible assumption | omega) (fun _ => rfl) (fun v1654 ev1654 => ?_)
                        refine g_goto ?_
                        refine gG_pick [0, 1, 2, 3, 4, 5] (l' := [(0, .ref 0), (1, .int a1), (2, .int a2), (3, .int v1628), (4, .int v1647), (5, .int v1654)]) rfl ?_
                        exact ihL1637 v1647 v1654 H1640 hIH1640 (JM_n hJH1640) e1644 m1645 (by first | with_reducible assumption | omega) (by first | with_reducible assumption | omega)
                      · refine g_iload rfl ?_
                        refine g_aload_n rfl ?_
                        refine g_gfr hIH1640 sm_0 rfl ?_
                        refine g_iload rfl ?_
                        refine g_iaload hIH1640 sm_22 rfl (by first | with_reducible assumption | omega) (fun v1655 ev1655 lv1655 uv1655 => ?_)
                        refine g_iload_n rfl ?_
                        refine g_if2_ne (fun c1656 => ?_) (fun c1656 => ?_)
                        · refine g_iconst (by decide) (fun v1657 kv1657 => ?_)
                          refine g_nop ?_
                          refine g_iadd (by have := gz_any v1647; omega) (fun v1658 ev1658 => ?_)
                          refine g_istore (l' := [(0, .ref 0), (1, .int a1), (2, .int a2), (3, .int v1628), (4, .int v1658), (5, .int v1633), (6, .int v1648)]) rfl rfl ?_
                          refine g_iinc (l' := (fun v1659 => [(0, .ref 0), (1, .int a1), (2, .int a2), (3, .int v1628), (4, .int v1658), (5, .int v1633), (6, .int v1659)])) rfl rfl (by decide) (by first | with_reducible assumption | omega) (fun _ => rfl) (fun v1659 ev1659 => ?_)
                          refine g_goto ?_
                          exact ihL1649 v1658 v1659 (by first | with_reducible assumption | omega) (by first | with_reducible assumption | omega)
                        · refine g_aload_n rfl ?_
                          refine g_gfr hIH1640 sm_0 rfl ?_
                          refine g_iload rfl ?_
                          refine g_iconst (by decide) (fun v1660 kv1660 => ?_)
                          refine g_iadd (by first | with_reducible assumption | omega) (fun v1661 ev1661 => ?_)
                          refine g_iaload hIH1640 sm_22 rfl (by first | with_reducible assumption | omega) (fun v1662 ev1662 lv1662 uv1662 => ?_)
                          refine g_iload_n rfl ?_
                          refine g_if2_ne (fun c1663 => ?_) (fun c1663 => ?_)
                          · refine g_iconst (by decide) (fun v1664 kv1664 => ?_)
                            refine g_nop ?_
                            refine g_iadd (by have := gz_any v1647; omega) (fun v1665 ev1665 => ?_)
                            refine g_istore (l' := [(0, .ref 0), (1, .int a1), (2, .int a2), (3, .int v1628), (4, .int v1665), (5, .int v1633), (6, .int v1648)]) rfl rfl ?_
                            refine g_iinc (l' := (fun v1666 => [(0, .ref 0), (1, .int a1), (2, .int a2), (3, .int v1628), (4, .int v1665), (5, .int v1633), (6, .int v1666)])) rfl rfl (by decide) (by first | with_reducible assumption | omega) (fun _ => rfl) (fun v1666 ev1666 => ?_)
                            refine g_goto ?_
                            exact ihL1649 v1665 v1666 (by first | with_reducible assumption | omega) (by first | with_reducible assumption | omega)
                          · refine g_iconst (by decide) (fun v1667 kv1667 => ?_)
                            refine g_goto ?_
                            refine g_iadd' (fun v1668 ov1668 => ?_)
                            refine g_istore (l' := [(0, .ref 0), (1, .int a1), (2, .int a2), (3, .int v1628), (4, .int v1668), (5, .int v1633), (6, .int v1648)]) rfl rfl ?_
                            refine g_iinc (l' := (fun v1669 => [(0, .ref 0), (1, .int a1), (2, .int a2), (3, .int v1628), (4, .int v1668), (5, .int v1633), (6, .int v1669)])) rfl rfl (by decide) (by first | with_reducible assumption | omega) (fun _ => rfl) (fun v1669 ev1669 => ?_)
                            refine g_goto ?_
                            exact ihL1649 v1668 v1669 (by first | with_reducible assumption | omega) (by first | with_reducible assumption | omega)
                  exact L1649 _ v1632 v1646 (by first | with_reducible assumption | omega) (Nat.lt_succ_self _)
            exact L1637 _ v1630 v1631 H1465 hIH1465 hJH1465 e1466 m1467 (by first | with_reducible assumption | omega) (Nat.lt_succ_self _)
          · exfalso; omega
      · refine g_iload_n rfl ?_
        refine g_bipush (by decide) (fun v1670 kv1670 => ?_)
        refine g_if2_eq (fun c1671 => ?_) (fun c1671 => ?_)
        · refine g_iload_n rfl ?_
          refine g_iload_n rfl ?_
          refine g_if2_eq (fun c1672 => ?_) (fun c1672 => ?_)
          · refine g_iconst (by decide) (fun v1673 kv1673 => ?_)
            refine g_nop ?_
            refine g_istore_n (l' := [(0, .ref 0), (1, .int a1), (2, .int a2), (3, .int v1673)]) rfl rfl ?_
            refine g_iload_n rfl ?_
            refine g_if_ne (fun c1674 => ?_) (fun c1674 => ?_)
            · exfalso; omega
            · refine g_iconst (by decide) (fun v1675 kv1675 => ?_)
              exact g_iret ⟨_, rfl, hIH1465, hJH1465, (e1466.symm.trans ek0_2), m1467⟩
          · exfalso; omega
        · refine g_iload_n rfl ?_
          refine g_bipush (by decide) (fun v1676 kv1676 => ?_)
          refine g_if2_ne (fun c1677 => ?_) (fun c1677 => ?_)
          · refine g_iconst (by decide) (fun v1678 kv1678 => ?_)
            refine g_nop ?_
            refine g_istore_n (l' := [(0, .ref 0), (1, .int a1), (2, .int a2), (3, .int v1678)]) rfl rfl ?_
            refine g_iload_n rfl ?_
            refine g_if_ne (fun c1679 => ?_) (fun c1679 => ?_)
            · exfalso; omega
            · refine g_iconst (by decide) (fun v1680 kv1680 => ?_)
              exact g_iret ⟨_, rfl, hIH1465, hJH1465, (e1466.symm.trans ek0_2), m1467⟩
          · refine g_nop ?_
            refine g_iload_n rfl ?_
            refine g_iload_n rfl ?_
            refine g_if2_eq (fun c1681 => ?_) (fun c1681 => ?_)
            · exfalso; omega
            · refine g_iconst (by decide) (fun v1682 kv1682 => ?_)
              refine g_goto ?_
              refine g_istore_n (l' := [(0, .ref 0), (1, .int a1), (2, .int a2), (3, .int v1682)]) rfl rfl ?_
              refine g_iload_n rfl ?_
              refine g_if_ne (fun c1683 => ?_) (fun c1683 => ?_)
              · refine g_iconst (by decide) (fun v1684 kv1684 => ?_)
                refine g_istore (l' := [(0, .ref 0), (1, .int a1), (2, .int a2), (3, .int v1682), (4, .int v1684)]) rfl rfl ?_
                refine g_iconst (by decide) (fun v1685 kv1685 => ?_)
                refine g_istore (l' := [(0, .ref 0), (1, .int a1), (2, .int a2), (3, .int v1682), (4, .int v1684), (5, .int v1685)]) rfl rfl ?_
                refine g_nop ?_
                have L1691 : ∀ (N : Nat) (v1686 : Int32) (v1687 : Int32) (H1688 : mzH), gI SM H1688 → JN H1688 → k0_2 = fZ H1688 0 2 → kpM H H1688 → (0 ≤ v1687.toInt ∧ v1687.toInt ≤ 40) → (40 - v1687.toInt).toNat < N → gG 7 zB_219 (mzBlk zB_219 6) [(0, .ref 0), (1, .int a1), (2, .int a2), (3, .int v1682), (4, .int v1686), (5, .int v1687)] [] H1688 0 0 (gRi (fun v H' => gI SM H' ∧ JN H' ∧ fZ H' 0 2 = fZ H 0 2 ∧ kpM H H')) := by
                  intro N
                  induction N with
                  | zero => intro v1686 v1687 H1688 hIH1688 hJH1688 e1689 m1690 bv1687 hmL1691; exact absurd hmL1691 (Nat.not_lt_zero _)
                  | succ N ihL1691 =>
                    intro v1686 v1687 H1688 hIH1688 hJH1688 e1689 m1690 bv1687 hmL1691
                    refine g_iload rfl ?_
                    refine g_bipush (by decide) (fun v1692 kv1692 => ?_)
                    refine g_if2_ge (fun c1693 => ?_) (fun c1693 => ?_)
                    · refine g_iload rfl ?_
                      exact g_iret ⟨_, rfl, hIH1688, hJH1688, (e1689.symm.trans ek0_2), m1690⟩
                    · refine g_aload_n rfl ?_
                      refine g_iload rfl ?_
                      refine g_invvv hIH1688 sm_0 rfl rfl rfl rfl (s_215 v1687 (by first | with_reducible assumption | omega) H1688 hIH1688 hJH1688) (fun H1694 r1695 => ?_)
                      obtain ⟨hIH1694, hJH1694, w1696, m1697⟩ := r1695
                      have e1698 : k0_2 = fZ H1694 0 2 := e1689.trans w1696.symm
                      have m1699 : kpM H H1694 := kpM_t m1690 m1697
                      refine g_iconst (by decide) (fun v1700 kv1700 => ?_)
                      refine g_istore (l' := [(0, .ref 0), (1, .int a1), (2, .int a2), (3, .int v1682), (4, .int v1686), (5, .int v1687), (6, .int v1700)]) rfl rfl ?_
                      refine g_nop ?_
                      have L1703 : ∀ (N : Nat) (v1701 : Int32) (v1702 : Int32), (0 ≤ v1702.toInt ∧ v1702.toInt ≤ 59) → (59 - v1702.toInt).toNat < N → gG 7 zB_219 (mzBlk zB_219 7) [(0, .ref 0), (1, .int a1), (2, .int a2), (3, .int v1682), (4, .int v1701), (5, .int v1687), (6, .int v1702)] [] H1694 0 0 (gRi (fun v H' => gI SM H' ∧ JN H' ∧ fZ H' 0 2 = fZ H 0 2 ∧ kpM H H')) := by
                        intro N
                        induction N with
                        | zero => intro v1701 v1702 bv1702 hmL1703; exact absurd hmL1703 (Nat.not_lt_zero _)
                        | succ N ihL1703 =>
                          intro v1701 v1702 bv1702 hmL1703
                          refine g_iload rfl ?_
                          refine g_iconst (by decide) (fun v1704 kv1704 => ?_)
                          refine g_iadd (by first | with_reducible assumption | omega) (fun v1705 ev1705 => ?_)
                          refine g_aload_n rfl ?_
                          refine g_gfi hIH1694 sm_0 rfl (fun v1706 ev1706 lv1706 uv1706 => ?_)
                          refine g_if2_ge (fun c1707 => ?_) (fun c1707 => ?_)
                          · refine g_iinc (l' := (fun v1708 => [(0, .ref 0), (1, .int a1), (2, .int a2), (3, .int v1682), (4, .int v1701), (5, .int v1708), (6, .int v1702)])) rfl rfl (by decide) (by first | with_reducible assumption | omega) (fun _ => rfl) (fun v1708 ev1708 => ?_)
                            refine g_goto ?_
                            refine gG_pick [0, 1, 2, 3, 4, 5] (l' := [(0, .ref 0), (1, .int a1), (2, .int a2), (3, .int v1682), (4, .int v1701), (5, .int v1708)]) rfl ?_
                            exact ihL1691 v1701 v1708 H1694 hIH1694 (JM_n hJH1694) e1698 m1699 (by first | with_reducible assumption | omega) (by first | with_reducible assumption | omega)
                          · refine g_iload rfl ?_
                            refine g_aload_n rfl ?_
                            refine g_gfr hIH1694 sm_0 rfl ?_
                            refine g_iload rfl ?_
                            refine g_iaload hIH1694 sm_22 rfl (by first | with_reducible assumption | omega) (fun v1709 ev1709 lv1709 uv1709 => ?_)
                            refine g_iload_n rfl ?_
                            refine g_if2_ne (fun c1710 => ?_) (fun c1710 => ?_)
                            · refine g_iconst (by decide) (fun v1711 kv1711 => ?_)
                              refine g_nop ?_
                              refine g_iadd (by have := gz_any v1701; omega) (fun v1712 ev1712 => ?_)
                              refine g_istore (l' := [(0, .ref 0), (1, .int a1), (2, .int a2), (3, .int v1682), (4, .int v1712), (5, .int v1687), (6, .int v1702)]) rfl rfl ?_
                              refine g_iinc (l' := (fun v1713 => [(0, .ref 0), (1, .int a1), (2, .int a2), (3, .int v1682), (4, .int v1712), (5, .int v1687), (6, .int v1713)])) rfl rfl (by decide) (by first | with_reducible assumption | omega) (fun _ => rfl) (fun v1713 ev1713 => ?_)
                              refine g_goto ?_
                              exact ihL1703 v1712 v1713 (by first | with_reducible assumption | omega) (by first | with_reducible assumption | omega)
                            · refine g_aload_n rfl ?_
                              refine g_gfr hIH1694 sm_0 rfl ?_
                              refine g_iload rfl ?_
                              refine g_iconst (by decide) (fun v1714 kv1714 => ?_)
                              refine g_iadd (by first | with_reducible assumption | omega) (fun v1715 ev1715 => ?_)
                              refine g_iaload hIH1694 sm_22 rfl (by first | with_reducible assumption | omega) (fun v1716 ev1716 lv1716 uv1716 => ?_)
                              refine g_iload_n rfl ?_
                              refine g_if2_ne (fun c1717 => ?_) (fun c1717 => ?_)
                              · refine g_iconst (by decide) (fun v1718 kv1718 => ?_)
                                refine g_nop ?_
                                refine g_iadd (by have := gz_any v1701; omega) (fun v1719 ev1719 => ?_)
                                refine g_istore (l' := [(0, .ref 0), (1, .int a1), (2, .int a2), (3, .int v1682), (4, .int v1719), (5, .int v1687), (6, .int v1702)]) rfl rfl ?_
                                refine g_iinc (l' := (fun v1720 => [(0, .ref 0), (1, .int a1), (2, .int a2), (3, .int v1682), (4, .int v1719), (5, .int v1687), (6, .int v1720)])) rfl rfl (by decide) (by first | with_reducible assumption | omega) (fun _ => rfl) (fun v1720 ev1720 => ?_)
                                refine g_goto ?_
                                exact ihL1703 v1719 v1720 (by first | with_reducible assumption | omega) (by first | with_reducible assumption | omega)
                              · refine g_iconst (by decide) (fun v1721 kv1721 => ?_)
                                refine g_goto ?_
                                refine g_iadd' (fun v1722 ov1722 => ?_)
                                refine g_istore (l' := [(0, .ref 0), (1, .int a1), (2, .int a2), (3, .int v1682), (4, .int v1722), (5, .int v1687), (6, .int v1702)]) rfl rfl ?_
                                refine g_iinc (l' := (fun v1723 => [(0, .ref 0), (1, .int a1), (2, .int a2), (3, .int v1682), (4, .int v1722), (5, .int v1687), (6, .int v1723)])) rfl rfl (by decide) (by first | with_reducible assumption | omega) (fun _ => rfl) (fun v1723 ev1723 => ?_)
                                refine g_goto ?_
                                exact ihL1703 v1722 v1723 (by first | with_reducible assumption | omega) (by first | with_reducible assumption | omega)
                      exact L1703 _ v1686 v1700 (by first | with_reducible assumption | omega) (Nat.lt_succ_self _)
                exact L1691 _ v1684 v1685 H1465 hIH1465 hJH1465 e1466 m1467 (by first | with_reducible assumption | omega) (Nat.lt_succ_self _)
              · exfalso; omega
set_option maxRecDepth 4000 in
set_option maxHeartbeats 4000000 in
/-- M.runsFirst -/
theorem s_220 (a1 : Int32) (ha1 : 0 ≤ a1.toInt ∧ a1.toInt ≤ 60) (H : mzH) (hI : gI SM H) (hJ : JN H) : gCall 220 [.ref 0, .int a1] H (gRv (fun H' => gI SM H' ∧ JM H' ∧ fZ H' 0 2 = fZ H 0 2 ∧ kpM H H')) := by
  obtain ⟨k0_2, ek0_2⟩ : ∃ z, z = fZ H 0 2 := ⟨_, rfl⟩
  have ik0_2 : k0_2.toInt = (fZ H 0 2).toInt := by rw [← ek0_2]
  have bk0_2 : 0 ≤ k0_2.toInt ∧ k0_2.toInt ≤ 900 := by rw [ek0_2]; exact fZ_of hI sm_0 rfl
  have mkfr : kpM H H := kpM_r
  refine gG_call [(0, .ref 0), (1, .int a1)] ⟨rfl, rfl, trivial⟩ ?_
  show gG 3 zB_220 (mzBlk zB_220 0) [(0, .ref 0), (1, .int a1)] [] H 0 0 _
  refine g_aload_n rfl ?_
  refine g_invvv hI sm_0 rfl rfl rfl rfl (s_183 H hI hJ) (fun H117 r118 => ?_)
  obtain ⟨hIH117, hJH117, m119, m120, m121, p122⟩ := r118
  have e123 : k0_2 = fZ H117 0 2 := ek0_2.trans (m119 0 2).symm
  have m124 : kpM H H117 := kpM_t mkfr m121
  refine g_iload_n rfl ?_
  refine g_istore_n (l' := [(0, .ref 0), (1, .int a1), (2, .int a1)]) rfl rfl ?_
  refine g_nop ?_
  have L129 : ∀ (N : Nat) (v125 : Int32) (H126 : mzH), gI SM H126 → JN H126 → k0_2 = fZ H126 0 2 → kpM H H126 → (0 ≤ v125.toInt ∧ v125.toInt ≤ 60) → (60 - v125.toInt).toNat < N → gG 3 zB_220 (mzBlk zB_220 1) [(0, .ref 0), (1, .int a1), (2, .int v125)] [] H126 0 0 (gRv (fun H' => gI SM H' ∧ JM H' ∧ fZ H' 0 2 = fZ H 0 2 ∧ kpM H H')) := by
    intro N
    induction N with
    | zero => intro v125 H126 hIH126 hJH126 e127 m128 bv125 hmL129; exact absurd hmL129 (Nat.not_lt_zero _)
    | succ N ihL129 =>
      intro v125 H126 hIH126 hJH126 e127 m128 bv125 hmL129
      refine g_iload_n rfl ?_
      refine g_aload_n rfl ?_
      refine g_invvi hIH126 sm_0 rfl rfl rfl rfl (s_181 H126 hIH126 hJH126) (fun v132 H130 r131 => ?_)
      obtain ⟨rfl, bv132, p133⟩ := r131
      refine g_if2_ge (fun c134 => ?_) (fun c134 => ?_)
      · refine g_aload_n rfl ?_
        refine g_sipush (by decide) (fun v135 kv135 => ?_)
        refine g_invvv hIH126 sm_0 rfl rfl rfl rfl (s_199 v135 H126 hIH126 hJH126) (fun H136 r137 => ?_)
        obtain ⟨hIH136, hJH136, w138, w139, m140, m141, m142, p143⟩ := r137
        have e144 : k0_2 = fZ H136 0 2 := e127.trans w138.symm
        have m145 : kpM H H136 := kpM_t m128 m142
        exact g_ret ⟨rfl, hIH136, hJH136, (e144.symm.trans ek0_2), m145⟩
      · refine g_aload_n rfl ?_
        refine g_gfr hIH126 sm_0 rfl ?_
        refine g_iload_n rfl ?_
        refine g_iconst (by decide) (fun v146 kv146 => ?_)
        refine g_zastore hIH126 sm_17 (by first | with_reducible assumption | omega) (by first | with_reducible assumption | omega) (fun H147 eH147 hIH147 => ?_)
        have hJH147 : JN H147 := JN_sA (by decide) eH147 hJH126
        have e148 : k0_2 = fZ H147 0 2 := by rw [eH147, fZ_sA]; exact e127
        have m149 : kpM H H147 := kpM_A m128 eH147 (by first | with_reducible assumption | omega)
        refine g_iinc (l' := (fun v150 => [(0, .ref 0), (1, .int a1), (2, .int v150)])) rfl rfl (by decide) (by first | with_reducible assumption | omega) (fun _ => rfl) (fun v150 ev150 => ?_)
        refine g_goto ?_
        exact ihL129 v150 H147 hIH147 hJH147 e148 m149 (by first | with_reducible assumption | omega) (by first | with_reducible assumption | omega)
  exact L129 _ a1 H117 hIH117 hJH117 e123 m124 (by first | with_reducible assumption | omega) (Nat.lt_succ_self _)
set_option maxRecDepth 4000 in
set_option maxHeartbeats 4000000 in
/-- M.known -/
theorem s_221 (a1 : Int32) (a2 : Int32) (H : mzH) (hI : gI SM H) (hJ : JN H) : gCall 221 [.ref 0, .int a1, .int a2] H (gRi (fun v H' => gI SM H' ∧ JN H' ∧ fZ H' 0 2 = fZ H 0 2 ∧ kpM H H')) := by
  obtain ⟨k0_2, ek0_2⟩ : ∃ z, z = fZ H 0 2 := ⟨_, rfl⟩
  have ik0_2 : k0_2.toInt = (fZ H 0 2).toInt := by rw [← ek0_2]
  have bk0_2 : 0 ≤ k0_2.toInt ∧ k0_2.toInt ≤ 900 := by rw [ek0_2]; exact fZ_of hI sm_0 rfl
  have mkfr : kpM H H := kpM_r
  refine gG_call [(0, .ref 0), (1, .int a1), (2, .int a2)] ⟨rfl, rfl, rfl, trivial⟩ ?_
  show gG 3 zB_221 (mzBlk zB_221 0) [(0, .ref 0), (1, .int a1), (2, .int a2)] [] H 0 0 _
  refine g_aload_n rfl ?_
  refine g_iconst (by decide) (fun v109 kv109 => ?_)
  refine g_pfi hI sm_0 rfl (gz_any _) (fun H110 eH110 hIH110 => ?_)
  have hJH110 : JN H110 := JN_sF eH110 hJ
  have e111 : k0_2 = fZ H110 0 2 := by rw [eH110, fZ_sF_ne (by decide)]; exact ek0_2
  have m112 : kpM H H110 := kpM_F mkfr eH110 (by first | with_reducible assumption | omega)
  refine g_iload_n rfl ?_
  refine g_if_lt (fun c113 => ?_) (fun c113 => ?_)
  · refine g_iconst (by decide) (fun v114 kv114 => ?_)
    exact g_iret ⟨_, rfl, hIH110, hJH110, (e111.symm.trans ek0_2), m112⟩
  · refine g_iload_n rfl ?_
    refine g_aload_n rfl ?_
    refine g_invvi hIH110 sm_0 rfl rfl rfl rfl (s_181 H110 hIH110 hJH110) (fun v117 H115 r116 => ?_)
    obtain ⟨rfl, bv117, p118⟩ := r116
    refine g_if2_gt (fun c119 => ?_) (fun c119 => ?_)
    · refine g_iconst (by decide) (fun v120 kv120 => ?_)
      exact g_iret ⟨_, rfl, hIH110, hJH110, (e111.symm.trans ek0_2), m112⟩
    · refine g_iload_n rfl ?_
      refine g_invti rfl rfl rfl (s_206 a2 H110 hIH110 hJH110) (fun v123 H121 r122 => ?_)
      obtain ⟨rfl, bv123, p124⟩ := r122
      refine g_if_ne (fun c125 => ?_) (fun c125 => ?_)
      · refine g_aload_n rfl ?_
        refine g_iload_n rfl ?_
        refine g_invvv hIH110 sm_0 rfl rfl rfl rfl (s_220 a1 (by first | with_reducible assumption | omega) H110 hIH110 hJH110) (fun H126 r127 => ?_)
        obtain ⟨hIH126, hJH126, w128, m129⟩ := r127
        have e130 : k0_2 = fZ H126 0 2 := e111.trans w128.symm
        have m131 : kpM H H126 := kpM_t m112 m129
        refine g_aload_n rfl ?_
        refine g_iload_n rfl ?_
        refine g_invvi hIH126 sm_0 rfl rfl rfl rfl (s_202 a2 (by first | with_reducible assumption | omega) H126 hIH126 hJH126) (fun v134 H132 r133 => ?_)
        obtain ⟨rfl, bv134⟩ := r133
        exact g_iret ⟨_, rfl, hIH126, (JM_n hJH126), (e130.symm.trans ek0_2), m131⟩
      · refine g_nop ?_
        refine g_iconst (by decide) (fun v135 kv135 => ?_)
        exact g_iret ⟨_, rfl, hIH110, hJH110, (e111.symm.trans ek0_2), m112⟩
set_option maxRecDepth 4000 in
set_option maxHeartbeats 4000000 in
/-- M.changed -/
theorem s_222 (a1 : Int32) (H : mzH) (hI : gI SM H) (hJ : JN H) : gCall 222 [.ref 0, .int a1] H (gRi (fun v H' => gI SM H' ∧ JN H' ∧ fZ H' 0 2 = fZ H 0 2 ∧ kpM H H')) := by
  obtain ⟨k0_2, ek0_2⟩ : ∃ z, z = fZ H 0 2 := ⟨_, rfl⟩
  have ik0_2 : k0_2.toInt = (fZ H 0 2).toInt := by rw [← ek0_2]
  have bk0_2 : 0 ≤ k0_2.toInt ∧ k0_2.toInt ≤ 900 := by rw [ek0_2]; exact fZ_of hI sm_0 rfl
  have mkfr : kpM H H := kpM_r
  refine gG_call [(0, .ref 0), (1, .int a1)] ⟨rfl, rfl, trivial⟩ ?_
  show gG 4 zB_222 (mzBlk zB_222 0) [(0, .ref 0), (1, .int a1)] [] H 0 0 _
  refine g_aload_n rfl ?_
  refine g_iconst (by decide) (fun v713 kv713 => ?_)
  refine g_pfi hI sm_0 rfl (gz_any _) (fun H714 eH714 hIH714 => ?_)
  have hJH714 : JN H714 := JN_sF eH714 hJ
  have e715 : k0_2 = fZ H714 0 2 := by rw [eH714, fZ_sF_ne (by decide)]; exact ek0_2
  have m716 : kpM H H714 := kpM_F mkfr eH714 (by first | with_reducible assumption | omega)
  refine g_iload_n rfl ?_
  refine g_if_lt (fun c717 => ?_) (fun c717 => ?_)
  · refine g_iconst (by decide) (fun v718 kv718 => ?_)
    exact g_iret ⟨_, rfl, hIH714, hJH714, (e715.symm.trans ek0_2), m716⟩
  · refine g_iload_n rfl ?_
    refine g_aload_n rfl ?_
    refine g_invvi hIH714 sm_0 rfl rfl rfl rfl (s_181 H714 hIH714 hJH714) (fun v721 H719 r720 => ?_)
    obtain ⟨rfl, bv721, p722⟩ := r720
    refine g_if2_lt (fun c723 => ?_) (fun c723 => ?_)
    · refine g_aload_n rfl ?_
      refine g_iload_n rfl ?_
      refine g_invvv hIH714 sm_0 rfl rfl rfl rfl (s_220 a1 (by first | with_reducible assumption | omega) H714 hIH714 hJH714) (fun H724 r725 => ?_)
      obtain ⟨hIH724, hJH724, w726, m727⟩ := r725
      have e728 : k0_2 = fZ H724 0 2 := e715.trans w726.symm
      have m729 : kpM H H724 := kpM_t m716 m727
      refine g_iconst (by decide) (fun v730 kv730 => ?_)
      refine g_istore_n (l' := [(0, .ref 0), (1, .int a1), (2, .int v730)]) rfl rfl ?_
      refine g_nop ?_
      have L735 : ∀ (N : Nat) (v731 : Int32) (H732 : mzH), gI SM H732 → JM H732 → k0_2 = fZ H732 0 2 → kpM H H732 → (0 ≤ v731.toInt ∧ v731.toInt ≤ 40) → (40 - v731.toInt).toNat < N → gG 4 zB_222 (mzBlk zB_222 3) [(0, .ref 0), (1, .int a1), (2, .int v731)] [] H732 0 0 (gRi (fun v H' => gI SM H' ∧ JN H' ∧ fZ H' 0 2 = fZ H 0 2 ∧ kpM H H')) := by
        intro N
        induction N with
        | zero => intro v731 H732 hIH732 hJH732 e733 m734 bv731 hmL735; exact absurd hmL735 (Nat.not_lt_zero _)
        | succ N ihL735 =>
          intro v731 H732 hIH732 hJH732 e733 m734 bv731 hmL735
          refine g_iload_n rfl ?_
          refine g_bipush (by decide) (fun v736 kv736 => ?_)
          refine g_if2_ge (fun c737 => ?_) (fun c737 => ?_)
          · refine g_aload_n rfl ?_
            refine g_iload_n rfl ?_
            refine g_iconst (by decide) (fun v738 kv738 => ?_)
            refine g_iadd (by first | with_reducible assumption | omega) (fun v739 ev739 => ?_)
            refine g_invvv hIH732 sm_0 rfl rfl rfl rfl (s_220 v739 (by first | with_reducible assumption | omega) H732 hIH732 (JM_n hJH732)) (fun H740 r741 => ?_)
            obtain ⟨hIH740, hJH740, w742, m743⟩ := r741
            have e744 : k0_2 = fZ H740 0 2 := e733.trans w742.symm
            have m745 : kpM H H740 := kpM_t m734 m743
            refine g_iconst (by decide) (fun v746 kv746 => ?_)
            refine g_istore_n (l' := [(0, .ref 0), (1, .int a1), (2, .int v746)]) rfl rfl ?_
            refine g_iconst (by decide) (fun v747 kv747 => ?_)
            refine g_istore_n (l' := [(0, .ref 0), (1, .int a1), (2, .int v746), (3, .int v747)]) rfl rfl ?_
            refine g_nop ?_
            have L750 : ∀ (N : Nat) (v748 : Int32) (v749 : Int32), (0 ≤ v749.toInt ∧ v749.toInt ≤ 40) → (40 - v749.toInt).toNat < N → gG 4 zB_222 (mzBlk zB_222 5) [(0, .ref 0), (1, .int a1), (2, .int v748), (3, .int v749)] [] H740 0 0 (gRi (fun v H' => gI SM H' ∧ JN H' ∧ fZ H' 0 2 = fZ H 0 2 ∧ kpM H H')) := by
              intro N
              induction N with
              | zero => intro v748 v749 bv749 hmL750; exact absurd hmL750 (Nat.not_lt_zero _)
              | succ N ihL750 =>
                intro v748 v749 bv749 hmL750
                refine g_iload_n rfl ?_
                refine g_bipush (by decide) (fun v751 kv751 => ?_)
                refine g_if2_ge (fun c752 => ?_) (fun c752 => ?_)
                · refine g_iload_n rfl ?_
                  exact g_iret ⟨_, rfl, hIH740, (JM_n hJH740), (e744.symm.trans ek0_2), m745⟩
                · refine g_iload_n rfl ?_
                  refine g_aload_n rfl ?_
                  refine g_iload_n rfl ?_
                  refine g_invvi hIH740 sm_0 rfl rfl rfl rfl (s_202 v749 (by first | with_reducible assumption | omega) H740 hIH740 hJH740) (fun v755 H753 r754 => ?_)
                  obtain ⟨rfl, bv755⟩ := r754
                  refine g_aload_n rfl ?_
                  refine g_gfr hIH740 sm_0 rfl ?_
                  refine g_iload_n rfl ?_
                  refine g_iaload hIH740 sm_24 rfl (by first | with_reducible assumption | omega) (fun v756 ev756 lv756 uv756 => ?_)
                  refine g_if2_ne (fun c757 => ?_) (fun c757 => ?_)
                  · refine g_iconst (by decide) (fun v758 kv758 => ?_)
                    refine g_nop ?_
                    refine g_iadd' (fun v759 ov759 => ?_)
                    refine g_istore_n (l' := [(0, .ref 0), (1, .int a1), (2, .int v759), (3, .int v749)]) rfl rfl ?_
                    refine g_iinc (l' := (fun v760 => [(0, .ref 0), (1, .int a1), (2, .int v759), (3, .int v760)])) rfl rfl (by decide) (by first | with_reducible assumption | omega) (fun _ => rfl) (fun v760 ev760 => ?_)
                    refine g_goto ?_
                    exact ihL750 v759 v760 (by first | with_reducible assumption | omega) (by first | with_reducible assumption | omega)
                  · refine g_iconst (by decide) (fun v761 kv761 => ?_)
                    refine g_goto ?_
                    refine g_iadd (by have := gz_any v748; omega) (fun v762 ev762 => ?_)
                    refine g_istore_n (l' := [(0, .ref 0), (1, .int a1), (2, .int v762), (3, .int v749)]) rfl rfl ?_
                    refine g_iinc (l' := (fun v763 => [(0, .ref 0), (1, .int a1), (2, .int v762), (3, .int v763)])) rfl rfl (by decide) (by first | with_reducible assumption | omega) (fun _ => rfl) (fun v763 ev763 => ?_)
                    refine g_goto ?_
                    exact ihL750 v762 v763 (by first | with_reducible assumption | omega) (by first | with_reducible assumption | omega)
            exact L750 _ v746 v747 (by first | with_reducible assumption | omega) (Nat.lt_succ_self _)
          · refine g_aload_n rfl ?_
            refine g_gfr hIH732 sm_0 rfl ?_
            refine g_iload_n rfl ?_
            refine g_aload_n rfl ?_
            refine g_iload_n rfl ?_
            refine g_invvi hIH732 sm_0 rfl rfl rfl rfl (s_202 v731 (by first | with_reducible assumption | omega) H732 hIH732 hJH732) (fun v766 H764 r765 => ?_)
            obtain ⟨rfl, bv766⟩ := r765
            refine g_iastore hIH732 sm_24 (by first | with_reducible assumption | omega) (gz_any _) (fun H767 eH767 hIH767 => ?_)
            have hJH767 : JM H767 := JM_sA (by decide) eH767 hJH732
            have e768 : k0_2 = fZ H767 0 2 := by rw [eH767, fZ_sA]; exact e733
            have m769 : kpM H H767 := kpM_A m734 eH767 (by first | with_reducible assumption | omega)
            refine g_iinc (l' := (fun v770 => [(0, .ref 0), (1, .int a1), (2, .int v770)])) rfl rfl (by decide) (by first | with_reducible assumption | omega) (fun _ => rfl) (fun v770 ev770 => ?_)
            refine g_goto ?_
            exact ihL735 v770 H767 hIH767 hJH767 e768 m769 (by first | with_reducible assumption | omega) (by first | with_reducible assumption | omega)
      exact L735 _ v730 H724 hIH724 hJH724 e728 m729 (by first | with_reducible assumption | omega) (Nat.lt_succ_self _)
    · refine g_nop ?_
      refine g_iconst (by decide) (fun v771 kv771 => ?_)
      exact g_iret ⟨_, rfl, hIH714, hJH714, (e715.symm.trans ek0_2), m716⟩
set_option maxRecDepth 4000 in
set_option maxHeartbeats 4000000 in
/-- M.runsWithout -/
theorem s_223 (a1 : Int32) (ha1 : -1 ≤ a1.toInt ∧ a1.toInt ≤ 59) (a2 : Int32) (ha2 : -1 ≤ a2.toInt ∧ a2.toInt ≤ 59) (H : mzH) (hI : gI SM H) (hJ : JN H) : gCall 223 [.ref 0, .int a1, .int a2] H (gRv (fun H' => gI SM H' ∧ JM H' ∧ fZ H' 0 2 = fZ H 0 2 ∧ fZ H' 0 0 = fZ H 0 0 ∧ kpM H H')) := by
  obtain ⟨k0_2, ek0_2⟩ : ∃ z, z = fZ H 0 2 := ⟨_, rfl⟩
  have ik0_2 : k0_2.toInt = (fZ H 0 2).toInt := by rw [← ek0_2]
  have bk0_2 : 0 ≤ k0_2.toInt ∧ k0_2.toInt ≤ 900 := by rw [ek0_2]; exact fZ_of hI sm_0 rfl
  obtain ⟨k0_0, ek0_0⟩ : ∃ z, z = fZ H 0 0 := ⟨_, rfl⟩
  have ik0_0 : k0_0.toInt = (fZ H 0 0).toInt := by rw [← ek0_0]
  have mkfr : kpM H H := kpM_r
  refine gG_call [(0, .ref 0), (1, .int a1), (2, .int a2)] ⟨rfl, rfl, rfl, trivial⟩ ?_
  show gG 3 zB_223 (mzBlk zB_223 0) [(0, .ref 0), (1, .int a1), (2, .int a2)] [] H 0 0 _
  refine g_aload_n rfl ?_
  refine g_invvv hI sm_0 rfl rfl rfl rfl (s_183 H hI hJ) (fun H313 r314 => ?_)
  obtain ⟨hIH313, hJH313, m315, m316, m317, p318⟩ := r314
  have e319 : k0_2 = fZ H313 0 2 := ek0_2.trans (m315 0 2).symm
  have e320 : k0_0 = fZ H313 0 0 := ek0_0.trans (m315 0 0).symm
  have m321 : kpM H H313 := kpM_t mkfr m317
  refine g_iload_n rfl ?_
  refine g_iconst (by decide) (fun v322 kv322 => ?_)
  refine g_if2_eq (fun c323 => ?_) (fun c323 => ?_)
  · refine g_iload_n rfl ?_
    refine g_iconst (by decide) (fun v324 kv324 => ?_)
    refine g_if2_eq (fun c325 => ?_) (fun c325 => ?_)
    · refine g_aload_n rfl ?_
      refine g_sipush (by decide) (fun v326 kv326 => ?_)
      refine g_invvv hIH313 sm_0 rfl rfl rfl rfl (s_199 v326 H313 hIH313 hJH313) (fun H327 r328 => ?_)
      obtain ⟨hIH327, hJH327, w329, w330, m331, m332, m333, p334⟩ := r328
      have e335 : k0_2 = fZ H327 0 2 := e319.trans w329.symm
      have e336 : k0_0 = fZ H327 0 0 := e320.trans w330.symm
      have m337 : kpM H H327 := kpM_t m321 m333
      exact g_ret ⟨rfl, hIH327, hJH327, (e335.symm.trans ek0_2), (e336.symm.trans ek0_0), m337⟩
    · refine g_aload_n rfl ?_
      refine g_gfr hIH313 sm_0 rfl ?_
      refine g_iload_n rfl ?_
      refine g_iconst (by decide) (fun v338 kv338 => ?_)
      refine g_zastore hIH313 sm_17 (by first | with_reducible assumption | omega) (by first | with_reducible assumption | omega) (fun H339 eH339 hIH339 => ?_)
      have hJH339 : JN H339 := JN_sA (by decide) eH339 hJH313
      have e340 : k0_2 = fZ H339 0 2 := by rw [eH339, fZ_sA]; exact e319
      have e341 : k0_0 = fZ H339 0 0 := by rw [eH339, fZ_sA]; exact e320
      have m342 : kpM H H339 := kpM_A m321 eH339 (by first | with_reducible assumption | omega)
      refine g_nop ?_
      refine g_aload_n rfl ?_
      refine g_sipush (by decide) (fun v343 kv343 => ?_)
      refine g_invvv hIH339 sm_0 rfl rfl rfl rfl (s_199 v343 H339 hIH339 hJH339) (fun H344 r345 => ?_)
      obtain ⟨hIH344, hJH344, w346, w347, m348, m349, m350, p351⟩ := r345
      have e352 : k0_2 = fZ H344 0 2 := e340.trans w346.symm
      have e353 : k0_0 = fZ H344 0 0 := e341.trans w347.symm
      have m354 : kpM H H344 := kpM_t m342 m350
      exact g_ret ⟨rfl, hIH344, hJH344, (e352.symm.trans ek0_2), (e353.symm.trans ek0_0), m354⟩
  · refine g_aload_n rfl ?_
    refine g_gfr hIH313 sm_0 rfl ?_
    refine g_iload_n rfl ?_
    refine g_iconst (by decide) (fun v355 kv355 => ?_)
    refine g_zastore hIH313 sm_17 (by first | with_reducible assumption | omega) (by first | with_reducible assumption | omega) (fun H356 eH356 hIH356 => ?_)
    have hJH356 : JN H356 := JN_sA (by decide) eH356 hJH313
    have e357 : k0_2 = fZ H356 0 2 := by rw [eH356, fZ_sA]; exact e319
    have e358 : k0_0 = fZ H356 0 0 := by rw [eH356, fZ_sA]; exact e320
    have m359 : kpM H H356 := kpM_A m321 eH356 (by first | with_reducible assumption | omega)
    refine g_nop ?_
    refine g_iload_n rfl ?_
    refine g_iconst (by decide) (fun v360 kv360 => ?_)
    refine g_if2_eq (fun c361 => ?_) (fun c361 => ?_)
    · refine g_aload_n rfl ?_
      refine g_sipush (by decide) (fun v362 kv362 => ?_)
      refine g_invvv hIH356 sm_0 rfl rfl rfl rfl (s_199 v362 H356 hIH356 hJH356) (fun H363 r364 => ?_)
      obtain ⟨hIH363, hJH363, w365, w366, m367, m368, m369, p370⟩ := r364
      have e371 : k0_2 = fZ H363 0 2 := e357.trans w365.symm
      have e372 : k0_0 = fZ H363 0 0 := e358.trans w366.symm
      have m373 : kpM H H363 := kpM_t m359 m369
      exact g_ret ⟨rfl, hIH363, hJH363, (e371.symm.trans ek0_2), (e372.symm.trans ek0_0), m373⟩
    · refine g_aload_n rfl ?_
      refine g_gfr hIH356 sm_0 rfl ?_
      refine g_iload_n rfl ?_
      refine g_iconst (by decide) (fun v374 kv374 => ?_)
      refine g_zastore hIH356 sm_17 (by first | with_reducible assumption | omega) (by first | with_reducible assumption | omega) (fun H375 eH375 hIH375 => ?_)
      have hJH375 : JN H375 := JN_sA (by decide) eH375 hJH356
      have e376 : k0_2 = fZ H375 0 2 := by rw [eH375, fZ_sA]; exact e357
      have e377 : k0_0 = fZ H375 0 0 := by rw [eH375, fZ_sA]; exact e358
      have m378 : kpM H H375 := kpM_A m359 eH375 (by first | with_reducible assumption | omega)
      refine g_nop ?_
      refine g_aload_n rfl ?_
      refine g_sipush (by decide) (fun v379 kv379 => ?_)
      refine g_invvv hIH375 sm_0 rfl rfl rfl rfl (s_199 v379 H375 hIH375 hJH375) (fun H380 r381 => ?_)
      obtain ⟨hIH380, hJH380, w382, w383, m384, m385, m386, p387⟩ := r381
      have e388 : k0_2 = fZ H380 0 2 := e376.trans w382.symm
      have e389 : k0_0 = fZ H380 0 0 := e377.trans w383.symm
      have m390 : kpM H H380 := kpM_t m378 m386
      exact g_ret ⟨rfl, hIH380, hJH380, (e388.symm.trans ek0_2), (e389.symm.trans ek0_0), m390⟩
set_option maxRecDepth 4000 in
set_option maxHeartbeats 4000000 in
/-- M.without -/
theorem s_224 (a1 : Int32) (a2 : Int32) (H : mzH) (hI : gI SM H) (hJ : JN H) : gCall 224 [.ref 0, .int a1, .int a2] H (gRi (fun v H' => gI SM H' ∧ JN H' ∧ fZ H' 0 2 = fZ H 0 2 ∧ kpM H H')) := by
  obtain ⟨k0_2, ek0_2⟩ : ∃ z, z = fZ H 0 2 := ⟨_, rfl⟩
  have ik0_2 : k0_2.toInt = (fZ H 0 2).toInt := by rw [← ek0_2]
  have bk0_2 : 0 ≤ k0_2.toInt ∧ k0_2.toInt ≤ 900 := by rw [ek0_2]; exact fZ_of hI sm_0 rfl
  have mkfr : kpM H H := kpM_r
  refine gG_call [(0, .ref 0), (1, .int a1), (2, .int a2)] ⟨rfl, rfl, rfl, trivial⟩ ?_
  show gG 3 zB_224 (mzBlk zB_224 0) [(0, .ref 0), (1, .int a1), (2, .int a2)] [] H 0 0 _
  refine g_aload_n rfl ?_
  refine g_iconst (by decide) (fun v117 kv117 => ?_)
  refine g_pfi hI sm_0 rfl (gz_any _) (fun H118 eH118 hIH118 => ?_)
  have hJH118 : JN H118 := JN_sF eH118 hJ
  have e119 : k0_2 = fZ H118 0 2 := by rw [eH118, fZ_sF_ne (by decide)]; exact ek0_2
  have m120 : kpM H H118 := kpM_F mkfr eH118 (by first | with_reducible assumption | omega)
  refine g_iload_n rfl ?_
  refine g_if_lt (fun c121 => ?_) (fun c121 => ?_)
  · refine g_iconst (by decide) (fun v122 kv122 => ?_)
    exact g_iret ⟨_, rfl, hIH118, hJH118, (e119.symm.trans ek0_2), m120⟩
  · refine g_iload_n rfl ?_
    refine g_aload_n rfl ?_
    refine g_invvi hIH118 sm_0 rfl rfl rfl rfl (s_181 H118 hIH118 hJH118) (fun v125 H123 r124 => ?_)
    obtain ⟨rfl, bv125, p126⟩ := r124
    refine g_if2_ge (fun c127 => ?_) (fun c127 => ?_)
    · refine g_iconst (by decide) (fun v128 kv128 => ?_)
      exact g_iret ⟨_, rfl, hIH118, hJH118, (e119.symm.trans ek0_2), m120⟩
    · refine g_iload_n rfl ?_
      refine g_invti rfl rfl rfl (s_206 a2 H118 hIH118 hJH118) (fun v131 H129 r130 => ?_)
      obtain ⟨rfl, bv131, p132⟩ := r130
      refine g_if_ne (fun c133 => ?_) (fun c133 => ?_)
      · refine g_aload_n rfl ?_
        refine g_iload_n rfl ?_
        refine g_iconst (by decide) (fun v134 kv134 => ?_)
        refine g_invvv hIH118 sm_0 rfl rfl rfl rfl (s_223 a1 (by first | with_reducible assumption | omega) v134 (by first | with_reducible assumption | omega) H118 hIH118 hJH118) (fun H135 r136 => ?_)
        obtain ⟨hIH135, hJH135, w137, w138, m139⟩ := r136
        have e140 : k0_2 = fZ H135 0 2 := e119.trans w137.symm
        have m141 : kpM H H135 := kpM_t m120 m139
        refine g_aload_n rfl ?_
        refine g_iload_n rfl ?_
        refine g_invvi hIH135 sm_0 rfl rfl rfl rfl (s_202 a2 (by first | with_reducible assumption | omega) H135 hIH135 hJH135) (fun v144 H142 r143 => ?_)
        obtain ⟨rfl, bv144⟩ := r143
        exact g_iret ⟨_, rfl, hIH135, (JM_n hJH135), (e140.symm.trans ek0_2), m141⟩
      · refine g_nop ?_
        refine g_iconst (by decide) (fun v145 kv145 => ?_)
        exact g_iret ⟨_, rfl, hIH118, hJH118, (e119.symm.trans ek0_2), m120⟩
set_option maxRecDepth 4000 in
set_option maxHeartbeats 4000000 in
/-- M.refusedNow -/
theorem s_225 (H : mzH) (hI : gI SM H) (hJ : JN H) : gCall 225 [.ref 0] H (gRi (fun v H' => H = H')) := by
  refine gG_call [(0, .ref 0)] ⟨rfl, trivial⟩ ?_
  show gG 3 zB_225 (mzBlk zB_225 0) [(0, .ref 0)] [] H 0 0 _
  refine g_iconst (by decide) (fun v399 kv399 => ?_)
  refine g_istore_n (l' := [(0, .ref 0), (1, .int v399)]) rfl rfl ?_
  refine g_iconst (by decide) (fun v400 kv400 => ?_)
  refine g_istore_n (l' := [(0, .ref 0), (1, .int v399), (2, .int v400)]) rfl rfl ?_
  refine g_nop ?_
  have L403 : ∀ (N : Nat) (v401 : Int32) (v402 : Int32), (0 ≤ v402.toInt ∧ v402.toInt ≤ 60) → (60 - v402.toInt).toNat < N → gG 3 zB_225 (mzBlk zB_225 1) [(0, .ref 0), (1, .int v401), (2, .int v402)] [] H 0 0 (gRi (fun v H' => H = H')) := by
    intro N
    induction N with
    | zero => intro v401 v402 bv402 hmL403; exact absurd hmL403 (Nat.not_lt_zero _)
    | succ N ihL403 =>
      intro v401 v402 bv402 hmL403
      refine g_iload_n rfl ?_
      refine g_aload_n rfl ?_
      refine g_gfi hI sm_0 rfl (fun v404 ev404 lv404 uv404 => ?_)
      refine g_if2_ge (fun c405 => ?_) (fun c405 => ?_)
      · refine g_iload_n rfl ?_
        exact g_iret ⟨_, rfl, rfl⟩
      · refine g_iload_n rfl ?_
        refine g_aload_n rfl ?_
        refine g_gfr hI sm_0 rfl ?_
        refine g_aload_n rfl ?_
        refine g_gfr hI sm_0 rfl ?_
        refine g_iload_n rfl ?_
        refine g_iaload hI sm_19 rfl (by first | with_reducible assumption | omega) (fun v406 ev406 lv406 uv406 => ?_)
        refine g_iaload hI sm_20 rfl (by first | with_reducible assumption | omega) (fun v407 ev407 lv407 uv407 => ?_)
        refine g_if_ne (fun c408 => ?_) (fun c408 => ?_)
        · refine g_iconst (by decide) (fun v409 kv409 => ?_)
          refine g_nop ?_
          refine g_iadd' (fun v410 ov410 => ?_)
          refine g_istore_n (l' := [(0, .ref 0), (1, .int v410), (2, .int v402)]) rfl rfl ?_
          refine g_iinc (l' := (fun v411 => [(0, .ref 0), (1, .int v410), (2, .int v411)])) rfl rfl (by decide) (by first | with_reducible assumption | omega) (fun _ => rfl) (fun v411 ev411 => ?_)
          refine g_goto ?_
          exact ihL403 v410 v411 (by first | with_reducible assumption | omega) (by first | with_reducible assumption | omega)
        · refine g_iconst (by decide) (fun v412 kv412 => ?_)
          refine g_goto ?_
          refine g_iadd (by have := gz_any v401; omega) (fun v413 ev413 => ?_)
          refine g_istore_n (l' := [(0, .ref 0), (1, .int v413), (2, .int v402)]) rfl rfl ?_
          refine g_iinc (l' := (fun v414 => [(0, .ref 0), (1, .int v413), (2, .int v414)])) rfl rfl (by decide) (by first | with_reducible assumption | omega) (fun _ => rfl) (fun v414 ev414 => ?_)
          refine g_goto ?_
          exact ihL403 v413 v414 (by first | with_reducible assumption | omega) (by first | with_reducible assumption | omega)
  exact L403 _ v399 v400 (by first | with_reducible assumption | omega) (Nat.lt_succ_self _)
set_option maxRecDepth 4000 in
set_option maxHeartbeats 4000000 in
/-- M.refused -/
theorem s_226 (a1 : Int32) (H : mzH) (hI : gI SM H) (hJ : JN H) : gCall 226 [.ref 0, .int a1] H (gRi (fun v H' => gI SM H' ∧ JN H' ∧ fZ H' 0 2 = fZ H 0 2 ∧ kpM H H')) := by
  obtain ⟨k0_2, ek0_2⟩ : ∃ z, z = fZ H 0 2 := ⟨_, rfl⟩
  have ik0_2 : k0_2.toInt = (fZ H 0 2).toInt := by rw [← ek0_2]
  have bk0_2 : 0 ≤ k0_2.toInt ∧ k0_2.toInt ≤ 900 := by rw [ek0_2]; exact fZ_of hI sm_0 rfl
  have mkfr : kpM H H := kpM_r
  refine gG_call [(0, .ref 0), (1, .int a1)] ⟨rfl, rfl, trivial⟩ ?_
  show gG 4 zB_226 (mzBlk zB_226 0) [(0, .ref 0), (1, .int a1)] [] H 0 0 _
  refine g_aload_n rfl ?_
  refine g_iconst (by decide) (fun v585 kv585 => ?_)
  refine g_pfi hI sm_0 rfl (gz_any _) (fun H586 eH586 hIH586 => ?_)
  have hJH586 : JN H586 := JN_sF eH586 hJ
  have e587 : k0_2 = fZ H586 0 2 := by rw [eH586, fZ_sF_ne (by decide)]; exact ek0_2
  have m588 : kpM H H586 := kpM_F mkfr eH586 (by first | with_reducible assumption | omega)
  refine g_iload_n rfl ?_
  refine g_iconst (by decide) (fun v589 kv589 => ?_)
  refine g_if2_lt (fun c590 => ?_) (fun c590 => ?_)
  · refine g_bipush (by decide) (fun v591 kv591 => ?_)
    exact g_iret ⟨_, rfl, hIH586, hJH586, (e587.symm.trans ek0_2), m588⟩
  · refine g_iload_n rfl ?_
    refine g_bipush (by decide) (fun v592 kv592 => ?_)
    refine g_if2_le (fun c593 => ?_) (fun c593 => ?_)
    · refine g_aload_n rfl ?_
      refine g_invvv hIH586 sm_0 rfl rfl rfl rfl (s_200 H586 hIH586 hJH586) (fun H594 r595 => ?_)
      obtain ⟨hIH594, hJH594, w596, w597, m598, m599, p600⟩ := r595
      have e601 : k0_2 = fZ H594 0 2 := e587.trans w596.symm
      have m602 : kpM H H594 := kpM_t m588 m599
      refine g_iload_n rfl ?_
      refine g_iconst (by decide) (fun v603 kv603 => ?_)
      refine g_if2_ne (fun c604 => ?_) (fun c604 => ?_)
      · refine g_iconst (by decide) (fun v605 kv605 => ?_)
        refine g_istore_n (l' := [(0, .ref 0), (1, .int a1), (2, .int v605)]) rfl rfl ?_
        refine g_iconst (by decide) (fun v606 kv606 => ?_)
        refine g_istore_n (l' := [(0, .ref 0), (1, .int a1), (2, .int v605), (3, .int v606)]) rfl rfl ?_
        refine g_nop ?_
        have L609 : ∀ (N : Nat) (v607 : Int32) (v608 : Int32), (0 ≤ v608.toInt ∧ v608.toInt ≤ 60) → (60 - v608.toInt).toNat < N → gG 4 zB_226 (mzBlk zB_226 4) [(0, .ref 0), (1, .int a1), (2, .int v607), (3, .int v608)] [] H594 0 0 (gRi (fun v H' => gI SM H' ∧ JN H' ∧ fZ H' 0 2 = fZ H 0 2 ∧ kpM H H')) := by
          intro N
          induction N with
          | zero => intro v607 v608 bv608 hmL609; exact absurd hmL609 (Nat.not_lt_zero _)
          | succ N ihL609 =>
            intro v607 v608 bv608 hmL609
            refine g_iload_n rfl ?_
            refine g_aload_n rfl ?_
            refine g_invvi hIH594 sm_0 rfl rfl rfl rfl (s_181 H594 hIH594 (JM_n hJH594)) (fun v612 H610 r611 => ?_)
            obtain ⟨rfl, bv612, p613⟩ := r611
            refine g_if2_ge (fun c614 => ?_) (fun c614 => ?_)
            · refine g_iload_n rfl ?_
              exact g_iret ⟨_, rfl, hIH594, (JM_n hJH594), (e601.symm.trans ek0_2), m602⟩
            · refine g_iload_n rfl ?_
              refine g_aload_n rfl ?_
              refine g_gfr hIH594 sm_0 rfl ?_
              refine g_iload_n rfl ?_
              refine g_iaload hIH594 sm_20 rfl (by first | with_reducible assumption | omega) (fun v615 ev615 lv615 uv615 => ?_)
              refine g_iload_n rfl ?_
              refine g_if2_ne (fun c616 => ?_) (fun c616 => ?_)
              · refine g_iconst (by decide) (fun v617 kv617 => ?_)
                refine g_nop ?_
                refine g_iadd (by have := gz_any v607; omega) (fun v618 ev618 => ?_)
                refine g_istore_n (l' := [(0, .ref 0), (1, .int a1), (2, .int v618), (3, .int v608)]) rfl rfl ?_
                refine g_iinc (l' := (fun v619 => [(0, .ref 0), (1, .int a1), (2, .int v618), (3, .int v619)])) rfl rfl (by decide) (by first | with_reducible assumption | omega) (fun _ => rfl) (fun v619 ev619 => ?_)
                refine g_goto ?_
                exact ihL609 v618 v619 (by first | with_reducible assumption | omega) (by first | with_reducible assumption | omega)
              · refine g_iconst (by decide) (fun v620 kv620 => ?_)
                refine g_goto ?_
                refine g_iadd' (fun v621 ov621 => ?_)
                refine g_istore_n (l' := [(0, .ref 0), (1, .int a1), (2, .int v621), (3, .int v608)]) rfl rfl ?_
                refine g_iinc (l' := (fun v622 => [(0, .ref 0), (1, .int a1), (2, .int v621), (3, .int v622)])) rfl rfl (by decide) (by first | with_reducible assumption | omega) (fun _ => rfl) (fun v622 ev622 => ?_)
                refine g_goto ?_
                exact ihL609 v621 v622 (by first | with_reducible assumption | omega) (by first | with_reducible assumption | omega)
        exact L609 _ v605 v606 (by first | with_reducible assumption | omega) (Nat.lt_succ_self _)
      · refine g_aload_n rfl ?_
        refine g_invvi hIH594 sm_0 rfl rfl rfl rfl (s_225 H594 hIH594 (JM_n hJH594)) (fun v625 H623 r624 => ?_)
        obtain rfl := r624
        exact g_iret ⟨_, rfl, hIH594, (JM_n hJH594), (e601.symm.trans ek0_2), m602⟩
    · refine g_nop ?_
      refine g_bipush (by decide) (fun v626 kv626 => ?_)
      exact g_iret ⟨_, rfl, hIH586, hJH586, (e587.symm.trans ek0_2), m588⟩
set_option maxRecDepth 4000 in
set_option maxHeartbeats 4000000 in
/-- M.blames -/
theorem s_227 (a1 : Int32) (ha1 : 0 ≤ a1.toInt ∧ a1.toInt ≤ 1) (H : mzH) (hI : gI SM H) (hJ : JN H) : gCall 227 [.ref 0, .int a1] H (gRv (fun H' => gI SM H' ∧ JN H' ∧ fZ H' 0 2 = fZ H 0 2 ∧ kpM H H')) := by
  obtain ⟨k0_2, ek0_2⟩ : ∃ z, z = fZ H 0 2 := ⟨_, rfl⟩
  have ik0_2 : k0_2.toInt = (fZ H 0 2).toInt := by rw [← ek0_2]
  have bk0_2 : 0 ≤ k0_2.toInt ∧ k0_2.toInt ≤ 900 := by rw [ek0_2]; exact fZ_of hI sm_0 rfl
  have mkfr : kpM H H := kpM_r
  refine gG_call [(0, .ref 0), (1, .int a1)] ⟨rfl, rfl, trivial⟩ ?_
  show gG 5 zB_227 (mzBlk zB_227 0) [(0, .ref 0), (1, .int a1)] [] H 0 0 _
  refine g_aload_n rfl ?_
  refine g_iconst (by decide) (fun v1346 kv1346 => ?_)
  refine g_pfi hI sm_0 rfl (gz_any _) (fun H1347 eH1347 hIH1347 => ?_)
  have hJH1347 : JN H1347 := JN_sF eH1347 hJ
  have e1348 : k0_2 = fZ H1347 0 2 := by rw [eH1347, fZ_sF_ne (by decide)]; exact ek0_2
  have m1349 : kpM H H1347 := kpM_F mkfr eH1347 (by first | with_reducible assumption | omega)
  refine g_iconst (by decide) (fun v1350 kv1350 => ?_)
  refine g_istore_n (l' := [(0, .ref 0), (1, .int a1), (2, .int v1350)]) rfl rfl ?_
  refine g_nop ?_
  have L1355 : ∀ (N : Nat) (v1351 : Int32) (H1352 : mzH), gI SM H1352 → JN H1352 → k0_2 = fZ H1352 0 2 → kpM H H1352 → (0 ≤ v1351.toInt ∧ v1351.toInt ≤ 60) → (60 - v1351.toInt).toNat < N → gG 5 zB_227 (mzBlk zB_227 1) [(0, .ref 0), (1, .int a1), (2, .int v1351)] [] H1352 0 0 (gRv (fun H' => gI SM H' ∧ JN H' ∧ fZ H' 0 2 = fZ H 0 2 ∧ kpM H H')) := by
    intro N
    induction N with
    | zero => intro v1351 H1352 hIH1352 hJH1352 e1353 m1354 bv1351 hmL1355; exact absurd hmL1355 (Nat.not_lt_zero _)
    | succ N ihL1355 =>
      intro v1351 H1352 hIH1352 hJH1352 e1353 m1354 bv1351 hmL1355
      refine g_iload_n rfl ?_
      refine g_aload_n rfl ?_
      refine g_invvi hIH1352 sm_0 rfl rfl rfl rfl (s_181 H1352 hIH1352 hJH1352) (fun v1358 H1356 r1357 => ?_)
      obtain ⟨rfl, bv1358, p1359⟩ := r1357
      refine g_if2_ge (fun c1360 => ?_) (fun c1360 => ?_)
      · exact g_ret ⟨rfl, hIH1352, hJH1352, (e1353.symm.trans ek0_2), m1354⟩
      · refine g_iload_n rfl ?_
        refine g_iconst (by decide) (fun v1361 kv1361 => ?_)
        refine g_iadd (by first | with_reducible assumption | omega) (fun v1362 ev1362 => ?_)
        refine g_istore_n (l' := [(0, .ref 0), (1, .int a1), (2, .int v1351), (3, .int v1362)]) rfl rfl ?_
        refine g_nop ?_
        have L1367 : ∀ (N : Nat) (v1363 : Int32) (H1364 : mzH), gI SM H1364 → JN H1364 → k0_2 = fZ H1364 0 2 → kpM H H1364 → (1 ≤ v1363.toInt ∧ v1363.toInt ≤ 61) → (61 - v1363.toInt).toNat < N → gG 5 zB_227 (mzBlk zB_227 2) [(0, .ref 0), (1, .int a1), (2, .int v1351), (3, .int v1363)] [] H1364 0 0 (gRv (fun H' => gI SM H' ∧ JN H' ∧ fZ H' 0 2 = fZ H 0 2 ∧ kpM H H')) := by
          intro N
          induction N with
          | zero => intro v1363 H1364 hIH1364 hJH1364 e1365 m1366 bv1363 hmL1367; exact absurd hmL1367 (Nat.not_lt_zero _)
          | succ N ihL1367 =>
            intro v1363 H1364 hIH1364 hJH1364 e1365 m1366 bv1363 hmL1367
            refine g_iload_n rfl ?_
            refine g_iload_n rfl ?_
            refine g_if_eq (fun c1368 => ?_) (fun c1368 => ?_)
            · refine g_iload_n rfl ?_
              refine g_iconst (by decide) (fun v1369 kv1369 => ?_)
              refine g_iadd (by first | with_reducible assumption | omega) (fun v1370 ev1370 => ?_)
              refine g_nop ?_
              refine g_if2_ge (fun c1371 => ?_) (fun c1371 => ?_)
              · refine g_iinc (l' := (fun v1372 => [(0, .ref 0), (1, .int a1), (2, .int v1372), (3, .int v1363)])) rfl rfl (by decide) (by first | with_reducible assumption | omega) (fun _ => rfl) (fun v1372 ev1372 => ?_)
                refine g_goto ?_
                refine gG_pick [0, 1, 2] (l' := [(0, .ref 0), (1, .int a1), (2, .int v1372)]) rfl ?_
                exact ihL1355 v1372 H1364 hIH1364 hJH1364 e1365 m1366 (by first | with_reducible assumption | omega) (by first | with_reducible assumption | omega)
              · refine g_aload_n rfl ?_
                refine g_iload_n rfl ?_
                refine g_iload_n rfl ?_
                refine g_if_eq (fun c1373 => ?_) (fun c1373 => ?_)
                · refine g_iconst (by decide) (fun v1374 kv1374 => ?_)
                  refine g_nop ?_
                  refine g_invvv hIH1364 sm_0 rfl rfl rfl rfl (s_223 v1351 (by first | with_reducible assumption | omega) v1374 (by first | with_reducible assumption | omega) H1364 hIH1364 hJH1364) (fun H1375 r1376 => ?_)
                  obtain ⟨hIH1375, hJH1375, w1377, w1378, m1379⟩ := r1376
                  have e1380 : k0_2 = fZ H1375 0 2 := e1365.trans w1377.symm
                  have m1381 : kpM H H1375 := kpM_t m1366 m1379
                  refine g_aload_n rfl ?_
                  refine g_invvi hIH1375 sm_0 rfl rfl rfl rfl (s_225 H1375 hIH1375 (JM_n hJH1375)) (fun v1384 H1382 r1383 => ?_)
                  obtain rfl := r1383
                  refine g_istore (l' := [(0, .ref 0), (1, .int a1), (2, .int v1351), (3, .int v1363), (4, .int v1384)]) rfl rfl ?_
                  refine g_aload_n rfl ?_
                  refine g_gfi hIH1375 sm_0 rfl (fun v1385 ev1385 lv1385 uv1385 => ?_)
                  refine g_iconst (by decide) (fun v1386 kv1386 => ?_)
                  refine g_if2_eq (fun c1387 => ?_) (fun c1387 => ?_)
                  · refine g_aload_n rfl ?_
                    refine g_iload_n rfl ?_
                    refine g_pfi hIH1375 sm_0 rfl (gz_any _) (fun H1388 eH1388 hIH1388 => ?_)
                    have hJH1388 : JM H1388 := JM_sF eH1388 hJH1375
                    have e1389 : k0_2 = fZ H1388 0 2 := by rw [eH1388, fZ_sF_ne (by decide)]; exact e1380
                    have m1390 : kpM H H1388 := kpM_F m1381 eH1388 (by first | with_reducible assumption | omega)
                    refine g_aload_n rfl ?_
                    refine g_iload_n rfl ?_
                    refine g_pfi hIH1388 sm_0 rfl (gz_any _) (fun H1391 eH1391 hIH1391 => ?_)
                    have hJH1391 : JM H1391 := JM_sF eH1391 hJH1388
                    have e1392 : k0_2 = fZ H1391 0 2 := by rw [eH1391, fZ_sF_ne (by decide)]; exact e1389
                    have m1393 : kpM H H1391 := kpM_F m1390 eH1391 (by first | with_reducible assumption | omega)
                    refine g_aload_n rfl ?_
                    refine g_iload rfl ?_
                    refine g_pfi hIH1391 sm_0 rfl (gz_any _) (fun H1394 eH1394 hIH1394 => ?_)
                    have hJH1394 : JM H1394 := JM_sF eH1394 hJH1391
                    have e1395 : k0_2 = fZ H1394 0 2 := by rw [eH1394, fZ_sF_ne (by decide)]; exact e1392
                    have m1396 : kpM H H1394 := kpM_F m1393 eH1394 (by first | with_reducible assumption | omega)
                    refine g_nop ?_
                    refine g_iinc (l' := (fun v1397 => [(0, .ref 0), (1, .int a1), (2, .int v1351), (3, .int v1397), (4, .int v1384)])) rfl rfl (by decide) (by first | with_reducible assumption | omega) (fun _ => rfl) (fun v1397 ev1397 => ?_)
                    refine g_goto ?_
                    refine gG_pick [0, 1, 2, 3] (l' := [(0, .ref 0), (1, .int a1), (2, .int v1351), (3, .int v1397)]) rfl ?_
                    exact ihL1367 v1397 H1394 hIH1394 (JM_n hJH1394) e1395 m1396 (by first | with_reducible assumption | omega) (by first | with_reducible assumption | omega)
                  · refine g_iload rfl ?_
                    refine g_aload_n rfl ?_
                    refine g_gfi hIH1375 sm_0 rfl (fun v1398 ev1398 lv1398 uv1398 => ?_)
                    refine g_if2_lt (fun c1399 => ?_) (fun c1399 => ?_)
                    · refine g_aload_n rfl ?_
                      refine g_iload_n rfl ?_
                      refine g_pfi hIH1375 sm_0 rfl (gz_any _) (fun H1400 eH1400 hIH1400 => ?_)
                      have hJH1400 : JM H1400 := JM_sF eH1400 hJH1375
                      have e1401 : k0_2 = fZ H1400 0 2 := by rw [eH1400, fZ_sF_ne (by decide)]; exact e1380
                      have m1402 : kpM H H1400 := kpM_F m1381 eH1400 (by first | with_reducible assumption | omega)
                      refine g_aload_n rfl ?_
                      refine g_iload_n rfl ?_
                      refine g_pfi hIH1400 sm_0 rfl (gz_any _) (fun H1403 eH1403 hIH1403 => ?_)
                      have hJH1403 : JM H1403 := JM_sF eH1403 hJH1400
                      have e1404 : k0_2 = fZ H1403 0 2 := by rw [eH1403, fZ_sF_ne (by decide)]; exact e1401
                      have m1405 : kpM H H1403 := kpM_F m1402 eH1403 (by first | with_reducible assumption | omega)
                      refine g_aload_n rfl ?_
                      refine g_iload rfl ?_
                      refine g_pfi hIH1403 sm_0 rfl (gz_any _) (fun H1406 eH1406 hIH1406 => ?_)
                      have hJH1406 : JM H1406 := JM_sF eH1406 hJH1403
                      have e1407 : k0_2 = fZ H1406 0 2 := by rw [eH1406, fZ_sF_ne (by decide)]; exact e1404
                      have m1408 : kpM H H1406 := kpM_F m1405 eH1406 (by first | with_reducible assumption | omega)
                      refine g_nop ?_
                      refine g_iinc (l' := (fun v1409 => [(0, .ref 0), (1, .int a1), (2, .int v1351), (3, .int v1409), (4, .int v1384)])) rfl rfl (by decide) (by first | with_reducible assumption | omega) (fun _ => rfl) (fun v1409 ev1409 => ?_)
                      refine g_goto ?_
                      refine gG_pick [0, 1, 2, 3] (l' := [(0, .ref 0), (1, .int a1), (2, .int v1351), (3, .int v1409)]) rfl ?_
                      exact ihL1367 v1409 H1406 hIH1406 (JM_n hJH1406) e1407 m1408 (by first | with_reducible assumption | omega) (by first | with_reducible assumption | omega)
                    · refine g_goto ?_
                      refine g_iinc (l' := (fun v1410 => [(0, .ref 0), (1, .int a1), (2, .int v1351), (3, .int v1410), (4, .int v1384)])) rfl rfl (by decide) (by first | with_reducible assumption | omega) (fun _ => rfl) (fun v1410 ev1410 => ?_)
                      refine g_goto ?_
                      refine gG_pick [0, 1, 2, 3] (l' := [(0, .ref 0), (1, .int a1), (2, .int v1351), (3, .int v1410)]) rfl ?_
                      exact ihL1367 v1410 H1375 hIH1375 (JM_n hJH1375) e1380 m1381 (by first | with_reducible assumption | omega) (by first | with_reducible assumption | omega)
                · exfalso; omega
            · refine g_aload_n rfl ?_
              refine g_invvi hIH1364 sm_0 rfl rfl rfl rfl (s_181 H1364 hIH1364 hJH1364) (fun v1413 H1411 r1412 => ?_)
              obtain ⟨rfl, bv1413, p1414⟩ := r1412
              refine g_goto ?_
              refine g_if2_ge (fun c1415 => ?_) (fun c1415 => ?_)
              · refine g_iinc (l' := (fun v1416 => [(0, .ref 0), (1, .int a1), (2, .int v1416), (3, .int v1363)])) rfl rfl (by decide) (by first | with_reducible assumption | omega) (fun _ => rfl) (fun v1416 ev1416 => ?_)
                refine g_goto ?_
                refine gG_pick [0, 1, 2] (l' := [(0, .ref 0), (1, .int a1), (2, .int v1416)]) rfl ?_
                exact ihL1355 v1416 H1364 hIH1364 hJH1364 e1365 m1366 (by first | with_reducible assumption | omega) (by first | with_reducible assumption | omega)
              · refine g_aload_n rfl ?_
                refine g_iload_n rfl ?_
                refine g_iload_n rfl ?_
                refine g_if_eq (fun c1417 => ?_) (fun c1417 => ?_)
                · exfalso; omega
                · refine g_iload_n rfl ?_
                  refine g_goto ?_
                  refine g_invvv hIH1364 sm_0 rfl rfl rfl rfl (s_223 v1351 (by first | with_reducible assumption | omega) v1363 (by first | with_reducible assumption | omega) H1364 hIH1364 hJH1364) (fun H1418 r1419 => ?_)
                  obtain ⟨hIH1418, hJH1418, w1420, w1421, m1422⟩ := r1419
                  have e1423 : k0_2 = fZ H1418 0 2 := e1365.trans w1420.symm
                  have m1424 : kpM H H1418 := kpM_t m1366 m1422
                  refine g_aload_n rfl ?_
                  refine g_invvi hIH1418 sm_0 rfl rfl rfl rfl (s_225 H1418 hIH1418 (JM_n hJH1418)) (fun v1427 H1425 r1426 => ?_)
                  obtain rfl := r1426
                  refine g_istore (l' := [(0, .ref 0), (1, .int a1), (2, .int v1351), (3, .int v1363), (4, .int v1427)]) rfl rfl ?_
                  refine g_aload_n rfl ?_
                  refine g_gfi hIH1418 sm_0 rfl (fun v1428 ev1428 lv1428 uv1428 => ?_)
                  refine g_iconst (by decide) (fun v1429 kv1429 => ?_)
                  refine g_if2_eq (fun c1430 => ?_) (fun c1430 => ?_)
                  · refine g_aload_n rfl ?_
                    refine g_iload_n rfl ?_
                    refine g_pfi hIH1418 sm_0 rfl (gz_any _) (fun H1431 eH1431 hIH1431 => ?_)
                    have hJH1431 : JM H1431 := JM_sF eH1431 hJH1418
                    have e1432 : k0_2 = fZ H1431 0 2 := by rw [eH1431, fZ_sF_ne (by decide)]; exact e1423
                    have m1433 : kpM H H1431 := kpM_F m1424 eH1431 (by first | with_reducible assumption | omega)
                    refine g_aload_n rfl ?_
                    refine g_iload_n rfl ?_
                    refine g_pfi hIH1431 sm_0 rfl (gz_any _) (fun H1434 eH1434 hIH1434 => ?_)
                    have hJH1434 : JM H1434 := JM_sF eH1434 hJH1431
                    have e1435 : k0_2 = fZ H1434 0 2 := by rw [eH1434, fZ_sF_ne (by decide)]; exact e1432
                    have m1436 : kpM H H1434 := kpM_F m1433 eH1434 (by first | with_reducible assumption | omega)
                    refine g_aload_n rfl ?_
                    refine g_iload rfl ?_
                    refine g_pfi hIH1434 sm_0 rfl (gz_any _) (fun H1437 eH1437 hIH1437 => ?_)
                    have hJH1437 : JM H1437 := JM_sF eH1437 hJH1434
                    have e1438 : k0_2 = fZ H1437 0 2 := by rw [eH1437, fZ_sF_ne (by decide)]; exact e1435
                    have m1439 : kpM H H1437 := kpM_F m1436 eH1437 (by first | with_reducible assumption | omega)
                    refine g_nop ?_
                    refine g_iinc (l' := (fun v1440 => [(0, .ref 0), (1, .int a1), (2, .int v1351), (3, .int v1440), (4, .int v1427)])) rfl rfl (by decide) (by first | with_reducible assumption | omega) (fun _ => rfl) (fun v1440 ev1440 => ?_)
                    refine g_goto ?_
                    refine gG_pick [0, 1, 2, 3] (l' := [(0, .ref 0), (1, .int a1), (2, .int v1351), (3, .int v1440)]) rfl ?_
                    exact ihL1367 v1440 H1437 hIH1437 (JM_n hJH1437) e1438 m1439 (by first | with_reducible assumption | omega) (by first | with_reducible assumption | omega)
                  · refine g_iload rfl ?_
                    refine g_aload_n rfl ?_
                    refine g_gfi hIH1418 sm_0 rfl (fun v1441 ev1441 lv1441 uv1441 => ?_)
                    refine g_if2_lt (fun c1442 => ?_) (fun c1442 => ?_)
                    · refine g_aload_n rfl ?_
                      refine g_iload_n rfl ?_
                      refine g_pfi hIH1418 sm_0 rfl (gz_any _) (fun H1443 eH1443 hIH1443 => ?_)
                      have hJH1443 : JM H1443 := JM_sF eH1443 hJH1418
                      have e1444 : k0_2 = fZ H1443 0 2 := by rw [eH1443, fZ_sF_ne (by decide)]; exact e1423
                      have m1445 : kpM H H1443 := kpM_F m1424 eH1443 (by first | with_reducible assumption | omega)
                      refine g_aload_n rfl ?_
                      refine g_iload_n rfl ?_
                      refine g_pfi hIH1443 sm_0 rfl (gz_any _) (fun H1446 eH1446 hIH1446 => ?_)
                      have hJH1446 : JM H1446 := JM_sF eH1446 hJH1443
                      have e1447 : k0_2 = fZ H1446 0 2 := by rw [eH1446, fZ_sF_ne (by decide)]; exact e1444
                      have m1448 : kpM H H1446 := kpM_F m1445 eH1446 (by first | with_reducible assumption | omega)
                      refine g_aload_n rfl ?_
                      refine g_iload rfl ?_
                      refine g_pfi hIH1446 sm_0 rfl (gz_any _) (fun H1449 eH1449 hIH1449 => ?_)
                      have hJH1449 : JM H1449 := JM_sF eH1449 hJH1446
                      have e1450 : k0_2 = fZ H1449 0 2 := by rw [eH1449, fZ_sF_ne (by decide)]; exact e1447
                      have m1451 : kpM H H1449 := kpM_F m1448 eH1449 (by first | with_reducible assumption | omega)
                      refine g_nop ?_
                      refine g_iinc (l' := (fun v1452 => [(0, .ref 0), (1, .int a1), (2, .int v1351), (3, .int v1452), (4, .int v1427)])) rfl rfl (by decide) (by first | with_reducible assumption | omega) (fun _ => rfl) (fun v1452 ev1452 => ?_)
                      refine g_goto ?_
                      refine gG_pick [0, 1, 2, 3] (l' := [(0, .ref 0), (1, .int a1), (2, .int v1351), (3, .int v1452)]) rfl ?_
                      exact ihL1367 v1452 H1449 hIH1449 (JM_n hJH1449) e1450 m1451 (by first | with_reducible assumption | omega) (by first | with_reducible assumption | omega)
                    · refine g_goto ?_
                      refine g_iinc (l' := (fun v1453 => [(0, .ref 0), (1, .int a1), (2, .int v1351), (3, .int v1453), (4, .int v1427)])) rfl rfl (by decide) (by first | with_reducible assumption | omega) (fun _ => rfl) (fun v1453 ev1453 => ?_)
                      refine g_goto ?_
                      refine gG_pick [0, 1, 2, 3] (l' := [(0, .ref 0), (1, .int a1), (2, .int v1351), (3, .int v1453)]) rfl ?_
                      exact ihL1367 v1453 H1418 hIH1418 (JM_n hJH1418) e1423 m1424 (by first | with_reducible assumption | omega) (by first | with_reducible assumption | omega)
        exact L1367 _ v1362 H1352 hIH1352 hJH1352 e1353 m1354 (by first | with_reducible assumption | omega) (Nat.lt_succ_self _)
  exact L1355 _ v1350 H1347 hIH1347 hJH1347 e1348 m1349 (by first | with_reducible assumption | omega) (Nat.lt_succ_self _)
set_option maxRecDepth 4000 in
set_option maxHeartbeats 4000000 in
/-- M.blamed -/
theorem s_228 (a1 : Int32) (H : mzH) (hI : gI SM H) (hJ : JN H) : gCall 228 [.ref 0, .int a1] H (gRi (fun v H' => gI SM H' ∧ JN H' ∧ fZ H' 0 2 = fZ H 0 2 ∧ kpM H H')) := by
  obtain ⟨k0_2, ek0_2⟩ : ∃ z, z = fZ H 0 2 := ⟨_, rfl⟩
  have ik0_2 : k0_2.toInt = (fZ H 0 2).toInt := by rw [← ek0_2]
  have bk0_2 : 0 ≤ k0_2.toInt ∧ k0_2.toInt ≤ 900 := by rw [ek0_2]; exact fZ_of hI sm_0 rfl
  have mkfr : kpM H H := kpM_r
  refine gG_call [(0, .ref 0), (1, .int a1)] ⟨rfl, rfl, trivial⟩ ?_
  show gG 2 zB_228 (mzBlk zB_228 0) [(0, .ref 0), (1, .int a1)] [] H 0 0 _
  refine g_aload_n rfl ?_
  refine g_iconst (by decide) (fun v93 kv93 => ?_)
  refine g_pfi hI sm_0 rfl (gz_any _) (fun H94 eH94 hIH94 => ?_)
  have hJH94 : JN H94 := JN_sF eH94 hJ
  have e95 : k0_2 = fZ H94 0 2 := by rw [eH94, fZ_sF_ne (by decide)]; exact ek0_2
  have m96 : kpM H H94 := kpM_F mkfr eH94 (by first | with_reducible assumption | omega)
  refine g_iload_n rfl ?_
  refine g_if_lt (fun c97 => ?_) (fun c97 => ?_)
  · refine g_iconst (by decide) (fun v98 kv98 => ?_)
    exact g_iret ⟨_, rfl, hIH94, hJH94, (e95.symm.trans ek0_2), m96⟩
  · refine g_iload_n rfl ?_
    refine g_iconst (by decide) (fun v99 kv99 => ?_)
    refine g_if2_le (fun c100 => ?_) (fun c100 => ?_)
    · refine g_aload_n rfl ?_
      refine g_iconst (by decide) (fun v101 kv101 => ?_)
      refine g_invvv hIH94 sm_0 rfl rfl rfl rfl (s_227 v101 (by first | with_reducible assumption | omega) H94 hIH94 hJH94) (fun H102 r103 => ?_)
      obtain ⟨hIH102, hJH102, w104, m105⟩ := r103
      have e106 : k0_2 = fZ H102 0 2 := e95.trans w104.symm
      have m107 : kpM H H102 := kpM_t m96 m105
      refine g_aload_n rfl ?_
      refine g_gfi hIH102 sm_0 rfl (fun v108 ev108 lv108 uv108 => ?_)
      refine g_iconst (by decide) (fun v109 kv109 => ?_)
      refine g_if2_ne (fun c110 => ?_) (fun c110 => ?_)
      · refine g_iload_n rfl ?_
        refine g_if_ne (fun c111 => ?_) (fun c111 => ?_)
        · refine g_aload_n rfl ?_
          refine g_gfi hIH102 sm_0 rfl (fun v112 ev112 lv112 uv112 => ?_)
          refine g_nop ?_
          exact g_iret ⟨_, rfl, hIH102, hJH102, (e106.symm.trans ek0_2), m107⟩
        · refine g_aload_n rfl ?_
          refine g_gfi hIH102 sm_0 rfl (fun v113 ev113 lv113 uv113 => ?_)
          refine g_goto ?_
          exact g_iret ⟨_, rfl, hIH102, hJH102, (e106.symm.trans ek0_2), m107⟩
      · refine g_bipush (by decide) (fun v114 kv114 => ?_)
        refine g_goto ?_
        exact g_iret ⟨_, rfl, hIH102, hJH102, (e106.symm.trans ek0_2), m107⟩
    · refine g_nop ?_
      refine g_iconst (by decide) (fun v115 kv115 => ?_)
      exact g_iret ⟨_, rfl, hIH94, hJH94, (e95.symm.trans ek0_2), m96⟩
set_option maxRecDepth 4000 in
set_option maxHeartbeats 4000000 in
/-- M.twoBlamed -/
theorem s_229 (a1 : Int32) (H : mzH) (hI : gI SM H) (hJ : JN H) : gCall 229 [.ref 0, .int a1] H (gRi (fun v H' => gI SM H' ∧ JN H' ∧ fZ H' 0 2 = fZ H 0 2 ∧ kpM H H')) := by
  obtain ⟨k0_2, ek0_2⟩ : ∃ z, z = fZ H 0 2 := ⟨_, rfl⟩
  have ik0_2 : k0_2.toInt = (fZ H 0 2).toInt := by rw [← ek0_2]
  have bk0_2 : 0 ≤ k0_2.toInt ∧ k0_2.toInt ≤ 900 := by rw [ek0_2]; exact fZ_of hI sm_0 rfl
  have mkfr : kpM H H := kpM_r
  refine gG_call [(0, .ref 0), (1, .int a1)] ⟨rfl, rfl, trivial⟩ ?_
  show gG 2 zB_229 (mzBlk zB_229 0) [(0, .ref 0), (1, .int a1)] [] H 0 0 _
  refine g_aload_n rfl ?_
  refine g_iconst (by decide) (fun v105 kv105 => ?_)
  refine g_pfi hI sm_0 rfl (gz_any _) (fun H106 eH106 hIH106 => ?_)
  have hJH106 : JN H106 := JN_sF eH106 hJ
  have e107 : k0_2 = fZ H106 0 2 := by rw [eH106, fZ_sF_ne (by decide)]; exact ek0_2
  have m108 : kpM H H106 := kpM_F mkfr eH106 (by first | with_reducible assumption | omega)
  refine g_iload_n rfl ?_
  refine g_if_lt (fun c109 => ?_) (fun c109 => ?_)
  · refine g_iconst (by decide) (fun v110 kv110 => ?_)
    exact g_iret ⟨_, rfl, hIH106, hJH106, (e107.symm.trans ek0_2), m108⟩
  · refine g_iload_n rfl ?_
    refine g_iconst (by decide) (fun v111 kv111 => ?_)
    refine g_if2_le (fun c112 => ?_) (fun c112 => ?_)
    · refine g_aload_n rfl ?_
      refine g_iconst (by decide) (fun v113 kv113 => ?_)
      refine g_invvv hIH106 sm_0 rfl rfl rfl rfl (s_227 v113 (by first | with_reducible assumption | omega) H106 hIH106 hJH106) (fun H114 r115 => ?_)
      obtain ⟨hIH114, hJH114, w116, m117⟩ := r115
      have e118 : k0_2 = fZ H114 0 2 := e107.trans w116.symm
      have m119 : kpM H H114 := kpM_t m108 m117
      refine g_aload_n rfl ?_
      refine g_gfi hIH114 sm_0 rfl (fun v120 ev120 lv120 uv120 => ?_)
      refine g_iconst (by decide) (fun v121 kv121 => ?_)
      refine g_if2_ne (fun c122 => ?_) (fun c122 => ?_)
      · refine g_iload_n rfl ?_
        refine g_if_ne (fun c123 => ?_) (fun c123 => ?_)
        · refine g_iload_n rfl ?_
          refine g_iconst (by decide) (fun v124 kv124 => ?_)
          refine g_if2_ne (fun c125 => ?_) (fun c125 => ?_)
          · refine g_aload_n rfl ?_
            refine g_gfi hIH114 sm_0 rfl (fun v126 ev126 lv126 uv126 => ?_)
            refine g_nop ?_
            exact g_iret ⟨_, rfl, hIH114, hJH114, (e118.symm.trans ek0_2), m119⟩
          · refine g_aload_n rfl ?_
            refine g_gfi hIH114 sm_0 rfl (fun v127 ev127 lv127 uv127 => ?_)
            refine g_goto ?_
            exact g_iret ⟨_, rfl, hIH114, hJH114, (e118.symm.trans ek0_2), m119⟩
        · refine g_aload_n rfl ?_
          refine g_gfi hIH114 sm_0 rfl (fun v128 ev128 lv128 uv128 => ?_)
          refine g_goto ?_
          exact g_iret ⟨_, rfl, hIH114, hJH114, (e118.symm.trans ek0_2), m119⟩
      · refine g_bipush (by decide) (fun v129 kv129 => ?_)
        refine g_goto ?_
        exact g_iret ⟨_, rfl, hIH114, hJH114, (e118.symm.trans ek0_2), m119⟩
    · refine g_nop ?_
      refine g_iconst (by decide) (fun v130 kv130 => ?_)
      exact g_iret ⟨_, rfl, hIH106, hJH106, (e107.symm.trans ek0_2), m108⟩
set_option maxRecDepth 4000 in
set_option maxHeartbeats 4000000 in
/-- M.isRefused -/
theorem s_230 (a1 : Int32) (ha1 : 0 ≤ a1.toInt ∧ a1.toInt ≤ 59) (H : mzH) (hI : gI SM H) (hJ : JN H) : gCall 230 [.ref 0, .int a1] H (gRi (fun v H' => gI SM H' ∧ JN H' ∧ (0 ≤ v.toInt ∧ v.toInt ≤ 1) ∧ fZ H' 0 2 = fZ H 0 2 ∧ kpM H H')) := by
  obtain ⟨k0_2, ek0_2⟩ : ∃ z, z = fZ H 0 2 := ⟨_, rfl⟩
  have ik0_2 : k0_2.toInt = (fZ H 0 2).toInt := by rw [← ek0_2]
  have bk0_2 : 0 ≤ k0_2.toInt ∧ k0_2.toInt ≤ 900 := by rw [ek0_2]; exact fZ_of hI sm_0 rfl
  have mkfr : kpM H H := kpM_r
  refine gG_call [(0, .ref 0), (1, .int a1)] ⟨rfl, rfl, trivial⟩ ?_
  show gG 2 zB_230 (mzBlk zB_230 0) [(0, .ref 0), (1, .int a1)] [] H 0 0 _
  refine g_aload_n rfl ?_
  refine g_invvv hI sm_0 rfl rfl rfl rfl (s_200 H hI hJ) (fun H53 r54 => ?_)
  obtain ⟨hIH53, hJH53, w55, w56, m57, m58, p59⟩ := r54
  have e60 : k0_2 = fZ H53 0 2 := ek0_2.trans w55.symm
  have m61 : kpM H H53 := kpM_t mkfr m58
  refine g_aload_n rfl ?_
  refine g_gfr hIH53 sm_0 rfl ?_
  refine g_iload_n rfl ?_
  refine g_iaload hIH53 sm_20 rfl (by first | with_reducible assumption | omega) (fun v62 ev62 lv62 uv62 => ?_)
  refine g_if_eq (fun c63 => ?_) (fun c63 => ?_)
  · refine g_iconst (by decide) (fun v64 kv64 => ?_)
    refine g_nop ?_
    exact g_zret (by first | with_reducible assumption | omega) ⟨_, rfl, hIH53, (JM_n hJH53), (by first | with_reducible assumption | omega), (e60.symm.trans ek0_2), m61⟩
  · refine g_iconst (by decide) (fun v65 kv65 => ?_)
    refine g_goto ?_
    exact g_zret (by first | with_reducible assumption | omega) ⟨_, rfl, hIH53, (JM_n hJH53), (by first | with_reducible assumption | omega), (e60.symm.trans ek0_2), m61⟩
