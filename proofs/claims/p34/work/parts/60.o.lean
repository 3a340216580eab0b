set_option maxRecDepth 4000 in
set_option maxHeartbeats 4000000 in
/-- M.message -/
theorem s_202 (a1 : Int32) (a2 : Int32) (H : mzH) (hI : gI SM H) (hJ : JN H) : gCall 202 [.ref 0, .int a1, .int a2] H (gRi (fun v H' => gI SM H' ∧ JN H' ∧ fZ H' 0 2 = fZ H 0 2 ∧ kpM H H')) := by
  obtain ⟨k0_2, ek0_2⟩ : ∃ z, z = fZ H 0 2 := ⟨_, rfl⟩
  have ik0_2 : k0_2.toInt = (fZ H 0 2).toInt := by rw [← ek0_2]
  have bk0_2 : 0 ≤ k0_2.toInt ∧ k0_2.toInt ≤ 900 := by rw [ek0_2]; exact fZ_of hI sm_0 rfl
  have mkfr : kpM H H := kpM_r
  refine gG_call [(0, .ref 0), (1, .int a1), (2, .int a2)] ⟨rfl, rfl, rfl, trivial⟩ ?_
  show gG 3 zB_202 (mzBlk zB_202 0) [(0, .ref 0), (1, .int a1), (2, .int a2)] [] H 0 0 _
  refine g_aload_n rfl ?_
  refine g_iconst (by decide) (fun v241 kv241 => ?_)
  refine g_pfi hI sm_0 rfl (gz_any _) (fun H242 eH242 hIH242 => ?_)
  have hJH242 : JN H242 := JN_sF eH242 hJ
  have e243 : k0_2 = fZ H242 0 2 := by rw [eH242, fZ_sF_ne (by decide)]; exact ek0_2
  have m244 : kpM H H242 := kpM_F mkfr eH242 (by first | with_reducible assumption | omega)
  refine g_iload_n rfl ?_
  refine g_if_lt (fun c245 => ?_) (fun c245 => ?_)
  · refine g_aload_n rfl ?_
    refine g_iconst (by decide) (fun v246 kv246 => ?_)
    refine g_pfi hIH242 sm_0 rfl (gz_any _) (fun H247 eH247 hIH247 => ?_)
    have hJH247 : JN H247 := JN_sF eH247 hJH242
    have e248 : k0_2 = fZ H247 0 2 := by rw [eH247, fZ_sF_ne (by decide)]; exact e243
    have m249 : kpM H H247 := kpM_F m244 eH247 (by first | with_reducible assumption | omega)
    refine g_iconst (by decide) (fun v250 kv250 => ?_)
    exact g_iret ⟨_, rfl, hIH247, hJH247, (e248.symm.trans ek0_2), m249⟩
  · refine g_iload_n rfl ?_
    refine g_aload_n rfl ?_
    refine g_invvi hIH242 sm_0 rfl rfl rfl rfl (s_180 H242 hIH242 hJH242) (fun v253 H251 r252 => ?_)
    obtain ⟨rfl, bv253, p254⟩ := r252
    refine g_if2_lt (fun c255 => ?_) (fun c255 => ?_)
    · refine g_aload_n rfl ?_
      refine g_invvv hIH242 sm_0 rfl rfl rfl rfl (s_199 H242 hIH242 hJH242) (fun H256 r257 => ?_)
      obtain ⟨hIH256, hJH256, w258, m259, m260, p261⟩ := r257
      have e262 : k0_2 = fZ H256 0 2 := e243.trans w258.symm
      have m263 : kpM H H256 := kpM_t m244 m260
      refine g_iload_n rfl ?_
      refine g_sw (by decide) (fun c264 => ?_) ⟨fun c264 => ?_, fun c264 => ?_, fun c264 => ?_, fun c264 => ?_, fun c264 => ?_, fun c264 => ?_, fun c264 => ?_, trivial⟩
      · refine g_aload_n rfl ?_
        refine g_iconst (by decide) (fun v265 kv265 => ?_)
        refine g_pfi hIH256 sm_0 rfl (gz_any _) (fun H266 eH266 hIH266 => ?_)
        have hJH266 : JM H266 := JM_sF eH266 hJH256
        have e267 : k0_2 = fZ H266 0 2 := by rw [eH266, fZ_sF_ne (by decide)]; exact e262
        have m268 : kpM H H266 := kpM_F m263 eH266 (by first | with_reducible assumption | omega)
        refine g_iconst (by decide) (fun v269 kv269 => ?_)
        exact g_iret ⟨_, rfl, hIH266, (JM_n hJH266), (e267.symm.trans ek0_2), m268⟩
      · refine g_aload_n rfl ?_
        refine g_iload_n rfl ?_
        refine g_iload_n rfl ?_
        refine g_invvi hIH256 sm_0 rfl rfl rfl rfl (s_181 a1 (by first | with_reducible assumption | omega) a2 (by first | with_reducible assumption | omega) H256 hIH256 (JM_n hJH256)) (fun v272 H270 r271 => ?_)
        obtain ⟨rfl, p273⟩ := r271
        exact g_iret ⟨_, rfl, hIH256, (JM_n hJH256), (e262.symm.trans ek0_2), m263⟩
      · refine g_aload_n rfl ?_
        refine g_iload_n rfl ?_
        refine g_iload_n rfl ?_
        refine g_invvi hIH256 sm_0 rfl rfl rfl rfl (s_181 a1 (by first | with_reducible assumption | omega) a2 (by first | with_reducible assumption | omega) H256 hIH256 (JM_n hJH256)) (fun v276 H274 r275 => ?_)
        obtain ⟨rfl, p277⟩ := r275
        exact g_iret ⟨_, rfl, hIH256, (JM_n hJH256), (e262.symm.trans ek0_2), m263⟩
      · refine g_aload_n rfl ?_
        refine g_iload_n rfl ?_
        refine g_iload_n rfl ?_
        refine g_invvi hIH256 sm_0 rfl rfl rfl rfl (s_181 a1 (by first | with_reducible assumption | omega) a2 (by first | with_reducible assumption | omega) H256 hIH256 (JM_n hJH256)) (fun v280 H278 r279 => ?_)
        obtain ⟨rfl, p281⟩ := r279
        exact g_iret ⟨_, rfl, hIH256, (JM_n hJH256), (e262.symm.trans ek0_2), m263⟩
      · refine g_aload_n rfl ?_
        refine g_iload_n rfl ?_
        refine g_iload_n rfl ?_
        refine g_invvi hIH256 sm_0 rfl rfl rfl rfl (s_181 a1 (by first | with_reducible assumption | omega) a2 (by first | with_reducible assumption | omega) H256 hIH256 (JM_n hJH256)) (fun v284 H282 r283 => ?_)
        obtain ⟨rfl, p285⟩ := r283
        exact g_iret ⟨_, rfl, hIH256, (JM_n hJH256), (e262.symm.trans ek0_2), m263⟩
      · refine g_aload_n rfl ?_
        refine g_gfr hIH256 sm_0 rfl ?_
        refine g_iload_n rfl ?_
        refine g_iaload hIH256 sm_20 rfl (by first | with_reducible assumption | omega) (fun v286 ev286 lv286 uv286 => ?_)
        exact g_iret ⟨_, rfl, hIH256, (JM_n hJH256), (e262.symm.trans ek0_2), m263⟩
      · refine g_aload_n rfl ?_
        refine g_iload_n rfl ?_
        refine g_invvi hIH256 sm_0 rfl rfl rfl rfl (s_203 a1 (by first | with_reducible assumption | omega) H256 hIH256 (JM_n hJH256) (by obtain ⟨p, hp, e⟩ := p261 a1.toInt.toNat (by rw [m259 2]; omega); exact ⟨p, hp, by omega⟩)) (fun v289 H287 r288 => ?_)
        obtain rfl := r288
        exact g_iret ⟨_, rfl, hIH256, (JM_n hJH256), (e262.symm.trans ek0_2), m263⟩
      · refine g_aload_n rfl ?_
        refine g_iload_n rfl ?_
        refine g_invvi hIH256 sm_0 rfl rfl rfl rfl (s_204 a1 (by first | with_reducible assumption | omega) H256 hIH256 (JM_n hJH256)) (fun v292 H290 r291 => ?_)
        obtain ⟨rfl, bv292⟩ := r291
        refine g_if_eq (fun c293 => ?_) (fun c293 => ?_)
        · refine g_iconst (by decide) (fun v294 kv294 => ?_)
          refine g_nop ?_
          exact g_iret ⟨_, rfl, hIH256, (JM_n hJH256), (e262.symm.trans ek0_2), m263⟩
        · refine g_iconst (by decide) (fun v295 kv295 => ?_)
          refine g_goto ?_
          exact g_iret ⟨_, rfl, hIH256, (JM_n hJH256), (e262.symm.trans ek0_2), m263⟩
    · refine g_nop ?_
      refine g_aload_n rfl ?_
      refine g_iconst (by decide) (fun v296 kv296 => ?_)
      refine g_pfi hIH242 sm_0 rfl (gz_any _) (fun H297 eH297 hIH297 => ?_)
      have hJH297 : JN H297 := JN_sF eH297 hJH242
      have e298 : k0_2 = fZ H297 0 2 := by rw [eH297, fZ_sF_ne (by decide)]; exact e243
      have m299 : kpM H H297 := kpM_F m244 eH297 (by first | with_reducible assumption | omega)
      refine g_iconst (by decide) (fun v300 kv300 => ?_)
      exact g_iret ⟨_, rfl, hIH297, hJH297, (e298.symm.trans ek0_2), m299⟩
set_option maxRecDepth 4000 in
set_option maxHeartbeats 4000000 in
/-- M.isThing -/
theorem s_205 (a0 : Int32) (H : mzH) (hI : gI SM H) (hJ : JN H) : gCall 205 [.int a0] H (gRi (fun v H' => H = H' ∧ (0 ≤ v.toInt ∧ v.toInt ≤ 1) ∧ (v.toInt = 0 ∨ (0 ≤ a0.toInt ∧ a0.toInt ≤ 39)))) := by
  refine gG_call [(0, .int a0)] ⟨rfl, trivial⟩ ?_
  show gG 1 zB_205 (mzBlk zB_205 0) [(0, .int a0)] [] H 0 0 _
  refine g_iload_n rfl ?_
  refine g_if_lt (fun c25 => ?_) (fun c25 => ?_)
  · refine g_iconst (by decide) (fun v26 kv26 => ?_)
    refine g_nop ?_
    exact g_zret (by first | with_reducible assumption | omega) ⟨_, rfl, rfl, (by first | with_reducible assumption | omega), (by first | with_reducible assumption | omega)⟩
  · refine g_iload_n rfl ?_
    refine g_bipush (by decide) (fun v27 kv27 => ?_)
    refine g_if2_ge (fun c28 => ?_) (fun c28 => ?_)
    · refine g_iconst (by decide) (fun v29 kv29 => ?_)
      refine g_nop ?_
      exact g_zret (by first | with_reducible assumption | omega) ⟨_, rfl, rfl, (by first | with_reducible assumption | omega), (by first | with_reducible assumption | omega)⟩
    · refine g_iconst (by decide) (fun v30 kv30 => ?_)
      refine g_goto ?_
      exact g_zret (by first | with_reducible assumption | omega) ⟨_, rfl, rfl, (by first | with_reducible assumption | omega), (by first | with_reducible assumption | omega)⟩
set_option maxRecDepth 4000 in
set_option maxHeartbeats 4000000 in
/-- M.isHour -/
theorem s_206 (a0 : Int32) (H : mzH) (hI : gI SM H) (hJ : JN H) : gCall 206 [.int a0] H (gRi (fun v H' => H = H' ∧ (0 ≤ v.toInt ∧ v.toInt ≤ 1))) := by
  refine gG_call [(0, .int a0)] ⟨rfl, trivial⟩ ?_
  show gG 1 zB_206 (mzBlk zB_206 0) [(0, .int a0)] [] H 0 0 _
  refine g_iload_n rfl ?_
  refine g_if_lt (fun c25 => ?_) (fun c25 => ?_)
  · refine g_iconst (by decide) (fun v26 kv26 => ?_)
    refine g_nop ?_
    exact g_zret (by first | with_reducible assumption | omega) ⟨_, rfl, rfl, (by first | with_reducible assumption | omega)⟩
  · refine g_iload_n rfl ?_
    refine g_sipush (by decide) (fun v27 kv27 => ?_)
    refine g_if2_gt (fun c28 => ?_) (fun c28 => ?_)
    · refine g_iconst (by decide) (fun v29 kv29 => ?_)
      refine g_nop ?_
      exact g_zret (by first | with_reducible assumption | omega) ⟨_, rfl, rfl, (by first | with_reducible assumption | omega)⟩
    · refine g_iconst (by decide) (fun v30 kv30 => ?_)
      refine g_goto ?_
      exact g_zret (by first | with_reducible assumption | omega) ⟨_, rfl, rfl, (by first | with_reducible assumption | omega)⟩
set_option maxRecDepth 4000 in
set_option maxHeartbeats 4000000 in
/-- M.allIn -/
theorem s_207 (a1 : Int32) (H : mzH) (hI : gI SM H) (hJ : JM H) : gCall 207 [.ref 0, .int a1] H (gRi (fun v H' => H = H')) := by
  refine gG_call [(0, .ref 0), (1, .int a1)] ⟨rfl, rfl, trivial⟩ ?_
  show gG 4 zB_207 (mzBlk zB_207 0) [(0, .ref 0), (1, .int a1)] [] H 0 0 _
  refine g_iconst (by decide) (fun v459 kv459 => ?_)
  refine g_istore_n (l' := [(0, .ref 0), (1, .int a1), (2, .int v459)]) rfl rfl ?_
  refine g_iconst (by decide) (fun v460 kv460 => ?_)
  refine g_istore_n (l' := [(0, .ref 0), (1, .int a1), (2, .int v459), (3, .int v460)]) rfl rfl ?_
  refine g_nop ?_
  have L463 : ∀ (N : Nat) (v461 : Int32) (v462 : Int32), (0 ≤ v462.toInt ∧ v462.toInt ≤ 40) → (40 - v462.toInt).toNat < N → gG 4 zB_207 (mzBlk zB_207 1) [(0, .ref 0), (1, .int a1), (2, .int v461), (3, .int v462)] [] H 0 0 (gRi (fun v H' => H = H')) := by
    intro N
    induction N with
    | zero => intro v461 v462 bv462 hmL463; exact absurd hmL463 (Nat.not_lt_zero _)
    | succ N ihL463 =>
      intro v461 v462 bv462 hmL463
      refine g_iload_n rfl ?_
      refine g_bipush (by decide) (fun v464 kv464 => ?_)
      refine g_if2_ge (fun c465 => ?_) (fun c465 => ?_)
      · refine g_iload_n rfl ?_
        exact g_iret ⟨_, rfl, rfl⟩
      · refine g_iload_n rfl ?_
        refine g_aload_n rfl ?_
        refine g_iload_n rfl ?_
        refine g_iload_n rfl ?_
        refine g_invvi hI sm_0 rfl rfl rfl rfl (s_186 v462 (by first | with_reducible assumption | omega) a1 H hI hJ) (fun v468 H466 r467 => ?_)
        obtain ⟨rfl, bv468⟩ := r467
        refine g_if_eq (fun c469 => ?_) (fun c469 => ?_)
        · refine g_iconst (by decide) (fun v470 kv470 => ?_)
          refine g_nop ?_
          refine g_iadd (by have := gz_any v461; omega) (fun v471 ev471 => ?_)
          refine g_istore_n (l' := [(0, .ref 0), (1, .int a1), (2, .int v471), (3, .int v462)]) rfl rfl ?_
          refine g_iinc (l' := (fun v472 => [(0, .ref 0), (1, .int a1), (2, .int v471), (3, .int v472)])) rfl rfl (by decide) (by first | with_reducible assumption | omega) (fun _ => rfl) (fun v472 ev472 => ?_)
          refine g_goto ?_
          exact ihL463 v471 v472 (by first | with_reducible assumption | omega) (by first | with_reducible assumption | omega)
        · refine g_iconst (by decide) (fun v473 kv473 => ?_)
          refine g_goto ?_
          refine g_iadd' (fun v474 ov474 => ?_)
          refine g_istore_n (l' := [(0, .ref 0), (1, .int a1), (2, .int v474), (3, .int v462)]) rfl rfl ?_
          refine g_iinc (l' := (fun v475 => [(0, .ref 0), (1, .int a1), (2, .int v474), (3, .int v475)])) rfl rfl (by decide) (by first | with_reducible assumption | omega) (fun _ => rfl) (fun v475 ev475 => ?_)
          refine g_goto ?_
          exact ihL463 v474 v475 (by first | with_reducible assumption | omega) (by first | with_reducible assumption | omega)
  exact L463 _ v459 v460 (by first | with_reducible assumption | omega) (Nat.lt_succ_self _)
set_option maxRecDepth 4000 in
set_option maxHeartbeats 4000000 in
/-- M.thing -/
theorem s_208 (a1 : Int32) (a2 : Int32) (a3 : Int32) (H : mzH) (hI : gI SM H) (hJ : JN H) : gCall 208 [.ref 0, .int a1, .int a2, .int a3] H (gRi (fun v H' => gI SM H' ∧ JN H' ∧ fZ H' 0 2 = fZ H 0 2 ∧ kpM H H')) := by
  obtain ⟨k0_2, ek0_2⟩ : ∃ z, z = fZ H 0 2 := ⟨_, rfl⟩
  have ik0_2 : k0_2.toInt = (fZ H 0 2).toInt := by rw [← ek0_2]
  have bk0_2 : 0 ≤ k0_2.toInt ∧ k0_2.toInt ≤ 900 := by rw [ek0_2]; exact fZ_of hI sm_0 rfl
  have mkfr : kpM H H := kpM_r
  refine gG_call [(0, .ref 0), (1, .int a1), (2, .int a2), (3, .int a3)] ⟨rfl, rfl, rfl, rfl, trivial⟩ ?_
  show gG 4 zB_208 (mzBlk zB_208 0) [(0, .ref 0), (1, .int a1), (2, .int a2), (3, .int a3)] [] H 0 0 _
  refine g_aload_n rfl ?_
  refine g_iconst (by decide) (fun v241 kv241 => ?_)
  refine g_pfi hI sm_0 rfl (gz_any _) (fun H242 eH242 hIH242 => ?_)
  have hJH242 : JN H242 := JN_sF eH242 hJ
  have e243 : k0_2 = fZ H242 0 2 := by rw [eH242, fZ_sF_ne (by decide)]; exact ek0_2
  have m244 : kpM H H242 := kpM_F mkfr eH242 (by first | with_reducible assumption | omega)
  refine g_iload_n rfl ?_
  refine g_invti rfl rfl rfl (s_205 a1 H242 hIH242 hJH242) (fun v247 H245 r246 => ?_)
  obtain ⟨rfl, bv247, p248⟩ := r246
  refine g_if_eq (fun c249 => ?_) (fun c249 => ?_)
  · refine g_iconst (by decide) (fun v250 kv250 => ?_)
    exact g_iret ⟨_, rfl, hIH242, hJH242, (e243.symm.trans ek0_2), m244⟩
  · refine g_iload_n rfl ?_
    refine g_invti rfl rfl rfl (s_206 a2 H242 hIH242 hJH242) (fun v253 H251 r252 => ?_)
    obtain ⟨rfl, bv253⟩ := r252
    refine g_if_eq (fun c254 => ?_) (fun c254 => ?_)
    · refine g_iconst (by decide) (fun v255 kv255 => ?_)
      exact g_iret ⟨_, rfl, hIH242, hJH242, (e243.symm.trans ek0_2), m244⟩
    · refine g_iload_n rfl ?_
      refine g_if_lt (fun c256 => ?_) (fun c256 => ?_)
      · refine g_iconst (by decide) (fun v257 kv257 => ?_)
        exact g_iret ⟨_, rfl, hIH242, hJH242, (e243.symm.trans ek0_2), m244⟩
      · refine g_iload_n rfl ?_
        refine g_bipush (by decide) (fun v258 kv258 => ?_)
        refine g_if2_le (fun c259 => ?_) (fun c259 => ?_)
        · refine g_aload_n rfl ?_
          refine g_iload_n rfl ?_
          refine g_invvv hIH242 sm_0 rfl rfl rfl rfl (s_200 a2 H242 hIH242 hJH242) (fun H260 r261 => ?_)
          obtain ⟨hIH260, hJH260, w262, m263⟩ := r261
          have e264 : k0_2 = fZ H260 0 2 := e243.trans w262.symm
          have m265 : kpM H H260 := kpM_t m244 m263
          refine g_aload_n rfl ?_
          refine g_gfr hIH260 sm_0 rfl ?_
          refine g_iload_n rfl ?_
          refine g_baload hIH260 sm_7 rfl (by first | with_reducible assumption | omega) (fun v266 ev266 lv266 uv266 => ?_)
          refine g_if_ne (fun c267 => ?_) (fun c267 => ?_)
          · refine g_aload_n rfl ?_
            refine g_gfr hIH260 sm_0 rfl ?_
            refine g_iload_n rfl ?_
            refine g_baload hIH260 sm_16 rfl (by first | with_reducible assumption | omega) (fun v268 ev268 lv268 uv268 => ?_)
            refine g_if_eq (fun c269 => ?_) (fun c269 => ?_)
            · refine g_iload_n rfl ?_
              refine g_sw (by decide) (fun c270 => ?_) ⟨fun c270 => ?_, fun c270 => ?_, fun c270 => ?_, fun c270 => ?_, fun c270 => ?_, fun c270 => ?_, fun c270 => ?_, fun c270 => ?_, fun c270 => ?_, trivial⟩
              · refine g_aload_n rfl ?_
                refine g_iload_n rfl ?_
                refine g_invvi hIH260 sm_0 rfl rfl rfl rfl (s_207 a1 H260 hIH260 hJH260) (fun v273 H271 r272 => ?_)
                obtain rfl := r272
                exact g_iret ⟨_, rfl, hIH260, (JM_n hJH260), (e264.symm.trans ek0_2), m265⟩
              · refine g_aload_n rfl ?_
                refine g_gfr hIH260 sm_0 rfl ?_
                refine g_iload_n rfl ?_
                refine g_iaload hIH260 sm_8 rfl (by first | with_reducible assumption | omega) (fun v274 ev274 lv274 uv274 => ?_)
                exact g_iret ⟨_, rfl, hIH260, (JM_n hJH260), (e264.symm.trans ek0_2), m265⟩
              · refine g_aload_n rfl ?_
                refine g_gfr hIH260 sm_0 rfl ?_
                refine g_iload_n rfl ?_
                refine g_iaload hIH260 sm_9 rfl (by first | with_reducible assumption | omega) (fun v275 ev275 lv275 uv275 => ?_)
                have qv275 := JM_in hJH260 (by first | with_reducible assumption | omega) ev275
                exact g_iret ⟨_, rfl, hIH260, (JM_n hJH260), (e264.symm.trans ek0_2), m265⟩
              · refine g_aload_n rfl ?_
                refine g_iload_n rfl ?_
                refine g_invvi hIH260 sm_0 rfl rfl rfl rfl (s_185 a1 (by first | with_reducible assumption | omega) H260 hIH260 hJH260) (fun v278 H276 r277 => ?_)
                obtain ⟨rfl, bv278⟩ := r277
                exact g_iret ⟨_, rfl, hIH260, (JM_n hJH260), (e264.symm.trans ek0_2), m265⟩
              · refine g_aload_n rfl ?_
                refine g_iload_n rfl ?_
                refine g_invvi hIH260 sm_0 rfl rfl rfl rfl (s_201 a1 (by first | with_reducible assumption | omega) H260 hIH260 hJH260) (fun v281 H279 r280 => ?_)
                obtain ⟨rfl, bv281⟩ := r280
                exact g_iret ⟨_, rfl, hIH260, (JM_n hJH260), (e264.symm.trans ek0_2), m265⟩
              · refine g_aload_n rfl ?_
                refine g_gfr hIH260 sm_0 rfl ?_
                refine g_iload_n rfl ?_
                refine g_baload hIH260 sm_13 rfl (by first | with_reducible assumption | omega) (fun v282 ev282 lv282 uv282 => ?_)
                refine g_if_eq (fun c283 => ?_) (fun c283 => ?_)
                · refine g_iconst (by decide) (fun v284 kv284 => ?_)
                  refine g_nop ?_
                  exact g_iret ⟨_, rfl, hIH260, (JM_n hJH260), (e264.symm.trans ek0_2), m265⟩
                · refine g_iconst (by decide) (fun v285 kv285 => ?_)
                  refine g_goto ?_
                  exact g_iret ⟨_, rfl, hIH260, (JM_n hJH260), (e264.symm.trans ek0_2), m265⟩
              · refine g_aload_n rfl ?_
                refine g_gfr hIH260 sm_0 rfl ?_
                refine g_iload_n rfl ?_
                refine g_baload hIH260 sm_14 rfl (by first | with_reducible assumption | omega) (fun v286 ev286 lv286 uv286 => ?_)
                refine g_if_eq (fun c287 => ?_) (fun c287 => ?_)
                · refine g_iconst (by decide) (fun v288 kv288 => ?_)
                  refine g_nop ?_
                  exact g_iret ⟨_, rfl, hIH260, (JM_n hJH260), (e264.symm.trans ek0_2), m265⟩
                · refine g_iconst (by decide) (fun v289 kv289 => ?_)
                  refine g_goto ?_
                  exact g_iret ⟨_, rfl, hIH260, (JM_n hJH260), (e264.symm.trans ek0_2), m265⟩
              · refine g_aload_n rfl ?_
                refine g_gfr hIH260 sm_0 rfl ?_
                refine g_iload_n rfl ?_
                refine g_iaload hIH260 sm_12 rfl (by first | with_reducible assumption | omega) (fun v290 ev290 lv290 uv290 => ?_)
                exact g_iret ⟨_, rfl, hIH260, (JM_n hJH260), (e264.symm.trans ek0_2), m265⟩
              · refine g_aload_n rfl ?_
                refine g_gfr hIH260 sm_0 rfl ?_
                refine g_aload_n rfl ?_
                refine g_iload_n rfl ?_
                refine g_invvi hIH260 sm_0 rfl rfl rfl rfl (s_185 a1 (by first | with_reducible assumption | omega) H260 hIH260 hJH260) (fun v293 H291 r292 => ?_)
                obtain ⟨rfl, bv293⟩ := r292
                refine g_iaload hIH260 sm_11 rfl (by first | with_reducible assumption | omega) (fun v294 ev294 lv294 uv294 => ?_)
                exact g_iret ⟨_, rfl, hIH260, (JM_n hJH260), (e264.symm.trans ek0_2), m265⟩
              · refine g_aload_n rfl ?_
                refine g_iload_n rfl ?_
                refine g_invvi hIH260 sm_0 rfl rfl rfl rfl (s_188 a1 H260 hIH260 (JM_n hJH260)) (fun v297 H295 r296 => ?_)
                obtain rfl := r296
                exact g_iret ⟨_, rfl, hIH260, (JM_n hJH260), (e264.symm.trans ek0_2), m265⟩
            · refine g_bipush (by decide) (fun v298 kv298 => ?_)
              exact g_iret ⟨_, rfl, hIH260, (JM_n hJH260), (e264.symm.trans ek0_2), m265⟩
          · refine g_bipush (by decide) (fun v299 kv299 => ?_)
            exact g_iret ⟨_, rfl, hIH260, (JM_n hJH260), (e264.symm.trans ek0_2), m265⟩
        · refine g_nop ?_
          refine g_iconst (by decide) (fun v300 kv300 => ?_)
          exact g_iret ⟨_, rfl, hIH242, hJH242, (e243.symm.trans ek0_2), m244⟩
set_option maxRecDepth 4000 in
set_option maxHeartbeats 4000000 in
/-- M.inside -/
theorem s_209 (a1 : Int32) (a2 : Int32) (a3 : Int32) (H : mzH) (hI : gI SM H) (hJ : JN H) : gCall 209 [.ref 0, .int a1, .int a2, .int a3] H (gRi (fun v H' => gI SM H' ∧ JN H' ∧ fZ H' 0 2 = fZ H 0 2 ∧ kpM H H')) := by
  obtain ⟨k0_2, ek0_2⟩ : ∃ z, z = fZ H 0 2 := ⟨_, rfl⟩
  have ik0_2 : k0_2.toInt = (fZ H 0 2).toInt := by rw [← ek0_2]
  have bk0_2 : 0 ≤ k0_2.toInt ∧ k0_2.toInt ≤ 900 := by rw [ek0_2]; exact fZ_of hI sm_0 rfl
  have mkfr : kpM H H := kpM_r
  refine gG_call [(0, .ref 0), (1, .int a1), (2, .int a2), (3, .int a3)] ⟨rfl, rfl, rfl, rfl, trivial⟩ ?_
  show gG 6 zB_209 (mzBlk zB_209 0) [(0, .ref 0), (1, .int a1), (2, .int a2), (3, .int a3)] [] H 0 0 _
  refine g_aload_n rfl ?_
  refine g_iconst (by decide) (fun v281 kv281 => ?_)
  refine g_pfi hI sm_0 rfl (gz_any _) (fun H282 eH282 hIH282 => ?_)
  have hJH282 : JN H282 := JN_sF eH282 hJ
  have e283 : k0_2 = fZ H282 0 2 := by rw [eH282, fZ_sF_ne (by decide)]; exact ek0_2
  have m284 : kpM H H282 := kpM_F mkfr eH282 (by first | with_reducible assumption | omega)
  refine g_iload_n rfl ?_
  refine g_invti rfl rfl rfl (s_205 a1 H282 hIH282 hJH282) (fun v287 H285 r286 => ?_)
  obtain ⟨rfl, bv287, p288⟩ := r286
  refine g_if_eq (fun c289 => ?_) (fun c289 => ?_)
  · refine g_iconst (by decide) (fun v290 kv290 => ?_)
    exact g_iret ⟨_, rfl, hIH282, hJH282, (e283.symm.trans ek0_2), m284⟩
  · refine g_iload_n rfl ?_
    refine g_invti rfl rfl rfl (s_206 a2 H282 hIH282 hJH282) (fun v293 H291 r292 => ?_)
    obtain ⟨rfl, bv293⟩ := r292
    refine g_if_eq (fun c294 => ?_) (fun c294 => ?_)
    · refine g_iconst (by decide) (fun v295 kv295 => ?_)
      exact g_iret ⟨_, rfl, hIH282, hJH282, (e283.symm.trans ek0_2), m284⟩
    · refine g_iload_n rfl ?_
      refine g_if_ge (fun c296 => ?_) (fun c296 => ?_)
      · refine g_aload_n rfl ?_
        refine g_iload_n rfl ?_
        refine g_invvv hIH282 sm_0 rfl rfl rfl rfl (s_200 a2 H282 hIH282 hJH282) (fun H297 r298 => ?_)
        obtain ⟨hIH297, hJH297, w299, m300⟩ := r298
        have e301 : k0_2 = fZ H297 0 2 := e283.trans w299.symm
        have m302 : kpM H H297 := kpM_t m284 m300
        refine g_iload_n rfl ?_
        refine g_istore (l' := [(0, .ref 0), (1, .int a1), (2, .int a2), (3, .int a3), (4, .int a3)]) rfl rfl ?_
        refine g_iconst (by decide) (fun v303 kv303 => ?_)
        refine g_istore (l' := [(0, .ref 0), (1, .int a1), (2, .int a2), (3, .int a3), (4, .int a3), (5, .int v303)]) rfl rfl ?_
        refine g_nop ?_
        have L306 : ∀ (N : Nat) (v304 : Int32) (v305 : Int32), (0 ≤ v304.toInt ∧ v304.toInt ≤ 2147483647) → (0 ≤ v305.toInt ∧ v305.toInt ≤ 40) → (40 - v305.toInt).toNat < N → gG 6 zB_209 (mzBlk zB_209 3) [(0, .ref 0), (1, .int a1), (2, .int a2), (3, .int a3), (4, .int v304), (5, .int v305)] [] H297 0 0 (gRi (fun v H' => gI SM H' ∧ JN H' ∧ fZ H' 0 2 = fZ H 0 2 ∧ kpM H H')) := by
          intro N
          induction N with
          | zero => intro v304 v305 bv304 bv305 hmL306; exact absurd hmL306 (Nat.not_lt_zero _)
          | succ N ihL306 =>
            intro v304 v305 bv304 bv305 hmL306
            refine g_iload rfl ?_
            refine g_bipush (by decide) (fun v307 kv307 => ?_)
            refine g_if2_ge (fun c308 => ?_) (fun c308 => ?_)
            · refine g_bipush (by decide) (fun v309 kv309 => ?_)
              exact g_iret ⟨_, rfl, hIH297, (JM_n hJH297), (e301.symm.trans ek0_2), m302⟩
            · refine g_aload_n rfl ?_
              refine g_iload rfl ?_
              refine g_iload_n rfl ?_
              refine g_invvi hIH297 sm_0 rfl rfl rfl rfl (s_186 v305 (by first | with_reducible assumption | omega) a1 H297 hIH297 hJH297) (fun v312 H310 r311 => ?_)
              obtain ⟨rfl, bv312⟩ := r311
              refine g_if_ne (fun c313 => ?_) (fun c313 => ?_)
              · refine g_iload rfl ?_
                refine g_if_ne (fun c314 => ?_) (fun c314 => ?_)
                · refine g_iinc (l' := (fun v315 => [(0, .ref 0), (1, .int a1), (2, .int a2), (3, .int a3), (4, .int v315), (5, .int v305)])) rfl rfl (by decide) (by have := gz_any v304; omega) (fun _ => rfl) (fun v315 ev315 => ?_)
                  refine g_nop ?_
                  refine g_iinc (l' := (fun v316 => [(0, .ref 0), (1, .int a1), (2, .int a2), (3, .int a3), (4, .int v315), (5, .int v316)])) rfl rfl (by decide) (by first | with_reducible assumption | omega) (fun _ => rfl) (fun v316 ev316 => ?_)
                  refine g_goto ?_
                  exact ihL306 v315 v316 (by have := gz_any v315; omega) (by first | with_reducible assumption | omega) (by first | with_reducible assumption | omega)
                · refine g_iload rfl ?_
                  exact g_iret ⟨_, rfl, hIH297, (JM_n hJH297), (e301.symm.trans ek0_2), m302⟩
              · refine g_goto ?_
                refine g_iinc (l' := (fun v317 => [(0, .ref 0), (1, .int a1), (2, .int a2), (3, .int a3), (4, .int v304), (5, .int v317)])) rfl rfl (by decide) (by first | with_reducible assumption | omega) (fun _ => rfl) (fun v317 ev317 => ?_)
                refine g_goto ?_
                exact ihL306 v304 v317 (by have := gz_any v304; omega) (by first | with_reducible assumption | omega) (by first | with_reducible assumption | omega)
        exact L306 _ a3 v303 (by have := gz_any a3; omega) (by first | with_reducible assumption | omega) (Nat.lt_succ_self _)
      · refine g_nop ?_
        refine g_iconst (by decide) (fun v318 kv318 => ?_)
        exact g_iret ⟨_, rfl, hIH282, hJH282, (e283.symm.trans ek0_2), m284⟩
set_option maxRecDepth 4000 in
set_option maxHeartbeats 4000000 in
/-- M.there -/
theorem s_211 (a1 : Int32) (a2 : Int32) (a3 : Int32) (H : mzH) (hI : gI SM H) (hJ : JN H) : gCall 211 [.ref 0, .int a1, .int a2, .int a3] H (gRi (fun v H' => gI SM H' ∧ JN H' ∧ fZ H' 0 2 = fZ H 0 2 ∧ kpM H H')) := by
  obtain ⟨k0_2, ek0_2⟩ : ∃ z, z = fZ H 0 2 := ⟨_, rfl⟩
  have ik0_2 : k0_2.toInt = (fZ H 0 2).toInt := by rw [← ek0_2]
  have bk0_2 : 0 ≤ k0_2.toInt ∧ k0_2.toInt ≤ 900 := by rw [ek0_2]; exact fZ_of hI sm_0 rfl
  have mkfr : kpM H H := kpM_r
  refine gG_call [(0, .ref 0), (1, .int a1), (2, .int a2), (3, .int a3)] ⟨rfl, rfl, rfl, rfl, trivial⟩ ?_
  show gG 6 zB_211 (mzBlk zB_211 0) [(0, .ref 0), (1, .int a1), (2, .int a2), (3, .int a3)] [] H 0 0 _
  refine g_aload_n rfl ?_
  refine g_iconst (by decide) (fun v409 kv409 => ?_)
  refine g_pfi hI sm_0 rfl (gz_any _) (fun H410 eH410 hIH410 => ?_)
  have hJH410 : JN H410 := JN_sF eH410 hJ
  have e411 : k0_2 = fZ H410 0 2 := by rw [eH410, fZ_sF_ne (by decide)]; exact ek0_2
  have m412 : kpM H H410 := kpM_F mkfr eH410 (by first | with_reducible assumption | omega)
  refine g_aload_n rfl ?_
  refine g_iload_n rfl ?_
  refine g_invvi hIH410 sm_0 rfl rfl rfl rfl (s_210 a1 H410 hIH410 hJH410) (fun v415 H413 r414 => ?_)
  obtain ⟨rfl, bv415, p416⟩ := r414
  refine g_if_ne (fun c417 => ?_) (fun c417 => ?_)
  · refine g_iload_n rfl ?_
    refine g_invti rfl rfl rfl (s_206 a2 H410 hIH410 hJH410) (fun v420 H418 r419 => ?_)
    obtain ⟨rfl, bv420⟩ := r419
    refine g_if_eq (fun c421 => ?_) (fun c421 => ?_)
    · refine g_iconst (by decide) (fun v422 kv422 => ?_)
      exact g_iret ⟨_, rfl, hIH410, hJH410, (e411.symm.trans ek0_2), m412⟩
    · refine g_iload_n rfl ?_
      refine g_if_ge (fun c423 => ?_) (fun c423 => ?_)
      · refine g_aload_n rfl ?_
        refine g_iload_n rfl ?_
        refine g_invvv hIH410 sm_0 rfl rfl rfl rfl (s_200 a2 H410 hIH410 hJH410) (fun H424 r425 => ?_)
        obtain ⟨hIH424, hJH424, w426, m427⟩ := r425
        have e428 : k0_2 = fZ H424 0 2 := e411.trans w426.symm
        have m429 : kpM H H424 := kpM_t m412 m427
        refine g_iload_n rfl ?_
        refine g_istore (l' := [(0, .ref 0), (1, .int a1), (2, .int a2), (3, .int a3), (4, .int a3)]) rfl rfl ?_
        refine g_iconst (by decide) (fun v430 kv430 => ?_)
        refine g_istore (l' := [(0, .ref 0), (1, .int a1), (2, .int a2), (3, .int a3), (4, .int a3), (5, .int v430)]) rfl rfl ?_
        refine g_nop ?_
        have L433 : ∀ (N : Nat) (v431 : Int32) (v432 : Int32), (0 ≤ v431.toInt ∧ v431.toInt ≤ 2147483647) → (0 ≤ v432.toInt ∧ v432.toInt ≤ 40) → (40 - v432.toInt).toNat < N → gG 6 zB_211 (mzBlk zB_211 4) [(0, .ref 0), (1, .int a1), (2, .int a2), (3, .int a3), (4, .int v431), (5, .int v432)] [] H424 0 0 (gRi (fun v H' => gI SM H' ∧ JN H' ∧ fZ H' 0 2 = fZ H 0 2 ∧ kpM H H')) := by
          intro N
          induction N with
          | zero => intro v431 v432 bv431 bv432 hmL433; exact absurd hmL433 (Nat.not_lt_zero _)
          | succ N ihL433 =>
            intro v431 v432 bv431 bv432 hmL433
            refine g_iload rfl ?_
            refine g_bipush (by decide) (fun v434 kv434 => ?_)
            refine g_if2_ge (fun c435 => ?_) (fun c435 => ?_)
            · refine g_bipush (by decide) (fun v436 kv436 => ?_)
              exact g_iret ⟨_, rfl, hIH424, (JM_n hJH424), (e428.symm.trans ek0_2), m429⟩
            · refine g_aload_n rfl ?_
              refine g_iload rfl ?_
              refine g_invvi hIH424 sm_0 rfl rfl rfl rfl (s_201 v432 (by first | with_reducible assumption | omega) H424 hIH424 hJH424) (fun v439 H437 r438 => ?_)
              obtain ⟨rfl, bv439⟩ := r438
              refine g_iload_n rfl ?_
              refine g_if2_eq (fun c440 => ?_) (fun c440 => ?_)
              · refine g_iload rfl ?_
                refine g_if_ne (fun c441 => ?_) (fun c441 => ?_)
                · refine g_iinc (l' := (fun v442 => [(0, .ref 0), (1, .int a1), (2, .int a2), (3, .int a3), (4, .int v442), (5, .int v432)])) rfl rfl (by decide) (by have := gz_any v431; omega) (fun _ => rfl) (fun v442 ev442 => ?_)
                  refine g_nop ?_
                  refine g_iinc (l' := (fun v443 => [(0, .ref 0), (1, .int a1), (2, .int a2), (3, .int a3), (4, .int v442), (5, .int v443)])) rfl rfl (by decide) (by first | with_reducible assumption | omega) (fun _ => rfl) (fun v443 ev443 => ?_)
                  refine g_goto ?_
                  exact ihL433 v442 v443 (by have := gz_any v442; omega) (by first | with_reducible assumption | omega) (by first | with_reducible assumption | omega)
                · refine g_iload rfl ?_
                  exact g_iret ⟨_, rfl, hIH424, (JM_n hJH424), (e428.symm.trans ek0_2), m429⟩
              · refine g_goto ?_
                refine g_iinc (l' := (fun v444 => [(0, .ref 0), (1, .int a1), (2, .int a2), (3, .int a3), (4, .int v431), (5, .int v444)])) rfl rfl (by decide) (by first | with_reducible assumption | omega) (fun _ => rfl) (fun v444 ev444 => ?_)
                refine g_goto ?_
                exact ihL433 v431 v444 (by have := gz_any v431; omega) (by first | with_reducible assumption | omega) (by first | with_reducible assumption | omega)
        exact L433 _ a3 v430 (by have := gz_any a3; omega) (by first | with_reducible assumption | omega) (Nat.lt_succ_self _)
      · refine g_nop ?_
        refine g_iconst (by decide) (fun v445 kv445 => ?_)
        exact g_iret ⟨_, rfl, hIH410, hJH410, (e411.symm.trans ek0_2), m412⟩
  · refine g_iload_n rfl ?_
    refine g_bipush (by decide) (fun v446 kv446 => ?_)
    refine g_if2_eq (fun c447 => ?_) (fun c447 => ?_)
    · refine g_iload_n rfl ?_
      refine g_invti rfl rfl rfl (s_206 a2 H410 hIH410 hJH410) (fun v450 H448 r449 => ?_)
      obtain ⟨rfl, bv450⟩ := r449
      refine g_if_eq (fun c451 => ?_) (fun c451 => ?_)
      · refine g_iconst (by decide) (fun v452 kv452 => ?_)
        exact g_iret ⟨_, rfl, hIH410, hJH410, (e411.symm.trans ek0_2), m412⟩
      · refine g_iload_n rfl ?_
        refine g_if_ge (fun c453 => ?_) (fun c453 => ?_)
        · refine g_aload_n rfl ?_
          refine g_iload_n rfl ?_
          refine g_invvv hIH410 sm_0 rfl rfl rfl rfl (s_200 a2 H410 hIH410 hJH410) (fun H454 r455 => ?_)
          obtain ⟨hIH454, hJH454, w456, m457⟩ := r455
          have e458 : k0_2 = fZ H454 0 2 := e411.trans w456.symm
          have m459 : kpM H H454 := kpM_t m412 m457
          refine g_iload_n rfl ?_
          refine g_istore (l' := [(0, .ref 0), (1, .int a1), (2, .int a2), (3, .int a3), (4, .int a3)]) rfl rfl ?_
          refine g_iconst (by decide) (fun v460 kv460 => ?_)
          refine g_istore (l' := [(0, .ref 0), (1, .int a1), (2, .int a2), (3, .int a3), (4, .int a3), (5, .int v460)]) rfl rfl ?_
          refine g_nop ?_
          have L463 : ∀ (N : Nat) (v461 : Int32) (v462 : Int32), (0 ≤ v461.toInt ∧ v461.toInt ≤ 2147483647) → (0 ≤ v462.toInt ∧ v462.toInt ≤ 40) → (40 - v462.toInt).toNat < N → gG 6 zB_211 (mzBlk zB_211 4) [(0, .ref 0), (1, .int a1), (2, .int a2), (3, .int a3), (4, .int v461), (5, .int v462)] [] H454 0 0 (gRi (fun v H' => gI SM H' ∧ JN H' ∧ fZ H' 0 2 = fZ H 0 2 ∧ kpM H H')) := by
            intro N
            induction N with
            | zero => intro v461 v462 bv461 bv462 hmL463; exact absurd hmL463 (Nat.not_lt_zero _)
            | succ N ihL463 =>
              intro v461 v462 bv461 bv462 hmL463
              refine g_iload rfl ?_
              refine g_bipush (by decide) (fun v464 kv464 => ?_)
              refine g_if2_ge (fun c465 => ?_) (fun c465 => ?_)
              · refine g_bipush (by decide) (fun v466 kv466 => ?_)
                exact g_iret ⟨_, rfl, hIH454, (JM_n hJH454), (e458.symm.trans ek0_2), m459⟩
              · refine g_aload_n rfl ?_
                refine g_iload rfl ?_
                refine g_invvi hIH454 sm_0 rfl rfl rfl rfl (s_201 v462 (by first | with_reducible assumption | omega) H454 hIH454 hJH454) (fun v469 H467 r468 => ?_)
                obtain ⟨rfl, bv469⟩ := r468
                refine g_iload_n rfl ?_
                refine g_if2_eq (fun c470 => ?_) (fun c470 => ?_)
                · refine g_iload rfl ?_
                  refine g_if_ne (fun c471 => ?_) (fun c471 => ?_)
                  · refine g_iinc (l' := (fun v472 => [(0, .ref 0), (1, .int a1), (2, .int a2), (3, .int a3), (4, .int v472), (5, .int v462)])) rfl rfl (by decide) (by have := gz_any v461; omega) (fun _ => rfl) (fun v472 ev472 => ?_)
                    refine g_nop ?_
                    refine g_iinc (l' := (fun v473 => [(0, .ref 0), (1, .int a1), (2, .int a2), (3, .int a3), (4, .int v472), (5, .int v473)])) rfl rfl (by decide) (by first | with_reducible assumption | omega) (fun _ => rfl) (fun v473 ev473 => ?_)
                    refine g_goto ?_
                    exact ihL463 v472 v473 (by have := gz_any v472; omega) (by first | with_reducible assumption | omega) (by first | with_reducible assumption | omega)
                  · refine g_iload rfl ?_
                    exact g_iret ⟨_, rfl, hIH454, (JM_n hJH454), (e458.symm.trans ek0_2), m459⟩
                · refine g_goto ?_
                  refine g_iinc (l' := (fun v474 => [(0, .ref 0), (1, .int a1), (2, .int a2), (3, .int a3), (4, .int v461), (5, .int v474)])) rfl rfl (by decide) (by first | with_reducible assumption | omega) (fun _ => rfl) (fun v474 ev474 => ?_)
                  refine g_goto ?_
                  exact ihL463 v461 v474 (by have := gz_any v461; omega) (by first | with_reducible assumption | omega) (by first | with_reducible assumption | omega)
          exact L463 _ a3 v460 (by have := gz_any a3; omega) (by first | with_reducible assumption | omega) (Nat.lt_succ_self _)
        · refine g_nop ?_
          refine g_iconst (by decide) (fun v475 kv475 => ?_)
          exact g_iret ⟨_, rfl, hIH410, hJH410, (e411.symm.trans ek0_2), m412⟩
    · refine g_iload_n rfl ?_
      refine g_bipush (by decide) (fun v476 kv476 => ?_)
      refine g_if2_ne (fun c477 => ?_) (fun c477 => ?_)
      · refine g_iconst (by decide) (fun v478 kv478 => ?_)
        exact g_iret ⟨_, rfl, hIH410, hJH410, (e411.symm.trans ek0_2), m412⟩
      · refine g_nop ?_
        refine g_iload_n rfl ?_
        refine g_invti rfl rfl rfl (s_206 a2 H410 hIH410 hJH410) (fun v481 H479 r480 => ?_)
        obtain ⟨rfl, bv481⟩ := r480
        refine g_if_eq (fun c482 => ?_) (fun c482 => ?_)
        · refine g_iconst (by decide) (fun v483 kv483 => ?_)
          exact g_iret ⟨_, rfl, hIH410, hJH410, (e411.symm.trans ek0_2), m412⟩
        · refine g_iload_n rfl ?_
          refine g_if_ge (fun c484 => ?_) (fun c484 => ?_)
          · refine g_aload_n rfl ?_
            refine g_iload_n rfl ?_
            refine g_invvv hIH410 sm_0 rfl rfl rfl rfl (s_200 a2 H410 hIH410 hJH410) (fun H485 r486 => ?_)
            obtain ⟨hIH485, hJH485, w487, m488⟩ := r486
            have e489 : k0_2 = fZ H485 0 2 := e411.trans w487.symm
            have m490 : kpM H H485 := kpM_t m412 m488
            refine g_iload_n rfl ?_
            refine g_istore (l' := [(0, .ref 0), (1, .int a1), (2, .int a2), (3, .int a3), (4, .int a3)]) rfl rfl ?_
            refine g_iconst (by decide) (fun v491 kv491 => ?_)
            refine g_istore (l' := [(0, .ref 0), (1, .int a1), (2, .int a2), (3, .int a3), (4, .int a3), (5, .int v491)]) rfl rfl ?_
            refine g_nop ?_
            have L494 : ∀ (N : Nat) (v492 : Int32) (v493 : Int32), (0 ≤ v492.toInt ∧ v492.toInt ≤ 2147483647) → (0 ≤ v493.toInt ∧ v493.toInt ≤ 40) → (40 - v493.toInt).toNat < N → gG 6 zB_211 (mzBlk zB_211 4) [(0, .ref 0), (1, .int a1), (2, .int a2), (3, .int a3), (4, .int v492), (5, .int v493)] [] H485 0 0 (gRi (fun v H' => gI SM H' ∧ JN H' ∧ fZ H' 0 2 = fZ H 0 2 ∧ kpM H H')) := by
              intro N
              induction N with
              | zero => intro v492 v493 bv492 bv493 hmL494; exact absurd hmL494 (Nat.not_lt_zero _)
              | succ N ihL494 =>
                intro v492 v493 bv492 bv493 hmL494
                refine g_iload rfl ?_
                refine g_bipush (by decide) (fun v495 kv495 => ?_)
                refine g_if2_ge (fun c496 => ?_) (fun c496 => ?_)
                · refine g_bipush (by decide) (fun v497 kv497 => ?_)
                  exact g_iret ⟨_, rfl, hIH485, (JM_n hJH485), (e489.symm.trans ek0_2), m490⟩
                · refine g_aload_n rfl ?_
                  refine g_iload rfl ?_
                  refine g_invvi hIH485 sm_0 rfl rfl rfl rfl (s_201 v493 (by first | with_reducible assumption | omega) H485 hIH485 hJH485) (fun v500 H498 r499 => ?_)
                  obtain ⟨rfl, bv500⟩ := r499
                  refine g_iload_n rfl ?_
                  refine g_if2_eq (fun c501 => ?_) (fun c501 => ?_)
                  · refine g_iload rfl ?_
                    refine g_if_ne (fun c502 => ?_) (fun c502 => ?_)
                    · refine g_iinc (l' := (fun v503 => [(0, .ref 0), (1, .int a1), (2, .int a2), (3, .int a3), (4, .int v503), (5, .int v493)])) rfl rfl (by decide) (by have := gz_any v492; omega) (fun _ => rfl) (fun v503 ev503 => ?_)
                      refine g_nop ?_
                      refine g_iinc (l' := (fun v504 => [(0, .ref 0), (1, .int a1), (2, .int a2), (3, .int a3), (4, .int v503), (5, .int v504)])) rfl rfl (by decide) (by first | with_reducible assumption | omega) (fun _ => rfl) (fun v504 ev504 => ?_)
                      refine g_goto ?_
                      exact ihL494 v503 v504 (by have := gz_any v503; omega) (by first | with_reducible assumption | omega) (by first | with_reducible assumption | omega)
                    · refine g_iload rfl ?_
                      exact g_iret ⟨_, rfl, hIH485, (JM_n hJH485), (e489.symm.trans ek0_2), m490⟩
                  · refine g_goto ?_
                    refine g_iinc (l' := (fun v505 => [(0, .ref 0), (1, .int a1), (2, .int a2), (3, .int a3), (4, .int v492), (5, .int v505)])) rfl rfl (by decide) (by first | with_reducible assumption | omega) (fun _ => rfl) (fun v505 ev505 => ?_)
                    refine g_goto ?_
                    exact ihL494 v492 v505 (by have := gz_any v492; omega) (by first | with_reducible assumption | omega) (by first | with_reducible assumption | omega)
            exact L494 _ a3 v491 (by have := gz_any a3; omega) (by first | with_reducible assumption | omega) (Nat.lt_succ_self _)
          · refine g_nop ?_
            refine g_iconst (by decide) (fun v506 kv506 => ?_)
            exact g_iret ⟨_, rfl, hIH410, hJH410, (e411.symm.trans ek0_2), m412⟩
set_option maxRecDepth 4000 in
set_option maxHeartbeats 4000000 in
/-- M.isSo -/
theorem s_212 (a1 : Int32) (ha1 : 0 ≤ a1.toInt ∧ a1.toInt ≤ 39) (a2 : Int32) (H : mzH) (hI : gI SM H) (hJ : JM H) : gCall 212 [.ref 0, .int a1, .int a2] H (gRi (fun v H' => H = H' ∧ (0 ≤ v.toInt ∧ v.toInt ≤ 1))) := by
  refine gG_call [(0, .ref 0), (1, .int a1), (2, .int a2)] ⟨rfl, rfl, rfl, trivial⟩ ?_
  show gG 3 zB_212 (mzBlk zB_212 0) [(0, .ref 0), (1, .int a1), (2, .int a2)] [] H 0 0 _
  refine g_iload_n rfl ?_
  refine g_sw (by decide) (fun c93 => ?_) ⟨fun c93 => ?_, fun c93 => ?_, fun c93 => ?_, fun c93 => ?_, fun c93 => ?_, trivial⟩
  · refine g_aload_n rfl ?_
    refine g_gfr hI sm_0 rfl ?_
    refine g_iload_n rfl ?_
    refine g_baload hI sm_13 rfl (by first | with_reducible assumption | omega) (fun v94 ev94 lv94 uv94 => ?_)
    exact g_zret (by first | with_reducible assumption | omega) ⟨_, rfl, rfl, (by first | with_reducible assumption | omega)⟩
  · refine g_aload_n rfl ?_
    refine g_gfr hI sm_0 rfl ?_
    refine g_iload_n rfl ?_
    refine g_baload hI sm_7 rfl (by first | with_reducible assumption | omega) (fun v95 ev95 lv95 uv95 => ?_)
    exact g_zret (by first | with_reducible assumption | omega) ⟨_, rfl, rfl, (by first | with_reducible assumption | omega)⟩
  · refine g_aload_n rfl ?_
    refine g_iload_n rfl ?_
    refine g_invvi hI sm_0 rfl rfl rfl rfl (s_201 a1 (by first | with_reducible assumption | omega) H hI hJ) (fun v98 H96 r97 => ?_)
    obtain ⟨rfl, bv98⟩ := r97
    refine g_bipush (by decide) (fun v99 kv99 => ?_)
    refine g_if2_ne (fun c100 => ?_) (fun c100 => ?_)
    · refine g_iconst (by decide) (fun v101 kv101 => ?_)
      refine g_nop ?_
      exact g_zret (by first | with_reducible assumption | omega) ⟨_, rfl, rfl, (by first | with_reducible assumption | omega)⟩
    · refine g_iconst (by decide) (fun v102 kv102 => ?_)
      refine g_goto ?_
      exact g_zret (by first | with_reducible assumption | omega) ⟨_, rfl, rfl, (by first | with_reducible assumption | omega)⟩
  · refine g_aload_n rfl ?_
    refine g_gfr hI sm_0 rfl ?_
    refine g_iload_n rfl ?_
    refine g_baload hI sm_16 rfl (by first | with_reducible assumption | omega) (fun v103 ev103 lv103 uv103 => ?_)
    exact g_zret (by first | with_reducible assumption | omega) ⟨_, rfl, rfl, (by first | with_reducible assumption | omega)⟩
  · refine g_aload_n rfl ?_
    refine g_gfr hI sm_0 rfl ?_
    refine g_iload_n rfl ?_
    refine g_baload hI sm_14 rfl (by first | with_reducible assumption | omega) (fun v104 ev104 lv104 uv104 => ?_)
    exact g_zret (by first | with_reducible assumption | omega) ⟨_, rfl, rfl, (by first | with_reducible assumption | omega)⟩
  · refine g_aload_n rfl ?_
    refine g_gfr hI sm_0 rfl ?_
    refine g_iload_n rfl ?_
    refine g_baload hI sm_7 rfl (by first | with_reducible assumption | omega) (fun v105 ev105 lv105 uv105 => ?_)
    refine g_if_eq (fun c106 => ?_) (fun c106 => ?_)
    · refine g_iconst (by decide) (fun v107 kv107 => ?_)
      refine g_nop ?_
      exact g_zret (by first | with_reducible assumption | omega) ⟨_, rfl, rfl, (by first | with_reducible assumption | omega)⟩
    · refine g_aload_n rfl ?_
      refine g_gfr hI sm_0 rfl ?_
      refine g_iload_n rfl ?_
      refine g_baload hI sm_16 rfl (by first | with_reducible assumption | omega) (fun v108 ev108 lv108 uv108 => ?_)
      refine g_if_ne (fun c109 => ?_) (fun c109 => ?_)
      · refine g_iconst (by decide) (fun v110 kv110 => ?_)
        refine g_nop ?_
        exact g_zret (by first | with_reducible assumption | omega) ⟨_, rfl, rfl, (by first | with_reducible assumption | omega)⟩
      · refine g_aload_n rfl ?_
        refine g_gfr hI sm_0 rfl ?_
        refine g_iload_n rfl ?_
        refine g_iaload hI sm_9 rfl (by first | with_reducible assumption | omega) (fun v111 ev111 lv111 uv111 => ?_)
        have qv111 := JM_in hJ (by first | with_reducible assumption | omega) ev111
        refine g_bipush (by decide) (fun v112 kv112 => ?_)
        refine g_if2_ne (fun c113 => ?_) (fun c113 => ?_)
        · refine g_iconst (by decide) (fun v114 kv114 => ?_)
          refine g_nop ?_
          exact g_zret (by first | with_reducible assumption | omega) ⟨_, rfl, rfl, (by first | with_reducible assumption | omega)⟩
        · refine g_iconst (by decide) (fun v115 kv115 => ?_)
          refine g_goto ?_
          exact g_zret (by first | with_reducible assumption | omega) ⟨_, rfl, rfl, (by first | with_reducible assumption | omega)⟩
set_option maxRecDepth 4000 in
set_option maxHeartbeats 4000000 in
/-- M.many -/
theorem s_213 (a1 : Int32) (a2 : Int32) (H : mzH) (hI : gI SM H) (hJ : JN H) : gCall 213 [.ref 0, .int a1, .int a2] H (gRi (fun v H' => gI SM H' ∧ JN H' ∧ fZ H' 0 2 = fZ H 0 2 ∧ kpM H H')) := by
  obtain ⟨k0_2, ek0_2⟩ : ∃ z, z = fZ H 0 2 := ⟨_, rfl⟩
  have ik0_2 : k0_2.toInt = (fZ H 0 2).toInt := by rw [← ek0_2]
  have bk0_2 : 0 ≤ k0_2.toInt ∧ k0_2.toInt ≤ 900 := by rw [ek0_2]; exact fZ_of hI sm_0 rfl
  have mkfr : kpM H H := kpM_r
  refine gG_call [(0, .ref 0), (1, .int a1), (2, .int a2)] ⟨rfl, rfl, rfl, trivial⟩ ?_
  show gG 5 zB_213 (mzBlk zB_213 0) [(0, .ref 0), (1, .int a1), (2, .int a2)] [] H 0 0 _
  refine g_aload_n rfl ?_
  refine g_iconst (by decide) (fun v569 kv569 => ?_)
  refine g_pfi hI sm_0 rfl (gz_any _) (fun H570 eH570 hIH570 => ?_)
  have hJH570 : JN H570 := JN_sF eH570 hJ
  have e571 : k0_2 = fZ H570 0 2 := by rw [eH570, fZ_sF_ne (by decide)]; exact ek0_2
  have m572 : kpM H H570 := kpM_F mkfr eH570 (by first | with_reducible assumption | omega)
  refine g_iload_n rfl ?_
  refine g_invti rfl rfl rfl (s_206 a1 H570 hIH570 hJH570) (fun v575 H573 r574 => ?_)
  obtain ⟨rfl, bv575⟩ := r574
  refine g_if_eq (fun c576 => ?_) (fun c576 => ?_)
  · refine g_iconst (by decide) (fun v577 kv577 => ?_)
    exact g_iret ⟨_, rfl, hIH570, hJH570, (e571.symm.trans ek0_2), m572⟩
  · refine g_iload_n rfl ?_
    refine g_if_lt (fun c578 => ?_) (fun c578 => ?_)
    · refine g_iconst (by decide) (fun v579 kv579 => ?_)
      exact g_iret ⟨_, rfl, hIH570, hJH570, (e571.symm.trans ek0_2), m572⟩
    · refine g_iload_n rfl ?_
      refine g_iconst (by decide) (fun v580 kv580 => ?_)
      refine g_if2_le (fun c581 => ?_) (fun c581 => ?_)
      · refine g_aload_n rfl ?_
        refine g_iload_n rfl ?_
        refine g_invvv hIH570 sm_0 rfl rfl rfl rfl (s_200 a1 H570 hIH570 hJH570) (fun H582 r583 => ?_)
        obtain ⟨hIH582, hJH582, w584, m585⟩ := r583
        have e586 : k0_2 = fZ H582 0 2 := e571.trans w584.symm
        have m587 : kpM H H582 := kpM_t m572 m585
        refine g_iconst (by decide) (fun v588 kv588 => ?_)
        refine g_istore_n (l' := [(0, .ref 0), (1, .int a1), (2, .int a2), (3, .int v588)]) rfl rfl ?_
        refine g_iconst (by decide) (fun v589 kv589 => ?_)
        refine g_istore (l' := [(0, .ref 0), (1, .int a1), (2, .int a2), (3, .int v588), (4, .int v589)]) rfl rfl ?_
        refine g_nop ?_
        have L592 : ∀ (N : Nat) (v590 : Int32) (v591 : Int32), (0 ≤ v591.toInt ∧ v591.toInt ≤ 40) → (40 - v591.toInt).toNat < N → gG 5 zB_213 (mzBlk zB_213 3) [(0, .ref 0), (1, .int a1), (2, .int a2), (3, .int v590), (4, .int v591)] [] H582 0 0 (gRi (fun v H' => gI SM H' ∧ JN H' ∧ fZ H' 0 2 = fZ H 0 2 ∧ kpM H H')) := by
          intro N
          induction N with
          | zero => intro v590 v591 bv591 hmL592; exact absurd hmL592 (Nat.not_lt_zero _)
          | succ N ihL592 =>
            intro v590 v591 bv591 hmL592
            refine g_iload rfl ?_
            refine g_bipush (by decide) (fun v593 kv593 => ?_)
            refine g_if2_ge (fun c594 => ?_) (fun c594 => ?_)
            · refine g_iload_n rfl ?_
              exact g_iret ⟨_, rfl, hIH582, (JM_n hJH582), (e586.symm.trans ek0_2), m587⟩
            · refine g_iload_n rfl ?_
              refine g_aload_n rfl ?_
              refine g_iload rfl ?_
              refine g_iload_n rfl ?_
              refine g_invvi hIH582 sm_0 rfl rfl rfl rfl (s_212 v591 (by first | with_reducible assumption | omega) a2 H582 hIH582 hJH582) (fun v597 H595 r596 => ?_)
              obtain ⟨rfl, bv597⟩ := r596
              refine g_if_eq (fun c598 => ?_) (fun c598 => ?_)
              · refine g_iconst (by decide) (fun v599 kv599 => ?_)
                refine g_nop ?_
                refine g_iadd (by have := gz_any v590; omega) (fun v600 ev600 => ?_)
                refine g_istore_n (l' := [(0, .ref 0), (1, .int a1), (2, .int a2), (3, .int v600), (4, .int v591)]) rfl rfl ?_
                refine g_iinc (l' := (fun v601 => [(0, .ref 0), (1, .int a1), (2, .int a2), (3, .int v600), (4, .int v601)])) rfl rfl (by decide) (by first | with_reducible assumption | omega) (fun _ => rfl) (fun v601 ev601 => ?_)
                refine g_goto ?_
                exact ihL592 v600 v601 (by first | with_reducible assumption | omega) (by first | with_reducible assumption | omega)
              · refine g_iconst (by decide) (fun v602 kv602 => ?_)
                refine g_goto ?_
                refine g_iadd' (fun v603 ov603 => ?_)
                refine g_istore_n (l' := [(0, .ref 0), (1, .int a1), (2, .int a2), (3, .int v603), (4, .int v591)]) rfl rfl ?_
                refine g_iinc (l' := (fun v604 => [(0, .ref 0), (1, .int a1), (2, .int a2), (3, .int v603), (4, .int v604)])) rfl rfl (by decide) (by first | with_reducible assumption | omega) (fun _ => rfl) (fun v604 ev604 => ?_)
                refine g_goto ?_
                exact ihL592 v603 v604 (by first | with_reducible assumption | omega) (by first | with_reducible assumption | omega)
        exact L592 _ v588 v589 (by first | with_reducible assumption | omega) (Nat.lt_succ_self _)
      · refine g_nop ?_
        refine g_iconst (by decide) (fun v605 kv605 => ?_)
        exact g_iret ⟨_, rfl, hIH570, hJH570, (e571.symm.trans ek0_2), m572⟩
set_option maxRecDepth 4000 in
set_option maxHeartbeats 4000000 in
/-- M.laysTrail -/
theorem s_214 (a1 : Int32) (ha1 : 0 ≤ a1.toInt ∧ a1.toInt ≤ 39) (H : mzH) (hI : gI SM H) (hJ : JN H) : gCall 214 [.ref 0, .int a1] H (gRv (fun H' => gI SM H' ∧ JM H' ∧ fZ H' 0 2 = fZ H 0 2 ∧ kpM H H')) := by
  obtain ⟨k0_2, ek0_2⟩ : ∃ z, z = fZ H 0 2 := ⟨_, rfl⟩
  have ik0_2 : k0_2.toInt = (fZ H 0 2).toInt := by rw [← ek0_2]
  have bk0_2 : 0 ≤ k0_2.toInt ∧ k0_2.toInt ≤ 900 := by rw [ek0_2]; exact fZ_of hI sm_0 rfl
  have mkfr : kpM H H := kpM_r
  refine gG_call [(0, .ref 0), (1, .int a1)] ⟨rfl, rfl, trivial⟩ ?_
  show gG 5 zB_214 (mzBlk zB_214 0) [(0, .ref 0), (1, .int a1)] [] H 0 0 _
  refine g_aload_n rfl ?_
  refine g_invvv hI sm_0 rfl rfl rfl rfl (s_182 H hI hJ) (fun H587 r588 => ?_)
  obtain ⟨hIH587, hJH587, m589, m590, m591, p592⟩ := r588
  have e593 : k0_2 = fZ H587 0 2 := ek0_2.trans (m589 0 2).symm
  have im589_0_39 : (fZ H587 0 39).toInt = (fZ H 0 39).toInt := by rw [m589]
  have m594 : kpM H H587 := kpM_t mkfr m591
  refine g_aload_n rfl ?_
  refine g_invvv hIH587 sm_0 rfl rfl rfl rfl (s_184 H587 hIH587 hJH587) (fun H595 r596 => ?_)
  obtain ⟨hIH595, hJH595, w597, m598, m599, m600, p601⟩ := r596
  have e602 : k0_2 = fZ H595 0 2 := e593.trans w597.symm
  have m603 : kpM H H595 := kpM_t m594 m600
  refine g_aload_n rfl ?_
  refine g_iconst (by decide) (fun v604 kv604 => ?_)
  refine g_pfi hIH595 sm_0 rfl (by first | with_reducible assumption | omega) (fun H605 eH605 hIH605 => ?_)
  have hJH605 : JM H605 := JM_sF eH605 hJH595
  have e606 : k0_2 = fZ H605 0 2 := by rw [eH605, fZ_sF_ne (by decide)]; exact e602
  have e607 : v604 = fZ H605 0 39 := by rw [eH605, fZ_sF_eq hIH595 sm_0 rfl]
  have m608 : kpM H H605 := kpM_F m603 eH605 (by first | with_reducible assumption | omega)
  have ie607 : v604.toInt = (fZ H605 0 39).toInt := by rw [← e607]
  refine g_bipush (by decide) (fun v609 kv609 => ?_)
  refine g_istore_n (l' := [(0, .ref 0), (1, .int a1), (2, .int v609)]) rfl rfl ?_
  refine g_iconst (by decide) (fun v610 kv610 => ?_)
  refine g_istore_n (l' := [(0, .ref 0), (1, .int a1), (2, .int v609), (3, .int v610)]) rfl rfl ?_
  refine g_nop ?_
  have L616 : ∀ (N : Nat) (v611 : Int32) (v612 : Int32) (H613 : mzH), gI SM H613 → JM H613 → k0_2 = fZ H613 0 2 → kpM H H613 → (-4 ≤ v611.toInt ∧ v611.toInt ≤ 7) → (0 ≤ v612.toInt ∧ v612.toInt ≤ 60) → (fZ H613 0 39).toInt ≤ v612.toInt → (60 - v612.toInt).toNat < N → gG 5 zB_214 (mzBlk zB_214 1) [(0, .ref 0), (1, .int a1), (2, .int v611), (3, .int v612)] [] H613 0 0 (gRv (fun H' => gI SM H' ∧ JM H' ∧ fZ H' 0 2 = fZ H 0 2 ∧ kpM H H')) := by
    intro N
    induction N with
    | zero => intro v611 v612 H613 hIH613 hJH613 e614 m615 bv611 bv612 q1 hmL616; exact absurd hmL616 (Nat.not_lt_zero _)
    | succ N ihL616 =>
      intro v611 v612 H613 hIH613 hJH613 e614 m615 bv611 bv612 q1 hmL616
      obtain ⟨k617, ek617⟩ : ∃ z, z = fZ H613 0 39 := ⟨_, rfl⟩
      have ik617 : k617.toInt = (fZ H613 0 39).toInt := by rw [← ek617]
      have bk617 : 0 ≤ k617.toInt ∧ k617.toInt ≤ 60 := by rw [ek617]; exact fZ_of hIH613 sm_0 rfl
      refine g_iload_n rfl ?_
      refine g_aload_n rfl ?_
      refine g_gfi hIH613 sm_0 rfl (fun v618 ev618 lv618 uv618 => ?_)
      refine g_if2_ge (fun c619 => ?_) (fun c619 => ?_)
      · exact g_ret ⟨rfl, hIH613, hJH613, (e614.symm.trans ek0_2), m615⟩
      · refine g_aload_n rfl ?_
        refine g_aload_n rfl ?_
        refine g_gfr hIH613 sm_0 rfl ?_
        refine g_iload_n rfl ?_
        refine g_iaload hIH613 sm_19 rfl (by first | with_reducible assumption | omega) (fun v620 ev620 lv620 uv620 => ?_)
        refine g_invvv hIH613 sm_0 rfl rfl rfl rfl (s_192 v620 (by first | with_reducible assumption | omega) H613 hIH613 hJH613) (fun H621 r622 => ?_)
        obtain ⟨hIH621, hJH621, m623, m624, m625, m626, m627⟩ := r622
        have e628 : k0_2 = fZ H621 0 2 := e614.trans (m623 0 2).symm
        have e629 : k617 = fZ H621 0 39 := ek617.trans (m623 0 39).symm
        have m630 : kpM H H621 := kpM_t m615 m627
        have ie629 : k617.toInt = (fZ H621 0 39).toInt := by rw [← e629]
        refine g_aload_n rfl ?_
        refine g_iload_n rfl ?_
        refine g_invvi hIH621 sm_0 rfl rfl rfl rfl (s_201 a1 (by first | with_reducible assumption | omega) H621 hIH621 hJH621) (fun v633 H631 r632 => ?_)
        obtain ⟨rfl, bv633⟩ := r632
        refine g_istore (l' := [(0, .ref 0), (1, .int a1), (2, .int v611), (3, .int v612), (4, .int v633)]) rfl rfl ?_
        refine g_iload rfl ?_
        refine g_iload_n rfl ?_
        refine g_if2_ne (fun c634 => ?_) (fun c634 => ?_)
        · refine g_aload_n rfl ?_
          refine g_gfr hIH621 sm_0 rfl ?_
          refine g_aload_n rfl ?_
          refine g_gfk hIH621 sm_0 rfl e629 ?_
          refine g_iload rfl ?_
          refine g_iastore hIH621 sm_22 (by first | with_reducible assumption | omega) (by first | with_reducible assumption | omega) (fun H635 eH635 hIH635 => ?_)
          have hJH635 : JM H635 := JM_sA (by decide) eH635 hJH621
          have e636 : k0_2 = fZ H635 0 2 := by rw [eH635, fZ_sA]; exact e628
          have e637 : k617 = fZ H635 0 39 := by rw [eH635, fZ_sA]; exact e629
          have m638 : kpM H H635 := kpM_A m630 eH635 (by first | with_reducible assumption | omega)
          have ie637 : k617.toInt = (fZ H635 0 39).toInt := by rw [← e637]
          refine g_aload_n rfl ?_
          refine g_gfr hIH635 sm_0 rfl ?_
          refine g_aload_n rfl ?_
          refine g_gfk hIH635 sm_0 rfl e637 ?_
          refine g_aload_n rfl ?_
          refine g_gfr hIH635 sm_0 rfl ?_
          refine g_aload_n rfl ?_
          refine g_gfr hIH635 sm_0 rfl ?_
          refine g_iload_n rfl ?_
          refine g_iaload hIH635 sm_19 rfl (by first | with_reducible assumption | omega) (fun v639 ev639 lv639 uv639 => ?_)
          refine g_iaload hIH635 sm_18 rfl (by first | with_reducible assumption | omega) (fun v640 ev640 lv640 uv640 => ?_)
          refine g_iastore hIH635 sm_23 (by first | with_reducible assumption | omega) (gz_any _) (fun H641 eH641 hIH641 => ?_)
          have hJH641 : JM H641 := JM_sA (by decide) eH641 hJH635
          have e642 : k0_2 = fZ H641 0 2 := by rw [eH641, fZ_sA]; exact e636
          have e643 : k617 = fZ H641 0 39 := by rw [eH641, fZ_sA]; exact e637
          have m644 : kpM H H641 := kpM_A m638 eH641 (by first | with_reducible assumption | omega)
          have ie643 : k617.toInt = (fZ H641 0 39).toInt := by rw [← e643]
          refine g_aload_n rfl ?_
          refine g_dup rfl ?_
          refine g_gfk hIH641 sm_0 rfl e643 ?_
          refine g_iconst (by decide) (fun v645 kv645 => ?_)
          refine g_iadd (by first | with_reducible assumption | omega) (fun v646 ev646 => ?_)
          refine g_pfi hIH641 sm_0 rfl (by first | with_reducible assumption | omega) (fun H647 eH647 hIH647 => ?_)
          have hJH647 : JM H647 := JM_sF eH647 hJH641
          have e648 : k0_2 = fZ H647 0 2 := by rw [eH647, fZ_sF_ne (by decide)]; exact e642
          have e649 : v646 = fZ H647 0 39 := by rw [eH647, fZ_sF_eq hIH641 sm_0 rfl]
          have m650 : kpM H H647 := kpM_F m644 eH647 (by first | with_reducible assumption | omega)
          have ie649 : v646.toInt = (fZ H647 0 39).toInt := by rw [← e649]
          refine g_iload rfl ?_
          refine g_istore_n (l' := [(0, .ref 0), (1, .int a1), (2, .int v633), (3, .int v612), (4, .int v633)]) rfl rfl ?_
          refine g_nop ?_
          refine g_iinc (l' := (fun v651 => [(0, .ref 0), (1, .int a1), (2, .int v633), (3, .int v651), (4, .int v633)])) rfl rfl (by decide) (by first | with_reducible assumption | omega) (fun _ => rfl) (fun v651 ev651 => ?_)
          refine g_goto ?_
          refine gG_pick [0, 1, 2, 3] (l' := [(0, .ref 0), (1, .int a1), (2, .int v633), (3, .int v651)]) rfl ?_
          exact ihL616 v633 v651 H647 hIH647 hJH647 e648 m650 (by first | with_reducible assumption | omega) (by first | with_reducible assumption | omega) (by first | with_reducible assumption | omega) (by first | with_reducible assumption | omega)
        · refine g_goto ?_
          refine g_iinc (l' := (fun v652 => [(0, .ref 0), (1, .int a1), (2, .int v611), (3, .int v652), (4, .int v633)])) rfl rfl (by decide) (by first | with_reducible assumption | omega) (fun _ => rfl) (fun v652 ev652 => ?_)
          refine g_goto ?_
          refine gG_pick [0, 1, 2, 3] (l' := [(0, .ref 0), (1, .int a1), (2, .int v611), (3, .int v652)]) rfl ?_
          exact ihL616 v611 v652 H621 hIH621 hJH621 e628 m630 (by first | with_reducible assumption | omega) (by first | with_reducible assumption | omega) (by first | with_reducible assumption | omega) (by first | with_reducible assumption | omega)
  exact L616 _ v609 v610 H605 hIH605 hJH605 e606 m608 (by first | with_reducible assumption | omega) (by first | with_reducible assumption | omega) (by first | with_reducible assumption | omega) (Nat.lt_succ_self _)
set_option maxRecDepth 4000 in
set_option maxHeartbeats 4000000 in
/-- M.trail -/
theorem s_215 (a1 : Int32) (a2 : Int32) (a3 : Int32) (H : mzH) (hI : gI SM H) (hJ : JN H) : gCall 215 [.ref 0, .int a1, .int a2, .int a3] H (gRi (fun v H' => gI SM H' ∧ JN H' ∧ fZ H' 0 2 = fZ H 0 2 ∧ kpM H H')) := by
  obtain ⟨k0_2, ek0_2⟩ : ∃ z, z = fZ H 0 2 := ⟨_, rfl⟩
  have ik0_2 : k0_2.toInt = (fZ H 0 2).toInt := by rw [← ek0_2]
  have bk0_2 : 0 ≤ k0_2.toInt ∧ k0_2.toInt ≤ 900 := by rw [ek0_2]; exact fZ_of hI sm_0 rfl
  have mkfr : kpM H H := kpM_r
  refine gG_call [(0, .ref 0), (1, .int a1), (2, .int a2), (3, .int a3)] ⟨rfl, rfl, rfl, rfl, trivial⟩ ?_
  show gG 4 zB_215 (mzBlk zB_215 0) [(0, .ref 0), (1, .int a1), (2, .int a2), (3, .int a3)] [] H 0 0 _
  refine g_aload_n rfl ?_
  refine g_iconst (by decide) (fun v117 kv117 => ?_)
  refine g_pfi hI sm_0 rfl (gz_any _) (fun H118 eH118 hIH118 => ?_)
  have hJH118 : JN H118 := JN_sF eH118 hJ
  have e119 : k0_2 = fZ H118 0 2 := by rw [eH118, fZ_sF_ne (by decide)]; exact ek0_2
  have m120 : kpM H H118 := kpM_F mkfr eH118 (by first | with_reducible assumption | omega)
  refine g_iload_n rfl ?_
  refine g_invti rfl rfl rfl (s_205 a1 H118 hIH118 hJH118) (fun v123 H121 r122 => ?_)
  obtain ⟨rfl, bv123, p124⟩ := r122
  refine g_if_eq (fun c125 => ?_) (fun c125 => ?_)
  · refine g_bipush (by decide) (fun v126 kv126 => ?_)
    exact g_iret ⟨_, rfl, hIH118, hJH118, (e119.symm.trans ek0_2), m120⟩
  · refine g_iload_n rfl ?_
    refine g_if_lt (fun c127 => ?_) (fun c127 => ?_)
    · refine g_bipush (by decide) (fun v128 kv128 => ?_)
      exact g_iret ⟨_, rfl, hIH118, hJH118, (e119.symm.trans ek0_2), m120⟩
    · refine g_iload_n rfl ?_
      refine g_if_lt (fun c129 => ?_) (fun c129 => ?_)
      · refine g_bipush (by decide) (fun v130 kv130 => ?_)
        exact g_iret ⟨_, rfl, hIH118, hJH118, (e119.symm.trans ek0_2), m120⟩
      · refine g_iload_n rfl ?_
        refine g_iconst (by decide) (fun v131 kv131 => ?_)
        refine g_if2_le (fun c132 => ?_) (fun c132 => ?_)
        · refine g_aload_n rfl ?_
          refine g_iload_n rfl ?_
          refine g_invvv hIH118 sm_0 rfl rfl rfl rfl (s_214 a1 (by first | with_reducible assumption | omega) H118 hIH118 hJH118) (fun H133 r134 => ?_)
          obtain ⟨hIH133, hJH133, w135, m136⟩ := r134
          have e137 : k0_2 = fZ H133 0 2 := e119.trans w135.symm
          have m138 : kpM H H133 := kpM_t m120 m136
          refine g_iload_n rfl ?_
          refine g_aload_n rfl ?_
          refine g_gfi hIH133 sm_0 rfl (fun v139 ev139 lv139 uv139 => ?_)
          refine g_if2_ge (fun c140 => ?_) (fun c140 => ?_)
          · refine g_bipush (by decide) (fun v141 kv141 => ?_)
            refine g_nop ?_
            exact g_iret ⟨_, rfl, hIH133, (JM_n hJH133), (e137.symm.trans ek0_2), m138⟩
          · refine g_iload_n rfl ?_
            refine g_if_ne (fun c142 => ?_) (fun c142 => ?_)
            · refine g_aload_n rfl ?_
              refine g_gfr hIH133 sm_0 rfl ?_
              refine g_iload_n rfl ?_
              refine g_iaload hIH133 sm_23 rfl (by first | with_reducible assumption | omega) (fun v143 ev143 lv143 uv143 => ?_)
              refine g_goto ?_
              exact g_iret ⟨_, rfl, hIH133, (JM_n hJH133), (e137.symm.trans ek0_2), m138⟩
            · refine g_aload_n rfl ?_
              refine g_gfr hIH133 sm_0 rfl ?_
              refine g_iload_n rfl ?_
              refine g_iaload hIH133 sm_22 rfl (by first | with_reducible assumption | omega) (fun v144 ev144 lv144 uv144 => ?_)
              refine g_goto ?_
              exact g_iret ⟨_, rfl, hIH133, (JM_n hJH133), (e137.symm.trans ek0_2), m138⟩
        · refine g_nop ?_
          refine g_bipush (by decide) (fun v145 kv145 => ?_)
          exact g_iret ⟨_, rfl, hIH118, hJH118, (e119.symm.trans ek0_2), m120⟩
set_option maxRecDepth 4000 in
set_option maxHeartbeats 4000000 in
/-- M.latest -/
theorem s_216 (H : mzH) (hI : gI SM H) (hJ : JN H) : gCall 216 [.ref 0] H (gRi (fun v H' => H = H')) := by
  refine gG_call [(0, .ref 0)] ⟨rfl, trivial⟩ ?_
  show gG 3 zB_216 (mzBlk zB_216 0) [(0, .ref 0)] [] H 0 0 _
  refine g_iconst (by decide) (fun v289 kv289 => ?_)
  refine g_istore_n (l' := [(0, .ref 0), (1, .int v289)]) rfl rfl ?_
  refine g_iconst (by decide) (fun v290 kv290 => ?_)
  refine g_istore_n (l' := [(0, .ref 0), (1, .int v289), (2, .int v290)]) rfl rfl ?_
  refine g_nop ?_
  have L293 : ∀ (N : Nat) (v291 : Int32) (v292 : Int32), (0 ≤ v292.toInt ∧ v292.toInt ≤ 60) → (60 - v292.toInt).toNat < N → gG 3 zB_216 (mzBlk zB_216 1) [(0, .ref 0), (1, .int v291), (2, .int v292)] [] H 0 0 (gRi (fun v H' => H = H')) := by
    intro N
    induction N with
    | zero => intro v291 v292 bv292 hmL293; exact absurd hmL293 (Nat.not_lt_zero _)
    | succ N ihL293 =>
      intro v291 v292 bv292 hmL293
      refine g_iload_n rfl ?_
      refine g_aload_n rfl ?_
      refine g_invvi hI sm_0 rfl rfl rfl rfl (s_180 H hI hJ) (fun v296 H294 r295 => ?_)
      obtain ⟨rfl, bv296, p297⟩ := r295
      refine g_if2_ge (fun c298 => ?_) (fun c298 => ?_)
      · refine g_iload_n rfl ?_
        exact g_iret ⟨_, rfl, rfl⟩
      · refine g_aload_n rfl ?_
        refine g_iload_n rfl ?_
        refine g_iconst (by decide) (fun v299 kv299 => ?_)
        refine g_invvi hI sm_0 rfl rfl rfl rfl (s_181 v292 (by first | with_reducible assumption | omega) v299 (by first | with_reducible assumption | omega) H hI hJ) (fun v302 H300 r301 => ?_)
        obtain ⟨rfl, p303⟩ := r301
        have tv302 : v302 = aZ H 2 (69 + 5 * v292.toInt + 0).toNat := by rw [p303, kv299]
        refine g_iload_n rfl ?_
        refine g_if2_le (fun c304 => ?_) (fun c304 => ?_)
        · refine g_iload_n rfl ?_
          refine g_nop ?_
          refine g_istore_n (l' := [(0, .ref 0), (1, .int v291), (2, .int v292)]) rfl rfl ?_
          refine g_iinc (l' := (fun v305 => [(0, .ref 0), (1, .int v291), (2, .int v305)])) rfl rfl (by decide) (by first | with_reducible assumption | omega) (fun _ => rfl) (fun v305 ev305 => ?_)
          refine g_goto ?_
          exact ihL293 v291 v305 (by first | with_reducible assumption | omega) (by first | with_reducible assumption | omega)
        · refine g_aload_n rfl ?_
          refine g_iload_n rfl ?_
          refine g_iconst (by decide) (fun v306 kv306 => ?_)
          refine g_invvi hI sm_0 rfl rfl rfl rfl (s_181 v292 (by first | with_reducible assumption | omega) v306 (by first | with_reducible assumption | omega) H hI hJ) (fun v309 H307 r308 => ?_)
          obtain ⟨rfl, p310⟩ := r308
          have tv309 : v309 = aZ H 2 (69 + 5 * v292.toInt + 0).toNat := by rw [p310, kv306]
          refine g_goto ?_
          refine g_istore_n (l' := [(0, .ref 0), (1, .int v309), (2, .int v292)]) rfl rfl ?_
          refine g_iinc (l' := (fun v311 => [(0, .ref 0), (1, .int v309), (2, .int v311)])) rfl rfl (by decide) (by first | with_reducible assumption | omega) (fun _ => rfl) (fun v311 ev311 => ?_)
          refine g_goto ?_
          exact ihL293 v309 v311 (by first | with_reducible assumption | omega) (by first | with_reducible assumption | omega)
  exact L293 _ v289 v290 (by first | with_reducible assumption | omega) (Nat.lt_succ_self _)
set_option maxRecDepth 4000 in
set_option maxHeartbeats 4000000 in
/-- M.dwelt -/
theorem s_217 (a1 : Int32) (a2 : Int32) (H : mzH) (hI : gI SM H) (hJ : JN H) : gCall 217 [.ref 0, .int a1, .int a2] H (gRi (fun v H' => gI SM H' ∧ JN H' ∧ fZ H' 0 2 = fZ H 0 2 ∧ kpM H H')) := by
  obtain ⟨k0_2, ek0_2⟩ : ∃ z, z = fZ H 0 2 := ⟨_, rfl⟩
  have ik0_2 : k0_2.toInt = (fZ H 0 2).toInt := by rw [← ek0_2]
  have bk0_2 : 0 ≤ k0_2.toInt ∧ k0_2.toInt ≤ 900 := by rw [ek0_2]; exact fZ_of hI sm_0 rfl
  have mkfr : kpM H H := kpM_r
  refine gG_call [(0, .ref 0), (1, .int a1), (2, .int a2)] ⟨rfl, rfl, rfl, trivial⟩ ?_
  show gG 5 zB_217 (mzBlk zB_217 0) [(0, .ref 0), (1, .int a1), (2, .int a2)] [] H 0 0 _
  refine g_aload_n rfl ?_
  refine g_iconst (by decide) (fun v515 kv515 => ?_)
  refine g_pfi hI sm_0 rfl (gz_any _) (fun H516 eH516 hIH516 => ?_)
  have hJH516 : JN H516 := JN_sF eH516 hJ
  have e517 : k0_2 = fZ H516 0 2 := by rw [eH516, fZ_sF_ne (by decide)]; exact ek0_2
  have m518 : kpM H H516 := kpM_F mkfr eH516 (by first | with_reducible assumption | omega)
  refine g_iload_n rfl ?_
  refine g_invti rfl rfl rfl (s_205 a1 H516 hIH516 hJH516) (fun v521 H519 r520 => ?_)
  obtain ⟨rfl, bv521, p522⟩ := r520
  refine g_if_eq (fun c523 => ?_) (fun c523 => ?_)
  · refine g_iconst (by decide) (fun v524 kv524 => ?_)
    exact g_iret ⟨_, rfl, hIH516, hJH516, (e517.symm.trans ek0_2), m518⟩
  · refine g_aload_n rfl ?_
    refine g_iload_n rfl ?_
    refine g_invvi hIH516 sm_0 rfl rfl rfl rfl (s_210 a2 H516 hIH516 hJH516) (fun v527 H525 r526 => ?_)
    obtain ⟨rfl, bv527, p528⟩ := r526
    refine g_if_ne (fun c529 => ?_) (fun c529 => ?_)
    · refine g_aload_n rfl ?_
      refine g_iload_n rfl ?_
      refine g_invvv hIH516 sm_0 rfl rfl rfl rfl (s_214 a1 (by first | with_reducible assumption | omega) H516 hIH516 hJH516) (fun H530 r531 => ?_)
      obtain ⟨hIH530, hJH530, w532, m533⟩ := r531
      have e534 : k0_2 = fZ H530 0 2 := e517.trans w532.symm
      have m535 : kpM H H530 := kpM_t m518 m533
      refine g_iconst (by decide) (fun v536 kv536 => ?_)
      refine g_istore_n (l' := [(0, .ref 0), (1, .int a1), (2, .int a2), (3, .int v536)]) rfl rfl ?_
      refine g_iconst (by decide) (fun v537 kv537 => ?_)
      refine g_istore (l' := [(0, .ref 0), (1, .int a1), (2, .int a2), (3, .int v536), (4, .int v537)]) rfl rfl ?_
      refine g_nop ?_
      have L540 : ∀ (N : Nat) (v538 : Int32) (v539 : Int32), (0 ≤ v539.toInt ∧ v539.toInt ≤ 60) → (60 - v539.toInt).toNat < N → gG 5 zB_217 (mzBlk zB_217 3) [(0, .ref 0), (1, .int a1), (2, .int a2), (3, .int v538), (4, .int v539)] [] H530 0 0 (gRi (fun v H' => gI SM H' ∧ JN H' ∧ fZ H' 0 2 = fZ H 0 2 ∧ kpM H H')) := by
        intro N
        induction N with
        | zero => intro v538 v539 bv539 hmL540; exact absurd hmL540 (Nat.not_lt_zero _)
        | succ N ihL540 =>
          intro v538 v539 bv539 hmL540
          refine g_iload rfl ?_
          refine g_aload_n rfl ?_
          refine g_gfi hIH530 sm_0 rfl (fun v541 ev541 lv541 uv541 => ?_)
          refine g_if2_ge (fun c542 => ?_) (fun c542 => ?_)
          · refine g_iload_n rfl ?_
            exact g_iret ⟨_, rfl, hIH530, (JM_n hJH530), (e534.symm.trans ek0_2), m535⟩
          · refine g_aload_n rfl ?_
            refine g_gfr hIH530 sm_0 rfl ?_
            refine g_iload rfl ?_
            refine g_iaload hIH530 sm_22 rfl (by first | with_reducible assumption | omega) (fun v543 ev543 lv543 uv543 => ?_)
            refine g_iload_n rfl ?_
            refine g_if2_ne (fun c544 => ?_) (fun c544 => ?_)
            · refine g_iinc (l' := (fun v545 => [(0, .ref 0), (1, .int a1), (2, .int a2), (3, .int v538), (4, .int v545)])) rfl rfl (by decide) (by first | with_reducible assumption | omega) (fun _ => rfl) (fun v545 ev545 => ?_)
              refine g_goto ?_
              exact ihL540 v538 v545 (by first | with_reducible assumption | omega) (by first | with_reducible assumption | omega)
            · refine g_iload_n rfl ?_
              refine g_iload rfl ?_
              refine g_iconst (by decide) (fun v546 kv546 => ?_)
              refine g_iadd (by first | with_reducible assumption | omega) (fun v547 ev547 => ?_)
              refine g_aload_n rfl ?_
              refine g_gfi hIH530 sm_0 rfl (fun v548 ev548 lv548 uv548 => ?_)
              refine g_if2_ge (fun c549 => ?_) (fun c549 => ?_)
              · refine g_aload_n rfl ?_
                refine g_invvi hIH530 sm_0 rfl rfl rfl rfl (s_216 H530 hIH530 (JM_n hJH530)) (fun v552 H550 r551 => ?_)
                obtain rfl := r551
                refine g_nop ?_
                refine g_aload_n rfl ?_
                refine g_gfr hIH530 sm_0 rfl ?_
                refine g_iload rfl ?_
                refine g_iaload hIH530 sm_23 rfl (by first | with_reducible assumption | omega) (fun v553 ev553 lv553 uv553 => ?_)
                refine g_isub' (fun v554 ov554 => ?_)
                refine g_iadd' (fun v555 ov555 => ?_)
                refine g_istore_n (l' := [(0, .ref 0), (1, .int a1), (2, .int a2), (3, .int v555), (4, .int v539)]) rfl rfl ?_
                refine g_nop ?_
                refine g_iinc (l' := (fun v556 => [(0, .ref 0), (1, .int a1), (2, .int a2), (3, .int v555), (4, .int v556)])) rfl rfl (by decide) (by first | with_reducible assumption | omega) (fun _ => rfl) (fun v556 ev556 => ?_)
                refine g_goto ?_
                exact ihL540 v555 v556 (by first | with_reducible assumption | omega) (by first | with_reducible assumption | omega)
              · refine g_aload_n rfl ?_
                refine g_gfr hIH530 sm_0 rfl ?_
                refine g_iload rfl ?_
                refine g_iconst (by decide) (fun v557 kv557 => ?_)
                refine g_iadd (by first | with_reducible assumption | omega) (fun v558 ev558 => ?_)
                refine g_iaload hIH530 sm_23 rfl (by first | with_reducible assumption | omega) (fun v559 ev559 lv559 uv559 => ?_)
                refine g_goto ?_
                refine g_aload_n rfl ?_
                refine g_gfr hIH530 sm_0 rfl ?_
                refine g_iload rfl ?_
                refine g_iaload hIH530 sm_23 rfl (by first | with_reducible assumption | omega) (fun v560 ev560 lv560 uv560 => ?_)
                refine g_isub' (fun v561 ov561 => ?_)
                refine g_iadd' (fun v562 ov562 => ?_)
                refine g_istore_n (l' := [(0, .ref 0), (1, .int a1), (2, .int a2), (3, .int v562), (4, .int v539)]) rfl rfl ?_
                refine g_nop ?_
                refine g_iinc (l' := (fun v563 => [(0, .ref 0), (1, .int a1), (2, .int a2), (3, .int v562), (4, .int v563)])) rfl rfl (by decide) (by first | with_reducible assumption | omega) (fun _ => rfl) (fun v563 ev563 => ?_)
                refine g_goto ?_
                exact ihL540 v562 v563 (by first | with_reducible assumption | omega) (by first | with_reducible assumption | omega)
      exact L540 _ v536 v537 (by first | with_reducible assumption | omega) (Nat.lt_succ_self _)
    · refine g_iload_n rfl ?_
      refine g_bipush (by decide) (fun v564 kv564 => ?_)
      refine g_if2_eq (fun c565 => ?_) (fun c565 => ?_)
      · refine g_aload_n rfl ?_
        refine g_iload_n rfl ?_
        refine g_invvv hIH516 sm_0 rfl rfl rfl rfl (s_214 a1 (by first | with_reducible assumption | omega) H516 hIH516 hJH516) (fun H566 r567 => ?_)
        obtain ⟨hIH566, hJH566, w568, m569⟩ := r567
        have e570 : k0_2 = fZ H566 0 2 := e517.trans w568.symm
        have m571 : kpM H H566 := kpM_t m518 m569
        refine g_iconst (by decide) (fun v572 kv572 => ?_)
        refine g_istore_n (l' := [(0, .ref 0), (1, .int a1), (2, .int a2), (3, .int v572)]) rfl rfl ?_
        refine g_iconst (by decide) (fun v573 kv573 => ?_)
        refine g_istore (l' := [(0, .ref 0), (1, .int a1), (2, .int a2), (3, .int v572), (4, .int v573)]) rfl rfl ?_
        refine g_nop ?_
        have L576 : ∀ (N : Nat) (v574 : Int32) (v575 : Int32), (0 ≤ v575.toInt ∧ v575.toInt ≤ 60) → (60 - v575.toInt).toNat < N → gG 5 zB_217 (mzBlk zB_217 3) [(0, .ref 0), (1, .int a1), (2, .int a2), (3, .int v574), (4, .int v575)] [] H566 0 0 (gRi (fun v H' => gI SM H' ∧ JN H' ∧ fZ H' 0 2 = fZ H 0 2 ∧ kpM H H')) := by
          intro N
          induction N with
          | zero => intro v574 v575 bv575 hmL576; exact absurd hmL576 (Nat.not_lt_zero _)
          | succ N ihL576 =>
            intro v574 v575 bv575 hmL576
            refine g_iload rfl ?_
            refine g_aload_n rfl ?_
            refine g_gfi hIH566 sm_0 rfl (fun v577 ev577 lv577 uv577 => ?_)
            refine g_if2_ge (fun c578 => ?_) (fun c578 => ?_)
            · refine g_iload_n rfl ?_
              exact g_iret ⟨_, rfl, hIH566, (JM_n hJH566), (e570.symm.trans ek0_2), m571⟩
            · refine g_aload_n rfl ?_
              refine g_gfr hIH566 sm_0 rfl ?_
              refine g_iload rfl ?_
              refine g_iaload hIH566 sm_22 rfl (by first | with_reducible assumption | omega) (fun v579 ev579 lv579 uv579 => ?_)
              refine g_iload_n rfl ?_
              refine g_if2_ne (fun c580 => ?_) (fun c580 => ?_)
              · refine g_iinc (l' := (fun v581 => [(0, .ref 0), (1, .int a1), (2, .int a2), (3, .int v574), (4, .int v581)])) rfl rfl (by decide) (by first | with_reducible assumption | omega) (fun _ => rfl) (fun v581 ev581 => ?_)
                refine g_goto ?_
                exact ihL576 v574 v581 (by first | with_reducible assumption | omega) (by first | with_reducible assumption | omega)
              · refine g_iload_n rfl ?_
                refine g_iload rfl ?_
                refine g_iconst (by decide) (fun v582 kv582 => ?_)
                refine g_iadd (by first | with_reducible assumption | omega) (fun v583 ev583 => ?_)
                refine g_aload_n rfl ?_
                refine g_gfi hIH566 sm_0 rfl (fun v584 ev584 lv584 uv584 => ?_)
                refine g_if2_ge (fun c585 => ?_) (fun c585 => ?_)
                · refine g_aload_n rfl ?_
                  refine g_invvi hIH566 sm_0 rfl rfl rfl rfl (s_216 H566 hIH566 (JM_n hJH566)) (fun v588 H586 r587 => ?_)
                  obtain rfl := r587
                  refine g_nop ?_
                  refine g_aload_n rfl ?_
                  refine g_gfr hIH566 sm_0 rfl ?_
                  refine g_iload rfl ?_
                  refine g_iaload hIH566 sm_23 rfl (by first | with_reducible assumption | omega) (fun v589 ev589 lv589 uv589 => ?_)
                  refine g_isub' (fun v590 ov590 => ?_)
                  refine g_iadd' (fun v591 ov591 => ?_)
                  refine g_istore_n (l' := [(0, .ref 0), (1, .int a1), (2, .int a2), (3, .int v591), (4, .int v575)]) rfl rfl ?_
                  refine g_nop ?_
                  refine g_iinc (l' := (fun v592 => [(0, .ref 0), (1, .int a1), (2, .int a2), (3, .int v591), (4, .int v592)])) rfl rfl (by decide) (by first | with_reducible assumption | omega) (fun _ => rfl) (fun v592 ev592 => ?_)
                  refine g_goto ?_
                  exact ihL576 v591 v592 (by first | with_reducible assumption | omega) (by first | with_reducible assumption | omega)
                · refine g_aload_n rfl ?_
                  refine g_gfr hIH566 sm_0 rfl ?_
                  refine g_iload rfl ?_
                  refine g_iconst (by decide) (fun v593 kv593 => ?_)
                  refine g_iadd (by first | with_reducible assumption | omega) (fun v594 ev594 => ?_)
                  refine g_iaload hIH566 sm_23 rfl (by first | with_reducible assumption | omega) (fun v595 ev595 lv595 uv595 => ?_)
                  refine g_goto ?_
                  refine g_aload_n rfl ?_
                  refine g_gfr hIH566 sm_0 rfl ?_
                  refine g_iload rfl ?_
                  refine g_iaload hIH566 sm_23 rfl (by first | with_reducible assumption | omega) (fun v596 ev596 lv596 uv596 => ?_)
                  refine g_isub' (fun v597 ov597 => ?_)
                  refine g_iadd' (fun v598 ov598 => ?_)
                  refine g_istore_n (l' := [(0, .ref 0), (1, .int a1), (2, .int a2), (3, .int v598), (4, .int v575)]) rfl rfl ?_
                  refine g_nop ?_
                  refine g_iinc (l' := (fun v599 => [(0, .ref 0), (1, .int a1), (2, .int a2), (3, .int v598), (4, .int v599)])) rfl rfl (by decide) (by first | with_reducible assumption | omega) (fun _ => rfl) (fun v599 ev599 => ?_)
                  refine g_goto ?_
                  exact ihL576 v598 v599 (by first | with_reducible assumption | omega) (by first | with_reducible assumption | omega)
        exact L576 _ v572 v573 (by first | with_reducible assumption | omega) (Nat.lt_succ_self _)
      · refine g_nop ?_
        refine g_iconst (by decide) (fun v600 kv600 => ?_)
        exact g_iret ⟨_, rfl, hIH516, hJH516, (e517.symm.trans ek0_2), m518⟩
set_option maxRecDepth 4000 in
set_option maxHeartbeats 4000000 in
/-- M.flow -/
theorem s_218 (a1 : Int32) (a2 : Int32) (H : mzH) (hI : gI SM H) (hJ : JN H) : gCall 218 [.ref 0, .int a1, .int a2] H (gRi (fun v H' => gI SM H' ∧ JN H' ∧ fZ H' 0 2 = fZ H 0 2 ∧ kpM H H')) := by
  obtain ⟨k0_2, ek0_2⟩ : ∃ z, z = fZ H 0 2 := ⟨_, rfl⟩
  have ik0_2 : k0_2.toInt = (fZ H 0 2).toInt := by rw [← ek0_2]
  have bk0_2 : 0 ≤ k0_2.toInt ∧ k0_2.toInt ≤ 900 := by rw [ek0_2]; exact fZ_of hI sm_0 rfl
  have mkfr : kpM H H := kpM_r
  refine gG_call [(0, .ref 0), (1, .int a1), (2, .int a2)] ⟨rfl, rfl, rfl, trivial⟩ ?_
  show gG 7 zB_218 (mzBlk zB_218 0) [(0, .ref 0), (1, .int a1), (2, .int a2)] [] H 0 0 _
  refine g_aload_n rfl ?_
  refine g_iconst (by decide) (fun v1464 kv1464 => ?_)
  refine g_pfi hI sm_0 rfl (gz_any _) (fun H1465 eH1465 hIH1465 => ?_)
  have hJH1465 : JN H1465 := JN_sF eH1465 hJ
  have e1466 : k0_2 = fZ H1465 0 2 := by rw [eH1465, fZ_sF_ne (by decide)]; exact ek0_2
  have m1467 : kpM H H1465 := kpM_F mkfr eH1465 (by first | with_reducible assumption | omega)
  refine g_aload_n rfl ?_
  refine g_iload_n rfl ?_
  refine g_invvi hIH1465 sm_0 rfl rfl rfl rfl (s_210 a1 H1465 hIH1465 hJH1465) (fun v1470 H1468 r1469 => ?_)
  obtain ⟨rfl, bv1470, p1471⟩ := r1469
  refine g_if_ne (fun c1472 => ?_) (fun c1472 => ?_)
  · refine g_aload_n rfl ?_
    refine g_iload_n rfl ?_
    refine g_invvi hIH1465 sm_0 rfl rfl rfl rfl (s_210 a2 H1465 hIH1465 hJH1465) (fun v1475 H1473 r1474 => ?_)
    obtain ⟨rfl, bv1475, p1476⟩ := r1474
    refine g_if_ne (fun c1477 => ?_) (fun c1477 => ?_)
    · refine g_iload_n rfl ?_
      refine g_iload_n rfl ?_
      refine g_if2_eq (fun c1478 => ?_) (fun c1478 => ?_)
      · refine g_iconst (by decide) (fun v1479 kv1479 => ?_)
        refine g_nop ?_
        refine g_istore_n (l' := [(0, .ref 0), (1, .int a1), (2, .int a2), (3, .int v1479)]) rfl rfl ?_
        refine g_iload_n rfl ?_
        refine g_if_ne (fun c1480 => ?_) (fun c1480 => ?_)
        · exfalso; omega
        · refine g_iconst (by decide) (fun v1481 kv1481 => ?_)
          exact g_iret ⟨_, rfl, hIH1465, hJH1465, (e1466.symm.trans ek0_2), m1467⟩
      · refine g_iconst (by decide) (fun v1482 kv1482 => ?_)
        refine g_goto ?_
        refine g_istore_n (l' := [(0, .ref 0), (1, .int a1), (2, .int a2), (3, .int v1482)]) rfl rfl ?_
        refine g_iload_n rfl ?_
        refine g_if_ne (fun c1483 => ?_) (fun c1483 => ?_)
        · refine g_iconst (by decide) (fun v1484 kv1484 => ?_)
          refine g_istore (l' := [(0, .ref 0), (1, .int a1), (2, .int a2), (3, .int v1482), (4, .int v1484)]) rfl rfl ?_
          refine g_iconst (by decide) (fun v1485 kv1485 => ?_)
          refine g_istore (l' := [(0, .ref 0), (1, .int a1), (2, .int a2), (3, .int v1482), (4, .int v1484), (5, .int v1485)]) rfl rfl ?_
          refine g_nop ?_
          have L1491 : ∀ (N : Nat) (v1486 : Int32) (v1487 : Int32) (H1488 : mzH), gI SM H1488 → JN H1488 → k0_2 = fZ H1488 0 2 → kpM H H1488 → (0 ≤ v1487.toInt ∧ v1487.toInt ≤ 40) → (40 - v1487.toInt).toNat < N → gG 7 zB_218 (mzBlk zB_218 6) [(0, .ref 0), (1, .int a1), (2, .int a2), (3, .int v1482), (4, .int v1486), (5, .int v1487)] [] H1488 0 0 (gRi (fun v H' => gI SM H' ∧ JN H' ∧ fZ H' 0 2 = fZ H 0 2 ∧ kpM H H')) := by
            intro N
            induction N with
            | zero => intro v1486 v1487 H1488 hIH1488 hJH1488 e1489 m1490 bv1487 hmL1491; exact absurd hmL1491 (Nat.not_lt_zero _)
            | succ N ihL1491 =>
              intro v1486 v1487 H1488 hIH1488 hJH1488 e1489 m1490 bv1487 hmL1491
              refine g_iload rfl ?_
              refine g_bipush (by decide) (fun v1492 kv1492 => ?_)
              refine g_if2_ge (fun c1493 => ?_) (fun c1493 => ?_)
              · refine g_iload rfl ?_
                exact g_iret ⟨_, rfl, hIH1488, hJH1488, (e1489.symm.trans ek0_2), m1490⟩
              · refine g_aload_n rfl ?_
                refine g_iload rfl ?_
                refine g_invvv hIH1488 sm_0 rfl rfl rfl rfl (s_214 v1487 (by first | with_reducible assumption | omega) H1488 hIH1488 hJH1488) (fun H1494 r1495 => ?_)
                obtain ⟨hIH1494, hJH1494, w1496, m1497⟩ := r1495
                have e1498 : k0_2 = fZ H1494 0 2 := e1489.trans w1496.symm
                have m1499 : kpM H H1494 := kpM_t m1490 m1497
                refine g_iconst (by decide) (fun v1500 kv1500 => ?_)
                refine g_istore (l' := [(0, .ref 0), (1, .int a1), (2, .int a2), (3, .int v1482), (4, .int v1486), (5, .int v1487), (6, .int v1500)]) rfl rfl ?_
                refine g_nop ?_
                have L1503 : ∀ (N : Nat) (v1501 : Int32) (v1502 : Int32), (0 ≤ v1502.toInt ∧ v1502.toInt ≤ 59) → (59 - v1502.toInt).toNat < N → gG 7 zB_218 (mzBlk zB_218 7) [(0, .ref 0), (1, .int a1), (2, .int a2), (3, .int v1482), (4, .int v1501), (5, .int v1487), (6, .int v1502)] [] H1494 0 0 (gRi (fun v H' => gI SM H' ∧ JN H' ∧ fZ H' 0 2 = fZ H 0 2 ∧ kpM H H')) := by
                  intro N
                  induction N with
                  | zero => intro v1501 v1502 bv1502 hmL1503; exact absurd hmL1503 (Nat.not_lt_zero _)
                  | succ N ihL1503 =>
                    intro v1501 v1502 bv1502 hmL1503
                    refine g_iload rfl ?_
                    refine g_iconst (by decide) (fun v1504 kv1504 => ?_)
                    refine g_iadd (by first | with_reducible assumption | omega) (fun v1505 ev1505 => ?_)
                    refine g_aload_n rfl ?_
                    refine g_gfi hIH1494 sm_0 rfl (fun v1506 ev1506 lv1506 uv1506 => ?_)
                    refine g_if2_ge (fun c1507 => ?_) (fun c1507 => ?_)
                    · refine g_iinc (l' := (fun v1508 => [(0, .ref 0), (1, .int a1), (2, .int a2), (3, .int v1482), (4, .int v1501), (5, .int v1508), (6, .int v1502)])) rfl rfl (by decide) (by first | with_reducible assumption | omega) (fun _ => rfl) (fun v1508 ev1508 => ?_)
                      refine g_goto ?_
                      refine gG_pick [0, 1, 2, 3, 4, 5] (l' := [(0, .ref 0), (1, .int a1), (2, .int a2), (3, .int v1482), (4, .int v1501), (5, .int v1508)]) rfl ?_
                      exact ihL1491 v1501 v1508 H1494 hIH1494 (JM_n hJH1494) e1498 m1499 (by first | with_reducible assumption | omega) (by first | with_reducible assumption | omega)
                    · refine g_iload rfl ?_
                      refine g_aload_n rfl ?_
                      refine g_gfr hIH1494 sm_0 rfl ?_
                      refine g_iload rfl ?_
                      refine g_iaload hIH1494 sm_22 rfl (by first | with_reducible assumption | omega) (fun v1509 ev1509 lv1509 uv1509 => ?_)
                      refine g_iload_n rfl ?_
                      refine g_if2_ne (fun c1510 => ?_) (fun c1510 => ?_)
                      · refine g_iconst (by decide) (fun v1511 kv1511 => ?_)
                        refine g_nop ?_
                        refine g_iadd (by have := gz_any v1501; omega) (fun v1512 ev1512 => ?_)
                        refine g_istore (l' := [(0, .ref 0), (1, .int a1), (2, .int a2), (3, .int v1482), (4, .int v1512), (5, .int v1487), (6, .int v1502)]) rfl rfl ?_
                        refine g_iinc (l' := (fun v1513 => [(0, .ref 0), (1, .int a1), (2, .int a2), (3, .int v1482), (4, .int v1512), (5, .int v1487), (6, .int v1513)])) rfl rfl (by decide) (by first | with_reducible assumption | omega) (fun _ => rfl) (fun v1513 ev1513 => ?_)
                        refine g_goto ?_
                        exact ihL1503 v1512 v1513 (by first | with_reducible assumption | omega) (by first | with_reducible assumption | omega)
                      · refine g_aload_n rfl ?_
                        refine g_gfr hIH1494 sm_0 rfl ?_
                        refine g_iload rfl ?_
                        refine g_iconst (by decide) (fun v1514 kv1514 => ?_)
                        refine g_iadd (by first | with_reducible assumption | omega) (fun v1515 ev1515 => ?_)
                        refine g_iaload hIH1494 sm_22 rfl (by first | with_reducible assumption | omega) (fun v1516 ev1516 lv1516 uv1516 => ?_)
                        refine g_iload_n rfl ?_
                        refine g_if2_ne (fun c1517 => ?_) (fun c1517 => ?_)
                        · refine g_iconst (by decide) (fun v1518 kv1518 => ?_)
                          refine g_nop ?_
                          refine g_iadd (by have := gz_any v1501; omega) (fun v1519 ev1519 => ?_)
                          refine g_istore (l' := [(0, .ref 0), (1, .int a1), (2, .int a2), (3, .int v1482), (4, .int v1519), (5, .int v1487), (6, .int v1502)]) rfl rfl ?_
                          refine g_iinc (l' := (fun v1520 => [(0, .ref 0), (1, .int a1), (2, .int a2), (3, .int v1482), (4, .int v1519), (5, .int v1487), (6, .int v1520)])) rfl rfl (by decide) (by first | with_reducible assumption | omega) (fun _ => rfl) (fun v1520 ev1520 => ?_)
                          refine g_goto ?_
                          exact ihL1503 v1519 v1520 (by first | with_reducible assumption | omega) (by first | with_reducible assumption | omega)
                        · refine g_iconst (by decide) (fun v1521 kv1521 => ?_)
                          refine g_goto ?_
                          refine g_iadd' (fun v1522 ov1522 => ?_)
                          refine g_istore (l' := [(0, .ref 0), (1, .int a1), (2, .int a2), (3, .int v1482), (4, .int v1522), (5, .int v1487), (6, .int v1502)]) rfl rfl ?_
                          refine g_iinc (l' := (fun v1523 => [(0, .ref 0), (1, .int a1), (2, .int a2), (3, .int v1482), (4, .int v1522), (5, .int v1487), (6, .int v1523)])) rfl rfl (by decide) (by first | with_reducible assumption | omega) (fun _ => rfl) (fun v1523 ev1523 => ?_)
                          refine g_goto ?_
                          exact ihL1503 v1522 v1523 (by first | with_reducible assumption | omega) (by first | with_reducible assumption | omega)
                exact L1503 _ v1486 v1500 (by first | with_reducible assumption | omega) (Nat.lt_succ_self _)
          exact L1491 _ v1484 v1485 H1465 hIH1465 hJH1465 e1466 m1467 (by first | with_reducible assumption | omega) (Nat.lt_succ_self _)
        · exfalso; omega
    · refine g_iload_n rfl ?_
      refine g_bipush (by decide) (fun v1524 kv1524 => ?_)
      refine g_if2_eq (fun c1525 => ?_) (fun c1525 => ?_)
      · refine g_iload_n rfl ?_
        refine g_iload_n rfl ?_
        refine g_if2_eq (fun c1526 => ?_) (fun c1526 => ?_)
        · exfalso; omega
        · refine g_iconst (by decide) (fun v1527 kv1527 => ?_)
          refine g_goto ?_
          refine g_istore_n (l' := [(0, .ref 0), (1, .int a1), (2, .int a2), (3, .int v1527)]) rfl rfl ?_
          refine g_iload_n rfl ?_
          refine g_if_ne (fun c1528 => ?_) (fun c1528 => ?_)
          · refine g_iconst (by decide) (fun v1529 kv1529 => ?_)
            refine g_istore (l' := [(0, .ref 0), (1, .int a1), (2, .int a2), (3, .int v1527), (4, .int v1529)]) rfl rfl ?_
            refine g_iconst (by decide) (fun v1530 kv1530 => ?_)
            refine g_istore (l' := [(0, .ref 0), (1, .int a1), (2, .int a2), (3, .int v1527), (4, .int v1529), (5, .int v1530)]) rfl rfl ?_
            refine g_nop ?_
            have L1536 : ∀ (N : Nat) (v1531 : Int32) (v1532 : Int32) (H1533 : mzH), gI SM H1533 → JN H1533 → k0_2 = fZ H1533 0 2 → kpM H H1533 → (0 ≤ v1532.toInt ∧ v1532.toInt ≤ 40) → (40 - v1532.toInt).toNat < N → gG 7 zB_218 (mzBlk zB_218 6) [(0, .ref 0), (1, .int a1), (2, .int a2), (3, .int v1527), (4, .int v1531), (5, .int v1532)] [] H1533 0 0 (gRi (fun v H' => gI SM H' ∧ JN H' ∧ fZ H' 0 2 = fZ H 0 2 ∧ kpM H H')) := by
              intro N
              induction N with
              | zero => intro v1531 v1532 H1533 hIH1533 hJH1533 e1534 m1535 bv1532 hmL1536; exact absurd hmL1536 (Nat.not_lt_zero _)
              | succ N ihL1536 =>
                intro v1531 v1532 H1533 hIH1533 hJH1533 e1534 m1535 bv1532 hmL1536
                refine g_iload rfl ?_
                refine g_bipush (by decide) (fun v1537 kv1537 => ?_)
                refine g_if2_ge (fun c1538 => ?_) (fun c1538 => ?_)
                · refine g_iload rfl ?_
                  exact g_iret ⟨_, rfl, hIH1533, hJH1533, (e1534.symm.trans ek0_2), m1535⟩
                · refine g_aload_n rfl ?_
                  refine g_iload rfl ?_
                  refine g_invvv hIH1533 sm_0 rfl rfl rfl rfl (s_214 v1532 (by first | with_reducible assumption | omega) H1533 hIH1533 hJH1533) (fun H1539 r1540 => ?_)
                  obtain ⟨hIH1539, hJH1539, w1541, m1542⟩ := r1540
                  have e1543 : k0_2 = fZ H1539 0 2 := e1534.trans w1541.symm
                  have m1544 : kpM H H1539 := kpM_t m1535 m1542
                  refine g_iconst (by decide) (fun v1545 kv1545 => ?_)
                  refine g_istore (l' := [(0, .ref 0), (1, .int a1), (2, .int a2), (3, .int v1527), (4, .int v1531), (5, .int v1532), (6, .int v1545)]) rfl rfl ?_
                  refine g_nop ?_
                  have L1548 : ∀ (N : Nat) (v1546 : Int32) (v1547 : Int32), (0 ≤ v1547.toInt ∧ v1547.toInt ≤ 59) → (59 - v1547.toInt).toNat < N → gG 7 zB_218 (mzBlk zB_218 7) [(0, .ref 0), (1, .int a1), (2, .int a2), (3, .int v1527), (4, .int v1546), (5, .int v1532), (6, .int v1547)] [] H1539 0 0 (gRi (fun v H' => gI SM H' ∧ JN H' ∧ fZ H' 0 2 = fZ H 0 2 ∧ kpM H H')) := by
                    intro N
                    induction N with
                    | zero => intro v1546 v1547 bv1547 hmL1548; exact absurd hmL1548 (Nat.not_lt_zero _)
                    | succ N ihL1548 =>
                      intro v1546 v1547 bv1547 hmL1548
                      refine g_iload rfl ?_
                      refine g_iconst (by decide) (fun v1549 kv1549 => ?_)
                      refine g_iadd (by first | with_reducible assumption | omega) (fun v1550 ev1550 => ?_)
                      refine g_aload_n rfl ?_
                      refine g_gfi hIH1539 sm_0 rfl (fun v1551 ev1551 lv1551 uv1551 => ?_)
                      refine g_if2_ge (fun c1552 => ?_) (fun c1552 => ?_)
                      · refine g_iinc (l' := (fun v1553 => [(0, .ref 0), (1, .int a1), (2, .int a2), (3, .int v1527), (4, .int v1546), (5, .int v1553), (6, .int v1547)])) rfl rfl (by decide) (by first | with_reducible assumption | omega) (fun _ => rfl) (fun v1553 ev1553 => ?_)
                        refine g_goto ?_
                        refine gG_pick [0, 1, 2, 3, 4, 5] (l' := [(0, .ref 0), (1, .int a1), (2, .int a2), (3, .int v1527), (4, .int v1546), (5, .int v1553)]) rfl ?_
                        exact ihL1536 v1546 v1553 H1539 hIH1539 (JM_n hJH1539) e1543 m1544 (by first | with_reducible assumption | omega) (by first | with_reducible assumption | omega)
                      · refine g_iload rfl ?_
                        refine g_aload_n rfl ?_
                        refine g_gfr hIH1539 sm_0 rfl ?_
                        refine g_iload rfl ?_
                        refine g_iaload hIH1539 sm_22 rfl (by first | with_reducible assumption | omega) (fun v1554 ev1554 lv1554 uv1554 => ?_)
                        refine g_iload_n rfl ?_
                        refine g_if2_ne (fun c1555 => ?_) (fun c1555 => ?_)
                        · refine g_iconst (by decide) (fun v1556 kv1556 => ?_)
                          refine g_nop ?_
                          refine g_iadd (by have := gz_any v1546; omega) (fun v1557 ev1557 => ?_)
                          refine g_istore (l' := [(0, .ref 0), (1, .int a1), (2, .int a2), (3, .int v1527), (4, .int v1557), (5, .int v1532), (6, .int v1547)]) rfl rfl ?_
                          refine g_iinc (l' := (fun v1558 => [(0, .ref 0), (1, .int a1), (2, .int a2), (3, .int v1527), (4, .int v1557), (5, .int v1532), (6, .int v1558)])) rfl rfl (by decide) (by first | with_reducible assumption | omega) (fun _ => rfl) (fun v1558 ev1558 => ?_)
                          refine g_goto ?_
                          exact ihL1548 v1557 v1558 (by first | with_reducible assumption | omega) (by first | with_reducible assumption | omega)
                        · refine g_aload_n rfl ?_
                          refine g_gfr hIH1539 sm_0 rfl ?_
                          refine g_iload rfl ?_
                          refine g_iconst (by decide) (fun v1559 kv1559 => ?_)
                          refine g_iadd (by first | with_reducible assumption | omega) (fun v1560 ev1560 => ?_)
                          refine g_iaload hIH1539 sm_22 rfl (by first | with_reducible assumption | omega) (fun v1561 ev1561 lv1561 uv1561 => ?_)
                          refine g_iload_n rfl ?_
                          refine g_if2_ne (fun c1562 => ?_) (fun c1562 => ?_)
                          · refine g_iconst (by decide) (fun v1563 kv1563 => ?_)
                            refine g_nop ?_
                            refine g_iadd (by have := gz_any v1546; omega) (fun v1564 ev1564 => ?_)
                            refine g_istore (l' := [(0, .ref 0), (1, .int a1), (2, .int a2), (3, .int v1527), (4, .int v1564), (5, .int v1532), (6, .int v1547)]) rfl rfl ?_
                            refine g_iinc (l' := (fun v1565 => [(0, .ref 0), (1, .int a1), (2, .int a2), (3, .int v1527), (4, .int v1564), (5, .int v1532), (6, .int v1565)])) rfl rfl (by decide) (by first | with_reducible assumption | omega) (fun _ => rfl) (fun v1565 ev1565 => ?_)
                            refine g_goto ?_
                            exact ihL1548 v1564 v1565 (by first | with_reducible assumption | omega) (by first | with_reducible assumption | omega)
                          · refine g_iconst (by decide) (fun v1566 kv1566 => ?_)
                            refine g_goto ?_
                            refine g_iadd' (fun v1567 ov1567 => ?_)
                            refine g_istore (l' := [(0, .ref 0), (1, .int a1), (2, .int a2), (3, .int v1527), (4, .int v1567), (5, .int v1532), (6, .int v1547)]) rfl rfl ?_
                            refine g_iinc (l' := (fun v1568 => [(0, .ref 0), (1, .int a1), (2, .int a2), (3, .int v1527), (4, .int v1567), (5, .int v1532), (6, .int v1568)])) rfl rfl (by decide) (by first | with_reducible assumption | omega) (fun _ => rfl) (fun v1568 ev1568 => ?_)
                            refine g_goto ?_
                            exact ihL1548 v1567 v1568 (by first | with_reducible assumption | omega) (by first | with_reducible assumption | omega)
                  exact L1548 _ v1531 v1545 (by first | with_reducible assumption | omega) (Nat.lt_succ_self _)
            exact L1536 _ v1529 v1530 H1465 hIH1465 hJH1465 e1466 m1467 (by first | with_reducible assumption | omega) (Nat.lt_succ_self _)
          · exfalso; omega
      · refine g_iload_n rfl ?_
        refine g_bipush (by decide) (fun v1569 kv1569 => ?_)
        refine g_if2_ne (fun c1570 => ?_) (fun c1570 => ?_)
        · refine g_iconst (by decide) (fun v1571 kv1571 => ?_)
          refine g_nop ?_
          refine g_istore_n (l' := [(0, .ref 0), (1, .int a1), (2, .int a2), (3, .int v1571)]) rfl rfl ?_
          refine g_iload_n rfl ?_
          refine g_if_ne (fun c1572 => ?_) (fun c1572 => ?_)
          · exfalso; omega
          · refine g_iconst (by decide) (fun v1573 kv1573 => ?_)
            exact g_iret ⟨_, rfl, hIH1465, hJH1465, (e1466.symm.trans ek0_2), m1467⟩
        · refine g_nop ?_
          refine g_iload_n rfl ?_
          refine g_iload_n rfl ?_
          refine g_if2_eq (fun c1574 => ?_) (fun c1574 => ?_)
          · exfalso; omega
          · refine g_iconst (by decide) (fun v1575 kv1575 => ?_)
            refine g_goto ?_
            refine g_istore_n (l' := [(0, .ref 0), (1, .int a1), (2, .int a2), (3, .int v1575)]) rfl rfl ?_
            refine g_iload_n rfl ?_
            refine g_if_ne (fun c1576 => ?_) (fun c1576 => ?_)
            · refine g_iconst (by decide) (fun v1577 kv1577 => ?_)
              refine g_istore (l' := [(0, .ref 0), (1, .int a1), (2, .int a2), (3, .int v1575), (4, .int v1577)]) rfl rfl ?_
              refine g_iconst (by decide) (fun v1578 kv1578 => ?_)
              refine g_istore (l' := [(0, .ref 0), (1, .int a1), (2, .int a2), (3, .int v1575), (4, .int v1577), (5, .int v1578)]) rfl rfl ?_
              refine g_nop ?_
              have L1584 : ∀ (N : Nat) (v1579 : Int32) (v1580 : Int32) (H1581 : mzH), gI SM H1581 → JN H1581 → k0_2 = fZ H1581 0 2 → kpM H H1581 → (0 ≤ v1580.toInt ∧ v1580.toInt ≤ 40) → (40 - v1580.toInt).toNat < N → gG 7 zB_218 (mzBlk zB_218 6) [(0, .ref 0), (1, .int a1), (2, .int a2), (3, .int v1575), (4, .int v1579), (5, .int v1580)] [] H1581 0 0 (gRi (fun v H' => gI SM H' ∧ JN H' ∧ fZ H' 0 2 = fZ H 0 2 ∧ kpM H H')) := by
                intro N
                induction N with
                | zero => intro v1579 v1580 H1581 hIH1581 hJH1581 e1582 m1583 bv1580 hmL1584; exact absurd hmL1584 (Nat.not_lt_zero _)
                | succ N ihL1584 =>
                  intro v1579 v1580 H1581 hIH1581 hJH1581 e1582 m1583 bv1580 hmL1584
                  refine g_iload rfl ?_
                  refine g_bipush (by decide) (fun v1585 kv1585 => ?_)
                  refine g_if2_ge (fun c1586 => ?_) (fun c1586 => ?_)
                  · refine g_iload rfl ?_
                    exact g_iret ⟨_, rfl, hIH1581, hJH1581, (e1582.symm.trans ek0_2), m1583⟩
                  · refine g_aload_n rfl ?_
                    refine g_iload rfl ?_
                    refine g_invvv hIH1581 sm_0 rfl rfl rfl rfl (s_214 v1580 (by first | with_reducible assumption | omega) H1581 hIH1581 hJH1581) (fun H1587 r1588 => ?_)
                    obtain ⟨hIH1587, hJH1587, w1589, m1590⟩ := r1588
                    have e1591 : k0_2 = fZ H1587 0 2 := e1582.trans w1589.symm
                    have m1592 : kpM H H1587 := kpM_t m1583 m1590
                    refine g_iconst (by decide) (fun v1593 kv1593 => ?_)
                    refine g_istore (l' := [(0, .ref 0), (1, .int a1), (2, .int a2), (3, .int v1575), (4, .int v1579), (5, .int v1580), (6, .int v1593)]) rfl rfl ?_
                    refine g_nop ?_
                    have L1596 : ∀ (N : Nat) (v1594 : Int32) (v1595 : Int32), (0 ≤ v1595.toInt ∧ v1595.toInt ≤ 59) → (59 - v1595.toInt).toNat < N → gG 7 zB_218 (mzBlk zB_218 7) [(0, .ref 0), (1, .int a1), (2, .int a2), (3, .int v1575), (4, .int v1594), (5, .int v1580), (6, .int v1595)] [] H1587 0 0 (gRi (fun v H' => gI SM H' ∧ JN H' ∧ fZ H' 0 2 = fZ H 0 2 ∧ kpM H H')) := by
                      intro N
                      induction N with
                      | zero => intro v1594 v1595 bv1595 hmL1596; exact absurd hmL1596 (Nat.not_lt_zero _)
                      | succ N ihL1596 =>
                        intro v1594 v1595 bv1595 hmL1596
                        refine g_iload rfl ?_
                        refine g_iconst (by decide) (fun v1597 kv1597 => ?_)
                        refine g_iadd (by first | with_reducible assumption | omega) (fun v1598 ev1598 => ?_)
                        refine g_aload_n rfl ?_
                        refine g_gfi hIH1587 sm_0 rfl (fun v1599 ev1599 lv1599 uv1599 => ?_)
                        refine g_if2_ge (fun c1600 => ?_) (fun c1600 => ?_)
                        · refine g_iinc (l' := (fun v1601 => [(0, .ref 0), (1, .int a1), (2, .int a2), (3, .int v1575), (4, .int v1594), (5, .int v1601), (6, .int v1595)])) rfl rfl (by decide) (by first | with_reducible assumption | omega) (fun _ => rfl) (fun v1601 ev1601 => ?_)
                          refine g_goto ?_
                          refine gG_pick [0, 1, 2, 3, 4, 5] (l' := [(0, .ref 0), (1, .int a1), (2, .int a2), (3, .int v1575), (4, .int v1594), (5, .int v1601)]) rfl ?_
                          exact ihL1584 v1594 v1601 H1587 hIH1587 (JM_n hJH1587) e1591 m1592 (by first | with_reducible assumption | omega) (by first | with_reducible assumption | omega)
                        · refine g_iload rfl ?_
                          refine g_aload_n rfl ?_
                          refine g_gfr hIH1587 sm_0 rfl ?_
                          refine g_iload rfl ?_
                          refine g_iaload hIH1587 sm_22 rfl (by first | with_reducible assumption | omega) (fun v1602 ev1602 lv1602 uv1602 => ?_)
                          refine g_iload_n rfl ?_
                          refine g_if2_ne (fun c1603 => ?_) (fun c1603 => ?_)
                          · refine g_iconst (by decide) (fun v1604 kv1604 => ?_)
                            refine g_nop ?_
                            refine g_iadd (by have := gz_any v1594; omega) (fun v1605 ev1605 => ?_)
                            refine g_istore (l' := [(0, .ref 0), (1, .int a1), (2, .int a2), (3, .int v1575), (4, .int v1605), (5, .int v1580), (6, .int v1595)]) rfl rfl ?_
                            refine g_iinc (l' := (fun v1606 => [(0, .ref 0), (1, .int a1), (2, .int a2), (3, .int v1575), (4, .int v1605), (5, .int v1580), (6, .int v1606)])) rfl rfl (by decide) (by first | with_reducible assumption | omega) (fun _ => rfl) (fun v1606 ev1606 => ?_)
                            refine g_goto ?_
                            exact ihL1596 v1605 v1606 (by first | with_reducible assumption | omega) (by first | with_reducible assumption | omega)
                          · refine g_aload_n rfl ?_
                            refine g_gfr hIH1587 sm_0 rfl ?_
                            refine g_iload rfl ?_
                            refine g_iconst (by decide) (fun v1607 kv1607 => ?_)
                            refine g_iadd (by first | with_reducible assumption | omega) (fun v1608 ev1608 => ?_)
                            refine g_iaload hIH1587 sm_22 rfl (by first | with_reducible assumption | omega) (fun v1609 ev1609 lv1609 uv1609 => ?_)
                            refine g_iload_n rfl ?_
                            refine g_if2_ne (fun c1610 => ?_) (fun c1610 => ?_)
                            · refine g_iconst (by decide) (fun v1611 kv1611 => ?_)
                              refine g_nop ?_
                              refine g_iadd (by have := gz_any v1594; omega) (fun v1612 ev1612 => ?_)
                              refine g_istore (l' := [(0, .ref 0), (1, .int a1), (2, .int a2), (3, .int v1575), (4, .int v1612), (5, .int v1580), (6, .int v1595)]) rfl rfl ?_
                              refine g_iinc (l' := (fun v1613 => [(0, .ref 0), (1, .int a1), (2, .int a2), (3, .int v1575), (4, .int v1612), (5, .int v1580), (6, .int v1613)])) rfl rfl (by decide) (by first | with_reducible assumption | omega) (fun _ => rfl) (fun v1613 ev1613 => ?_)
                              refine g_goto ?_
                              exact ihL1596 v1612 v1613 (by first | with_reducible assumption | omega) (by first | with_reducible assumption | omega)
                            · refine g_iconst (by decide) (fun v1614 kv1614 => ?_)
                              refine g_goto ?_
                              refine g_iadd' (fun v1615 ov1615 => ?_)
                              refine g_istore (l' := [(0, .ref 0), (1, .int a1), (2, .int a2), (3, .int v1575), (4, .int v1615), (5, .int v1580), (6, .int v1595)]) rfl rfl ?_
                              refine g_iinc (l' := (fun v1616 => [(0, .ref 0), (1, .int a1), (2, .int a2), (3, .int v1575), (4, .int v1615), (5, .int v1580), (6, .int v1616)])) rfl rfl (by decide) (by first | with_reducible assumption | omega) (fun _ => rfl) (fun v1616 ev1616 => ?_)
                              refine g_goto ?_
                              exact ihL1596 v1615 v1616 (by first | with_reducible assumption | omega) (by first | with_reducible assumption | omega)
                    exact L1596 _ v1579 v1593 (by first | with_reducible assumption | omega) (Nat.lt_succ_self _)
              exact L1584 _ v1577 v1578 H1465 hIH1465 hJH1465 e1466 m1467 (by first | with_reducible assumption | omega) (Nat.lt_succ_self _)
            · exfalso; omega
  · refine g_iload_n rfl ?_
    refine g_bipush (by decide) (fun v1617 kv1617 => ?_)
    refine g_if2_ne (fun c1618 => ?_) (fun c1618 => ?_)
    · refine g_iconst (by decide) (fun v1619 kv1619 => ?_)
      refine g_nop ?_
      refine g_istore_n (l' := [(0, .ref 0), (1, .int a1), (2, .int a2), (3, .int v1619)]) rfl rfl ?_
      refine g_iload_n rfl ?_
      refine g_if_ne (fun c1620 => ?_) (fun c1620 => ?_)
      · exfalso; omega
      · refine g_iconst (by decide) (fun v1621 kv1621 => ?_)
        exact g_iret ⟨_, rfl, hIH1465, hJH1465, (e1466.symm.trans ek0_2), m1467⟩
    · refine g_nop ?_
      refine g_aload_n rfl ?_
      refine g_iload_n rfl ?_
      refine g_invvi hIH1465 sm_0 rfl rfl rfl rfl (s_210 a2 H1465 hIH1465 hJH1465) (fun v1624 H1622 r1623 => ?_)
      obtain ⟨rfl, bv1624, p1625⟩ := r1623
      refine g_if_ne (fun c1626 => ?_) (fun c1626 => ?_)
      · refine g_iload_n rfl ?_
        refine g_iload_n rfl ?_
        refine g_if2_eq (fun c1627 => ?_) (fun c1627 => ?_)
        · exfalso; omega
        · refine g_iconst (by decide) (fun v1628 kv1628 => ?_)
          refine g_goto ?_
          refine g_istore_n (l' := [(0, .ref 0), (1, .int a1), (2, .int a2), (3, .int v1628)]) rfl rfl ?_
          refine g_iload_n rfl ?_
          refine g_if_ne (fun c1629 => ?_) (fun c1629 => ?_)
          · refine g_iconst (by decide) (fun v1630 kv1630 => ?_)
            refine g_istore (l' := [(0, .ref 0), (1, .int a1), (2, .int a2), (3, .int v1628), (4, .int v1630)]) rfl rfl ?_
            refine g_iconst (by decide) (fun v1631 kv1631 => ?_)
            refine g_istore (l' := [(0, .ref 0), (1, .int a1), (2, .int a2), (3, .int v1628), (4, .int v1630), (5, .int v1631)]) rfl rfl ?_
            refine g_nop ?_
            have L1637 : ∀ (N : Nat) (v1632 : Int32) (v1633 : Int32) (H1634 : mzH), gI SM H1634 → JN H1634 → k0_2 = fZ H1634 0 2 → kpM H H1634 → (0 ≤ v1633.toInt ∧ v1633.toInt ≤ 40) → (40 - v1633.toInt).toNat < N → gG 7 zB_218 (mzBlk zB_218 6) [(0, .ref 0), (1, .int a1), (2, .int a2), (3, .int v1628), (4, .int v1632), (5, .int v1633)] [] H1634 0 0 (gRi (fun v H' => gI SM H' ∧ JN H' ∧ fZ H' 0 2 = fZ H 0 2 ∧ kpM H H')) := by
              intro N
              induction N with
              | zero => intro v1632 v1633 H1634 hIH1634 hJH1634 e1635 m1636 bv1633 hmL1637; exact absurd hmL1637 (Nat.not_lt_zero _)
              | succ N ihL1637 =>
                intro v1632 v1633 H1634 hIH1634 hJH1634 e1635 m1636 bv1633 hmL1637
                refine g_iload rfl ?_
                refine g_bipush (by decide) (fun v1638 kv1638 => ?_)
                refine g_if2_ge (fun c1639 => ?_) (fun c1639 => ?_)
                · refine g_iload rfl ?_
                  exact g_iret ⟨_, rfl, hIH1634, hJH1634, (e1635.symm.trans ek0_2), m1636⟩
                · refine g_aload_n rfl ?_
                  refine g_iload rfl ?_
                  refine g_invvv hIH1634 sm_0 rfl rfl rfl rfl (s_214 v1633 (by first | with_reducible assumption | omega) H1634 hIH1634 hJH1634) (fun H1640 r1641 => ?_)
                  obtain ⟨hIH1640, hJH1640, w1642, m1643⟩ := r1641
                  have e1644 : k0_2 = fZ H1640 0 2 := e1635.trans w1642.symm
                  have m1645 : kpM H H1640 := kpM_t m1636 m1643
                  refine g_iconst (by decide) (fun v1646 kv1646 => ?_)
                  refine g_istore (l' := [(0, .ref 0), (1, .int a1), (2, .int a2), (3, .int v1628), (4, .int v1632), (5, .int v1633), (6, .int v1646)]) rfl rfl ?_
                  refine g_nop ?_
                  have L1649 : ∀ (N : Nat) (v1647 : Int32) (v1648 : Int32), (0 ≤ v1648.toInt ∧ v1648.toInt ≤ 59) → (59 - v1648.toInt).toNat < N → gG 7 zB_218 (mzBlk zB_218 7) [(0, .ref 0), (1, .int a1), (2, .int a2), (3, .int v1628), (4, .int v1647), (5, .int v1633), (6, .int v1648)] [] H1640 0 0 (gRi (fun v H' => gI SM H' ∧ JN H' ∧ fZ H' 0 2 = fZ H 0 2 ∧ kpM H H')) := by
                    intro N
                    induction N with
                    | zero => intro v1647 v1648 bv1648 hmL1649; exact absurd hmL1649 (Nat.not_lt_zero _)
                    | succ N ihL1649 =>
                      intro v1647 v1648 bv1648 hmL1649
                      refine g_iload rfl ?_
                      refine g_iconst (by decide) (fun v1650 kv1650 => ?_)
                      refine g_iadd (by first | with_reducible assumption | omega) (fun v1651 ev1651 => ?_)
                      refine g_aload_n rfl ?_
                      refine g_gfi hIH1640 sm_0 rfl (fun v1652 ev1652 lv1652 uv1652 => ?_)
                      refine g_if2_ge (fun c1653 => ?_) (fun c1653 => ?_)
                      · refine g_iinc (l' := (fun v1654 => [(0, .ref 0), (1, .int a1), (2, .int a2), (3, .int v1628), (4, .int v1647), (5, .int v1654), (6, .int v1648)])) rfl rfl (by decide) (by first | with_reducible assumption | omega) (fun _ => rfl) (fun v1654 ev1654 => ?_)
                        refine g_goto ?_
                        refine gG_pick [0, 1, 2, 3, 4, 5] (l' := [(0, .ref 0), (1, .int a1), (2, .int a2), (3, .int v1628), (4, .int v1647), (5, .int v1654)]) rfl ?_
                        exact ihL1637 v1647 v1654 H1640 hIH1640 (JM_n hJH1640) e1644 m1645 (by first | with_reducible assumption | omega) (by first | with_reducible assumption | omega)
                      · refine g_iload rfl ?_
                        refine g_aload_n rfl ?_
                        refine g_gfr hIH1640 sm_0 rfl ?_
                        refine g_iload rfl ?_
                        refine g_iaload hIH1640 sm_22 rfl (by first | with_reducible assumption | omega) (fun v1655 ev1655 lv1655 uv1655 => ?_)
                        refine g_iload_n rfl ?_
                        refine g_if2_ne (fun c1656 => ?_) (fun c1656 => ?_)
                        · refine g_iconst (by decide) (fun v1657 kv1657 => ?_)
                          refine g_nop ?_
                          refine g_iadd (by have := gz_any v1647; omega) (fun v1658 ev1658 => ?_)
                          refine g_istore (l' := [(0, .ref 0), (1, .int a1), (2, .int a2), (3, .int v1628), (4, .int v1658), (5, .int v1633), (6, .int v1648)]) rfl rfl ?_
                          refine g_iinc (l' := (fun v1659 => [(0, .ref 0), (1, .int a1), (2, .int a2), (3, .int v1628), (4, .int v1658), (5, .int v1633), (6, .int v1659)])) rfl rfl (by decide) (by first | with_reducible assumption | omega) (fun _ => rfl) (fun v1659 ev1659 => ?_)
                          refine g_goto ?_
                          exact ihL1649 v1658 v1659 (by first | with_reducible assumption | omega) (by first | with_reducible assumption | omega)
                        · refine g_aload_n rfl ?_
                          refine g_gfr hIH1640 sm_0 rfl ?_
                          refine g_iload rfl ?_
                          refine g_iconst (by decide) (fun v1660 kv1660 => ?_)
                          refine g_iadd (by first | with_reducible assumption | omega) (fun v1661 ev1661 => ?_)
                          refine g_iaload hIH1640 sm_22 rfl (by first | with_reducible assumption | omega) (fun v1662 ev1662 lv1662 uv1662 => ?_)
                          refine g_iload_n rfl ?_
                          refine g_if2_ne (fun c1663 => ?_) (fun c1663 => ?_)
                          · refine g_iconst (by decide) (fun v1664 kv1664 => ?_)
                            refine g_nop ?_
                            refine g_iadd (by have := gz_any v1647; omega) (fun v1665 ev1665 => ?_)
                            refine g_istore (l' := [(0, .ref 0), (1, .int a1), (2, .int a2), (3, .int v1628), (4, .int v1665), (5, .int v1633), (6, .int v1648)]) rfl rfl ?_
                            refine g_iinc (l' := (fun v1666 => [(0, .ref 0), (1, .int a1), (2, .int a2), (3, .int v1628), (4, .int v1665), (5, .int v1633), (6, .int v1666)])) rfl rfl (by decide) (by first | with_reducible assumption | omega) (fun _ => rfl) (fun v1666 ev1666 => ?_)
                            refine g_goto ?_
                            exact ihL1649 v1665 v1666 (by first | with_reducible assumption | omega) (by first | with_reducible assumption | omega)
                          · refine g_iconst (by decide) (fun v1667 kv1667 => ?_)
                            refine g_goto ?_
                            refine g_iadd' (fun v1668 ov1668 => ?_)
                            refine g_istore (l' := [(0, .ref 0), (1, .int a1), (2, .int a2), (3, .int v1628), (4, .int v1668), (5, .int v1633), (6, .int v1648)]) rfl rfl ?_
                            refine g_iinc (l' := (fun v1669 => [(0, .ref 0), (1, .int a1), (2, .int a2), (3, .int v1628), (4, .int v1668), (5, .int v1633), (6, .int v1669)])) rfl rfl (by decide) (by first | with_reducible assumption | omega) (fun _ => rfl) (fun v1669 ev1669 => ?_)
                            refine g_goto ?_
                            exact ihL1649 v1668 v1669 (by first | with_reducible assumption | omega) (by first | with_reducible assumption | omega)
                  exact L1649 _ v1632 v1646 (by first | with_reducible assumption | omega) (Nat.lt_succ_self _)
            exact L1637 _ v1630 v1631 H1465 hIH1465 hJH1465 e1466 m1467 (by first | with_reducible assumption | omega) (Nat.lt_succ_self _)
          · exfalso; omega
      · refine g_iload_n rfl ?_
        refine g_bipush (by decide) (fun v1670 kv1670 => ?_)
        refine g_if2_eq (fun c1671 => ?_) (fun c1671 => ?_)
        · refine g_iload_n rfl ?_
          refine g_iload_n rfl ?_
          refine g_if2_eq (fun c1672 => ?_) (fun c1672 => ?_)
          · refine g_iconst (by decide) (fun v1673 kv1673 => ?_)
            refine g_nop ?_
            refine g_istore_n (l' := [(0, .ref 0), (1, .int a1), (2, .int a2), (3, .int v1673)]) rfl rfl ?_
            refine g_iload_n rfl ?_
            refine g_if_ne (fun c1674 => ?_) (fun c1674 => ?_)
            · exfalso; omega
            · refine g_iconst (by decide) (fun v1675 kv1675 => ?_)
              exact g_iret ⟨_, rfl, hIH1465, hJH1465, (e1466.symm.trans ek0_2), m1467⟩
          · exfalso; omega
        · refine g_iload_n rfl ?_
          refine g_bipush (by decide) (fun v1676 kv1676 => ?_)
          refine g_if2_ne (fun c1677 => ?_) (fun c1677 => ?_)
          · refine g_iconst (by decide) (fun v1678 kv1678 => ?_)
            refine g_nop ?_
            refine g_istore_n (l' := [(0, .ref 0), (1, .int a1), (2, .int a2), (3, .int v1678)]) rfl rfl ?_
            refine g_iload_n rfl ?_
            refine g_if_ne (fun c1679 => ?_) (fun c1679 => ?_)
            · exfalso; omega
            · refine g_iconst (by decide) (fun v1680 kv1680 => ?_)
              exact g_iret ⟨_, rfl, hIH1465, hJH1465, (e1466.symm.trans ek0_2), m1467⟩
          · refine g_nop ?_
            refine g_iload_n rfl ?_
            refine g_iload_n rfl ?_
            refine g_if2_eq (fun c1681 => ?_) (fun c1681 => ?_)
            · exfalso; omega
            · refine g_iconst (by decide) (fun v1682 kv1682 => ?_)
              refine g_goto ?_
              refine g_istore_n (l' := [(0, .ref 0), (1, .int a1), (2, .int a2), (3, .int v1682)]) rfl rfl ?_
              refine g_iload_n rfl ?_
              refine g_if_ne (fun c1683 => ?_) (fun c1683 => ?_)
              · refine g_iconst (by decide) (fun v1684 kv1684 => ?_)
                refine g_istore (l' := [(0, .ref 0), (1, .int a1), (2, .int a2), (3, .int v1682), (4, .int v1684)]) rfl rfl ?_
                refine g_iconst (by decide) (fun v1685 kv1685 => ?_)
                refine g_istore (l' := [(0, .ref 0), (1, .int a1), (2, .int a2), (3, .int v1682), (4, .int v1684), (5, .int v1685)]) rfl rfl ?_
                refine g_nop ?_
                have L1691 : ∀ (N : Nat) (v1686 : Int32) (v1687 : Int32) (H1688 : mzH), gI SM H1688 → JN H1688 → k0_2 = fZ H1688 0 2 → kpM H H1688 → (0 ≤ v1687.toInt ∧ v1687.toInt ≤ 40) → (40 - v1687.toInt).toNat < N → gG 7 zB_218 (mzBlk zB_218 6) [(0, .ref 0), (1, .int a1), (2, .int a2), (3, .int v1682), (4, .int v1686), (5, .int v1687)] [] H1688 0 0 (gRi (fun v H' => gI SM H' ∧ JN H' ∧ fZ H' 0 2 = fZ H 0 2 ∧ kpM H H')) := by
                  intro N
                  induction N with
                  | zero => intro v1686 v1687 H1688 hIH1688 hJH1688 e1689 m1690 bv1687 hmL1691; exact absurd hmL1691 (Nat.not_lt_zero _)
                  | succ N ihL1691 =>
                    intro v1686 v1687 H1688 hIH1688 hJH1688 e1689 m1690 bv1687 hmL1691
                    refine g_iload rfl ?_
                    refine g_bipush (by decide) (fun v1692 kv1692 => ?_)
                    refine g_if2_ge (fun c1693 => ?_) (fun c1693 => ?_)
                    · refine g_iload rfl ?_
                      exact g_iret ⟨_, rfl, hIH1688, hJH1688, (e1689.symm.trans ek0_2), m1690⟩
                    · refine g_aload_n rfl ?_
                      refine g_iload rfl ?_
                      refine g_invvv hIH1688 sm_0 rfl rfl rfl rfl (s_214 v1687 (by first | with_reducible assumption | omega) H1688 hIH1688 hJH1688) (fun H1694 r1695 => ?_)
                      obtain ⟨hIH1694, hJH1694, w1696, m1697⟩ := r1695
                      have e1698 : k0_2 = fZ H1694 0 2 := e1689.trans w1696.symm
                      have m1699 : kpM H H1694 := kpM_t m1690 m1697
                      refine g_iconst (by decide) (fun v1700 kv1700 => ?_)
                      refine g_istore (l' := [(0, .ref 0), (1, .int a1), (2, .int a2), (3, .int v1682), (4, .int v1686), (5, .int v1687), (6, .int v1700)]) rfl rfl ?_
                      refine g_nop ?_
                      have L1703 : ∀ (N : Nat) (v1701 : Int32) (v1702 : Int32), (0 ≤ v1702.toInt ∧ v1702.toInt ≤ 59) → (59 - v1702.toInt).toNat < N → gG 7 zB_218 (mzBlk zB_218 7) [(0, .ref 0), (1, .int a1), (2, .int a2), (3, .int v1682), (4, .int v1701), (5, .int v1687), (6, .int v1702)] [] H1694 0 0 (gRi (fun v H' => gI SM H' ∧ JN H' ∧ fZ H' 0 2 = fZ H 0 2 ∧ kpM H H')) := by
                        intro N
                        induction N with
                        | zero => intro v1701 v1702 bv1702 hmL1703; exact absurd hmL1703 (Nat.not_lt_zero _)
                        | succ N ihL1703 =>
                          intro v1701 v1702 bv1702 hmL1703
                          refine g_iload rfl ?_
                          refine g_iconst (by decide) (fun v1704 kv1704 => ?_)
                          refine g_iadd (by first | with_reducible assumption | omega) (fun v1705 ev1705 => ?_)
                          refine g_aload_n rfl ?_
                          refine g_gfi hIH1694 sm_0 rfl (fun v1706 ev1706 lv1706 uv1706 => ?_)
                          refine g_if2_ge (fun c1707 => ?_) (fun c1707 => ?_)
                          · refine g_iinc (l' := (fun v1708 => [(0, .ref 0), (1, .int a1), (2, .int a2), (3, .int v1682), (4, .int v1701), (5, .int v1708), (6, .int v1702)])) rfl rfl (by decide) (by first | with_reducible assumption | omega) (fun _ => rfl) (fun v1708 ev1708 => ?_)
                            refine g_goto ?_
                            refine gG_pick [0, 1, 2, 3, 4, 5] (l' := [(0, .ref 0), (1, .int a1), (2, .int a2), (3, .int v1682), (4, .int v1701), (5, .int v1708)]) rfl ?_
                            exact ihL1691 v1701 v1708 H1694 hIH1694 (JM_n hJH1694) e1698 m1699 (by first | with_reducible assumption | omega) (by first | with_reducible assumption | omega)
                          · refine g_iload rfl ?_
                            refine g_aload_n rfl ?_
                            refine g_gfr hIH1694 sm_0 rfl ?_
                            refine g_iload rfl ?_
                            refine g_iaload hIH1694 sm_22 rfl (by first | with_reducible assumption | omega) (fun v1709 ev1709 lv1709 uv1709 => ?_)
                            refine g_iload_n rfl ?_
                            refine g_if2_ne (fun c1710 => ?_) (fun c1710 => ?_)
                            · refine g_iconst (by decide) (fun v1711 kv1711 => ?_)
                              refine g_nop ?_
                              refine g_iadd (by have := gz_any v1701; omega) (fun v1712 ev1712 => ?_)
                              refine g_istore (l' := [(0, .ref 0), (1, .int a1), (2, .int a2), (3, .int v1682), (4, .int v1712), (5, .int v1687), (6, .int v1702)]) rfl rfl ?_
                              refine g_iinc (l' := (fun v1713 => [(0, .ref 0), (1, .int a1), (2, .int a2), (3, .int v1682), (4, .int v1712), (5, .int v1687), (6, .int v1713)])) rfl rfl (by decide) (by first | with_reducible assumption | omega) (fun _ => rfl) (fun v1713 ev1713 => ?_)
                              refine g_goto ?_
                              exact ihL1703 v1712 v1713 (by first | with_reducible assumption | omega) (by first | with_reducible assumption | omega)
                            · refine g_aload_n rfl ?_
                              refine g_gfr hIH1694 sm_0 rfl ?_
                              refine g_iload rfl ?_
                              refine g_iconst (by decide) (fun v1714 kv1714 => ?_)
                              refine g_iadd (by first | with_reducible assumption | omega) (fun v1715 ev1715 => ?_)
                              refine g_iaload hIH1694 sm_22 rfl (by first | with_reducible assumption | omega) (fun v1716 ev1716 lv1716 uv1716 => ?_)
                              refine g_iload_n rfl ?_
                              refine g_if2_ne (fun c1717 => ?_) (fun c1717 => ?_)
                              · refine g_iconst (by decide) (fun v1718 kv1718 => ?_)
                                refine g_nop ?_
                                refine g_iadd (by have := gz_any v1701; omega) (fun v1719 ev1719 => ?_)
                                refine g_istore (l' := [(0, .ref 0), (1, .int a1), (2, .int a2), (3, .int v1682), (4, .int v1719), (5, .int v1687), (6, .int v1702)]) rfl rfl ?_
                                refine g_iinc (l' := (fun v1720 => [(0, .ref 0), (1, .int a1), (2, .int a2), (3, .int v1682), (4, .int v1719), (5, .int v1687), (6, .int v1720)])) rfl rfl (by decide) (by first | with_reducible assumption | omega) (fun _ => rfl) (fun v1720 ev1720 => ?_)
                                refine g_goto ?_
                                exact ihL1703 v1719 v1720 (by first | with_reducible assumption | omega) (by first | with_reducible assumption | omega)
                              · refine g_iconst (by decide) (fun v1721 kv1721 => ?_)
                                refine g_goto ?_
                                refine g_iadd' (fun v1722 ov1722 => ?_)
                                refine g_istore (l' := [(0, .ref 0), (1, .int a1), (2, .int a2), (3, .int v1682), (4, .int v1722), (5, .int v1687), (6, .int v1702)]) rfl rfl ?_
                                refine g_iinc (l' := (fun v1723 => [(0, .ref 0), (1, .int a1), (2, .int a2), (3, .int v1682), (4, .int v1722), (5, .int v1687), (6, .int v1723)])) rfl rfl (by decide) (by first | with_reducible assumption | omega) (fun _ => rfl) (fun v1723 ev1723 => ?_)
                                refine g_goto ?_
                                exact ihL1703 v1722 v1723 (by first | with_reducible assumption | omega) (by first | with_reducible assumption | omega)
                      exact L1703 _ v1686 v1700 (by first | with_reducible assumption | omega) (Nat.lt_succ_self _)
                exact L1691 _ v1684 v1685 H1465 hIH1465 hJH1465 e1466 m1467 (by first | with_reducible assumption | omega) (Nat.lt_succ_self _)
              · exfalso; omega
set_option maxRecDepth 4000 in
set_option maxHeartbeats 4000000 in
/-- M.runsFirst -/
theorem s_219 (a1 : Int32) (ha1 : 0 ≤ a1.toInt ∧ a1.toInt ≤ 60) (H : mzH) (hI : gI SM H) (hJ : JN H) : gCall 219 [.ref 0, .int a1] H (gRv (fun H' => gI SM H' ∧ JM H' ∧ fZ H' 0 2 = fZ H 0 2 ∧ kpM H H')) := by
  obtain ⟨k0_2, ek0_2⟩ : ∃ z, z = fZ H 0 2 := ⟨_, rfl⟩
  have ik0_2 : k0_2.toInt = (fZ H 0 2).toInt := by rw [← ek0_2]
  have bk0_2 : 0 ≤ k0_2.toInt ∧ k0_2.toInt ≤ 900 := by rw [ek0_2]; exact fZ_of hI sm_0 rfl
  have mkfr : kpM H H := kpM_r
  refine gG_call [(0, .ref 0), (1, .int a1)] ⟨rfl, rfl, trivial⟩ ?_
  show gG 3 zB_219 (mzBlk zB_219 0) [(0, .ref 0), (1, .int a1)] [] H 0 0 _
  refine g_aload_n rfl ?_
  refine g_invvv hI sm_0 rfl rfl rfl rfl (s_182 H hI hJ) (fun H113 r114 => ?_)
  obtain ⟨hIH113, hJH113, m115, m116, m117, p118⟩ := r114
  have e119 : k0_2 = fZ H113 0 2 := ek0_2.trans (m115 0 2).symm
  have m120 : kpM H H113 := kpM_t mkfr m117
  refine g_iload_n rfl ?_
  refine g_istore_n (l' := [(0, .ref 0), (1, .int a1), (2, .int a1)]) rfl rfl ?_
  refine g_nop ?_
  have L125 : ∀ (N : Nat) (v121 : Int32) (H122 : mzH), gI SM H122 → JN H122 → k0_2 = fZ H122 0 2 → kpM H H122 → (0 ≤ v121.toInt ∧ v121.toInt ≤ 60) → (60 - v121.toInt).toNat < N → gG 3 zB_219 (mzBlk zB_219 1) [(0, .ref 0), (1, .int a1), (2, .int v121)] [] H122 0 0 (gRv (fun H' => gI SM H' ∧ JM H' ∧ fZ H' 0 2 = fZ H 0 2 ∧ kpM H H')) := by
    intro N
    induction N with
    | zero => intro v121 H122 hIH122 hJH122 e123 m124 bv121 hmL125; exact absurd hmL125 (Nat.not_lt_zero _)
    | succ N ihL125 =>
      intro v121 H122 hIH122 hJH122 e123 m124 bv121 hmL125
      refine g_iload_n rfl ?_
      refine g_aload_n rfl ?_
      refine g_invvi hIH122 sm_0 rfl rfl rfl rfl (s_180 H122 hIH122 hJH122) (fun v128 H126 r127 => ?_)
      obtain ⟨rfl, bv128, p129⟩ := r127
      refine g_if2_ge (fun c130 => ?_) (fun c130 => ?_)
      · refine g_aload_n rfl ?_
        refine g_sipush (by decide) (fun v131 kv131 => ?_)
        refine g_invvv hIH122 sm_0 rfl rfl rfl rfl (s_198 v131 H122 hIH122 hJH122) (fun H132 r133 => ?_)
        obtain ⟨hIH132, hJH132, w134, m135, m136, m137, p138⟩ := r133
        have e139 : k0_2 = fZ H132 0 2 := e123.trans w134.symm
        have m140 : kpM H H132 := kpM_t m124 m137
        exact g_ret ⟨rfl, hIH132, hJH132, (e139.symm.trans ek0_2), m140⟩
      · refine g_aload_n rfl ?_
        refine g_gfr hIH122 sm_0 rfl ?_
        refine g_iload_n rfl ?_
        refine g_iconst (by decide) (fun v141 kv141 => ?_)
        refine g_zastore hIH122 sm_17 (by first | with_reducible assumption | omega) (by first | with_reducible assumption | omega) (fun H142 eH142 hIH142 => ?_)
        have hJH142 : JN H142 := JN_sA (by decide) eH142 hJH122
        have e143 : k0_2 = fZ H142 0 2 := by rw [eH142, fZ_sA]; exact e123
        have m144 : kpM H H142 := kpM_A m124 eH142 (by first | with_reducible assumption | omega)
        refine g_iinc (l' := (fun v145 => [(0, .ref 0), (1, .int a1), (2, .int v145)])) rfl rfl (by decide) (by first | with_reducible assumption | omega) (fun _ => rfl) (fun v145 ev145 => ?_)
        refine g_goto ?_
        exact ihL125 v145 H142 hIH142 hJH142 e143 m144 (by first | with_reducible assumption | omega) (by first | with_reducible assumption | omega)
  exact L125 _ a1 H113 hIH113 hJH113 e119 m120 (by first | with_reducible assumption | omega) (Nat.lt_succ_self _)
set_option maxRecDepth 4000 in
set_option maxHeartbeats 4000000 in
/-- M.known -/
theorem s_220 (a1 : Int32) (a2 : Int32) (H : mzH) (hI : gI SM H) (hJ : JN H) : gCall 220 [.ref 0, .int a1, .int a2] H (gRi (fun v H' => gI SM H' ∧ JN H' ∧ fZ H' 0 2 = fZ H 0 2 ∧ kpM H H')) := by
  obtain ⟨k0_2, ek0_2⟩ : ∃ z, z = fZ H 0 2 := ⟨_, rfl⟩
  have ik0_2 : k0_2.toInt = (fZ H 0 2).toInt := by rw [← ek0_2]
  have bk0_2 : 0 ≤ k0_2.toInt ∧ k0_2.toInt ≤ 900 := by rw [ek0_2]; exact fZ_of hI sm_0 rfl
  have mkfr : kpM H H := kpM_r
  refine gG_call [(0, .ref 0), (1, .int a1), (2, .int a2)] ⟨rfl, rfl, rfl, trivial⟩ ?_
  show gG 3 zB_220 (mzBlk zB_220 0) [(0, .ref 0), (1, .int a1), (2, .int a2)] [] H 0 0 _
  refine g_aload_n rfl ?_
  refine g_iconst (by decide) (fun v109 kv109 => ?_)
  refine g_pfi hI sm_0 rfl (gz_any _) (fun H110 eH110 hIH110 => ?_)
  have hJH110 : JN H110 := JN_sF eH110 hJ
  have e111 : k0_2 = fZ H110 0 2 := by rw [eH110, fZ_sF_ne (by decide)]; exact ek0_2
  have m112 : kpM H H110 := kpM_F mkfr eH110 (by first | with_reducible assumption | omega)
  refine g_iload_n rfl ?_
  refine g_if_lt (fun c113 => ?_) (fun c113 => ?_)
  · refine g_iconst (by decide) (fun v114 kv114 => ?_)
    exact g_iret ⟨_, rfl, hIH110, hJH110, (e111.symm.trans ek0_2), m112⟩
  · refine g_iload_n rfl ?_
    refine g_aload_n rfl ?_
    refine g_invvi hIH110 sm_0 rfl rfl rfl rfl (s_180 H110 hIH110 hJH110) (fun v117 H115 r116 => ?_)
    obtain ⟨rfl, bv117, p118⟩ := r116
    refine g_if2_gt (fun c119 => ?_) (fun c119 => ?_)
    · refine g_iconst (by decide) (fun v120 kv120 => ?_)
      exact g_iret ⟨_, rfl, hIH110, hJH110, (e111.symm.trans ek0_2), m112⟩
    · refine g_iload_n rfl ?_
      refine g_invti rfl rfl rfl (s_205 a2 H110 hIH110 hJH110) (fun v123 H121 r122 => ?_)
      obtain ⟨rfl, bv123, p124⟩ := r122
      refine g_if_ne (fun c125 => ?_) (fun c125 => ?_)
      · refine g_aload_n rfl ?_
        refine g_iload_n rfl ?_
        refine g_invvv hIH110 sm_0 rfl rfl rfl rfl (s_219 a1 (by first | with_reducible assumption | omega) H110 hIH110 hJH110) (fun H126 r127 => ?_)
        obtain ⟨hIH126, hJH126, w128, m129⟩ := r127
        have e130 : k0_2 = fZ H126 0 2 := e111.trans w128.symm
        have m131 : kpM H H126 := kpM_t m112 m129
        refine g_aload_n rfl ?_
        refine g_iload_n rfl ?_
        refine g_invvi hIH126 sm_0 rfl rfl rfl rfl (s_201 a2 (by first | with_reducible assumption | omega) H126 hIH126 hJH126) (fun v134 H132 r133 => ?_)
        obtain ⟨rfl, bv134⟩ := r133
        exact g_iret ⟨_, rfl, hIH126, (JM_n hJH126), (e130.symm.trans ek0_2), m131⟩
      · refine g_nop ?_
        refine g_iconst (by decide) (fun v135 kv135 => ?_)
        exact g_iret ⟨_, rfl, hIH110, hJH110, (e111.symm.trans ek0_2), m112⟩
set_option maxRecDepth 4000 in
set_option maxHeartbeats 4000000 in
/-- M.changed -/
theorem s_221 (a1 : Int32) (H : mzH) (hI : gI SM H) (hJ : JN H) : gCall 221 [.ref 0, .int a1] H (gRi (fun v H' => gI SM H' ∧ JN H' ∧ fZ H' 0 2 = fZ H 0 2 ∧ kpM H H')) := by
  obtain ⟨k0_2, ek0_2⟩ : ∃ z, z = fZ H 0 2 := ⟨_, rfl⟩
  have ik0_2 : k0_2.toInt = (fZ H 0 2).toInt := by rw [← ek0_2]
  have bk0_2 : 0 ≤ k0_2.toInt ∧ k0_2.toInt ≤ 900 := by rw [ek0_2]; exact fZ_of hI sm_0 rfl
  have mkfr : kpM H H := kpM_r
  refine gG_call [(0, .ref 0), (1, .int a1)] ⟨rfl, rfl, trivial⟩ ?_
  show gG 4 zB_221 (mzBlk zB_221 0) [(0, .ref 0), (1, .int a1)] [] H 0 0 _
  refine g_aload_n rfl ?_
  refine g_iconst (by decide) (fun v713 kv713 => ?_)
  refine g_pfi hI sm_0 rfl (gz_any _) (fun H714 eH714 hIH714 => ?_)
  have hJH714 : JN H714 := JN_sF eH714 hJ
  have e715 : k0_2 = fZ H714 0 2 := by rw [eH714, fZ_sF_ne (by decide)]; exact ek0_2
  have m716 : kpM H H714 := kpM_F mkfr eH714 (by first | with_reducible assumption | omega)
  refine g_iload_n rfl ?_
  refine g_if_lt (fun c717 => ?_) (fun c717 => ?_)
  · refine g_iconst (by decide) (fun v718 kv718 => ?_)
    exact g_iret ⟨_, rfl, hIH714, hJH714, (e715.symm.trans ek0_2), m716⟩
  · refine g_iload_n rfl ?_
    refine g_aload_n rfl ?_
    refine g_invvi hIH714 sm_0 rfl rfl rfl rfl (s_180 H714 hIH714 hJH714) (fun v721 H719 r720 => ?_)
    obtain ⟨rfl, bv721, p722⟩ := r720
    refine g_if2_lt (fun c723 => ?_) (fun c723 => ?_)
    · refine g_aload_n rfl ?_
      refine g_iload_n rfl ?_
      refine g_invvv hIH714 sm_0 rfl rfl rfl rfl (s_219 a1 (by first | with_reducible assumption | omega) H714 hIH714 hJH714) (fun H724 r725 => ?_)
      obtain ⟨hIH724, hJH724, w726, m727⟩ := r725
      have e728 : k0_2 = fZ H724 0 2 := e715.trans w726.symm
      have m729 : kpM H H724 := kpM_t m716 m727
      refine g_iconst (by decide) (fun v730 kv730 => ?_)
      refine g_istore_n (l' := [(0, .ref 0), (1, .int a1), (2, .int v730)]) rfl rfl ?_
      refine g_nop ?_
      have L735 : ∀ (N : Nat) (v731 : Int32) (H732 : mzH), gI SM H732 → JM H732 → k0_2 = fZ H732 0 2 → kpM H H732 → (0 ≤ v731.toInt ∧ v731.toInt ≤ 40) → (40 - v731.toInt).toNat < N → gG 4 zB_221 (mzBlk zB_221 3) [(0, .ref 0), (1, .int a1), (2, .int v731)] [] H732 0 0 (gRi (fun v H' => gI SM H' ∧ JN H' ∧ fZ H' 0 2 = fZ H 0 2 ∧ kpM H H')) := by
        intro N
        induction N with
        | zero => intro v731 H732 hIH732 hJH732 e733 m734 bv731 hmL735; exact absurd hmL735 (Nat.not_lt_zero _)
        | succ N ihL735 =>
          intro v731 H732 hIH732 hJH732 e733 m734 bv731 hmL735
          refine g_iload_n rfl ?_
          refine g_bipush (by decide) (fun v736 kv736 => ?_)
          refine g_if2_ge (fun c737 => ?_) (fun c737 => ?_)
          · refine g_aload_n rfl ?_
            refine g_iload_n rfl ?_
            refine g_iconst (by decide) (fun v738 kv738 => ?_)
            refine g_iadd (by first | with_reducible assumption | omega) (fun v739 ev739 => ?_)
            refine g_invvv hIH732 sm_0 rfl rfl rfl rfl (s_219 v739 (by first | with_reducible assumption | omega) H732 hIH732 (JM_n hJH732)) (fun H740 r741 => ?_)
            obtain ⟨hIH740, hJH740, w742, m743⟩ := r741
            have e744 : k0_2 = fZ H740 0 2 := e733.trans w742.symm
            have m745 : kpM H H740 := kpM_t m734 m743
            refine g_iconst (by decide) (fun v746 kv746 => ?_)
            refine g_istore_n (l' := [(0, .ref 0), (1, .int a1), (2, .int v746)]) rfl rfl ?_
            refine g_iconst (by decide) (fun v747 kv747 => ?_)
            refine g_istore_n (l' := [(0, .ref 0), (1, .int a1), (2, .int v746), (3, .int v747)]) rfl rfl ?_
            refine g_nop ?_
            have L750 : ∀ (N : Nat) (v748 : Int32) (v749 : Int32), (0 ≤ v749.toInt ∧ v749.toInt ≤ 40) → (40 - v749.toInt).toNat < N → gG 4 zB_221 (mzBlk zB_221 5) [(0, .ref 0), (1, .int a1), (2, .int v748), (3, .int v749)] [] H740 0 0 (gRi (fun v H' => gI SM H' ∧ JN H' ∧ fZ H' 0 2 = fZ H 0 2 ∧ kpM H H')) := by
              intro N
              induction N with
              | zero => intro v748 v749 bv749 hmL750; exact absurd hmL750 (Nat.not_lt_zero _)
              | succ N ihL750 =>
                intro v748 v749 bv749 hmL750
                refine g_iload_n rfl ?_
                refine g_bipush (by decide) (fun v751 kv751 => ?_)
                refine g_if2_ge (fun c752 => ?_) (fun c752 => ?_)
                · refine g_iload_n rfl ?_
                  exact g_iret ⟨_, rfl, hIH740, (JM_n hJH740), (e744.symm.trans ek0_2), m745⟩
                · refine g_iload_n rfl ?_
                  refine g_aload_n rfl ?_
                  refine g_iload_n rfl ?_
                  refine g_invvi hIH740 sm_0 rfl rfl rfl rfl (s_201 v749 (by first | with_reducible assumption | omega) H740 hIH740 hJH740) (fun v755 H753 r754 => ?_)
                  obtain ⟨rfl, bv755⟩ := r754
                  refine g_aload_n rfl ?_
                  refine g_gfr hIH740 sm_0 rfl ?_
                  refine g_iload_n rfl ?_
                  refine g_iaload hIH740 sm_24 rfl (by first | with_reducible assumption | omega) (fun v756 ev756 lv756 uv756 => ?_)
                  refine g_if2_ne (fun c757 => ?_) (fun c757 => ?_)
                  · refine g_iconst (by decide) (fun v758 kv758 => ?_)
                    refine g_nop ?_
                    refine g_iadd' (fun v759 ov759 => ?_)
                    refine g_istore_n (l' := [(0, .ref 0), (1, .int a1), (2, .int v759), (3, .int v749)]) rfl rfl ?_
                    refine g_iinc (l' := (fun v760 => [(0, .ref 0), (1, .int a1), (2, .int v759), (3, .int v760)])) rfl rfl (by decide) (by first | with_reducible assumption | omega) (fun _ => rfl) (fun v760 ev760 => ?_)
                    refine g_goto ?_
                    exact ihL750 v759 v760 (by first | with_reducible assumption | omega) (by first | with_reducible assumption | omega)
                  · refine g_iconst (by decide) (fun v761 kv761 => ?_)
                    refine g_goto ?_
                    refine g_iadd (by have := gz_any v748; omega) (fun v762 ev762 => ?_)
                    refine g_istore_n (l' := [(0, .ref 0), (1, .int a1), (2, .int v762), (3, .int v749)]) rfl rfl ?_
                    refine g_iinc (l' := (fun v763 => [(0, .ref 0), (1, .int a1), (2, .int v762), (3, .int v763)])) rfl rfl (by decide) (by first | with_reducible assumption | omega) (fun _ => rfl) (fun v763 ev763 => ?_)
                    refine g_goto ?_
                    exact ihL750 v762 v763 (by first | with_reducible assumption | omega) (by first | with_reducible assumption | omega)
            exact L750 _ v746 v747 (by first | with_reducible assumption | omega) (Nat.lt_succ_self _)
          · refine g_aload_n rfl ?_
            refine g_gfr hIH732 sm_0 rfl ?_
            refine g_iload_n rfl ?_
            refine g_aload_n rfl ?_
            refine g_iload_n rfl ?_
            refine g_invvi hIH732 sm_0 rfl rfl rfl rfl (s_201 v731 (by first | with_reducible assumption | omega) H732 hIH732 hJH732) (fun v766 H764 r765 => ?_)
            obtain ⟨rfl, bv766⟩ := r765
            refine g_iastore hIH732 sm_24 (by first | with_reducible assumption | omega) (gz_any _) (fun H767 eH767 hIH767 => ?_)
            have hJH767 : JM H767 := JM_sA (by decide) eH767 hJH732
            have e768 : k0_2 = fZ H767 0 2 := by rw [eH767, fZ_sA]; exact e733
            have m769 : kpM H H767 := kpM_A m734 eH767 (by first | with_reducible assumption | omega)
            refine g_iinc (l' := (fun v770 => [(0, .ref 0), (1, .int a1), (2, .int v770)])) rfl rfl (by decide) (by first | with_reducible assumption | omega) (fun _ => rfl) (fun v770 ev770 => ?_)
            refine g_goto ?_
            exact ihL735 v770 H767 hIH767 hJH767 e768 m769 (by first | with_reducible assumption | omega) (by first | with_reducible assumption | omega)
      exact L735 _ v730 H724 hIH724 hJH724 e728 m729 (by first | with_reducible assumption | omega) (Nat.lt_succ_self _)
    · refine g_nop ?_
      refine g_iconst (by decide) (fun v771 kv771 => ?_)
      exact g_iret ⟨_, rfl, hIH714, hJH714, (e715.symm.trans ek0_2), m716⟩
set_option maxRecDepth 4000 in
set_option maxHeartbeats 4000000 in
/-- M.runsWithout -/
theorem s_222 (a1 : Int32) (ha1 : -1 ≤ a1.toInt ∧ a1.toInt ≤ 59) (a2 : Int32) (ha2 : -1 ≤ a2.toInt ∧ a2.toInt ≤ 59) (H : mzH) (hI : gI SM H) (hJ : JN H) : gCall 222 [.ref 0, .int a1, .int a2] H (gRv (fun H' => gI SM H' ∧ JM H' ∧ fZ H' 0 2 = fZ H 0 2 ∧ kpM H H')) := by
  obtain ⟨k0_2, ek0_2⟩ : ∃ z, z = fZ H 0 2 := ⟨_, rfl⟩
  have ik0_2 : k0_2.toInt = (fZ H 0 2).toInt := by rw [← ek0_2]
  have bk0_2 : 0 ≤ k0_2.toInt ∧ k0_2.toInt ≤ 900 := by rw [ek0_2]; exact fZ_of hI sm_0 rfl
  have mkfr : kpM H H := kpM_r
  refine gG_call [(0, .ref 0), (1, .int a1), (2, .int a2)] ⟨rfl, rfl, rfl, trivial⟩ ?_
  show gG 3 zB_222 (mzBlk zB_222 0) [(0, .ref 0), (1, .int a1), (2, .int a2)] [] H 0 0 _
  refine g_aload_n rfl ?_
  refine g_invvv hI sm_0 rfl rfl rfl rfl (s_182 H hI hJ) (fun H265 r266 => ?_)
  obtain ⟨hIH265, hJH265, m267, m268, m269, p270⟩ := r266
  have e271 : k0_2 = fZ H265 0 2 := ek0_2.trans (m267 0 2).symm
  have m272 : kpM H H265 := kpM_t mkfr m269
  refine g_iload_n rfl ?_
  refine g_iconst (by decide) (fun v273 kv273 => ?_)
  refine g_if2_eq (fun c274 => ?_) (fun c274 => ?_)
  · refine g_iload_n rfl ?_
    refine g_iconst (by decide) (fun v275 kv275 => ?_)
    refine g_if2_eq (fun c276 => ?_) (fun c276 => ?_)
    · refine g_aload_n rfl ?_
      refine g_sipush (by decide) (fun v277 kv277 => ?_)
      refine g_invvv hIH265 sm_0 rfl rfl rfl rfl (s_198 v277 H265 hIH265 hJH265) (fun H278 r279 => ?_)
      obtain ⟨hIH278, hJH278, w280, m281, m282, m283, p284⟩ := r279
      have e285 : k0_2 = fZ H278 0 2 := e271.trans w280.symm
      have m286 : kpM H H278 := kpM_t m272 m283
      exact g_ret ⟨rfl, hIH278, hJH278, (e285.symm.trans ek0_2), m286⟩
    · refine g_aload_n rfl ?_
      refine g_gfr hIH265 sm_0 rfl ?_
      refine g_iload_n rfl ?_
      refine g_iconst (by decide) (fun v287 kv287 => ?_)
      refine g_zastore hIH265 sm_17 (by first | with_reducible assumption | omega) (by first | with_reducible assumption | omega) (fun H288 eH288 hIH288 => ?_)
      have hJH288 : JN H288 := JN_sA (by decide) eH288 hJH265
      have e289 : k0_2 = fZ H288 0 2 := by rw [eH288, fZ_sA]; exact e271
      have m290 : kpM H H288 := kpM_A m272 eH288 (by first | with_reducible assumption | omega)
      refine g_nop ?_
      refine g_aload_n rfl ?_
      refine g_sipush (by decide) (fun v291 kv291 => ?_)
      refine g_invvv hIH288 sm_0 rfl rfl rfl rfl (s_198 v291 H288 hIH288 hJH288) (fun H292 r293 => ?_)
      obtain ⟨hIH292, hJH292, w294, m295, m296, m297, p298⟩ := r293
      have e299 : k0_2 = fZ H292 0 2 := e289.trans w294.symm
      have m300 : kpM H H292 := kpM_t m290 m297
      exact g_ret ⟨rfl, hIH292, hJH292, (e299.symm.trans ek0_2), m300⟩
  · refine g_aload_n rfl ?_
    refine g_gfr hIH265 sm_0 rfl ?_
    refine g_iload_n rfl ?_
    refine g_iconst (by decide) (fun v301 kv301 => ?_)
    refine g_zastore hIH265 sm_17 (by first | with_reducible assumption | omega) (by first | with_reducible assumption | omega) (fun H302 eH302 hIH302 => ?_)
    have hJH302 : JN H302 := JN_sA (by decide) eH302 hJH265
    have e303 : k0_2 = fZ H302 0 2 := by rw [eH302, fZ_sA]; exact e271
    have m304 : kpM H H302 := kpM_A m272 eH302 (by first | with_reducible assumption | omega)
    refine g_nop ?_
    refine g_iload_n rfl ?_
    refine g_iconst (by decide) (fun v305 kv305 => ?_)
    refine g_if2_eq (fun c306 => ?_) (fun c306 => ?_)
    · refine g_aload_n rfl ?_
      refine g_sipush (by decide) (fun v307 kv307 => ?_)
      refine g_invvv hIH302 sm_0 rfl rfl rfl rfl (s_198 v307 H302 hIH302 hJH302) (fun H308 r309 => ?_)
      obtain ⟨hIH308, hJH308, w310, m311, m312, m313, p314⟩ := r309
      have e315 : k0_2 = fZ H308 0 2 := e303.trans w310.symm
      have m316 : kpM H H308 := kpM_t m304 m313
      exact g_ret ⟨rfl, hIH308, hJH308, (e315.symm.trans ek0_2), m316⟩
    · refine g_aload_n rfl ?_
      refine g_gfr hIH302 sm_0 rfl ?_
      refine g_iload_n rfl ?_
      refine g_iconst (by decide) (fun v317 kv317 => ?_)
      refine g_zastore hIH302 sm_17 (by first | with_reducible assumption | omega) (by first | with_reducible assumption | omega) (fun H318 eH318 hIH318 => ?_)
      have hJH318 : JN H318 := JN_sA (by decide) eH318 hJH302
      have e319 : k0_2 = fZ H318 0 2 := by rw [eH318, fZ_sA]; exact e303
      have m320 : kpM H H318 := kpM_A m304 eH318 (by first | with_reducible assumption | omega)
      refine g_nop ?_
      refine g_aload_n rfl ?_
      refine g_sipush (by decide) (fun v321 kv321 => ?_)
      refine g_invvv hIH318 sm_0 rfl rfl rfl rfl (s_198 v321 H318 hIH318 hJH318) (fun H322 r323 => ?_)
      obtain ⟨hIH322, hJH322, w324, m325, m326, m327, p328⟩ := r323
      have e329 : k0_2 = fZ H322 0 2 := e319.trans w324.symm
      have m330 : kpM H H322 := kpM_t m320 m327
      exact g_ret ⟨rfl, hIH322, hJH322, (e329.symm.trans ek0_2), m330⟩
set_option maxRecDepth 4000 in
set_option maxHeartbeats 4000000 in
/-- M.without -/
theorem s_223 (a1 : Int32) (a2 : Int32) (H : mzH) (hI : gI SM H) (hJ : JN H) : gCall 223 [.ref 0, .int a1, .int a2] H (gRi (fun v H' => gI SM H' ∧ JN H' ∧ fZ H' 0 2 = fZ H 0 2 ∧ kpM H H')) := by
  obtain ⟨k0_2, ek0_2⟩ : ∃ z, z = fZ H 0 2 := ⟨_, rfl⟩
  have ik0_2 : k0_2.toInt = (fZ H 0 2).toInt := by rw [← ek0_2]
  have bk0_2 : 0 ≤ k0_2.toInt ∧ k0_2.toInt ≤ 900 := by rw [ek0_2]; exact fZ_of hI sm_0 rfl
  have mkfr : kpM H H := kpM_r
  refine gG_call [(0, .ref 0), (1, .int a1), (2, .int a2)] ⟨rfl, rfl, rfl, trivial⟩ ?_
  show gG 3 zB_223 (mzBlk zB_223 0) [(0, .ref 0), (1, .int a1), (2, .int a2)] [] H 0 0 _
  refine g_aload_n rfl ?_
  refine g_iconst (by decide) (fun v113 kv113 => ?_)
  refine g_pfi hI sm_0 rfl (gz_any _) (fun H114 eH114 hIH114 => ?_)
  have hJH114 : JN H114 := JN_sF eH114 hJ
  have e115 : k0_2 = fZ H114 0 2 := by rw [eH114, fZ_sF_ne (by decide)]; exact ek0_2
  have m116 : kpM H H114 := kpM_F mkfr eH114 (by first | with_reducible assumption | omega)
  refine g_iload_n rfl ?_
  refine g_if_lt (fun c117 => ?_) (fun c117 => ?_)
  · refine g_iconst (by decide) (fun v118 kv118 => ?_)
    exact g_iret ⟨_, rfl, hIH114, hJH114, (e115.symm.trans ek0_2), m116⟩
  · refine g_iload_n rfl ?_
    refine g_aload_n rfl ?_
    refine g_invvi hIH114 sm_0 rfl rfl rfl rfl (s_180 H114 hIH114 hJH114) (fun v121 H119 r120 => ?_)
    obtain ⟨rfl, bv121, p122⟩ := r120
    refine g_if2_ge (fun c123 => ?_) (fun c123 => ?_)
    · refine g_iconst (by decide) (fun v124 kv124 => ?_)
      exact g_iret ⟨_, rfl, hIH114, hJH114, (e115.symm.trans ek0_2), m116⟩
    · refine g_iload_n rfl ?_
      refine g_invti rfl rfl rfl (s_205 a2 H114 hIH114 hJH114) (fun v127 H125 r126 => ?_)
      obtain ⟨rfl, bv127, p128⟩ := r126
      refine g_if_ne (fun c129 => ?_) (fun c129 => ?_)
      · refine g_aload_n rfl ?_
        refine g_iload_n rfl ?_
        refine g_iconst (by decide) (fun v130 kv130 => ?_)
        refine g_invvv hIH114 sm_0 rfl rfl rfl rfl (s_222 a1 (by first | with_reducible assumption | omega) v130 (by first | with_reducible assumption | omega) H114 hIH114 hJH114) (fun H131 r132 => ?_)
        obtain ⟨hIH131, hJH131, w133, m134⟩ := r132
        have e135 : k0_2 = fZ H131 0 2 := e115.trans w133.symm
        have m136 : kpM H H131 := kpM_t m116 m134
        refine g_aload_n rfl ?_
        refine g_iload_n rfl ?_
        refine g_invvi hIH131 sm_0 rfl rfl rfl rfl (s_201 a2 (by first | with_reducible assumption | omega) H131 hIH131 hJH131) (fun v139 H137 r138 => ?_)
        obtain ⟨rfl, bv139⟩ := r138
        exact g_iret ⟨_, rfl, hIH131, (JM_n hJH131), (e135.symm.trans ek0_2), m136⟩
      · refine g_nop ?_
        refine g_iconst (by decide) (fun v140 kv140 => ?_)
        exact g_iret ⟨_, rfl, hIH114, hJH114, (e115.symm.trans ek0_2), m116⟩
set_option maxRecDepth 4000 in
set_option maxHeartbeats 4000000 in
/-- M.refusedNow -/
theorem s_224 (H : mzH) (hI : gI SM H) (hJ : JN H) : gCall 224 [.ref 0] H (gRi (fun v H' => H = H')) := by
  refine gG_call [(0, .ref 0)] ⟨rfl, trivial⟩ ?_
  show gG 3 zB_224 (mzBlk zB_224 0) [(0, .ref 0)] [] H 0 0 _
  refine g_iconst (by decide) (fun v399 kv399 => ?_)
  refine g_istore_n (l' := [(0, .ref 0), (1, .int v399)]) rfl rfl ?_
  refine g_iconst (by decide) (fun v400 kv400 => ?_)
  refine g_istore_n (l' := [(0, .ref 0), (1, .int v399), (2, .int v400)]) rfl rfl ?_
  refine g_nop ?_
  have L403 : ∀ (N : Nat) (v401 : Int32) (v402 : Int32), (0 ≤ v402.toInt ∧ v402.toInt ≤ 60) → (60 - v402.toInt).toNat < N → gG 3 zB_224 (mzBlk zB_224 1) [(0, .ref 0), (1, .int v401), (2, .int v402)] [] H 0 0 (gRi (fun v H' => H = H')) := by
    intro N
    induction N with
    | zero => intro v401 v402 bv402 hmL403; exact absurd hmL403 (Nat.not_lt_zero _)
    | succ N ihL403 =>
      intro v401 v402 bv402 hmL403
      refine g_iload_n rfl ?_
      refine g_aload_n rfl ?_
      refine g_gfi hI sm_0 rfl (fun v404 ev404 lv404 uv404 => ?_)
      refine g_if2_ge (fun c405 => ?_) (fun c405 => ?_)
      · refine g_iload_n rfl ?_
        exact g_iret ⟨_, rfl, rfl⟩
      · refine g_iload_n rfl ?_
        refine g_aload_n rfl ?_
        refine g_gfr hI sm_0 rfl ?_
        refine g_aload_n rfl ?_
        refine g_gfr hI sm_0 rfl ?_
        refine g_iload_n rfl ?_
        refine g_iaload hI sm_19 rfl (by first | with_reducible assumption | omega) (fun v406 ev406 lv406 uv406 => ?_)
        refine g_iaload hI sm_20 rfl (by first | with_reducible assumption | omega) (fun v407 ev407 lv407 uv407 => ?_)
        refine g_if_ne (fun c408 => ?_) (fun c408 => ?_)
        · refine g_iconst (by decide) (fun v409 kv409 => ?_)
          refine g_nop ?_
          refine g_iadd' (fun v410 ov410 => ?_)
          refine g_istore_n (l' := [(0, .ref 0), (1, .int v410), (2, .int v402)]) rfl rfl ?_
          refine g_iinc (l' := (fun v411 => [(0, .ref 0), (1, .int v410), (2, .int v411)])) rfl rfl (by decide) (by first | with_reducible assumption | omega) (fun _ => rfl) (fun v411 ev411 => ?_)
          refine g_goto ?_
          exact ihL403 v410 v411 (by first | with_reducible assumption | omega) (by first | with_reducible assumption | omega)
        · refine g_iconst (by decide) (fun v412 kv412 => ?_)
          refine g_goto ?_
          refine g_iadd (by have := gz_any v401; omega) (fun v413 ev413 => ?_)
          refine g_istore_n (l' := [(0, .ref 0), (1, .int v413), (2, .int v402)]) rfl rfl ?_
          refine g_iinc (l' := (fun v414 => [(0, .ref 0), (1, .int v413), (2, .int v414)])) rfl rfl (by decide) (by first | with_reducible assumption | omega) (fun _ => rfl) (fun v414 ev414 => ?_)
          refine g_goto ?_
          exact ihL403 v413 v414 (by first | with_reducible assumption | omega) (by first | with_reducible assumption | omega)
  exact L403 _ v399 v400 (by first | with_reducible assumption | omega) (Nat.lt_succ_self _)
set_option maxRecDepth 4000 in
set_option maxHeartbeats 4000000 in
/-- M.refused -/
theorem s_225 (a1 : Int32) (H : mzH) (hI : gI SM H) (hJ : JN H) : gCall 225 [.ref 0, .int a1] H (gRi (fun v H' => gI SM H' ∧ JN H' ∧ fZ H' 0 2 = fZ H 0 2 ∧ kpM H H')) := by
  obtain ⟨k0_2, ek0_2⟩ : ∃ z, z = fZ H 0 2 := ⟨_, rfl⟩
  have ik0_2 : k0_2.toInt = (fZ H 0 2).toInt := by rw [← ek0_2]
  have bk0_2 : 0 ≤ k0_2.toInt ∧ k0_2.toInt ≤ 900 := by rw [ek0_2]; exact fZ_of hI sm_0 rfl
  have mkfr : kpM H H := kpM_r
  refine gG_call [(0, .ref 0), (1, .int a1)] ⟨rfl, rfl, trivial⟩ ?_
  show gG 4 zB_225 (mzBlk zB_225 0) [(0, .ref 0), (1, .int a1)] [] H 0 0 _
  refine g_aload_n rfl ?_
  refine g_iconst (by decide) (fun v581 kv581 => ?_)
  refine g_pfi hI sm_0 rfl (gz_any _) (fun H582 eH582 hIH582 => ?_)
  have hJH582 : JN H582 := JN_sF eH582 hJ
  have e583 : k0_2 = fZ H582 0 2 := by rw [eH582, fZ_sF_ne (by decide)]; exact ek0_2
  have m584 : kpM H H582 := kpM_F mkfr eH582 (by first | with_reducible assumption | omega)
  refine g_iload_n rfl ?_
  refine g_iconst (by decide) (fun v585 kv585 => ?_)
  refine g_if2_lt (fun c586 => ?_) (fun c586 => ?_)
  · refine g_bipush (by decide) (fun v587 kv587 => ?_)
    exact g_iret ⟨_, rfl, hIH582, hJH582, (e583.symm.trans ek0_2), m584⟩
  · refine g_iload_n rfl ?_
    refine g_bipush (by decide) (fun v588 kv588 => ?_)
    refine g_if2_le (fun c589 => ?_) (fun c589 => ?_)
    · refine g_aload_n rfl ?_
      refine g_invvv hIH582 sm_0 rfl rfl rfl rfl (s_199 H582 hIH582 hJH582) (fun H590 r591 => ?_)
      obtain ⟨hIH590, hJH590, w592, m593, m594, p595⟩ := r591
      have e596 : k0_2 = fZ H590 0 2 := e583.trans w592.symm
      have m597 : kpM H H590 := kpM_t m584 m594
      refine g_iload_n rfl ?_
      refine g_iconst (by decide) (fun v598 kv598 => ?_)
      refine g_if2_ne (fun c599 => ?_) (fun c599 => ?_)
      · refine g_iconst (by decide) (fun v600 kv600 => ?_)
        refine g_istore_n (l' := [(0, .ref 0), (1, .int a1), (2, .int v600)]) rfl rfl ?_
        refine g_iconst (by decide) (fun v601 kv601 => ?_)
        refine g_istore_n (l' := [(0, .ref 0), (1, .int a1), (2, .int v600), (3, .int v601)]) rfl rfl ?_
        refine g_nop ?_
        have L604 : ∀ (N : Nat) (v602 : Int32) (v603 : Int32), (0 ≤ v603.toInt ∧ v603.toInt ≤ 60) → (60 - v603.toInt).toNat < N → gG 4 zB_225 (mzBlk zB_225 4) [(0, .ref 0), (1, .int a1), (2, .int v602), (3, .int v603)] [] H590 0 0 (gRi (fun v H' => gI SM H' ∧ JN H' ∧ fZ H' 0 2 = fZ H 0 2 ∧ kpM H H')) := by
          intro N
          induction N with
          | zero => intro v602 v603 bv603 hmL604; exact absurd hmL604 (Nat.not_lt_zero _)
          | succ N ihL604 =>
            intro v602 v603 bv603 hmL604
            refine g_iload_n rfl ?_
            refine g_aload_n rfl ?_
            refine g_invvi hIH590 sm_0 rfl rfl rfl rfl (s_180 H590 hIH590 (JM_n hJH590)) (fun v607 H605 r606 => ?_)
            obtain ⟨rfl, bv607, p608⟩ := r606
            refine g_if2_ge (fun c609 => ?_) (fun c609 => ?_)
            · refine g_iload_n rfl ?_
              exact g_iret ⟨_, rfl, hIH590, (JM_n hJH590), (e596.symm.trans ek0_2), m597⟩
            · refine g_iload_n rfl ?_
              refine g_aload_n rfl ?_
              refine g_gfr hIH590 sm_0 rfl ?_
              refine g_iload_n rfl ?_
              refine g_iaload hIH590 sm_20 rfl (by first | with_reducible assumption | omega) (fun v610 ev610 lv610 uv610 => ?_)
              refine g_iload_n rfl ?_
              refine g_if2_ne (fun c611 => ?_) (fun c611 => ?_)
              · refine g_iconst (by decide) (fun v612 kv612 => ?_)
                refine g_nop ?_
                refine g_iadd (by have := gz_any v602; omega) (fun v613 ev613 => ?_)
                refine g_istore_n (l' := [(0, .ref 0), (1, .int a1), (2, .int v613), (3, .int v603)]) rfl rfl ?_
                refine g_iinc (l' := (fun v614 => [(0, .ref 0), (1, .int a1), (2, .int v613), (3, .int v614)])) rfl rfl (by decide) (by first | with_reducible assumption | omega) (fun _ => rfl) (fun v614 ev614 => ?_)
                refine g_goto ?_
                exact ihL604 v613 v614 (by first | with_reducible assumption | omega) (by first | with_reducible assumption | omega)
              · refine g_iconst (by decide) (fun v615 kv615 => ?_)
                refine g_goto ?_
                refine g_iadd' (fun v616 ov616 => ?_)
                refine g_istore_n (l' := [(0, .ref 0), (1, .int a1), (2, .int v616), (3, .int v603)]) rfl rfl ?_
                refine g_iinc (l' := (fun v617 => [(0, .ref 0), (1, .int a1), (2, .int v616), (3, .int v617)])) rfl rfl (by decide) (by first | with_reducible assumption | omega) (fun _ => rfl) (fun v617 ev617 => ?_)
                refine g_goto ?_
                exact ihL604 v616 v617 (by first | with_reducible assumption | omega) (by first | with_reducible assumption | omega)
        exact L604 _ v600 v601 (by first | with_reducible assumption | omega) (Nat.lt_succ_self _)
      · refine g_aload_n rfl ?_
        refine g_invvi hIH590 sm_0 rfl rfl rfl rfl (s_224 H590 hIH590 (JM_n hJH590)) (fun v620 H618 r619 => ?_)
        obtain rfl := r619
        exact g_iret ⟨_, rfl, hIH590, (JM_n hJH590), (e596.symm.trans ek0_2), m597⟩
    · refine g_nop ?_
      refine g_bipush (by decide) (fun v621 kv621 => ?_)
      exact g_iret ⟨_, rfl, hIH582, hJH582, (e583.symm.trans ek0_2), m584⟩
set_option maxRecDepth 4000 in
set_option maxHeartbeats 4000000 in
/-- M.blames -/
theorem s_226 (a1 : Int32) (ha1 : 0 ≤ a1.toInt ∧ a1.toInt ≤ 1) (H : mzH) (hI : gI SM H) (hJ : JN H) : gCall 226 [.ref 0, .int a1] H (gRv (fun H' => gI SM H' ∧ JN H' ∧ fZ H' 0 2 = fZ H 0 2 ∧ kpM H H')) := by
  obtain ⟨k0_2, ek0_2⟩ : ∃ z, z = fZ H 0 2 := ⟨_, rfl⟩
  have ik0_2 : k0_2.toInt = (fZ H 0 2).toInt := by rw [← ek0_2]
  have bk0_2 : 0 ≤ k0_2.toInt ∧ k0_2.toInt ≤ 900 := by rw [ek0_2]; exact fZ_of hI sm_0 rfl
  have mkfr : kpM H H := kpM_r
  refine gG_call [(0, .ref 0), (1, .int a1)] ⟨rfl, rfl, trivial⟩ ?_
  show gG 5 zB_226 (mzBlk zB_226 0) [(0, .ref 0), (1, .int a1)] [] H 0 0 _
  refine g_aload_n rfl ?_
  refine g_iconst (by decide) (fun v1314 kv1314 => ?_)
  refine g_pfi hI sm_0 rfl (gz_any _) (fun H1315 eH1315 hIH1315 => ?_)
  have hJH1315 : JN H1315 := JN_sF eH1315 hJ
  have e1316 : k0_2 = fZ H1315 0 2 := by rw [eH1315, fZ_sF_ne (by decide)]; exact ek0_2
  have m1317 : kpM H H1315 := kpM_F mkfr eH1315 (by first | with_reducible assumption | omega)
  refine g_iconst (by decide) (fun v1318 kv1318 => ?_)
  refine g_istore_n (l' := [(0, .ref 0), (1, .int a1), (2, .int v1318)]) rfl rfl ?_
  refine g_nop ?_
  have L1323 : ∀ (N : Nat) (v1319 : Int32) (H1320 : mzH), gI SM H1320 → JN H1320 → k0_2 = fZ H1320 0 2 → kpM H H1320 → (0 ≤ v1319.toInt ∧ v1319.toInt ≤ 60) → (60 - v1319.toInt).toNat < N → gG 5 zB_226 (mzBlk zB_226 1) [(0, .ref 0), (1, .int a1), (2, .int v1319)] [] H1320 0 0 (gRv (fun H' => gI SM H' ∧ JN H' ∧ fZ H' 0 2 = fZ H 0 2 ∧ kpM H H')) := by
    intro N
    induction N with
    | zero => intro v1319 H1320 hIH1320 hJH1320 e1321 m1322 bv1319 hmL1323; exact absurd hmL1323 (Nat.not_lt_zero _)
    | succ N ihL1323 =>
      intro v1319 H1320 hIH1320 hJH1320 e1321 m1322 bv1319 hmL1323
      refine g_iload_n rfl ?_
      refine g_aload_n rfl ?_
      refine g_invvi hIH1320 sm_0 rfl rfl rfl rfl (s_180 H1320 hIH1320 hJH1320) (fun v1326 H1324 r1325 => ?_)
      obtain ⟨rfl, bv1326, p1327⟩ := r1325
      refine g_if2_ge (fun c1328 => ?_) (fun c1328 => ?_)
      · exact g_ret ⟨rfl, hIH1320, hJH1320, (e1321.symm.trans ek0_2), m1322⟩
      · refine g_iload_n rfl ?_
        refine g_iconst (by decide) (fun v1329 kv1329 => ?_)
        refine g_iadd (by first | with_reducible assumption | omega) (fun v1330 ev1330 => ?_)
        refine g_istore_n (l' := [(0, .ref 0), (1, .int a1), (2, .int v1319), (3, .int v1330)]) rfl rfl ?_
        refine g_nop ?_
        have L1335 : ∀ (N : Nat) (v1331 : Int32) (H1332 : mzH), gI SM H1332 → JN H1332 → k0_2 = fZ H1332 0 2 → kpM H H1332 → (1 ≤ v1331.toInt ∧ v1331.toInt ≤ 61) → (61 - v1331.toInt).toNat < N → gG 5 zB_226 (mzBlk zB_226 2) [(0, .ref 0), (1, .int a1), (2, .int v1319), (3, .int v1331)] [] H1332 0 0 (gRv (fun H' => gI SM H' ∧ JN H' ∧ fZ H' 0 2 = fZ H 0 2 ∧ kpM H H')) := by
          intro N
          induction N with
          | zero => intro v1331 H1332 hIH1332 hJH1332 e1333 m1334 bv1331 hmL1335; exact absurd hmL1335 (Nat.not_lt_zero _)
          | succ N ihL1335 =>
            intro v1331 H1332 hIH1332 hJH1332 e1333 m1334 bv1331 hmL1335
            refine g_iload_n rfl ?_
            refine g_iload_n rfl ?_
            refine g_if_eq (fun c1336 => ?_) (fun c1336 => ?_)
            · refine g_iload_n rfl ?_
              refine g_iconst (by decide) (fun v1337 kv1337 => ?_)
              refine g_iadd (by first | with_reducible assumption | omega) (fun v1338 ev1338 => ?_)
              refine g_nop ?_
              refine g_if2_ge (fun c1339 => ?_) (fun c1339 => ?_)
              · refine g_iinc (l' := (fun v1340 => [(0, .ref 0), (1, .int a1), (2, .int v1340), (3, .int v1331)])) rfl rfl (by decide) (by first | with_reducible assumption | omega) (fun _ => rfl) (fun v1340 ev1340 => ?_)
                refine g_goto ?_
                refine gG_pick [0, 1, 2] (l' := [(0, .ref 0), (1, .int a1), (2, .int v1340)]) rfl ?_
                exact ihL1323 v1340 H1332 hIH1332 hJH1332 e1333 m1334 (by first | with_reducible assumption | omega) (by first | with_reducible assumption | omega)
              · refine g_aload_n rfl ?_
                refine g_iload_n rfl ?_
                refine g_iload_n rfl ?_
                refine g_if_eq (fun c1341 => ?_) (fun c1341 => ?_)
                · refine g_iconst (by decide) (fun v1342 kv1342 => ?_)
                  refine g_nop ?_
                  refine g_invvv hIH1332 sm_0 rfl rfl rfl rfl (s_222 v1319 (by first | with_reducible assumption | omega) v1342 (by first | with_reducible assumption | omega) H1332 hIH1332 hJH1332) (fun H1343 r1344 => ?_)
                  obtain ⟨hIH1343, hJH1343, w1345, m1346⟩ := r1344
                  have e1347 : k0_2 = fZ H1343 0 2 := e1333.trans w1345.symm
                  have m1348 : kpM H H1343 := kpM_t m1334 m1346
                  refine g_aload_n rfl ?_
                  refine g_invvi hIH1343 sm_0 rfl rfl rfl rfl (s_224 H1343 hIH1343 (JM_n hJH1343)) (fun v1351 H1349 r1350 => ?_)
                  obtain rfl := r1350
                  refine g_istore (l' := [(0, .ref 0), (1, .int a1), (2, .int v1319), (3, .int v1331), (4, .int v1351)]) rfl rfl ?_
                  refine g_aload_n rfl ?_
                  refine g_gfi hIH1343 sm_0 rfl (fun v1352 ev1352 lv1352 uv1352 => ?_)
                  refine g_iconst (by decide) (fun v1353 kv1353 => ?_)
                  refine g_if2_eq (fun c1354 => ?_) (fun c1354 => ?_)
                  · refine g_aload_n rfl ?_
                    refine g_iload_n rfl ?_
                    refine g_pfi hIH1343 sm_0 rfl (gz_any _) (fun H1355 eH1355 hIH1355 => ?_)
                    have hJH1355 : JM H1355 := JM_sF eH1355 hJH1343
                    have e1356 : k0_2 = fZ H1355 0 2 := by rw [eH1355, fZ_sF_ne (by decide)]; exact e1347
                    have m1357 : kpM H H1355 := kpM_F m1348 eH1355 (by first | with_reducible assumption | omega)
                    refine g_aload_n rfl ?_
                    refine g_iload_n rfl ?_
                    refine g_pfi hIH1355 sm_0 rfl (gz_any _) (fun H1358 eH1358 hIH1358 => ?_)
                    have hJH1358 : JM H1358 := JM_sF eH1358 hJH1355
                    have e1359 : k0_2 = fZ H1358 0 2 := by rw [eH1358, fZ_sF_ne (by decide)]; exact e1356
                    have m1360 : kpM H H1358 := kpM_F m1357 eH1358 (by first | with_reducible assumption | omega)
                    refine g_aload_n rfl ?_
                    refine g_iload rfl ?_
                    refine g_pfi hIH1358 sm_0 rfl (gz_any _) (fun H1361 eH1361 hIH1361 => ?_)
                    have hJH1361 : JM H1361 := JM_sF eH1361 hJH1358
                    have e1362 : k0_2 = fZ H1361 0 2 := by rw [eH1361, fZ_sF_ne (by decide)]; exact e1359
                    have m1363 : kpM H H1361 := kpM_F m1360 eH1361 (by first | with_reducible assumption | omega)
                    refine g_nop ?_
                    refine g_iinc (l' := (fun v1364 => [(0, .ref 0), (1, .int a1), (2, .int v1319), (3, .int v1364), (4, .int v1351)])) rfl rfl (by decide) (by first | with_reducible assumption | omega) (fun _ => rfl) (fun v1364 ev1364 => ?_)
                    refine g_goto ?_
                    refine gG_pick [0, 1, 2, 3] (l' := [(0, .ref 0), (1, .int a1), (2, .int v1319), (3, .int v1364)]) rfl ?_
                    exact ihL1335 v1364 H1361 hIH1361 (JM_n hJH1361) e1362 m1363 (by first | with_reducible assumption | omega) (by first | with_reducible assumption | omega)
                  · refine g_iload rfl ?_
                    refine g_aload_n rfl ?_
                    refine g_gfi hIH1343 sm_0 rfl (fun v1365 ev1365 lv1365 uv1365 => ?_)
                    refine g_if2_lt (fun c1366 => ?_) (fun c1366 => ?_)
                    · refine g_aload_n rfl ?_
                      refine g_iload_n rfl ?_
                      refine g_pfi hIH1343 sm_0 rfl (gz_any _) (fun H1367 eH1367 hIH1367 => ?_)
                      have hJH1367 : JM H1367 := JM_sF eH1367 hJH1343
                      have e1368 : k0_2 = fZ H1367 0 2 := by rw [eH1367, fZ_sF_ne (by decide)]; exact e1347
                      have m1369 : kpM H H1367 := kpM_F m1348 eH1367 (by first | with_reducible assumption | omega)
                      refine g_aload_n rfl ?_
                      refine g_iload_n rfl ?_
                      refine g_pfi hIH1367 sm_0 rfl (gz_any _) (fun H1370 eH1370 hIH1370 => ?_)
                      have hJH1370 : JM H1370 := JM_sF eH1370 hJH1367
                      have e1371 : k0_2 = fZ H1370 0 2 := by rw [eH1370, fZ_sF_ne (by decide)]; exact e1368
                      have m1372 : kpM H H1370 := kpM_F m1369 eH1370 (by first | with_reducible assumption | omega)
                      refine g_aload_n rfl ?_
                      refine g_iload rfl ?_
                      refine g_pfi hIH1370 sm_0 rfl (gz_any _) (fun H1373 eH1373 hIH1373 => ?_)
                      have hJH1373 : JM H1373 := JM_sF eH1373 hJH1370
                      have e1374 : k0_2 = fZ H1373 0 2 := by rw [eH1373, fZ_sF_ne (by decide)]; exact e1371
                      have m1375 : kpM H H1373 := kpM_F m1372 eH1373 (by first | with_reducible assumption | omega)
                      refine g_nop ?_
                      refine g_iinc (l' := (fun v1376 => [(0, .ref 0), (1, .int a1), (2, .int v1319), (3, .int v1376), (4, .int v1351)])) rfl rfl (by decide) (by first | with_reducible assumption | omega) (fun _ => rfl) (fun v1376 ev1376 => ?_)
                      refine g_goto ?_
                      refine gG_pick [0, 1, 2, 3] (l' := [(0, .ref 0), (1, .int a1), (2, .int v1319), (3, .int v1376)]) rfl ?_
                      exact ihL1335 v1376 H1373 hIH1373 (JM_n hJH1373) e1374 m1375 (by first | with_reducible assumption | omega) (by first | with_reducible assumption | omega)
                    · refine g_goto ?_
                      refine g_iinc (l' := (fun v1377 => [(0, .ref 0), (1, .int a1), (2, .int v1319), (3, .int v1377), (4, .int v1351)])) rfl rfl (by decide) (by first | with_reducible assumption | omega) (fun _ => rfl) (fun v1377 ev1377 => ?_)
                      refine g_goto ?_
                      refine gG_pick [0, 1, 2, 3] (l' := [(0, .ref 0), (1, .int a1), (2, .int v1319), (3, .int v1377)]) rfl ?_
                      exact ihL1335 v1377 H1343 hIH1343 (JM_n hJH1343) e1347 m1348 (by first | with_reducible assumption | omega) (by first | with_reducible assumption | omega)
                · exfalso; omega
            · refine g_aload_n rfl ?_
              refine g_invvi hIH1332 sm_0 rfl rfl rfl rfl (s_180 H1332 hIH1332 hJH1332) (fun v1380 H1378 r1379 => ?_)
              obtain ⟨rfl, bv1380, p1381⟩ := r1379
              refine g_goto ?_
              refine g_if2_ge (fun c1382 => ?_) (fun c1382 => ?_)
              · refine g_iinc (l' := (fun v1383 => [(0, .ref 0), (1, .int a1), (2, .int v1383), (3, .int v1331)])) rfl rfl (by decide) (by first | with_reducible assumption | omega) (fun _ => rfl) (fun v1383 ev1383 => ?_)
                refine g_goto ?_
                refine gG_pick [0, 1, 2] (l' := [(0, .ref 0), (1, .int a1), (2, .int v1383)]) rfl ?_
                exact ihL1323 v1383 H1332 hIH1332 hJH1332 e1333 m1334 (by first | with_reducible assumption | omega) (by first | with_reducible assumption | omega)
              · refine g_aload_n rfl ?_
                refine g_iload_n rfl ?_
                refine g_iload_n rfl ?_
                refine g_if_eq (fun c1384 => ?_) (fun c1384 => ?_)
                · exfalso; omega
                · refine g_iload_n rfl ?_
                  refine g_goto ?_
                  refine g_invvv hIH1332 sm_0 rfl rfl rfl rfl (s_222 v1319 (by first | with_reducible assumption | omega) v1331 (by first | with_reducible assumption | omega) H1332 hIH1332 hJH1332) (fun H1385 r1386 => ?_)
                  obtain ⟨hIH1385, hJH1385, w1387, m1388⟩ := r1386
                  have e1389 : k0_2 = fZ H1385 0 2 := e1333.trans w1387.symm
                  have m1390 : kpM H H1385 := kpM_t m1334 m1388
                  refine g_aload_n rfl ?_
                  refine g_invvi hIH1385 sm_0 rfl rfl rfl rfl (s_224 H1385 hIH1385 (JM_n hJH1385)) (fun v1393 H1391 r1392 => ?_)
                  obtain rfl := r1392
                  refine g_istore (l' := [(0, .ref 0), (1, .int a1), (2, .int v1319), (3, .int v1331), (4, .int v1393)]) rfl rfl ?_
                  refine g_aload_n rfl ?_
                  refine g_gfi hIH1385 sm_0 rfl (fun v1394 ev1394 lv1394 uv1394 => ?_)
                  refine g_iconst (by decide) (fun v1395 kv1395 => ?_)
                  refine g_if2_eq (fun c1396 => ?_) (fun c1396 => ?_)
                  · refine g_aload_n rfl ?_
                    refine g_iload_n rfl ?_
                    refine g_pfi hIH1385 sm_0 rfl (gz_any _) (fun H1397 eH1397 hIH1397 => ?_)
                    have hJH1397 : JM H1397 := JM_sF eH1397 hJH1385
                    have e1398 : k0_2 = fZ H1397 0 2 := by rw [eH1397, fZ_sF_ne (by decide)]; exact e1389
                    have m1399 : kpM H H1397 := kpM_F m1390 eH1397 (by first | with_reducible assumption | omega)
                    refine g_aload_n rfl ?_
                    refine g_iload_n rfl ?_
                    refine g_pfi hIH1397 sm_0 rfl (gz_any _) (fun H1400 eH1400 hIH1400 => ?_)
                    have hJH1400 : JM H1400 := JM_sF eH1400 hJH1397
                    have e1401 : k0_2 = fZ H1400 0 2 := by rw [eH1400, fZ_sF_ne (by decide)]; exact e1398
                    have m1402 : kpM H H1400 := kpM_F m1399 eH1400 (by first | with_reducible assumption | omega)
                    refine g_aload_n rfl ?_
                    refine g_iload rfl ?_
                    refine g_pfi hIH1400 sm_0 rfl (gz_any _) (fun H1403 eH1403 hIH1403 => ?_)
                    have hJH1403 : JM H1403 := JM_sF eH1403 hJH1400
                    have e1404 : k0_2 = fZ H1403 0 2 := by rw [eH1403, fZ_sF_ne (by decide)]; exact e1401
                    have m1405 : kpM H H1403 := kpM_F m1402 eH1403 (by first | with_reducible assumption | omega)
                    refine g_nop ?_
                    refine g_iinc (l' := (fun v1406 => [(0, .ref 0), (1, .int a1), (2, .int v1319), (3, .int v1406), (4, .int v1393)])) rfl rfl (by decide) (by first | with_reducible assumption | omega) (fun _ => rfl) (fun v1406 ev1406 => ?_)
                    refine g_goto ?_
                    refine gG_pick [0, 1, 2, 3] (l' := [(0, .ref 0), (1, .int a1), (2, .int v1319), (3, .int v1406)]) rfl ?_
                    exact ihL1335 v1406 H1403 hIH1403 (JM_n hJH1403) e1404 m1405 (by first | with_reducible assumption | omega) (by first | with_reducible assumption | omega)
                  · refine g_iload rfl ?_
                    refine g_aload_n rfl ?_
                    refine g_gfi hIH1385 sm_0 rfl (fun v1407 ev1407 lv1407 uv1407 => ?_)
                    refine g_if2_lt (fun c1408 => ?_) (fun c1408 => ?_)
                    · refine g_aload_n rfl ?_
                      refine g_iload_n rfl ?_
                      refine g_pfi hIH1385 sm_0 rfl (gz_any _) (fun H1409 eH1409 hIH1409 => ?_)
                      have hJH1409 : JM H1409 := JM_sF eH1409 hJH1385
                      have e1410 : k0_2 = fZ H1409 0 2 := by rw [eH1409, fZ_sF_ne (by decide)]; exact e1389
                      have m1411 : kpM H H1409 := kpM_F m1390 eH1409 (by first | with_reducible assumption | omega)
                      refine g_aload_n rfl ?_
                      refine g_iload_n rfl ?_
                      refine g_pfi hIH1409 sm_0 rfl (gz_any _) (fun H1412 eH1412 hIH1412 => ?_)
                      have hJH1412 : JM H1412 := JM_sF eH1412 hJH1409
                      have e1413 : k0_2 = fZ H1412 0 2 := by rw [eH1412, fZ_sF_ne (by decide)]; exact e1410
                      have m1414 : kpM H H1412 := kpM_F m1411 eH1412 (by first | with_reducible assumption | omega)
                      refine g_aload_n rfl ?_
                      refine g_iload rfl ?_
                      refine g_pfi hIH1412 sm_0 rfl (gz_any _) (fun H1415 eH1415 hIH1415 => ?_)
                      have hJH1415 : JM H1415 := JM_sF eH1415 hJH1412
                      have e1416 : k0_2 = fZ H1415 0 2 := by rw [eH1415, fZ_sF_ne (by decide)]; exact e1413
                      have m1417 : kpM H H1415 := kpM_F m1414 eH1415 (by first | with_reducible assumption | omega)
                      refine g_nop ?_
                      refine g_iinc (l' := (fun v1418 => [(0, .ref 0), (1, .int a1), (2, .int v1319), (3, .int v1418), (4, .int v1393)])) rfl rfl (by decide) (by first | with_reducible assumption | omega) (fun _ => rfl) (fun v1418 ev1418 => ?_)
                      refine g_goto ?_
                      refine gG_pick [0, 1, 2, 3] (l' := [(0, .ref 0), (1, .int a1), (2, .int v1319), (3, .int v1418)]) rfl ?_
                      exact ihL1335 v1418 H1415 hIH1415 (JM_n hJH1415) e1416 m1417 (by first | with_reducible assumption | omega) (by first | with_reducible assumption | omega)
                    · refine g_goto ?_
                      refine g_iinc (l' := (fun v1419 => [(0, .ref 0), (1, .int a1), (2, .int v1319), (3, .int v1419), (4, .int v1393)])) rfl rfl (by decide) (by first | with_reducible assumption | omega) (fun _ => rfl) (fun v1419 ev1419 => ?_)
                      refine g_goto ?_
                      refine gG_pick [0, 1, 2, 3] (l' := [(0, .ref 0), (1, .int a1), (2, .int v1319), (3, .int v1419)]) rfl ?_
                      exact ihL1335 v1419 H1385 hIH1385 (JM_n hJH1385) e1389 m1390 (by first | with_reducible assumption | omega) (by first | with_reducible assumption | omega)
        exact L1335 _ v1330 H1320 hIH1320 hJH1320 e1321 m1322 (by first | with_reducible assumption | omega) (Nat.lt_succ_self _)
  exact L1323 _ v1318 H1315 hIH1315 hJH1315 e1316 m1317 (by first | with_reducible assumption | omega) (Nat.lt_succ_self _)
set_option maxRecDepth 4000 in
set_option maxHeartbeats 4000000 in
/-- M.blamed -/
theorem s_227 (a1 : Int32) (H : mzH) (hI : gI SM H) (hJ : JN H) : gCall 227 [.ref 0, .int a1] H (gRi (fun v H' => gI SM H' ∧ JN H' ∧ fZ H' 0 2 = fZ H 0 2 ∧ kpM H H')) := by
  obtain ⟨k0_2, ek0_2⟩ : ∃ z, z = fZ H 0 2 := ⟨_, rfl⟩
  have ik0_2 : k0_2.toInt = (fZ H 0 2).toInt := by rw [← ek0_2]
  have bk0_2 : 0 ≤ k0_2.toInt ∧ k0_2.toInt ≤ 900 := by rw [ek0_2]; exact fZ_of hI sm_0 rfl
  have mkfr : kpM H H := kpM_r
  refine gG_call [(0, .ref 0), (1, .int a1)] ⟨rfl, rfl, trivial⟩ ?_
  show gG 2 zB_227 (mzBlk zB_227 0) [(0, .ref 0), (1, .int a1)] [] H 0 0 _
  refine g_aload_n rfl ?_
  refine g_iconst (by decide) (fun v93 kv93 => ?_)
  refine g_pfi hI sm_0 rfl (gz_any _) (fun H94 eH94 hIH94 => ?_)
  have hJH94 : JN H94 := JN_sF eH94 hJ
  have e95 : k0_2 = fZ H94 0 2 := by rw [eH94, fZ_sF_ne (by decide)]; exact ek0_2
  have m96 : kpM H H94 := kpM_F mkfr eH94 (by first | with_reducible assumption | omega)
  refine g_iload_n rfl ?_
  refine g_if_lt (fun c97 => ?_) (fun c97 => ?_)
  · refine g_iconst (by decide) (fun v98 kv98 => ?_)
    exact g_iret ⟨_, rfl, hIH94, hJH94, (e95.symm.trans ek0_2), m96⟩
  · refine g_iload_n rfl ?_
    refine g_iconst (by decide) (fun v99 kv99 => ?_)
    refine g_if2_le (fun c100 => ?_) (fun c100 => ?_)
    · refine g_aload_n rfl ?_
      refine g_iconst (by decide) (fun v101 kv101 => ?_)
      refine g_invvv hIH94 sm_0 rfl rfl rfl rfl (s_226 v101 (by first | with_reducible assumption | omega) H94 hIH94 hJH94) (fun H102 r103 => ?_)
      obtain ⟨hIH102, hJH102, w104, m105⟩ := r103
      have e106 : k0_2 = fZ H102 0 2 := e95.trans w104.symm
      have m107 : kpM H H102 := kpM_t m96 m105
      refine g_aload_n rfl ?_
      refine g_gfi hIH102 sm_0 rfl (fun v108 ev108 lv108 uv108 => ?_)
      refine g_iconst (by decide) (fun v109 kv109 => ?_)
      refine g_if2_ne (fun c110 => ?_) (fun c110 => ?_)
      · refine g_iload_n rfl ?_
        refine g_if_ne (fun c111 => ?_) (fun c111 => ?_)
        · refine g_aload_n rfl ?_
          refine g_gfi hIH102 sm_0 rfl (fun v112 ev112 lv112 uv112 => ?_)
          refine g_nop ?_
          exact g_iret ⟨_, rfl, hIH102, hJH102, (e106.symm.trans ek0_2), m107⟩
        · refine g_aload_n rfl ?_
          refine g_gfi hIH102 sm_0 rfl (fun v113 ev113 lv113 uv113 => ?_)
          refine g_goto ?_
          exact g_iret ⟨_, rfl, hIH102, hJH102, (e106.symm.trans ek0_2), m107⟩
      · refine g_bipush (by decide) (fun v114 kv114 => ?_)
        refine g_goto ?_
        exact g_iret ⟨_, rfl, hIH102, hJH102, (e106.symm.trans ek0_2), m107⟩
    · refine g_nop ?_
      refine g_iconst (by decide) (fun v115 kv115 => ?_)
      exact g_iret ⟨_, rfl, hIH94, hJH94, (e95.symm.trans ek0_2), m96⟩
set_option maxRecDepth 4000 in
set_option maxHeartbeats 4000000 in
/-- M.twoBlamed -/
theorem s_228 (a1 : Int32) (H : mzH) (hI : gI SM H) (hJ : JN H) : gCall 228 [.ref 0, .int a1] H (gRi (fun v H' => gI SM H' ∧ JN H' ∧ fZ H' 0 2 = fZ H 0 2 ∧ kpM H H')) := by
  obtain ⟨k0_2, ek0_2⟩ : ∃ z, z = fZ H 0 2 := ⟨_, rfl⟩
  have ik0_2 : k0_2.toInt = (fZ H 0 2).toInt := by rw [← ek0_2]
  have bk0_2 : 0 ≤ k0_2.toInt ∧ k0_2.toInt ≤ 900 := by rw [ek0_2]; exact fZ_of hI sm_0 rfl
  have mkfr : kpM H H := kpM_r
  refine gG_call [(0, .ref 0), (1, .int a1)] ⟨rfl, rfl, trivial⟩ ?_
  show gG 2 zB_228 (mzBlk zB_228 0) [(0, .ref 0), (1, .int a1)] [] H 0 0 _
  refine g_aload_n rfl ?_
  refine g_iconst (by decide) (fun v105 kv105 => ?_)
  refine g_pfi hI sm_0 rfl (gz_any _) (fun H106 eH106 hIH106 => ?_)
  have hJH106 : JN H106 := JN_sF eH106 hJ
  have e107 : k0_2 = fZ H106 0 2 := by rw [eH106, fZ_sF_ne (by decide)]; exact ek0_2
  have m108 : kpM H H106 := kpM_F mkfr eH106 (by first | with_reducible assumption | omega)
  refine g_iload_n rfl ?_
  refine g_if_lt (fun c109 => ?_) (fun c109 => ?_)
  · refine g_iconst (by decide) (fun v110 kv110 => ?_)
    exact g_iret ⟨_, rfl, hIH106, hJH106, (e107.symm.trans ek0_2), m108⟩
  · refine g_iload_n rfl ?_
    refine g_iconst (by decide) (fun v111 kv111 => ?_)
    refine g_if2_le (fun c112 => ?_) (fun c112 => ?_)
    · refine g_aload_n rfl ?_
      refine g_iconst (by decide) (fun v113 kv113 => ?_)
      refine g_invvv hIH106 sm_0 rfl rfl rfl rfl (s_226 v113 (by first | with_reducible assumption | omega) H106 hIH106 hJH106) (fun H114 r115 => ?_)
      obtain ⟨hIH114, hJH114, w116, m117⟩ := r115
      have e118 : k0_2 = fZ H114 0 2 := e107.trans w116.symm
      have m119 : kpM H H114 := kpM_t m108 m117
      refine g_aload_n rfl ?_
      refine g_gfi hIH114 sm_0 rfl (fun v120 ev120 lv120 uv120 => ?_)
      refine g_iconst (by decide) (fun v121 kv121 => ?_)
      refine g_if2_ne (fun c122 => ?_) (fun c122 => ?_)
      · refine g_iload_n rfl ?_
        refine g_if_ne (fun c123 => ?_) (fun c123 => ?_)
        · refine g_iload_n rfl ?_
          refine g_iconst (by decide) (fun v124 kv124 => ?_)
          refine g_if2_ne (fun c125 => ?_) (fun c125 => ?_)
          · refine g_aload_n rfl ?_
            refine g_gfi hIH114 sm_0 rfl (fun v126 ev126 lv126 uv126 => ?_)
            refine g_nop ?_
            exact g_iret ⟨_, rfl, hIH114, hJH114, (e118.symm.trans ek0_2), m119⟩
          · refine g_aload_n rfl ?_
            refine g_gfi hIH114 sm_0 rfl (fun v127 ev127 lv127 uv127 => ?_)
            refine g_goto ?_
            exact g_iret ⟨_, rfl, hIH114, hJH114, (e118.symm.trans ek0_2), m119⟩
        · refine g_aload_n rfl ?_
          refine g_gfi hIH114 sm_0 rfl (fun v128 ev128 lv128 uv128 => ?_)
          refine g_goto ?_
          exact g_iret ⟨_, rfl, hIH114, hJH114, (e118.symm.trans ek0_2), m119⟩
      · refine g_bipush (by decide) (fun v129 kv129 => ?_)
        refine g_goto ?_
        exact g_iret ⟨_, rfl, hIH114, hJH114, (e118.symm.trans ek0_2), m119⟩
    · refine g_nop ?_
      refine g_iconst (by decide) (fun v130 kv130 => ?_)
      exact g_iret ⟨_, rfl, hIH106, hJH106, (e107.symm.trans ek0_2), m108⟩
set_option maxRecDepth 4000 in
set_option maxHeartbeats 4000000 in
/-- M.isRefused -/
theorem s_229 (a1 : Int32) (ha1 : 0 ≤ a1.toInt ∧ a1.toInt ≤ 59) (H : mzH) (hI : gI SM H) (hJ : JN H) : gCall 229 [.ref 0, .int a1] H (gRi (fun v H' => gI SM H' ∧ JN H' ∧ (0 ≤ v.toInt ∧ v.toInt ≤ 1) ∧ fZ H' 0 2 = fZ H 0 2 ∧ kpM H H')) := by
  obtain ⟨k0_2, ek0_2⟩ : ∃ z, z = fZ H 0 2 := ⟨_, rfl⟩
  have ik0_2 : k0_2.toInt = (fZ H 0 2).toInt := by rw [← ek0_2]
  have bk0_2 : 0 ≤ k0_2.toInt ∧ k0_2.toInt ≤ 900 := by rw [ek0_2]; exact fZ_of hI sm_0 rfl
  have mkfr : kpM H H := kpM_r
  refine gG_call [(0, .ref 0), (1, .int a1)] ⟨rfl, rfl, trivial⟩ ?_
  show gG 2 zB_229 (mzBlk zB_229 0) [(0, .ref 0), (1, .int a1)] [] H 0 0 _
  refine g_aload_n rfl ?_
  refine g_invvv hI sm_0 rfl rfl rfl rfl (s_199 H hI hJ) (fun H49 r50 => ?_)
  obtain ⟨hIH49, hJH49, w51, m52, m53, p54⟩ := r50
  have e55 : k0_2 = fZ H49 0 2 := ek0_2.trans w51.symm
  have m56 : kpM H H49 := kpM_t mkfr m53
  refine g_aload_n rfl ?_
  refine g_gfr hIH49 sm_0 rfl ?_
  refine g_iload_n rfl ?_
  refine g_iaload hIH49 sm_20 rfl (by first | with_reducible assumption | omega) (fun v57 ev57 lv57 uv57 => ?_)
  refine g_if_eq (fun c58 => ?_) (fun c58 => ?_)
  · refine g_iconst (by decide) (fun v59 kv59 => ?_)
    refine g_nop ?_
    exact g_zret (by first | with_reducible assumption | omega) ⟨_, rfl, hIH49, (JM_n hJH49), (by first | with_reducible assumption | omega), (e55.symm.trans ek0_2), m56⟩
  · refine g_iconst (by decide) (fun v60 kv60 => ?_)
    refine g_goto ?_
    exact g_zret (by first | with_reducible assumption | omega) ⟨_, rfl, hIH49, (JM_n hJH49), (by first | with_reducible assumption | omega), (e55.symm.trans ek0_2), m56⟩
